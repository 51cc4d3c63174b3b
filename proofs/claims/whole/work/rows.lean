section
-- ===== PART A: goes FIRST, ahead of the names: the tables' words, and 'selects' of the private methods out of them =====
/-- a private method of a class that the tables say can be made, by its rows of tables_1 -/
def lw_okq (q : MethodName × Nat) : Prop := (q.1.cls ≠ "java/lang/invoke/MethodHandle" ∧ q.1.cls ≠ "java/lang/invoke/VarHandle") ∧ Cond.instantiable q.1.cls q.2 ∈ tables_1 ∧ Cond.privateMethod q.1 ∈ tables_1 ∧ Cond.instanceMethod q.1 ∈ tables_1
theorem lw_p0 : lw_okq (⟨"CosetTable", "startTable", "()V"⟩, 7) := ⟨⟨by decide +kernel, by decide +kernel⟩, List.mem_of_getElem? (i := 12) (by decide +kernel), List.mem_of_getElem? (i := 151) (by decide +kernel), List.mem_of_getElem? (i := 152) (by decide +kernel)⟩
theorem lw_p1 : lw_okq (⟨"CosetTable$Cosets", "make", "()I"⟩, 11) := ⟨⟨by decide +kernel, by decide +kernel⟩, List.mem_of_getElem? (i := 60) (by decide +kernel), List.mem_of_getElem? (i := 159) (by decide +kernel), List.mem_of_getElem? (i := 160) (by decide +kernel)⟩
theorem lw_p2 : lw_okq (⟨"CosetTable", "isLetter", "(I)Z"⟩, 7) := ⟨⟨by decide +kernel, by decide +kernel⟩, List.mem_of_getElem? (i := 12) (by decide +kernel), List.mem_of_getElem? (i := 193) (by decide +kernel), List.mem_of_getElem? (i := 194) (by decide +kernel)⟩
theorem lw_p3 : lw_okq (⟨"CosetTable", "giveHandTo", "(LCosetTable$WordList;)I"⟩, 7) := ⟨⟨by decide +kernel, by decide +kernel⟩, List.mem_of_getElem? (i := 12) (by decide +kernel), List.mem_of_getElem? (i := 212) (by decide +kernel), List.mem_of_getElem? (i := 213) (by decide +kernel)⟩
theorem lw_p4 : lw_okq (⟨"CosetTable$Inference", "close", "(LCosetTable$Word;II)V"⟩, 3) := ⟨⟨by decide +kernel, by decide +kernel⟩, List.mem_of_getElem? (i := 105) (by decide +kernel), List.mem_of_getElem? (i := 247) (by decide +kernel), List.mem_of_getElem? (i := 248) (by decide +kernel)⟩
theorem lw_p5 : lw_okq (⟨"CosetTable$Cosets", "fall", "(II)V"⟩, 11) := ⟨⟨by decide +kernel, by decide +kernel⟩, List.mem_of_getElem? (i := 60) (by decide +kernel), List.mem_of_getElem? (i := 263) (by decide +kernel), List.mem_of_getElem? (i := 264) (by decide +kernel)⟩
theorem lw_p6 : lw_okq (⟨"CosetTable$Cosets", "handOver", "(I)V"⟩, 11) := ⟨⟨by decide +kernel, by decide +kernel⟩, List.mem_of_getElem? (i := 60) (by decide +kernel), List.mem_of_getElem? (i := 267) (by decide +kernel), List.mem_of_getElem? (i := 268) (by decide +kernel)⟩
theorem lw_p7 : lw_okq (⟨"CosetTable$Inference", "drawFromSubgroup", "()V"⟩, 3) := ⟨⟨by decide +kernel, by decide +kernel⟩, List.mem_of_getElem? (i := 105) (by decide +kernel), List.mem_of_getElem? (i := 277) (by decide +kernel), List.mem_of_getElem? (i := 278) (by decide +kernel)⟩
theorem lw_p8 : lw_okq (⟨"CosetTable$Inference", "drawThrough", "(IILCosetTable$Word;)V"⟩, 3) := ⟨⟨by decide +kernel, by decide +kernel⟩, List.mem_of_getElem? (i := 105) (by decide +kernel), List.mem_of_getElem? (i := 286) (by decide +kernel), List.mem_of_getElem? (i := 287) (by decide +kernel)⟩
theorem lw_p9 : lw_okq (⟨"CosetTable$Cosets", "isOpen", "(I)Z"⟩, 11) := ⟨⟨by decide +kernel, by decide +kernel⟩, List.mem_of_getElem? (i := 60) (by decide +kernel), List.mem_of_getElem? (i := 294) (by decide +kernel), List.mem_of_getElem? (i := 295) (by decide +kernel)⟩
theorem lw_p10 : lw_okq (⟨"CosetTable$Action", "giveNextNumber", "(I)V"⟩, 7) := ⟨⟨by decide +kernel, by decide +kernel⟩, List.mem_of_getElem? (i := 121) (by decide +kernel), List.mem_of_getElem? (i := 310) (by decide +kernel), List.mem_of_getElem? (i := 311) (by decide +kernel)⟩
theorem lw_p11 : lw_okq (⟨"CosetTable$Action", "forgetSeen", "()V"⟩, 7) := ⟨⟨by decide +kernel, by decide +kernel⟩, List.mem_of_getElem? (i := 121) (by decide +kernel), List.mem_of_getElem? (i := 365) (by decide +kernel), List.mem_of_getElem? (i := 366) (by decide +kernel)⟩
theorem lw_p12 : lw_okq (⟨"CosetTable$Action", "seeCycle", "(LCosetTable$Word;I)I"⟩, 7) := ⟨⟨by decide +kernel, by decide +kernel⟩, List.mem_of_getElem? (i := 121) (by decide +kernel), List.mem_of_getElem? (i := 369) (by decide +kernel), List.mem_of_getElem? (i := 370) (by decide +kernel)⟩
theorem lw_p13 : lw_okq (⟨"CosetTable$Action", "rests", "(I)Z"⟩, 7) := ⟨⟨by decide +kernel, by decide +kernel⟩, List.mem_of_getElem? (i := 121) (by decide +kernel), List.mem_of_getElem? (i := 395) (by decide +kernel), List.mem_of_getElem? (i := 396) (by decide +kernel)⟩
theorem lw_p14 : lw_okq (⟨"CosetTableModel", "fresh", "()V"⟩, 17) := ⟨⟨by decide +kernel, by decide +kernel⟩, List.mem_of_getElem? (i := 410) (by decide +kernel), List.mem_of_getElem? (i := 420) (by decide +kernel), List.mem_of_getElem? (i := 421) (by decide +kernel)⟩
theorem lw_p15 : lw_okq (⟨"CosetTableModel", "isLetter", "(I)Z"⟩, 17) := ⟨⟨by decide +kernel, by decide +kernel⟩, List.mem_of_getElem? (i := 410) (by decide +kernel), List.mem_of_getElem? (i := 481) (by decide +kernel), List.mem_of_getElem? (i := 482) (by decide +kernel)⟩
def lw_privs_1 : List (MethodName × Nat) := [(⟨"CosetTable", "startTable", "()V"⟩, 7), (⟨"CosetTable$Cosets", "make", "()I"⟩, 11), (⟨"CosetTable", "isLetter", "(I)Z"⟩, 7), (⟨"CosetTable", "giveHandTo", "(LCosetTable$WordList;)I"⟩, 7), (⟨"CosetTable$Inference", "close", "(LCosetTable$Word;II)V"⟩, 3), (⟨"CosetTable$Cosets", "fall", "(II)V"⟩, 11), (⟨"CosetTable$Cosets", "handOver", "(I)V"⟩, 11), (⟨"CosetTable$Inference", "drawFromSubgroup", "()V"⟩, 3), (⟨"CosetTable$Inference", "drawThrough", "(IILCosetTable$Word;)V"⟩, 3), (⟨"CosetTable$Cosets", "isOpen", "(I)Z"⟩, 11), (⟨"CosetTable$Action", "giveNextNumber", "(I)V"⟩, 7), (⟨"CosetTable$Action", "forgetSeen", "()V"⟩, 7), (⟨"CosetTable$Action", "seeCycle", "(LCosetTable$Word;I)I"⟩, 7), (⟨"CosetTable$Action", "rests", "(I)Z"⟩, 7), (⟨"CosetTableModel", "fresh", "()V"⟩, 17), (⟨"CosetTableModel", "isLetter", "(I)Z"⟩, 17)]
theorem lw_r1 : ∀ q ∈ lw_privs_1, lw_okq q := List.forall_mem_cons.mpr ⟨lw_p0, List.forall_mem_cons.mpr ⟨lw_p1, List.forall_mem_cons.mpr ⟨lw_p2, List.forall_mem_cons.mpr ⟨lw_p3, List.forall_mem_cons.mpr ⟨lw_p4, List.forall_mem_cons.mpr ⟨lw_p5, List.forall_mem_cons.mpr ⟨lw_p6, List.forall_mem_cons.mpr ⟨lw_p7, List.forall_mem_cons.mpr ⟨lw_p8, List.forall_mem_cons.mpr ⟨lw_p9, List.forall_mem_cons.mpr ⟨lw_p10, List.forall_mem_cons.mpr ⟨lw_p11, List.forall_mem_cons.mpr ⟨lw_p12, List.forall_mem_cons.mpr ⟨lw_p13, List.forall_mem_cons.mpr ⟨lw_p14, List.forall_mem_cons.mpr ⟨lw_p15, fun _ h => absurd h List.not_mem_nil⟩⟩⟩⟩⟩⟩⟩⟩⟩⟩⟩⟩⟩⟩⟩⟩
theorem lw_p16 : lw_okq (⟨"CosetTableModel", "become", "(I)V"⟩, 17) := ⟨⟨by decide +kernel, by decide +kernel⟩, List.mem_of_getElem? (i := 410) (by decide +kernel), List.mem_of_getElem? (i := 496) (by decide +kernel), List.mem_of_getElem? (i := 497) (by decide +kernel)⟩
theorem lw_p17 : lw_okq (⟨"CosetTableModel", "follow", "()V"⟩, 17) := ⟨⟨by decide +kernel, by decide +kernel⟩, List.mem_of_getElem? (i := 410) (by decide +kernel), List.mem_of_getElem? (i := 508) (by decide +kernel), List.mem_of_getElem? (i := 509) (by decide +kernel)⟩
theorem lw_p18 : lw_okq (⟨"CosetTableModel", "attempt", "(II)V"⟩, 17) := ⟨⟨by decide +kernel, by decide +kernel⟩, List.mem_of_getElem? (i := 410) (by decide +kernel), List.mem_of_getElem? (i := 512) (by decide +kernel), List.mem_of_getElem? (i := 513) (by decide +kernel)⟩
theorem lw_p19 : lw_okq (⟨"CosetTableModel", "pair", "(II)V"⟩, 17) := ⟨⟨by decide +kernel, by decide +kernel⟩, List.mem_of_getElem? (i := 410) (by decide +kernel), List.mem_of_getElem? (i := 516) (by decide +kernel), List.mem_of_getElem? (i := 517) (by decide +kernel)⟩
theorem lw_p20 : lw_okq (⟨"CosetTableModel", "join", "()V"⟩, 17) := ⟨⟨by decide +kernel, by decide +kernel⟩, List.mem_of_getElem? (i := 410) (by decide +kernel), List.mem_of_getElem? (i := 520) (by decide +kernel), List.mem_of_getElem? (i := 521) (by decide +kernel)⟩
theorem lw_p21 : lw_okq (⟨"CosetTableModel", "real", "(I)I"⟩, 17) := ⟨⟨by decide +kernel, by decide +kernel⟩, List.mem_of_getElem? (i := 410) (by decide +kernel), List.mem_of_getElem? (i := 524) (by decide +kernel), List.mem_of_getElem? (i := 525) (by decide +kernel)⟩
theorem lw_p22 : lw_okq (⟨"CosetTableModel", "learn", "(III)V"⟩, 17) := ⟨⟨by decide +kernel, by decide +kernel⟩, List.mem_of_getElem? (i := 410) (by decide +kernel), List.mem_of_getElem? (i := 528) (by decide +kernel), List.mem_of_getElem? (i := 529) (by decide +kernel)⟩
theorem lw_p23 : lw_okq (⟨"CosetTableModel", "open", "()I"⟩, 17) := ⟨⟨by decide +kernel, by decide +kernel⟩, List.mem_of_getElem? (i := 410) (by decide +kernel), List.mem_of_getElem? (i := 532) (by decide +kernel), List.mem_of_getElem? (i := 533) (by decide +kernel)⟩
theorem lw_p24 : lw_okq (⟨"CosetTableModel", "cosets", "()I"⟩, 17) := ⟨⟨by decide +kernel, by decide +kernel⟩, List.mem_of_getElem? (i := 410) (by decide +kernel), List.mem_of_getElem? (i := 540) (by decide +kernel), List.mem_of_getElem? (i := 541) (by decide +kernel)⟩
theorem lw_p25 : lw_okq (⟨"CosetTableModel", "unknown", "()I"⟩, 17) := ⟨⟨by decide +kernel, by decide +kernel⟩, List.mem_of_getElem? (i := 410) (by decide +kernel), List.mem_of_getElem? (i := 544) (by decide +kernel), List.mem_of_getElem? (i := 545) (by decide +kernel)⟩
theorem lw_p26 : lw_okq (⟨"CosetTableModel", "isComplete", "()Z"⟩, 17) := ⟨⟨by decide +kernel, by decide +kernel⟩, List.mem_of_getElem? (i := 410) (by decide +kernel), List.mem_of_getElem? (i := 548) (by decide +kernel), List.mem_of_getElem? (i := 549) (by decide +kernel)⟩
theorem lw_p27 : lw_okq (⟨"CosetTableModel", "isCoset", "(I)Z"⟩, 17) := ⟨⟨by decide +kernel, by decide +kernel⟩, List.mem_of_getElem? (i := 410) (by decide +kernel), List.mem_of_getElem? (i := 556) (by decide +kernel), List.mem_of_getElem? (i := 557) (by decide +kernel)⟩
theorem lw_p28 : lw_okq (⟨"CosetTableModel", "numberAll", "()Z"⟩, 17) := ⟨⟨by decide +kernel, by decide +kernel⟩, List.mem_of_getElem? (i := 410) (by decide +kernel), List.mem_of_getElem? (i := 564) (by decide +kernel), List.mem_of_getElem? (i := 565) (by decide +kernel)⟩
theorem lw_p29 : lw_okq (⟨"CosetTableModel", "isNumber", "(I)Z"⟩, 17) := ⟨⟨by decide +kernel, by decide +kernel⟩, List.mem_of_getElem? (i := 410) (by decide +kernel), List.mem_of_getElem? (i := 572) (by decide +kernel), List.mem_of_getElem? (i := 573) (by decide +kernel)⟩
theorem lw_p30 : lw_okq (⟨"CosetTableModel", "moved", "(II)I"⟩, 17) := ⟨⟨by decide +kernel, by decide +kernel⟩, List.mem_of_getElem? (i := 410) (by decide +kernel), List.mem_of_getElem? (i := 580) (by decide +kernel), List.mem_of_getElem? (i := 581) (by decide +kernel)⟩
theorem lw_p31 : lw_okq (⟨"CosetTableModel", "cycle", "(I)I"⟩, 17) := ⟨⟨by decide +kernel, by decide +kernel⟩, List.mem_of_getElem? (i := 410) (by decide +kernel), List.mem_of_getElem? (i := 588) (by decide +kernel), List.mem_of_getElem? (i := 589) (by decide +kernel)⟩
def lw_privs_2 : List (MethodName × Nat) := [(⟨"CosetTableModel", "become", "(I)V"⟩, 17), (⟨"CosetTableModel", "follow", "()V"⟩, 17), (⟨"CosetTableModel", "attempt", "(II)V"⟩, 17), (⟨"CosetTableModel", "pair", "(II)V"⟩, 17), (⟨"CosetTableModel", "join", "()V"⟩, 17), (⟨"CosetTableModel", "real", "(I)I"⟩, 17), (⟨"CosetTableModel", "learn", "(III)V"⟩, 17), (⟨"CosetTableModel", "open", "()I"⟩, 17), (⟨"CosetTableModel", "cosets", "()I"⟩, 17), (⟨"CosetTableModel", "unknown", "()I"⟩, 17), (⟨"CosetTableModel", "isComplete", "()Z"⟩, 17), (⟨"CosetTableModel", "isCoset", "(I)Z"⟩, 17), (⟨"CosetTableModel", "numberAll", "()Z"⟩, 17), (⟨"CosetTableModel", "isNumber", "(I)Z"⟩, 17), (⟨"CosetTableModel", "moved", "(II)I"⟩, 17), (⟨"CosetTableModel", "cycle", "(I)I"⟩, 17)]
theorem lw_r2 : ∀ q ∈ lw_privs_2, lw_okq q := List.forall_mem_cons.mpr ⟨lw_p16, List.forall_mem_cons.mpr ⟨lw_p17, List.forall_mem_cons.mpr ⟨lw_p18, List.forall_mem_cons.mpr ⟨lw_p19, List.forall_mem_cons.mpr ⟨lw_p20, List.forall_mem_cons.mpr ⟨lw_p21, List.forall_mem_cons.mpr ⟨lw_p22, List.forall_mem_cons.mpr ⟨lw_p23, List.forall_mem_cons.mpr ⟨lw_p24, List.forall_mem_cons.mpr ⟨lw_p25, List.forall_mem_cons.mpr ⟨lw_p26, List.forall_mem_cons.mpr ⟨lw_p27, List.forall_mem_cons.mpr ⟨lw_p28, List.forall_mem_cons.mpr ⟨lw_p29, List.forall_mem_cons.mpr ⟨lw_p30, List.forall_mem_cons.mpr ⟨lw_p31, fun _ h => absurd h List.not_mem_nil⟩⟩⟩⟩⟩⟩⟩⟩⟩⟩⟩⟩⟩⟩⟩⟩
def lw_privs : List (MethodName × Nat) := lw_privs_1 ++ (lw_privs_2)
def lw_tbl : List Cond := k2_sels lw_privs ++ tables_1
theorem lw_privs_ok : ∀ q ∈ lw_privs, lw_okq q := by
  show ∀ q ∈ lw_privs_1 ++ (lw_privs_2), lw_okq q
  exact List.forall_mem_append.mpr ⟨lw_r1, lw_r2⟩
end
section
/-! ===== BEGIN words of one list among another's, by their places ===== -/
theorem goodIn_r {big : List Cond} (ws : List Cond) (ps : List Nat) (hp : ws = ps.filterMap (fun i => big[i]?)) (h : ws.all goodWord = true) : GoodIn big ws := by
  intro w hw
  have h1 := List.all_eq_true.mp h w hw
  rw [hp] at hw
  obtain ⟨i, -, hi⟩ := List.mem_filterMap.mp hw
  have hm : w ∈ big := by first | exact List.mem_of_getElem? hi | exact List.getElem?_mem hi
  exact ⟨hm, good_of_word h1⟩
theorem goodIn_app {big a b : List Cond} (ha : GoodIn big a) (hb : GoodIn big b) : GoodIn big (a ++ b) := fun w h => (List.mem_append.mp h).elim (ha w) (hb w)
theorem goodIn_ca {big a b : List Cond} {c : Cond} (ha : GoodIn big (c :: a)) (hb : GoodIn big b) : GoodIn big (c :: (a ++ b)) := fun w h => (List.mem_cons.mp h).elim (fun e => ha w (List.mem_cons.mpr (Or.inl e))) (fun h => (List.mem_append.mp h).elim (fun h => ha w (List.mem_cons.mpr (Or.inr h))) (hb w))
theorem goodIn_sub {big ws : List Cond} (hm : ∀ w ∈ ws, w ∈ big) (h : ws.all goodWord = true) : GoodIn big ws := fun w hw => ⟨hm w hw, good_of_word (List.all_eq_true.mp h w hw)⟩
/-! ===== END ===== -/

/-! ===== BEGIN printed: names, fields, word lists, decode rows ===== -/
def RX0 : String := "CosetTable$Action"
def TX0 : u_T := fun k => match k with
  | 0 => ("CosetTable$Action", "cosets", "LCosetTable$Cosets;", true)
  | 1 => ("CosetTable$Action", "subgroupWords", "LCosetTable$WordList;", true)
  | 2 => ("CosetTable$Action", "numbers", "[I", true)
  | 3 => ("CosetTable$Action", "names", "[I", true)
  | 4 => ("CosetTable$Action", "seen", "[Z", true)
  | 5 => ("CosetTable$Action", "reached", "[I", true)
  | _ => ("CosetTable$Action", "size", "I", false)
def tyX0 : Nat → FieldType := fun k => match k with
  | 0 => .object "CosetTable$Cosets"
  | 1 => .object "CosetTable$WordList"
  | 2 => .array .int
  | 3 => .array .int
  | 4 => .array .boolean
  | 5 => .array .int
  | _ => .int
abbrev wsX00 : List Cond := u_ws RX0 TX0 7
theorem nmX0 : ∀ a, a < 7 → ∀ b, b < 7 → a ≠ b → (TX0 a).2.1 ≠ (TX0 b).2.1 := by decide +kernel
theorem tyX0_ok : ∀ k, k < 7 → parseFieldDescriptor (TX0 k).2.2.1 = some (tyX0 k) := by decide +kernel
abbrev cX0_init : ByteArray := prog_2_method_1_code
def yX0_init : MethodName := ⟨RX0, "<init>", "(LCosetTable$Cosets;LCosetTable$WordList;)V"⟩
abbrev cX0_isReady : ByteArray := prog_2_method_2_code
def yX0_isReady : MethodName := ⟨RX0, "isReady", "()Z"⟩
abbrev cX0_hasNumber : ByteArray := prog_2_method_3_code
def yX0_hasNumber : MethodName := ⟨RX0, "hasNumber", "(I)Z"⟩
abbrev cX0_giveNumbers : ByteArray := prog_2_method_4_code
def yX0_giveNumbers : MethodName := ⟨RX0, "giveNumbers", "()V"⟩
abbrev cX0_giveNextNumber : ByteArray := prog_2_method_5_code
def yX0_giveNextNumber : MethodName := ⟨RX0, "giveNextNumber", "(I)V"⟩
abbrev cX0_letterImage : ByteArray := prog_2_method_6_code
def yX0_letterImage : MethodName := ⟨RX0, "letterImage", "(II)I"⟩
abbrev cX0_image : ByteArray := prog_2_method_7_code
def yX0_image : MethodName := ⟨RX0, "image", "(ILCosetTable$Word;)I"⟩
abbrev cX0_countCycles : ByteArray := prog_2_method_8_code
def yX0_countCycles : MethodName := ⟨RX0, "countCycles", "(LCosetTable$Word;Z)I"⟩
abbrev cX0_orderOf : ByteArray := prog_2_method_9_code
def yX0_orderOf : MethodName := ⟨RX0, "orderOf", "(LCosetTable$Word;)J"⟩
abbrev cX0_forgetSeen : ByteArray := prog_2_method_10_code
def yX0_forgetSeen : MethodName := ⟨RX0, "forgetSeen", "()V"⟩
abbrev cX0_seeCycle : ByteArray := prog_2_method_11_code
def yX0_seeCycle : MethodName := ⟨RX0, "seeCycle", "(LCosetTable$Word;I)I"⟩
abbrev cX0_countResting : ByteArray := prog_2_method_12_code
def yX0_countResting : MethodName := ⟨RX0, "countResting", "()I"⟩
abbrev cX0_rests : ByteArray := prog_2_method_13_code
def yX0_rests : MethodName := ⟨RX0, "rests", "(I)Z"⟩
abbrev cX0_lowestJoined : ByteArray := prog_2_method_14_code
def yX0_lowestJoined : MethodName := ⟨RX0, "lowestJoined", "(I)I"⟩
abbrev cX0_leastCommonMultiple : ByteArray := prog_2_method_15_code
def yX0_leastCommonMultiple : MethodName := ⟨RX0, "leastCommonMultiple", "(JJ)J"⟩
def RX1 : String := "CosetTable$Cosets"
def TX1 : u_T := fun k => match k with
  | 0 => ("CosetTable$Cosets", "entries", "[I", true)
  | 1 => ("CosetTable$Cosets", "leaders", "[I", true)
  | 2 => ("CosetTable$Cosets", "fallen", "[I", true)
  | 3 => ("CosetTable$Cosets", "fallenCount", "I", false)
  | 4 => ("CosetTable$Cosets", "fresh", "[I", true)
  | 5 => ("CosetTable$Cosets", "isFresh", "[Z", true)
  | 6 => ("CosetTable$Cosets", "freshCount", "I", false)
  | 7 => ("CosetTable$Cosets", "open", "I", false)
  | 8 => ("CosetTable$Cosets", "columns", "I", false)
  | 9 => ("CosetTable$Cosets", "made", "I", false)
  | _ => ("CosetTable$Cosets", "living", "I", false)
def tyX1 : Nat → FieldType := fun k => match k with
  | 0 => .array .int
  | 1 => .array .int
  | 2 => .array .int
  | 3 => .int
  | 4 => .array .int
  | 5 => .array .boolean
  | 6 => .int
  | 7 => .int
  | 8 => .int
  | 9 => .int
  | _ => .int
abbrev wsX10 : List Cond := u_ws RX1 TX1 11
theorem nmX1 : ∀ a, a < 11 → ∀ b, b < 11 → a ≠ b → (TX1 a).2.1 ≠ (TX1 b).2.1 := by decide +kernel
theorem tyX1_ok : ∀ k, k < 11 → parseFieldDescriptor (TX1 k).2.2.1 = some (tyX1 k) := by decide +kernel
abbrev cX1_init : ByteArray := prog_3_method_1_code
def yX1_init : MethodName := ⟨RX1, "<init>", "()V"⟩
abbrev cX1_start : ByteArray := prog_3_method_2_code
def yX1_start : MethodName := ⟨RX1, "start", "(I)V"⟩
abbrev cX1_make : ByteArray := prog_3_method_3_code
def yX1_make : MethodName := ⟨RX1, "make", "()I"⟩
abbrev cX1_findOpen : ByteArray := prog_3_method_4_code
def yX1_findOpen : MethodName := ⟨RX1, "findOpen", "()Z"⟩
abbrev cX1_isOpen : ByteArray := prog_3_method_5_code
def yX1_isOpen : MethodName := ⟨RX1, "isOpen", "(I)Z"⟩
abbrev cX1_makeNeighbour : ByteArray := prog_3_method_6_code
def yX1_makeNeighbour : MethodName := ⟨RX1, "makeNeighbour", "()I"⟩
abbrev cX1_lives : ByteArray := prog_3_method_7_code
def yX1_lives : MethodName := ⟨RX1, "lives", "(I)Z"⟩
abbrev cX1_at : ByteArray := prog_3_method_8_code
def yX1_at : MethodName := ⟨RX1, "at", "(II)I"⟩
abbrev cX1_countOpen : ByteArray := prog_3_method_9_code
def yX1_countOpen : MethodName := ⟨RX1, "countOpen", "()I"⟩
abbrev cX1_takeFresh : ByteArray := prog_3_method_10_code
def yX1_takeFresh : MethodName := ⟨RX1, "takeFresh", "()I"⟩
abbrev cX1_join : ByteArray := prog_3_method_11_code
def yX1_join : MethodName := ⟨RX1, "join", "(III)V"⟩
abbrev cX1_unite : ByteArray := prog_3_method_12_code
def yX1_unite : MethodName := ⟨RX1, "unite", "(II)V"⟩
abbrev cX1_fall : ByteArray := prog_3_method_13_code
def yX1_fall : MethodName := ⟨RX1, "fall", "(II)V"⟩
abbrev cX1_handOver : ByteArray := prog_3_method_14_code
def yX1_handOver : MethodName := ⟨RX1, "handOver", "(I)V"⟩
def RX2 : String := "CosetTable$Inference"
def TX2 : u_T := fun k => match k with
  | 0 => ("CosetTable$Inference", "cosets", "LCosetTable$Cosets;", true)
  | 1 => ("CosetTable$Inference", "relators", "LCosetTable$WordList;", true)
  | _ => ("CosetTable$Inference", "subgroupWords", "LCosetTable$WordList;", true)
def tyX2 : Nat → FieldType := fun k => match k with
  | 0 => .object "CosetTable$Cosets"
  | 1 => .object "CosetTable$WordList"
  | _ => .object "CosetTable$WordList"
abbrev wsX20 : List Cond := u_ws RX2 TX2 3
theorem nmX2 : ∀ a, a < 3 → ∀ b, b < 3 → a ≠ b → (TX2 a).2.1 ≠ (TX2 b).2.1 := by decide +kernel
theorem tyX2_ok : ∀ k, k < 3 → parseFieldDescriptor (TX2 k).2.2.1 = some (tyX2 k) := by decide +kernel
abbrev cX2_init : ByteArray := prog_4_method_1_code
def yX2_init : MethodName := ⟨RX2, "<init>", "(LCosetTable$Cosets;LCosetTable$WordList;LCosetTable$WordList;)V"⟩
abbrev cX2_drawFrom : ByteArray := prog_4_method_2_code
def yX2_drawFrom : MethodName := ⟨RX2, "drawFrom", "(I)V"⟩
abbrev cX2_drawFromSubgroup : ByteArray := prog_4_method_3_code
def yX2_drawFromSubgroup : MethodName := ⟨RX2, "drawFromSubgroup", "()V"⟩
abbrev cX2_drawThrough : ByteArray := prog_4_method_4_code
def yX2_drawThrough : MethodName := ⟨RX2, "drawThrough", "(IILCosetTable$Word;)V"⟩
abbrev cX2_close : ByteArray := prog_4_method_5_code
def yX2_close : MethodName := ⟨RX2, "close", "(LCosetTable$Word;II)V"⟩
def RX3 : String := "CosetTable$Word"
def TX3 : u_T := fun k => match k with
  | 0 => ("CosetTable$Word", "columns", "[I", true)
  | _ => ("CosetTable$Word", "length", "I", false)
def tyX3 : Nat → FieldType := fun k => match k with
  | 0 => .array .int
  | _ => .int
abbrev wsX30 : List Cond := u_ws RX3 TX3 2
theorem nmX3 : ∀ a, a < 2 → ∀ b, b < 2 → a ≠ b → (TX3 a).2.1 ≠ (TX3 b).2.1 := by decide +kernel
theorem tyX3_ok : ∀ k, k < 2 → parseFieldDescriptor (TX3 k).2.2.1 = some (tyX3 k) := by decide +kernel
abbrev cX3_init : ByteArray := prog_5_method_1_code
def yX3_init : MethodName := ⟨RX3, "<init>", "()V"⟩
abbrev cX3_append : ByteArray := prog_5_method_2_code
def yX3_append : MethodName := ⟨RX3, "append", "(I)V"⟩
abbrev cX3_copyFrom : ByteArray := prog_5_method_3_code
def yX3_copyFrom : MethodName := ⟨RX3, "copyFrom", "(LCosetTable$Word;)V"⟩
abbrev cX3_around : ByteArray := prog_5_method_4_code
def yX3_around : MethodName := ⟨RX3, "around", "(I)I"⟩
def RX4 : String := "CosetTable$WordList"
def TX4 : u_T := fun k => match k with
  | 0 => ("CosetTable$WordList", "words", "[LCosetTable$Word;", true)
  | _ => ("CosetTable$WordList", "size", "I", false)
def tyX4 : Nat → FieldType := fun k => match k with
  | 0 => .array (.object "CosetTable$Word")
  | _ => .int
abbrev wsX40 : List Cond := u_ws RX4 TX4 2
theorem nmX4 : ∀ a, a < 2 → ∀ b, b < 2 → a ≠ b → (TX4 a).2.1 ≠ (TX4 b).2.1 := by decide +kernel
theorem tyX4_ok : ∀ k, k < 2 → parseFieldDescriptor (TX4 k).2.2.1 = some (tyX4 k) := by decide +kernel
abbrev cX4_init : ByteArray := prog_6_method_1_code
def yX4_init : MethodName := ⟨RX4, "<init>", "(I)V"⟩
abbrev cX4_isFull : ByteArray := prog_6_method_2_code
def yX4_isFull : MethodName := ⟨RX4, "isFull", "()Z"⟩
abbrev cX4_add : ByteArray := prog_6_method_3_code
def yX4_add : MethodName := ⟨RX4, "add", "(LCosetTable$Word;)V"⟩
def RX5 : String := "CosetTable"
def TX5 : u_T := fun k => match k with
  | 0 => ("CosetTable", "hand", "LCosetTable$Word;", true)
  | 1 => ("CosetTable", "relators", "LCosetTable$WordList;", true)
  | 2 => ("CosetTable", "subgroupWords", "LCosetTable$WordList;", true)
  | 3 => ("CosetTable", "cosets", "LCosetTable$Cosets;", true)
  | 4 => ("CosetTable", "inference", "LCosetTable$Inference;", true)
  | 5 => ("CosetTable", "action", "LCosetTable$Action;", true)
  | _ => ("CosetTable", "generators", "I", false)
def tyX5 : Nat → FieldType := fun k => match k with
  | 0 => .object "CosetTable$Word"
  | 1 => .object "CosetTable$WordList"
  | 2 => .object "CosetTable$WordList"
  | 3 => .object "CosetTable$Cosets"
  | 4 => .object "CosetTable$Inference"
  | 5 => .object "CosetTable$Action"
  | _ => .int
abbrev wsX50 : List Cond := u_ws RX5 TX5 7
theorem nmX5 : ∀ a, a < 7 → ∀ b, b < 7 → a ≠ b → (TX5 a).2.1 ≠ (TX5 b).2.1 := by decide +kernel
theorem tyX5_ok : ∀ k, k < 7 → parseFieldDescriptor (TX5 k).2.2.1 = some (tyX5 k) := by decide +kernel
abbrev cX5_init : ByteArray := prog_1_method_1_code
def yX5_init : MethodName := ⟨RX5, "<init>", "()V"⟩
abbrev cX5_begin : ByteArray := prog_1_method_2_code
def yX5_begin : MethodName := ⟨RX5, "begin", "(I)I"⟩
abbrev cX5_letter : ByteArray := prog_1_method_3_code
def yX5_letter : MethodName := ⟨RX5, "letter", "(I)I"⟩
abbrev cX5_clear : ByteArray := prog_1_method_4_code
def yX5_clear : MethodName := ⟨RX5, "clear", "()I"⟩
abbrev cX5_relator : ByteArray := prog_1_method_5_code
def yX5_relator : MethodName := ⟨RX5, "relator", "()I"⟩
abbrev cX5_subgroup : ByteArray := prog_1_method_6_code
def yX5_subgroup : MethodName := ⟨RX5, "subgroup", "()I"⟩
abbrev cX5_run : ByteArray := prog_1_method_7_code
def yX5_run : MethodName := ⟨RX5, "run", "(I)I"⟩
abbrev cX5_count : ByteArray := prog_1_method_8_code
def yX5_count : MethodName := ⟨RX5, "count", "(I)I"⟩
abbrev cX5_known : ByteArray := prog_1_method_9_code
def yX5_known : MethodName := ⟨RX5, "known", "(II)I"⟩
abbrev cX5_number : ByteArray := prog_1_method_10_code
def yX5_number : MethodName := ⟨RX5, "number", "(I)I"⟩
abbrev cX5_entry : ByteArray := prog_1_method_11_code
def yX5_entry : MethodName := ⟨RX5, "entry", "(II)I"⟩
abbrev cX5_move : ByteArray := prog_1_method_12_code
def yX5_move : MethodName := ⟨RX5, "move", "(I)I"⟩
abbrev cX5_cycles : ByteArray := prog_1_method_13_code
def yX5_cycles : MethodName := ⟨RX5, "cycles", "(Z)I"⟩
abbrev cX5_order : ByteArray := prog_1_method_14_code
def yX5_order : MethodName := ⟨RX5, "order", "()J"⟩
abbrev cX5_resting : ByteArray := prog_1_method_15_code
def yX5_resting : MethodName := ⟨RX5, "resting", "()I"⟩
abbrev cX5_orbit : ByteArray := prog_1_method_16_code
def yX5_orbit : MethodName := ⟨RX5, "orbit", "(I)I"⟩
abbrev cX5_isLetter : ByteArray := prog_1_method_17_code
def yX5_isLetter : MethodName := ⟨RX5, "isLetter", "(I)Z"⟩
abbrev cX5_columnOf : ByteArray := prog_1_method_18_code
def yX5_columnOf : MethodName := ⟨RX5, "columnOf", "(I)I"⟩
abbrev cX5_startTable : ByteArray := prog_1_method_19_code
def yX5_startTable : MethodName := ⟨RX5, "startTable", "()V"⟩
abbrev cX5_giveHandTo : ByteArray := prog_1_method_20_code
def yX5_giveHandTo : MethodName := ⟨RX5, "giveHandTo", "(LCosetTable$WordList;)I"⟩
def RX6 : String := "CosetTableModel"
def TX6 : u_T := fun k => match k with
  | 0 => ("CosetTableModel", "n", "I", false)
  | 1 => ("CosetTableModel", "letters", "[I", true)
  | 2 => ("CosetTableModel", "sizes", "[I", true)
  | 3 => ("CosetTableModel", "relators", "I", false)
  | 4 => ("CosetTableModel", "subgroup", "I", false)
  | 5 => ("CosetTableModel", "made", "I", false)
  | 6 => ("CosetTableModel", "now", "[I", true)
  | 7 => ("CosetTableModel", "table", "[I", true)
  | 8 => ("CosetTableModel", "changed", "Z", false)
  | 9 => ("CosetTableModel", "pairs", "I", false)
  | 10 => ("CosetTableModel", "one", "[I", true)
  | 11 => ("CosetTableModel", "two", "[I", true)
  | 12 => ("CosetTableModel", "numbers", "[I", true)
  | 13 => ("CosetTableModel", "names", "[I", true)
  | 14 => ("CosetTableModel", "numbered", "I", false)
  | 15 => ("CosetTableModel", "seen", "[Z", true)
  | _ => ("CosetTableModel", "low", "[I", true)
def tyX6 : Nat → FieldType := fun k => match k with
  | 0 => .int
  | 1 => .array .int
  | 2 => .array .int
  | 3 => .int
  | 4 => .int
  | 5 => .int
  | 6 => .array .int
  | 7 => .array .int
  | 8 => .boolean
  | 9 => .int
  | 10 => .array .int
  | 11 => .array .int
  | 12 => .array .int
  | 13 => .array .int
  | 14 => .int
  | 15 => .array .boolean
  | _ => .array .int
abbrev wsX60 : List Cond := u_ws RX6 TX6 17
theorem nmX6 : ∀ a, a < 17 → ∀ b, b < 17 → a ≠ b → (TX6 a).2.1 ≠ (TX6 b).2.1 := by decide +kernel
theorem tyX6_ok : ∀ k, k < 17 → parseFieldDescriptor (TX6 k).2.2.1 = some (tyX6 k) := by decide +kernel
abbrev cX6_init : ByteArray := prog_8_method_1_code
def yX6_init : MethodName := ⟨RX6, "<init>", "()V"⟩
abbrev cX6_fresh : ByteArray := prog_8_method_2_code
def yX6_fresh : MethodName := ⟨RX6, "fresh", "()V"⟩
abbrev cX6_begin : ByteArray := prog_8_method_3_code
def yX6_begin : MethodName := ⟨RX6, "begin", "(I)I"⟩
abbrev cX6_isLetter : ByteArray := prog_8_method_4_code
def yX6_isLetter : MethodName := ⟨RX6, "isLetter", "(I)Z"⟩
abbrev cX6_column : ByteArray := prog_8_method_5_code
def yX6_column : MethodName := ⟨RX6, "column", "(I)I"⟩
abbrev cX6_letter : ByteArray := prog_8_method_6_code
def yX6_letter : MethodName := ⟨RX6, "letter", "(I)I"⟩
abbrev cX6_clear : ByteArray := prog_8_method_7_code
def yX6_clear : MethodName := ⟨RX6, "clear", "()I"⟩
abbrev cX6_become : ByteArray := prog_8_method_8_code
def yX6_become : MethodName := ⟨RX6, "become", "(I)V"⟩
abbrev cX6_relator : ByteArray := prog_8_method_9_code
def yX6_relator : MethodName := ⟨RX6, "relator", "()I"⟩
abbrev cX6_subgroup : ByteArray := prog_8_method_10_code
def yX6_subgroup : MethodName := ⟨RX6, "subgroup", "()I"⟩
abbrev cX6_real : ByteArray := prog_8_method_11_code
def yX6_real : MethodName := ⟨RX6, "real", "(I)I"⟩
abbrev cX6_pair : ByteArray := prog_8_method_12_code
def yX6_pair : MethodName := ⟨RX6, "pair", "(II)V"⟩
abbrev cX6_learn : ByteArray := prog_8_method_13_code
def yX6_learn : MethodName := ⟨RX6, "learn", "(III)V"⟩
abbrev cX6_join : ByteArray := prog_8_method_14_code
def yX6_join : MethodName := ⟨RX6, "join", "()V"⟩
abbrev cX6_attempt : ByteArray := prog_8_method_15_code
def yX6_attempt : MethodName := ⟨RX6, "attempt", "(II)V"⟩
abbrev cX6_follow : ByteArray := prog_8_method_16_code
def yX6_follow : MethodName := ⟨RX6, "follow", "()V"⟩
abbrev cX6_open : ByteArray := prog_8_method_17_code
def yX6_open : MethodName := ⟨RX6, "open", "()I"⟩
abbrev cX6_run : ByteArray := prog_8_method_18_code
def yX6_run : MethodName := ⟨RX6, "run", "(I)I"⟩
abbrev cX6_cosets : ByteArray := prog_8_method_19_code
def yX6_cosets : MethodName := ⟨RX6, "cosets", "()I"⟩
abbrev cX6_unknown : ByteArray := prog_8_method_20_code
def yX6_unknown : MethodName := ⟨RX6, "unknown", "()I"⟩
abbrev cX6_isComplete : ByteArray := prog_8_method_21_code
def yX6_isComplete : MethodName := ⟨RX6, "isComplete", "()Z"⟩
abbrev cX6_count : ByteArray := prog_8_method_22_code
def yX6_count : MethodName := ⟨RX6, "count", "(I)I"⟩
abbrev cX6_isCoset : ByteArray := prog_8_method_23_code
def yX6_isCoset : MethodName := ⟨RX6, "isCoset", "(I)Z"⟩
abbrev cX6_known : ByteArray := prog_8_method_24_code
def yX6_known : MethodName := ⟨RX6, "known", "(II)I"⟩
abbrev cX6_numberAll : ByteArray := prog_8_method_25_code
def yX6_numberAll : MethodName := ⟨RX6, "numberAll", "()Z"⟩
abbrev cX6_isNumber : ByteArray := prog_8_method_26_code
def yX6_isNumber : MethodName := ⟨RX6, "isNumber", "(I)Z"⟩
abbrev cX6_moved : ByteArray := prog_8_method_27_code
def yX6_moved : MethodName := ⟨RX6, "moved", "(II)I"⟩
abbrev cX6_number : ByteArray := prog_8_method_28_code
def yX6_number : MethodName := ⟨RX6, "number", "(I)I"⟩
abbrev cX6_entry : ByteArray := prog_8_method_29_code
def yX6_entry : MethodName := ⟨RX6, "entry", "(II)I"⟩
abbrev cX6_move : ByteArray := prog_8_method_30_code
def yX6_move : MethodName := ⟨RX6, "move", "(I)I"⟩
abbrev cX6_cycle : ByteArray := prog_8_method_31_code
def yX6_cycle : MethodName := ⟨RX6, "cycle", "(I)I"⟩
abbrev cX6_cycles : ByteArray := prog_8_method_32_code
def yX6_cycles : MethodName := ⟨RX6, "cycles", "(Z)I"⟩
abbrev cX6_order : ByteArray := prog_8_method_33_code
def yX6_order : MethodName := ⟨RX6, "order", "()J"⟩
abbrev cX6_resting : ByteArray := prog_8_method_34_code
def yX6_resting : MethodName := ⟨RX6, "resting", "()I"⟩
abbrev cX6_orbit : ByteArray := prog_8_method_35_code
def yX6_orbit : MethodName := ⟨RX6, "orbit", "(I)I"⟩
def RJ9 : String := "java/lang/Math"
def TJ9 : u_T := fun k => match k with
  | _ => ("", "", "", false)
def tyJ9 : Nat → FieldType := fun k => match k with
  | _ => .int
abbrev wsJ90 : List Cond := u_ws RJ9 TJ9 0
theorem nmJ9 : ∀ a, a < 0 → ∀ b, b < 0 → a ≠ b → (TJ9 a).2.1 ≠ (TJ9 b).2.1 := by decide +kernel
theorem tyJ9_ok : ∀ k, k < 0 → parseFieldDescriptor (TJ9 k).2.2.1 = some (tyJ9 k) := by decide +kernel
abbrev cJ9_min_7cf53 : ByteArray := prog_9_method_69_code
def yJ9_min_7cf53 : MethodName := ⟨RJ9, "min", "(II)I"⟩
def RJ10 : String := "java/lang/System"
def TJ10 : u_T := fun k => match k with
  | _ => ("", "", "", false)
def tyJ10 : Nat → FieldType := fun k => match k with
  | _ => .int
abbrev wsJ100 : List Cond := u_ws RJ10 TJ10 0
theorem nmJ10 : ∀ a, a < 0 → ∀ b, b < 0 → a ≠ b → (TJ10 a).2.1 ≠ (TJ10 b).2.1 := by decide +kernel
theorem tyJ10_ok : ∀ k, k < 0 → parseFieldDescriptor (TJ10 k).2.2.1 = some (tyJ10 k) := by decide +kernel
def RJ7 : String := "java/util/Arrays"
def TJ7 : u_T := fun k => match k with
  | _ => ("", "", "", false)
def tyJ7 : Nat → FieldType := fun k => match k with
  | _ => .int
abbrev wsJ70 : List Cond := u_ws RJ7 TJ7 0
theorem nmJ7 : ∀ a, a < 0 → ∀ b, b < 0 → a ≠ b → (TJ7 a).2.1 ≠ (TJ7 b).2.1 := by decide +kernel
theorem tyJ7_ok : ∀ k, k < 0 → parseFieldDescriptor (TJ7 k).2.2.1 = some (tyJ7 k) := by decide +kernel
abbrev cJ7_fill_53178 : ByteArray := prog_11_method_103_code
def yJ7_fill_53178 : MethodName := ⟨RJ7, "fill", "([II)V"⟩
def RL : String := "CosetTableLaw"
abbrev cL_law : ByteArray := code
def yL_law : MethodName := ⟨RL, "law", "([I)Z"⟩
def wsX0_init : List Cond := .code yX0_init cX0_init 3 none :: ([.methodLink RX0 3 objectInit, .instanceMethod objectInit, .code objectInit ⟨#[0xb1]⟩ 1 none, .arrayClass .int, .fieldLink RX0 9 "CosetTable$Action" "numbers" "[I", .fieldLink RX0 15 "CosetTable$Action" "names" "[I", .arrayClass .boolean, .fieldLink RX0 18 "CosetTable$Action" "seen" "[Z", .fieldLink RX0 22 "CosetTable$Action" "reached" "[I", .fieldLink RX0 25 "CosetTable$Action" "cosets" "LCosetTable$Cosets;", .fieldLink RX0 29 "CosetTable$Action" "subgroupWords" "LCosetTable$WordList;"] ++ wsX00)
def wsX0_isReady : List Cond := .code yX0_isReady cX0_isReady 1 (some .boolean) :: ([.fieldLink RX0 33 "CosetTable$Action" "size" "I"] ++ wsX00)
def wsX0_hasNumber : List Cond := .code yX0_hasNumber cX0_hasNumber 2 (some .boolean) :: ([.fieldLink RX0 33 "CosetTable$Action" "size" "I"] ++ wsX00)
def wsJ7_fill_53178 : List Cond := .code yJ7_fill_53178 cJ7_fill_53178 4 none :: ([])
def wsX0_giveNextNumber : List Cond := .code yX0_giveNextNumber cX0_giveNextNumber 2 none :: ([.fieldLink RX0 9 "CosetTable$Action" "numbers" "[I", .fieldLink RX0 33 "CosetTable$Action" "size" "I", .fieldLink RX0 15 "CosetTable$Action" "names" "[I"] ++ wsX00)
def wsX1_at : List Cond := .code yX1_at cX1_at 3 (some .int) :: ([.fieldLink RX1 9 "CosetTable$Cosets" "entries" "[I"] ++ wsX10)
def wsX0_giveNumbers : List Cond := .code yX0_giveNumbers cX0_giveNumbers 3 none :: ([.fieldLink RX0 9 "CosetTable$Action" "numbers" "[I", .fieldLink RX0 33 "CosetTable$Action" "size" "I", .fieldLink RX0 25 "CosetTable$Action" "cosets" "LCosetTable$Cosets;", .fieldLink RX0 15 "CosetTable$Action" "names" "[I", .methodLink RX0 37 yJ7_fill_53178, .static yJ7_fill_53178, .initialized RJ7, .code yJ7_fill_53178 cJ7_fill_53178 4 none, .methodLink RX0 43 yX0_giveNextNumber, .instanceMethod yX0_giveNextNumber, .selects RX0 yX0_giveNextNumber yX0_giveNextNumber, .initialized RX0, .code yX0_giveNextNumber cX0_giveNextNumber 2 none, .methodLink RX0 52 yX1_at, .instanceMethod yX1_at, .selects RX1 yX1_at yX1_at, .initialized RX1, .code yX1_at cX1_at 3 (some .int), .fieldLink RX1 9 "CosetTable$Cosets" "entries" "[I"] ++ wsX00 ++ wsX10)
def wsX0_letterImage : List Cond := .code yX0_letterImage cX0_letterImage 3 (some .int) :: ([.fieldLink RX0 9 "CosetTable$Action" "numbers" "[I", .fieldLink RX0 25 "CosetTable$Action" "cosets" "LCosetTable$Cosets;", .fieldLink RX0 15 "CosetTable$Action" "names" "[I", .methodLink RX0 52 yX1_at, .instanceMethod yX1_at, .selects RX1 yX1_at yX1_at, .initialized RX1, .code yX1_at cX1_at 3 (some .int), .fieldLink RX1 9 "CosetTable$Cosets" "entries" "[I"] ++ wsX00 ++ wsX10)
def wsX0_image : List Cond := .code yX0_image cX0_image 5 (some .int) :: ([.fieldLink RX0 15 "CosetTable$Action" "names" "[I", .fieldLink RX0 25 "CosetTable$Action" "cosets" "LCosetTable$Cosets;", .fieldLink RX0 9 "CosetTable$Action" "numbers" "[I", .methodLink RX0 52 yX1_at, .instanceMethod yX1_at, .selects RX1 yX1_at yX1_at, .initialized RX1, .code yX1_at cX1_at 3 (some .int), .fieldLink RX1 9 "CosetTable$Cosets" "entries" "[I"] ++ wsX00 ++ wsX30 ++ wsX10)
def wsX0_forgetSeen : List Cond := .code yX0_forgetSeen cX0_forgetSeen 2 none :: ([.fieldLink RX0 33 "CosetTable$Action" "size" "I", .fieldLink RX0 18 "CosetTable$Action" "seen" "[Z"] ++ wsX00)
def wsX0_seeCycle : List Cond := .code yX0_seeCycle cX0_seeCycle 5 (some .int) :: ([.fieldLink RX0 33 "CosetTable$Action" "size" "I", .fieldLink RX0 18 "CosetTable$Action" "seen" "[Z", .methodLink RX0 74 yX0_image, .instanceMethod yX0_image, .selects RX0 yX0_image yX0_image, .initialized RX0, .code yX0_image cX0_image 5 (some .int), .fieldLink RX0 15 "CosetTable$Action" "names" "[I", .fieldLink RX0 25 "CosetTable$Action" "cosets" "LCosetTable$Cosets;", .fieldLink RX0 9 "CosetTable$Action" "numbers" "[I", .methodLink RX0 52 yX1_at, .instanceMethod yX1_at, .selects RX1 yX1_at yX1_at, .initialized RX1, .code yX1_at cX1_at 3 (some .int), .fieldLink RX1 9 "CosetTable$Cosets" "entries" "[I"] ++ wsX00 ++ wsX30 ++ wsX10)
def wsX0_countCycles : List Cond := .code yX0_countCycles cX0_countCycles 6 (some .int) :: ([.fieldLink RX0 33 "CosetTable$Action" "size" "I", .methodLink RX0 63 yX0_forgetSeen, .instanceMethod yX0_forgetSeen, .selects RX0 yX0_forgetSeen yX0_forgetSeen, .initialized RX0, .code yX0_forgetSeen cX0_forgetSeen 2 none, .fieldLink RX0 18 "CosetTable$Action" "seen" "[Z", .methodLink RX0 66 yX0_seeCycle, .instanceMethod yX0_seeCycle, .selects RX0 yX0_seeCycle yX0_seeCycle, .code yX0_seeCycle cX0_seeCycle 5 (some .int), .methodLink RX0 74 yX0_image, .instanceMethod yX0_image, .selects RX0 yX0_image yX0_image, .code yX0_image cX0_image 5 (some .int), .fieldLink RX0 15 "CosetTable$Action" "names" "[I", .fieldLink RX0 25 "CosetTable$Action" "cosets" "LCosetTable$Cosets;", .fieldLink RX0 9 "CosetTable$Action" "numbers" "[I", .methodLink RX0 52 yX1_at, .instanceMethod yX1_at, .selects RX1 yX1_at yX1_at, .initialized RX1, .code yX1_at cX1_at 3 (some .int), .fieldLink RX1 9 "CosetTable$Cosets" "entries" "[I"] ++ wsX00 ++ wsX30 ++ wsX10)
def wsX0_leastCommonMultiple : List Cond := .code yX0_leastCommonMultiple cX0_leastCommonMultiple 11 (some .long) :: ([.constant RX0 94 (1000000)])
def wsX0_orderOf_r1 : List Cond := [Cond.fieldLink RX0 33 "CosetTable$Action" "size" "I", Cond.methodLink RX0 63 yX0_forgetSeen, Cond.instanceMethod yX0_forgetSeen, Cond.selects RX0 yX0_forgetSeen yX0_forgetSeen, Cond.initialized RX0, Cond.code yX0_forgetSeen cX0_forgetSeen 2 none, Cond.fieldLink RX0 18 "CosetTable$Action" "seen" "[Z", Cond.methodLink RX0 66 yX0_seeCycle, Cond.instanceMethod yX0_seeCycle, Cond.selects RX0 yX0_seeCycle yX0_seeCycle, Cond.code yX0_seeCycle cX0_seeCycle 5 (some .int), Cond.methodLink RX0 74 yX0_image, Cond.instanceMethod yX0_image, Cond.selects RX0 yX0_image yX0_image, Cond.code yX0_image cX0_image 5 (some .int), Cond.fieldLink RX0 15 "CosetTable$Action" "names" "[I", Cond.fieldLink RX0 25 "CosetTable$Action" "cosets" "LCosetTable$Cosets;", Cond.fieldLink RX0 9 "CosetTable$Action" "numbers" "[I", Cond.methodLink RX0 52 yX1_at, Cond.instanceMethod yX1_at, Cond.selects RX1 yX1_at yX1_at, Cond.initialized RX1, Cond.code yX1_at cX1_at 3 (some .int), Cond.fieldLink RX1 9 "CosetTable$Cosets" "entries" "[I"]
def wsX0_orderOf_r2 : List Cond := [Cond.methodLink RX0 70 yX0_leastCommonMultiple, Cond.static yX0_leastCommonMultiple, Cond.code yX0_leastCommonMultiple cX0_leastCommonMultiple 11 (some .long), Cond.constant RX0 94 (1000000)]
def wsX0_orderOf : List Cond := .code yX0_orderOf cX0_orderOf 6 (some .long) :: ((wsX0_orderOf_r1 ++ wsX0_orderOf_r2) ++ wsX00 ++ wsX30 ++ wsX10)
def wsX0_rests : List Cond := .code yX0_rests cX0_rests 3 (some .boolean) :: ([.fieldLink RX0 29 "CosetTable$Action" "subgroupWords" "LCosetTable$WordList;", .methodLink RX0 74 yX0_image, .instanceMethod yX0_image, .selects RX0 yX0_image yX0_image, .initialized RX0, .code yX0_image cX0_image 5 (some .int), .fieldLink RX0 15 "CosetTable$Action" "names" "[I", .fieldLink RX0 25 "CosetTable$Action" "cosets" "LCosetTable$Cosets;", .fieldLink RX0 9 "CosetTable$Action" "numbers" "[I", .methodLink RX0 52 yX1_at, .instanceMethod yX1_at, .selects RX1 yX1_at yX1_at, .initialized RX1, .code yX1_at cX1_at 3 (some .int), .fieldLink RX1 9 "CosetTable$Cosets" "entries" "[I"] ++ wsX00 ++ wsX40 ++ wsX30 ++ wsX10)
def wsX0_countResting : List Cond := .code yX0_countResting cX0_countResting 3 (some .int) :: ([.fieldLink RX0 33 "CosetTable$Action" "size" "I", .methodLink RX0 78 yX0_rests, .instanceMethod yX0_rests, .selects RX0 yX0_rests yX0_rests, .initialized RX0, .code yX0_rests cX0_rests 3 (some .boolean), .fieldLink RX0 29 "CosetTable$Action" "subgroupWords" "LCosetTable$WordList;", .methodLink RX0 74 yX0_image, .instanceMethod yX0_image, .selects RX0 yX0_image yX0_image, .code yX0_image cX0_image 5 (some .int), .fieldLink RX0 15 "CosetTable$Action" "names" "[I", .fieldLink RX0 25 "CosetTable$Action" "cosets" "LCosetTable$Cosets;", .fieldLink RX0 9 "CosetTable$Action" "numbers" "[I", .methodLink RX0 52 yX1_at, .instanceMethod yX1_at, .selects RX1 yX1_at yX1_at, .initialized RX1, .code yX1_at cX1_at 3 (some .int), .fieldLink RX1 9 "CosetTable$Cosets" "entries" "[I"] ++ wsX00 ++ wsX40 ++ wsX30 ++ wsX10)
def wsX0_lowestJoined_r1 : List Cond := [Cond.fieldLink RX0 18 "CosetTable$Action" "seen" "[Z", Cond.fieldLink RX0 22 "CosetTable$Action" "reached" "[I", Cond.fieldLink RX0 33 "CosetTable$Action" "size" "I", Cond.fieldLink RX0 29 "CosetTable$Action" "subgroupWords" "LCosetTable$WordList;", Cond.methodLink RX0 89 Lib.Math.min.name, Cond.static Lib.Math.min.name, Cond.initialized "java/lang/Math", Cond.code Lib.Math.min.name Lib.Math.min.code 2 (some .int), Cond.methodLink RX0 63 yX0_forgetSeen, Cond.instanceMethod yX0_forgetSeen, Cond.selects RX0 yX0_forgetSeen yX0_forgetSeen, Cond.initialized RX0, Cond.code yX0_forgetSeen cX0_forgetSeen 2 none, Cond.methodLink RX0 74 yX0_image, Cond.instanceMethod yX0_image, Cond.selects RX0 yX0_image yX0_image, Cond.code yX0_image cX0_image 5 (some .int), Cond.fieldLink RX0 15 "CosetTable$Action" "names" "[I", Cond.fieldLink RX0 25 "CosetTable$Action" "cosets" "LCosetTable$Cosets;", Cond.fieldLink RX0 9 "CosetTable$Action" "numbers" "[I", Cond.methodLink RX0 52 yX1_at, Cond.instanceMethod yX1_at, Cond.selects RX1 yX1_at yX1_at, Cond.initialized RX1]
def wsX0_lowestJoined_r2 : List Cond := [Cond.code yX1_at cX1_at 3 (some .int), Cond.fieldLink RX1 9 "CosetTable$Cosets" "entries" "[I"]
def wsX0_lowestJoined : List Cond := .code yX0_lowestJoined cX0_lowestJoined 7 (some .int) :: ((wsX0_lowestJoined_r1 ++ wsX0_lowestJoined_r2) ++ wsX00 ++ wsX40 ++ wsX30 ++ wsX10)
def wsX1_init : List Cond := .code yX1_init cX1_init 1 none :: ([.methodLink RX1 3 objectInit, .instanceMethod objectInit, .code objectInit ⟨#[0xb1]⟩ 1 none, .arrayClass .int, .fieldLink RX1 9 "CosetTable$Cosets" "entries" "[I", .fieldLink RX1 15 "CosetTable$Cosets" "leaders" "[I", .fieldLink RX1 18 "CosetTable$Cosets" "fallen" "[I", .fieldLink RX1 21 "CosetTable$Cosets" "fresh" "[I", .arrayClass .boolean, .fieldLink RX1 24 "CosetTable$Cosets" "isFresh" "[Z"] ++ wsX10)
def wsX1_make : List Cond := .code yX1_make cX1_make 3 (some .int) :: ([.fieldLink RX1 32 "CosetTable$Cosets" "made" "I", .fieldLink RX1 9 "CosetTable$Cosets" "entries" "[I", .fieldLink RX1 15 "CosetTable$Cosets" "leaders" "[I", .fieldLink RX1 35 "CosetTable$Cosets" "living" "I"] ++ wsX10)
def wsX1_start : List Cond := .code yX1_start cX1_start 2 none :: ([.fieldLink RX1 28 "CosetTable$Cosets" "columns" "I", .fieldLink RX1 32 "CosetTable$Cosets" "made" "I", .fieldLink RX1 35 "CosetTable$Cosets" "living" "I", .fieldLink RX1 38 "CosetTable$Cosets" "open" "I", .methodLink RX1 41 yX1_make, .instanceMethod yX1_make, .selects RX1 yX1_make yX1_make, .initialized RX1, .code yX1_make cX1_make 3 (some .int), .fieldLink RX1 9 "CosetTable$Cosets" "entries" "[I", .fieldLink RX1 15 "CosetTable$Cosets" "leaders" "[I"] ++ wsX10)
def wsX1_lives : List Cond := .code yX1_lives cX1_lives 2 (some .boolean) :: ([.fieldLink RX1 32 "CosetTable$Cosets" "made" "I", .fieldLink RX1 15 "CosetTable$Cosets" "leaders" "[I"] ++ wsX10)
def wsX1_isOpen : List Cond := .code yX1_isOpen cX1_isOpen 2 (some .boolean) :: ([.fieldLink RX1 28 "CosetTable$Cosets" "columns" "I", .fieldLink RX1 9 "CosetTable$Cosets" "entries" "[I", .methodLink RX1 49 yX1_lives, .instanceMethod yX1_lives, .selects RX1 yX1_lives yX1_lives, .initialized RX1, .code yX1_lives cX1_lives 2 (some .boolean), .fieldLink RX1 32 "CosetTable$Cosets" "made" "I", .fieldLink RX1 15 "CosetTable$Cosets" "leaders" "[I"] ++ wsX10)
def wsX1_findOpen : List Cond := .code yX1_findOpen cX1_findOpen 1 (some .boolean) :: ([.fieldLink RX1 38 "CosetTable$Cosets" "open" "I", .fieldLink RX1 32 "CosetTable$Cosets" "made" "I", .methodLink RX1 45 yX1_isOpen, .instanceMethod yX1_isOpen, .selects RX1 yX1_isOpen yX1_isOpen, .initialized RX1, .code yX1_isOpen cX1_isOpen 2 (some .boolean), .fieldLink RX1 28 "CosetTable$Cosets" "columns" "I", .fieldLink RX1 9 "CosetTable$Cosets" "entries" "[I", .methodLink RX1 49 yX1_lives, .instanceMethod yX1_lives, .selects RX1 yX1_lives yX1_lives, .code yX1_lives cX1_lives 2 (some .boolean), .fieldLink RX1 15 "CosetTable$Cosets" "leaders" "[I"] ++ wsX10)
def wsX1_join : List Cond := .code yX1_join cX1_join 5 none :: ([.fieldLink RX1 9 "CosetTable$Cosets" "entries" "[I", .fieldLink RX1 24 "CosetTable$Cosets" "isFresh" "[Z", .fieldLink RX1 21 "CosetTable$Cosets" "fresh" "[I", .fieldLink RX1 56 "CosetTable$Cosets" "freshCount" "I"] ++ wsX10)
def wsX1_makeNeighbour : List Cond := .code yX1_makeNeighbour cX1_makeNeighbour 2 (some .int) :: ([.fieldLink RX1 38 "CosetTable$Cosets" "open" "I", .methodLink RX1 41 yX1_make, .instanceMethod yX1_make, .selects RX1 yX1_make yX1_make, .initialized RX1, .code yX1_make cX1_make 3 (some .int), .fieldLink RX1 32 "CosetTable$Cosets" "made" "I", .fieldLink RX1 9 "CosetTable$Cosets" "entries" "[I", .fieldLink RX1 15 "CosetTable$Cosets" "leaders" "[I", .fieldLink RX1 35 "CosetTable$Cosets" "living" "I", .methodLink RX1 52 yX1_join, .instanceMethod yX1_join, .selects RX1 yX1_join yX1_join, .code yX1_join cX1_join 5 none, .fieldLink RX1 24 "CosetTable$Cosets" "isFresh" "[Z", .fieldLink RX1 21 "CosetTable$Cosets" "fresh" "[I", .fieldLink RX1 56 "CosetTable$Cosets" "freshCount" "I"] ++ wsX10)
def wsX1_countOpen : List Cond := .code yX1_countOpen cX1_countOpen 3 (some .int) :: ([.fieldLink RX1 32 "CosetTable$Cosets" "made" "I", .methodLink RX1 45 yX1_isOpen, .instanceMethod yX1_isOpen, .selects RX1 yX1_isOpen yX1_isOpen, .initialized RX1, .code yX1_isOpen cX1_isOpen 2 (some .boolean), .fieldLink RX1 28 "CosetTable$Cosets" "columns" "I", .fieldLink RX1 9 "CosetTable$Cosets" "entries" "[I", .methodLink RX1 49 yX1_lives, .instanceMethod yX1_lives, .selects RX1 yX1_lives yX1_lives, .code yX1_lives cX1_lives 2 (some .boolean), .fieldLink RX1 15 "CosetTable$Cosets" "leaders" "[I"] ++ wsX10)
def wsX1_takeFresh : List Cond := .code yX1_takeFresh cX1_takeFresh 1 (some .int) :: ([.fieldLink RX1 56 "CosetTable$Cosets" "freshCount" "I", .fieldLink RX1 24 "CosetTable$Cosets" "isFresh" "[Z", .fieldLink RX1 21 "CosetTable$Cosets" "fresh" "[I"] ++ wsX10)
def wsX1_fall : List Cond := .code yX1_fall cX1_fall 6 none :: ([.fieldLink RX1 15 "CosetTable$Cosets" "leaders" "[I", .fieldLink RX1 32 "CosetTable$Cosets" "made" "I", .fieldLink RX1 18 "CosetTable$Cosets" "fallen" "[I", .fieldLink RX1 59 "CosetTable$Cosets" "fallenCount" "I", .fieldLink RX1 35 "CosetTable$Cosets" "living" "I"] ++ wsX10)
def wsX1_handOver : List Cond := .code yX1_handOver cX1_handOver 6 none :: ([.fieldLink RX1 28 "CosetTable$Cosets" "columns" "I", .fieldLink RX1 9 "CosetTable$Cosets" "entries" "[I", .fieldLink RX1 15 "CosetTable$Cosets" "leaders" "[I", .methodLink RX1 70 yX1_at, .instanceMethod yX1_at, .selects RX1 yX1_at yX1_at, .initialized RX1, .code yX1_at cX1_at 3 (some .int), .methodLink RX1 62 yX1_fall, .instanceMethod yX1_fall, .selects RX1 yX1_fall yX1_fall, .code yX1_fall cX1_fall 6 none, .fieldLink RX1 32 "CosetTable$Cosets" "made" "I", .fieldLink RX1 18 "CosetTable$Cosets" "fallen" "[I", .fieldLink RX1 59 "CosetTable$Cosets" "fallenCount" "I", .fieldLink RX1 35 "CosetTable$Cosets" "living" "I", .methodLink RX1 52 yX1_join, .instanceMethod yX1_join, .selects RX1 yX1_join yX1_join, .code yX1_join cX1_join 5 none, .fieldLink RX1 24 "CosetTable$Cosets" "isFresh" "[Z", .fieldLink RX1 21 "CosetTable$Cosets" "fresh" "[I", .fieldLink RX1 56 "CosetTable$Cosets" "freshCount" "I"] ++ wsX10)
def wsX1_unite_r1 : List Cond := [Cond.fieldLink RX1 59 "CosetTable$Cosets" "fallenCount" "I", Cond.fieldLink RX1 18 "CosetTable$Cosets" "fallen" "[I", Cond.methodLink RX1 62 yX1_fall, Cond.instanceMethod yX1_fall, Cond.selects RX1 yX1_fall yX1_fall, Cond.initialized RX1, Cond.code yX1_fall cX1_fall 6 none, Cond.fieldLink RX1 15 "CosetTable$Cosets" "leaders" "[I", Cond.fieldLink RX1 32 "CosetTable$Cosets" "made" "I", Cond.fieldLink RX1 35 "CosetTable$Cosets" "living" "I", Cond.methodLink RX1 66 yX1_handOver, Cond.instanceMethod yX1_handOver, Cond.selects RX1 yX1_handOver yX1_handOver, Cond.code yX1_handOver cX1_handOver 6 none, Cond.fieldLink RX1 28 "CosetTable$Cosets" "columns" "I", Cond.fieldLink RX1 9 "CosetTable$Cosets" "entries" "[I", Cond.methodLink RX1 70 yX1_at, Cond.instanceMethod yX1_at, Cond.selects RX1 yX1_at yX1_at, Cond.code yX1_at cX1_at 3 (some .int), Cond.methodLink RX1 52 yX1_join, Cond.instanceMethod yX1_join, Cond.selects RX1 yX1_join yX1_join, Cond.code yX1_join cX1_join 5 none]
def wsX1_unite_r2 : List Cond := [Cond.fieldLink RX1 24 "CosetTable$Cosets" "isFresh" "[Z", Cond.fieldLink RX1 21 "CosetTable$Cosets" "fresh" "[I", Cond.fieldLink RX1 56 "CosetTable$Cosets" "freshCount" "I"]
def wsX1_unite : List Cond := .code yX1_unite cX1_unite 4 none :: ((wsX1_unite_r1 ++ wsX1_unite_r2) ++ wsX10)
def wsX2_init : List Cond := .code yX2_init cX2_init 4 none :: ([.methodLink RX2 3 objectInit, .instanceMethod objectInit, .code objectInit ⟨#[0xb1]⟩ 1 none, .fieldLink RX2 9 "CosetTable$Inference" "cosets" "LCosetTable$Cosets;", .fieldLink RX2 15 "CosetTable$Inference" "relators" "LCosetTable$WordList;", .fieldLink RX2 19 "CosetTable$Inference" "subgroupWords" "LCosetTable$WordList;"] ++ wsX20)
def wsX3_around : List Cond := .code yX3_around cX3_around 2 (some .int) :: ([.fieldLink RX3 9 "CosetTable$Word" "columns" "[I", .fieldLink RX3 15 "CosetTable$Word" "length" "I"] ++ wsX30)
def wsX2_close_r1 : List Cond := [Cond.fieldLink RX2 9 "CosetTable$Inference" "cosets" "LCosetTable$Cosets;", Cond.methodLink RX2 70 yX3_around, Cond.instanceMethod yX3_around, Cond.selects RX3 yX3_around yX3_around, Cond.initialized RX3, Cond.code yX3_around cX3_around 2 (some .int), Cond.fieldLink RX3 9 "CosetTable$Word" "columns" "[I", Cond.fieldLink RX3 15 "CosetTable$Word" "length" "I", Cond.methodLink RX2 62 yX1_at, Cond.instanceMethod yX1_at, Cond.selects RX1 yX1_at yX1_at, Cond.initialized RX1, Cond.code yX1_at cX1_at 3 (some .int), Cond.fieldLink RX1 9 "CosetTable$Cosets" "entries" "[I", Cond.methodLink RX2 74 yX1_unite, Cond.instanceMethod yX1_unite, Cond.selects RX1 yX1_unite yX1_unite, Cond.code yX1_unite cX1_unite 4 none, Cond.fieldLink RX1 59 "CosetTable$Cosets" "fallenCount" "I", Cond.fieldLink RX1 18 "CosetTable$Cosets" "fallen" "[I", Cond.methodLink RX1 62 yX1_fall, Cond.instanceMethod yX1_fall, Cond.selects RX1 yX1_fall yX1_fall, Cond.code yX1_fall cX1_fall 6 none]
def wsX2_close_r2 : List Cond := [Cond.fieldLink RX1 15 "CosetTable$Cosets" "leaders" "[I", Cond.fieldLink RX1 32 "CosetTable$Cosets" "made" "I", Cond.fieldLink RX1 35 "CosetTable$Cosets" "living" "I", Cond.methodLink RX1 66 yX1_handOver, Cond.instanceMethod yX1_handOver, Cond.selects RX1 yX1_handOver yX1_handOver, Cond.code yX1_handOver cX1_handOver 6 none, Cond.fieldLink RX1 28 "CosetTable$Cosets" "columns" "I", Cond.methodLink RX1 70 yX1_at, Cond.methodLink RX1 52 yX1_join, Cond.instanceMethod yX1_join, Cond.selects RX1 yX1_join yX1_join, Cond.code yX1_join cX1_join 5 none, Cond.fieldLink RX1 24 "CosetTable$Cosets" "isFresh" "[Z", Cond.fieldLink RX1 21 "CosetTable$Cosets" "fresh" "[I", Cond.fieldLink RX1 56 "CosetTable$Cosets" "freshCount" "I", Cond.methodLink RX2 78 yX1_join]
def wsX2_close : List Cond := .code yX2_close cX2_close 9 none :: ((wsX2_close_r1 ++ wsX2_close_r2) ++ wsX30 ++ wsX20 ++ wsX10)
def wsX2_drawFromSubgroup_r1 : List Cond := [Cond.fieldLink RX2 19 "CosetTable$Inference" "subgroupWords" "LCosetTable$WordList;", Cond.methodLink RX2 38 yX2_close, Cond.instanceMethod yX2_close, Cond.selects RX2 yX2_close yX2_close, Cond.initialized RX2, Cond.code yX2_close cX2_close 9 none, Cond.fieldLink RX2 9 "CosetTable$Inference" "cosets" "LCosetTable$Cosets;", Cond.methodLink RX2 70 yX3_around, Cond.instanceMethod yX3_around, Cond.selects RX3 yX3_around yX3_around, Cond.initialized RX3, Cond.code yX3_around cX3_around 2 (some .int), Cond.fieldLink RX3 9 "CosetTable$Word" "columns" "[I", Cond.fieldLink RX3 15 "CosetTable$Word" "length" "I", Cond.methodLink RX2 62 yX1_at, Cond.instanceMethod yX1_at, Cond.selects RX1 yX1_at yX1_at, Cond.initialized RX1, Cond.code yX1_at cX1_at 3 (some .int), Cond.fieldLink RX1 9 "CosetTable$Cosets" "entries" "[I", Cond.methodLink RX2 74 yX1_unite, Cond.instanceMethod yX1_unite, Cond.selects RX1 yX1_unite yX1_unite, Cond.code yX1_unite cX1_unite 4 none]
def wsX2_drawFromSubgroup_r2 : List Cond := [Cond.fieldLink RX1 59 "CosetTable$Cosets" "fallenCount" "I", Cond.fieldLink RX1 18 "CosetTable$Cosets" "fallen" "[I", Cond.methodLink RX1 62 yX1_fall, Cond.instanceMethod yX1_fall, Cond.selects RX1 yX1_fall yX1_fall, Cond.code yX1_fall cX1_fall 6 none, Cond.fieldLink RX1 15 "CosetTable$Cosets" "leaders" "[I", Cond.fieldLink RX1 32 "CosetTable$Cosets" "made" "I", Cond.fieldLink RX1 35 "CosetTable$Cosets" "living" "I", Cond.methodLink RX1 66 yX1_handOver, Cond.instanceMethod yX1_handOver, Cond.selects RX1 yX1_handOver yX1_handOver, Cond.code yX1_handOver cX1_handOver 6 none, Cond.fieldLink RX1 28 "CosetTable$Cosets" "columns" "I", Cond.methodLink RX1 70 yX1_at, Cond.methodLink RX1 52 yX1_join, Cond.instanceMethod yX1_join, Cond.selects RX1 yX1_join yX1_join, Cond.code yX1_join cX1_join 5 none, Cond.fieldLink RX1 24 "CosetTable$Cosets" "isFresh" "[Z", Cond.fieldLink RX1 21 "CosetTable$Cosets" "fresh" "[I", Cond.fieldLink RX1 56 "CosetTable$Cosets" "freshCount" "I", Cond.methodLink RX2 78 yX1_join]
def wsX2_drawFromSubgroup : List Cond := .code yX2_drawFromSubgroup cX2_drawFromSubgroup 2 none :: ((wsX2_drawFromSubgroup_r1 ++ wsX2_drawFromSubgroup_r2) ++ wsX20 ++ wsX40 ++ wsX30 ++ wsX10)
def wsX2_drawThrough_r1 : List Cond := [Cond.fieldLink RX2 9 "CosetTable$Inference" "cosets" "LCosetTable$Cosets;", Cond.methodLink RX2 62 yX1_at, Cond.instanceMethod yX1_at, Cond.selects RX1 yX1_at yX1_at, Cond.initialized RX1, Cond.code yX1_at cX1_at 3 (some .int), Cond.fieldLink RX1 9 "CosetTable$Cosets" "entries" "[I", Cond.methodLink RX2 38 yX2_close, Cond.instanceMethod yX2_close, Cond.selects RX2 yX2_close yX2_close, Cond.initialized RX2, Cond.code yX2_close cX2_close 9 none, Cond.methodLink RX2 70 yX3_around, Cond.instanceMethod yX3_around, Cond.selects RX3 yX3_around yX3_around, Cond.initialized RX3, Cond.code yX3_around cX3_around 2 (some .int), Cond.fieldLink RX3 9 "CosetTable$Word" "columns" "[I", Cond.fieldLink RX3 15 "CosetTable$Word" "length" "I", Cond.methodLink RX2 74 yX1_unite, Cond.instanceMethod yX1_unite, Cond.selects RX1 yX1_unite yX1_unite, Cond.code yX1_unite cX1_unite 4 none, Cond.fieldLink RX1 59 "CosetTable$Cosets" "fallenCount" "I"]
def wsX2_drawThrough_r2 : List Cond := [Cond.fieldLink RX1 18 "CosetTable$Cosets" "fallen" "[I", Cond.methodLink RX1 62 yX1_fall, Cond.instanceMethod yX1_fall, Cond.selects RX1 yX1_fall yX1_fall, Cond.code yX1_fall cX1_fall 6 none, Cond.fieldLink RX1 15 "CosetTable$Cosets" "leaders" "[I", Cond.fieldLink RX1 32 "CosetTable$Cosets" "made" "I", Cond.fieldLink RX1 35 "CosetTable$Cosets" "living" "I", Cond.methodLink RX1 66 yX1_handOver, Cond.instanceMethod yX1_handOver, Cond.selects RX1 yX1_handOver yX1_handOver, Cond.code yX1_handOver cX1_handOver 6 none, Cond.fieldLink RX1 28 "CosetTable$Cosets" "columns" "I", Cond.methodLink RX1 70 yX1_at, Cond.methodLink RX1 52 yX1_join, Cond.instanceMethod yX1_join, Cond.selects RX1 yX1_join yX1_join, Cond.code yX1_join cX1_join 5 none, Cond.fieldLink RX1 24 "CosetTable$Cosets" "isFresh" "[Z", Cond.fieldLink RX1 21 "CosetTable$Cosets" "fresh" "[I", Cond.fieldLink RX1 56 "CosetTable$Cosets" "freshCount" "I", Cond.methodLink RX2 78 yX1_join]
def wsX2_drawThrough : List Cond := .code yX2_drawThrough cX2_drawThrough 6 none :: ((wsX2_drawThrough_r1 ++ wsX2_drawThrough_r2) ++ wsX30 ++ wsX20 ++ wsX10)
def wsX2_drawFrom_r1 : List Cond := [Cond.fieldLink RX2 15 "CosetTable$Inference" "relators" "LCosetTable$WordList;", Cond.fieldLink RX2 9 "CosetTable$Inference" "cosets" "LCosetTable$Cosets;", Cond.constant RX2 45 (1000000), Cond.methodLink RX2 28 yX1_lives, Cond.instanceMethod yX1_lives, Cond.selects RX1 yX1_lives yX1_lives, Cond.initialized RX1, Cond.code yX1_lives cX1_lives 2 (some .boolean), Cond.fieldLink RX1 32 "CosetTable$Cosets" "made" "I", Cond.fieldLink RX1 15 "CosetTable$Cosets" "leaders" "[I", Cond.methodLink RX2 38 yX2_close, Cond.instanceMethod yX2_close, Cond.selects RX2 yX2_close yX2_close, Cond.initialized RX2, Cond.code yX2_close cX2_close 9 none, Cond.methodLink RX2 70 yX3_around, Cond.instanceMethod yX3_around, Cond.selects RX3 yX3_around yX3_around, Cond.initialized RX3, Cond.code yX3_around cX3_around 2 (some .int), Cond.fieldLink RX3 9 "CosetTable$Word" "columns" "[I", Cond.fieldLink RX3 15 "CosetTable$Word" "length" "I", Cond.methodLink RX2 62 yX1_at, Cond.instanceMethod yX1_at]
def wsX2_drawFrom_r2 : List Cond := [Cond.selects RX1 yX1_at yX1_at, Cond.code yX1_at cX1_at 3 (some .int), Cond.fieldLink RX1 9 "CosetTable$Cosets" "entries" "[I", Cond.methodLink RX2 74 yX1_unite, Cond.instanceMethod yX1_unite, Cond.selects RX1 yX1_unite yX1_unite, Cond.code yX1_unite cX1_unite 4 none, Cond.fieldLink RX1 59 "CosetTable$Cosets" "fallenCount" "I", Cond.fieldLink RX1 18 "CosetTable$Cosets" "fallen" "[I", Cond.methodLink RX1 62 yX1_fall, Cond.instanceMethod yX1_fall, Cond.selects RX1 yX1_fall yX1_fall, Cond.code yX1_fall cX1_fall 6 none, Cond.fieldLink RX1 35 "CosetTable$Cosets" "living" "I", Cond.methodLink RX1 66 yX1_handOver, Cond.instanceMethod yX1_handOver, Cond.selects RX1 yX1_handOver yX1_handOver, Cond.code yX1_handOver cX1_handOver 6 none, Cond.fieldLink RX1 28 "CosetTable$Cosets" "columns" "I", Cond.methodLink RX1 70 yX1_at, Cond.methodLink RX1 52 yX1_join, Cond.instanceMethod yX1_join, Cond.selects RX1 yX1_join yX1_join, Cond.code yX1_join cX1_join 5 none]
def wsX2_drawFrom_r3 : List Cond := [Cond.fieldLink RX1 24 "CosetTable$Cosets" "isFresh" "[Z", Cond.fieldLink RX1 21 "CosetTable$Cosets" "fresh" "[I", Cond.fieldLink RX1 56 "CosetTable$Cosets" "freshCount" "I", Cond.methodLink RX2 78 yX1_join, Cond.methodLink RX2 42 yX2_drawFromSubgroup, Cond.instanceMethod yX2_drawFromSubgroup, Cond.selects RX2 yX2_drawFromSubgroup yX2_drawFromSubgroup, Cond.code yX2_drawFromSubgroup cX2_drawFromSubgroup 2 none, Cond.fieldLink RX2 19 "CosetTable$Inference" "subgroupWords" "LCosetTable$WordList;", Cond.methodLink RX2 49 yX1_takeFresh, Cond.instanceMethod yX1_takeFresh, Cond.selects RX1 yX1_takeFresh yX1_takeFresh, Cond.code yX1_takeFresh cX1_takeFresh 1 (some .int), Cond.methodLink RX2 53 yX2_drawThrough, Cond.instanceMethod yX2_drawThrough, Cond.selects RX2 yX2_drawThrough yX2_drawThrough, Cond.code yX2_drawThrough cX2_drawThrough 6 none]
def wsX2_drawFrom : List Cond := .code yX2_drawFrom cX2_drawFrom 5 none :: ((wsX2_drawFrom_r1 ++ (wsX2_drawFrom_r2 ++ wsX2_drawFrom_r3)) ++ wsX20 ++ wsX40 ++ wsX10 ++ wsX30)
def wsX3_init : List Cond := .code yX3_init cX3_init 1 none :: ([.methodLink RX3 3 objectInit, .instanceMethod objectInit, .code objectInit ⟨#[0xb1]⟩ 1 none, .arrayClass .int, .fieldLink RX3 9 "CosetTable$Word" "columns" "[I"] ++ wsX30)
def wsX3_append : List Cond := .code yX3_append cX3_append 2 none :: ([.fieldLink RX3 9 "CosetTable$Word" "columns" "[I", .fieldLink RX3 15 "CosetTable$Word" "length" "I"] ++ wsX30)
def wsX3_copyFrom : List Cond := .code yX3_copyFrom cX3_copyFrom 2 none :: ([.fieldLink RX3 9 "CosetTable$Word" "columns" "[I", .fieldLink RX3 15 "CosetTable$Word" "length" "I", .methodLink RX3 19 arraycopyName, .native arraycopyName, .static arraycopyName, .initialized "java/lang/System"] ++ wsX30)
def wsX4_init : List Cond := .code yX4_init cX4_init 3 none :: ([.methodLink RX4 1 objectInit, .instanceMethod objectInit, .code objectInit ⟨#[0xb1]⟩ 1 none, .classLink RX4 7 RX3, .fieldLink RX4 9 "CosetTable$WordList" "words" "[LCosetTable$Word;", .instantiable RX3 2, .initialized RX3, .instanceMethod yX3_init, .code yX3_init cX3_init 1 none, .methodLink RX3 3 objectInit, .arrayClass .int, .fieldLink RX3 9 "CosetTable$Word" "columns" "[I"] ++ wsX40 ++ wsX30)
def wsX4_isFull : List Cond := .code yX4_isFull cX4_isFull 1 (some .boolean) :: ([.fieldLink RX4 16 "CosetTable$WordList" "size" "I", .fieldLink RX4 9 "CosetTable$WordList" "words" "[LCosetTable$Word;"] ++ wsX40)
def wsX4_add : List Cond := .code yX4_add cX4_add 2 none :: ([.fieldLink RX4 9 "CosetTable$WordList" "words" "[LCosetTable$Word;", .fieldLink RX4 16 "CosetTable$WordList" "size" "I", .methodLink RX4 20 yX3_copyFrom, .instanceMethod yX3_copyFrom, .selects RX3 yX3_copyFrom yX3_copyFrom, .initialized RX3, .code yX3_copyFrom cX3_copyFrom 2 none, .fieldLink RX3 9 "CosetTable$Word" "columns" "[I", .fieldLink RX3 15 "CosetTable$Word" "length" "I", .methodLink RX3 19 arraycopyName, .native arraycopyName, .static arraycopyName, .initialized "java/lang/System"] ++ wsX40 ++ wsX30)
def wsX5_startTable : List Cond := .code yX5_startTable cX5_startTable 1 none :: ([.fieldLink RX5 31 "CosetTable" "cosets" "LCosetTable$Cosets;", .fieldLink RX5 53 "CosetTable" "generators" "I", .fieldLink RX5 49 "CosetTable" "action" "LCosetTable$Action;", .methodLink RX5 145 yX1_start, .instanceMethod yX1_start, .selects RX1 yX1_start yX1_start, .initialized RX1, .code yX1_start cX1_start 2 none, .fieldLink RX1 28 "CosetTable$Cosets" "columns" "I", .fieldLink RX1 32 "CosetTable$Cosets" "made" "I", .fieldLink RX1 35 "CosetTable$Cosets" "living" "I", .fieldLink RX1 38 "CosetTable$Cosets" "open" "I", .methodLink RX1 41 yX1_make, .instanceMethod yX1_make, .selects RX1 yX1_make yX1_make, .code yX1_make cX1_make 3 (some .int), .fieldLink RX1 9 "CosetTable$Cosets" "entries" "[I", .fieldLink RX1 15 "CosetTable$Cosets" "leaders" "[I"] ++ wsX50 ++ wsX00 ++ wsX10)
def wsX5_init_r1 : List Cond := [Cond.methodLink RX5 3 objectInit, Cond.instanceMethod objectInit, Cond.code objectInit ⟨#[0xb1]⟩ 1 none, Cond.classLink RX5 9 RX3, Cond.instantiable RX3 2, Cond.initialized RX3, Cond.fieldLink RX5 12 "CosetTable" "hand" "LCosetTable$Word;", Cond.classLink RX5 16 RX4, Cond.instantiable RX4 2, Cond.initialized RX4, Cond.fieldLink RX5 21 "CosetTable" "relators" "LCosetTable$WordList;", Cond.fieldLink RX5 25 "CosetTable" "subgroupWords" "LCosetTable$WordList;", Cond.classLink RX5 28 RX1, Cond.instantiable RX1 11, Cond.initialized RX1, Cond.fieldLink RX5 31 "CosetTable" "cosets" "LCosetTable$Cosets;", Cond.classLink RX5 35 RX2, Cond.instantiable RX2 3, Cond.initialized RX2, Cond.fieldLink RX5 40 "CosetTable" "inference" "LCosetTable$Inference;", Cond.classLink RX5 44 RX0, Cond.instantiable RX0 7, Cond.initialized RX0, Cond.fieldLink RX5 49 "CosetTable" "action" "LCosetTable$Action;"]
def wsX5_init_r2 : List Cond := [Cond.fieldLink RX5 53 "CosetTable" "generators" "I", Cond.instanceMethod yX3_init, Cond.code yX3_init cX3_init 1 none, Cond.methodLink RX3 3 objectInit, Cond.arrayClass .int, Cond.fieldLink RX3 9 "CosetTable$Word" "columns" "[I", Cond.methodLink RX5 18 yX4_init, Cond.instanceMethod yX4_init, Cond.code yX4_init cX4_init 3 none, Cond.methodLink RX4 1 objectInit, Cond.classLink RX4 7 RX3, Cond.fieldLink RX4 9 "CosetTable$WordList" "words" "[LCosetTable$Word;", Cond.instanceMethod yX1_init, Cond.code yX1_init cX1_init 1 none, Cond.methodLink RX1 3 objectInit, Cond.fieldLink RX1 9 "CosetTable$Cosets" "entries" "[I", Cond.fieldLink RX1 15 "CosetTable$Cosets" "leaders" "[I", Cond.fieldLink RX1 18 "CosetTable$Cosets" "fallen" "[I", Cond.fieldLink RX1 21 "CosetTable$Cosets" "fresh" "[I", Cond.arrayClass .boolean, Cond.fieldLink RX1 24 "CosetTable$Cosets" "isFresh" "[Z", Cond.methodLink RX5 37 yX2_init, Cond.instanceMethod yX2_init, Cond.code yX2_init cX2_init 4 none]
def wsX5_init_r3 : List Cond := [Cond.methodLink RX2 3 objectInit, Cond.fieldLink RX2 9 "CosetTable$Inference" "cosets" "LCosetTable$Cosets;", Cond.fieldLink RX2 15 "CosetTable$Inference" "relators" "LCosetTable$WordList;", Cond.fieldLink RX2 19 "CosetTable$Inference" "subgroupWords" "LCosetTable$WordList;", Cond.methodLink RX5 46 yX0_init, Cond.instanceMethod yX0_init, Cond.code yX0_init cX0_init 3 none, Cond.methodLink RX0 3 objectInit, Cond.fieldLink RX0 9 "CosetTable$Action" "numbers" "[I", Cond.fieldLink RX0 15 "CosetTable$Action" "names" "[I", Cond.fieldLink RX0 18 "CosetTable$Action" "seen" "[Z", Cond.fieldLink RX0 22 "CosetTable$Action" "reached" "[I", Cond.fieldLink RX0 25 "CosetTable$Action" "cosets" "LCosetTable$Cosets;", Cond.fieldLink RX0 29 "CosetTable$Action" "subgroupWords" "LCosetTable$WordList;", Cond.methodLink RX5 57 yX5_startTable, Cond.instanceMethod yX5_startTable, Cond.selects RX5 yX5_startTable yX5_startTable, Cond.initialized RX5, Cond.code yX5_startTable cX5_startTable 1 none, Cond.methodLink RX5 145 yX1_start, Cond.instanceMethod yX1_start, Cond.selects RX1 yX1_start yX1_start, Cond.code yX1_start cX1_start 2 none, Cond.fieldLink RX1 28 "CosetTable$Cosets" "columns" "I"]
def wsX5_init_r4 : List Cond := [Cond.fieldLink RX1 32 "CosetTable$Cosets" "made" "I", Cond.fieldLink RX1 35 "CosetTable$Cosets" "living" "I", Cond.fieldLink RX1 38 "CosetTable$Cosets" "open" "I", Cond.methodLink RX1 41 yX1_make, Cond.instanceMethod yX1_make, Cond.selects RX1 yX1_make yX1_make, Cond.code yX1_make cX1_make 3 (some .int)]
def wsX5_init : List Cond := .code yX5_init cX5_init 1 none :: ((wsX5_init_r1 ++ (wsX5_init_r2 ++ (wsX5_init_r3 ++ wsX5_init_r4))) ++ wsX30 ++ wsX50 ++ wsX40 ++ wsX10 ++ wsX20 ++ wsX00)
def wsX5_begin_r1 : List Cond := [Cond.fieldLink RX5 53 "CosetTable" "generators" "I", Cond.fieldLink RX5 21 "CosetTable" "relators" "LCosetTable$WordList;", Cond.fieldLink RX5 25 "CosetTable" "subgroupWords" "LCosetTable$WordList;", Cond.fieldLink RX5 12 "CosetTable" "hand" "LCosetTable$Word;", Cond.methodLink RX5 57 yX5_startTable, Cond.instanceMethod yX5_startTable, Cond.selects RX5 yX5_startTable yX5_startTable, Cond.initialized RX5, Cond.code yX5_startTable cX5_startTable 1 none, Cond.fieldLink RX5 31 "CosetTable" "cosets" "LCosetTable$Cosets;", Cond.fieldLink RX5 49 "CosetTable" "action" "LCosetTable$Action;", Cond.methodLink RX5 145 yX1_start, Cond.instanceMethod yX1_start, Cond.selects RX1 yX1_start yX1_start, Cond.initialized RX1, Cond.code yX1_start cX1_start 2 none, Cond.fieldLink RX1 28 "CosetTable$Cosets" "columns" "I", Cond.fieldLink RX1 32 "CosetTable$Cosets" "made" "I", Cond.fieldLink RX1 35 "CosetTable$Cosets" "living" "I", Cond.fieldLink RX1 38 "CosetTable$Cosets" "open" "I", Cond.methodLink RX1 41 yX1_make, Cond.instanceMethod yX1_make, Cond.selects RX1 yX1_make yX1_make, Cond.code yX1_make cX1_make 3 (some .int)]
def wsX5_begin_r2 : List Cond := [Cond.fieldLink RX1 9 "CosetTable$Cosets" "entries" "[I", Cond.fieldLink RX1 15 "CosetTable$Cosets" "leaders" "[I"]
def wsX5_begin : List Cond := .code yX5_begin cX5_begin 2 (some .int) :: ((wsX5_begin_r1 ++ wsX5_begin_r2) ++ wsX50 ++ wsX40 ++ wsX30 ++ wsX00 ++ wsX10)
def wsX5_isLetter : List Cond := .code yX5_isLetter cX5_isLetter 2 (some .boolean) :: ([.fieldLink RX5 53 "CosetTable" "generators" "I"] ++ wsX50)
def wsX5_columnOf : List Cond := .code yX5_columnOf cX5_columnOf 1 (some .int) :: ([])
def wsX5_letter : List Cond := .code yX5_letter cX5_letter 2 (some .int) :: ([.fieldLink RX5 12 "CosetTable" "hand" "LCosetTable$Word;", .methodLink RX5 66 yX5_isLetter, .instanceMethod yX5_isLetter, .selects RX5 yX5_isLetter yX5_isLetter, .initialized RX5, .code yX5_isLetter cX5_isLetter 2 (some .boolean), .fieldLink RX5 53 "CosetTable" "generators" "I", .methodLink RX5 70 yX5_columnOf, .static yX5_columnOf, .code yX5_columnOf cX5_columnOf 1 (some .int), .methodLink RX5 74 yX3_append, .instanceMethod yX3_append, .selects RX3 yX3_append yX3_append, .initialized RX3, .code yX3_append cX3_append 2 none, .fieldLink RX3 9 "CosetTable$Word" "columns" "[I", .fieldLink RX3 15 "CosetTable$Word" "length" "I"] ++ wsX50 ++ wsX30)
def wsX5_clear : List Cond := .code yX5_clear cX5_clear 2 (some .int) :: ([.fieldLink RX5 12 "CosetTable" "hand" "LCosetTable$Word;"] ++ wsX50 ++ wsX30)
def wsX5_giveHandTo_r1 : List Cond := [Cond.fieldLink RX5 12 "CosetTable" "hand" "LCosetTable$Word;", Cond.methodLink RX5 148 yX4_isFull, Cond.instanceMethod yX4_isFull, Cond.selects RX4 yX4_isFull yX4_isFull, Cond.initialized RX4, Cond.code yX4_isFull cX4_isFull 1 (some .boolean), Cond.fieldLink RX4 16 "CosetTable$WordList" "size" "I", Cond.fieldLink RX4 9 "CosetTable$WordList" "words" "[LCosetTable$Word;", Cond.methodLink RX5 151 yX4_add, Cond.instanceMethod yX4_add, Cond.selects RX4 yX4_add yX4_add, Cond.code yX4_add cX4_add 2 none, Cond.methodLink RX4 20 yX3_copyFrom, Cond.instanceMethod yX3_copyFrom, Cond.selects RX3 yX3_copyFrom yX3_copyFrom, Cond.initialized RX3, Cond.code yX3_copyFrom cX3_copyFrom 2 none, Cond.fieldLink RX3 9 "CosetTable$Word" "columns" "[I", Cond.fieldLink RX3 15 "CosetTable$Word" "length" "I", Cond.methodLink RX3 19 arraycopyName, Cond.native arraycopyName, Cond.static arraycopyName, Cond.initialized "java/lang/System", Cond.methodLink RX5 57 yX5_startTable]
def wsX5_giveHandTo_r2 : List Cond := [Cond.instanceMethod yX5_startTable, Cond.selects RX5 yX5_startTable yX5_startTable, Cond.initialized RX5, Cond.code yX5_startTable cX5_startTable 1 none, Cond.fieldLink RX5 31 "CosetTable" "cosets" "LCosetTable$Cosets;", Cond.fieldLink RX5 53 "CosetTable" "generators" "I", Cond.fieldLink RX5 49 "CosetTable" "action" "LCosetTable$Action;", Cond.methodLink RX5 145 yX1_start, Cond.instanceMethod yX1_start, Cond.selects RX1 yX1_start yX1_start, Cond.initialized RX1, Cond.code yX1_start cX1_start 2 none, Cond.fieldLink RX1 28 "CosetTable$Cosets" "columns" "I", Cond.fieldLink RX1 32 "CosetTable$Cosets" "made" "I", Cond.fieldLink RX1 35 "CosetTable$Cosets" "living" "I", Cond.fieldLink RX1 38 "CosetTable$Cosets" "open" "I", Cond.methodLink RX1 41 yX1_make, Cond.instanceMethod yX1_make, Cond.selects RX1 yX1_make yX1_make, Cond.code yX1_make cX1_make 3 (some .int), Cond.fieldLink RX1 9 "CosetTable$Cosets" "entries" "[I", Cond.fieldLink RX1 15 "CosetTable$Cosets" "leaders" "[I"]
def wsX5_giveHandTo : List Cond := .code yX5_giveHandTo cX5_giveHandTo 2 (some .int) :: ((wsX5_giveHandTo_r1 ++ wsX5_giveHandTo_r2) ++ wsX50 ++ wsX30 ++ wsX40 ++ wsX00 ++ wsX10)
def wsX5_relator_r1 : List Cond := [Cond.fieldLink RX5 21 "CosetTable" "relators" "LCosetTable$WordList;", Cond.methodLink RX5 77 yX5_giveHandTo, Cond.instanceMethod yX5_giveHandTo, Cond.selects RX5 yX5_giveHandTo yX5_giveHandTo, Cond.initialized RX5, Cond.code yX5_giveHandTo cX5_giveHandTo 2 (some .int), Cond.fieldLink RX5 12 "CosetTable" "hand" "LCosetTable$Word;", Cond.methodLink RX5 148 yX4_isFull, Cond.instanceMethod yX4_isFull, Cond.selects RX4 yX4_isFull yX4_isFull, Cond.initialized RX4, Cond.code yX4_isFull cX4_isFull 1 (some .boolean), Cond.fieldLink RX4 16 "CosetTable$WordList" "size" "I", Cond.fieldLink RX4 9 "CosetTable$WordList" "words" "[LCosetTable$Word;", Cond.methodLink RX5 151 yX4_add, Cond.instanceMethod yX4_add, Cond.selects RX4 yX4_add yX4_add, Cond.code yX4_add cX4_add 2 none, Cond.methodLink RX4 20 yX3_copyFrom, Cond.instanceMethod yX3_copyFrom, Cond.selects RX3 yX3_copyFrom yX3_copyFrom, Cond.initialized RX3, Cond.code yX3_copyFrom cX3_copyFrom 2 none, Cond.fieldLink RX3 9 "CosetTable$Word" "columns" "[I"]
def wsX5_relator_r2 : List Cond := [Cond.fieldLink RX3 15 "CosetTable$Word" "length" "I", Cond.methodLink RX3 19 arraycopyName, Cond.native arraycopyName, Cond.static arraycopyName, Cond.initialized "java/lang/System", Cond.methodLink RX5 57 yX5_startTable, Cond.instanceMethod yX5_startTable, Cond.selects RX5 yX5_startTable yX5_startTable, Cond.code yX5_startTable cX5_startTable 1 none, Cond.fieldLink RX5 31 "CosetTable" "cosets" "LCosetTable$Cosets;", Cond.fieldLink RX5 53 "CosetTable" "generators" "I", Cond.fieldLink RX5 49 "CosetTable" "action" "LCosetTable$Action;", Cond.methodLink RX5 145 yX1_start, Cond.instanceMethod yX1_start, Cond.selects RX1 yX1_start yX1_start, Cond.initialized RX1, Cond.code yX1_start cX1_start 2 none, Cond.fieldLink RX1 28 "CosetTable$Cosets" "columns" "I", Cond.fieldLink RX1 32 "CosetTable$Cosets" "made" "I", Cond.fieldLink RX1 35 "CosetTable$Cosets" "living" "I", Cond.fieldLink RX1 38 "CosetTable$Cosets" "open" "I", Cond.methodLink RX1 41 yX1_make, Cond.instanceMethod yX1_make, Cond.selects RX1 yX1_make yX1_make]
def wsX5_relator_r3 : List Cond := [Cond.code yX1_make cX1_make 3 (some .int), Cond.fieldLink RX1 9 "CosetTable$Cosets" "entries" "[I", Cond.fieldLink RX1 15 "CosetTable$Cosets" "leaders" "[I"]
def wsX5_relator : List Cond := .code yX5_relator cX5_relator 1 (some .int) :: ((wsX5_relator_r1 ++ (wsX5_relator_r2 ++ wsX5_relator_r3)) ++ wsX50 ++ wsX30 ++ wsX40 ++ wsX00 ++ wsX10)
def wsX5_subgroup_r1 : List Cond := [Cond.fieldLink RX5 25 "CosetTable" "subgroupWords" "LCosetTable$WordList;", Cond.methodLink RX5 77 yX5_giveHandTo, Cond.instanceMethod yX5_giveHandTo, Cond.selects RX5 yX5_giveHandTo yX5_giveHandTo, Cond.initialized RX5, Cond.code yX5_giveHandTo cX5_giveHandTo 2 (some .int), Cond.fieldLink RX5 12 "CosetTable" "hand" "LCosetTable$Word;", Cond.methodLink RX5 148 yX4_isFull, Cond.instanceMethod yX4_isFull, Cond.selects RX4 yX4_isFull yX4_isFull, Cond.initialized RX4, Cond.code yX4_isFull cX4_isFull 1 (some .boolean), Cond.fieldLink RX4 16 "CosetTable$WordList" "size" "I", Cond.fieldLink RX4 9 "CosetTable$WordList" "words" "[LCosetTable$Word;", Cond.methodLink RX5 151 yX4_add, Cond.instanceMethod yX4_add, Cond.selects RX4 yX4_add yX4_add, Cond.code yX4_add cX4_add 2 none, Cond.methodLink RX4 20 yX3_copyFrom, Cond.instanceMethod yX3_copyFrom, Cond.selects RX3 yX3_copyFrom yX3_copyFrom, Cond.initialized RX3, Cond.code yX3_copyFrom cX3_copyFrom 2 none, Cond.fieldLink RX3 9 "CosetTable$Word" "columns" "[I"]
def wsX5_subgroup_r2 : List Cond := [Cond.fieldLink RX3 15 "CosetTable$Word" "length" "I", Cond.methodLink RX3 19 arraycopyName, Cond.native arraycopyName, Cond.static arraycopyName, Cond.initialized "java/lang/System", Cond.methodLink RX5 57 yX5_startTable, Cond.instanceMethod yX5_startTable, Cond.selects RX5 yX5_startTable yX5_startTable, Cond.code yX5_startTable cX5_startTable 1 none, Cond.fieldLink RX5 31 "CosetTable" "cosets" "LCosetTable$Cosets;", Cond.fieldLink RX5 53 "CosetTable" "generators" "I", Cond.fieldLink RX5 49 "CosetTable" "action" "LCosetTable$Action;", Cond.methodLink RX5 145 yX1_start, Cond.instanceMethod yX1_start, Cond.selects RX1 yX1_start yX1_start, Cond.initialized RX1, Cond.code yX1_start cX1_start 2 none, Cond.fieldLink RX1 28 "CosetTable$Cosets" "columns" "I", Cond.fieldLink RX1 32 "CosetTable$Cosets" "made" "I", Cond.fieldLink RX1 35 "CosetTable$Cosets" "living" "I", Cond.fieldLink RX1 38 "CosetTable$Cosets" "open" "I", Cond.methodLink RX1 41 yX1_make, Cond.instanceMethod yX1_make, Cond.selects RX1 yX1_make yX1_make]
def wsX5_subgroup_r3 : List Cond := [Cond.code yX1_make cX1_make 3 (some .int), Cond.fieldLink RX1 9 "CosetTable$Cosets" "entries" "[I", Cond.fieldLink RX1 15 "CosetTable$Cosets" "leaders" "[I"]
def wsX5_subgroup : List Cond := .code yX5_subgroup cX5_subgroup 1 (some .int) :: ((wsX5_subgroup_r1 ++ (wsX5_subgroup_r2 ++ wsX5_subgroup_r3)) ++ wsX50 ++ wsX30 ++ wsX40 ++ wsX00 ++ wsX10)
def wsX5_run_r1 : List Cond := [Cond.fieldLink RX5 40 "CosetTable" "inference" "LCosetTable$Inference;", Cond.fieldLink RX5 31 "CosetTable" "cosets" "LCosetTable$Cosets;", Cond.fieldLink RX5 49 "CosetTable" "action" "LCosetTable$Action;", Cond.methodLink RX5 81 yX2_drawFrom, Cond.instanceMethod yX2_drawFrom, Cond.selects RX2 yX2_drawFrom yX2_drawFrom, Cond.initialized RX2, Cond.code yX2_drawFrom cX2_drawFrom 5 none, Cond.fieldLink RX2 15 "CosetTable$Inference" "relators" "LCosetTable$WordList;", Cond.fieldLink RX2 9 "CosetTable$Inference" "cosets" "LCosetTable$Cosets;", Cond.constant RX2 45 (1000000), Cond.methodLink RX2 28 yX1_lives, Cond.instanceMethod yX1_lives, Cond.selects RX1 yX1_lives yX1_lives, Cond.initialized RX1, Cond.code yX1_lives cX1_lives 2 (some .boolean), Cond.fieldLink RX1 32 "CosetTable$Cosets" "made" "I", Cond.fieldLink RX1 15 "CosetTable$Cosets" "leaders" "[I", Cond.methodLink RX2 38 yX2_close, Cond.instanceMethod yX2_close, Cond.selects RX2 yX2_close yX2_close, Cond.code yX2_close cX2_close 9 none, Cond.methodLink RX2 70 yX3_around, Cond.instanceMethod yX3_around]
def wsX5_run_r2 : List Cond := [Cond.selects RX3 yX3_around yX3_around, Cond.initialized RX3, Cond.code yX3_around cX3_around 2 (some .int), Cond.fieldLink RX3 9 "CosetTable$Word" "columns" "[I", Cond.fieldLink RX3 15 "CosetTable$Word" "length" "I", Cond.methodLink RX2 62 yX1_at, Cond.instanceMethod yX1_at, Cond.selects RX1 yX1_at yX1_at, Cond.code yX1_at cX1_at 3 (some .int), Cond.fieldLink RX1 9 "CosetTable$Cosets" "entries" "[I", Cond.methodLink RX2 74 yX1_unite, Cond.instanceMethod yX1_unite, Cond.selects RX1 yX1_unite yX1_unite, Cond.code yX1_unite cX1_unite 4 none, Cond.fieldLink RX1 59 "CosetTable$Cosets" "fallenCount" "I", Cond.fieldLink RX1 18 "CosetTable$Cosets" "fallen" "[I", Cond.methodLink RX1 62 yX1_fall, Cond.instanceMethod yX1_fall, Cond.selects RX1 yX1_fall yX1_fall, Cond.code yX1_fall cX1_fall 6 none, Cond.fieldLink RX1 35 "CosetTable$Cosets" "living" "I", Cond.methodLink RX1 66 yX1_handOver, Cond.instanceMethod yX1_handOver, Cond.selects RX1 yX1_handOver yX1_handOver]
def wsX5_run_r3 : List Cond := [Cond.code yX1_handOver cX1_handOver 6 none, Cond.fieldLink RX1 28 "CosetTable$Cosets" "columns" "I", Cond.methodLink RX1 70 yX1_at, Cond.methodLink RX1 52 yX1_join, Cond.instanceMethod yX1_join, Cond.selects RX1 yX1_join yX1_join, Cond.code yX1_join cX1_join 5 none, Cond.fieldLink RX1 24 "CosetTable$Cosets" "isFresh" "[Z", Cond.fieldLink RX1 21 "CosetTable$Cosets" "fresh" "[I", Cond.fieldLink RX1 56 "CosetTable$Cosets" "freshCount" "I", Cond.methodLink RX2 78 yX1_join, Cond.methodLink RX2 42 yX2_drawFromSubgroup, Cond.instanceMethod yX2_drawFromSubgroup, Cond.selects RX2 yX2_drawFromSubgroup yX2_drawFromSubgroup, Cond.code yX2_drawFromSubgroup cX2_drawFromSubgroup 2 none, Cond.fieldLink RX2 19 "CosetTable$Inference" "subgroupWords" "LCosetTable$WordList;", Cond.methodLink RX2 49 yX1_takeFresh, Cond.instanceMethod yX1_takeFresh, Cond.selects RX1 yX1_takeFresh yX1_takeFresh, Cond.code yX1_takeFresh cX1_takeFresh 1 (some .int), Cond.methodLink RX2 53 yX2_drawThrough, Cond.instanceMethod yX2_drawThrough, Cond.selects RX2 yX2_drawThrough yX2_drawThrough, Cond.code yX2_drawThrough cX2_drawThrough 6 none]
def wsX5_run_r4 : List Cond := [Cond.methodLink RX5 87 yX1_findOpen, Cond.instanceMethod yX1_findOpen, Cond.selects RX1 yX1_findOpen yX1_findOpen, Cond.code yX1_findOpen cX1_findOpen 1 (some .boolean), Cond.fieldLink RX1 38 "CosetTable$Cosets" "open" "I", Cond.methodLink RX1 45 yX1_isOpen, Cond.instanceMethod yX1_isOpen, Cond.selects RX1 yX1_isOpen yX1_isOpen, Cond.code yX1_isOpen cX1_isOpen 2 (some .boolean), Cond.methodLink RX1 49 yX1_lives, Cond.methodLink RX5 91 yX1_makeNeighbour, Cond.instanceMethod yX1_makeNeighbour, Cond.selects RX1 yX1_makeNeighbour yX1_makeNeighbour, Cond.code yX1_makeNeighbour cX1_makeNeighbour 2 (some .int), Cond.methodLink RX1 41 yX1_make, Cond.instanceMethod yX1_make, Cond.selects RX1 yX1_make yX1_make, Cond.code yX1_make cX1_make 3 (some .int), Cond.methodLink RX5 95 yX0_giveNumbers, Cond.instanceMethod yX0_giveNumbers, Cond.selects RX0 yX0_giveNumbers yX0_giveNumbers, Cond.initialized RX0, Cond.code yX0_giveNumbers cX0_giveNumbers 3 none, Cond.fieldLink RX0 9 "CosetTable$Action" "numbers" "[I"]
def wsX5_run_r5 : List Cond := [Cond.fieldLink RX0 33 "CosetTable$Action" "size" "I", Cond.fieldLink RX0 25 "CosetTable$Action" "cosets" "LCosetTable$Cosets;", Cond.fieldLink RX0 15 "CosetTable$Action" "names" "[I", Cond.methodLink RX0 37 yJ7_fill_53178, Cond.static yJ7_fill_53178, Cond.initialized RJ7, Cond.code yJ7_fill_53178 cJ7_fill_53178 4 none, Cond.methodLink RX0 43 yX0_giveNextNumber, Cond.instanceMethod yX0_giveNextNumber, Cond.selects RX0 yX0_giveNextNumber yX0_giveNextNumber, Cond.code yX0_giveNextNumber cX0_giveNextNumber 2 none, Cond.methodLink RX0 52 yX1_at]
def wsX5_run : List Cond := .code yX5_run cX5_run 3 (some .int) :: ((wsX5_run_r1 ++ (wsX5_run_r2 ++ (wsX5_run_r3 ++ (wsX5_run_r4 ++ wsX5_run_r5)))) ++ wsX50 ++ wsX10 ++ wsX20 ++ wsX40 ++ wsX30 ++ wsX00)
def wsX5_count_r1 : List Cond := [Cond.fieldLink RX5 31 "CosetTable" "cosets" "LCosetTable$Cosets;", Cond.fieldLink RX5 49 "CosetTable" "action" "LCosetTable$Action;", Cond.fieldLink RX5 21 "CosetTable" "relators" "LCosetTable$WordList;", Cond.fieldLink RX5 25 "CosetTable" "subgroupWords" "LCosetTable$WordList;", Cond.fieldLink RX5 12 "CosetTable" "hand" "LCosetTable$Word;", Cond.methodLink RX5 101 yX1_countOpen, Cond.instanceMethod yX1_countOpen, Cond.selects RX1 yX1_countOpen yX1_countOpen, Cond.initialized RX1, Cond.code yX1_countOpen cX1_countOpen 3 (some .int), Cond.fieldLink RX1 32 "CosetTable$Cosets" "made" "I", Cond.methodLink RX1 45 yX1_isOpen, Cond.instanceMethod yX1_isOpen, Cond.selects RX1 yX1_isOpen yX1_isOpen, Cond.code yX1_isOpen cX1_isOpen 2 (some .boolean), Cond.fieldLink RX1 28 "CosetTable$Cosets" "columns" "I", Cond.fieldLink RX1 9 "CosetTable$Cosets" "entries" "[I", Cond.methodLink RX1 49 yX1_lives, Cond.instanceMethod yX1_lives, Cond.selects RX1 yX1_lives yX1_lives, Cond.code yX1_lives cX1_lives 2 (some .boolean), Cond.fieldLink RX1 15 "CosetTable$Cosets" "leaders" "[I", Cond.methodLink RX5 104 yX0_isReady, Cond.instanceMethod yX0_isReady]
def wsX5_count_r2 : List Cond := [Cond.selects RX0 yX0_isReady yX0_isReady, Cond.initialized RX0, Cond.code yX0_isReady cX0_isReady 1 (some .boolean), Cond.fieldLink RX0 33 "CosetTable$Action" "size" "I"]
def wsX5_count : List Cond := .code yX5_count cX5_count 2 (some .int) :: ((wsX5_count_r1 ++ wsX5_count_r2) ++ wsX50 ++ wsX10 ++ wsX00 ++ wsX40 ++ wsX30)
def wsX5_known : List Cond := .code yX5_known cX5_known 4 (some .int) :: ([.fieldLink RX5 31 "CosetTable" "cosets" "LCosetTable$Cosets;", .methodLink RX5 66 yX5_isLetter, .instanceMethod yX5_isLetter, .selects RX5 yX5_isLetter yX5_isLetter, .initialized RX5, .code yX5_isLetter cX5_isLetter 2 (some .boolean), .fieldLink RX5 53 "CosetTable" "generators" "I", .methodLink RX5 108 yX1_lives, .instanceMethod yX1_lives, .selects RX1 yX1_lives yX1_lives, .initialized RX1, .code yX1_lives cX1_lives 2 (some .boolean), .fieldLink RX1 32 "CosetTable$Cosets" "made" "I", .fieldLink RX1 15 "CosetTable$Cosets" "leaders" "[I", .methodLink RX5 70 yX5_columnOf, .static yX5_columnOf, .code yX5_columnOf cX5_columnOf 1 (some .int), .methodLink RX5 111 yX1_at, .instanceMethod yX1_at, .selects RX1 yX1_at yX1_at, .code yX1_at cX1_at 3 (some .int), .fieldLink RX1 9 "CosetTable$Cosets" "entries" "[I"] ++ wsX50 ++ wsX10)
def wsX5_number : List Cond := .code yX5_number cX5_number 2 (some .int) :: ([.fieldLink RX5 49 "CosetTable" "action" "LCosetTable$Action;", .fieldLink RX5 31 "CosetTable" "cosets" "LCosetTable$Cosets;", .methodLink RX5 104 yX0_isReady, .instanceMethod yX0_isReady, .selects RX0 yX0_isReady yX0_isReady, .initialized RX0, .code yX0_isReady cX0_isReady 1 (some .boolean), .fieldLink RX0 33 "CosetTable$Action" "size" "I", .methodLink RX5 108 yX1_lives, .instanceMethod yX1_lives, .selects RX1 yX1_lives yX1_lives, .initialized RX1, .code yX1_lives cX1_lives 2 (some .boolean), .fieldLink RX1 32 "CosetTable$Cosets" "made" "I", .fieldLink RX1 15 "CosetTable$Cosets" "leaders" "[I"] ++ wsX50 ++ wsX00 ++ wsX10)
def wsX5_entry_r1 : List Cond := [Cond.fieldLink RX5 49 "CosetTable" "action" "LCosetTable$Action;", Cond.methodLink RX5 119 yX0_hasNumber, Cond.instanceMethod yX0_hasNumber, Cond.selects RX0 yX0_hasNumber yX0_hasNumber, Cond.initialized RX0, Cond.code yX0_hasNumber cX0_hasNumber 2 (some .boolean), Cond.fieldLink RX0 33 "CosetTable$Action" "size" "I", Cond.methodLink RX5 66 yX5_isLetter, Cond.instanceMethod yX5_isLetter, Cond.selects RX5 yX5_isLetter yX5_isLetter, Cond.initialized RX5, Cond.code yX5_isLetter cX5_isLetter 2 (some .boolean), Cond.fieldLink RX5 53 "CosetTable" "generators" "I", Cond.methodLink RX5 70 yX5_columnOf, Cond.static yX5_columnOf, Cond.code yX5_columnOf cX5_columnOf 1 (some .int), Cond.methodLink RX5 122 yX0_letterImage, Cond.instanceMethod yX0_letterImage, Cond.selects RX0 yX0_letterImage yX0_letterImage, Cond.code yX0_letterImage cX0_letterImage 3 (some .int), Cond.fieldLink RX0 9 "CosetTable$Action" "numbers" "[I", Cond.fieldLink RX0 25 "CosetTable$Action" "cosets" "LCosetTable$Cosets;", Cond.fieldLink RX0 15 "CosetTable$Action" "names" "[I", Cond.methodLink RX0 52 yX1_at]
def wsX5_entry_r2 : List Cond := [Cond.instanceMethod yX1_at, Cond.selects RX1 yX1_at yX1_at, Cond.initialized RX1, Cond.code yX1_at cX1_at 3 (some .int), Cond.fieldLink RX1 9 "CosetTable$Cosets" "entries" "[I"]
def wsX5_entry : List Cond := .code yX5_entry cX5_entry 3 (some .int) :: ((wsX5_entry_r1 ++ wsX5_entry_r2) ++ wsX50 ++ wsX00 ++ wsX10)
def wsX5_move : List Cond := .code yX5_move cX5_move 2 (some .int) :: ([.fieldLink RX5 49 "CosetTable" "action" "LCosetTable$Action;", .fieldLink RX5 12 "CosetTable" "hand" "LCosetTable$Word;", .methodLink RX5 119 yX0_hasNumber, .instanceMethod yX0_hasNumber, .selects RX0 yX0_hasNumber yX0_hasNumber, .initialized RX0, .code yX0_hasNumber cX0_hasNumber 2 (some .boolean), .fieldLink RX0 33 "CosetTable$Action" "size" "I", .methodLink RX5 125 yX0_image, .instanceMethod yX0_image, .selects RX0 yX0_image yX0_image, .code yX0_image cX0_image 5 (some .int), .fieldLink RX0 15 "CosetTable$Action" "names" "[I", .fieldLink RX0 25 "CosetTable$Action" "cosets" "LCosetTable$Cosets;", .fieldLink RX0 9 "CosetTable$Action" "numbers" "[I", .methodLink RX0 52 yX1_at, .instanceMethod yX1_at, .selects RX1 yX1_at yX1_at, .initialized RX1, .code yX1_at cX1_at 3 (some .int), .fieldLink RX1 9 "CosetTable$Cosets" "entries" "[I"] ++ wsX50 ++ wsX00 ++ wsX30 ++ wsX10)
def wsX5_cycles_r1 : List Cond := [Cond.fieldLink RX5 49 "CosetTable" "action" "LCosetTable$Action;", Cond.fieldLink RX5 12 "CosetTable" "hand" "LCosetTable$Word;", Cond.methodLink RX5 104 yX0_isReady, Cond.instanceMethod yX0_isReady, Cond.selects RX0 yX0_isReady yX0_isReady, Cond.initialized RX0, Cond.code yX0_isReady cX0_isReady 1 (some .boolean), Cond.fieldLink RX0 33 "CosetTable$Action" "size" "I", Cond.methodLink RX5 129 yX0_countCycles, Cond.instanceMethod yX0_countCycles, Cond.selects RX0 yX0_countCycles yX0_countCycles, Cond.code yX0_countCycles cX0_countCycles 6 (some .int), Cond.methodLink RX0 63 yX0_forgetSeen, Cond.instanceMethod yX0_forgetSeen, Cond.selects RX0 yX0_forgetSeen yX0_forgetSeen, Cond.code yX0_forgetSeen cX0_forgetSeen 2 none, Cond.fieldLink RX0 18 "CosetTable$Action" "seen" "[Z", Cond.methodLink RX0 66 yX0_seeCycle, Cond.instanceMethod yX0_seeCycle, Cond.selects RX0 yX0_seeCycle yX0_seeCycle, Cond.code yX0_seeCycle cX0_seeCycle 5 (some .int), Cond.methodLink RX0 74 yX0_image, Cond.instanceMethod yX0_image, Cond.selects RX0 yX0_image yX0_image]
def wsX5_cycles_r2 : List Cond := [Cond.code yX0_image cX0_image 5 (some .int), Cond.fieldLink RX0 15 "CosetTable$Action" "names" "[I", Cond.fieldLink RX0 25 "CosetTable$Action" "cosets" "LCosetTable$Cosets;", Cond.fieldLink RX0 9 "CosetTable$Action" "numbers" "[I", Cond.methodLink RX0 52 yX1_at, Cond.instanceMethod yX1_at, Cond.selects RX1 yX1_at yX1_at, Cond.initialized RX1, Cond.code yX1_at cX1_at 3 (some .int), Cond.fieldLink RX1 9 "CosetTable$Cosets" "entries" "[I"]
def wsX5_cycles : List Cond := .code yX5_cycles cX5_cycles 2 (some .int) :: ((wsX5_cycles_r1 ++ wsX5_cycles_r2) ++ wsX50 ++ wsX00 ++ wsX30 ++ wsX10)
def wsX5_order_r1 : List Cond := [Cond.fieldLink RX5 49 "CosetTable" "action" "LCosetTable$Action;", Cond.fieldLink RX5 12 "CosetTable" "hand" "LCosetTable$Word;", Cond.constantLong RX5 137 (-1), Cond.methodLink RX5 104 yX0_isReady, Cond.instanceMethod yX0_isReady, Cond.selects RX0 yX0_isReady yX0_isReady, Cond.initialized RX0, Cond.code yX0_isReady cX0_isReady 1 (some .boolean), Cond.fieldLink RX0 33 "CosetTable$Action" "size" "I", Cond.methodLink RX5 133 yX0_orderOf, Cond.instanceMethod yX0_orderOf, Cond.selects RX0 yX0_orderOf yX0_orderOf, Cond.code yX0_orderOf cX0_orderOf 6 (some .long), Cond.methodLink RX0 63 yX0_forgetSeen, Cond.instanceMethod yX0_forgetSeen, Cond.selects RX0 yX0_forgetSeen yX0_forgetSeen, Cond.code yX0_forgetSeen cX0_forgetSeen 2 none, Cond.fieldLink RX0 18 "CosetTable$Action" "seen" "[Z", Cond.methodLink RX0 66 yX0_seeCycle, Cond.instanceMethod yX0_seeCycle, Cond.selects RX0 yX0_seeCycle yX0_seeCycle, Cond.code yX0_seeCycle cX0_seeCycle 5 (some .int), Cond.methodLink RX0 74 yX0_image, Cond.instanceMethod yX0_image]
def wsX5_order_r2 : List Cond := [Cond.selects RX0 yX0_image yX0_image, Cond.code yX0_image cX0_image 5 (some .int), Cond.fieldLink RX0 15 "CosetTable$Action" "names" "[I", Cond.fieldLink RX0 25 "CosetTable$Action" "cosets" "LCosetTable$Cosets;", Cond.fieldLink RX0 9 "CosetTable$Action" "numbers" "[I", Cond.methodLink RX0 52 yX1_at, Cond.instanceMethod yX1_at, Cond.selects RX1 yX1_at yX1_at, Cond.initialized RX1, Cond.code yX1_at cX1_at 3 (some .int), Cond.fieldLink RX1 9 "CosetTable$Cosets" "entries" "[I", Cond.methodLink RX0 70 yX0_leastCommonMultiple, Cond.static yX0_leastCommonMultiple, Cond.code yX0_leastCommonMultiple cX0_leastCommonMultiple 11 (some .long), Cond.constant RX0 94 (1000000)]
def wsX5_order : List Cond := .code yX5_order cX5_order 1 (some .long) :: ((wsX5_order_r1 ++ wsX5_order_r2) ++ wsX50 ++ wsX00 ++ wsX30 ++ wsX10)
def wsX5_resting_r1 : List Cond := [Cond.fieldLink RX5 49 "CosetTable" "action" "LCosetTable$Action;", Cond.methodLink RX5 104 yX0_isReady, Cond.instanceMethod yX0_isReady, Cond.selects RX0 yX0_isReady yX0_isReady, Cond.initialized RX0, Cond.code yX0_isReady cX0_isReady 1 (some .boolean), Cond.fieldLink RX0 33 "CosetTable$Action" "size" "I", Cond.methodLink RX5 139 yX0_countResting, Cond.instanceMethod yX0_countResting, Cond.selects RX0 yX0_countResting yX0_countResting, Cond.code yX0_countResting cX0_countResting 3 (some .int), Cond.methodLink RX0 78 yX0_rests, Cond.instanceMethod yX0_rests, Cond.selects RX0 yX0_rests yX0_rests, Cond.code yX0_rests cX0_rests 3 (some .boolean), Cond.fieldLink RX0 29 "CosetTable$Action" "subgroupWords" "LCosetTable$WordList;", Cond.methodLink RX0 74 yX0_image, Cond.instanceMethod yX0_image, Cond.selects RX0 yX0_image yX0_image, Cond.code yX0_image cX0_image 5 (some .int), Cond.fieldLink RX0 15 "CosetTable$Action" "names" "[I", Cond.fieldLink RX0 25 "CosetTable$Action" "cosets" "LCosetTable$Cosets;", Cond.fieldLink RX0 9 "CosetTable$Action" "numbers" "[I", Cond.methodLink RX0 52 yX1_at]
def wsX5_resting_r2 : List Cond := [Cond.instanceMethod yX1_at, Cond.selects RX1 yX1_at yX1_at, Cond.initialized RX1, Cond.code yX1_at cX1_at 3 (some .int), Cond.fieldLink RX1 9 "CosetTable$Cosets" "entries" "[I"]
def wsX5_resting : List Cond := .code yX5_resting cX5_resting 1 (some .int) :: ((wsX5_resting_r1 ++ wsX5_resting_r2) ++ wsX50 ++ wsX00 ++ wsX40 ++ wsX30 ++ wsX10)
def wsX5_orbit_r1 : List Cond := [Cond.fieldLink RX5 49 "CosetTable" "action" "LCosetTable$Action;", Cond.methodLink RX5 119 yX0_hasNumber, Cond.instanceMethod yX0_hasNumber, Cond.selects RX0 yX0_hasNumber yX0_hasNumber, Cond.initialized RX0, Cond.code yX0_hasNumber cX0_hasNumber 2 (some .boolean), Cond.fieldLink RX0 33 "CosetTable$Action" "size" "I", Cond.methodLink RX5 142 yX0_lowestJoined, Cond.instanceMethod yX0_lowestJoined, Cond.selects RX0 yX0_lowestJoined yX0_lowestJoined, Cond.code yX0_lowestJoined cX0_lowestJoined 7 (some .int), Cond.fieldLink RX0 18 "CosetTable$Action" "seen" "[Z", Cond.fieldLink RX0 22 "CosetTable$Action" "reached" "[I", Cond.fieldLink RX0 29 "CosetTable$Action" "subgroupWords" "LCosetTable$WordList;", Cond.methodLink RX0 89 Lib.Math.min.name, Cond.static Lib.Math.min.name, Cond.initialized "java/lang/Math", Cond.code Lib.Math.min.name Lib.Math.min.code 2 (some .int), Cond.methodLink RX0 63 yX0_forgetSeen, Cond.instanceMethod yX0_forgetSeen, Cond.selects RX0 yX0_forgetSeen yX0_forgetSeen, Cond.code yX0_forgetSeen cX0_forgetSeen 2 none, Cond.methodLink RX0 74 yX0_image, Cond.instanceMethod yX0_image]
def wsX5_orbit_r2 : List Cond := [Cond.selects RX0 yX0_image yX0_image, Cond.code yX0_image cX0_image 5 (some .int), Cond.fieldLink RX0 15 "CosetTable$Action" "names" "[I", Cond.fieldLink RX0 25 "CosetTable$Action" "cosets" "LCosetTable$Cosets;", Cond.fieldLink RX0 9 "CosetTable$Action" "numbers" "[I", Cond.methodLink RX0 52 yX1_at, Cond.instanceMethod yX1_at, Cond.selects RX1 yX1_at yX1_at, Cond.initialized RX1, Cond.code yX1_at cX1_at 3 (some .int), Cond.fieldLink RX1 9 "CosetTable$Cosets" "entries" "[I"]
def wsX5_orbit : List Cond := .code yX5_orbit cX5_orbit 2 (some .int) :: ((wsX5_orbit_r1 ++ wsX5_orbit_r2) ++ wsX50 ++ wsX00 ++ wsX40 ++ wsX30 ++ wsX10)
def wsX6_fresh : List Cond := .code yX6_fresh cX6_fresh 2 none :: ([.fieldLink RX6 45 "CosetTableModel" "made" "I", .fieldLink RX6 16 "CosetTableModel" "now" "[I", .fieldLink RX6 19 "CosetTableModel" "table" "[I"] ++ wsX60)
def wsX6_begin : List Cond := .code yX6_begin cX6_begin 2 (some .int) :: ([.fieldLink RX6 49 "CosetTableModel" "n" "I", .fieldLink RX6 52 "CosetTableModel" "relators" "I", .fieldLink RX6 55 "CosetTableModel" "subgroup" "I", .fieldLink RX6 13 "CosetTableModel" "sizes" "[I", .methodLink RX6 58 yX6_fresh, .instanceMethod yX6_fresh, .selects RX6 yX6_fresh yX6_fresh, .initialized RX6, .code yX6_fresh cX6_fresh 2 none, .fieldLink RX6 45 "CosetTableModel" "made" "I", .fieldLink RX6 16 "CosetTableModel" "now" "[I", .fieldLink RX6 19 "CosetTableModel" "table" "[I"] ++ wsX60)
def wsX6_init_r1 : List Cond := [Cond.methodLink RX6 1 objectInit, Cond.instanceMethod objectInit, Cond.code objectInit ⟨#[0xb1]⟩ 1 none, Cond.arrayClass .int, Cond.fieldLink RX6 7 "CosetTableModel" "letters" "[I", Cond.fieldLink RX6 13 "CosetTableModel" "sizes" "[I", Cond.fieldLink RX6 16 "CosetTableModel" "now" "[I", Cond.fieldLink RX6 19 "CosetTableModel" "table" "[I", Cond.fieldLink RX6 22 "CosetTableModel" "one" "[I", Cond.fieldLink RX6 25 "CosetTableModel" "two" "[I", Cond.fieldLink RX6 28 "CosetTableModel" "numbers" "[I", Cond.fieldLink RX6 31 "CosetTableModel" "names" "[I", Cond.arrayClass .boolean, Cond.fieldLink RX6 34 "CosetTableModel" "seen" "[Z", Cond.fieldLink RX6 38 "CosetTableModel" "low" "[I", Cond.methodLink RX6 41 yX6_begin, Cond.instanceMethod yX6_begin, Cond.selects RX6 yX6_begin yX6_begin, Cond.initialized RX6, Cond.code yX6_begin cX6_begin 2 (some .int), Cond.fieldLink RX6 49 "CosetTableModel" "n" "I", Cond.fieldLink RX6 52 "CosetTableModel" "relators" "I", Cond.fieldLink RX6 55 "CosetTableModel" "subgroup" "I", Cond.methodLink RX6 58 yX6_fresh]
def wsX6_init_r2 : List Cond := [Cond.instanceMethod yX6_fresh, Cond.selects RX6 yX6_fresh yX6_fresh, Cond.code yX6_fresh cX6_fresh 2 none, Cond.fieldLink RX6 45 "CosetTableModel" "made" "I"]
def wsX6_init : List Cond := .code yX6_init cX6_init 2 none :: ((wsX6_init_r1 ++ wsX6_init_r2) ++ wsX60)
def wsX6_isLetter : List Cond := .code yX6_isLetter cX6_isLetter 2 (some .boolean) :: ([.fieldLink RX6 49 "CosetTableModel" "n" "I"] ++ wsX60)
def wsX6_column : List Cond := .code yX6_column cX6_column 1 (some .int) :: ([])
def wsX6_letter : List Cond := .code yX6_letter cX6_letter 2 (some .int) :: ([.fieldLink RX6 13 "CosetTableModel" "sizes" "[I", .fieldLink RX6 7 "CosetTableModel" "letters" "[I", .methodLink RX6 61 yX6_isLetter, .instanceMethod yX6_isLetter, .selects RX6 yX6_isLetter yX6_isLetter, .initialized RX6, .code yX6_isLetter cX6_isLetter 2 (some .boolean), .fieldLink RX6 49 "CosetTableModel" "n" "I", .methodLink RX6 65 yX6_column, .static yX6_column, .code yX6_column cX6_column 1 (some .int)] ++ wsX60)
def wsX6_clear : List Cond := .code yX6_clear cX6_clear 2 (some .int) :: ([.fieldLink RX6 13 "CosetTableModel" "sizes" "[I"] ++ wsX60)
def wsX6_become : List Cond := .code yX6_become cX6_become 3 none :: ([.fieldLink RX6 13 "CosetTableModel" "sizes" "[I", .fieldLink RX6 7 "CosetTableModel" "letters" "[I", .methodLink RX6 58 yX6_fresh, .instanceMethod yX6_fresh, .selects RX6 yX6_fresh yX6_fresh, .initialized RX6, .code yX6_fresh cX6_fresh 2 none, .fieldLink RX6 45 "CosetTableModel" "made" "I", .fieldLink RX6 16 "CosetTableModel" "now" "[I", .fieldLink RX6 19 "CosetTableModel" "table" "[I"] ++ wsX60)
def wsX6_relator : List Cond := .code yX6_relator cX6_relator 1 (some .int) :: ([.fieldLink RX6 13 "CosetTableModel" "sizes" "[I", .fieldLink RX6 52 "CosetTableModel" "relators" "I", .methodLink RX6 68 yX6_become, .instanceMethod yX6_become, .selects RX6 yX6_become yX6_become, .initialized RX6, .code yX6_become cX6_become 3 none, .fieldLink RX6 7 "CosetTableModel" "letters" "[I", .methodLink RX6 58 yX6_fresh, .instanceMethod yX6_fresh, .selects RX6 yX6_fresh yX6_fresh, .code yX6_fresh cX6_fresh 2 none, .fieldLink RX6 45 "CosetTableModel" "made" "I", .fieldLink RX6 16 "CosetTableModel" "now" "[I", .fieldLink RX6 19 "CosetTableModel" "table" "[I"] ++ wsX60)
def wsX6_subgroup : List Cond := .code yX6_subgroup cX6_subgroup 1 (some .int) :: ([.fieldLink RX6 13 "CosetTableModel" "sizes" "[I", .fieldLink RX6 55 "CosetTableModel" "subgroup" "I", .methodLink RX6 68 yX6_become, .instanceMethod yX6_become, .selects RX6 yX6_become yX6_become, .initialized RX6, .code yX6_become cX6_become 3 none, .fieldLink RX6 7 "CosetTableModel" "letters" "[I", .methodLink RX6 58 yX6_fresh, .instanceMethod yX6_fresh, .selects RX6 yX6_fresh yX6_fresh, .code yX6_fresh cX6_fresh 2 none, .fieldLink RX6 45 "CosetTableModel" "made" "I", .fieldLink RX6 16 "CosetTableModel" "now" "[I", .fieldLink RX6 19 "CosetTableModel" "table" "[I"] ++ wsX60)
def wsX6_real : List Cond := .code yX6_real cX6_real 3 (some .int) :: ([.fieldLink RX6 16 "CosetTableModel" "now" "[I"] ++ wsX60)
def wsX6_pair : List Cond := .code yX6_pair cX6_pair 3 none :: ([.fieldLink RX6 22 "CosetTableModel" "one" "[I", .fieldLink RX6 72 "CosetTableModel" "pairs" "I", .fieldLink RX6 25 "CosetTableModel" "two" "[I"] ++ wsX60)
def wsX6_learn : List Cond := .code yX6_learn cX6_learn 9 none :: ([.fieldLink RX6 19 "CosetTableModel" "table" "[I", .fieldLink RX6 78 "CosetTableModel" "changed" "Z", .methodLink RX6 75 yX6_real, .instanceMethod yX6_real, .selects RX6 yX6_real yX6_real, .initialized RX6, .code yX6_real cX6_real 3 (some .int), .fieldLink RX6 16 "CosetTableModel" "now" "[I", .methodLink RX6 82 yX6_pair, .instanceMethod yX6_pair, .selects RX6 yX6_pair yX6_pair, .code yX6_pair cX6_pair 3 none, .fieldLink RX6 22 "CosetTableModel" "one" "[I", .fieldLink RX6 72 "CosetTableModel" "pairs" "I", .fieldLink RX6 25 "CosetTableModel" "two" "[I"] ++ wsX60)
def wsX6_join : List Cond := .code yX6_join cX6_join 7 none :: ([.fieldLink RX6 72 "CosetTableModel" "pairs" "I", .fieldLink RX6 22 "CosetTableModel" "one" "[I", .fieldLink RX6 25 "CosetTableModel" "two" "[I", .fieldLink RX6 16 "CosetTableModel" "now" "[I", .fieldLink RX6 78 "CosetTableModel" "changed" "Z", .fieldLink RX6 19 "CosetTableModel" "table" "[I", .fieldLink RX6 45 "CosetTableModel" "made" "I", .methodLink RX6 75 yX6_real, .instanceMethod yX6_real, .selects RX6 yX6_real yX6_real, .initialized RX6, .code yX6_real cX6_real 3 (some .int), .methodLink RX6 86 yX6_learn, .instanceMethod yX6_learn, .selects RX6 yX6_learn yX6_learn, .code yX6_learn cX6_learn 9 none, .methodLink RX6 82 yX6_pair, .instanceMethod yX6_pair, .selects RX6 yX6_pair yX6_pair, .code yX6_pair cX6_pair 3 none] ++ wsX60)
def wsX6_attempt_r1 : List Cond := [Cond.fieldLink RX6 13 "CosetTableModel" "sizes" "[I", Cond.fieldLink RX6 19 "CosetTableModel" "table" "[I", Cond.fieldLink RX6 7 "CosetTableModel" "letters" "[I", Cond.methodLink RX6 82 yX6_pair, Cond.instanceMethod yX6_pair, Cond.selects RX6 yX6_pair yX6_pair, Cond.initialized RX6, Cond.code yX6_pair cX6_pair 3 none, Cond.fieldLink RX6 22 "CosetTableModel" "one" "[I", Cond.fieldLink RX6 72 "CosetTableModel" "pairs" "I", Cond.fieldLink RX6 25 "CosetTableModel" "two" "[I", Cond.methodLink RX6 90 yX6_join, Cond.instanceMethod yX6_join, Cond.selects RX6 yX6_join yX6_join, Cond.code yX6_join cX6_join 7 none, Cond.fieldLink RX6 16 "CosetTableModel" "now" "[I", Cond.fieldLink RX6 78 "CosetTableModel" "changed" "Z", Cond.fieldLink RX6 45 "CosetTableModel" "made" "I", Cond.methodLink RX6 75 yX6_real, Cond.instanceMethod yX6_real, Cond.selects RX6 yX6_real yX6_real, Cond.code yX6_real cX6_real 3 (some .int), Cond.methodLink RX6 86 yX6_learn, Cond.instanceMethod yX6_learn]
def wsX6_attempt_r2 : List Cond := [Cond.selects RX6 yX6_learn yX6_learn, Cond.code yX6_learn cX6_learn 9 none]
def wsX6_attempt : List Cond := .code yX6_attempt cX6_attempt 9 none :: ((wsX6_attempt_r1 ++ wsX6_attempt_r2) ++ wsX60)
def wsX6_follow_r1 : List Cond := [Cond.fieldLink RX6 78 "CosetTableModel" "changed" "Z", Cond.fieldLink RX6 45 "CosetTableModel" "made" "I", Cond.fieldLink RX6 52 "CosetTableModel" "relators" "I", Cond.fieldLink RX6 16 "CosetTableModel" "now" "[I", Cond.fieldLink RX6 55 "CosetTableModel" "subgroup" "I", Cond.methodLink RX6 93 yX6_attempt, Cond.instanceMethod yX6_attempt, Cond.selects RX6 yX6_attempt yX6_attempt, Cond.initialized RX6, Cond.code yX6_attempt cX6_attempt 9 none, Cond.fieldLink RX6 13 "CosetTableModel" "sizes" "[I", Cond.fieldLink RX6 19 "CosetTableModel" "table" "[I", Cond.fieldLink RX6 7 "CosetTableModel" "letters" "[I", Cond.methodLink RX6 82 yX6_pair, Cond.instanceMethod yX6_pair, Cond.selects RX6 yX6_pair yX6_pair, Cond.code yX6_pair cX6_pair 3 none, Cond.fieldLink RX6 22 "CosetTableModel" "one" "[I", Cond.fieldLink RX6 72 "CosetTableModel" "pairs" "I", Cond.fieldLink RX6 25 "CosetTableModel" "two" "[I", Cond.methodLink RX6 90 yX6_join, Cond.instanceMethod yX6_join, Cond.selects RX6 yX6_join yX6_join, Cond.code yX6_join cX6_join 7 none]
def wsX6_follow_r2 : List Cond := [Cond.methodLink RX6 75 yX6_real, Cond.instanceMethod yX6_real, Cond.selects RX6 yX6_real yX6_real, Cond.code yX6_real cX6_real 3 (some .int), Cond.methodLink RX6 86 yX6_learn, Cond.instanceMethod yX6_learn, Cond.selects RX6 yX6_learn yX6_learn, Cond.code yX6_learn cX6_learn 9 none]
def wsX6_follow : List Cond := .code yX6_follow cX6_follow 3 none :: ((wsX6_follow_r1 ++ wsX6_follow_r2) ++ wsX60)
def wsX6_open : List Cond := .code yX6_open cX6_open 3 (some .int) :: ([.fieldLink RX6 45 "CosetTableModel" "made" "I", .fieldLink RX6 49 "CosetTableModel" "n" "I", .fieldLink RX6 16 "CosetTableModel" "now" "[I", .fieldLink RX6 19 "CosetTableModel" "table" "[I"] ++ wsX60)
def wsX6_run_r1 : List Cond := [Cond.fieldLink RX6 45 "CosetTableModel" "made" "I", Cond.fieldLink RX6 16 "CosetTableModel" "now" "[I", Cond.methodLink RX6 96 yX6_follow, Cond.instanceMethod yX6_follow, Cond.selects RX6 yX6_follow yX6_follow, Cond.initialized RX6, Cond.code yX6_follow cX6_follow 3 none, Cond.fieldLink RX6 78 "CosetTableModel" "changed" "Z", Cond.fieldLink RX6 52 "CosetTableModel" "relators" "I", Cond.fieldLink RX6 55 "CosetTableModel" "subgroup" "I", Cond.methodLink RX6 93 yX6_attempt, Cond.instanceMethod yX6_attempt, Cond.selects RX6 yX6_attempt yX6_attempt, Cond.code yX6_attempt cX6_attempt 9 none, Cond.fieldLink RX6 13 "CosetTableModel" "sizes" "[I", Cond.fieldLink RX6 19 "CosetTableModel" "table" "[I", Cond.fieldLink RX6 7 "CosetTableModel" "letters" "[I", Cond.methodLink RX6 82 yX6_pair, Cond.instanceMethod yX6_pair, Cond.selects RX6 yX6_pair yX6_pair, Cond.code yX6_pair cX6_pair 3 none, Cond.fieldLink RX6 22 "CosetTableModel" "one" "[I", Cond.fieldLink RX6 72 "CosetTableModel" "pairs" "I", Cond.fieldLink RX6 25 "CosetTableModel" "two" "[I"]
def wsX6_run_r2 : List Cond := [Cond.methodLink RX6 90 yX6_join, Cond.instanceMethod yX6_join, Cond.selects RX6 yX6_join yX6_join, Cond.code yX6_join cX6_join 7 none, Cond.methodLink RX6 75 yX6_real, Cond.instanceMethod yX6_real, Cond.selects RX6 yX6_real yX6_real, Cond.code yX6_real cX6_real 3 (some .int), Cond.methodLink RX6 86 yX6_learn, Cond.instanceMethod yX6_learn, Cond.selects RX6 yX6_learn yX6_learn, Cond.code yX6_learn cX6_learn 9 none, Cond.methodLink RX6 99 yX6_open, Cond.instanceMethod yX6_open, Cond.selects RX6 yX6_open yX6_open, Cond.code yX6_open cX6_open 3 (some .int), Cond.fieldLink RX6 49 "CosetTableModel" "n" "I"]
def wsX6_run : List Cond := .code yX6_run cX6_run 3 (some .int) :: ((wsX6_run_r1 ++ wsX6_run_r2) ++ wsX60)
def wsX6_cosets : List Cond := .code yX6_cosets cX6_cosets 3 (some .int) :: ([.fieldLink RX6 45 "CosetTableModel" "made" "I", .fieldLink RX6 16 "CosetTableModel" "now" "[I"] ++ wsX60)
def wsX6_unknown : List Cond := .code yX6_unknown cX6_unknown 4 (some .int) :: ([.fieldLink RX6 45 "CosetTableModel" "made" "I", .fieldLink RX6 49 "CosetTableModel" "n" "I", .fieldLink RX6 16 "CosetTableModel" "now" "[I", .fieldLink RX6 19 "CosetTableModel" "table" "[I"] ++ wsX60)
def wsX6_isComplete : List Cond := .code yX6_isComplete cX6_isComplete 1 (some .boolean) :: ([.methodLink RX6 99 yX6_open, .instanceMethod yX6_open, .selects RX6 yX6_open yX6_open, .initialized RX6, .code yX6_open cX6_open 3 (some .int), .fieldLink RX6 45 "CosetTableModel" "made" "I", .fieldLink RX6 49 "CosetTableModel" "n" "I", .fieldLink RX6 16 "CosetTableModel" "now" "[I", .fieldLink RX6 19 "CosetTableModel" "table" "[I"] ++ wsX60)
def wsX6_count : List Cond := .code yX6_count cX6_count 2 (some .int) :: ([.fieldLink RX6 45 "CosetTableModel" "made" "I", .fieldLink RX6 52 "CosetTableModel" "relators" "I", .fieldLink RX6 55 "CosetTableModel" "subgroup" "I", .fieldLink RX6 13 "CosetTableModel" "sizes" "[I", .methodLink RX6 103 yX6_cosets, .instanceMethod yX6_cosets, .selects RX6 yX6_cosets yX6_cosets, .initialized RX6, .code yX6_cosets cX6_cosets 3 (some .int), .fieldLink RX6 16 "CosetTableModel" "now" "[I", .methodLink RX6 106 yX6_unknown, .instanceMethod yX6_unknown, .selects RX6 yX6_unknown yX6_unknown, .code yX6_unknown cX6_unknown 4 (some .int), .fieldLink RX6 49 "CosetTableModel" "n" "I", .fieldLink RX6 19 "CosetTableModel" "table" "[I", .methodLink RX6 109 yX6_isComplete, .instanceMethod yX6_isComplete, .selects RX6 yX6_isComplete yX6_isComplete, .code yX6_isComplete cX6_isComplete 1 (some .boolean), .methodLink RX6 99 yX6_open, .instanceMethod yX6_open, .selects RX6 yX6_open yX6_open, .code yX6_open cX6_open 3 (some .int)] ++ wsX60)
def wsX6_isCoset : List Cond := .code yX6_isCoset cX6_isCoset 2 (some .boolean) :: ([.fieldLink RX6 45 "CosetTableModel" "made" "I", .fieldLink RX6 16 "CosetTableModel" "now" "[I"] ++ wsX60)
def wsX6_known : List Cond := .code yX6_known cX6_known 4 (some .int) :: ([.fieldLink RX6 19 "CosetTableModel" "table" "[I", .methodLink RX6 61 yX6_isLetter, .instanceMethod yX6_isLetter, .selects RX6 yX6_isLetter yX6_isLetter, .initialized RX6, .code yX6_isLetter cX6_isLetter 2 (some .boolean), .fieldLink RX6 49 "CosetTableModel" "n" "I", .methodLink RX6 113 yX6_isCoset, .instanceMethod yX6_isCoset, .selects RX6 yX6_isCoset yX6_isCoset, .code yX6_isCoset cX6_isCoset 2 (some .boolean), .fieldLink RX6 45 "CosetTableModel" "made" "I", .fieldLink RX6 16 "CosetTableModel" "now" "[I", .methodLink RX6 65 yX6_column, .static yX6_column, .code yX6_column cX6_column 1 (some .int)] ++ wsX60)
def wsX6_numberAll : List Cond := .code yX6_numberAll cX6_numberAll 4 (some .boolean) :: ([.fieldLink RX6 28 "CosetTableModel" "numbers" "[I", .fieldLink RX6 31 "CosetTableModel" "names" "[I", .fieldLink RX6 116 "CosetTableModel" "numbered" "I", .fieldLink RX6 49 "CosetTableModel" "n" "I", .fieldLink RX6 19 "CosetTableModel" "table" "[I", .methodLink RX6 109 yX6_isComplete, .instanceMethod yX6_isComplete, .selects RX6 yX6_isComplete yX6_isComplete, .initialized RX6, .code yX6_isComplete cX6_isComplete 1 (some .boolean), .methodLink RX6 99 yX6_open, .instanceMethod yX6_open, .selects RX6 yX6_open yX6_open, .code yX6_open cX6_open 3 (some .int), .fieldLink RX6 45 "CosetTableModel" "made" "I", .fieldLink RX6 16 "CosetTableModel" "now" "[I"] ++ wsX60)
def wsX6_isNumber : List Cond := .code yX6_isNumber cX6_isNumber 2 (some .boolean) :: ([.fieldLink RX6 116 "CosetTableModel" "numbered" "I"] ++ wsX60)
def wsX6_moved : List Cond := .code yX6_moved cX6_moved 5 (some .int) :: ([.fieldLink RX6 31 "CosetTableModel" "names" "[I", .fieldLink RX6 13 "CosetTableModel" "sizes" "[I", .fieldLink RX6 19 "CosetTableModel" "table" "[I", .fieldLink RX6 7 "CosetTableModel" "letters" "[I", .fieldLink RX6 28 "CosetTableModel" "numbers" "[I"] ++ wsX60)
def wsX6_number : List Cond := .code yX6_number cX6_number 2 (some .int) :: ([.fieldLink RX6 28 "CosetTableModel" "numbers" "[I", .methodLink RX6 119 yX6_numberAll, .instanceMethod yX6_numberAll, .selects RX6 yX6_numberAll yX6_numberAll, .initialized RX6, .code yX6_numberAll cX6_numberAll 4 (some .boolean), .fieldLink RX6 31 "CosetTableModel" "names" "[I", .fieldLink RX6 116 "CosetTableModel" "numbered" "I", .fieldLink RX6 49 "CosetTableModel" "n" "I", .fieldLink RX6 19 "CosetTableModel" "table" "[I", .methodLink RX6 109 yX6_isComplete, .instanceMethod yX6_isComplete, .selects RX6 yX6_isComplete yX6_isComplete, .code yX6_isComplete cX6_isComplete 1 (some .boolean), .methodLink RX6 99 yX6_open, .instanceMethod yX6_open, .selects RX6 yX6_open yX6_open, .code yX6_open cX6_open 3 (some .int), .fieldLink RX6 45 "CosetTableModel" "made" "I", .fieldLink RX6 16 "CosetTableModel" "now" "[I", .methodLink RX6 113 yX6_isCoset, .instanceMethod yX6_isCoset, .selects RX6 yX6_isCoset yX6_isCoset, .code yX6_isCoset cX6_isCoset 2 (some .boolean)] ++ wsX60)
def wsX6_entry_r1 : List Cond := [Cond.fieldLink RX6 28 "CosetTableModel" "numbers" "[I", Cond.fieldLink RX6 19 "CosetTableModel" "table" "[I", Cond.fieldLink RX6 31 "CosetTableModel" "names" "[I", Cond.methodLink RX6 119 yX6_numberAll, Cond.instanceMethod yX6_numberAll, Cond.selects RX6 yX6_numberAll yX6_numberAll, Cond.initialized RX6, Cond.code yX6_numberAll cX6_numberAll 4 (some .boolean), Cond.fieldLink RX6 116 "CosetTableModel" "numbered" "I", Cond.fieldLink RX6 49 "CosetTableModel" "n" "I", Cond.methodLink RX6 109 yX6_isComplete, Cond.instanceMethod yX6_isComplete, Cond.selects RX6 yX6_isComplete yX6_isComplete, Cond.code yX6_isComplete cX6_isComplete 1 (some .boolean), Cond.methodLink RX6 99 yX6_open, Cond.instanceMethod yX6_open, Cond.selects RX6 yX6_open yX6_open, Cond.code yX6_open cX6_open 3 (some .int), Cond.fieldLink RX6 45 "CosetTableModel" "made" "I", Cond.fieldLink RX6 16 "CosetTableModel" "now" "[I", Cond.methodLink RX6 122 yX6_isNumber, Cond.instanceMethod yX6_isNumber, Cond.selects RX6 yX6_isNumber yX6_isNumber, Cond.code yX6_isNumber cX6_isNumber 2 (some .boolean)]
def wsX6_entry_r2 : List Cond := [Cond.methodLink RX6 61 yX6_isLetter, Cond.instanceMethod yX6_isLetter, Cond.selects RX6 yX6_isLetter yX6_isLetter, Cond.code yX6_isLetter cX6_isLetter 2 (some .boolean), Cond.methodLink RX6 65 yX6_column, Cond.static yX6_column, Cond.code yX6_column cX6_column 1 (some .int)]
def wsX6_entry : List Cond := .code yX6_entry cX6_entry 3 (some .int) :: ((wsX6_entry_r1 ++ wsX6_entry_r2) ++ wsX60)
def wsX6_move_r1 : List Cond := [Cond.methodLink RX6 119 yX6_numberAll, Cond.instanceMethod yX6_numberAll, Cond.selects RX6 yX6_numberAll yX6_numberAll, Cond.initialized RX6, Cond.code yX6_numberAll cX6_numberAll 4 (some .boolean), Cond.fieldLink RX6 28 "CosetTableModel" "numbers" "[I", Cond.fieldLink RX6 31 "CosetTableModel" "names" "[I", Cond.fieldLink RX6 116 "CosetTableModel" "numbered" "I", Cond.fieldLink RX6 49 "CosetTableModel" "n" "I", Cond.fieldLink RX6 19 "CosetTableModel" "table" "[I", Cond.methodLink RX6 109 yX6_isComplete, Cond.instanceMethod yX6_isComplete, Cond.selects RX6 yX6_isComplete yX6_isComplete, Cond.code yX6_isComplete cX6_isComplete 1 (some .boolean), Cond.methodLink RX6 99 yX6_open, Cond.instanceMethod yX6_open, Cond.selects RX6 yX6_open yX6_open, Cond.code yX6_open cX6_open 3 (some .int), Cond.fieldLink RX6 45 "CosetTableModel" "made" "I", Cond.fieldLink RX6 16 "CosetTableModel" "now" "[I", Cond.methodLink RX6 122 yX6_isNumber, Cond.instanceMethod yX6_isNumber, Cond.selects RX6 yX6_isNumber yX6_isNumber, Cond.code yX6_isNumber cX6_isNumber 2 (some .boolean)]
def wsX6_move_r2 : List Cond := [Cond.methodLink RX6 125 yX6_moved, Cond.instanceMethod yX6_moved, Cond.selects RX6 yX6_moved yX6_moved, Cond.code yX6_moved cX6_moved 5 (some .int), Cond.fieldLink RX6 13 "CosetTableModel" "sizes" "[I", Cond.fieldLink RX6 7 "CosetTableModel" "letters" "[I"]
def wsX6_move : List Cond := .code yX6_move cX6_move 2 (some .int) :: ((wsX6_move_r1 ++ wsX6_move_r2) ++ wsX60)
def wsX6_cycle : List Cond := .code yX6_cycle cX6_cycle 4 (some .int) :: ([.fieldLink RX6 34 "CosetTableModel" "seen" "[Z", .methodLink RX6 125 yX6_moved, .instanceMethod yX6_moved, .selects RX6 yX6_moved yX6_moved, .initialized RX6, .code yX6_moved cX6_moved 5 (some .int), .fieldLink RX6 31 "CosetTableModel" "names" "[I", .fieldLink RX6 13 "CosetTableModel" "sizes" "[I", .fieldLink RX6 19 "CosetTableModel" "table" "[I", .fieldLink RX6 7 "CosetTableModel" "letters" "[I", .fieldLink RX6 28 "CosetTableModel" "numbers" "[I"] ++ wsX60)
def wsX6_cycles_r1 : List Cond := [Cond.fieldLink RX6 116 "CosetTableModel" "numbered" "I", Cond.fieldLink RX6 34 "CosetTableModel" "seen" "[Z", Cond.methodLink RX6 119 yX6_numberAll, Cond.instanceMethod yX6_numberAll, Cond.selects RX6 yX6_numberAll yX6_numberAll, Cond.initialized RX6, Cond.code yX6_numberAll cX6_numberAll 4 (some .boolean), Cond.fieldLink RX6 28 "CosetTableModel" "numbers" "[I", Cond.fieldLink RX6 31 "CosetTableModel" "names" "[I", Cond.fieldLink RX6 49 "CosetTableModel" "n" "I", Cond.fieldLink RX6 19 "CosetTableModel" "table" "[I", Cond.methodLink RX6 109 yX6_isComplete, Cond.instanceMethod yX6_isComplete, Cond.selects RX6 yX6_isComplete yX6_isComplete, Cond.code yX6_isComplete cX6_isComplete 1 (some .boolean), Cond.methodLink RX6 99 yX6_open, Cond.instanceMethod yX6_open, Cond.selects RX6 yX6_open yX6_open, Cond.code yX6_open cX6_open 3 (some .int), Cond.fieldLink RX6 45 "CosetTableModel" "made" "I", Cond.fieldLink RX6 16 "CosetTableModel" "now" "[I", Cond.methodLink RX6 129 yX6_cycle, Cond.instanceMethod yX6_cycle, Cond.selects RX6 yX6_cycle yX6_cycle]
def wsX6_cycles_r2 : List Cond := [Cond.code yX6_cycle cX6_cycle 4 (some .int), Cond.methodLink RX6 125 yX6_moved, Cond.instanceMethod yX6_moved, Cond.selects RX6 yX6_moved yX6_moved, Cond.code yX6_moved cX6_moved 5 (some .int), Cond.fieldLink RX6 13 "CosetTableModel" "sizes" "[I", Cond.fieldLink RX6 7 "CosetTableModel" "letters" "[I"]
def wsX6_cycles : List Cond := .code yX6_cycles cX6_cycles 5 (some .int) :: ((wsX6_cycles_r1 ++ wsX6_cycles_r2) ++ wsX60)
def wsX6_order_r1 : List Cond := [Cond.constantLong RX6 132 (-1), Cond.fieldLink RX6 116 "CosetTableModel" "numbered" "I", Cond.fieldLink RX6 34 "CosetTableModel" "seen" "[Z", Cond.methodLink RX6 119 yX6_numberAll, Cond.instanceMethod yX6_numberAll, Cond.selects RX6 yX6_numberAll yX6_numberAll, Cond.initialized RX6, Cond.code yX6_numberAll cX6_numberAll 4 (some .boolean), Cond.fieldLink RX6 28 "CosetTableModel" "numbers" "[I", Cond.fieldLink RX6 31 "CosetTableModel" "names" "[I", Cond.fieldLink RX6 49 "CosetTableModel" "n" "I", Cond.fieldLink RX6 19 "CosetTableModel" "table" "[I", Cond.methodLink RX6 109 yX6_isComplete, Cond.instanceMethod yX6_isComplete, Cond.selects RX6 yX6_isComplete yX6_isComplete, Cond.code yX6_isComplete cX6_isComplete 1 (some .boolean), Cond.methodLink RX6 99 yX6_open, Cond.instanceMethod yX6_open, Cond.selects RX6 yX6_open yX6_open, Cond.code yX6_open cX6_open 3 (some .int), Cond.fieldLink RX6 45 "CosetTableModel" "made" "I", Cond.fieldLink RX6 16 "CosetTableModel" "now" "[I", Cond.methodLink RX6 129 yX6_cycle, Cond.instanceMethod yX6_cycle]
def wsX6_order_r2 : List Cond := [Cond.selects RX6 yX6_cycle yX6_cycle, Cond.code yX6_cycle cX6_cycle 4 (some .int), Cond.methodLink RX6 125 yX6_moved, Cond.instanceMethod yX6_moved, Cond.selects RX6 yX6_moved yX6_moved, Cond.code yX6_moved cX6_moved 5 (some .int), Cond.fieldLink RX6 13 "CosetTableModel" "sizes" "[I", Cond.fieldLink RX6 7 "CosetTableModel" "letters" "[I"]
def wsX6_order : List Cond := .code yX6_order cX6_order 12 (some .long) :: ((wsX6_order_r1 ++ wsX6_order_r2) ++ wsX60)
def wsX6_resting_r1 : List Cond := [Cond.fieldLink RX6 116 "CosetTableModel" "numbered" "I", Cond.fieldLink RX6 55 "CosetTableModel" "subgroup" "I", Cond.methodLink RX6 119 yX6_numberAll, Cond.instanceMethod yX6_numberAll, Cond.selects RX6 yX6_numberAll yX6_numberAll, Cond.initialized RX6, Cond.code yX6_numberAll cX6_numberAll 4 (some .boolean), Cond.fieldLink RX6 28 "CosetTableModel" "numbers" "[I", Cond.fieldLink RX6 31 "CosetTableModel" "names" "[I", Cond.fieldLink RX6 49 "CosetTableModel" "n" "I", Cond.fieldLink RX6 19 "CosetTableModel" "table" "[I", Cond.methodLink RX6 109 yX6_isComplete, Cond.instanceMethod yX6_isComplete, Cond.selects RX6 yX6_isComplete yX6_isComplete, Cond.code yX6_isComplete cX6_isComplete 1 (some .boolean), Cond.methodLink RX6 99 yX6_open, Cond.instanceMethod yX6_open, Cond.selects RX6 yX6_open yX6_open, Cond.code yX6_open cX6_open 3 (some .int), Cond.fieldLink RX6 45 "CosetTableModel" "made" "I", Cond.fieldLink RX6 16 "CosetTableModel" "now" "[I", Cond.methodLink RX6 125 yX6_moved, Cond.instanceMethod yX6_moved, Cond.selects RX6 yX6_moved yX6_moved]
def wsX6_resting_r2 : List Cond := [Cond.code yX6_moved cX6_moved 5 (some .int), Cond.fieldLink RX6 13 "CosetTableModel" "sizes" "[I", Cond.fieldLink RX6 7 "CosetTableModel" "letters" "[I"]
def wsX6_resting : List Cond := .code yX6_resting cX6_resting 5 (some .int) :: ((wsX6_resting_r1 ++ wsX6_resting_r2) ++ wsX60)
def wsX6_orbit_r1 : List Cond := [Cond.fieldLink RX6 116 "CosetTableModel" "numbered" "I", Cond.fieldLink RX6 38 "CosetTableModel" "low" "[I", Cond.fieldLink RX6 55 "CosetTableModel" "subgroup" "I", Cond.methodLink RX6 119 yX6_numberAll, Cond.instanceMethod yX6_numberAll, Cond.selects RX6 yX6_numberAll yX6_numberAll, Cond.initialized RX6, Cond.code yX6_numberAll cX6_numberAll 4 (some .boolean), Cond.fieldLink RX6 28 "CosetTableModel" "numbers" "[I", Cond.fieldLink RX6 31 "CosetTableModel" "names" "[I", Cond.fieldLink RX6 49 "CosetTableModel" "n" "I", Cond.fieldLink RX6 19 "CosetTableModel" "table" "[I", Cond.methodLink RX6 109 yX6_isComplete, Cond.instanceMethod yX6_isComplete, Cond.selects RX6 yX6_isComplete yX6_isComplete, Cond.code yX6_isComplete cX6_isComplete 1 (some .boolean), Cond.methodLink RX6 99 yX6_open, Cond.instanceMethod yX6_open, Cond.selects RX6 yX6_open yX6_open, Cond.code yX6_open cX6_open 3 (some .int), Cond.fieldLink RX6 45 "CosetTableModel" "made" "I", Cond.fieldLink RX6 16 "CosetTableModel" "now" "[I", Cond.methodLink RX6 122 yX6_isNumber, Cond.instanceMethod yX6_isNumber]
def wsX6_orbit_r2 : List Cond := [Cond.selects RX6 yX6_isNumber yX6_isNumber, Cond.code yX6_isNumber cX6_isNumber 2 (some .boolean), Cond.methodLink RX6 125 yX6_moved, Cond.instanceMethod yX6_moved, Cond.selects RX6 yX6_moved yX6_moved, Cond.code yX6_moved cX6_moved 5 (some .int), Cond.fieldLink RX6 13 "CosetTableModel" "sizes" "[I", Cond.fieldLink RX6 7 "CosetTableModel" "letters" "[I"]
def wsX6_orbit : List Cond := .code yX6_orbit cX6_orbit 7 (some .int) :: ((wsX6_orbit_r1 ++ wsX6_orbit_r2) ++ wsX60)
def wsJ9_min_7cf53 : List Cond := .code yJ9_min_7cf53 cJ9_min_7cf53 2 (some .int) :: ([])
def wsL_law_r1 : List Cond := [Cond.classLink RL 7 RX5, Cond.instantiable RX5 7, Cond.initialized RX5, Cond.classLink RL 10 RX6, Cond.instantiable RX6 17, Cond.initialized RX6, Cond.methodLink RL 9 yX5_init, Cond.instanceMethod yX5_init, Cond.code yX5_init cX5_init 1 none, Cond.methodLink RX5 3 objectInit, Cond.instanceMethod objectInit, Cond.code objectInit ⟨#[0xb1]⟩ 1 none, Cond.classLink RX5 9 RX3, Cond.instantiable RX3 2, Cond.initialized RX3, Cond.fieldLink RX5 12 "CosetTable" "hand" "LCosetTable$Word;", Cond.classLink RX5 16 RX4, Cond.instantiable RX4 2, Cond.initialized RX4, Cond.fieldLink RX5 21 "CosetTable" "relators" "LCosetTable$WordList;", Cond.fieldLink RX5 25 "CosetTable" "subgroupWords" "LCosetTable$WordList;", Cond.classLink RX5 28 RX1, Cond.instantiable RX1 11, Cond.initialized RX1]
def wsL_law_r2 : List Cond := [Cond.fieldLink RX5 31 "CosetTable" "cosets" "LCosetTable$Cosets;", Cond.classLink RX5 35 RX2, Cond.instantiable RX2 3, Cond.initialized RX2, Cond.fieldLink RX5 40 "CosetTable" "inference" "LCosetTable$Inference;", Cond.classLink RX5 44 RX0, Cond.instantiable RX0 7, Cond.initialized RX0, Cond.fieldLink RX5 49 "CosetTable" "action" "LCosetTable$Action;", Cond.fieldLink RX5 53 "CosetTable" "generators" "I", Cond.instanceMethod yX3_init, Cond.code yX3_init cX3_init 1 none, Cond.methodLink RX3 3 objectInit, Cond.arrayClass .int, Cond.fieldLink RX3 9 "CosetTable$Word" "columns" "[I", Cond.methodLink RX5 18 yX4_init, Cond.instanceMethod yX4_init, Cond.code yX4_init cX4_init 3 none, Cond.methodLink RX4 1 objectInit, Cond.classLink RX4 7 RX3, Cond.fieldLink RX4 9 "CosetTable$WordList" "words" "[LCosetTable$Word;", Cond.instanceMethod yX1_init, Cond.code yX1_init cX1_init 1 none, Cond.methodLink RX1 3 objectInit]
def wsL_law_r3 : List Cond := [Cond.fieldLink RX1 9 "CosetTable$Cosets" "entries" "[I", Cond.fieldLink RX1 15 "CosetTable$Cosets" "leaders" "[I", Cond.fieldLink RX1 18 "CosetTable$Cosets" "fallen" "[I", Cond.fieldLink RX1 21 "CosetTable$Cosets" "fresh" "[I", Cond.arrayClass .boolean, Cond.fieldLink RX1 24 "CosetTable$Cosets" "isFresh" "[Z", Cond.methodLink RX5 37 yX2_init, Cond.instanceMethod yX2_init, Cond.code yX2_init cX2_init 4 none, Cond.methodLink RX2 3 objectInit, Cond.fieldLink RX2 9 "CosetTable$Inference" "cosets" "LCosetTable$Cosets;", Cond.fieldLink RX2 15 "CosetTable$Inference" "relators" "LCosetTable$WordList;", Cond.fieldLink RX2 19 "CosetTable$Inference" "subgroupWords" "LCosetTable$WordList;", Cond.methodLink RX5 46 yX0_init, Cond.instanceMethod yX0_init, Cond.code yX0_init cX0_init 3 none, Cond.methodLink RX0 3 objectInit, Cond.fieldLink RX0 9 "CosetTable$Action" "numbers" "[I", Cond.fieldLink RX0 15 "CosetTable$Action" "names" "[I", Cond.fieldLink RX0 18 "CosetTable$Action" "seen" "[Z", Cond.fieldLink RX0 22 "CosetTable$Action" "reached" "[I", Cond.fieldLink RX0 25 "CosetTable$Action" "cosets" "LCosetTable$Cosets;", Cond.fieldLink RX0 29 "CosetTable$Action" "subgroupWords" "LCosetTable$WordList;", Cond.methodLink RX5 57 yX5_startTable]
def wsL_law_r4 : List Cond := [Cond.instanceMethod yX5_startTable, Cond.selects RX5 yX5_startTable yX5_startTable, Cond.code yX5_startTable cX5_startTable 1 none, Cond.methodLink RX5 145 yX1_start, Cond.instanceMethod yX1_start, Cond.selects RX1 yX1_start yX1_start, Cond.code yX1_start cX1_start 2 none, Cond.fieldLink RX1 28 "CosetTable$Cosets" "columns" "I", Cond.fieldLink RX1 32 "CosetTable$Cosets" "made" "I", Cond.fieldLink RX1 35 "CosetTable$Cosets" "living" "I", Cond.fieldLink RX1 38 "CosetTable$Cosets" "open" "I", Cond.methodLink RX1 41 yX1_make, Cond.instanceMethod yX1_make, Cond.selects RX1 yX1_make yX1_make, Cond.code yX1_make cX1_make 3 (some .int), Cond.methodLink RL 12 yX6_init, Cond.instanceMethod yX6_init, Cond.code yX6_init cX6_init 2 none, Cond.methodLink RX6 1 objectInit, Cond.fieldLink RX6 7 "CosetTableModel" "letters" "[I", Cond.fieldLink RX6 13 "CosetTableModel" "sizes" "[I", Cond.fieldLink RX6 16 "CosetTableModel" "now" "[I", Cond.fieldLink RX6 19 "CosetTableModel" "table" "[I", Cond.fieldLink RX6 22 "CosetTableModel" "one" "[I"]
def wsL_law_r5 : List Cond := [Cond.fieldLink RX6 25 "CosetTableModel" "two" "[I", Cond.fieldLink RX6 28 "CosetTableModel" "numbers" "[I", Cond.fieldLink RX6 31 "CosetTableModel" "names" "[I", Cond.fieldLink RX6 34 "CosetTableModel" "seen" "[Z", Cond.fieldLink RX6 38 "CosetTableModel" "low" "[I", Cond.methodLink RX6 41 yX6_begin, Cond.instanceMethod yX6_begin, Cond.selects RX6 yX6_begin yX6_begin, Cond.code yX6_begin cX6_begin 2 (some .int), Cond.fieldLink RX6 49 "CosetTableModel" "n" "I", Cond.fieldLink RX6 52 "CosetTableModel" "relators" "I", Cond.fieldLink RX6 55 "CosetTableModel" "subgroup" "I", Cond.methodLink RX6 58 yX6_fresh, Cond.instanceMethod yX6_fresh, Cond.selects RX6 yX6_fresh yX6_fresh, Cond.code yX6_fresh cX6_fresh 2 none, Cond.fieldLink RX6 45 "CosetTableModel" "made" "I", Cond.methodLink RL 13 yX5_begin, Cond.instanceMethod yX5_begin, Cond.selects RX5 yX5_begin yX5_begin, Cond.code yX5_begin cX5_begin 2 (some .int), Cond.methodLink RL 17 yX6_begin, Cond.methodLink RL 18 yX5_letter, Cond.instanceMethod yX5_letter]
def wsL_law_r6 : List Cond := [Cond.selects RX5 yX5_letter yX5_letter, Cond.code yX5_letter cX5_letter 2 (some .int), Cond.methodLink RX5 66 yX5_isLetter, Cond.instanceMethod yX5_isLetter, Cond.selects RX5 yX5_isLetter yX5_isLetter, Cond.code yX5_isLetter cX5_isLetter 2 (some .boolean), Cond.methodLink RX5 70 yX5_columnOf, Cond.static yX5_columnOf, Cond.code yX5_columnOf cX5_columnOf 1 (some .int), Cond.methodLink RX5 74 yX3_append, Cond.instanceMethod yX3_append, Cond.selects RX3 yX3_append yX3_append, Cond.code yX3_append cX3_append 2 none, Cond.fieldLink RX3 15 "CosetTable$Word" "length" "I", Cond.methodLink RL 21 yX6_letter, Cond.instanceMethod yX6_letter, Cond.selects RX6 yX6_letter yX6_letter, Cond.code yX6_letter cX6_letter 2 (some .int), Cond.methodLink RX6 61 yX6_isLetter, Cond.instanceMethod yX6_isLetter, Cond.selects RX6 yX6_isLetter yX6_isLetter, Cond.code yX6_isLetter cX6_isLetter 2 (some .boolean), Cond.methodLink RX6 65 yX6_column, Cond.static yX6_column]
def wsL_law_r7 : List Cond := [Cond.code yX6_column cX6_column 1 (some .int), Cond.methodLink RL 22 yX5_clear, Cond.instanceMethod yX5_clear, Cond.selects RX5 yX5_clear yX5_clear, Cond.code yX5_clear cX5_clear 2 (some .int), Cond.methodLink RL 26 yX6_clear, Cond.instanceMethod yX6_clear, Cond.selects RX6 yX6_clear yX6_clear, Cond.code yX6_clear cX6_clear 2 (some .int), Cond.methodLink RL 27 yX5_relator, Cond.instanceMethod yX5_relator, Cond.selects RX5 yX5_relator yX5_relator, Cond.code yX5_relator cX5_relator 1 (some .int), Cond.methodLink RX5 77 yX5_giveHandTo, Cond.instanceMethod yX5_giveHandTo, Cond.selects RX5 yX5_giveHandTo yX5_giveHandTo, Cond.code yX5_giveHandTo cX5_giveHandTo 2 (some .int), Cond.methodLink RX5 148 yX4_isFull, Cond.instanceMethod yX4_isFull, Cond.selects RX4 yX4_isFull yX4_isFull, Cond.code yX4_isFull cX4_isFull 1 (some .boolean), Cond.fieldLink RX4 16 "CosetTable$WordList" "size" "I", Cond.methodLink RX5 151 yX4_add, Cond.instanceMethod yX4_add]
def wsL_law_r8 : List Cond := [Cond.selects RX4 yX4_add yX4_add, Cond.code yX4_add cX4_add 2 none, Cond.methodLink RX4 20 yX3_copyFrom, Cond.instanceMethod yX3_copyFrom, Cond.selects RX3 yX3_copyFrom yX3_copyFrom, Cond.code yX3_copyFrom cX3_copyFrom 2 none, Cond.methodLink RX3 19 arraycopyName, Cond.native arraycopyName, Cond.static arraycopyName, Cond.initialized "java/lang/System", Cond.methodLink RL 30 yX6_relator, Cond.instanceMethod yX6_relator, Cond.selects RX6 yX6_relator yX6_relator, Cond.code yX6_relator cX6_relator 1 (some .int), Cond.methodLink RX6 68 yX6_become, Cond.instanceMethod yX6_become, Cond.selects RX6 yX6_become yX6_become, Cond.code yX6_become cX6_become 3 none, Cond.methodLink RL 31 yX5_subgroup, Cond.instanceMethod yX5_subgroup, Cond.selects RX5 yX5_subgroup yX5_subgroup, Cond.code yX5_subgroup cX5_subgroup 1 (some .int), Cond.methodLink RL 34 yX6_subgroup, Cond.instanceMethod yX6_subgroup]
def wsL_law_r9 : List Cond := [Cond.selects RX6 yX6_subgroup yX6_subgroup, Cond.code yX6_subgroup cX6_subgroup 1 (some .int), Cond.methodLink RL 35 yX5_run, Cond.instanceMethod yX5_run, Cond.selects RX5 yX5_run yX5_run, Cond.code yX5_run cX5_run 3 (some .int), Cond.methodLink RX5 81 yX2_drawFrom, Cond.instanceMethod yX2_drawFrom, Cond.selects RX2 yX2_drawFrom yX2_drawFrom, Cond.code yX2_drawFrom cX2_drawFrom 5 none, Cond.constant RX2 45 (1000000), Cond.methodLink RX2 28 yX1_lives, Cond.instanceMethod yX1_lives, Cond.selects RX1 yX1_lives yX1_lives, Cond.code yX1_lives cX1_lives 2 (some .boolean), Cond.methodLink RX2 38 yX2_close, Cond.instanceMethod yX2_close, Cond.selects RX2 yX2_close yX2_close, Cond.code yX2_close cX2_close 9 none, Cond.methodLink RX2 70 yX3_around, Cond.instanceMethod yX3_around, Cond.selects RX3 yX3_around yX3_around, Cond.code yX3_around cX3_around 2 (some .int), Cond.methodLink RX2 62 yX1_at]
def wsL_law_r10 : List Cond := [Cond.instanceMethod yX1_at, Cond.selects RX1 yX1_at yX1_at, Cond.code yX1_at cX1_at 3 (some .int), Cond.methodLink RX2 74 yX1_unite, Cond.instanceMethod yX1_unite, Cond.selects RX1 yX1_unite yX1_unite, Cond.code yX1_unite cX1_unite 4 none, Cond.fieldLink RX1 59 "CosetTable$Cosets" "fallenCount" "I", Cond.methodLink RX1 62 yX1_fall, Cond.instanceMethod yX1_fall, Cond.selects RX1 yX1_fall yX1_fall, Cond.code yX1_fall cX1_fall 6 none, Cond.methodLink RX1 66 yX1_handOver, Cond.instanceMethod yX1_handOver, Cond.selects RX1 yX1_handOver yX1_handOver, Cond.code yX1_handOver cX1_handOver 6 none, Cond.methodLink RX1 70 yX1_at, Cond.methodLink RX1 52 yX1_join, Cond.instanceMethod yX1_join, Cond.selects RX1 yX1_join yX1_join, Cond.code yX1_join cX1_join 5 none, Cond.fieldLink RX1 56 "CosetTable$Cosets" "freshCount" "I", Cond.methodLink RX2 78 yX1_join, Cond.methodLink RX2 42 yX2_drawFromSubgroup]
def wsL_law_r11 : List Cond := [Cond.instanceMethod yX2_drawFromSubgroup, Cond.selects RX2 yX2_drawFromSubgroup yX2_drawFromSubgroup, Cond.code yX2_drawFromSubgroup cX2_drawFromSubgroup 2 none, Cond.methodLink RX2 49 yX1_takeFresh, Cond.instanceMethod yX1_takeFresh, Cond.selects RX1 yX1_takeFresh yX1_takeFresh, Cond.code yX1_takeFresh cX1_takeFresh 1 (some .int), Cond.methodLink RX2 53 yX2_drawThrough, Cond.instanceMethod yX2_drawThrough, Cond.selects RX2 yX2_drawThrough yX2_drawThrough, Cond.code yX2_drawThrough cX2_drawThrough 6 none, Cond.methodLink RX5 87 yX1_findOpen, Cond.instanceMethod yX1_findOpen, Cond.selects RX1 yX1_findOpen yX1_findOpen, Cond.code yX1_findOpen cX1_findOpen 1 (some .boolean), Cond.methodLink RX1 45 yX1_isOpen, Cond.instanceMethod yX1_isOpen, Cond.selects RX1 yX1_isOpen yX1_isOpen, Cond.code yX1_isOpen cX1_isOpen 2 (some .boolean), Cond.methodLink RX1 49 yX1_lives, Cond.methodLink RX5 91 yX1_makeNeighbour, Cond.instanceMethod yX1_makeNeighbour, Cond.selects RX1 yX1_makeNeighbour yX1_makeNeighbour, Cond.code yX1_makeNeighbour cX1_makeNeighbour 2 (some .int)]
def wsL_law_r12 : List Cond := [Cond.methodLink RX5 95 yX0_giveNumbers, Cond.instanceMethod yX0_giveNumbers, Cond.selects RX0 yX0_giveNumbers yX0_giveNumbers, Cond.code yX0_giveNumbers cX0_giveNumbers 3 none, Cond.fieldLink RX0 33 "CosetTable$Action" "size" "I", Cond.methodLink RX0 37 yJ7_fill_53178, Cond.static yJ7_fill_53178, Cond.initialized RJ7, Cond.code yJ7_fill_53178 cJ7_fill_53178 4 none, Cond.methodLink RX0 43 yX0_giveNextNumber, Cond.instanceMethod yX0_giveNextNumber, Cond.selects RX0 yX0_giveNextNumber yX0_giveNextNumber, Cond.code yX0_giveNextNumber cX0_giveNextNumber 2 none, Cond.methodLink RX0 52 yX1_at, Cond.methodLink RL 38 yX6_run, Cond.instanceMethod yX6_run, Cond.selects RX6 yX6_run yX6_run, Cond.code yX6_run cX6_run 3 (some .int), Cond.methodLink RX6 96 yX6_follow, Cond.instanceMethod yX6_follow, Cond.selects RX6 yX6_follow yX6_follow, Cond.code yX6_follow cX6_follow 3 none, Cond.fieldLink RX6 78 "CosetTableModel" "changed" "Z", Cond.methodLink RX6 93 yX6_attempt]
def wsL_law_r13 : List Cond := [Cond.instanceMethod yX6_attempt, Cond.selects RX6 yX6_attempt yX6_attempt, Cond.code yX6_attempt cX6_attempt 9 none, Cond.methodLink RX6 82 yX6_pair, Cond.instanceMethod yX6_pair, Cond.selects RX6 yX6_pair yX6_pair, Cond.code yX6_pair cX6_pair 3 none, Cond.fieldLink RX6 72 "CosetTableModel" "pairs" "I", Cond.methodLink RX6 90 yX6_join, Cond.instanceMethod yX6_join, Cond.selects RX6 yX6_join yX6_join, Cond.code yX6_join cX6_join 7 none, Cond.methodLink RX6 75 yX6_real, Cond.instanceMethod yX6_real, Cond.selects RX6 yX6_real yX6_real, Cond.code yX6_real cX6_real 3 (some .int), Cond.methodLink RX6 86 yX6_learn, Cond.instanceMethod yX6_learn, Cond.selects RX6 yX6_learn yX6_learn, Cond.code yX6_learn cX6_learn 9 none, Cond.methodLink RX6 99 yX6_open, Cond.instanceMethod yX6_open, Cond.selects RX6 yX6_open yX6_open, Cond.code yX6_open cX6_open 3 (some .int)]
def wsL_law_r14 : List Cond := [Cond.methodLink RL 39 yX5_count, Cond.instanceMethod yX5_count, Cond.selects RX5 yX5_count yX5_count, Cond.code yX5_count cX5_count 2 (some .int), Cond.methodLink RX5 101 yX1_countOpen, Cond.instanceMethod yX1_countOpen, Cond.selects RX1 yX1_countOpen yX1_countOpen, Cond.code yX1_countOpen cX1_countOpen 3 (some .int), Cond.methodLink RX5 104 yX0_isReady, Cond.instanceMethod yX0_isReady, Cond.selects RX0 yX0_isReady yX0_isReady, Cond.code yX0_isReady cX0_isReady 1 (some .boolean), Cond.methodLink RL 42 yX6_count, Cond.instanceMethod yX6_count, Cond.selects RX6 yX6_count yX6_count, Cond.code yX6_count cX6_count 2 (some .int), Cond.methodLink RX6 103 yX6_cosets, Cond.instanceMethod yX6_cosets, Cond.selects RX6 yX6_cosets yX6_cosets, Cond.code yX6_cosets cX6_cosets 3 (some .int), Cond.methodLink RX6 106 yX6_unknown, Cond.instanceMethod yX6_unknown, Cond.selects RX6 yX6_unknown yX6_unknown, Cond.code yX6_unknown cX6_unknown 4 (some .int)]
def wsL_law_r15 : List Cond := [Cond.methodLink RX6 109 yX6_isComplete, Cond.instanceMethod yX6_isComplete, Cond.selects RX6 yX6_isComplete yX6_isComplete, Cond.code yX6_isComplete cX6_isComplete 1 (some .boolean), Cond.methodLink RL 43 yX5_known, Cond.instanceMethod yX5_known, Cond.selects RX5 yX5_known yX5_known, Cond.code yX5_known cX5_known 4 (some .int), Cond.methodLink RX5 108 yX1_lives, Cond.methodLink RX5 111 yX1_at, Cond.methodLink RL 47 yX6_known, Cond.instanceMethod yX6_known, Cond.selects RX6 yX6_known yX6_known, Cond.code yX6_known cX6_known 4 (some .int), Cond.methodLink RX6 113 yX6_isCoset, Cond.instanceMethod yX6_isCoset, Cond.selects RX6 yX6_isCoset yX6_isCoset, Cond.code yX6_isCoset cX6_isCoset 2 (some .boolean), Cond.methodLink RL 48 yX5_number, Cond.instanceMethod yX5_number, Cond.selects RX5 yX5_number yX5_number, Cond.code yX5_number cX5_number 2 (some .int), Cond.methodLink RL 51 yX6_number, Cond.instanceMethod yX6_number]
def wsL_law_r16 : List Cond := [Cond.selects RX6 yX6_number yX6_number, Cond.code yX6_number cX6_number 2 (some .int), Cond.methodLink RX6 119 yX6_numberAll, Cond.instanceMethod yX6_numberAll, Cond.selects RX6 yX6_numberAll yX6_numberAll, Cond.code yX6_numberAll cX6_numberAll 4 (some .boolean), Cond.fieldLink RX6 116 "CosetTableModel" "numbered" "I", Cond.methodLink RL 52 yX5_entry, Cond.instanceMethod yX5_entry, Cond.selects RX5 yX5_entry yX5_entry, Cond.code yX5_entry cX5_entry 3 (some .int), Cond.methodLink RX5 119 yX0_hasNumber, Cond.instanceMethod yX0_hasNumber, Cond.selects RX0 yX0_hasNumber yX0_hasNumber, Cond.code yX0_hasNumber cX0_hasNumber 2 (some .boolean), Cond.methodLink RX5 122 yX0_letterImage, Cond.instanceMethod yX0_letterImage, Cond.selects RX0 yX0_letterImage yX0_letterImage, Cond.code yX0_letterImage cX0_letterImage 3 (some .int), Cond.methodLink RL 55 yX6_entry, Cond.instanceMethod yX6_entry, Cond.selects RX6 yX6_entry yX6_entry, Cond.code yX6_entry cX6_entry 3 (some .int), Cond.methodLink RX6 122 yX6_isNumber]
def wsL_law_r17 : List Cond := [Cond.instanceMethod yX6_isNumber, Cond.selects RX6 yX6_isNumber yX6_isNumber, Cond.code yX6_isNumber cX6_isNumber 2 (some .boolean), Cond.methodLink RL 56 yX5_move, Cond.instanceMethod yX5_move, Cond.selects RX5 yX5_move yX5_move, Cond.code yX5_move cX5_move 2 (some .int), Cond.methodLink RX5 125 yX0_image, Cond.instanceMethod yX0_image, Cond.selects RX0 yX0_image yX0_image, Cond.code yX0_image cX0_image 5 (some .int), Cond.methodLink RL 59 yX6_move, Cond.instanceMethod yX6_move, Cond.selects RX6 yX6_move yX6_move, Cond.code yX6_move cX6_move 2 (some .int), Cond.methodLink RX6 125 yX6_moved, Cond.instanceMethod yX6_moved, Cond.selects RX6 yX6_moved yX6_moved, Cond.code yX6_moved cX6_moved 5 (some .int), Cond.methodLink RL 60 yX5_cycles, Cond.instanceMethod yX5_cycles, Cond.selects RX5 yX5_cycles yX5_cycles, Cond.code yX5_cycles cX5_cycles 2 (some .int), Cond.methodLink RX5 129 yX0_countCycles]
def wsL_law_r18 : List Cond := [Cond.instanceMethod yX0_countCycles, Cond.selects RX0 yX0_countCycles yX0_countCycles, Cond.code yX0_countCycles cX0_countCycles 6 (some .int), Cond.methodLink RX0 63 yX0_forgetSeen, Cond.instanceMethod yX0_forgetSeen, Cond.selects RX0 yX0_forgetSeen yX0_forgetSeen, Cond.code yX0_forgetSeen cX0_forgetSeen 2 none, Cond.methodLink RX0 66 yX0_seeCycle, Cond.instanceMethod yX0_seeCycle, Cond.selects RX0 yX0_seeCycle yX0_seeCycle, Cond.code yX0_seeCycle cX0_seeCycle 5 (some .int), Cond.methodLink RX0 74 yX0_image, Cond.methodLink RL 64 yX6_cycles, Cond.instanceMethod yX6_cycles, Cond.selects RX6 yX6_cycles yX6_cycles, Cond.code yX6_cycles cX6_cycles 5 (some .int), Cond.methodLink RX6 129 yX6_cycle, Cond.instanceMethod yX6_cycle, Cond.selects RX6 yX6_cycle yX6_cycle, Cond.code yX6_cycle cX6_cycle 4 (some .int), Cond.methodLink RL 65 yX5_order, Cond.instanceMethod yX5_order, Cond.selects RX5 yX5_order yX5_order, Cond.code yX5_order cX5_order 1 (some .long)]
def wsL_law_r19 : List Cond := [Cond.constantLong RX5 137 (-1), Cond.methodLink RX5 133 yX0_orderOf, Cond.instanceMethod yX0_orderOf, Cond.selects RX0 yX0_orderOf yX0_orderOf, Cond.code yX0_orderOf cX0_orderOf 6 (some .long), Cond.methodLink RX0 70 yX0_leastCommonMultiple, Cond.static yX0_leastCommonMultiple, Cond.code yX0_leastCommonMultiple cX0_leastCommonMultiple 11 (some .long), Cond.constant RX0 94 (1000000), Cond.methodLink RL 69 yX6_order, Cond.instanceMethod yX6_order, Cond.selects RX6 yX6_order yX6_order, Cond.code yX6_order cX6_order 12 (some .long), Cond.constantLong RX6 132 (-1), Cond.methodLink RL 70 yX5_resting, Cond.instanceMethod yX5_resting, Cond.selects RX5 yX5_resting yX5_resting, Cond.code yX5_resting cX5_resting 1 (some .int), Cond.methodLink RX5 139 yX0_countResting, Cond.instanceMethod yX0_countResting, Cond.selects RX0 yX0_countResting yX0_countResting, Cond.code yX0_countResting cX0_countResting 3 (some .int), Cond.methodLink RX0 78 yX0_rests, Cond.instanceMethod yX0_rests]
def wsL_law_r20 : List Cond := [Cond.selects RX0 yX0_rests yX0_rests, Cond.code yX0_rests cX0_rests 3 (some .boolean), Cond.methodLink RL 73 yX6_resting, Cond.instanceMethod yX6_resting, Cond.selects RX6 yX6_resting yX6_resting, Cond.code yX6_resting cX6_resting 5 (some .int), Cond.methodLink RL 74 yX5_orbit, Cond.instanceMethod yX5_orbit, Cond.selects RX5 yX5_orbit yX5_orbit, Cond.code yX5_orbit cX5_orbit 2 (some .int), Cond.methodLink RX5 142 yX0_lowestJoined, Cond.instanceMethod yX0_lowestJoined, Cond.selects RX0 yX0_lowestJoined yX0_lowestJoined, Cond.code yX0_lowestJoined cX0_lowestJoined 7 (some .int), Cond.methodLink RX0 89 Lib.Math.min.name, Cond.static Lib.Math.min.name, Cond.initialized "java/lang/Math", Cond.code Lib.Math.min.name Lib.Math.min.code 2 (some .int), Cond.methodLink RL 77 yX6_orbit, Cond.instanceMethod yX6_orbit, Cond.selects RX6 yX6_orbit yX6_orbit, Cond.code yX6_orbit cX6_orbit 7 (some .int)]
def wsL_law : List Cond := (wsL_law_r1 ++ (wsL_law_r2 ++ (wsL_law_r3 ++ (wsL_law_r4 ++ (wsL_law_r5 ++ (wsL_law_r6 ++ (wsL_law_r7 ++ (wsL_law_r8 ++ (wsL_law_r9 ++ (wsL_law_r10 ++ (wsL_law_r11 ++ (wsL_law_r12 ++ (wsL_law_r13 ++ (wsL_law_r14 ++ (wsL_law_r15 ++ (wsL_law_r16 ++ (wsL_law_r17 ++ (wsL_law_r18 ++ (wsL_law_r19 ++ wsL_law_r20))))))))))))))))))) ++ wsX50 ++ wsX60 ++ wsX30 ++ wsX40 ++ wsX10 ++ wsX20 ++ wsX00 ++ ([] : List Cond)
abbrev vwCl : List vw_C := [(RX0, TX0, 7), (RX1, TX1, 11), (RX2, TX2, 3), (RX3, TX3, 2), (RX4, TX4, 2), (RX5, TX5, 7), (RX6, TX6, 17)]
end
section
theorem in_places {big : List Cond} (ws : List Cond) (ps : List Nat) (hp : ws = ps.filterMap (fun i => big[i]?)) : ∀ w ∈ ws, w ∈ big := by
  intro w hw
  rw [hp] at hw
  obtain ⟨i, -, hi⟩ := List.mem_filterMap.mp hw
  exact List.mem_of_getElem? hi
theorem in_app {big a b : List Cond} (ha : ∀ w ∈ a, w ∈ big) (hb : ∀ w ∈ b, w ∈ big) : ∀ w ∈ a ++ b, w ∈ big := fun w h => (List.mem_append.mp h).elim (ha w) (hb w)
set_option maxRecDepth 20000 in
theorem wsL_law_r1_in : ∀ w ∈ wsL_law_r1, w ∈ lw_tbl := in_places _ [43, 44, 33, 441, 442, 39, 45, 46, 47, 48, 49, 50, 51, 52, 34, 194, 70, 71, 35, 195, 196, 91, 92, 36] (by decide +kernel)
set_option maxRecDepth 20000 in
theorem wsL_law_r2_in : ∀ w ∈ wsL_law_r2, w ∈ lw_tbl := in_places _ [197, 136, 137, 37, 198, 152, 153, 38, 199, 200, 54, 55, 56, 69, 57, 72, 73, 74, 75, 76, 79, 94, 95, 96] (by decide +kernel)
set_option maxRecDepth 20000 in
theorem wsL_law_r3_in : ∀ w ∈ wsL_law_r3, w ∈ lw_tbl := in_places _ [97, 98, 99, 101, 135, 102, 138, 139, 140, 141, 142, 143, 144, 154, 155, 156, 157, 160, 162, 163, 164, 158, 159, 182] (by decide +kernel)
set_option maxRecDepth 20000 in
theorem wsL_law_r4_in : ∀ w ∈ wsL_law_r4, w ∈ lw_tbl := in_places _ [184, 0, 185, 186, 187, 188, 189, 106, 108, 110, 105, 190, 192, 1, 193, 443, 444, 445, 446, 456, 457, 461, 462, 465] (by decide +kernel)
set_option maxRecDepth 20000 in
theorem wsL_law_r5_in : ∀ w ∈ wsL_law_r5, w ∈ lw_tbl := in_places _ [466, 467, 468, 470, 471, 447, 448, 449, 450, 455, 458, 459, 451, 453, 14, 454, 460, 216, 217, 218, 219, 507, 220, 221] (by decide +kernel)
set_option maxRecDepth 20000 in
theorem wsL_law_r6_in : ∀ w ∈ wsL_law_r6, w ∈ lw_tbl := in_places _ [222, 223, 224, 226, 2, 227, 228, 229, 230, 231, 232, 233, 234, 60, 508, 509, 510, 511, 512, 514, 15, 515, 516, 517] (by decide +kernel)
set_option maxRecDepth 20000 in
theorem wsL_law_r7_in : ∀ w ∈ wsL_law_r7, w ∈ lw_tbl := in_places _ [518, 235, 236, 237, 238, 519, 520, 521, 522, 239, 240, 241, 242, 243, 245, 3, 246, 247, 248, 249, 250, 82, 251, 252] (by decide +kernel)
set_option maxRecDepth 20000 in
theorem wsL_law_r8_in : ∀ w ∈ wsL_law_r8, w ∈ lw_tbl := in_places _ [253, 254, 255, 256, 257, 258, 259, 261, 260, 40, 523, 524, 525, 526, 527, 529, 16, 530, 262, 263, 264, 265, 531, 532] (by decide +kernel)
set_option maxRecDepth 20000 in
theorem wsL_law_r9_in : ∀ w ∈ wsL_law_r9, w ∈ lw_tbl := in_places _ [533, 534, 266, 267, 268, 269, 270, 271, 272, 273, 312, 274, 275, 276, 277, 278, 280, 4, 281, 282, 283, 284, 285, 286] (by decide +kernel)
set_option maxRecDepth 20000 in
theorem wsL_law_r10_in : ∀ w ∈ wsL_law_r10, w ∈ lw_tbl := in_places _ [287, 288, 289, 290, 291, 292, 293, 100, 294, 296, 5, 297, 298, 300, 6, 301, 302, 303, 304, 305, 306, 104, 307, 308] (by decide +kernel)
set_option maxRecDepth 20000 in
theorem wsL_law_r11_in : ∀ w ∈ wsL_law_r11, w ∈ lw_tbl := in_places _ [310, 7, 311, 313, 314, 315, 316, 317, 319, 8, 320, 321, 322, 323, 324, 325, 327, 9, 328, 329, 330, 331, 332, 333] (by decide +kernel)
set_option maxRecDepth 20000 in
theorem wsL_law_r12_in : ∀ w ∈ wsL_law_r12, w ∈ lw_tbl := in_places _ [334, 335, 336, 337, 165, 338, 339, 41, 340, 341, 343, 10, 344, 345, 535, 536, 537, 538, 539, 541, 17, 542, 463, 543] (by decide +kernel)
set_option maxRecDepth 20000 in
theorem wsL_law_r13_in : ∀ w ∈ wsL_law_r13, w ∈ lw_tbl := in_places _ [545, 18, 546, 547, 549, 19, 550, 464, 551, 553, 20, 554, 555, 557, 21, 558, 559, 561, 22, 562, 563, 565, 23, 566] (by decide +kernel)
set_option maxRecDepth 20000 in
theorem wsL_law_r14_in : ∀ w ∈ wsL_law_r14, w ∈ lw_tbl := in_places _ [346, 347, 348, 349, 350, 351, 352, 353, 354, 355, 356, 357, 567, 568, 569, 570, 571, 573, 24, 574, 575, 577, 25, 578] (by decide +kernel)
set_option maxRecDepth 20000 in
theorem wsL_law_r15_in : ∀ w ∈ wsL_law_r15, w ∈ lw_tbl := in_places _ [579, 581, 26, 582, 358, 359, 360, 361, 362, 363, 583, 584, 585, 586, 587, 589, 27, 590, 364, 365, 366, 367, 591, 592] (by decide +kernel)
set_option maxRecDepth 20000 in
theorem wsL_law_r16_in : ∀ w ∈ wsL_law_r16, w ∈ lw_tbl := in_places _ [593, 594, 595, 597, 28, 598, 469, 368, 369, 370, 371, 372, 373, 374, 375, 376, 377, 378, 379, 599, 600, 601, 602, 603] (by decide +kernel)
set_option maxRecDepth 20000 in
theorem wsL_law_r17_in : ∀ w ∈ wsL_law_r17, w ∈ lw_tbl := in_places _ [605, 29, 606, 380, 381, 382, 383, 384, 385, 386, 387, 607, 608, 609, 610, 611, 613, 30, 614, 388, 389, 390, 391, 392] (by decide +kernel)
set_option maxRecDepth 20000 in
theorem wsL_law_r18_in : ∀ w ∈ wsL_law_r18, w ∈ lw_tbl := in_places _ [393, 394, 395, 396, 398, 11, 399, 400, 402, 12, 403, 404, 615, 616, 617, 618, 619, 621, 31, 622, 405, 406, 407, 408] (by decide +kernel)
set_option maxRecDepth 20000 in
theorem wsL_law_r19_in : ∀ w ∈ wsL_law_r19, w ∈ lw_tbl := in_places _ [417, 409, 410, 411, 412, 413, 414, 415, 416, 623, 624, 625, 626, 627, 418, 419, 420, 421, 422, 423, 424, 425, 426, 428] (by decide +kernel)
set_option maxRecDepth 20000 in
theorem wsL_law_r20_in : ∀ w ∈ wsL_law_r20, w ∈ lw_tbl := in_places _ [13, 429, 628, 629, 630, 631, 430, 431, 432, 433, 434, 435, 436, 437, 438, 439, 42, 440, 632, 633, 634, 635] (by decide +kernel)
set_option maxRecDepth 20000 in
theorem inwX5 : ∀ w ∈ wsX50, w ∈ lw_tbl := by decide +kernel
set_option maxRecDepth 20000 in
theorem inwX6 : ∀ w ∈ wsX60, w ∈ lw_tbl := by decide +kernel
set_option maxRecDepth 20000 in
theorem inwX3 : ∀ w ∈ wsX30, w ∈ lw_tbl := by decide +kernel
set_option maxRecDepth 20000 in
theorem inwX4 : ∀ w ∈ wsX40, w ∈ lw_tbl := by decide +kernel
set_option maxRecDepth 20000 in
theorem inwX1 : ∀ w ∈ wsX10, w ∈ lw_tbl := by decide +kernel
set_option maxRecDepth 20000 in
theorem inwX2 : ∀ w ∈ wsX20, w ∈ lw_tbl := by decide +kernel
set_option maxRecDepth 20000 in
theorem inwX0 : ∀ w ∈ wsX00, w ∈ lw_tbl := by decide +kernel
theorem wsL_law_in : ∀ w ∈ wsL_law, w ∈ lw_tbl := in_app (in_app (in_app (in_app (in_app (in_app (in_app (in_app (in_app wsL_law_r1_in (in_app wsL_law_r2_in (in_app wsL_law_r3_in (in_app wsL_law_r4_in (in_app wsL_law_r5_in (in_app wsL_law_r6_in (in_app wsL_law_r7_in (in_app wsL_law_r8_in (in_app wsL_law_r9_in (in_app wsL_law_r10_in (in_app wsL_law_r11_in (in_app wsL_law_r12_in (in_app wsL_law_r13_in (in_app wsL_law_r14_in (in_app wsL_law_r15_in (in_app wsL_law_r16_in (in_app wsL_law_r17_in (in_app wsL_law_r18_in (in_app wsL_law_r19_in (wsL_law_r20_in)))))))))))))))))))) inwX5) inwX6) inwX3) inwX4) inwX1) inwX2) inwX0) (fun _ h => absurd h List.not_mem_nil)
end
section
theorem inlX0 : ∀ w ∈ wsX00, w ∈ wsL_law := fun _ h => List.mem_append_left _ (List.mem_append_right _ h)
theorem inX0 : ∀ w ∈ wsX00, w ∈ lw_tbl := fun w h => wsL_law_in w (inlX0 w h)
theorem inlX1 : ∀ w ∈ wsX10, w ∈ wsL_law := fun _ h => List.mem_append_left _ (List.mem_append_left _ (List.mem_append_left _ (List.mem_append_right _ h)))
theorem inX1 : ∀ w ∈ wsX10, w ∈ lw_tbl := fun w h => wsL_law_in w (inlX1 w h)
theorem inlX2 : ∀ w ∈ wsX20, w ∈ wsL_law := fun _ h => List.mem_append_left _ (List.mem_append_left _ (List.mem_append_right _ h))
theorem inX2 : ∀ w ∈ wsX20, w ∈ lw_tbl := fun w h => wsL_law_in w (inlX2 w h)
theorem inlX3 : ∀ w ∈ wsX30, w ∈ wsL_law := fun _ h => List.mem_append_left _ (List.mem_append_left _ (List.mem_append_left _ (List.mem_append_left _ (List.mem_append_left _ (List.mem_append_right _ h)))))
theorem inX3 : ∀ w ∈ wsX30, w ∈ lw_tbl := fun w h => wsL_law_in w (inlX3 w h)
theorem inlX4 : ∀ w ∈ wsX40, w ∈ wsL_law := fun _ h => List.mem_append_left _ (List.mem_append_left _ (List.mem_append_left _ (List.mem_append_left _ (List.mem_append_right _ h))))
theorem inX4 : ∀ w ∈ wsX40, w ∈ lw_tbl := fun w h => wsL_law_in w (inlX4 w h)
theorem inlX5 : ∀ w ∈ wsX50, w ∈ wsL_law := fun _ h => List.mem_append_left _ (List.mem_append_left _ (List.mem_append_left _ (List.mem_append_left _ (List.mem_append_left _ (List.mem_append_left _ (List.mem_append_left _ (List.mem_append_right _ h)))))))
theorem inX5 : ∀ w ∈ wsX50, w ∈ lw_tbl := fun w h => wsL_law_in w (inlX5 w h)
theorem inlX6 : ∀ w ∈ wsX60, w ∈ wsL_law := fun _ h => List.mem_append_left _ (List.mem_append_left _ (List.mem_append_left _ (List.mem_append_left _ (List.mem_append_left _ (List.mem_append_left _ (List.mem_append_right _ h))))))
theorem inX6 : ∀ w ∈ wsX60, w ∈ lw_tbl := fun w h => wsL_law_in w (inlX6 w h)
theorem inJ9 : ∀ w ∈ wsJ90, w ∈ lw_tbl := by decide +kernel
theorem inJ10 : ∀ w ∈ wsJ100, w ∈ lw_tbl := by decide +kernel
theorem inJ7 : ∀ w ∈ wsJ70, w ∈ lw_tbl := by decide +kernel
theorem dX0_init_0 : decode cX0_init 0 = .ok (.aload_n 0, 1) := by decide +kernel
theorem dX0_init_1 : decode cX0_init 1 = .ok (.invokespecial 3, 3) := by decide +kernel
theorem dX0_init_4 : decode cX0_init 4 = .ok (.aload_n 0, 1) := by decide +kernel
theorem dX0_init_5 : decode cX0_init 5 = .ok (.sipush 200, 3) := by decide +kernel
theorem dX0_init_8 : decode cX0_init 8 = .ok (.newarray .int, 2) := by decide +kernel
theorem dX0_init_10 : decode cX0_init 10 = .ok (.putfield 9, 3) := by decide +kernel
theorem dX0_init_13 : decode cX0_init 13 = .ok (.aload_n 0, 1) := by decide +kernel
theorem dX0_init_14 : decode cX0_init 14 = .ok (.sipush 200, 3) := by decide +kernel
theorem dX0_init_17 : decode cX0_init 17 = .ok (.newarray .int, 2) := by decide +kernel
theorem dX0_init_19 : decode cX0_init 19 = .ok (.putfield 15, 3) := by decide +kernel
theorem dX0_init_22 : decode cX0_init 22 = .ok (.aload_n 0, 1) := by decide +kernel
theorem dX0_init_23 : decode cX0_init 23 = .ok (.sipush 200, 3) := by decide +kernel
theorem dX0_init_26 : decode cX0_init 26 = .ok (.newarray .boolean, 2) := by decide +kernel
theorem dX0_init_28 : decode cX0_init 28 = .ok (.putfield 18, 3) := by decide +kernel
theorem dX0_init_31 : decode cX0_init 31 = .ok (.aload_n 0, 1) := by decide +kernel
theorem dX0_init_32 : decode cX0_init 32 = .ok (.sipush 200, 3) := by decide +kernel
theorem dX0_init_35 : decode cX0_init 35 = .ok (.newarray .int, 2) := by decide +kernel
theorem dX0_init_37 : decode cX0_init 37 = .ok (.putfield 22, 3) := by decide +kernel
theorem dX0_init_40 : decode cX0_init 40 = .ok (.aload_n 0, 1) := by decide +kernel
theorem dX0_init_41 : decode cX0_init 41 = .ok (.aload_n 1, 1) := by decide +kernel
theorem dX0_init_42 : decode cX0_init 42 = .ok (.putfield 25, 3) := by decide +kernel
theorem dX0_init_45 : decode cX0_init 45 = .ok (.aload_n 0, 1) := by decide +kernel
theorem dX0_init_46 : decode cX0_init 46 = .ok (.aload_n 2, 1) := by decide +kernel
theorem dX0_init_47 : decode cX0_init 47 = .ok (.putfield 29, 3) := by decide +kernel
theorem dX0_init_50 : decode cX0_init 50 = .ok (.return_, 1) := by decide +kernel
theorem dX0_isReady_0 : decode cX0_isReady 0 = .ok (.aload_n 0, 1) := by decide +kernel
theorem dX0_isReady_1 : decode cX0_isReady 1 = .ok (.getfield 33, 3) := by decide +kernel
theorem dX0_isReady_4 : decode cX0_isReady 4 = .ok (.ifCond .le 7, 3) := by decide +kernel
theorem dX0_isReady_7 : decode cX0_isReady 7 = .ok (.iconst 1, 1) := by decide +kernel
theorem dX0_isReady_8 : decode cX0_isReady 8 = .ok (.goto 4, 3) := by decide +kernel
theorem dX0_isReady_11 : decode cX0_isReady 11 = .ok (.iconst 0, 1) := by decide +kernel
theorem dX0_isReady_12 : decode cX0_isReady 12 = .ok (.ireturn, 1) := by decide +kernel
theorem dX0_hasNumber_0 : decode cX0_hasNumber 0 = .ok (.iload_n 1, 1) := by decide +kernel
theorem dX0_hasNumber_1 : decode cX0_hasNumber 1 = .ok (.ifCond .lt 15, 3) := by decide +kernel
theorem dX0_hasNumber_4 : decode cX0_hasNumber 4 = .ok (.iload_n 1, 1) := by decide +kernel
theorem dX0_hasNumber_5 : decode cX0_hasNumber 5 = .ok (.aload_n 0, 1) := by decide +kernel
theorem dX0_hasNumber_6 : decode cX0_hasNumber 6 = .ok (.getfield 33, 3) := by decide +kernel
theorem dX0_hasNumber_9 : decode cX0_hasNumber 9 = .ok (.if_icmp .ge 7, 3) := by decide +kernel
theorem dX0_hasNumber_12 : decode cX0_hasNumber 12 = .ok (.iconst 1, 1) := by decide +kernel
theorem dX0_hasNumber_13 : decode cX0_hasNumber 13 = .ok (.goto 4, 3) := by decide +kernel
theorem dX0_hasNumber_16 : decode cX0_hasNumber 16 = .ok (.iconst 0, 1) := by decide +kernel
theorem dX0_hasNumber_17 : decode cX0_hasNumber 17 = .ok (.ireturn, 1) := by decide +kernel
set_option maxRecDepth 20000 in
theorem ggX0_giveNumbers_J7_fill_53178 : GoodIn wsX0_giveNumbers wsJ7_fill_53178 := goodIn_r _ [8] (by decide +kernel) (by decide +kernel)
set_option maxRecDepth 20000 in
theorem gX0_giveNumbers_J7_fill_53178 : GoodIn wsX0_giveNumbers (va_wsS RX0 37 yJ7_fill_53178 wsJ7_fill_53178) := goodIn_app (goodIn_of _ (by decide +kernel)) ggX0_giveNumbers_J7_fill_53178
set_option maxRecDepth 20000 in
theorem ggX0_giveNumbers_X0_giveNextNumber : GoodIn wsX0_giveNumbers wsX0_giveNextNumber := goodIn_r _ [13, 1, 2, 4, 20, 21, 22, 23, 24, 25, 26] (by decide +kernel) (by decide +kernel)
set_option maxRecDepth 20000 in
theorem gX0_giveNumbers_X0_giveNextNumber : GoodIn wsX0_giveNumbers (wsV RX0 43 RX0 yX0_giveNextNumber wsX0_giveNextNumber) := goodIn_app (goodIn_of _ (by decide +kernel)) ggX0_giveNumbers_X0_giveNextNumber
set_option maxRecDepth 20000 in
theorem ggX0_giveNumbers_X1_at : GoodIn wsX0_giveNumbers wsX1_at := goodIn_r _ [18, 19, 27, 28, 29, 30, 31, 32, 33, 34, 35, 36, 37] (by decide +kernel) (by decide +kernel)
set_option maxRecDepth 20000 in
theorem gX0_giveNumbers_X1_at : GoodIn wsX0_giveNumbers (wsV RX0 52 RX1 yX1_at wsX1_at) := goodIn_app (goodIn_of _ (by decide +kernel)) ggX0_giveNumbers_X1_at
theorem dX0_giveNumbers_0 : decode cX0_giveNumbers 0 = .ok (.aload_n 0, 1) := by decide +kernel
theorem dX0_giveNumbers_1 : decode cX0_giveNumbers 1 = .ok (.getfield 9, 3) := by decide +kernel
theorem dX0_giveNumbers_4 : decode cX0_giveNumbers 4 = .ok (.iconst (-1), 1) := by decide +kernel
theorem dX0_giveNumbers_5 : decode cX0_giveNumbers 5 = .ok (.invokestatic 37, 3) := by decide +kernel
theorem dX0_giveNumbers_8 : decode cX0_giveNumbers 8 = .ok (.aload_n 0, 1) := by decide +kernel
theorem dX0_giveNumbers_9 : decode cX0_giveNumbers 9 = .ok (.iconst 0, 1) := by decide +kernel
theorem dX0_giveNumbers_10 : decode cX0_giveNumbers 10 = .ok (.putfield 33, 3) := by decide +kernel
theorem dX0_giveNumbers_13 : decode cX0_giveNumbers 13 = .ok (.aload_n 0, 1) := by decide +kernel
theorem dX0_giveNumbers_14 : decode cX0_giveNumbers 14 = .ok (.iconst 0, 1) := by decide +kernel
theorem dX0_giveNumbers_15 : decode cX0_giveNumbers 15 = .ok (.invokevirtual 43, 3) := by decide +kernel
theorem dX0_giveNumbers_18 : decode cX0_giveNumbers 18 = .ok (.iconst 0, 1) := by decide +kernel
theorem dX0_giveNumbers_19 : decode cX0_giveNumbers 19 = .ok (.istore_n 1, 1) := by decide +kernel
theorem dX0_giveNumbers_20 : decode cX0_giveNumbers 20 = .ok (.iload_n 1, 1) := by decide +kernel
theorem dX0_giveNumbers_21 : decode cX0_giveNumbers 21 = .ok (.aload_n 0, 1) := by decide +kernel
theorem dX0_giveNumbers_22 : decode cX0_giveNumbers 22 = .ok (.getfield 33, 3) := by decide +kernel
theorem dX0_giveNumbers_25 : decode cX0_giveNumbers 25 = .ok (.if_icmp .ge 53, 3) := by decide +kernel
theorem dX0_giveNumbers_28 : decode cX0_giveNumbers 28 = .ok (.iload_n 1, 1) := by decide +kernel
theorem dX0_giveNumbers_29 : decode cX0_giveNumbers 29 = .ok (.sipush 200, 3) := by decide +kernel
theorem dX0_giveNumbers_32 : decode cX0_giveNumbers 32 = .ok (.if_icmp .ge 46, 3) := by decide +kernel
theorem dX0_giveNumbers_35 : decode cX0_giveNumbers 35 = .ok (.iconst 0, 1) := by decide +kernel
theorem dX0_giveNumbers_36 : decode cX0_giveNumbers 36 = .ok (.istore_n 2, 1) := by decide +kernel
theorem dX0_giveNumbers_37 : decode cX0_giveNumbers 37 = .ok (.iload_n 2, 1) := by decide +kernel
theorem dX0_giveNumbers_38 : decode cX0_giveNumbers 38 = .ok (.aload_n 0, 1) := by decide +kernel
theorem dX0_giveNumbers_39 : decode cX0_giveNumbers 39 = .ok (.getfield 25, 3) := by decide +kernel
theorem dX0_giveNumbers_42 : decode cX0_giveNumbers 42 = .ok (.getfield 47, 3) := by decide +kernel
theorem dX0_giveNumbers_45 : decode cX0_giveNumbers 45 = .ok (.if_icmp .ge 27, 3) := by decide +kernel
theorem dX0_giveNumbers_48 : decode cX0_giveNumbers 48 = .ok (.aload_n 0, 1) := by decide +kernel
theorem dX0_giveNumbers_49 : decode cX0_giveNumbers 49 = .ok (.aload_n 0, 1) := by decide +kernel
theorem dX0_giveNumbers_50 : decode cX0_giveNumbers 50 = .ok (.getfield 25, 3) := by decide +kernel
theorem dX0_giveNumbers_53 : decode cX0_giveNumbers 53 = .ok (.aload_n 0, 1) := by decide +kernel
theorem dX0_giveNumbers_54 : decode cX0_giveNumbers 54 = .ok (.getfield 15, 3) := by decide +kernel
theorem dX0_giveNumbers_57 : decode cX0_giveNumbers 57 = .ok (.iload_n 1, 1) := by decide +kernel
theorem dX0_giveNumbers_58 : decode cX0_giveNumbers 58 = .ok (.iaload, 1) := by decide +kernel
theorem dX0_giveNumbers_59 : decode cX0_giveNumbers 59 = .ok (.iload_n 2, 1) := by decide +kernel
theorem dX0_giveNumbers_60 : decode cX0_giveNumbers 60 = .ok (.invokevirtual 52, 3) := by decide +kernel
theorem dX0_giveNumbers_63 : decode cX0_giveNumbers 63 = .ok (.invokevirtual 43, 3) := by decide +kernel
theorem dX0_giveNumbers_66 : decode cX0_giveNumbers 66 = .ok (.iinc 2 1, 3) := by decide +kernel
theorem dX0_giveNumbers_69 : decode cX0_giveNumbers 69 = .ok (.goto (-32), 3) := by decide +kernel
theorem dX0_giveNumbers_72 : decode cX0_giveNumbers 72 = .ok (.iinc 1 1, 3) := by decide +kernel
theorem dX0_giveNumbers_75 : decode cX0_giveNumbers 75 = .ok (.goto (-55), 3) := by decide +kernel
theorem dX0_giveNumbers_78 : decode cX0_giveNumbers 78 = .ok (.return_, 1) := by decide +kernel
theorem dX0_giveNextNumber_0 : decode cX0_giveNextNumber 0 = .ok (.aload_n 0, 1) := by decide +kernel
theorem dX0_giveNextNumber_1 : decode cX0_giveNextNumber 1 = .ok (.getfield 9, 3) := by decide +kernel
theorem dX0_giveNextNumber_4 : decode cX0_giveNextNumber 4 = .ok (.iload_n 1, 1) := by decide +kernel
theorem dX0_giveNextNumber_5 : decode cX0_giveNextNumber 5 = .ok (.iaload, 1) := by decide +kernel
theorem dX0_giveNextNumber_6 : decode cX0_giveNextNumber 6 = .ok (.iconst (-1), 1) := by decide +kernel
theorem dX0_giveNextNumber_7 : decode cX0_giveNextNumber 7 = .ok (.if_icmp .ne 33, 3) := by decide +kernel
theorem dX0_giveNextNumber_10 : decode cX0_giveNextNumber 10 = .ok (.aload_n 0, 1) := by decide +kernel
theorem dX0_giveNextNumber_11 : decode cX0_giveNextNumber 11 = .ok (.getfield 9, 3) := by decide +kernel
theorem dX0_giveNextNumber_14 : decode cX0_giveNextNumber 14 = .ok (.iload_n 1, 1) := by decide +kernel
theorem dX0_giveNextNumber_15 : decode cX0_giveNextNumber 15 = .ok (.aload_n 0, 1) := by decide +kernel
theorem dX0_giveNextNumber_16 : decode cX0_giveNextNumber 16 = .ok (.getfield 33, 3) := by decide +kernel
theorem dX0_giveNextNumber_19 : decode cX0_giveNextNumber 19 = .ok (.iastore, 1) := by decide +kernel
theorem dX0_giveNextNumber_20 : decode cX0_giveNextNumber 20 = .ok (.aload_n 0, 1) := by decide +kernel
theorem dX0_giveNextNumber_21 : decode cX0_giveNextNumber 21 = .ok (.getfield 15, 3) := by decide +kernel
theorem dX0_giveNextNumber_24 : decode cX0_giveNextNumber 24 = .ok (.aload_n 0, 1) := by decide +kernel
theorem dX0_giveNextNumber_25 : decode cX0_giveNextNumber 25 = .ok (.getfield 33, 3) := by decide +kernel
theorem dX0_giveNextNumber_28 : decode cX0_giveNextNumber 28 = .ok (.iload_n 1, 1) := by decide +kernel
theorem dX0_giveNextNumber_29 : decode cX0_giveNextNumber 29 = .ok (.iastore, 1) := by decide +kernel
theorem dX0_giveNextNumber_30 : decode cX0_giveNextNumber 30 = .ok (.aload_n 0, 1) := by decide +kernel
theorem dX0_giveNextNumber_31 : decode cX0_giveNextNumber 31 = .ok (.dup, 1) := by decide +kernel
theorem dX0_giveNextNumber_32 : decode cX0_giveNextNumber 32 = .ok (.getfield 33, 3) := by decide +kernel
theorem dX0_giveNextNumber_35 : decode cX0_giveNextNumber 35 = .ok (.iconst 1, 1) := by decide +kernel
theorem dX0_giveNextNumber_36 : decode cX0_giveNextNumber 36 = .ok (.iadd, 1) := by decide +kernel
theorem dX0_giveNextNumber_37 : decode cX0_giveNextNumber 37 = .ok (.putfield 33, 3) := by decide +kernel
theorem dX0_giveNextNumber_40 : decode cX0_giveNextNumber 40 = .ok (.return_, 1) := by decide +kernel
set_option maxRecDepth 20000 in
theorem ggX0_letterImage_X1_at : GoodIn wsX0_letterImage wsX1_at := goodIn_r _ [8, 9, 17, 18, 19, 20, 21, 22, 23, 24, 25, 26, 27] (by decide +kernel) (by decide +kernel)
set_option maxRecDepth 20000 in
theorem gX0_letterImage_X1_at : GoodIn wsX0_letterImage (wsV RX0 52 RX1 yX1_at wsX1_at) := goodIn_app (goodIn_of _ (by decide +kernel)) ggX0_letterImage_X1_at
theorem dX0_letterImage_0 : decode cX0_letterImage 0 = .ok (.aload_n 0, 1) := by decide +kernel
theorem dX0_letterImage_1 : decode cX0_letterImage 1 = .ok (.getfield 9, 3) := by decide +kernel
theorem dX0_letterImage_4 : decode cX0_letterImage 4 = .ok (.aload_n 0, 1) := by decide +kernel
theorem dX0_letterImage_5 : decode cX0_letterImage 5 = .ok (.getfield 25, 3) := by decide +kernel
theorem dX0_letterImage_8 : decode cX0_letterImage 8 = .ok (.aload_n 0, 1) := by decide +kernel
theorem dX0_letterImage_9 : decode cX0_letterImage 9 = .ok (.getfield 15, 3) := by decide +kernel
theorem dX0_letterImage_12 : decode cX0_letterImage 12 = .ok (.iload_n 1, 1) := by decide +kernel
theorem dX0_letterImage_13 : decode cX0_letterImage 13 = .ok (.iaload, 1) := by decide +kernel
theorem dX0_letterImage_14 : decode cX0_letterImage 14 = .ok (.iload_n 2, 1) := by decide +kernel
theorem dX0_letterImage_15 : decode cX0_letterImage 15 = .ok (.invokevirtual 52, 3) := by decide +kernel
theorem dX0_letterImage_18 : decode cX0_letterImage 18 = .ok (.iaload, 1) := by decide +kernel
theorem dX0_letterImage_19 : decode cX0_letterImage 19 = .ok (.ireturn, 1) := by decide +kernel
set_option maxRecDepth 20000 in
theorem ggX0_image_X1_at : GoodIn wsX0_image wsX1_at := goodIn_r _ [8, 9, 19, 20, 21, 22, 23, 24, 25, 26, 27, 28, 29] (by decide +kernel) (by decide +kernel)
set_option maxRecDepth 20000 in
theorem gX0_image_X1_at : GoodIn wsX0_image (wsV RX0 52 RX1 yX1_at wsX1_at) := goodIn_app (goodIn_of _ (by decide +kernel)) ggX0_image_X1_at
theorem dX0_image_0 : decode cX0_image 0 = .ok (.aload_n 0, 1) := by decide +kernel
theorem dX0_image_1 : decode cX0_image 1 = .ok (.getfield 15, 3) := by decide +kernel
theorem dX0_image_4 : decode cX0_image 4 = .ok (.iload_n 1, 1) := by decide +kernel
theorem dX0_image_5 : decode cX0_image 5 = .ok (.iaload, 1) := by decide +kernel
theorem dX0_image_6 : decode cX0_image 6 = .ok (.istore_n 3, 1) := by decide +kernel
theorem dX0_image_7 : decode cX0_image 7 = .ok (.iconst 0, 1) := by decide +kernel
theorem dX0_image_8 : decode cX0_image 8 = .ok (.istore 4, 2) := by decide +kernel
theorem dX0_image_10 : decode cX0_image 10 = .ok (.iload 4, 2) := by decide +kernel
theorem dX0_image_12 : decode cX0_image 12 = .ok (.aload_n 2, 1) := by decide +kernel
theorem dX0_image_13 : decode cX0_image 13 = .ok (.getfield 56, 3) := by decide +kernel
theorem dX0_image_16 : decode cX0_image 16 = .ok (.if_icmp .ge 25, 3) := by decide +kernel
theorem dX0_image_19 : decode cX0_image 19 = .ok (.aload_n 0, 1) := by decide +kernel
theorem dX0_image_20 : decode cX0_image 20 = .ok (.getfield 25, 3) := by decide +kernel
theorem dX0_image_23 : decode cX0_image 23 = .ok (.iload_n 3, 1) := by decide +kernel
theorem dX0_image_24 : decode cX0_image 24 = .ok (.aload_n 2, 1) := by decide +kernel
theorem dX0_image_25 : decode cX0_image 25 = .ok (.getfield 61, 3) := by decide +kernel
theorem dX0_image_28 : decode cX0_image 28 = .ok (.iload 4, 2) := by decide +kernel
theorem dX0_image_30 : decode cX0_image 30 = .ok (.iaload, 1) := by decide +kernel
theorem dX0_image_31 : decode cX0_image 31 = .ok (.invokevirtual 52, 3) := by decide +kernel
theorem dX0_image_34 : decode cX0_image 34 = .ok (.istore_n 3, 1) := by decide +kernel
theorem dX0_image_35 : decode cX0_image 35 = .ok (.iinc 4 1, 3) := by decide +kernel
theorem dX0_image_38 : decode cX0_image 38 = .ok (.goto (-28), 3) := by decide +kernel
theorem dX0_image_41 : decode cX0_image 41 = .ok (.aload_n 0, 1) := by decide +kernel
theorem dX0_image_42 : decode cX0_image 42 = .ok (.getfield 9, 3) := by decide +kernel
theorem dX0_image_45 : decode cX0_image 45 = .ok (.iload_n 3, 1) := by decide +kernel
theorem dX0_image_46 : decode cX0_image 46 = .ok (.iaload, 1) := by decide +kernel
theorem dX0_image_47 : decode cX0_image 47 = .ok (.ireturn, 1) := by decide +kernel
set_option maxRecDepth 20000 in
theorem ggX0_countCycles_X0_forgetSeen : GoodIn wsX0_countCycles wsX0_forgetSeen := goodIn_r _ [6, 1, 7, 25, 26, 27, 28, 29, 30, 31] (by decide +kernel) (by decide +kernel)
set_option maxRecDepth 20000 in
theorem gX0_countCycles_X0_forgetSeen : GoodIn wsX0_countCycles (wsV RX0 63 RX0 yX0_forgetSeen wsX0_forgetSeen) := goodIn_app (goodIn_of _ (by decide +kernel)) ggX0_countCycles_X0_forgetSeen
set_option maxRecDepth 20000 in
theorem ggX0_countCycles_X0_seeCycle : GoodIn wsX0_countCycles wsX0_seeCycle := goodIn_r _ [11, 1, 7, 12, 13, 14, 5, 15, 16, 17, 18, 19, 20, 21, 22, 23, 24, 25, 26, 27, 28, 29, 30, 31, 32, 33, 34, 35, 36, 37, 38, 39, 40, 41, 42, 43, 44] (by decide +kernel) (by decide +kernel)
set_option maxRecDepth 20000 in
theorem gX0_countCycles_X0_seeCycle : GoodIn wsX0_countCycles (wsV RX0 66 RX0 yX0_seeCycle wsX0_seeCycle) := goodIn_app (goodIn_of _ (by decide +kernel)) ggX0_countCycles_X0_seeCycle
theorem dX0_countCycles_0 : decode cX0_countCycles 0 = .ok (.aload_n 0, 1) := by decide +kernel
theorem dX0_countCycles_1 : decode cX0_countCycles 1 = .ok (.invokevirtual 63, 3) := by decide +kernel
theorem dX0_countCycles_4 : decode cX0_countCycles 4 = .ok (.iconst 0, 1) := by decide +kernel
theorem dX0_countCycles_5 : decode cX0_countCycles 5 = .ok (.istore_n 3, 1) := by decide +kernel
theorem dX0_countCycles_6 : decode cX0_countCycles 6 = .ok (.iconst 0, 1) := by decide +kernel
theorem dX0_countCycles_7 : decode cX0_countCycles 7 = .ok (.istore 4, 2) := by decide +kernel
theorem dX0_countCycles_9 : decode cX0_countCycles 9 = .ok (.iload 4, 2) := by decide +kernel
theorem dX0_countCycles_11 : decode cX0_countCycles 11 = .ok (.aload_n 0, 1) := by decide +kernel
theorem dX0_countCycles_12 : decode cX0_countCycles 12 = .ok (.getfield 33, 3) := by decide +kernel
theorem dX0_countCycles_15 : decode cX0_countCycles 15 = .ok (.if_icmp .ge 39, 3) := by decide +kernel
theorem dX0_countCycles_18 : decode cX0_countCycles 18 = .ok (.aload_n 0, 1) := by decide +kernel
theorem dX0_countCycles_19 : decode cX0_countCycles 19 = .ok (.aload_n 1, 1) := by decide +kernel
theorem dX0_countCycles_20 : decode cX0_countCycles 20 = .ok (.iload 4, 2) := by decide +kernel
theorem dX0_countCycles_22 : decode cX0_countCycles 22 = .ok (.invokevirtual 66, 3) := by decide +kernel
theorem dX0_countCycles_25 : decode cX0_countCycles 25 = .ok (.istore 5, 2) := by decide +kernel
theorem dX0_countCycles_27 : decode cX0_countCycles 27 = .ok (.iload_n 2, 1) := by decide +kernel
theorem dX0_countCycles_28 : decode cX0_countCycles 28 = .ok (.ifCond .eq 12, 3) := by decide +kernel
theorem dX0_countCycles_31 : decode cX0_countCycles 31 = .ok (.iload 5, 2) := by decide +kernel
theorem dX0_countCycles_33 : decode cX0_countCycles 33 = .ok (.iconst 1, 1) := by decide +kernel
theorem dX0_countCycles_34 : decode cX0_countCycles 34 = .ok (.if_icmp .ne 14, 3) := by decide +kernel
theorem dX0_countCycles_37 : decode cX0_countCycles 37 = .ok (.goto 8, 3) := by decide +kernel
theorem dX0_countCycles_40 : decode cX0_countCycles 40 = .ok (.iload 5, 2) := by decide +kernel
theorem dX0_countCycles_42 : decode cX0_countCycles 42 = .ok (.ifCond .le 6, 3) := by decide +kernel
theorem dX0_countCycles_45 : decode cX0_countCycles 45 = .ok (.iinc 3 1, 3) := by decide +kernel
theorem dX0_countCycles_48 : decode cX0_countCycles 48 = .ok (.iinc 4 1, 3) := by decide +kernel
theorem dX0_countCycles_51 : decode cX0_countCycles 51 = .ok (.goto (-42), 3) := by decide +kernel
theorem dX0_countCycles_54 : decode cX0_countCycles 54 = .ok (.iload_n 3, 1) := by decide +kernel
theorem dX0_countCycles_55 : decode cX0_countCycles 55 = .ok (.ireturn, 1) := by decide +kernel
set_option maxRecDepth 20000 in
theorem ggX0_orderOf_X0_forgetSeen : GoodIn wsX0_orderOf wsX0_forgetSeen := goodIn_r _ [6, 1, 7, 29, 30, 31, 32, 33, 34, 35] (by decide +kernel) (by decide +kernel)
set_option maxRecDepth 20000 in
theorem gX0_orderOf_X0_forgetSeen : GoodIn wsX0_orderOf (wsV RX0 63 RX0 yX0_forgetSeen wsX0_forgetSeen) := goodIn_app (goodIn_of _ (by decide +kernel)) ggX0_orderOf_X0_forgetSeen
set_option maxRecDepth 20000 in
theorem ggX0_orderOf_X0_seeCycle : GoodIn wsX0_orderOf wsX0_seeCycle := goodIn_r _ [11, 1, 7, 12, 13, 14, 5, 15, 16, 17, 18, 19, 20, 21, 22, 23, 24, 29, 30, 31, 32, 33, 34, 35, 36, 37, 38, 39, 40, 41, 42, 43, 44, 45, 46, 47, 48] (by decide +kernel) (by decide +kernel)
set_option maxRecDepth 20000 in
theorem gX0_orderOf_X0_seeCycle : GoodIn wsX0_orderOf (wsV RX0 66 RX0 yX0_seeCycle wsX0_seeCycle) := goodIn_app (goodIn_of _ (by decide +kernel)) ggX0_orderOf_X0_seeCycle
set_option maxRecDepth 20000 in
theorem ggX0_orderOf_X0_leastCommonMultiple : GoodIn wsX0_orderOf wsX0_leastCommonMultiple := goodIn_r _ [27, 28] (by decide +kernel) (by decide +kernel)
set_option maxRecDepth 20000 in
theorem gX0_orderOf_X0_leastCommonMultiple : GoodIn wsX0_orderOf (va_wsS RX0 70 yX0_leastCommonMultiple wsX0_leastCommonMultiple) := goodIn_app (goodIn_of _ (by decide +kernel)) ggX0_orderOf_X0_leastCommonMultiple
theorem dX0_orderOf_0 : decode cX0_orderOf 0 = .ok (.aload_n 0, 1) := by decide +kernel
theorem dX0_orderOf_1 : decode cX0_orderOf 1 = .ok (.invokevirtual 63, 3) := by decide +kernel
theorem dX0_orderOf_4 : decode cX0_orderOf 4 = .ok (.lconst 1, 1) := by decide +kernel
theorem dX0_orderOf_5 : decode cX0_orderOf 5 = .ok (.lstore_n 2, 1) := by decide +kernel
theorem dX0_orderOf_6 : decode cX0_orderOf 6 = .ok (.iconst 0, 1) := by decide +kernel
theorem dX0_orderOf_7 : decode cX0_orderOf 7 = .ok (.istore 4, 2) := by decide +kernel
theorem dX0_orderOf_9 : decode cX0_orderOf 9 = .ok (.iload 4, 2) := by decide +kernel
theorem dX0_orderOf_11 : decode cX0_orderOf 11 = .ok (.aload_n 0, 1) := by decide +kernel
theorem dX0_orderOf_12 : decode cX0_orderOf 12 = .ok (.getfield 33, 3) := by decide +kernel
theorem dX0_orderOf_15 : decode cX0_orderOf 15 = .ok (.if_icmp .ge 31, 3) := by decide +kernel
theorem dX0_orderOf_18 : decode cX0_orderOf 18 = .ok (.aload_n 0, 1) := by decide +kernel
theorem dX0_orderOf_19 : decode cX0_orderOf 19 = .ok (.aload_n 1, 1) := by decide +kernel
theorem dX0_orderOf_20 : decode cX0_orderOf 20 = .ok (.iload 4, 2) := by decide +kernel
theorem dX0_orderOf_22 : decode cX0_orderOf 22 = .ok (.invokevirtual 66, 3) := by decide +kernel
theorem dX0_orderOf_25 : decode cX0_orderOf 25 = .ok (.istore 5, 2) := by decide +kernel
theorem dX0_orderOf_27 : decode cX0_orderOf 27 = .ok (.iload 5, 2) := by decide +kernel
theorem dX0_orderOf_29 : decode cX0_orderOf 29 = .ok (.ifCond .le 11, 3) := by decide +kernel
theorem dX0_orderOf_32 : decode cX0_orderOf 32 = .ok (.lload_n 2, 1) := by decide +kernel
theorem dX0_orderOf_33 : decode cX0_orderOf 33 = .ok (.iload 5, 2) := by decide +kernel
theorem dX0_orderOf_35 : decode cX0_orderOf 35 = .ok (.i2l, 1) := by decide +kernel
theorem dX0_orderOf_36 : decode cX0_orderOf 36 = .ok (.invokestatic 70, 3) := by decide +kernel
theorem dX0_orderOf_39 : decode cX0_orderOf 39 = .ok (.lstore_n 2, 1) := by decide +kernel
theorem dX0_orderOf_40 : decode cX0_orderOf 40 = .ok (.iinc 4 1, 3) := by decide +kernel
theorem dX0_orderOf_43 : decode cX0_orderOf 43 = .ok (.goto (-34), 3) := by decide +kernel
theorem dX0_orderOf_46 : decode cX0_orderOf 46 = .ok (.lload_n 2, 1) := by decide +kernel
theorem dX0_orderOf_47 : decode cX0_orderOf 47 = .ok (.lreturn, 1) := by decide +kernel
theorem dX0_forgetSeen_0 : decode cX0_forgetSeen 0 = .ok (.iconst 0, 1) := by decide +kernel
theorem dX0_forgetSeen_1 : decode cX0_forgetSeen 1 = .ok (.istore_n 1, 1) := by decide +kernel
theorem dX0_forgetSeen_2 : decode cX0_forgetSeen 2 = .ok (.iload_n 1, 1) := by decide +kernel
theorem dX0_forgetSeen_3 : decode cX0_forgetSeen 3 = .ok (.aload_n 0, 1) := by decide +kernel
theorem dX0_forgetSeen_4 : decode cX0_forgetSeen 4 = .ok (.getfield 33, 3) := by decide +kernel
theorem dX0_forgetSeen_7 : decode cX0_forgetSeen 7 = .ok (.if_icmp .ge 16, 3) := by decide +kernel
theorem dX0_forgetSeen_10 : decode cX0_forgetSeen 10 = .ok (.aload_n 0, 1) := by decide +kernel
theorem dX0_forgetSeen_11 : decode cX0_forgetSeen 11 = .ok (.getfield 18, 3) := by decide +kernel
theorem dX0_forgetSeen_14 : decode cX0_forgetSeen 14 = .ok (.iload_n 1, 1) := by decide +kernel
theorem dX0_forgetSeen_15 : decode cX0_forgetSeen 15 = .ok (.iconst 0, 1) := by decide +kernel
theorem dX0_forgetSeen_16 : decode cX0_forgetSeen 16 = .ok (.bastore, 1) := by decide +kernel
theorem dX0_forgetSeen_17 : decode cX0_forgetSeen 17 = .ok (.iinc 1 1, 3) := by decide +kernel
theorem dX0_forgetSeen_20 : decode cX0_forgetSeen 20 = .ok (.goto (-18), 3) := by decide +kernel
theorem dX0_forgetSeen_23 : decode cX0_forgetSeen 23 = .ok (.return_, 1) := by decide +kernel
set_option maxRecDepth 20000 in
theorem ggX0_seeCycle_X0_image : GoodIn wsX0_seeCycle wsX0_image := goodIn_r _ [7, 8, 9, 10, 11, 12, 13, 14, 15, 16, 17, 18, 19, 20, 21, 22, 23, 24, 25, 26, 27, 28, 29, 30, 31, 32, 33, 34, 35, 36] (by decide +kernel) (by decide +kernel)
set_option maxRecDepth 20000 in
theorem gX0_seeCycle_X0_image : GoodIn wsX0_seeCycle (wsV RX0 74 RX0 yX0_image wsX0_image) := goodIn_app (goodIn_of _ (by decide +kernel)) ggX0_seeCycle_X0_image
theorem dX0_seeCycle_0 : decode cX0_seeCycle 0 = .ok (.iconst 0, 1) := by decide +kernel
theorem dX0_seeCycle_1 : decode cX0_seeCycle 1 = .ok (.istore_n 3, 1) := by decide +kernel
theorem dX0_seeCycle_2 : decode cX0_seeCycle 2 = .ok (.iload_n 2, 1) := by decide +kernel
theorem dX0_seeCycle_3 : decode cX0_seeCycle 3 = .ok (.istore 4, 2) := by decide +kernel
theorem dX0_seeCycle_5 : decode cX0_seeCycle 5 = .ok (.iload_n 3, 1) := by decide +kernel
theorem dX0_seeCycle_6 : decode cX0_seeCycle 6 = .ok (.aload_n 0, 1) := by decide +kernel
theorem dX0_seeCycle_7 : decode cX0_seeCycle 7 = .ok (.getfield 33, 3) := by decide +kernel
theorem dX0_seeCycle_10 : decode cX0_seeCycle 10 = .ok (.if_icmp .ge 36, 3) := by decide +kernel
theorem dX0_seeCycle_13 : decode cX0_seeCycle 13 = .ok (.aload_n 0, 1) := by decide +kernel
theorem dX0_seeCycle_14 : decode cX0_seeCycle 14 = .ok (.getfield 18, 3) := by decide +kernel
theorem dX0_seeCycle_17 : decode cX0_seeCycle 17 = .ok (.iload 4, 2) := by decide +kernel
theorem dX0_seeCycle_19 : decode cX0_seeCycle 19 = .ok (.baload, 1) := by decide +kernel
theorem dX0_seeCycle_20 : decode cX0_seeCycle 20 = .ok (.ifCond .ne 26, 3) := by decide +kernel
theorem dX0_seeCycle_23 : decode cX0_seeCycle 23 = .ok (.aload_n 0, 1) := by decide +kernel
theorem dX0_seeCycle_24 : decode cX0_seeCycle 24 = .ok (.getfield 18, 3) := by decide +kernel
theorem dX0_seeCycle_27 : decode cX0_seeCycle 27 = .ok (.iload 4, 2) := by decide +kernel
theorem dX0_seeCycle_29 : decode cX0_seeCycle 29 = .ok (.iconst 1, 1) := by decide +kernel
theorem dX0_seeCycle_30 : decode cX0_seeCycle 30 = .ok (.bastore, 1) := by decide +kernel
theorem dX0_seeCycle_31 : decode cX0_seeCycle 31 = .ok (.iinc 3 1, 3) := by decide +kernel
theorem dX0_seeCycle_34 : decode cX0_seeCycle 34 = .ok (.aload_n 0, 1) := by decide +kernel
theorem dX0_seeCycle_35 : decode cX0_seeCycle 35 = .ok (.iload 4, 2) := by decide +kernel
theorem dX0_seeCycle_37 : decode cX0_seeCycle 37 = .ok (.aload_n 1, 1) := by decide +kernel
theorem dX0_seeCycle_38 : decode cX0_seeCycle 38 = .ok (.invokevirtual 74, 3) := by decide +kernel
theorem dX0_seeCycle_41 : decode cX0_seeCycle 41 = .ok (.istore 4, 2) := by decide +kernel
theorem dX0_seeCycle_43 : decode cX0_seeCycle 43 = .ok (.goto (-38), 3) := by decide +kernel
theorem dX0_seeCycle_46 : decode cX0_seeCycle 46 = .ok (.iload_n 3, 1) := by decide +kernel
theorem dX0_seeCycle_47 : decode cX0_seeCycle 47 = .ok (.ireturn, 1) := by decide +kernel
set_option maxRecDepth 20000 in
theorem ggX0_countResting_X0_rests : GoodIn wsX0_countResting wsX0_rests := goodIn_r _ [6, 7, 8, 9, 10, 5, 11, 12, 13, 14, 15, 16, 17, 18, 19, 20, 21, 22, 23, 24, 25, 26, 27, 28, 29, 30, 31, 32, 33, 34, 35, 36, 37, 38, 39, 40, 41, 42] (by decide +kernel) (by decide +kernel)
set_option maxRecDepth 20000 in
theorem gX0_countResting_X0_rests : GoodIn wsX0_countResting (wsV RX0 78 RX0 yX0_rests wsX0_rests) := goodIn_app (goodIn_of _ (by decide +kernel)) ggX0_countResting_X0_rests
theorem dX0_countResting_0 : decode cX0_countResting 0 = .ok (.iconst 0, 1) := by decide +kernel
theorem dX0_countResting_1 : decode cX0_countResting 1 = .ok (.istore_n 1, 1) := by decide +kernel
theorem dX0_countResting_2 : decode cX0_countResting 2 = .ok (.iconst 0, 1) := by decide +kernel
theorem dX0_countResting_3 : decode cX0_countResting 3 = .ok (.istore_n 2, 1) := by decide +kernel
theorem dX0_countResting_4 : decode cX0_countResting 4 = .ok (.iload_n 2, 1) := by decide +kernel
theorem dX0_countResting_5 : decode cX0_countResting 5 = .ok (.aload_n 0, 1) := by decide +kernel
theorem dX0_countResting_6 : decode cX0_countResting 6 = .ok (.getfield 33, 3) := by decide +kernel
theorem dX0_countResting_9 : decode cX0_countResting 9 = .ok (.if_icmp .ge 20, 3) := by decide +kernel
theorem dX0_countResting_12 : decode cX0_countResting 12 = .ok (.aload_n 0, 1) := by decide +kernel
theorem dX0_countResting_13 : decode cX0_countResting 13 = .ok (.iload_n 2, 1) := by decide +kernel
theorem dX0_countResting_14 : decode cX0_countResting 14 = .ok (.invokevirtual 78, 3) := by decide +kernel
theorem dX0_countResting_17 : decode cX0_countResting 17 = .ok (.ifCond .eq 6, 3) := by decide +kernel
theorem dX0_countResting_20 : decode cX0_countResting 20 = .ok (.iinc 1 1, 3) := by decide +kernel
theorem dX0_countResting_23 : decode cX0_countResting 23 = .ok (.iinc 2 1, 3) := by decide +kernel
theorem dX0_countResting_26 : decode cX0_countResting 26 = .ok (.goto (-22), 3) := by decide +kernel
theorem dX0_countResting_29 : decode cX0_countResting 29 = .ok (.iload_n 1, 1) := by decide +kernel
theorem dX0_countResting_30 : decode cX0_countResting 30 = .ok (.ireturn, 1) := by decide +kernel
set_option maxRecDepth 20000 in
theorem ggX0_rests_X0_image : GoodIn wsX0_rests wsX0_image := goodIn_r _ [6, 7, 8, 9, 10, 11, 12, 13, 14, 15, 16, 17, 18, 19, 20, 21, 22, 25, 26, 27, 28, 29, 30, 31, 32, 33, 34, 35, 36, 37] (by decide +kernel) (by decide +kernel)
set_option maxRecDepth 20000 in
theorem gX0_rests_X0_image : GoodIn wsX0_rests (wsV RX0 74 RX0 yX0_image wsX0_image) := goodIn_app (goodIn_of _ (by decide +kernel)) ggX0_rests_X0_image
theorem dX0_rests_0 : decode cX0_rests 0 = .ok (.iconst 0, 1) := by decide +kernel
theorem dX0_rests_1 : decode cX0_rests 1 = .ok (.istore_n 2, 1) := by decide +kernel
theorem dX0_rests_2 : decode cX0_rests 2 = .ok (.iload_n 2, 1) := by decide +kernel
theorem dX0_rests_3 : decode cX0_rests 3 = .ok (.aload_n 0, 1) := by decide +kernel
theorem dX0_rests_4 : decode cX0_rests 4 = .ok (.getfield 29, 3) := by decide +kernel
theorem dX0_rests_7 : decode cX0_rests 7 = .ok (.getfield 82, 3) := by decide +kernel
theorem dX0_rests_10 : decode cX0_rests 10 = .ok (.if_icmp .ge 29, 3) := by decide +kernel
theorem dX0_rests_13 : decode cX0_rests 13 = .ok (.aload_n 0, 1) := by decide +kernel
theorem dX0_rests_14 : decode cX0_rests 14 = .ok (.iload_n 1, 1) := by decide +kernel
theorem dX0_rests_15 : decode cX0_rests 15 = .ok (.aload_n 0, 1) := by decide +kernel
theorem dX0_rests_16 : decode cX0_rests 16 = .ok (.getfield 29, 3) := by decide +kernel
theorem dX0_rests_19 : decode cX0_rests 19 = .ok (.getfield 85, 3) := by decide +kernel
theorem dX0_rests_22 : decode cX0_rests 22 = .ok (.iload_n 2, 1) := by decide +kernel
theorem dX0_rests_23 : decode cX0_rests 23 = .ok (.aaload, 1) := by decide +kernel
theorem dX0_rests_24 : decode cX0_rests 24 = .ok (.invokevirtual 74, 3) := by decide +kernel
theorem dX0_rests_27 : decode cX0_rests 27 = .ok (.iload_n 1, 1) := by decide +kernel
theorem dX0_rests_28 : decode cX0_rests 28 = .ok (.if_icmp .eq 5, 3) := by decide +kernel
theorem dX0_rests_31 : decode cX0_rests 31 = .ok (.iconst 0, 1) := by decide +kernel
theorem dX0_rests_32 : decode cX0_rests 32 = .ok (.ireturn, 1) := by decide +kernel
theorem dX0_rests_33 : decode cX0_rests 33 = .ok (.iinc 2 1, 3) := by decide +kernel
theorem dX0_rests_36 : decode cX0_rests 36 = .ok (.goto (-34), 3) := by decide +kernel
theorem dX0_rests_39 : decode cX0_rests 39 = .ok (.iconst 1, 1) := by decide +kernel
theorem dX0_rests_40 : decode cX0_rests 40 = .ok (.ireturn, 1) := by decide +kernel
set_option maxRecDepth 20000 in
theorem ggX0_lowestJoined_X0_forgetSeen : GoodIn wsX0_lowestJoined wsX0_forgetSeen := goodIn_r _ [13, 3, 1, 27, 28, 29, 30, 31, 32, 33] (by decide +kernel) (by decide +kernel)
set_option maxRecDepth 20000 in
theorem gX0_lowestJoined_X0_forgetSeen : GoodIn wsX0_lowestJoined (wsV RX0 63 RX0 yX0_forgetSeen wsX0_forgetSeen) := goodIn_app (goodIn_of _ (by decide +kernel)) ggX0_lowestJoined_X0_forgetSeen
set_option maxRecDepth 20000 in
theorem ggX0_lowestJoined_X0_image : GoodIn wsX0_lowestJoined wsX0_image := goodIn_r _ [17, 18, 19, 20, 21, 22, 23, 24, 25, 26, 27, 28, 29, 30, 31, 32, 33, 36, 37, 38, 39, 40, 41, 42, 43, 44, 45, 46, 47, 48] (by decide +kernel) (by decide +kernel)
set_option maxRecDepth 20000 in
theorem gX0_lowestJoined_X0_image : GoodIn wsX0_lowestJoined (wsV RX0 74 RX0 yX0_image wsX0_image) := goodIn_app (goodIn_of _ (by decide +kernel)) ggX0_lowestJoined_X0_image
theorem dX0_lowestJoined_0 : decode cX0_lowestJoined 0 = .ok (.aload_n 0, 1) := by decide +kernel
theorem dX0_lowestJoined_1 : decode cX0_lowestJoined 1 = .ok (.invokevirtual 63, 3) := by decide +kernel
theorem dX0_lowestJoined_4 : decode cX0_lowestJoined 4 = .ok (.aload_n 0, 1) := by decide +kernel
theorem dX0_lowestJoined_5 : decode cX0_lowestJoined 5 = .ok (.getfield 18, 3) := by decide +kernel
theorem dX0_lowestJoined_8 : decode cX0_lowestJoined 8 = .ok (.iload_n 1, 1) := by decide +kernel
theorem dX0_lowestJoined_9 : decode cX0_lowestJoined 9 = .ok (.iconst 1, 1) := by decide +kernel
theorem dX0_lowestJoined_10 : decode cX0_lowestJoined 10 = .ok (.bastore, 1) := by decide +kernel
theorem dX0_lowestJoined_11 : decode cX0_lowestJoined 11 = .ok (.aload_n 0, 1) := by decide +kernel
theorem dX0_lowestJoined_12 : decode cX0_lowestJoined 12 = .ok (.getfield 22, 3) := by decide +kernel
theorem dX0_lowestJoined_15 : decode cX0_lowestJoined 15 = .ok (.iconst 0, 1) := by decide +kernel
theorem dX0_lowestJoined_16 : decode cX0_lowestJoined 16 = .ok (.iload_n 1, 1) := by decide +kernel
theorem dX0_lowestJoined_17 : decode cX0_lowestJoined 17 = .ok (.iastore, 1) := by decide +kernel
theorem dX0_lowestJoined_18 : decode cX0_lowestJoined 18 = .ok (.iconst 1, 1) := by decide +kernel
theorem dX0_lowestJoined_19 : decode cX0_lowestJoined 19 = .ok (.istore_n 2, 1) := by decide +kernel
theorem dX0_lowestJoined_20 : decode cX0_lowestJoined 20 = .ok (.iload_n 1, 1) := by decide +kernel
theorem dX0_lowestJoined_21 : decode cX0_lowestJoined 21 = .ok (.istore_n 3, 1) := by decide +kernel
theorem dX0_lowestJoined_22 : decode cX0_lowestJoined 22 = .ok (.iconst 0, 1) := by decide +kernel
theorem dX0_lowestJoined_23 : decode cX0_lowestJoined 23 = .ok (.istore 4, 2) := by decide +kernel
theorem dX0_lowestJoined_25 : decode cX0_lowestJoined 25 = .ok (.iload 4, 2) := by decide +kernel
theorem dX0_lowestJoined_27 : decode cX0_lowestJoined 27 = .ok (.iload_n 2, 1) := by decide +kernel
theorem dX0_lowestJoined_28 : decode cX0_lowestJoined 28 = .ok (.if_icmp .ge 98, 3) := by decide +kernel
theorem dX0_lowestJoined_31 : decode cX0_lowestJoined 31 = .ok (.iload 4, 2) := by decide +kernel
theorem dX0_lowestJoined_33 : decode cX0_lowestJoined 33 = .ok (.aload_n 0, 1) := by decide +kernel
theorem dX0_lowestJoined_34 : decode cX0_lowestJoined 34 = .ok (.getfield 33, 3) := by decide +kernel
theorem dX0_lowestJoined_37 : decode cX0_lowestJoined 37 = .ok (.if_icmp .ge 89, 3) := by decide +kernel
theorem dX0_lowestJoined_40 : decode cX0_lowestJoined 40 = .ok (.iconst 0, 1) := by decide +kernel
theorem dX0_lowestJoined_41 : decode cX0_lowestJoined 41 = .ok (.istore 5, 2) := by decide +kernel
theorem dX0_lowestJoined_43 : decode cX0_lowestJoined 43 = .ok (.iload 5, 2) := by decide +kernel
theorem dX0_lowestJoined_45 : decode cX0_lowestJoined 45 = .ok (.aload_n 0, 1) := by decide +kernel
theorem dX0_lowestJoined_46 : decode cX0_lowestJoined 46 = .ok (.getfield 29, 3) := by decide +kernel
theorem dX0_lowestJoined_49 : decode cX0_lowestJoined 49 = .ok (.getfield 82, 3) := by decide +kernel
theorem dX0_lowestJoined_52 : decode cX0_lowestJoined 52 = .ok (.if_icmp .ge 68, 3) := by decide +kernel
theorem dX0_lowestJoined_55 : decode cX0_lowestJoined 55 = .ok (.aload_n 0, 1) := by decide +kernel
theorem dX0_lowestJoined_56 : decode cX0_lowestJoined 56 = .ok (.aload_n 0, 1) := by decide +kernel
theorem dX0_lowestJoined_57 : decode cX0_lowestJoined 57 = .ok (.getfield 22, 3) := by decide +kernel
theorem dX0_lowestJoined_60 : decode cX0_lowestJoined 60 = .ok (.iload 4, 2) := by decide +kernel
theorem dX0_lowestJoined_62 : decode cX0_lowestJoined 62 = .ok (.iaload, 1) := by decide +kernel
theorem dX0_lowestJoined_63 : decode cX0_lowestJoined 63 = .ok (.aload_n 0, 1) := by decide +kernel
theorem dX0_lowestJoined_64 : decode cX0_lowestJoined 64 = .ok (.getfield 29, 3) := by decide +kernel
theorem dX0_lowestJoined_67 : decode cX0_lowestJoined 67 = .ok (.getfield 85, 3) := by decide +kernel
theorem dX0_lowestJoined_70 : decode cX0_lowestJoined 70 = .ok (.iload 5, 2) := by decide +kernel
theorem dX0_lowestJoined_72 : decode cX0_lowestJoined 72 = .ok (.aaload, 1) := by decide +kernel
theorem dX0_lowestJoined_73 : decode cX0_lowestJoined 73 = .ok (.invokevirtual 74, 3) := by decide +kernel
theorem dX0_lowestJoined_76 : decode cX0_lowestJoined 76 = .ok (.istore 6, 2) := by decide +kernel
theorem dX0_lowestJoined_78 : decode cX0_lowestJoined 78 = .ok (.aload_n 0, 1) := by decide +kernel
theorem dX0_lowestJoined_79 : decode cX0_lowestJoined 79 = .ok (.getfield 18, 3) := by decide +kernel
theorem dX0_lowestJoined_82 : decode cX0_lowestJoined 82 = .ok (.iload 6, 2) := by decide +kernel
theorem dX0_lowestJoined_84 : decode cX0_lowestJoined 84 = .ok (.baload, 1) := by decide +kernel
theorem dX0_lowestJoined_85 : decode cX0_lowestJoined 85 = .ok (.ifCond .ne 29, 3) := by decide +kernel
theorem dX0_lowestJoined_88 : decode cX0_lowestJoined 88 = .ok (.aload_n 0, 1) := by decide +kernel
theorem dX0_lowestJoined_89 : decode cX0_lowestJoined 89 = .ok (.getfield 18, 3) := by decide +kernel
theorem dX0_lowestJoined_92 : decode cX0_lowestJoined 92 = .ok (.iload 6, 2) := by decide +kernel
theorem dX0_lowestJoined_94 : decode cX0_lowestJoined 94 = .ok (.iconst 1, 1) := by decide +kernel
theorem dX0_lowestJoined_95 : decode cX0_lowestJoined 95 = .ok (.bastore, 1) := by decide +kernel
theorem dX0_lowestJoined_96 : decode cX0_lowestJoined 96 = .ok (.aload_n 0, 1) := by decide +kernel
theorem dX0_lowestJoined_97 : decode cX0_lowestJoined 97 = .ok (.getfield 22, 3) := by decide +kernel
theorem dX0_lowestJoined_100 : decode cX0_lowestJoined 100 = .ok (.iload_n 2, 1) := by decide +kernel
theorem dX0_lowestJoined_101 : decode cX0_lowestJoined 101 = .ok (.iload 6, 2) := by decide +kernel
theorem dX0_lowestJoined_103 : decode cX0_lowestJoined 103 = .ok (.iastore, 1) := by decide +kernel
theorem dX0_lowestJoined_104 : decode cX0_lowestJoined 104 = .ok (.iinc 2 1, 3) := by decide +kernel
theorem dX0_lowestJoined_107 : decode cX0_lowestJoined 107 = .ok (.iload_n 3, 1) := by decide +kernel
theorem dX0_lowestJoined_108 : decode cX0_lowestJoined 108 = .ok (.iload 6, 2) := by decide +kernel
theorem dX0_lowestJoined_110 : decode cX0_lowestJoined 110 = .ok (.invokestatic 89, 3) := by decide +kernel
theorem dX0_lowestJoined_113 : decode cX0_lowestJoined 113 = .ok (.istore_n 3, 1) := by decide +kernel
theorem dX0_lowestJoined_114 : decode cX0_lowestJoined 114 = .ok (.iinc 5 1, 3) := by decide +kernel
theorem dX0_lowestJoined_117 : decode cX0_lowestJoined 117 = .ok (.goto (-74), 3) := by decide +kernel
theorem dX0_lowestJoined_120 : decode cX0_lowestJoined 120 = .ok (.iinc 4 1, 3) := by decide +kernel
theorem dX0_lowestJoined_123 : decode cX0_lowestJoined 123 = .ok (.goto (-98), 3) := by decide +kernel
theorem dX0_lowestJoined_126 : decode cX0_lowestJoined 126 = .ok (.iload_n 3, 1) := by decide +kernel
theorem dX0_lowestJoined_127 : decode cX0_lowestJoined 127 = .ok (.ireturn, 1) := by decide +kernel
theorem dX0_leastCommonMultiple_0 : decode cX0_leastCommonMultiple 0 = .ok (.lload_n 0, 1) := by decide +kernel
theorem dX0_leastCommonMultiple_1 : decode cX0_leastCommonMultiple 1 = .ok (.lstore 4, 2) := by decide +kernel
theorem dX0_leastCommonMultiple_3 : decode cX0_leastCommonMultiple 3 = .ok (.lload_n 2, 1) := by decide +kernel
theorem dX0_leastCommonMultiple_4 : decode cX0_leastCommonMultiple 4 = .ok (.lstore 6, 2) := by decide +kernel
theorem dX0_leastCommonMultiple_6 : decode cX0_leastCommonMultiple 6 = .ok (.iconst 0, 1) := by decide +kernel
theorem dX0_leastCommonMultiple_7 : decode cX0_leastCommonMultiple 7 = .ok (.istore 8, 2) := by decide +kernel
theorem dX0_leastCommonMultiple_9 : decode cX0_leastCommonMultiple 9 = .ok (.iload 8, 2) := by decide +kernel
theorem dX0_leastCommonMultiple_11 : decode cX0_leastCommonMultiple 11 = .ok (.ldc 94, 2) := by decide +kernel
theorem dX0_leastCommonMultiple_13 : decode cX0_leastCommonMultiple 13 = .ok (.if_icmp .ge 31, 3) := by decide +kernel
theorem dX0_leastCommonMultiple_16 : decode cX0_leastCommonMultiple 16 = .ok (.lload 6, 2) := by decide +kernel
theorem dX0_leastCommonMultiple_18 : decode cX0_leastCommonMultiple 18 = .ok (.lconst 0, 1) := by decide +kernel
theorem dX0_leastCommonMultiple_19 : decode cX0_leastCommonMultiple 19 = .ok (.lcmp, 1) := by decide +kernel
theorem dX0_leastCommonMultiple_20 : decode cX0_leastCommonMultiple 20 = .ok (.ifCond .le 24, 3) := by decide +kernel
theorem dX0_leastCommonMultiple_23 : decode cX0_leastCommonMultiple 23 = .ok (.lload 4, 2) := by decide +kernel
theorem dX0_leastCommonMultiple_25 : decode cX0_leastCommonMultiple 25 = .ok (.lload 6, 2) := by decide +kernel
theorem dX0_leastCommonMultiple_27 : decode cX0_leastCommonMultiple 27 = .ok (.lrem, 1) := by decide +kernel
theorem dX0_leastCommonMultiple_28 : decode cX0_leastCommonMultiple 28 = .ok (.lstore 9, 2) := by decide +kernel
theorem dX0_leastCommonMultiple_30 : decode cX0_leastCommonMultiple 30 = .ok (.lload 6, 2) := by decide +kernel
theorem dX0_leastCommonMultiple_32 : decode cX0_leastCommonMultiple 32 = .ok (.lstore 4, 2) := by decide +kernel
theorem dX0_leastCommonMultiple_34 : decode cX0_leastCommonMultiple 34 = .ok (.lload 9, 2) := by decide +kernel
theorem dX0_leastCommonMultiple_36 : decode cX0_leastCommonMultiple 36 = .ok (.lstore 6, 2) := by decide +kernel
theorem dX0_leastCommonMultiple_38 : decode cX0_leastCommonMultiple 38 = .ok (.iinc 8 1, 3) := by decide +kernel
theorem dX0_leastCommonMultiple_41 : decode cX0_leastCommonMultiple 41 = .ok (.goto (-32), 3) := by decide +kernel
theorem dX0_leastCommonMultiple_44 : decode cX0_leastCommonMultiple 44 = .ok (.lload 4, 2) := by decide +kernel
theorem dX0_leastCommonMultiple_46 : decode cX0_leastCommonMultiple 46 = .ok (.lconst 0, 1) := by decide +kernel
theorem dX0_leastCommonMultiple_47 : decode cX0_leastCommonMultiple 47 = .ok (.lcmp, 1) := by decide +kernel
theorem dX0_leastCommonMultiple_48 : decode cX0_leastCommonMultiple 48 = .ok (.ifCond .le 12, 3) := by decide +kernel
theorem dX0_leastCommonMultiple_51 : decode cX0_leastCommonMultiple 51 = .ok (.lload_n 0, 1) := by decide +kernel
theorem dX0_leastCommonMultiple_52 : decode cX0_leastCommonMultiple 52 = .ok (.lload 4, 2) := by decide +kernel
theorem dX0_leastCommonMultiple_54 : decode cX0_leastCommonMultiple 54 = .ok (.ldiv, 1) := by decide +kernel
theorem dX0_leastCommonMultiple_55 : decode cX0_leastCommonMultiple 55 = .ok (.lload_n 2, 1) := by decide +kernel
theorem dX0_leastCommonMultiple_56 : decode cX0_leastCommonMultiple 56 = .ok (.lmul, 1) := by decide +kernel
theorem dX0_leastCommonMultiple_57 : decode cX0_leastCommonMultiple 57 = .ok (.goto 4, 3) := by decide +kernel
theorem dX0_leastCommonMultiple_60 : decode cX0_leastCommonMultiple 60 = .ok (.lload_n 0, 1) := by decide +kernel
theorem dX0_leastCommonMultiple_61 : decode cX0_leastCommonMultiple 61 = .ok (.lreturn, 1) := by decide +kernel
theorem dX1_init_0 : decode cX1_init 0 = .ok (.aload_n 0, 1) := by decide +kernel
theorem dX1_init_1 : decode cX1_init 1 = .ok (.invokespecial 3, 3) := by decide +kernel
theorem dX1_init_4 : decode cX1_init 4 = .ok (.aload_n 0, 1) := by decide +kernel
theorem dX1_init_5 : decode cX1_init 5 = .ok (.sipush 1200, 3) := by decide +kernel
theorem dX1_init_8 : decode cX1_init 8 = .ok (.newarray .int, 2) := by decide +kernel
theorem dX1_init_10 : decode cX1_init 10 = .ok (.putfield 9, 3) := by decide +kernel
theorem dX1_init_13 : decode cX1_init 13 = .ok (.aload_n 0, 1) := by decide +kernel
theorem dX1_init_14 : decode cX1_init 14 = .ok (.sipush 200, 3) := by decide +kernel
theorem dX1_init_17 : decode cX1_init 17 = .ok (.newarray .int, 2) := by decide +kernel
theorem dX1_init_19 : decode cX1_init 19 = .ok (.putfield 15, 3) := by decide +kernel
theorem dX1_init_22 : decode cX1_init 22 = .ok (.aload_n 0, 1) := by decide +kernel
theorem dX1_init_23 : decode cX1_init 23 = .ok (.sipush 200, 3) := by decide +kernel
theorem dX1_init_26 : decode cX1_init 26 = .ok (.newarray .int, 2) := by decide +kernel
theorem dX1_init_28 : decode cX1_init 28 = .ok (.putfield 18, 3) := by decide +kernel
theorem dX1_init_31 : decode cX1_init 31 = .ok (.aload_n 0, 1) := by decide +kernel
theorem dX1_init_32 : decode cX1_init 32 = .ok (.sipush 1200, 3) := by decide +kernel
end
section
theorem dX1_init_35 : decode cX1_init 35 = .ok (.newarray .int, 2) := by decide +kernel
theorem dX1_init_37 : decode cX1_init 37 = .ok (.putfield 21, 3) := by decide +kernel
theorem dX1_init_40 : decode cX1_init 40 = .ok (.aload_n 0, 1) := by decide +kernel
theorem dX1_init_41 : decode cX1_init 41 = .ok (.sipush 1200, 3) := by decide +kernel
theorem dX1_init_44 : decode cX1_init 44 = .ok (.newarray .boolean, 2) := by decide +kernel
theorem dX1_init_46 : decode cX1_init 46 = .ok (.putfield 24, 3) := by decide +kernel
theorem dX1_init_49 : decode cX1_init 49 = .ok (.return_, 1) := by decide +kernel
set_option maxRecDepth 20000 in
theorem ggX1_start_X1_make : GoodIn wsX1_start wsX1_make := goodIn_r _ [9, 2, 10, 11, 3, 12, 13, 14, 15, 16, 17, 18, 19, 20, 21, 22] (by decide +kernel) (by decide +kernel)
set_option maxRecDepth 20000 in
theorem gX1_start_X1_make : GoodIn wsX1_start (wsV RX1 41 RX1 yX1_make wsX1_make) := goodIn_app (goodIn_of _ (by decide +kernel)) ggX1_start_X1_make
theorem dX1_start_0 : decode cX1_start 0 = .ok (.aload_n 0, 1) := by decide +kernel
theorem dX1_start_1 : decode cX1_start 1 = .ok (.iload_n 1, 1) := by decide +kernel
theorem dX1_start_2 : decode cX1_start 2 = .ok (.putfield 28, 3) := by decide +kernel
theorem dX1_start_5 : decode cX1_start 5 = .ok (.aload_n 0, 1) := by decide +kernel
theorem dX1_start_6 : decode cX1_start 6 = .ok (.iconst 0, 1) := by decide +kernel
theorem dX1_start_7 : decode cX1_start 7 = .ok (.putfield 32, 3) := by decide +kernel
theorem dX1_start_10 : decode cX1_start 10 = .ok (.aload_n 0, 1) := by decide +kernel
theorem dX1_start_11 : decode cX1_start 11 = .ok (.iconst 0, 1) := by decide +kernel
theorem dX1_start_12 : decode cX1_start 12 = .ok (.putfield 35, 3) := by decide +kernel
theorem dX1_start_15 : decode cX1_start 15 = .ok (.aload_n 0, 1) := by decide +kernel
theorem dX1_start_16 : decode cX1_start 16 = .ok (.iconst 0, 1) := by decide +kernel
theorem dX1_start_17 : decode cX1_start 17 = .ok (.putfield 38, 3) := by decide +kernel
theorem dX1_start_20 : decode cX1_start 20 = .ok (.aload_n 0, 1) := by decide +kernel
theorem dX1_start_21 : decode cX1_start 21 = .ok (.invokevirtual 41, 3) := by decide +kernel
theorem dX1_start_24 : decode cX1_start 24 = .ok (.pop, 1) := by decide +kernel
theorem dX1_start_25 : decode cX1_start 25 = .ok (.return_, 1) := by decide +kernel
theorem dX1_make_0 : decode cX1_make 0 = .ok (.aload_n 0, 1) := by decide +kernel
theorem dX1_make_1 : decode cX1_make 1 = .ok (.getfield 32, 3) := by decide +kernel
theorem dX1_make_4 : decode cX1_make 4 = .ok (.istore_n 1, 1) := by decide +kernel
theorem dX1_make_5 : decode cX1_make 5 = .ok (.iconst 0, 1) := by decide +kernel
theorem dX1_make_6 : decode cX1_make 6 = .ok (.istore_n 2, 1) := by decide +kernel
theorem dX1_make_7 : decode cX1_make 7 = .ok (.iload_n 2, 1) := by decide +kernel
theorem dX1_make_8 : decode cX1_make 8 = .ok (.bipush 6, 2) := by decide +kernel
theorem dX1_make_10 : decode cX1_make 10 = .ok (.if_icmp .ge 21, 3) := by decide +kernel
theorem dX1_make_13 : decode cX1_make 13 = .ok (.aload_n 0, 1) := by decide +kernel
theorem dX1_make_14 : decode cX1_make 14 = .ok (.getfield 9, 3) := by decide +kernel
theorem dX1_make_17 : decode cX1_make 17 = .ok (.iload_n 1, 1) := by decide +kernel
theorem dX1_make_18 : decode cX1_make 18 = .ok (.bipush 6, 2) := by decide +kernel
theorem dX1_make_20 : decode cX1_make 20 = .ok (.imul, 1) := by decide +kernel
theorem dX1_make_21 : decode cX1_make 21 = .ok (.iload_n 2, 1) := by decide +kernel
theorem dX1_make_22 : decode cX1_make 22 = .ok (.iadd, 1) := by decide +kernel
theorem dX1_make_23 : decode cX1_make 23 = .ok (.iconst (-1), 1) := by decide +kernel
theorem dX1_make_24 : decode cX1_make 24 = .ok (.iastore, 1) := by decide +kernel
theorem dX1_make_25 : decode cX1_make 25 = .ok (.iinc 2 1, 3) := by decide +kernel
theorem dX1_make_28 : decode cX1_make 28 = .ok (.goto (-21), 3) := by decide +kernel
theorem dX1_make_31 : decode cX1_make 31 = .ok (.aload_n 0, 1) := by decide +kernel
theorem dX1_make_32 : decode cX1_make 32 = .ok (.getfield 15, 3) := by decide +kernel
theorem dX1_make_35 : decode cX1_make 35 = .ok (.iload_n 1, 1) := by decide +kernel
theorem dX1_make_36 : decode cX1_make 36 = .ok (.iload_n 1, 1) := by decide +kernel
theorem dX1_make_37 : decode cX1_make 37 = .ok (.iastore, 1) := by decide +kernel
theorem dX1_make_38 : decode cX1_make 38 = .ok (.aload_n 0, 1) := by decide +kernel
theorem dX1_make_39 : decode cX1_make 39 = .ok (.dup, 1) := by decide +kernel
theorem dX1_make_40 : decode cX1_make 40 = .ok (.getfield 32, 3) := by decide +kernel
theorem dX1_make_43 : decode cX1_make 43 = .ok (.iconst 1, 1) := by decide +kernel
theorem dX1_make_44 : decode cX1_make 44 = .ok (.iadd, 1) := by decide +kernel
theorem dX1_make_45 : decode cX1_make 45 = .ok (.putfield 32, 3) := by decide +kernel
theorem dX1_make_48 : decode cX1_make 48 = .ok (.aload_n 0, 1) := by decide +kernel
theorem dX1_make_49 : decode cX1_make 49 = .ok (.dup, 1) := by decide +kernel
theorem dX1_make_50 : decode cX1_make 50 = .ok (.getfield 35, 3) := by decide +kernel
theorem dX1_make_53 : decode cX1_make 53 = .ok (.iconst 1, 1) := by decide +kernel
theorem dX1_make_54 : decode cX1_make 54 = .ok (.iadd, 1) := by decide +kernel
theorem dX1_make_55 : decode cX1_make 55 = .ok (.putfield 35, 3) := by decide +kernel
theorem dX1_make_58 : decode cX1_make 58 = .ok (.iload_n 1, 1) := by decide +kernel
theorem dX1_make_59 : decode cX1_make 59 = .ok (.ireturn, 1) := by decide +kernel
set_option maxRecDepth 20000 in
theorem ggX1_findOpen_X1_isOpen : GoodIn wsX1_findOpen wsX1_isOpen := goodIn_r _ [7, 8, 9, 10, 11, 12, 6, 13, 2, 14, 15, 16, 17, 18, 19, 20, 21, 22, 23, 24, 25] (by decide +kernel) (by decide +kernel)
set_option maxRecDepth 20000 in
theorem gX1_findOpen_X1_isOpen : GoodIn wsX1_findOpen (wsV RX1 45 RX1 yX1_isOpen wsX1_isOpen) := goodIn_app (goodIn_of _ (by decide +kernel)) ggX1_findOpen_X1_isOpen
theorem dX1_findOpen_0 : decode cX1_findOpen 0 = .ok (.aload_n 0, 1) := by decide +kernel
theorem dX1_findOpen_1 : decode cX1_findOpen 1 = .ok (.getfield 38, 3) := by decide +kernel
theorem dX1_findOpen_4 : decode cX1_findOpen 4 = .ok (.aload_n 0, 1) := by decide +kernel
theorem dX1_findOpen_5 : decode cX1_findOpen 5 = .ok (.getfield 32, 3) := by decide +kernel
theorem dX1_findOpen_8 : decode cX1_findOpen 8 = .ok (.bipush 6, 2) := by decide +kernel
theorem dX1_findOpen_10 : decode cX1_findOpen 10 = .ok (.imul, 1) := by decide +kernel
theorem dX1_findOpen_11 : decode cX1_findOpen 11 = .ok (.if_icmp .ge 27, 3) := by decide +kernel
theorem dX1_findOpen_14 : decode cX1_findOpen 14 = .ok (.aload_n 0, 1) := by decide +kernel
theorem dX1_findOpen_15 : decode cX1_findOpen 15 = .ok (.aload_n 0, 1) := by decide +kernel
theorem dX1_findOpen_16 : decode cX1_findOpen 16 = .ok (.getfield 38, 3) := by decide +kernel
theorem dX1_findOpen_19 : decode cX1_findOpen 19 = .ok (.invokevirtual 45, 3) := by decide +kernel
theorem dX1_findOpen_22 : decode cX1_findOpen 22 = .ok (.ifCond .ne 16, 3) := by decide +kernel
theorem dX1_findOpen_25 : decode cX1_findOpen 25 = .ok (.aload_n 0, 1) := by decide +kernel
theorem dX1_findOpen_26 : decode cX1_findOpen 26 = .ok (.dup, 1) := by decide +kernel
theorem dX1_findOpen_27 : decode cX1_findOpen 27 = .ok (.getfield 38, 3) := by decide +kernel
theorem dX1_findOpen_30 : decode cX1_findOpen 30 = .ok (.iconst 1, 1) := by decide +kernel
theorem dX1_findOpen_31 : decode cX1_findOpen 31 = .ok (.iadd, 1) := by decide +kernel
theorem dX1_findOpen_32 : decode cX1_findOpen 32 = .ok (.putfield 38, 3) := by decide +kernel
theorem dX1_findOpen_35 : decode cX1_findOpen 35 = .ok (.goto (-35), 3) := by decide +kernel
theorem dX1_findOpen_38 : decode cX1_findOpen 38 = .ok (.aload_n 0, 1) := by decide +kernel
theorem dX1_findOpen_39 : decode cX1_findOpen 39 = .ok (.getfield 38, 3) := by decide +kernel
theorem dX1_findOpen_42 : decode cX1_findOpen 42 = .ok (.aload_n 0, 1) := by decide +kernel
theorem dX1_findOpen_43 : decode cX1_findOpen 43 = .ok (.getfield 32, 3) := by decide +kernel
theorem dX1_findOpen_46 : decode cX1_findOpen 46 = .ok (.bipush 6, 2) := by decide +kernel
theorem dX1_findOpen_48 : decode cX1_findOpen 48 = .ok (.imul, 1) := by decide +kernel
theorem dX1_findOpen_49 : decode cX1_findOpen 49 = .ok (.if_icmp .ge 7, 3) := by decide +kernel
theorem dX1_findOpen_52 : decode cX1_findOpen 52 = .ok (.iconst 1, 1) := by decide +kernel
theorem dX1_findOpen_53 : decode cX1_findOpen 53 = .ok (.goto 4, 3) := by decide +kernel
theorem dX1_findOpen_56 : decode cX1_findOpen 56 = .ok (.iconst 0, 1) := by decide +kernel
theorem dX1_findOpen_57 : decode cX1_findOpen 57 = .ok (.ireturn, 1) := by decide +kernel
set_option maxRecDepth 20000 in
theorem ggX1_isOpen_X1_lives : GoodIn wsX1_isOpen wsX1_lives := goodIn_r _ [7, 8, 9, 10, 11, 12, 13, 14, 15, 16, 17, 18, 19, 20] (by decide +kernel) (by decide +kernel)
set_option maxRecDepth 20000 in
theorem gX1_isOpen_X1_lives : GoodIn wsX1_isOpen (wsV RX1 49 RX1 yX1_lives wsX1_lives) := goodIn_app (goodIn_of _ (by decide +kernel)) ggX1_isOpen_X1_lives
theorem dX1_isOpen_0 : decode cX1_isOpen 0 = .ok (.iload_n 1, 1) := by decide +kernel
theorem dX1_isOpen_1 : decode cX1_isOpen 1 = .ok (.bipush 6, 2) := by decide +kernel
theorem dX1_isOpen_3 : decode cX1_isOpen 3 = .ok (.irem, 1) := by decide +kernel
theorem dX1_isOpen_4 : decode cX1_isOpen 4 = .ok (.aload_n 0, 1) := by decide +kernel
theorem dX1_isOpen_5 : decode cX1_isOpen 5 = .ok (.getfield 28, 3) := by decide +kernel
theorem dX1_isOpen_8 : decode cX1_isOpen 8 = .ok (.if_icmp .ge 28, 3) := by decide +kernel
theorem dX1_isOpen_11 : decode cX1_isOpen 11 = .ok (.aload_n 0, 1) := by decide +kernel
theorem dX1_isOpen_12 : decode cX1_isOpen 12 = .ok (.iload_n 1, 1) := by decide +kernel
theorem dX1_isOpen_13 : decode cX1_isOpen 13 = .ok (.bipush 6, 2) := by decide +kernel
theorem dX1_isOpen_15 : decode cX1_isOpen 15 = .ok (.idiv, 1) := by decide +kernel
theorem dX1_isOpen_16 : decode cX1_isOpen 16 = .ok (.invokevirtual 49, 3) := by decide +kernel
theorem dX1_isOpen_19 : decode cX1_isOpen 19 = .ok (.ifCond .eq 17, 3) := by decide +kernel
theorem dX1_isOpen_22 : decode cX1_isOpen 22 = .ok (.aload_n 0, 1) := by decide +kernel
theorem dX1_isOpen_23 : decode cX1_isOpen 23 = .ok (.getfield 9, 3) := by decide +kernel
theorem dX1_isOpen_26 : decode cX1_isOpen 26 = .ok (.iload_n 1, 1) := by decide +kernel
theorem dX1_isOpen_27 : decode cX1_isOpen 27 = .ok (.iaload, 1) := by decide +kernel
theorem dX1_isOpen_28 : decode cX1_isOpen 28 = .ok (.iconst (-1), 1) := by decide +kernel
theorem dX1_isOpen_29 : decode cX1_isOpen 29 = .ok (.if_icmp .ne 7, 3) := by decide +kernel
theorem dX1_isOpen_32 : decode cX1_isOpen 32 = .ok (.iconst 1, 1) := by decide +kernel
theorem dX1_isOpen_33 : decode cX1_isOpen 33 = .ok (.goto 4, 3) := by decide +kernel
theorem dX1_isOpen_36 : decode cX1_isOpen 36 = .ok (.iconst 0, 1) := by decide +kernel
theorem dX1_isOpen_37 : decode cX1_isOpen 37 = .ok (.ireturn, 1) := by decide +kernel
set_option maxRecDepth 20000 in
theorem ggX1_makeNeighbour_X1_make : GoodIn wsX1_makeNeighbour wsX1_make := goodIn_r _ [6, 7, 8, 9, 10, 18, 19, 20, 21, 22, 23, 24, 25, 26, 27, 28] (by decide +kernel) (by decide +kernel)
set_option maxRecDepth 20000 in
theorem gX1_makeNeighbour_X1_make : GoodIn wsX1_makeNeighbour (wsV RX1 41 RX1 yX1_make wsX1_make) := goodIn_app (goodIn_of _ (by decide +kernel)) ggX1_makeNeighbour_X1_make
set_option maxRecDepth 20000 in
theorem ggX1_makeNeighbour_X1_join : GoodIn wsX1_makeNeighbour wsX1_join := goodIn_r _ [14, 8, 15, 16, 17, 18, 19, 20, 21, 22, 23, 24, 25, 26, 27, 28] (by decide +kernel) (by decide +kernel)
set_option maxRecDepth 20000 in
theorem gX1_makeNeighbour_X1_join : GoodIn wsX1_makeNeighbour (wsV RX1 52 RX1 yX1_join wsX1_join) := goodIn_app (goodIn_of _ (by decide +kernel)) ggX1_makeNeighbour_X1_join
theorem dX1_makeNeighbour_0 : decode cX1_makeNeighbour 0 = .ok (.aload_n 0, 1) := by decide +kernel
theorem dX1_makeNeighbour_1 : decode cX1_makeNeighbour 1 = .ok (.invokevirtual 41, 3) := by decide +kernel
theorem dX1_makeNeighbour_4 : decode cX1_makeNeighbour 4 = .ok (.istore_n 1, 1) := by decide +kernel
theorem dX1_makeNeighbour_5 : decode cX1_makeNeighbour 5 = .ok (.aload_n 0, 1) := by decide +kernel
theorem dX1_makeNeighbour_6 : decode cX1_makeNeighbour 6 = .ok (.aload_n 0, 1) := by decide +kernel
theorem dX1_makeNeighbour_7 : decode cX1_makeNeighbour 7 = .ok (.getfield 38, 3) := by decide +kernel
theorem dX1_makeNeighbour_10 : decode cX1_makeNeighbour 10 = .ok (.bipush 6, 2) := by decide +kernel
theorem dX1_makeNeighbour_12 : decode cX1_makeNeighbour 12 = .ok (.idiv, 1) := by decide +kernel
theorem dX1_makeNeighbour_13 : decode cX1_makeNeighbour 13 = .ok (.aload_n 0, 1) := by decide +kernel
theorem dX1_makeNeighbour_14 : decode cX1_makeNeighbour 14 = .ok (.getfield 38, 3) := by decide +kernel
theorem dX1_makeNeighbour_17 : decode cX1_makeNeighbour 17 = .ok (.bipush 6, 2) := by decide +kernel
theorem dX1_makeNeighbour_19 : decode cX1_makeNeighbour 19 = .ok (.irem, 1) := by decide +kernel
theorem dX1_makeNeighbour_20 : decode cX1_makeNeighbour 20 = .ok (.iload_n 1, 1) := by decide +kernel
theorem dX1_makeNeighbour_21 : decode cX1_makeNeighbour 21 = .ok (.invokevirtual 52, 3) := by decide +kernel
theorem dX1_makeNeighbour_24 : decode cX1_makeNeighbour 24 = .ok (.iload_n 1, 1) := by decide +kernel
theorem dX1_makeNeighbour_25 : decode cX1_makeNeighbour 25 = .ok (.ireturn, 1) := by decide +kernel
theorem dX1_lives_0 : decode cX1_lives 0 = .ok (.iload_n 1, 1) := by decide +kernel
theorem dX1_lives_1 : decode cX1_lives 1 = .ok (.ifCond .lt 25, 3) := by decide +kernel
theorem dX1_lives_4 : decode cX1_lives 4 = .ok (.iload_n 1, 1) := by decide +kernel
theorem dX1_lives_5 : decode cX1_lives 5 = .ok (.aload_n 0, 1) := by decide +kernel
theorem dX1_lives_6 : decode cX1_lives 6 = .ok (.getfield 32, 3) := by decide +kernel
theorem dX1_lives_9 : decode cX1_lives 9 = .ok (.if_icmp .ge 17, 3) := by decide +kernel
theorem dX1_lives_12 : decode cX1_lives 12 = .ok (.aload_n 0, 1) := by decide +kernel
theorem dX1_lives_13 : decode cX1_lives 13 = .ok (.getfield 15, 3) := by decide +kernel
theorem dX1_lives_16 : decode cX1_lives 16 = .ok (.iload_n 1, 1) := by decide +kernel
theorem dX1_lives_17 : decode cX1_lives 17 = .ok (.iaload, 1) := by decide +kernel
theorem dX1_lives_18 : decode cX1_lives 18 = .ok (.iload_n 1, 1) := by decide +kernel
theorem dX1_lives_19 : decode cX1_lives 19 = .ok (.if_icmp .ne 7, 3) := by decide +kernel
theorem dX1_lives_22 : decode cX1_lives 22 = .ok (.iconst 1, 1) := by decide +kernel
theorem dX1_lives_23 : decode cX1_lives 23 = .ok (.goto 4, 3) := by decide +kernel
theorem dX1_lives_26 : decode cX1_lives 26 = .ok (.iconst 0, 1) := by decide +kernel
theorem dX1_lives_27 : decode cX1_lives 27 = .ok (.ireturn, 1) := by decide +kernel
theorem dX1_at_0 : decode cX1_at 0 = .ok (.aload_n 0, 1) := by decide +kernel
theorem dX1_at_1 : decode cX1_at 1 = .ok (.getfield 9, 3) := by decide +kernel
theorem dX1_at_4 : decode cX1_at 4 = .ok (.iload_n 1, 1) := by decide +kernel
theorem dX1_at_5 : decode cX1_at 5 = .ok (.bipush 6, 2) := by decide +kernel
theorem dX1_at_7 : decode cX1_at 7 = .ok (.imul, 1) := by decide +kernel
theorem dX1_at_8 : decode cX1_at 8 = .ok (.iload_n 2, 1) := by decide +kernel
theorem dX1_at_9 : decode cX1_at 9 = .ok (.iadd, 1) := by decide +kernel
theorem dX1_at_10 : decode cX1_at 10 = .ok (.iaload, 1) := by decide +kernel
theorem dX1_at_11 : decode cX1_at 11 = .ok (.ireturn, 1) := by decide +kernel
set_option maxRecDepth 20000 in
theorem ggX1_countOpen_X1_isOpen : GoodIn wsX1_countOpen wsX1_isOpen := goodIn_r _ [6, 7, 8, 9, 10, 11, 5, 12, 1, 13, 14, 15, 16, 17, 18, 19, 20, 21, 22, 23, 24] (by decide +kernel) (by decide +kernel)
set_option maxRecDepth 20000 in
theorem gX1_countOpen_X1_isOpen : GoodIn wsX1_countOpen (wsV RX1 45 RX1 yX1_isOpen wsX1_isOpen) := goodIn_app (goodIn_of _ (by decide +kernel)) ggX1_countOpen_X1_isOpen
theorem dX1_countOpen_0 : decode cX1_countOpen 0 = .ok (.iconst 0, 1) := by decide +kernel
theorem dX1_countOpen_1 : decode cX1_countOpen 1 = .ok (.istore_n 1, 1) := by decide +kernel
theorem dX1_countOpen_2 : decode cX1_countOpen 2 = .ok (.iconst 0, 1) := by decide +kernel
theorem dX1_countOpen_3 : decode cX1_countOpen 3 = .ok (.istore_n 2, 1) := by decide +kernel
theorem dX1_countOpen_4 : decode cX1_countOpen 4 = .ok (.iload_n 2, 1) := by decide +kernel
theorem dX1_countOpen_5 : decode cX1_countOpen 5 = .ok (.aload_n 0, 1) := by decide +kernel
theorem dX1_countOpen_6 : decode cX1_countOpen 6 = .ok (.getfield 32, 3) := by decide +kernel
theorem dX1_countOpen_9 : decode cX1_countOpen 9 = .ok (.bipush 6, 2) := by decide +kernel
theorem dX1_countOpen_11 : decode cX1_countOpen 11 = .ok (.imul, 1) := by decide +kernel
theorem dX1_countOpen_12 : decode cX1_countOpen 12 = .ok (.if_icmp .ge 20, 3) := by decide +kernel
theorem dX1_countOpen_15 : decode cX1_countOpen 15 = .ok (.aload_n 0, 1) := by decide +kernel
theorem dX1_countOpen_16 : decode cX1_countOpen 16 = .ok (.iload_n 2, 1) := by decide +kernel
theorem dX1_countOpen_17 : decode cX1_countOpen 17 = .ok (.invokevirtual 45, 3) := by decide +kernel
theorem dX1_countOpen_20 : decode cX1_countOpen 20 = .ok (.ifCond .eq 6, 3) := by decide +kernel
theorem dX1_countOpen_23 : decode cX1_countOpen 23 = .ok (.iinc 1 1, 3) := by decide +kernel
theorem dX1_countOpen_26 : decode cX1_countOpen 26 = .ok (.iinc 2 1, 3) := by decide +kernel
theorem dX1_countOpen_29 : decode cX1_countOpen 29 = .ok (.goto (-25), 3) := by decide +kernel
theorem dX1_countOpen_32 : decode cX1_countOpen 32 = .ok (.iload_n 1, 1) := by decide +kernel
theorem dX1_countOpen_33 : decode cX1_countOpen 33 = .ok (.ireturn, 1) := by decide +kernel
theorem dX1_takeFresh_0 : decode cX1_takeFresh 0 = .ok (.aload_n 0, 1) := by decide +kernel
theorem dX1_takeFresh_1 : decode cX1_takeFresh 1 = .ok (.dup, 1) := by decide +kernel
theorem dX1_takeFresh_2 : decode cX1_takeFresh 2 = .ok (.getfield 56, 3) := by decide +kernel
theorem dX1_takeFresh_5 : decode cX1_takeFresh 5 = .ok (.iconst 1, 1) := by decide +kernel
theorem dX1_takeFresh_6 : decode cX1_takeFresh 6 = .ok (.isub, 1) := by decide +kernel
theorem dX1_takeFresh_7 : decode cX1_takeFresh 7 = .ok (.putfield 56, 3) := by decide +kernel
theorem dX1_takeFresh_10 : decode cX1_takeFresh 10 = .ok (.aload_n 0, 1) := by decide +kernel
theorem dX1_takeFresh_11 : decode cX1_takeFresh 11 = .ok (.getfield 24, 3) := by decide +kernel
theorem dX1_takeFresh_14 : decode cX1_takeFresh 14 = .ok (.aload_n 0, 1) := by decide +kernel
theorem dX1_takeFresh_15 : decode cX1_takeFresh 15 = .ok (.getfield 21, 3) := by decide +kernel
theorem dX1_takeFresh_18 : decode cX1_takeFresh 18 = .ok (.aload_n 0, 1) := by decide +kernel
theorem dX1_takeFresh_19 : decode cX1_takeFresh 19 = .ok (.getfield 56, 3) := by decide +kernel
theorem dX1_takeFresh_22 : decode cX1_takeFresh 22 = .ok (.iaload, 1) := by decide +kernel
theorem dX1_takeFresh_23 : decode cX1_takeFresh 23 = .ok (.iconst 0, 1) := by decide +kernel
theorem dX1_takeFresh_24 : decode cX1_takeFresh 24 = .ok (.bastore, 1) := by decide +kernel
theorem dX1_takeFresh_25 : decode cX1_takeFresh 25 = .ok (.aload_n 0, 1) := by decide +kernel
theorem dX1_takeFresh_26 : decode cX1_takeFresh 26 = .ok (.getfield 21, 3) := by decide +kernel
theorem dX1_takeFresh_29 : decode cX1_takeFresh 29 = .ok (.aload_n 0, 1) := by decide +kernel
theorem dX1_takeFresh_30 : decode cX1_takeFresh 30 = .ok (.getfield 56, 3) := by decide +kernel
theorem dX1_takeFresh_33 : decode cX1_takeFresh 33 = .ok (.iaload, 1) := by decide +kernel
theorem dX1_takeFresh_34 : decode cX1_takeFresh 34 = .ok (.ireturn, 1) := by decide +kernel
theorem dX1_join_0 : decode cX1_join 0 = .ok (.iload_n 1, 1) := by decide +kernel
theorem dX1_join_1 : decode cX1_join 1 = .ok (.bipush 6, 2) := by decide +kernel
theorem dX1_join_3 : decode cX1_join 3 = .ok (.imul, 1) := by decide +kernel
theorem dX1_join_4 : decode cX1_join 4 = .ok (.iload_n 2, 1) := by decide +kernel
theorem dX1_join_5 : decode cX1_join 5 = .ok (.iadd, 1) := by decide +kernel
theorem dX1_join_6 : decode cX1_join 6 = .ok (.istore 4, 2) := by decide +kernel
theorem dX1_join_8 : decode cX1_join 8 = .ok (.aload_n 0, 1) := by decide +kernel
theorem dX1_join_9 : decode cX1_join 9 = .ok (.getfield 9, 3) := by decide +kernel
theorem dX1_join_12 : decode cX1_join 12 = .ok (.iload 4, 2) := by decide +kernel
theorem dX1_join_14 : decode cX1_join 14 = .ok (.iload_n 3, 1) := by decide +kernel
theorem dX1_join_15 : decode cX1_join 15 = .ok (.iastore, 1) := by decide +kernel
theorem dX1_join_16 : decode cX1_join 16 = .ok (.aload_n 0, 1) := by decide +kernel
theorem dX1_join_17 : decode cX1_join 17 = .ok (.getfield 9, 3) := by decide +kernel
theorem dX1_join_20 : decode cX1_join 20 = .ok (.iload_n 3, 1) := by decide +kernel
theorem dX1_join_21 : decode cX1_join 21 = .ok (.bipush 6, 2) := by decide +kernel
theorem dX1_join_23 : decode cX1_join 23 = .ok (.imul, 1) := by decide +kernel
theorem dX1_join_24 : decode cX1_join 24 = .ok (.iload_n 2, 1) := by decide +kernel
theorem dX1_join_25 : decode cX1_join 25 = .ok (.iconst 1, 1) := by decide +kernel
theorem dX1_join_26 : decode cX1_join 26 = .ok (.ixor, 1) := by decide +kernel
theorem dX1_join_27 : decode cX1_join 27 = .ok (.iadd, 1) := by decide +kernel
theorem dX1_join_28 : decode cX1_join 28 = .ok (.iload_n 1, 1) := by decide +kernel
theorem dX1_join_29 : decode cX1_join 29 = .ok (.iastore, 1) := by decide +kernel
theorem dX1_join_30 : decode cX1_join 30 = .ok (.aload_n 0, 1) := by decide +kernel
theorem dX1_join_31 : decode cX1_join 31 = .ok (.getfield 24, 3) := by decide +kernel
theorem dX1_join_34 : decode cX1_join 34 = .ok (.iload 4, 2) := by decide +kernel
theorem dX1_join_36 : decode cX1_join 36 = .ok (.baload, 1) := by decide +kernel
theorem dX1_join_37 : decode cX1_join 37 = .ok (.ifCond .ne 32, 3) := by decide +kernel
theorem dX1_join_40 : decode cX1_join 40 = .ok (.aload_n 0, 1) := by decide +kernel
theorem dX1_join_41 : decode cX1_join 41 = .ok (.getfield 24, 3) := by decide +kernel
theorem dX1_join_44 : decode cX1_join 44 = .ok (.iload 4, 2) := by decide +kernel
theorem dX1_join_46 : decode cX1_join 46 = .ok (.iconst 1, 1) := by decide +kernel
theorem dX1_join_47 : decode cX1_join 47 = .ok (.bastore, 1) := by decide +kernel
theorem dX1_join_48 : decode cX1_join 48 = .ok (.aload_n 0, 1) := by decide +kernel
theorem dX1_join_49 : decode cX1_join 49 = .ok (.getfield 21, 3) := by decide +kernel
theorem dX1_join_52 : decode cX1_join 52 = .ok (.aload_n 0, 1) := by decide +kernel
theorem dX1_join_53 : decode cX1_join 53 = .ok (.getfield 56, 3) := by decide +kernel
theorem dX1_join_56 : decode cX1_join 56 = .ok (.iload 4, 2) := by decide +kernel
theorem dX1_join_58 : decode cX1_join 58 = .ok (.iastore, 1) := by decide +kernel
theorem dX1_join_59 : decode cX1_join 59 = .ok (.aload_n 0, 1) := by decide +kernel
theorem dX1_join_60 : decode cX1_join 60 = .ok (.dup, 1) := by decide +kernel
theorem dX1_join_61 : decode cX1_join 61 = .ok (.getfield 56, 3) := by decide +kernel
theorem dX1_join_64 : decode cX1_join 64 = .ok (.iconst 1, 1) := by decide +kernel
theorem dX1_join_65 : decode cX1_join 65 = .ok (.iadd, 1) := by decide +kernel
theorem dX1_join_66 : decode cX1_join 66 = .ok (.putfield 56, 3) := by decide +kernel
theorem dX1_join_69 : decode cX1_join 69 = .ok (.return_, 1) := by decide +kernel
set_option maxRecDepth 20000 in
theorem ggX1_unite_X1_fall : GoodIn wsX1_unite wsX1_fall := goodIn_r _ [7, 8, 9, 2, 1, 10, 28, 29, 30, 31, 32, 33, 34, 35, 36, 37, 38] (by decide +kernel) (by decide +kernel)
set_option maxRecDepth 20000 in
theorem gX1_unite_X1_fall : GoodIn wsX1_unite (wsV RX1 62 RX1 yX1_fall wsX1_fall) := goodIn_app (goodIn_of _ (by decide +kernel)) ggX1_unite_X1_fall
set_option maxRecDepth 20000 in
theorem ggX1_unite_X1_handOver : GoodIn wsX1_unite wsX1_handOver := goodIn_r _ [14, 15, 16, 8, 17, 18, 19, 6, 20, 3, 4, 5, 7, 9, 2, 1, 10, 21, 22, 23, 24, 25, 26, 27, 28, 29, 30, 31, 32, 33, 34, 35, 36, 37, 38] (by decide +kernel) (by decide +kernel)
set_option maxRecDepth 20000 in
theorem gX1_unite_X1_handOver : GoodIn wsX1_unite (wsV RX1 66 RX1 yX1_handOver wsX1_handOver) := goodIn_app (goodIn_of _ (by decide +kernel)) ggX1_unite_X1_handOver
theorem dX1_unite_0 : decode cX1_unite 0 = .ok (.aload_n 0, 1) := by decide +kernel
theorem dX1_unite_1 : decode cX1_unite 1 = .ok (.iconst 0, 1) := by decide +kernel
theorem dX1_unite_2 : decode cX1_unite 2 = .ok (.putfield 59, 3) := by decide +kernel
theorem dX1_unite_5 : decode cX1_unite 5 = .ok (.aload_n 0, 1) := by decide +kernel
theorem dX1_unite_6 : decode cX1_unite 6 = .ok (.iload_n 1, 1) := by decide +kernel
theorem dX1_unite_7 : decode cX1_unite 7 = .ok (.iload_n 2, 1) := by decide +kernel
theorem dX1_unite_8 : decode cX1_unite 8 = .ok (.invokevirtual 62, 3) := by decide +kernel
theorem dX1_unite_11 : decode cX1_unite 11 = .ok (.iconst 0, 1) := by decide +kernel
theorem dX1_unite_12 : decode cX1_unite 12 = .ok (.istore_n 3, 1) := by decide +kernel
theorem dX1_unite_13 : decode cX1_unite 13 = .ok (.iload_n 3, 1) := by decide +kernel
theorem dX1_unite_14 : decode cX1_unite 14 = .ok (.aload_n 0, 1) := by decide +kernel
theorem dX1_unite_15 : decode cX1_unite 15 = .ok (.getfield 59, 3) := by decide +kernel
theorem dX1_unite_18 : decode cX1_unite 18 = .ok (.if_icmp .ge 26, 3) := by decide +kernel
theorem dX1_unite_21 : decode cX1_unite 21 = .ok (.iload_n 3, 1) := by decide +kernel
theorem dX1_unite_22 : decode cX1_unite 22 = .ok (.sipush 200, 3) := by decide +kernel
theorem dX1_unite_25 : decode cX1_unite 25 = .ok (.if_icmp .ge 19, 3) := by decide +kernel
theorem dX1_unite_28 : decode cX1_unite 28 = .ok (.aload_n 0, 1) := by decide +kernel
theorem dX1_unite_29 : decode cX1_unite 29 = .ok (.aload_n 0, 1) := by decide +kernel
theorem dX1_unite_30 : decode cX1_unite 30 = .ok (.getfield 18, 3) := by decide +kernel
theorem dX1_unite_33 : decode cX1_unite 33 = .ok (.iload_n 3, 1) := by decide +kernel
theorem dX1_unite_34 : decode cX1_unite 34 = .ok (.iaload, 1) := by decide +kernel
theorem dX1_unite_35 : decode cX1_unite 35 = .ok (.invokevirtual 66, 3) := by decide +kernel
theorem dX1_unite_38 : decode cX1_unite 38 = .ok (.iinc 3 1, 3) := by decide +kernel
theorem dX1_unite_41 : decode cX1_unite 41 = .ok (.goto (-28), 3) := by decide +kernel
theorem dX1_unite_44 : decode cX1_unite 44 = .ok (.return_, 1) := by decide +kernel
theorem dX1_fall_0 : decode cX1_fall 0 = .ok (.aload_n 0, 1) := by decide +kernel
theorem dX1_fall_1 : decode cX1_fall 1 = .ok (.getfield 15, 3) := by decide +kernel
theorem dX1_fall_4 : decode cX1_fall 4 = .ok (.iload_n 1, 1) := by decide +kernel
theorem dX1_fall_5 : decode cX1_fall 5 = .ok (.iaload, 1) := by decide +kernel
theorem dX1_fall_6 : decode cX1_fall 6 = .ok (.aload_n 0, 1) := by decide +kernel
theorem dX1_fall_7 : decode cX1_fall 7 = .ok (.getfield 15, 3) := by decide +kernel
theorem dX1_fall_10 : decode cX1_fall 10 = .ok (.iload_n 2, 1) := by decide +kernel
theorem dX1_fall_11 : decode cX1_fall 11 = .ok (.iaload, 1) := by decide +kernel
theorem dX1_fall_12 : decode cX1_fall 12 = .ok (.if_icmp .ne 4, 3) := by decide +kernel
theorem dX1_fall_15 : decode cX1_fall 15 = .ok (.return_, 1) := by decide +kernel
theorem dX1_fall_16 : decode cX1_fall 16 = .ok (.aload_n 0, 1) := by decide +kernel
theorem dX1_fall_17 : decode cX1_fall 17 = .ok (.getfield 15, 3) := by decide +kernel
theorem dX1_fall_20 : decode cX1_fall 20 = .ok (.iload_n 1, 1) := by decide +kernel
theorem dX1_fall_21 : decode cX1_fall 21 = .ok (.iaload, 1) := by decide +kernel
theorem dX1_fall_22 : decode cX1_fall 22 = .ok (.aload_n 0, 1) := by decide +kernel
theorem dX1_fall_23 : decode cX1_fall 23 = .ok (.getfield 15, 3) := by decide +kernel
theorem dX1_fall_26 : decode cX1_fall 26 = .ok (.iload_n 2, 1) := by decide +kernel
theorem dX1_fall_27 : decode cX1_fall 27 = .ok (.iaload, 1) := by decide +kernel
theorem dX1_fall_28 : decode cX1_fall 28 = .ok (.if_icmp .ge 12, 3) := by decide +kernel
theorem dX1_fall_31 : decode cX1_fall 31 = .ok (.aload_n 0, 1) := by decide +kernel
theorem dX1_fall_32 : decode cX1_fall 32 = .ok (.getfield 15, 3) := by decide +kernel
theorem dX1_fall_35 : decode cX1_fall 35 = .ok (.iload_n 1, 1) := by decide +kernel
theorem dX1_fall_36 : decode cX1_fall 36 = .ok (.iaload, 1) := by decide +kernel
theorem dX1_fall_37 : decode cX1_fall 37 = .ok (.goto 9, 3) := by decide +kernel
theorem dX1_fall_40 : decode cX1_fall 40 = .ok (.aload_n 0, 1) := by decide +kernel
theorem dX1_fall_41 : decode cX1_fall 41 = .ok (.getfield 15, 3) := by decide +kernel
theorem dX1_fall_44 : decode cX1_fall 44 = .ok (.iload_n 2, 1) := by decide +kernel
theorem dX1_fall_45 : decode cX1_fall 45 = .ok (.iaload, 1) := by decide +kernel
theorem dX1_fall_46 : decode cX1_fall 46 = .ok (.istore_n 3, 1) := by decide +kernel
theorem dX1_fall_47 : decode cX1_fall 47 = .ok (.aload_n 0, 1) := by decide +kernel
theorem dX1_fall_48 : decode cX1_fall 48 = .ok (.getfield 15, 3) := by decide +kernel
theorem dX1_fall_51 : decode cX1_fall 51 = .ok (.iload_n 1, 1) := by decide +kernel
theorem dX1_fall_52 : decode cX1_fall 52 = .ok (.iaload, 1) := by decide +kernel
theorem dX1_fall_53 : decode cX1_fall 53 = .ok (.aload_n 0, 1) := by decide +kernel
theorem dX1_fall_54 : decode cX1_fall 54 = .ok (.getfield 15, 3) := by decide +kernel
theorem dX1_fall_57 : decode cX1_fall 57 = .ok (.iload_n 2, 1) := by decide +kernel
theorem dX1_fall_58 : decode cX1_fall 58 = .ok (.iaload, 1) := by decide +kernel
theorem dX1_fall_59 : decode cX1_fall 59 = .ok (.if_icmp .ge 12, 3) := by decide +kernel
theorem dX1_fall_62 : decode cX1_fall 62 = .ok (.aload_n 0, 1) := by decide +kernel
theorem dX1_fall_63 : decode cX1_fall 63 = .ok (.getfield 15, 3) := by decide +kernel
theorem dX1_fall_66 : decode cX1_fall 66 = .ok (.iload_n 2, 1) := by decide +kernel
theorem dX1_fall_67 : decode cX1_fall 67 = .ok (.iaload, 1) := by decide +kernel
theorem dX1_fall_68 : decode cX1_fall 68 = .ok (.goto 9, 3) := by decide +kernel
theorem dX1_fall_71 : decode cX1_fall 71 = .ok (.aload_n 0, 1) := by decide +kernel
theorem dX1_fall_72 : decode cX1_fall 72 = .ok (.getfield 15, 3) := by decide +kernel
theorem dX1_fall_75 : decode cX1_fall 75 = .ok (.iload_n 1, 1) := by decide +kernel
theorem dX1_fall_76 : decode cX1_fall 76 = .ok (.iaload, 1) := by decide +kernel
theorem dX1_fall_77 : decode cX1_fall 77 = .ok (.istore 4, 2) := by decide +kernel
theorem dX1_fall_79 : decode cX1_fall 79 = .ok (.iload 4, 2) := by decide +kernel
theorem dX1_fall_81 : decode cX1_fall 81 = .ok (.istore 5, 2) := by decide +kernel
theorem dX1_fall_83 : decode cX1_fall 83 = .ok (.iload 5, 2) := by decide +kernel
theorem dX1_fall_85 : decode cX1_fall 85 = .ok (.aload_n 0, 1) := by decide +kernel
theorem dX1_fall_86 : decode cX1_fall 86 = .ok (.getfield 32, 3) := by decide +kernel
theorem dX1_fall_89 : decode cX1_fall 89 = .ok (.if_icmp .ge 29, 3) := by decide +kernel
theorem dX1_fall_92 : decode cX1_fall 92 = .ok (.aload_n 0, 1) := by decide +kernel
theorem dX1_fall_93 : decode cX1_fall 93 = .ok (.getfield 15, 3) := by decide +kernel
theorem dX1_fall_96 : decode cX1_fall 96 = .ok (.iload 5, 2) := by decide +kernel
theorem dX1_fall_98 : decode cX1_fall 98 = .ok (.iaload, 1) := by decide +kernel
theorem dX1_fall_99 : decode cX1_fall 99 = .ok (.iload 4, 2) := by decide +kernel
theorem dX1_fall_101 : decode cX1_fall 101 = .ok (.if_icmp .ne 11, 3) := by decide +kernel
theorem dX1_fall_104 : decode cX1_fall 104 = .ok (.aload_n 0, 1) := by decide +kernel
theorem dX1_fall_105 : decode cX1_fall 105 = .ok (.getfield 15, 3) := by decide +kernel
theorem dX1_fall_108 : decode cX1_fall 108 = .ok (.iload 5, 2) := by decide +kernel
theorem dX1_fall_110 : decode cX1_fall 110 = .ok (.iload_n 3, 1) := by decide +kernel
theorem dX1_fall_111 : decode cX1_fall 111 = .ok (.iastore, 1) := by decide +kernel
theorem dX1_fall_112 : decode cX1_fall 112 = .ok (.iinc 5 1, 3) := by decide +kernel
theorem dX1_fall_115 : decode cX1_fall 115 = .ok (.goto (-32), 3) := by decide +kernel
theorem dX1_fall_118 : decode cX1_fall 118 = .ok (.aload_n 0, 1) := by decide +kernel
theorem dX1_fall_119 : decode cX1_fall 119 = .ok (.getfield 18, 3) := by decide +kernel
theorem dX1_fall_122 : decode cX1_fall 122 = .ok (.aload_n 0, 1) := by decide +kernel
theorem dX1_fall_123 : decode cX1_fall 123 = .ok (.getfield 59, 3) := by decide +kernel
theorem dX1_fall_126 : decode cX1_fall 126 = .ok (.iload 4, 2) := by decide +kernel
theorem dX1_fall_128 : decode cX1_fall 128 = .ok (.iastore, 1) := by decide +kernel
theorem dX1_fall_129 : decode cX1_fall 129 = .ok (.aload_n 0, 1) := by decide +kernel
theorem dX1_fall_130 : decode cX1_fall 130 = .ok (.dup, 1) := by decide +kernel
theorem dX1_fall_131 : decode cX1_fall 131 = .ok (.getfield 59, 3) := by decide +kernel
theorem dX1_fall_134 : decode cX1_fall 134 = .ok (.iconst 1, 1) := by decide +kernel
theorem dX1_fall_135 : decode cX1_fall 135 = .ok (.iadd, 1) := by decide +kernel
theorem dX1_fall_136 : decode cX1_fall 136 = .ok (.putfield 59, 3) := by decide +kernel
theorem dX1_fall_139 : decode cX1_fall 139 = .ok (.aload_n 0, 1) := by decide +kernel
theorem dX1_fall_140 : decode cX1_fall 140 = .ok (.dup, 1) := by decide +kernel
theorem dX1_fall_141 : decode cX1_fall 141 = .ok (.getfield 35, 3) := by decide +kernel
theorem dX1_fall_144 : decode cX1_fall 144 = .ok (.iconst 1, 1) := by decide +kernel
theorem dX1_fall_145 : decode cX1_fall 145 = .ok (.isub, 1) := by decide +kernel
theorem dX1_fall_146 : decode cX1_fall 146 = .ok (.putfield 35, 3) := by decide +kernel
theorem dX1_fall_149 : decode cX1_fall 149 = .ok (.return_, 1) := by decide +kernel
set_option maxRecDepth 20000 in
theorem ggX1_handOver_X1_at : GoodIn wsX1_handOver wsX1_at := goodIn_r _ [8, 2, 24, 25, 26, 27, 28, 29, 30, 31, 32, 33, 34] (by decide +kernel) (by decide +kernel)
set_option maxRecDepth 20000 in
theorem gX1_handOver_X1_at : GoodIn wsX1_handOver (wsV RX1 70 RX1 yX1_at wsX1_at) := goodIn_app (goodIn_of _ (by decide +kernel)) ggX1_handOver_X1_at
set_option maxRecDepth 20000 in
theorem ggX1_handOver_X1_fall : GoodIn wsX1_handOver wsX1_fall := goodIn_r _ [12, 3, 13, 14, 15, 16, 24, 25, 26, 27, 28, 29, 30, 31, 32, 33, 34] (by decide +kernel) (by decide +kernel)
set_option maxRecDepth 20000 in
theorem gX1_handOver_X1_fall : GoodIn wsX1_handOver (wsV RX1 62 RX1 yX1_fall wsX1_fall) := goodIn_app (goodIn_of _ (by decide +kernel)) ggX1_handOver_X1_fall
set_option maxRecDepth 20000 in
theorem ggX1_handOver_X1_join : GoodIn wsX1_handOver wsX1_join := goodIn_r _ [20, 2, 21, 22, 23, 24, 25, 26, 27, 28, 29, 30, 31, 32, 33, 34] (by decide +kernel) (by decide +kernel)
set_option maxRecDepth 20000 in
theorem gX1_handOver_X1_join : GoodIn wsX1_handOver (wsV RX1 52 RX1 yX1_join wsX1_join) := goodIn_app (goodIn_of _ (by decide +kernel)) ggX1_handOver_X1_join
theorem dX1_handOver_0 : decode cX1_handOver 0 = .ok (.iconst 0, 1) := by decide +kernel
theorem dX1_handOver_1 : decode cX1_handOver 1 = .ok (.istore_n 2, 1) := by decide +kernel
theorem dX1_handOver_2 : decode cX1_handOver 2 = .ok (.iload_n 2, 1) := by decide +kernel
theorem dX1_handOver_3 : decode cX1_handOver 3 = .ok (.aload_n 0, 1) := by decide +kernel
theorem dX1_handOver_4 : decode cX1_handOver 4 = .ok (.getfield 28, 3) := by decide +kernel
theorem dX1_handOver_7 : decode cX1_handOver 7 = .ok (.if_icmp .ge 133, 3) := by decide +kernel
theorem dX1_handOver_10 : decode cX1_handOver 10 = .ok (.aload_n 0, 1) := by decide +kernel
theorem dX1_handOver_11 : decode cX1_handOver 11 = .ok (.iload_n 1, 1) := by decide +kernel
theorem dX1_handOver_12 : decode cX1_handOver 12 = .ok (.iload_n 2, 1) := by decide +kernel
theorem dX1_handOver_13 : decode cX1_handOver 13 = .ok (.invokevirtual 70, 3) := by decide +kernel
theorem dX1_handOver_16 : decode cX1_handOver 16 = .ok (.istore_n 3, 1) := by decide +kernel
theorem dX1_handOver_17 : decode cX1_handOver 17 = .ok (.iload_n 3, 1) := by decide +kernel
theorem dX1_handOver_18 : decode cX1_handOver 18 = .ok (.iconst (-1), 1) := by decide +kernel
theorem dX1_handOver_19 : decode cX1_handOver 19 = .ok (.if_icmp .ne 6, 3) := by decide +kernel
theorem dX1_handOver_22 : decode cX1_handOver 22 = .ok (.goto 112, 3) := by decide +kernel
theorem dX1_handOver_25 : decode cX1_handOver 25 = .ok (.aload_n 0, 1) := by decide +kernel
theorem dX1_handOver_26 : decode cX1_handOver 26 = .ok (.getfield 9, 3) := by decide +kernel
theorem dX1_handOver_29 : decode cX1_handOver 29 = .ok (.iload_n 1, 1) := by decide +kernel
theorem dX1_handOver_30 : decode cX1_handOver 30 = .ok (.bipush 6, 2) := by decide +kernel
theorem dX1_handOver_32 : decode cX1_handOver 32 = .ok (.imul, 1) := by decide +kernel
theorem dX1_handOver_33 : decode cX1_handOver 33 = .ok (.iload_n 2, 1) := by decide +kernel
theorem dX1_handOver_34 : decode cX1_handOver 34 = .ok (.iadd, 1) := by decide +kernel
theorem dX1_handOver_35 : decode cX1_handOver 35 = .ok (.iconst (-1), 1) := by decide +kernel
theorem dX1_handOver_36 : decode cX1_handOver 36 = .ok (.iastore, 1) := by decide +kernel
theorem dX1_handOver_37 : decode cX1_handOver 37 = .ok (.aload_n 0, 1) := by decide +kernel
theorem dX1_handOver_38 : decode cX1_handOver 38 = .ok (.getfield 9, 3) := by decide +kernel
theorem dX1_handOver_41 : decode cX1_handOver 41 = .ok (.iload_n 3, 1) := by decide +kernel
theorem dX1_handOver_42 : decode cX1_handOver 42 = .ok (.bipush 6, 2) := by decide +kernel
theorem dX1_handOver_44 : decode cX1_handOver 44 = .ok (.imul, 1) := by decide +kernel
theorem dX1_handOver_45 : decode cX1_handOver 45 = .ok (.iload_n 2, 1) := by decide +kernel
theorem dX1_handOver_46 : decode cX1_handOver 46 = .ok (.iconst 1, 1) := by decide +kernel
theorem dX1_handOver_47 : decode cX1_handOver 47 = .ok (.ixor, 1) := by decide +kernel
theorem dX1_handOver_48 : decode cX1_handOver 48 = .ok (.iadd, 1) := by decide +kernel
theorem dX1_handOver_49 : decode cX1_handOver 49 = .ok (.iconst (-1), 1) := by decide +kernel
theorem dX1_handOver_50 : decode cX1_handOver 50 = .ok (.iastore, 1) := by decide +kernel
theorem dX1_handOver_51 : decode cX1_handOver 51 = .ok (.aload_n 0, 1) := by decide +kernel
theorem dX1_handOver_52 : decode cX1_handOver 52 = .ok (.getfield 15, 3) := by decide +kernel
theorem dX1_handOver_55 : decode cX1_handOver 55 = .ok (.iload_n 1, 1) := by decide +kernel
theorem dX1_handOver_56 : decode cX1_handOver 56 = .ok (.iaload, 1) := by decide +kernel
theorem dX1_handOver_57 : decode cX1_handOver 57 = .ok (.istore 4, 2) := by decide +kernel
theorem dX1_handOver_59 : decode cX1_handOver 59 = .ok (.aload_n 0, 1) := by decide +kernel
theorem dX1_handOver_60 : decode cX1_handOver 60 = .ok (.getfield 15, 3) := by decide +kernel
theorem dX1_handOver_63 : decode cX1_handOver 63 = .ok (.iload_n 3, 1) := by decide +kernel
theorem dX1_handOver_64 : decode cX1_handOver 64 = .ok (.iaload, 1) := by decide +kernel
theorem dX1_handOver_65 : decode cX1_handOver 65 = .ok (.istore 5, 2) := by decide +kernel
theorem dX1_handOver_67 : decode cX1_handOver 67 = .ok (.aload_n 0, 1) := by decide +kernel
theorem dX1_handOver_68 : decode cX1_handOver 68 = .ok (.iload 4, 2) := by decide +kernel
theorem dX1_handOver_70 : decode cX1_handOver 70 = .ok (.iload_n 2, 1) := by decide +kernel
theorem dX1_handOver_71 : decode cX1_handOver 71 = .ok (.invokevirtual 70, 3) := by decide +kernel
theorem dX1_handOver_74 : decode cX1_handOver 74 = .ok (.iconst (-1), 1) := by decide +kernel
theorem dX1_handOver_75 : decode cX1_handOver 75 = .ok (.if_icmp .eq 19, 3) := by decide +kernel
theorem dX1_handOver_78 : decode cX1_handOver 78 = .ok (.aload_n 0, 1) := by decide +kernel
theorem dX1_handOver_79 : decode cX1_handOver 79 = .ok (.aload_n 0, 1) := by decide +kernel
theorem dX1_handOver_80 : decode cX1_handOver 80 = .ok (.iload 4, 2) := by decide +kernel
theorem dX1_handOver_82 : decode cX1_handOver 82 = .ok (.iload_n 2, 1) := by decide +kernel
theorem dX1_handOver_83 : decode cX1_handOver 83 = .ok (.invokevirtual 70, 3) := by decide +kernel
theorem dX1_handOver_86 : decode cX1_handOver 86 = .ok (.iload 5, 2) := by decide +kernel
theorem dX1_handOver_88 : decode cX1_handOver 88 = .ok (.invokevirtual 62, 3) := by decide +kernel
theorem dX1_handOver_91 : decode cX1_handOver 91 = .ok (.goto 43, 3) := by decide +kernel
theorem dX1_handOver_94 : decode cX1_handOver 94 = .ok (.aload_n 0, 1) := by decide +kernel
theorem dX1_handOver_95 : decode cX1_handOver 95 = .ok (.iload 5, 2) := by decide +kernel
theorem dX1_handOver_97 : decode cX1_handOver 97 = .ok (.iload_n 2, 1) := by decide +kernel
theorem dX1_handOver_98 : decode cX1_handOver 98 = .ok (.iconst 1, 1) := by decide +kernel
theorem dX1_handOver_99 : decode cX1_handOver 99 = .ok (.ixor, 1) := by decide +kernel
theorem dX1_handOver_100 : decode cX1_handOver 100 = .ok (.invokevirtual 70, 3) := by decide +kernel
theorem dX1_handOver_103 : decode cX1_handOver 103 = .ok (.iconst (-1), 1) := by decide +kernel
theorem dX1_handOver_104 : decode cX1_handOver 104 = .ok (.if_icmp .eq 21, 3) := by decide +kernel
theorem dX1_handOver_107 : decode cX1_handOver 107 = .ok (.aload_n 0, 1) := by decide +kernel
theorem dX1_handOver_108 : decode cX1_handOver 108 = .ok (.aload_n 0, 1) := by decide +kernel
theorem dX1_handOver_109 : decode cX1_handOver 109 = .ok (.iload 5, 2) := by decide +kernel
theorem dX1_handOver_111 : decode cX1_handOver 111 = .ok (.iload_n 2, 1) := by decide +kernel
theorem dX1_handOver_112 : decode cX1_handOver 112 = .ok (.iconst 1, 1) := by decide +kernel
theorem dX1_handOver_113 : decode cX1_handOver 113 = .ok (.ixor, 1) := by decide +kernel
theorem dX1_handOver_114 : decode cX1_handOver 114 = .ok (.invokevirtual 70, 3) := by decide +kernel
theorem dX1_handOver_117 : decode cX1_handOver 117 = .ok (.iload 4, 2) := by decide +kernel
theorem dX1_handOver_119 : decode cX1_handOver 119 = .ok (.invokevirtual 62, 3) := by decide +kernel
theorem dX1_handOver_122 : decode cX1_handOver 122 = .ok (.goto 12, 3) := by decide +kernel
theorem dX1_handOver_125 : decode cX1_handOver 125 = .ok (.aload_n 0, 1) := by decide +kernel
theorem dX1_handOver_126 : decode cX1_handOver 126 = .ok (.iload 4, 2) := by decide +kernel
theorem dX1_handOver_128 : decode cX1_handOver 128 = .ok (.iload_n 2, 1) := by decide +kernel
theorem dX1_handOver_129 : decode cX1_handOver 129 = .ok (.iload 5, 2) := by decide +kernel
theorem dX1_handOver_131 : decode cX1_handOver 131 = .ok (.invokevirtual 52, 3) := by decide +kernel
theorem dX1_handOver_134 : decode cX1_handOver 134 = .ok (.iinc 2 1, 3) := by decide +kernel
theorem dX1_handOver_137 : decode cX1_handOver 137 = .ok (.goto (-135), 3) := by decide +kernel
theorem dX1_handOver_140 : decode cX1_handOver 140 = .ok (.return_, 1) := by decide +kernel
theorem dX2_init_0 : decode cX2_init 0 = .ok (.aload_n 0, 1) := by decide +kernel
end
section
theorem dX2_init_1 : decode cX2_init 1 = .ok (.invokespecial 3, 3) := by decide +kernel
theorem dX2_init_4 : decode cX2_init 4 = .ok (.aload_n 0, 1) := by decide +kernel
theorem dX2_init_5 : decode cX2_init 5 = .ok (.aload_n 1, 1) := by decide +kernel
theorem dX2_init_6 : decode cX2_init 6 = .ok (.putfield 9, 3) := by decide +kernel
theorem dX2_init_9 : decode cX2_init 9 = .ok (.aload_n 0, 1) := by decide +kernel
theorem dX2_init_10 : decode cX2_init 10 = .ok (.aload_n 2, 1) := by decide +kernel
theorem dX2_init_11 : decode cX2_init 11 = .ok (.putfield 15, 3) := by decide +kernel
theorem dX2_init_14 : decode cX2_init 14 = .ok (.aload_n 0, 1) := by decide +kernel
theorem dX2_init_15 : decode cX2_init 15 = .ok (.aload_n 3, 1) := by decide +kernel
theorem dX2_init_16 : decode cX2_init 16 = .ok (.putfield 19, 3) := by decide +kernel
theorem dX2_init_19 : decode cX2_init 19 = .ok (.return_, 1) := by decide +kernel
set_option maxRecDepth 20000 in
theorem ggX2_drawFrom_X1_lives : GoodIn wsX2_drawFrom wsX1_lives := goodIn_r _ [8, 9, 10, 71, 72, 73, 74, 75, 76, 77, 78, 79, 80, 81] (by decide +kernel) (by decide +kernel)
set_option maxRecDepth 20000 in
theorem gX2_drawFrom_X1_lives : GoodIn wsX2_drawFrom (wsV RX2 28 RX1 yX1_lives wsX1_lives) := goodIn_app (goodIn_of _ (by decide +kernel)) ggX2_drawFrom_X1_lives
set_option maxRecDepth 20000 in
theorem ggX2_drawFrom_X2_close : GoodIn wsX2_drawFrom wsX2_close := goodIn_r _ [15, 2, 16, 17, 18, 19, 20, 21, 22, 23, 24, 25, 7, 26, 27, 28, 29, 30, 31, 32, 33, 34, 35, 36, 37, 10, 9, 38, 39, 40, 41, 42, 43, 44, 45, 46, 47, 48, 49, 50, 51, 52, 82, 83, 66, 67, 68, 71, 72, 73, 74, 75, 76, 77, 78, 79, 80, 81] (by decide +kernel) (by decide +kernel)
set_option maxRecDepth 20000 in
theorem gX2_drawFrom_X2_close : GoodIn wsX2_drawFrom (wsV RX2 38 RX2 yX2_close wsX2_close) := goodIn_app (goodIn_of _ (by decide +kernel)) ggX2_drawFrom_X2_close
set_option maxRecDepth 20000 in
theorem ggX2_drawFrom_X2_drawFromSubgroup : GoodIn wsX2_drawFrom wsX2_drawFromSubgroup := goodIn_r _ [56, 57, 11, 12, 13, 14, 15, 2, 16, 17, 18, 19, 20, 21, 22, 23, 24, 25, 7, 26, 27, 28, 29, 30, 31, 32, 33, 34, 35, 36, 37, 10, 9, 38, 39, 40, 41, 42, 43, 44, 45, 46, 47, 48, 49, 50, 51, 52, 66, 67, 68, 69, 70, 82, 83, 71, 72, 73, 74, 75, 76, 77, 78, 79, 80, 81] (by decide +kernel) (by decide +kernel)
set_option maxRecDepth 20000 in
theorem gX2_drawFrom_X2_drawFromSubgroup : GoodIn wsX2_drawFrom (wsV RX2 42 RX2 yX2_drawFromSubgroup wsX2_drawFromSubgroup) := goodIn_app (goodIn_of _ (by decide +kernel)) ggX2_drawFrom_X2_drawFromSubgroup
set_option maxRecDepth 20000 in
theorem ggX2_drawFrom_X1_takeFresh : GoodIn wsX2_drawFrom wsX1_takeFresh := goodIn_r _ [61, 51, 49, 50, 71, 72, 73, 74, 75, 76, 77, 78, 79, 80, 81] (by decide +kernel) (by decide +kernel)
set_option maxRecDepth 20000 in
theorem gX2_drawFrom_X1_takeFresh : GoodIn wsX2_drawFrom (wsV RX2 49 RX1 yX1_takeFresh wsX1_takeFresh) := goodIn_app (goodIn_of _ (by decide +kernel)) ggX2_drawFrom_X1_takeFresh
set_option maxRecDepth 20000 in
theorem ggX2_drawFrom_X2_drawThrough : GoodIn wsX2_drawFrom wsX2_drawThrough := goodIn_r _ [65, 2, 23, 24, 25, 7, 26, 27, 11, 12, 13, 14, 15, 16, 17, 18, 19, 20, 21, 22, 28, 29, 30, 31, 32, 33, 34, 35, 36, 37, 10, 9, 38, 39, 40, 41, 42, 43, 44, 45, 46, 47, 48, 49, 50, 51, 52, 82, 83, 66, 67, 68, 71, 72, 73, 74, 75, 76, 77, 78, 79, 80, 81] (by decide +kernel) (by decide +kernel)
set_option maxRecDepth 20000 in
theorem gX2_drawFrom_X2_drawThrough : GoodIn wsX2_drawFrom (wsV RX2 53 RX2 yX2_drawThrough wsX2_drawThrough) := goodIn_app (goodIn_of _ (by decide +kernel)) ggX2_drawFrom_X2_drawThrough
theorem dX2_drawFrom_0 : decode cX2_drawFrom 0 = .ok (.iconst 0, 1) := by decide +kernel
theorem dX2_drawFrom_1 : decode cX2_drawFrom 1 = .ok (.istore_n 2, 1) := by decide +kernel
theorem dX2_drawFrom_2 : decode cX2_drawFrom 2 = .ok (.iload_n 2, 1) := by decide +kernel
theorem dX2_drawFrom_3 : decode cX2_drawFrom 3 = .ok (.aload_n 0, 1) := by decide +kernel
theorem dX2_drawFrom_4 : decode cX2_drawFrom 4 = .ok (.getfield 15, 3) := by decide +kernel
theorem dX2_drawFrom_7 : decode cX2_drawFrom 7 = .ok (.getfield 22, 3) := by decide +kernel
theorem dX2_drawFrom_10 : decode cX2_drawFrom 10 = .ok (.if_icmp .ge 35, 3) := by decide +kernel
theorem dX2_drawFrom_13 : decode cX2_drawFrom 13 = .ok (.aload_n 0, 1) := by decide +kernel
theorem dX2_drawFrom_14 : decode cX2_drawFrom 14 = .ok (.getfield 9, 3) := by decide +kernel
theorem dX2_drawFrom_17 : decode cX2_drawFrom 17 = .ok (.iload_n 1, 1) := by decide +kernel
theorem dX2_drawFrom_18 : decode cX2_drawFrom 18 = .ok (.invokevirtual 28, 3) := by decide +kernel
theorem dX2_drawFrom_21 : decode cX2_drawFrom 21 = .ok (.ifCond .eq 24, 3) := by decide +kernel
theorem dX2_drawFrom_24 : decode cX2_drawFrom 24 = .ok (.aload_n 0, 1) := by decide +kernel
theorem dX2_drawFrom_25 : decode cX2_drawFrom 25 = .ok (.aload_n 0, 1) := by decide +kernel
theorem dX2_drawFrom_26 : decode cX2_drawFrom 26 = .ok (.getfield 15, 3) := by decide +kernel
theorem dX2_drawFrom_29 : decode cX2_drawFrom 29 = .ok (.getfield 34, 3) := by decide +kernel
theorem dX2_drawFrom_32 : decode cX2_drawFrom 32 = .ok (.iload_n 2, 1) := by decide +kernel
theorem dX2_drawFrom_33 : decode cX2_drawFrom 33 = .ok (.aaload, 1) := by decide +kernel
theorem dX2_drawFrom_34 : decode cX2_drawFrom 34 = .ok (.iconst 0, 1) := by decide +kernel
theorem dX2_drawFrom_35 : decode cX2_drawFrom 35 = .ok (.iload_n 1, 1) := by decide +kernel
theorem dX2_drawFrom_36 : decode cX2_drawFrom 36 = .ok (.invokevirtual 38, 3) := by decide +kernel
theorem dX2_drawFrom_39 : decode cX2_drawFrom 39 = .ok (.iinc 2 1, 3) := by decide +kernel
theorem dX2_drawFrom_42 : decode cX2_drawFrom 42 = .ok (.goto (-40), 3) := by decide +kernel
theorem dX2_drawFrom_45 : decode cX2_drawFrom 45 = .ok (.aload_n 0, 1) := by decide +kernel
theorem dX2_drawFrom_46 : decode cX2_drawFrom 46 = .ok (.invokevirtual 42, 3) := by decide +kernel
theorem dX2_drawFrom_49 : decode cX2_drawFrom 49 = .ok (.iconst 0, 1) := by decide +kernel
theorem dX2_drawFrom_50 : decode cX2_drawFrom 50 = .ok (.istore_n 2, 1) := by decide +kernel
theorem dX2_drawFrom_51 : decode cX2_drawFrom 51 = .ok (.iload_n 2, 1) := by decide +kernel
theorem dX2_drawFrom_52 : decode cX2_drawFrom 52 = .ok (.ldc 45, 2) := by decide +kernel
theorem dX2_drawFrom_54 : decode cX2_drawFrom 54 = .ok (.if_icmp .ge 84, 3) := by decide +kernel
theorem dX2_drawFrom_57 : decode cX2_drawFrom 57 = .ok (.aload_n 0, 1) := by decide +kernel
theorem dX2_drawFrom_58 : decode cX2_drawFrom 58 = .ok (.getfield 9, 3) := by decide +kernel
theorem dX2_drawFrom_61 : decode cX2_drawFrom 61 = .ok (.getfield 46, 3) := by decide +kernel
theorem dX2_drawFrom_64 : decode cX2_drawFrom 64 = .ok (.ifCond .le 74, 3) := by decide +kernel
theorem dX2_drawFrom_67 : decode cX2_drawFrom 67 = .ok (.aload_n 0, 1) := by decide +kernel
theorem dX2_drawFrom_68 : decode cX2_drawFrom 68 = .ok (.getfield 9, 3) := by decide +kernel
theorem dX2_drawFrom_71 : decode cX2_drawFrom 71 = .ok (.invokevirtual 49, 3) := by decide +kernel
theorem dX2_drawFrom_74 : decode cX2_drawFrom 74 = .ok (.istore_n 3, 1) := by decide +kernel
theorem dX2_drawFrom_75 : decode cX2_drawFrom 75 = .ok (.iconst 0, 1) := by decide +kernel
theorem dX2_drawFrom_76 : decode cX2_drawFrom 76 = .ok (.istore 4, 2) := by decide +kernel
theorem dX2_drawFrom_78 : decode cX2_drawFrom 78 = .ok (.iload 4, 2) := by decide +kernel
theorem dX2_drawFrom_80 : decode cX2_drawFrom 80 = .ok (.aload_n 0, 1) := by decide +kernel
theorem dX2_drawFrom_81 : decode cX2_drawFrom 81 = .ok (.getfield 15, 3) := by decide +kernel
theorem dX2_drawFrom_84 : decode cX2_drawFrom 84 = .ok (.getfield 22, 3) := by decide +kernel
theorem dX2_drawFrom_87 : decode cX2_drawFrom 87 = .ok (.if_icmp .ge 31, 3) := by decide +kernel
theorem dX2_drawFrom_90 : decode cX2_drawFrom 90 = .ok (.aload_n 0, 1) := by decide +kernel
theorem dX2_drawFrom_91 : decode cX2_drawFrom 91 = .ok (.iload_n 3, 1) := by decide +kernel
theorem dX2_drawFrom_92 : decode cX2_drawFrom 92 = .ok (.bipush 6, 2) := by decide +kernel
theorem dX2_drawFrom_94 : decode cX2_drawFrom 94 = .ok (.idiv, 1) := by decide +kernel
theorem dX2_drawFrom_95 : decode cX2_drawFrom 95 = .ok (.iload_n 3, 1) := by decide +kernel
theorem dX2_drawFrom_96 : decode cX2_drawFrom 96 = .ok (.bipush 6, 2) := by decide +kernel
theorem dX2_drawFrom_98 : decode cX2_drawFrom 98 = .ok (.irem, 1) := by decide +kernel
theorem dX2_drawFrom_99 : decode cX2_drawFrom 99 = .ok (.aload_n 0, 1) := by decide +kernel
theorem dX2_drawFrom_100 : decode cX2_drawFrom 100 = .ok (.getfield 15, 3) := by decide +kernel
theorem dX2_drawFrom_103 : decode cX2_drawFrom 103 = .ok (.getfield 34, 3) := by decide +kernel
theorem dX2_drawFrom_106 : decode cX2_drawFrom 106 = .ok (.iload 4, 2) := by decide +kernel
theorem dX2_drawFrom_108 : decode cX2_drawFrom 108 = .ok (.aaload, 1) := by decide +kernel
theorem dX2_drawFrom_109 : decode cX2_drawFrom 109 = .ok (.invokevirtual 53, 3) := by decide +kernel
theorem dX2_drawFrom_112 : decode cX2_drawFrom 112 = .ok (.iinc 4 1, 3) := by decide +kernel
theorem dX2_drawFrom_115 : decode cX2_drawFrom 115 = .ok (.goto (-37), 3) := by decide +kernel
theorem dX2_drawFrom_118 : decode cX2_drawFrom 118 = .ok (.aload_n 0, 1) := by decide +kernel
theorem dX2_drawFrom_119 : decode cX2_drawFrom 119 = .ok (.getfield 9, 3) := by decide +kernel
theorem dX2_drawFrom_122 : decode cX2_drawFrom 122 = .ok (.getfield 46, 3) := by decide +kernel
theorem dX2_drawFrom_125 : decode cX2_drawFrom 125 = .ok (.ifCond .ne 7, 3) := by decide +kernel
theorem dX2_drawFrom_128 : decode cX2_drawFrom 128 = .ok (.aload_n 0, 1) := by decide +kernel
theorem dX2_drawFrom_129 : decode cX2_drawFrom 129 = .ok (.invokevirtual 42, 3) := by decide +kernel
theorem dX2_drawFrom_132 : decode cX2_drawFrom 132 = .ok (.iinc 2 1, 3) := by decide +kernel
theorem dX2_drawFrom_135 : decode cX2_drawFrom 135 = .ok (.goto (-84), 3) := by decide +kernel
theorem dX2_drawFrom_138 : decode cX2_drawFrom 138 = .ok (.return_, 1) := by decide +kernel
set_option maxRecDepth 20000 in
theorem ggX2_drawFromSubgroup_X2_close : GoodIn wsX2_drawFromSubgroup wsX2_close := goodIn_r _ [6, 7, 8, 9, 10, 11, 12, 13, 14, 15, 16, 17, 18, 19, 20, 21, 22, 23, 24, 25, 26, 27, 28, 29, 30, 31, 32, 33, 34, 35, 36, 37, 38, 39, 40, 41, 42, 43, 44, 45, 46, 47, 53, 54, 48, 49, 50, 55, 56, 57, 58, 59, 60, 61, 62, 63, 64, 65] (by decide +kernel) (by decide +kernel)
set_option maxRecDepth 20000 in
theorem gX2_drawFromSubgroup_X2_close : GoodIn wsX2_drawFromSubgroup (wsV RX2 38 RX2 yX2_close wsX2_close) := goodIn_app (goodIn_of _ (by decide +kernel)) ggX2_drawFromSubgroup_X2_close
theorem dX2_drawFromSubgroup_0 : decode cX2_drawFromSubgroup 0 = .ok (.iconst 0, 1) := by decide +kernel
theorem dX2_drawFromSubgroup_1 : decode cX2_drawFromSubgroup 1 = .ok (.istore_n 1, 1) := by decide +kernel
theorem dX2_drawFromSubgroup_2 : decode cX2_drawFromSubgroup 2 = .ok (.iload_n 1, 1) := by decide +kernel
theorem dX2_drawFromSubgroup_3 : decode cX2_drawFromSubgroup 3 = .ok (.aload_n 0, 1) := by decide +kernel
theorem dX2_drawFromSubgroup_4 : decode cX2_drawFromSubgroup 4 = .ok (.getfield 19, 3) := by decide +kernel
theorem dX2_drawFromSubgroup_7 : decode cX2_drawFromSubgroup 7 = .ok (.getfield 22, 3) := by decide +kernel
theorem dX2_drawFromSubgroup_10 : decode cX2_drawFromSubgroup 10 = .ok (.if_icmp .ge 24, 3) := by decide +kernel
theorem dX2_drawFromSubgroup_13 : decode cX2_drawFromSubgroup 13 = .ok (.aload_n 0, 1) := by decide +kernel
theorem dX2_drawFromSubgroup_14 : decode cX2_drawFromSubgroup 14 = .ok (.aload_n 0, 1) := by decide +kernel
theorem dX2_drawFromSubgroup_15 : decode cX2_drawFromSubgroup 15 = .ok (.getfield 19, 3) := by decide +kernel
theorem dX2_drawFromSubgroup_18 : decode cX2_drawFromSubgroup 18 = .ok (.getfield 34, 3) := by decide +kernel
theorem dX2_drawFromSubgroup_21 : decode cX2_drawFromSubgroup 21 = .ok (.iload_n 1, 1) := by decide +kernel
theorem dX2_drawFromSubgroup_22 : decode cX2_drawFromSubgroup 22 = .ok (.aaload, 1) := by decide +kernel
theorem dX2_drawFromSubgroup_23 : decode cX2_drawFromSubgroup 23 = .ok (.iconst 0, 1) := by decide +kernel
theorem dX2_drawFromSubgroup_24 : decode cX2_drawFromSubgroup 24 = .ok (.iconst 0, 1) := by decide +kernel
theorem dX2_drawFromSubgroup_25 : decode cX2_drawFromSubgroup 25 = .ok (.invokevirtual 38, 3) := by decide +kernel
theorem dX2_drawFromSubgroup_28 : decode cX2_drawFromSubgroup 28 = .ok (.iinc 1 1, 3) := by decide +kernel
theorem dX2_drawFromSubgroup_31 : decode cX2_drawFromSubgroup 31 = .ok (.goto (-29), 3) := by decide +kernel
theorem dX2_drawFromSubgroup_34 : decode cX2_drawFromSubgroup 34 = .ok (.return_, 1) := by decide +kernel
set_option maxRecDepth 20000 in
theorem ggX2_drawThrough_X1_at : GoodIn wsX2_drawThrough wsX1_at := goodIn_r _ [6, 7, 52, 53, 54, 55, 56, 57, 58, 59, 60, 61, 62] (by decide +kernel) (by decide +kernel)
set_option maxRecDepth 20000 in
theorem gX2_drawThrough_X1_at : GoodIn wsX2_drawThrough (wsV RX2 62 RX1 yX1_at wsX1_at) := goodIn_app (goodIn_of _ (by decide +kernel)) ggX2_drawThrough_X1_at
set_option maxRecDepth 20000 in
theorem ggX2_drawThrough_X2_close : GoodIn wsX2_drawThrough wsX2_close := goodIn_r _ [12, 1, 13, 14, 15, 16, 17, 18, 19, 2, 3, 4, 5, 6, 7, 20, 21, 22, 23, 24, 25, 26, 27, 28, 29, 30, 31, 32, 33, 34, 35, 36, 37, 38, 39, 40, 41, 42, 43, 44, 45, 46, 47, 48, 49, 50, 51, 52, 53, 54, 55, 56, 57, 58, 59, 60, 61, 62] (by decide +kernel) (by decide +kernel)
set_option maxRecDepth 20000 in
theorem gX2_drawThrough_X2_close : GoodIn wsX2_drawThrough (wsV RX2 38 RX2 yX2_close wsX2_close) := goodIn_app (goodIn_of _ (by decide +kernel)) ggX2_drawThrough_X2_close
theorem dX2_drawThrough_0 : decode cX2_drawThrough 0 = .ok (.iconst 0, 1) := by decide +kernel
theorem dX2_drawThrough_1 : decode cX2_drawThrough 1 = .ok (.istore 4, 2) := by decide +kernel
theorem dX2_drawThrough_3 : decode cX2_drawThrough 3 = .ok (.iload 4, 2) := by decide +kernel
theorem dX2_drawThrough_5 : decode cX2_drawThrough 5 = .ok (.aload_n 3, 1) := by decide +kernel
theorem dX2_drawThrough_6 : decode cX2_drawThrough 6 = .ok (.getfield 57, 3) := by decide +kernel
theorem dX2_drawThrough_9 : decode cX2_drawThrough 9 = .ok (.if_icmp .ge 71, 3) := by decide +kernel
theorem dX2_drawThrough_12 : decode cX2_drawThrough 12 = .ok (.aload_n 0, 1) := by decide +kernel
theorem dX2_drawThrough_13 : decode cX2_drawThrough 13 = .ok (.getfield 9, 3) := by decide +kernel
theorem dX2_drawThrough_16 : decode cX2_drawThrough 16 = .ok (.iload_n 1, 1) := by decide +kernel
theorem dX2_drawThrough_17 : decode cX2_drawThrough 17 = .ok (.iload_n 2, 1) := by decide +kernel
theorem dX2_drawThrough_18 : decode cX2_drawThrough 18 = .ok (.invokevirtual 62, 3) := by decide +kernel
theorem dX2_drawThrough_21 : decode cX2_drawThrough 21 = .ok (.istore 5, 2) := by decide +kernel
theorem dX2_drawThrough_23 : decode cX2_drawThrough 23 = .ok (.iload 5, 2) := by decide +kernel
theorem dX2_drawThrough_25 : decode cX2_drawThrough 25 = .ok (.iconst (-1), 1) := by decide +kernel
theorem dX2_drawThrough_26 : decode cX2_drawThrough 26 = .ok (.if_icmp .ne 4, 3) := by decide +kernel
theorem dX2_drawThrough_29 : decode cX2_drawThrough 29 = .ok (.return_, 1) := by decide +kernel
theorem dX2_drawThrough_30 : decode cX2_drawThrough 30 = .ok (.aload_n 3, 1) := by decide +kernel
theorem dX2_drawThrough_31 : decode cX2_drawThrough 31 = .ok (.getfield 66, 3) := by decide +kernel
theorem dX2_drawThrough_34 : decode cX2_drawThrough 34 = .ok (.iload 4, 2) := by decide +kernel
theorem dX2_drawThrough_36 : decode cX2_drawThrough 36 = .ok (.iaload, 1) := by decide +kernel
theorem dX2_drawThrough_37 : decode cX2_drawThrough 37 = .ok (.iload_n 2, 1) := by decide +kernel
theorem dX2_drawThrough_38 : decode cX2_drawThrough 38 = .ok (.if_icmp .ne 14, 3) := by decide +kernel
theorem dX2_drawThrough_41 : decode cX2_drawThrough 41 = .ok (.aload_n 0, 1) := by decide +kernel
theorem dX2_drawThrough_42 : decode cX2_drawThrough 42 = .ok (.aload_n 3, 1) := by decide +kernel
theorem dX2_drawThrough_43 : decode cX2_drawThrough 43 = .ok (.iload 4, 2) := by decide +kernel
theorem dX2_drawThrough_45 : decode cX2_drawThrough 45 = .ok (.iload_n 1, 1) := by decide +kernel
theorem dX2_drawThrough_46 : decode cX2_drawThrough 46 = .ok (.invokevirtual 38, 3) := by decide +kernel
theorem dX2_drawThrough_49 : decode cX2_drawThrough 49 = .ok (.goto 25, 3) := by decide +kernel
theorem dX2_drawThrough_52 : decode cX2_drawThrough 52 = .ok (.aload_n 3, 1) := by decide +kernel
theorem dX2_drawThrough_53 : decode cX2_drawThrough 53 = .ok (.getfield 66, 3) := by decide +kernel
theorem dX2_drawThrough_56 : decode cX2_drawThrough 56 = .ok (.iload 4, 2) := by decide +kernel
theorem dX2_drawThrough_58 : decode cX2_drawThrough 58 = .ok (.iaload, 1) := by decide +kernel
theorem dX2_drawThrough_59 : decode cX2_drawThrough 59 = .ok (.iload_n 2, 1) := by decide +kernel
theorem dX2_drawThrough_60 : decode cX2_drawThrough 60 = .ok (.iconst 1, 1) := by decide +kernel
theorem dX2_drawThrough_61 : decode cX2_drawThrough 61 = .ok (.ixor, 1) := by decide +kernel
theorem dX2_drawThrough_62 : decode cX2_drawThrough 62 = .ok (.if_icmp .ne 12, 3) := by decide +kernel
theorem dX2_drawThrough_65 : decode cX2_drawThrough 65 = .ok (.aload_n 0, 1) := by decide +kernel
theorem dX2_drawThrough_66 : decode cX2_drawThrough 66 = .ok (.aload_n 3, 1) := by decide +kernel
theorem dX2_drawThrough_67 : decode cX2_drawThrough 67 = .ok (.iload 4, 2) := by decide +kernel
theorem dX2_drawThrough_69 : decode cX2_drawThrough 69 = .ok (.iload 5, 2) := by decide +kernel
theorem dX2_drawThrough_71 : decode cX2_drawThrough 71 = .ok (.invokevirtual 38, 3) := by decide +kernel
theorem dX2_drawThrough_74 : decode cX2_drawThrough 74 = .ok (.iinc 4 1, 3) := by decide +kernel
theorem dX2_drawThrough_77 : decode cX2_drawThrough 77 = .ok (.goto (-74), 3) := by decide +kernel
theorem dX2_drawThrough_80 : decode cX2_drawThrough 80 = .ok (.return_, 1) := by decide +kernel
set_option maxRecDepth 20000 in
theorem ggX2_close_X3_around : GoodIn wsX2_close wsX3_around := goodIn_r _ [6, 7, 8, 42, 43] (by decide +kernel) (by decide +kernel)
set_option maxRecDepth 20000 in
theorem gX2_close_X3_around : GoodIn wsX2_close (wsV RX2 70 RX3 yX3_around wsX3_around) := goodIn_app (goodIn_of _ (by decide +kernel)) ggX2_close_X3_around
set_option maxRecDepth 20000 in
theorem ggX2_close_X1_at : GoodIn wsX2_close wsX1_at := goodIn_r _ [13, 14, 47, 48, 49, 50, 51, 52, 53, 54, 55, 56, 57] (by decide +kernel) (by decide +kernel)
set_option maxRecDepth 20000 in
theorem gX2_close_X1_at : GoodIn wsX2_close (wsV RX2 62 RX1 yX1_at wsX1_at) := goodIn_app (goodIn_of _ (by decide +kernel)) ggX2_close_X1_at
set_option maxRecDepth 20000 in
theorem ggX2_close_X1_unite : GoodIn wsX2_close wsX1_unite := goodIn_r _ [18, 19, 20, 21, 22, 23, 12, 24, 25, 26, 27, 28, 29, 30, 31, 32, 14, 33, 10, 11, 13, 34, 35, 36, 37, 38, 39, 40, 47, 48, 49, 50, 51, 52, 53, 54, 55, 56, 57] (by decide +kernel) (by decide +kernel)
set_option maxRecDepth 20000 in
theorem gX2_close_X1_unite : GoodIn wsX2_close (wsV RX2 74 RX1 yX1_unite wsX1_unite) := goodIn_app (goodIn_of _ (by decide +kernel)) ggX2_close_X1_unite
set_option maxRecDepth 20000 in
theorem ggX2_close_X1_join : GoodIn wsX2_close wsX1_join := goodIn_r _ [37, 14, 38, 39, 40, 47, 48, 49, 50, 51, 52, 53, 54, 55, 56, 57] (by decide +kernel) (by decide +kernel)
set_option maxRecDepth 20000 in
theorem gX2_close_X1_join : GoodIn wsX2_close (wsV RX2 78 RX1 yX1_join wsX1_join) := goodIn_app (goodIn_of _ (by decide +kernel)) ggX2_close_X1_join
theorem dX2_close_0 : decode cX2_close 0 = .ok (.iload_n 3, 1) := by decide +kernel
theorem dX2_close_1 : decode cX2_close 1 = .ok (.istore 4, 2) := by decide +kernel
theorem dX2_close_3 : decode cX2_close 3 = .ok (.iconst 0, 1) := by decide +kernel
theorem dX2_close_4 : decode cX2_close 4 = .ok (.istore 5, 2) := by decide +kernel
theorem dX2_close_6 : decode cX2_close 6 = .ok (.iload 5, 2) := by decide +kernel
theorem dX2_close_8 : decode cX2_close 8 = .ok (.aload_n 1, 1) := by decide +kernel
theorem dX2_close_9 : decode cX2_close 9 = .ok (.getfield 57, 3) := by decide +kernel
theorem dX2_close_12 : decode cX2_close 12 = .ok (.if_icmp .ge 49, 3) := by decide +kernel
theorem dX2_close_15 : decode cX2_close 15 = .ok (.aload_n 0, 1) := by decide +kernel
theorem dX2_close_16 : decode cX2_close 16 = .ok (.getfield 9, 3) := by decide +kernel
theorem dX2_close_19 : decode cX2_close 19 = .ok (.iload 4, 2) := by decide +kernel
theorem dX2_close_21 : decode cX2_close 21 = .ok (.aload_n 1, 1) := by decide +kernel
theorem dX2_close_22 : decode cX2_close 22 = .ok (.iload_n 2, 1) := by decide +kernel
theorem dX2_close_23 : decode cX2_close 23 = .ok (.iload 5, 2) := by decide +kernel
theorem dX2_close_25 : decode cX2_close 25 = .ok (.iadd, 1) := by decide +kernel
theorem dX2_close_26 : decode cX2_close 26 = .ok (.invokevirtual 70, 3) := by decide +kernel
theorem dX2_close_29 : decode cX2_close 29 = .ok (.invokevirtual 62, 3) := by decide +kernel
theorem dX2_close_32 : decode cX2_close 32 = .ok (.iconst (-1), 1) := by decide +kernel
theorem dX2_close_33 : decode cX2_close 33 = .ok (.if_icmp .eq 28, 3) := by decide +kernel
theorem dX2_close_36 : decode cX2_close 36 = .ok (.aload_n 0, 1) := by decide +kernel
theorem dX2_close_37 : decode cX2_close 37 = .ok (.getfield 9, 3) := by decide +kernel
theorem dX2_close_40 : decode cX2_close 40 = .ok (.iload 4, 2) := by decide +kernel
theorem dX2_close_42 : decode cX2_close 42 = .ok (.aload_n 1, 1) := by decide +kernel
theorem dX2_close_43 : decode cX2_close 43 = .ok (.iload_n 2, 1) := by decide +kernel
theorem dX2_close_44 : decode cX2_close 44 = .ok (.iload 5, 2) := by decide +kernel
theorem dX2_close_46 : decode cX2_close 46 = .ok (.iadd, 1) := by decide +kernel
theorem dX2_close_47 : decode cX2_close 47 = .ok (.invokevirtual 70, 3) := by decide +kernel
theorem dX2_close_50 : decode cX2_close 50 = .ok (.invokevirtual 62, 3) := by decide +kernel
theorem dX2_close_53 : decode cX2_close 53 = .ok (.istore 4, 2) := by decide +kernel
theorem dX2_close_55 : decode cX2_close 55 = .ok (.iinc 5 1, 3) := by decide +kernel
theorem dX2_close_58 : decode cX2_close 58 = .ok (.goto (-52), 3) := by decide +kernel
theorem dX2_close_61 : decode cX2_close 61 = .ok (.iload 5, 2) := by decide +kernel
theorem dX2_close_63 : decode cX2_close 63 = .ok (.aload_n 1, 1) := by decide +kernel
theorem dX2_close_64 : decode cX2_close 64 = .ok (.getfield 57, 3) := by decide +kernel
theorem dX2_close_67 : decode cX2_close 67 = .ok (.if_icmp .ne 14, 3) := by decide +kernel
theorem dX2_close_70 : decode cX2_close 70 = .ok (.aload_n 0, 1) := by decide +kernel
theorem dX2_close_71 : decode cX2_close 71 = .ok (.getfield 9, 3) := by decide +kernel
theorem dX2_close_74 : decode cX2_close 74 = .ok (.iload 4, 2) := by decide +kernel
theorem dX2_close_76 : decode cX2_close 76 = .ok (.iload_n 3, 1) := by decide +kernel
theorem dX2_close_77 : decode cX2_close 77 = .ok (.invokevirtual 74, 3) := by decide +kernel
theorem dX2_close_80 : decode cX2_close 80 = .ok (.return_, 1) := by decide +kernel
theorem dX2_close_81 : decode cX2_close 81 = .ok (.iload_n 3, 1) := by decide +kernel
theorem dX2_close_82 : decode cX2_close 82 = .ok (.istore 6, 2) := by decide +kernel
theorem dX2_close_84 : decode cX2_close 84 = .ok (.aload_n 1, 1) := by decide +kernel
theorem dX2_close_85 : decode cX2_close 85 = .ok (.getfield 57, 3) := by decide +kernel
theorem dX2_close_88 : decode cX2_close 88 = .ok (.iconst 1, 1) := by decide +kernel
theorem dX2_close_89 : decode cX2_close 89 = .ok (.isub, 1) := by decide +kernel
theorem dX2_close_90 : decode cX2_close 90 = .ok (.istore 7, 2) := by decide +kernel
theorem dX2_close_92 : decode cX2_close 92 = .ok (.iload 7, 2) := by decide +kernel
theorem dX2_close_94 : decode cX2_close 94 = .ok (.iload 5, 2) := by decide +kernel
theorem dX2_close_96 : decode cX2_close 96 = .ok (.if_icmp .le 37, 3) := by decide +kernel
theorem dX2_close_99 : decode cX2_close 99 = .ok (.aload_n 0, 1) := by decide +kernel
theorem dX2_close_100 : decode cX2_close 100 = .ok (.getfield 9, 3) := by decide +kernel
theorem dX2_close_103 : decode cX2_close 103 = .ok (.iload 6, 2) := by decide +kernel
theorem dX2_close_105 : decode cX2_close 105 = .ok (.aload_n 1, 1) := by decide +kernel
theorem dX2_close_106 : decode cX2_close 106 = .ok (.iload_n 2, 1) := by decide +kernel
theorem dX2_close_107 : decode cX2_close 107 = .ok (.iload 7, 2) := by decide +kernel
theorem dX2_close_109 : decode cX2_close 109 = .ok (.iadd, 1) := by decide +kernel
theorem dX2_close_110 : decode cX2_close 110 = .ok (.invokevirtual 70, 3) := by decide +kernel
theorem dX2_close_113 : decode cX2_close 113 = .ok (.iconst 1, 1) := by decide +kernel
theorem dX2_close_114 : decode cX2_close 114 = .ok (.ixor, 1) := by decide +kernel
theorem dX2_close_115 : decode cX2_close 115 = .ok (.invokevirtual 62, 3) := by decide +kernel
theorem dX2_close_118 : decode cX2_close 118 = .ok (.istore 6, 2) := by decide +kernel
theorem dX2_close_120 : decode cX2_close 120 = .ok (.iload 6, 2) := by decide +kernel
theorem dX2_close_122 : decode cX2_close 122 = .ok (.iconst (-1), 1) := by decide +kernel
theorem dX2_close_123 : decode cX2_close 123 = .ok (.if_icmp .ne 4, 3) := by decide +kernel
theorem dX2_close_126 : decode cX2_close 126 = .ok (.return_, 1) := by decide +kernel
theorem dX2_close_127 : decode cX2_close 127 = .ok (.iinc 7 (-1), 3) := by decide +kernel
theorem dX2_close_130 : decode cX2_close 130 = .ok (.goto (-38), 3) := by decide +kernel
theorem dX2_close_133 : decode cX2_close 133 = .ok (.aload_n 1, 1) := by decide +kernel
theorem dX2_close_134 : decode cX2_close 134 = .ok (.iload_n 2, 1) := by decide +kernel
theorem dX2_close_135 : decode cX2_close 135 = .ok (.iload 5, 2) := by decide +kernel
theorem dX2_close_137 : decode cX2_close 137 = .ok (.iadd, 1) := by decide +kernel
theorem dX2_close_138 : decode cX2_close 138 = .ok (.invokevirtual 70, 3) := by decide +kernel
theorem dX2_close_141 : decode cX2_close 141 = .ok (.istore 7, 2) := by decide +kernel
theorem dX2_close_143 : decode cX2_close 143 = .ok (.aload_n 0, 1) := by decide +kernel
theorem dX2_close_144 : decode cX2_close 144 = .ok (.getfield 9, 3) := by decide +kernel
theorem dX2_close_147 : decode cX2_close 147 = .ok (.iload 6, 2) := by decide +kernel
theorem dX2_close_149 : decode cX2_close 149 = .ok (.iload 7, 2) := by decide +kernel
theorem dX2_close_151 : decode cX2_close 151 = .ok (.iconst 1, 1) := by decide +kernel
theorem dX2_close_152 : decode cX2_close 152 = .ok (.ixor, 1) := by decide +kernel
theorem dX2_close_153 : decode cX2_close 153 = .ok (.invokevirtual 62, 3) := by decide +kernel
theorem dX2_close_156 : decode cX2_close 156 = .ok (.istore 8, 2) := by decide +kernel
theorem dX2_close_158 : decode cX2_close 158 = .ok (.iload 8, 2) := by decide +kernel
theorem dX2_close_160 : decode cX2_close 160 = .ok (.iconst (-1), 1) := by decide +kernel
theorem dX2_close_161 : decode cX2_close 161 = .ok (.if_icmp .ne 19, 3) := by decide +kernel
theorem dX2_close_164 : decode cX2_close 164 = .ok (.aload_n 0, 1) := by decide +kernel
theorem dX2_close_165 : decode cX2_close 165 = .ok (.getfield 9, 3) := by decide +kernel
theorem dX2_close_168 : decode cX2_close 168 = .ok (.iload 4, 2) := by decide +kernel
theorem dX2_close_170 : decode cX2_close 170 = .ok (.iload 7, 2) := by decide +kernel
theorem dX2_close_172 : decode cX2_close 172 = .ok (.iload 6, 2) := by decide +kernel
theorem dX2_close_174 : decode cX2_close 174 = .ok (.invokevirtual 78, 3) := by decide +kernel
theorem dX2_close_177 : decode cX2_close 177 = .ok (.goto 14, 3) := by decide +kernel
theorem dX2_close_180 : decode cX2_close 180 = .ok (.aload_n 0, 1) := by decide +kernel
theorem dX2_close_181 : decode cX2_close 181 = .ok (.getfield 9, 3) := by decide +kernel
theorem dX2_close_184 : decode cX2_close 184 = .ok (.iload 8, 2) := by decide +kernel
theorem dX2_close_186 : decode cX2_close 186 = .ok (.iload 4, 2) := by decide +kernel
theorem dX2_close_188 : decode cX2_close 188 = .ok (.invokevirtual 74, 3) := by decide +kernel
theorem dX2_close_191 : decode cX2_close 191 = .ok (.return_, 1) := by decide +kernel
theorem dX3_init_0 : decode cX3_init 0 = .ok (.aload_n 0, 1) := by decide +kernel
theorem dX3_init_1 : decode cX3_init 1 = .ok (.invokespecial 3, 3) := by decide +kernel
theorem dX3_init_4 : decode cX3_init 4 = .ok (.aload_n 0, 1) := by decide +kernel
theorem dX3_init_5 : decode cX3_init 5 = .ok (.bipush 24, 2) := by decide +kernel
theorem dX3_init_7 : decode cX3_init 7 = .ok (.newarray .int, 2) := by decide +kernel
theorem dX3_init_9 : decode cX3_init 9 = .ok (.putfield 9, 3) := by decide +kernel
theorem dX3_init_12 : decode cX3_init 12 = .ok (.return_, 1) := by decide +kernel
theorem dX3_append_0 : decode cX3_append 0 = .ok (.aload_n 0, 1) := by decide +kernel
theorem dX3_append_1 : decode cX3_append 1 = .ok (.getfield 9, 3) := by decide +kernel
theorem dX3_append_4 : decode cX3_append 4 = .ok (.aload_n 0, 1) := by decide +kernel
theorem dX3_append_5 : decode cX3_append 5 = .ok (.getfield 15, 3) := by decide +kernel
theorem dX3_append_8 : decode cX3_append 8 = .ok (.iload_n 1, 1) := by decide +kernel
theorem dX3_append_9 : decode cX3_append 9 = .ok (.iastore, 1) := by decide +kernel
theorem dX3_append_10 : decode cX3_append 10 = .ok (.aload_n 0, 1) := by decide +kernel
theorem dX3_append_11 : decode cX3_append 11 = .ok (.dup, 1) := by decide +kernel
theorem dX3_append_12 : decode cX3_append 12 = .ok (.getfield 15, 3) := by decide +kernel
theorem dX3_append_15 : decode cX3_append 15 = .ok (.iconst 1, 1) := by decide +kernel
theorem dX3_append_16 : decode cX3_append 16 = .ok (.iadd, 1) := by decide +kernel
theorem dX3_append_17 : decode cX3_append 17 = .ok (.putfield 15, 3) := by decide +kernel
theorem dX3_append_20 : decode cX3_append 20 = .ok (.return_, 1) := by decide +kernel
theorem dX3_copyFrom_0 : decode cX3_copyFrom 0 = .ok (.aload_n 1, 1) := by decide +kernel
theorem dX3_copyFrom_1 : decode cX3_copyFrom 1 = .ok (.getfield 9, 3) := by decide +kernel
theorem dX3_copyFrom_4 : decode cX3_copyFrom 4 = .ok (.iconst 0, 1) := by decide +kernel
theorem dX3_copyFrom_5 : decode cX3_copyFrom 5 = .ok (.aload_n 0, 1) := by decide +kernel
theorem dX3_copyFrom_6 : decode cX3_copyFrom 6 = .ok (.getfield 9, 3) := by decide +kernel
theorem dX3_copyFrom_9 : decode cX3_copyFrom 9 = .ok (.iconst 0, 1) := by decide +kernel
theorem dX3_copyFrom_10 : decode cX3_copyFrom 10 = .ok (.aload_n 1, 1) := by decide +kernel
theorem dX3_copyFrom_11 : decode cX3_copyFrom 11 = .ok (.getfield 15, 3) := by decide +kernel
theorem dX3_copyFrom_14 : decode cX3_copyFrom 14 = .ok (.invokestatic 19, 3) := by decide +kernel
theorem dX3_copyFrom_17 : decode cX3_copyFrom 17 = .ok (.aload_n 0, 1) := by decide +kernel
theorem dX3_copyFrom_18 : decode cX3_copyFrom 18 = .ok (.aload_n 1, 1) := by decide +kernel
theorem dX3_copyFrom_19 : decode cX3_copyFrom 19 = .ok (.getfield 15, 3) := by decide +kernel
theorem dX3_copyFrom_22 : decode cX3_copyFrom 22 = .ok (.putfield 15, 3) := by decide +kernel
theorem dX3_copyFrom_25 : decode cX3_copyFrom 25 = .ok (.return_, 1) := by decide +kernel
theorem dX3_around_0 : decode cX3_around 0 = .ok (.aload_n 0, 1) := by decide +kernel
theorem dX3_around_1 : decode cX3_around 1 = .ok (.getfield 9, 3) := by decide +kernel
theorem dX3_around_4 : decode cX3_around 4 = .ok (.iload_n 1, 1) := by decide +kernel
theorem dX3_around_5 : decode cX3_around 5 = .ok (.aload_n 0, 1) := by decide +kernel
theorem dX3_around_6 : decode cX3_around 6 = .ok (.getfield 15, 3) := by decide +kernel
theorem dX3_around_9 : decode cX3_around 9 = .ok (.if_icmp .ge 7, 3) := by decide +kernel
theorem dX3_around_12 : decode cX3_around 12 = .ok (.iload_n 1, 1) := by decide +kernel
theorem dX3_around_13 : decode cX3_around 13 = .ok (.goto 9, 3) := by decide +kernel
theorem dX3_around_16 : decode cX3_around 16 = .ok (.iload_n 1, 1) := by decide +kernel
theorem dX3_around_17 : decode cX3_around 17 = .ok (.aload_n 0, 1) := by decide +kernel
theorem dX3_around_18 : decode cX3_around 18 = .ok (.getfield 15, 3) := by decide +kernel
theorem dX3_around_21 : decode cX3_around 21 = .ok (.isub, 1) := by decide +kernel
theorem dX3_around_22 : decode cX3_around 22 = .ok (.iaload, 1) := by decide +kernel
theorem dX3_around_23 : decode cX3_around 23 = .ok (.ireturn, 1) := by decide +kernel
set_option maxRecDepth 20000 in
theorem ggX4_init_X3_init : GoodIn wsX4_init wsX3_init := goodIn_r _ [9, 10, 2, 3, 11, 12, 15, 16] (by decide +kernel) (by decide +kernel)
set_option maxRecDepth 20000 in
theorem gX4_init_X3_init_n15 : GoodIn wsX4_init (wsX3_init) := ggX4_init_X3_init
theorem dX4_init_0 : decode cX4_init 0 = .ok (.aload_n 0, 1) := by decide +kernel
theorem dX4_init_1 : decode cX4_init 1 = .ok (.invokespecial 1, 3) := by decide +kernel
theorem dX4_init_4 : decode cX4_init 4 = .ok (.aload_n 0, 1) := by decide +kernel
theorem dX4_init_5 : decode cX4_init 5 = .ok (.iload_n 1, 1) := by decide +kernel
theorem dX4_init_6 : decode cX4_init 6 = .ok (.anewarray 7, 3) := by decide +kernel
theorem dX4_init_9 : decode cX4_init 9 = .ok (.putfield 9, 3) := by decide +kernel
theorem dX4_init_12 : decode cX4_init 12 = .ok (.iconst 0, 1) := by decide +kernel
theorem dX4_init_13 : decode cX4_init 13 = .ok (.istore_n 2, 1) := by decide +kernel
theorem dX4_init_14 : decode cX4_init 14 = .ok (.iload_n 2, 1) := by decide +kernel
theorem dX4_init_15 : decode cX4_init 15 = .ok (.iload_n 1, 1) := by decide +kernel
theorem dX4_init_16 : decode cX4_init 16 = .ok (.if_icmp .ge 22, 3) := by decide +kernel
theorem dX4_init_19 : decode cX4_init 19 = .ok (.aload_n 0, 1) := by decide +kernel
theorem dX4_init_20 : decode cX4_init 20 = .ok (.getfield 9, 3) := by decide +kernel
theorem dX4_init_23 : decode cX4_init 23 = .ok (.iload_n 2, 1) := by decide +kernel
theorem dX4_init_24 : decode cX4_init 24 = .ok (.new 7, 3) := by decide +kernel
theorem dX4_init_27 : decode cX4_init 27 = .ok (.dup, 1) := by decide +kernel
theorem dX4_init_28 : decode cX4_init 28 = .ok (.invokespecial 15, 3) := by decide +kernel
theorem dX4_init_31 : decode cX4_init 31 = .ok (.aastore, 1) := by decide +kernel
theorem dX4_init_32 : decode cX4_init 32 = .ok (.iinc 2 1, 3) := by decide +kernel
theorem dX4_init_35 : decode cX4_init 35 = .ok (.goto (-21), 3) := by decide +kernel
theorem dX4_init_38 : decode cX4_init 38 = .ok (.return_, 1) := by decide +kernel
theorem dX4_isFull_0 : decode cX4_isFull 0 = .ok (.aload_n 0, 1) := by decide +kernel
theorem dX4_isFull_1 : decode cX4_isFull 1 = .ok (.getfield 16, 3) := by decide +kernel
theorem dX4_isFull_4 : decode cX4_isFull 4 = .ok (.aload_n 0, 1) := by decide +kernel
theorem dX4_isFull_5 : decode cX4_isFull 5 = .ok (.getfield 9, 3) := by decide +kernel
theorem dX4_isFull_8 : decode cX4_isFull 8 = .ok (.arraylength, 1) := by decide +kernel
theorem dX4_isFull_9 : decode cX4_isFull 9 = .ok (.if_icmp .ne 7, 3) := by decide +kernel
theorem dX4_isFull_12 : decode cX4_isFull 12 = .ok (.iconst 1, 1) := by decide +kernel
theorem dX4_isFull_13 : decode cX4_isFull 13 = .ok (.goto 4, 3) := by decide +kernel
theorem dX4_isFull_16 : decode cX4_isFull 16 = .ok (.iconst 0, 1) := by decide +kernel
theorem dX4_isFull_17 : decode cX4_isFull 17 = .ok (.ireturn, 1) := by decide +kernel
set_option maxRecDepth 20000 in
theorem ggX4_add_X3_copyFrom : GoodIn wsX4_add wsX3_copyFrom := goodIn_r _ [7, 8, 9, 10, 11, 12, 13, 16, 17] (by decide +kernel) (by decide +kernel)
set_option maxRecDepth 20000 in
theorem gX4_add_X3_copyFrom : GoodIn wsX4_add (wsV RX4 20 RX3 yX3_copyFrom wsX3_copyFrom) := goodIn_app (goodIn_of _ (by decide +kernel)) ggX4_add_X3_copyFrom
theorem dX4_add_0 : decode cX4_add 0 = .ok (.aload_n 0, 1) := by decide +kernel
theorem dX4_add_1 : decode cX4_add 1 = .ok (.getfield 9, 3) := by decide +kernel
theorem dX4_add_4 : decode cX4_add 4 = .ok (.aload_n 0, 1) := by decide +kernel
theorem dX4_add_5 : decode cX4_add 5 = .ok (.getfield 16, 3) := by decide +kernel
theorem dX4_add_8 : decode cX4_add 8 = .ok (.aaload, 1) := by decide +kernel
theorem dX4_add_9 : decode cX4_add 9 = .ok (.aload_n 1, 1) := by decide +kernel
theorem dX4_add_10 : decode cX4_add 10 = .ok (.invokevirtual 20, 3) := by decide +kernel
theorem dX4_add_13 : decode cX4_add 13 = .ok (.aload_n 0, 1) := by decide +kernel
theorem dX4_add_14 : decode cX4_add 14 = .ok (.dup, 1) := by decide +kernel
theorem dX4_add_15 : decode cX4_add 15 = .ok (.getfield 16, 3) := by decide +kernel
theorem dX4_add_18 : decode cX4_add 18 = .ok (.iconst 1, 1) := by decide +kernel
theorem dX4_add_19 : decode cX4_add 19 = .ok (.iadd, 1) := by decide +kernel
theorem dX4_add_20 : decode cX4_add 20 = .ok (.putfield 16, 3) := by decide +kernel
theorem dX4_add_23 : decode cX4_add 23 = .ok (.return_, 1) := by decide +kernel
set_option maxRecDepth 20000 in
theorem ggX5_init_X3_init : GoodIn wsX5_init wsX3_init := goodIn_r _ [27, 28, 2, 3, 29, 30, 80, 81] (by decide +kernel) (by decide +kernel)
set_option maxRecDepth 20000 in
theorem gX5_init_X3_init_n11 : GoodIn wsX5_init (wsX3_init) := ggX5_init_X3_init
set_option maxRecDepth 20000 in
theorem ggX5_init_X4_init : GoodIn wsX5_init wsX4_init := goodIn_r _ [33, 34, 2, 3, 35, 36, 5, 6, 26, 27, 28, 29, 30, 89, 90, 80, 81] (by decide +kernel) (by decide +kernel)
set_option maxRecDepth 20000 in
theorem gX5_init_X4_init : GoodIn wsX5_init (wsX4_init) := ggX5_init_X4_init
set_option maxRecDepth 20000 in
theorem ggX5_init_X1_init : GoodIn wsX5_init wsX1_init := goodIn_r _ [38, 39, 2, 3, 29, 40, 41, 42, 43, 44, 45, 91, 92, 93, 94, 95, 96, 97, 98, 99, 100, 101] (by decide +kernel) (by decide +kernel)
set_option maxRecDepth 20000 in
theorem gX5_init_X1_init_n30 : GoodIn wsX5_init (wsX1_init) := ggX5_init_X1_init
set_option maxRecDepth 20000 in
theorem ggX5_init_X2_init : GoodIn wsX5_init wsX2_init := goodIn_r _ [48, 49, 2, 3, 50, 51, 52, 102, 103, 104] (by decide +kernel) (by decide +kernel)
set_option maxRecDepth 20000 in
theorem gX5_init_X2_init : GoodIn wsX5_init (wsX2_init) := ggX5_init_X2_init
set_option maxRecDepth 20000 in
theorem ggX5_init_X0_init : GoodIn wsX5_init wsX0_init := goodIn_r _ [55, 56, 2, 3, 29, 57, 58, 44, 59, 60, 61, 62, 105, 106, 107, 108, 109, 110, 111] (by decide +kernel) (by decide +kernel)
set_option maxRecDepth 20000 in
theorem gX5_init_X0_init : GoodIn wsX5_init (wsX0_init) := ggX5_init_X0_init
set_option maxRecDepth 20000 in
theorem ggX5_init_X5_startTable : GoodIn wsX5_init wsX5_startTable := goodIn_r _ [67, 16, 25, 24, 68, 69, 70, 15, 71, 72, 73, 74, 75, 76, 77, 78, 79, 40, 41, 82, 83, 84, 85, 86, 87, 88, 105, 106, 107, 108, 109, 110, 111, 91, 92, 93, 94, 95, 96, 97, 98, 99, 100, 101] (by decide +kernel) (by decide +kernel)
set_option maxRecDepth 20000 in
theorem gX5_init_X5_startTable : GoodIn wsX5_init (wsV RX5 57 RX5 yX5_startTable wsX5_startTable) := goodIn_app (goodIn_of _ (by decide +kernel)) ggX5_init_X5_startTable
theorem dX5_init_0 : decode cX5_init 0 = .ok (.aload_n 0, 1) := by decide +kernel
theorem dX5_init_1 : decode cX5_init 1 = .ok (.invokespecial 3, 3) := by decide +kernel
theorem dX5_init_4 : decode cX5_init 4 = .ok (.aload_n 0, 1) := by decide +kernel
theorem dX5_init_5 : decode cX5_init 5 = .ok (.new 9, 3) := by decide +kernel
theorem dX5_init_8 : decode cX5_init 8 = .ok (.dup, 1) := by decide +kernel
theorem dX5_init_9 : decode cX5_init 9 = .ok (.invokespecial 11, 3) := by decide +kernel
theorem dX5_init_12 : decode cX5_init 12 = .ok (.putfield 12, 3) := by decide +kernel
theorem dX5_init_15 : decode cX5_init 15 = .ok (.aload_n 0, 1) := by decide +kernel
theorem dX5_init_16 : decode cX5_init 16 = .ok (.new 16, 3) := by decide +kernel
theorem dX5_init_19 : decode cX5_init 19 = .ok (.dup, 1) := by decide +kernel
theorem dX5_init_20 : decode cX5_init 20 = .ok (.bipush 10, 2) := by decide +kernel
theorem dX5_init_22 : decode cX5_init 22 = .ok (.invokespecial 18, 3) := by decide +kernel
theorem dX5_init_25 : decode cX5_init 25 = .ok (.putfield 21, 3) := by decide +kernel
theorem dX5_init_28 : decode cX5_init 28 = .ok (.aload_n 0, 1) := by decide +kernel
theorem dX5_init_29 : decode cX5_init 29 = .ok (.new 16, 3) := by decide +kernel
theorem dX5_init_32 : decode cX5_init 32 = .ok (.dup, 1) := by decide +kernel
theorem dX5_init_33 : decode cX5_init 33 = .ok (.iconst 5, 1) := by decide +kernel
theorem dX5_init_34 : decode cX5_init 34 = .ok (.invokespecial 18, 3) := by decide +kernel
theorem dX5_init_37 : decode cX5_init 37 = .ok (.putfield 25, 3) := by decide +kernel
theorem dX5_init_40 : decode cX5_init 40 = .ok (.aload_n 0, 1) := by decide +kernel
theorem dX5_init_41 : decode cX5_init 41 = .ok (.new 28, 3) := by decide +kernel
theorem dX5_init_44 : decode cX5_init 44 = .ok (.dup, 1) := by decide +kernel
theorem dX5_init_45 : decode cX5_init 45 = .ok (.invokespecial 30, 3) := by decide +kernel
theorem dX5_init_48 : decode cX5_init 48 = .ok (.putfield 31, 3) := by decide +kernel
theorem dX5_init_51 : decode cX5_init 51 = .ok (.aload_n 0, 1) := by decide +kernel
theorem dX5_init_52 : decode cX5_init 52 = .ok (.new 35, 3) := by decide +kernel
theorem dX5_init_55 : decode cX5_init 55 = .ok (.dup, 1) := by decide +kernel
theorem dX5_init_56 : decode cX5_init 56 = .ok (.aload_n 0, 1) := by decide +kernel
theorem dX5_init_57 : decode cX5_init 57 = .ok (.getfield 31, 3) := by decide +kernel
theorem dX5_init_60 : decode cX5_init 60 = .ok (.aload_n 0, 1) := by decide +kernel
theorem dX5_init_61 : decode cX5_init 61 = .ok (.getfield 21, 3) := by decide +kernel
theorem dX5_init_64 : decode cX5_init 64 = .ok (.aload_n 0, 1) := by decide +kernel
theorem dX5_init_65 : decode cX5_init 65 = .ok (.getfield 25, 3) := by decide +kernel
theorem dX5_init_68 : decode cX5_init 68 = .ok (.invokespecial 37, 3) := by decide +kernel
theorem dX5_init_71 : decode cX5_init 71 = .ok (.putfield 40, 3) := by decide +kernel
theorem dX5_init_74 : decode cX5_init 74 = .ok (.aload_n 0, 1) := by decide +kernel
theorem dX5_init_75 : decode cX5_init 75 = .ok (.new 44, 3) := by decide +kernel
theorem dX5_init_78 : decode cX5_init 78 = .ok (.dup, 1) := by decide +kernel
theorem dX5_init_79 : decode cX5_init 79 = .ok (.aload_n 0, 1) := by decide +kernel
theorem dX5_init_80 : decode cX5_init 80 = .ok (.getfield 31, 3) := by decide +kernel
theorem dX5_init_83 : decode cX5_init 83 = .ok (.aload_n 0, 1) := by decide +kernel
theorem dX5_init_84 : decode cX5_init 84 = .ok (.getfield 25, 3) := by decide +kernel
theorem dX5_init_87 : decode cX5_init 87 = .ok (.invokespecial 46, 3) := by decide +kernel
theorem dX5_init_90 : decode cX5_init 90 = .ok (.putfield 49, 3) := by decide +kernel
theorem dX5_init_93 : decode cX5_init 93 = .ok (.aload_n 0, 1) := by decide +kernel
theorem dX5_init_94 : decode cX5_init 94 = .ok (.iconst 1, 1) := by decide +kernel
theorem dX5_init_95 : decode cX5_init 95 = .ok (.putfield 53, 3) := by decide +kernel
theorem dX5_init_98 : decode cX5_init 98 = .ok (.aload_n 0, 1) := by decide +kernel
theorem dX5_init_99 : decode cX5_init 99 = .ok (.invokevirtual 57, 3) := by decide +kernel
theorem dX5_init_102 : decode cX5_init 102 = .ok (.return_, 1) := by decide +kernel
set_option maxRecDepth 20000 in
theorem ggX5_begin_X5_startTable : GoodIn wsX5_begin wsX5_startTable := goodIn_r _ [9, 10, 1, 11, 12, 13, 14, 15, 16, 17, 18, 19, 20, 21, 22, 23, 24, 25, 26, 27, 28, 29, 30, 31, 32, 33, 38, 39, 40, 41, 42, 43, 44, 45, 46, 47, 48, 49, 50, 51, 52, 53, 54, 55] (by decide +kernel) (by decide +kernel)
set_option maxRecDepth 20000 in
theorem gX5_begin_X5_startTable : GoodIn wsX5_begin (wsV RX5 57 RX5 yX5_startTable wsX5_startTable) := goodIn_app (goodIn_of _ (by decide +kernel)) ggX5_begin_X5_startTable
theorem dX5_begin_0 : decode cX5_begin 0 = .ok (.iload_n 1, 1) := by decide +kernel
theorem dX5_begin_1 : decode cX5_begin 1 = .ok (.iconst 1, 1) := by decide +kernel
theorem dX5_begin_2 : decode cX5_begin 2 = .ok (.if_icmp .lt 8, 3) := by decide +kernel
theorem dX5_begin_5 : decode cX5_begin 5 = .ok (.iload_n 1, 1) := by decide +kernel
theorem dX5_begin_6 : decode cX5_begin 6 = .ok (.iconst 3, 1) := by decide +kernel
theorem dX5_begin_7 : decode cX5_begin 7 = .ok (.if_icmp .le 5, 3) := by decide +kernel
theorem dX5_begin_10 : decode cX5_begin 10 = .ok (.iconst (-1), 1) := by decide +kernel
theorem dX5_begin_11 : decode cX5_begin 11 = .ok (.ireturn, 1) := by decide +kernel
theorem dX5_begin_12 : decode cX5_begin 12 = .ok (.aload_n 0, 1) := by decide +kernel
theorem dX5_begin_13 : decode cX5_begin 13 = .ok (.iload_n 1, 1) := by decide +kernel
theorem dX5_begin_14 : decode cX5_begin 14 = .ok (.putfield 53, 3) := by decide +kernel
end
section
theorem dX5_begin_17 : decode cX5_begin 17 = .ok (.aload_n 0, 1) := by decide +kernel
theorem dX5_begin_18 : decode cX5_begin 18 = .ok (.getfield 21, 3) := by decide +kernel
theorem dX5_begin_21 : decode cX5_begin 21 = .ok (.iconst 0, 1) := by decide +kernel
theorem dX5_begin_22 : decode cX5_begin 22 = .ok (.putfield 60, 3) := by decide +kernel
theorem dX5_begin_25 : decode cX5_begin 25 = .ok (.aload_n 0, 1) := by decide +kernel
theorem dX5_begin_26 : decode cX5_begin 26 = .ok (.getfield 25, 3) := by decide +kernel
theorem dX5_begin_29 : decode cX5_begin 29 = .ok (.iconst 0, 1) := by decide +kernel
theorem dX5_begin_30 : decode cX5_begin 30 = .ok (.putfield 60, 3) := by decide +kernel
theorem dX5_begin_33 : decode cX5_begin 33 = .ok (.aload_n 0, 1) := by decide +kernel
theorem dX5_begin_34 : decode cX5_begin 34 = .ok (.getfield 12, 3) := by decide +kernel
theorem dX5_begin_37 : decode cX5_begin 37 = .ok (.iconst 0, 1) := by decide +kernel
theorem dX5_begin_38 : decode cX5_begin 38 = .ok (.putfield 63, 3) := by decide +kernel
theorem dX5_begin_41 : decode cX5_begin 41 = .ok (.aload_n 0, 1) := by decide +kernel
theorem dX5_begin_42 : decode cX5_begin 42 = .ok (.invokevirtual 57, 3) := by decide +kernel
theorem dX5_begin_45 : decode cX5_begin 45 = .ok (.iconst 0, 1) := by decide +kernel
theorem dX5_begin_46 : decode cX5_begin 46 = .ok (.ireturn, 1) := by decide +kernel
set_option maxRecDepth 20000 in
theorem ggX5_letter_X5_isLetter : GoodIn wsX5_letter wsX5_isLetter := goodIn_r _ [6, 7, 18, 19, 20, 21, 22, 23, 24] (by decide +kernel) (by decide +kernel)
set_option maxRecDepth 20000 in
theorem gX5_letter_X5_isLetter : GoodIn wsX5_letter (wsV RX5 66 RX5 yX5_isLetter wsX5_isLetter) := goodIn_app (goodIn_of _ (by decide +kernel)) ggX5_letter_X5_isLetter
set_option maxRecDepth 20000 in
theorem ggX5_letter_X5_columnOf : GoodIn wsX5_letter wsX5_columnOf := goodIn_r _ [10] (by decide +kernel) (by decide +kernel)
set_option maxRecDepth 20000 in
theorem gX5_letter_X5_columnOf : GoodIn wsX5_letter (va_wsS RX5 70 yX5_columnOf wsX5_columnOf) := goodIn_app (goodIn_of _ (by decide +kernel)) ggX5_letter_X5_columnOf
set_option maxRecDepth 20000 in
theorem ggX5_letter_X3_append : GoodIn wsX5_letter wsX3_append := goodIn_r _ [15, 16, 17, 25, 26] (by decide +kernel) (by decide +kernel)
set_option maxRecDepth 20000 in
theorem gX5_letter_X3_append : GoodIn wsX5_letter (wsV RX5 74 RX3 yX3_append wsX3_append) := goodIn_app (goodIn_of _ (by decide +kernel)) ggX5_letter_X3_append
theorem dX5_letter_0 : decode cX5_letter 0 = .ok (.aload_n 0, 1) := by decide +kernel
theorem dX5_letter_1 : decode cX5_letter 1 = .ok (.iload_n 1, 1) := by decide +kernel
theorem dX5_letter_2 : decode cX5_letter 2 = .ok (.invokevirtual 66, 3) := by decide +kernel
theorem dX5_letter_5 : decode cX5_letter 5 = .ok (.ifCond .eq 15, 3) := by decide +kernel
theorem dX5_letter_8 : decode cX5_letter 8 = .ok (.aload_n 0, 1) := by decide +kernel
theorem dX5_letter_9 : decode cX5_letter 9 = .ok (.getfield 12, 3) := by decide +kernel
theorem dX5_letter_12 : decode cX5_letter 12 = .ok (.getfield 63, 3) := by decide +kernel
theorem dX5_letter_15 : decode cX5_letter 15 = .ok (.bipush 24, 2) := by decide +kernel
theorem dX5_letter_17 : decode cX5_letter 17 = .ok (.if_icmp .ne 5, 3) := by decide +kernel
theorem dX5_letter_20 : decode cX5_letter 20 = .ok (.iconst (-1), 1) := by decide +kernel
theorem dX5_letter_21 : decode cX5_letter 21 = .ok (.ireturn, 1) := by decide +kernel
theorem dX5_letter_22 : decode cX5_letter 22 = .ok (.aload_n 0, 1) := by decide +kernel
theorem dX5_letter_23 : decode cX5_letter 23 = .ok (.getfield 12, 3) := by decide +kernel
theorem dX5_letter_26 : decode cX5_letter 26 = .ok (.iload_n 1, 1) := by decide +kernel
theorem dX5_letter_27 : decode cX5_letter 27 = .ok (.invokestatic 70, 3) := by decide +kernel
theorem dX5_letter_30 : decode cX5_letter 30 = .ok (.invokevirtual 74, 3) := by decide +kernel
theorem dX5_letter_33 : decode cX5_letter 33 = .ok (.aload_n 0, 1) := by decide +kernel
theorem dX5_letter_34 : decode cX5_letter 34 = .ok (.getfield 12, 3) := by decide +kernel
theorem dX5_letter_37 : decode cX5_letter 37 = .ok (.getfield 63, 3) := by decide +kernel
theorem dX5_letter_40 : decode cX5_letter 40 = .ok (.ireturn, 1) := by decide +kernel
theorem dX5_clear_0 : decode cX5_clear 0 = .ok (.aload_n 0, 1) := by decide +kernel
theorem dX5_clear_1 : decode cX5_clear 1 = .ok (.getfield 12, 3) := by decide +kernel
theorem dX5_clear_4 : decode cX5_clear 4 = .ok (.getfield 63, 3) := by decide +kernel
theorem dX5_clear_7 : decode cX5_clear 7 = .ok (.istore_n 1, 1) := by decide +kernel
theorem dX5_clear_8 : decode cX5_clear 8 = .ok (.aload_n 0, 1) := by decide +kernel
theorem dX5_clear_9 : decode cX5_clear 9 = .ok (.getfield 12, 3) := by decide +kernel
theorem dX5_clear_12 : decode cX5_clear 12 = .ok (.iconst 0, 1) := by decide +kernel
theorem dX5_clear_13 : decode cX5_clear 13 = .ok (.putfield 63, 3) := by decide +kernel
theorem dX5_clear_16 : decode cX5_clear 16 = .ok (.iload_n 1, 1) := by decide +kernel
theorem dX5_clear_17 : decode cX5_clear 17 = .ok (.ireturn, 1) := by decide +kernel
set_option maxRecDepth 20000 in
theorem ggX5_relator_X5_giveHandTo : GoodIn wsX5_relator wsX5_giveHandTo := goodIn_r _ [6, 7, 8, 9, 10, 11, 12, 13, 14, 15, 16, 17, 18, 19, 20, 21, 22, 23, 24, 25, 26, 27, 28, 29, 30, 31, 32, 5, 33, 34, 35, 36, 37, 38, 39, 40, 41, 42, 43, 44, 45, 46, 47, 48, 49, 50, 51, 52, 53, 54, 55, 56, 57, 58, 59, 60, 61, 62, 63, 64, 65, 66, 67, 68, 69, 70, 71, 72, 73, 74, 75, 76, 77, 78, 79, 80] (by decide +kernel) (by decide +kernel)
set_option maxRecDepth 20000 in
theorem gX5_relator_X5_giveHandTo : GoodIn wsX5_relator (wsV RX5 77 RX5 yX5_giveHandTo wsX5_giveHandTo) := goodIn_app (goodIn_of _ (by decide +kernel)) ggX5_relator_X5_giveHandTo
theorem dX5_relator_0 : decode cX5_relator 0 = .ok (.aload_n 0, 1) := by decide +kernel
theorem dX5_relator_1 : decode cX5_relator 1 = .ok (.aload_n 0, 1) := by decide +kernel
theorem dX5_relator_2 : decode cX5_relator 2 = .ok (.getfield 21, 3) := by decide +kernel
theorem dX5_relator_5 : decode cX5_relator 5 = .ok (.invokevirtual 77, 3) := by decide +kernel
theorem dX5_relator_8 : decode cX5_relator 8 = .ok (.ireturn, 1) := by decide +kernel
set_option maxRecDepth 20000 in
theorem ggX5_subgroup_X5_giveHandTo : GoodIn wsX5_subgroup wsX5_giveHandTo := goodIn_r _ [6, 7, 8, 9, 10, 11, 12, 13, 14, 15, 16, 17, 18, 19, 20, 21, 22, 23, 24, 25, 26, 27, 28, 29, 30, 31, 32, 5, 33, 34, 35, 36, 37, 38, 39, 40, 41, 42, 43, 44, 45, 46, 47, 48, 49, 50, 51, 52, 53, 54, 55, 56, 57, 58, 59, 60, 61, 62, 63, 64, 65, 66, 67, 68, 69, 70, 71, 72, 73, 74, 75, 76, 77, 78, 79, 80] (by decide +kernel) (by decide +kernel)
set_option maxRecDepth 20000 in
theorem gX5_subgroup_X5_giveHandTo : GoodIn wsX5_subgroup (wsV RX5 77 RX5 yX5_giveHandTo wsX5_giveHandTo) := goodIn_app (goodIn_of _ (by decide +kernel)) ggX5_subgroup_X5_giveHandTo
theorem dX5_subgroup_0 : decode cX5_subgroup 0 = .ok (.aload_n 0, 1) := by decide +kernel
theorem dX5_subgroup_1 : decode cX5_subgroup 1 = .ok (.aload_n 0, 1) := by decide +kernel
theorem dX5_subgroup_2 : decode cX5_subgroup 2 = .ok (.getfield 25, 3) := by decide +kernel
theorem dX5_subgroup_5 : decode cX5_subgroup 5 = .ok (.invokevirtual 77, 3) := by decide +kernel
theorem dX5_subgroup_8 : decode cX5_subgroup 8 = .ok (.ireturn, 1) := by decide +kernel
set_option maxRecDepth 20000 in
theorem ggX5_run_X2_drawFrom : GoodIn wsX5_run wsX2_drawFrom := goodIn_r _ [8, 9, 10, 11, 12, 13, 14, 15, 16, 17, 18, 19, 20, 21, 7, 22, 23, 24, 25, 26, 27, 28, 29, 30, 31, 32, 33, 34, 35, 36, 37, 38, 39, 40, 41, 42, 43, 44, 45, 46, 47, 48, 49, 50, 51, 52, 53, 54, 55, 56, 57, 58, 59, 60, 61, 62, 63, 64, 65, 66, 67, 68, 69, 70, 71, 72, 127, 128, 129, 130, 131, 116, 117, 118, 119, 120, 121, 122, 123, 124, 125, 126, 132, 133] (by decide +kernel) (by decide +kernel)
set_option maxRecDepth 20000 in
theorem gX5_run_X2_drawFrom : GoodIn wsX5_run (wsV RX5 81 RX2 yX2_drawFrom wsX2_drawFrom) := goodIn_app (goodIn_of _ (by decide +kernel)) ggX5_run_X2_drawFrom
set_option maxRecDepth 20000 in
theorem ggX5_run_X1_findOpen : GoodIn wsX5_run wsX1_findOpen := goodIn_r _ [76, 77, 17, 78, 79, 80, 15, 81, 50, 34, 82, 13, 14, 16, 18, 116, 117, 118, 119, 120, 121, 122, 123, 124, 125, 126] (by decide +kernel) (by decide +kernel)
set_option maxRecDepth 20000 in
theorem gX5_run_X1_findOpen : GoodIn wsX5_run (wsV RX5 87 RX1 yX1_findOpen wsX1_findOpen) := goodIn_app (goodIn_of _ (by decide +kernel)) ggX5_run_X1_findOpen
set_option maxRecDepth 20000 in
theorem ggX5_run_X1_makeNeighbour : GoodIn wsX5_run wsX1_makeNeighbour := goodIn_r _ [86, 77, 87, 88, 89, 15, 90, 17, 34, 18, 45, 52, 53, 54, 55, 56, 57, 58, 116, 117, 118, 119, 120, 121, 122, 123, 124, 125, 126] (by decide +kernel) (by decide +kernel)
set_option maxRecDepth 20000 in
theorem gX5_run_X1_makeNeighbour : GoodIn wsX5_run (wsV RX5 91 RX1 yX1_makeNeighbour wsX1_makeNeighbour) := goodIn_app (goodIn_of _ (by decide +kernel)) ggX5_run_X1_makeNeighbour
set_option maxRecDepth 20000 in
theorem ggX5_run_X0_giveNumbers : GoodIn wsX5_run wsX0_giveNumbers := goodIn_r _ [95, 96, 97, 98, 99, 100, 101, 102, 103, 104, 105, 106, 94, 107, 108, 31, 32, 15, 33, 34, 134, 135, 136, 137, 138, 139, 140, 116, 117, 118, 119, 120, 121, 122, 123, 124, 125, 126] (by decide +kernel) (by decide +kernel)
set_option maxRecDepth 20000 in
theorem gX5_run_X0_giveNumbers : GoodIn wsX5_run (wsV RX5 95 RX0 yX0_giveNumbers wsX0_giveNumbers) := goodIn_app (goodIn_of _ (by decide +kernel)) ggX5_run_X0_giveNumbers
theorem dX5_run_0 : decode cX5_run 0 = .ok (.iload_n 1, 1) := by decide +kernel
theorem dX5_run_1 : decode cX5_run 1 = .ok (.iconst 1, 1) := by decide +kernel
theorem dX5_run_2 : decode cX5_run 2 = .ok (.if_icmp .lt 10, 3) := by decide +kernel
theorem dX5_run_5 : decode cX5_run 5 = .ok (.iload_n 1, 1) := by decide +kernel
theorem dX5_run_6 : decode cX5_run 6 = .ok (.sipush 200, 3) := by decide +kernel
theorem dX5_run_9 : decode cX5_run 9 = .ok (.if_icmp .le 5, 3) := by decide +kernel
theorem dX5_run_12 : decode cX5_run 12 = .ok (.iconst (-1), 1) := by decide +kernel
theorem dX5_run_13 : decode cX5_run 13 = .ok (.ireturn, 1) := by decide +kernel
theorem dX5_run_14 : decode cX5_run 14 = .ok (.aload_n 0, 1) := by decide +kernel
theorem dX5_run_15 : decode cX5_run 15 = .ok (.getfield 40, 3) := by decide +kernel
theorem dX5_run_18 : decode cX5_run 18 = .ok (.iconst 0, 1) := by decide +kernel
theorem dX5_run_19 : decode cX5_run 19 = .ok (.invokevirtual 81, 3) := by decide +kernel
theorem dX5_run_22 : decode cX5_run 22 = .ok (.aload_n 0, 1) := by decide +kernel
theorem dX5_run_23 : decode cX5_run 23 = .ok (.getfield 31, 3) := by decide +kernel
theorem dX5_run_26 : decode cX5_run 26 = .ok (.getfield 84, 3) := by decide +kernel
theorem dX5_run_29 : decode cX5_run 29 = .ok (.istore_n 2, 1) := by decide +kernel
theorem dX5_run_30 : decode cX5_run 30 = .ok (.iload_n 2, 1) := by decide +kernel
theorem dX5_run_31 : decode cX5_run 31 = .ok (.iload_n 1, 1) := by decide +kernel
theorem dX5_run_32 : decode cX5_run 32 = .ok (.if_icmp .ge 33, 3) := by decide +kernel
theorem dX5_run_35 : decode cX5_run 35 = .ok (.aload_n 0, 1) := by decide +kernel
theorem dX5_run_36 : decode cX5_run 36 = .ok (.getfield 31, 3) := by decide +kernel
theorem dX5_run_39 : decode cX5_run 39 = .ok (.invokevirtual 87, 3) := by decide +kernel
theorem dX5_run_42 : decode cX5_run 42 = .ok (.ifCond .eq 23, 3) := by decide +kernel
theorem dX5_run_45 : decode cX5_run 45 = .ok (.aload_n 0, 1) := by decide +kernel
theorem dX5_run_46 : decode cX5_run 46 = .ok (.getfield 40, 3) := by decide +kernel
theorem dX5_run_49 : decode cX5_run 49 = .ok (.aload_n 0, 1) := by decide +kernel
theorem dX5_run_50 : decode cX5_run 50 = .ok (.getfield 31, 3) := by decide +kernel
theorem dX5_run_53 : decode cX5_run 53 = .ok (.invokevirtual 91, 3) := by decide +kernel
theorem dX5_run_56 : decode cX5_run 56 = .ok (.invokevirtual 81, 3) := by decide +kernel
theorem dX5_run_59 : decode cX5_run 59 = .ok (.iinc 2 1, 3) := by decide +kernel
theorem dX5_run_62 : decode cX5_run 62 = .ok (.goto (-32), 3) := by decide +kernel
theorem dX5_run_65 : decode cX5_run 65 = .ok (.aload_n 0, 1) := by decide +kernel
theorem dX5_run_66 : decode cX5_run 66 = .ok (.getfield 31, 3) := by decide +kernel
theorem dX5_run_69 : decode cX5_run 69 = .ok (.invokevirtual 87, 3) := by decide +kernel
theorem dX5_run_72 : decode cX5_run 72 = .ok (.ifCond .ne 10, 3) := by decide +kernel
theorem dX5_run_75 : decode cX5_run 75 = .ok (.aload_n 0, 1) := by decide +kernel
theorem dX5_run_76 : decode cX5_run 76 = .ok (.getfield 49, 3) := by decide +kernel
theorem dX5_run_79 : decode cX5_run 79 = .ok (.invokevirtual 95, 3) := by decide +kernel
theorem dX5_run_82 : decode cX5_run 82 = .ok (.aload_n 0, 1) := by decide +kernel
theorem dX5_run_83 : decode cX5_run 83 = .ok (.getfield 31, 3) := by decide +kernel
theorem dX5_run_86 : decode cX5_run 86 = .ok (.getfield 84, 3) := by decide +kernel
theorem dX5_run_89 : decode cX5_run 89 = .ok (.ireturn, 1) := by decide +kernel
set_option maxRecDepth 20000 in
theorem ggX5_count_X1_countOpen : GoodIn wsX5_count wsX1_countOpen := goodIn_r _ [10, 11, 12, 13, 14, 9, 15, 16, 17, 18, 19, 20, 21, 22, 36, 37, 38, 39, 40, 41, 42, 43, 44, 45, 46] (by decide +kernel) (by decide +kernel)
set_option maxRecDepth 20000 in
theorem gX5_count_X1_countOpen : GoodIn wsX5_count (wsV RX5 101 RX1 yX1_countOpen wsX1_countOpen) := goodIn_app (goodIn_of _ (by decide +kernel)) ggX5_count_X1_countOpen
set_option maxRecDepth 20000 in
theorem ggX5_count_X0_isReady : GoodIn wsX5_count wsX0_isReady := goodIn_r _ [27, 28, 47, 48, 49, 50, 51, 52, 53] (by decide +kernel) (by decide +kernel)
set_option maxRecDepth 20000 in
theorem gX5_count_X0_isReady : GoodIn wsX5_count (wsV RX5 104 RX0 yX0_isReady wsX0_isReady) := goodIn_app (goodIn_of _ (by decide +kernel)) ggX5_count_X0_isReady
theorem dX5_count_0 : decode cX5_count 0 = .ok (.iload_n 1, 1) := by decide +kernel
theorem dX5_count_1 : decode cX5_count 1 = .ok (.tableswitch 134 0 7 #[47, 55, 63, 71, 87, 110, 118, 126], 47) := by decide +kernel
theorem dX5_count_48 : decode cX5_count 48 = .ok (.aload_n 0, 1) := by decide +kernel
theorem dX5_count_49 : decode cX5_count 49 = .ok (.getfield 31, 3) := by decide +kernel
theorem dX5_count_52 : decode cX5_count 52 = .ok (.getfield 84, 3) := by decide +kernel
theorem dX5_count_55 : decode cX5_count 55 = .ok (.ireturn, 1) := by decide +kernel
theorem dX5_count_56 : decode cX5_count 56 = .ok (.aload_n 0, 1) := by decide +kernel
theorem dX5_count_57 : decode cX5_count 57 = .ok (.getfield 31, 3) := by decide +kernel
theorem dX5_count_60 : decode cX5_count 60 = .ok (.getfield 98, 3) := by decide +kernel
theorem dX5_count_63 : decode cX5_count 63 = .ok (.ireturn, 1) := by decide +kernel
theorem dX5_count_64 : decode cX5_count 64 = .ok (.aload_n 0, 1) := by decide +kernel
theorem dX5_count_65 : decode cX5_count 65 = .ok (.getfield 31, 3) := by decide +kernel
theorem dX5_count_68 : decode cX5_count 68 = .ok (.invokevirtual 101, 3) := by decide +kernel
theorem dX5_count_71 : decode cX5_count 71 = .ok (.ireturn, 1) := by decide +kernel
theorem dX5_count_72 : decode cX5_count 72 = .ok (.aload_n 0, 1) := by decide +kernel
theorem dX5_count_73 : decode cX5_count 73 = .ok (.getfield 49, 3) := by decide +kernel
theorem dX5_count_76 : decode cX5_count 76 = .ok (.invokevirtual 104, 3) := by decide +kernel
theorem dX5_count_79 : decode cX5_count 79 = .ok (.ifCond .eq 7, 3) := by decide +kernel
theorem dX5_count_82 : decode cX5_count 82 = .ok (.iconst 1, 1) := by decide +kernel
theorem dX5_count_83 : decode cX5_count 83 = .ok (.goto 4, 3) := by decide +kernel
theorem dX5_count_86 : decode cX5_count 86 = .ok (.iconst 0, 1) := by decide +kernel
theorem dX5_count_87 : decode cX5_count 87 = .ok (.ireturn, 1) := by decide +kernel
theorem dX5_count_88 : decode cX5_count 88 = .ok (.aload_n 0, 1) := by decide +kernel
theorem dX5_count_89 : decode cX5_count 89 = .ok (.getfield 49, 3) := by decide +kernel
theorem dX5_count_92 : decode cX5_count 92 = .ok (.invokevirtual 104, 3) := by decide +kernel
theorem dX5_count_95 : decode cX5_count 95 = .ok (.ifCond .eq 13, 3) := by decide +kernel
theorem dX5_count_98 : decode cX5_count 98 = .ok (.aload_n 0, 1) := by decide +kernel
theorem dX5_count_99 : decode cX5_count 99 = .ok (.getfield 49, 3) := by decide +kernel
theorem dX5_count_102 : decode cX5_count 102 = .ok (.getfield 107, 3) := by decide +kernel
theorem dX5_count_105 : decode cX5_count 105 = .ok (.goto 5, 3) := by decide +kernel
theorem dX5_count_108 : decode cX5_count 108 = .ok (.bipush (-2), 2) := by decide +kernel
theorem dX5_count_110 : decode cX5_count 110 = .ok (.ireturn, 1) := by decide +kernel
theorem dX5_count_111 : decode cX5_count 111 = .ok (.aload_n 0, 1) := by decide +kernel
theorem dX5_count_112 : decode cX5_count 112 = .ok (.getfield 21, 3) := by decide +kernel
theorem dX5_count_115 : decode cX5_count 115 = .ok (.getfield 60, 3) := by decide +kernel
theorem dX5_count_118 : decode cX5_count 118 = .ok (.ireturn, 1) := by decide +kernel
theorem dX5_count_119 : decode cX5_count 119 = .ok (.aload_n 0, 1) := by decide +kernel
theorem dX5_count_120 : decode cX5_count 120 = .ok (.getfield 25, 3) := by decide +kernel
theorem dX5_count_123 : decode cX5_count 123 = .ok (.getfield 60, 3) := by decide +kernel
theorem dX5_count_126 : decode cX5_count 126 = .ok (.ireturn, 1) := by decide +kernel
theorem dX5_count_127 : decode cX5_count 127 = .ok (.aload_n 0, 1) := by decide +kernel
theorem dX5_count_128 : decode cX5_count 128 = .ok (.getfield 12, 3) := by decide +kernel
theorem dX5_count_131 : decode cX5_count 131 = .ok (.getfield 63, 3) := by decide +kernel
theorem dX5_count_134 : decode cX5_count 134 = .ok (.ireturn, 1) := by decide +kernel
theorem dX5_count_135 : decode cX5_count 135 = .ok (.iconst (-1), 1) := by decide +kernel
theorem dX5_count_136 : decode cX5_count 136 = .ok (.ireturn, 1) := by decide +kernel
set_option maxRecDepth 20000 in
theorem ggX5_known_X5_isLetter : GoodIn wsX5_known wsX5_isLetter := goodIn_r _ [6, 7, 23, 24, 25, 26, 27, 28, 29] (by decide +kernel) (by decide +kernel)
set_option maxRecDepth 20000 in
theorem gX5_known_X5_isLetter : GoodIn wsX5_known (wsV RX5 66 RX5 yX5_isLetter wsX5_isLetter) := goodIn_app (goodIn_of _ (by decide +kernel)) ggX5_known_X5_isLetter
set_option maxRecDepth 20000 in
theorem ggX5_known_X1_lives : GoodIn wsX5_known wsX1_lives := goodIn_r _ [12, 13, 14, 30, 31, 32, 33, 34, 35, 36, 37, 38, 39, 40] (by decide +kernel) (by decide +kernel)
set_option maxRecDepth 20000 in
theorem gX5_known_X1_lives : GoodIn wsX5_known (wsV RX5 108 RX1 yX1_lives wsX1_lives) := goodIn_app (goodIn_of _ (by decide +kernel)) ggX5_known_X1_lives
set_option maxRecDepth 20000 in
theorem ggX5_known_X5_columnOf : GoodIn wsX5_known wsX5_columnOf := goodIn_r _ [17] (by decide +kernel) (by decide +kernel)
set_option maxRecDepth 20000 in
theorem gX5_known_X5_columnOf : GoodIn wsX5_known (va_wsS RX5 70 yX5_columnOf wsX5_columnOf) := goodIn_app (goodIn_of _ (by decide +kernel)) ggX5_known_X5_columnOf
set_option maxRecDepth 20000 in
theorem ggX5_known_X1_at : GoodIn wsX5_known wsX1_at := goodIn_r _ [21, 22, 30, 31, 32, 33, 34, 35, 36, 37, 38, 39, 40] (by decide +kernel) (by decide +kernel)
set_option maxRecDepth 20000 in
theorem gX5_known_X1_at : GoodIn wsX5_known (wsV RX5 111 RX1 yX1_at wsX1_at) := goodIn_app (goodIn_of _ (by decide +kernel)) ggX5_known_X1_at
theorem dX5_known_0 : decode cX5_known 0 = .ok (.aload_n 0, 1) := by decide +kernel
theorem dX5_known_1 : decode cX5_known 1 = .ok (.iload_n 2, 1) := by decide +kernel
theorem dX5_known_2 : decode cX5_known 2 = .ok (.invokevirtual 66, 3) := by decide +kernel
theorem dX5_known_5 : decode cX5_known 5 = .ok (.ifCond .eq 14, 3) := by decide +kernel
theorem dX5_known_8 : decode cX5_known 8 = .ok (.aload_n 0, 1) := by decide +kernel
theorem dX5_known_9 : decode cX5_known 9 = .ok (.getfield 31, 3) := by decide +kernel
theorem dX5_known_12 : decode cX5_known 12 = .ok (.iload_n 1, 1) := by decide +kernel
theorem dX5_known_13 : decode cX5_known 13 = .ok (.invokevirtual 108, 3) := by decide +kernel
theorem dX5_known_16 : decode cX5_known 16 = .ok (.ifCond .ne 5, 3) := by decide +kernel
theorem dX5_known_19 : decode cX5_known 19 = .ok (.iconst (-1), 1) := by decide +kernel
theorem dX5_known_20 : decode cX5_known 20 = .ok (.ireturn, 1) := by decide +kernel
theorem dX5_known_21 : decode cX5_known 21 = .ok (.aload_n 0, 1) := by decide +kernel
theorem dX5_known_22 : decode cX5_known 22 = .ok (.getfield 31, 3) := by decide +kernel
theorem dX5_known_25 : decode cX5_known 25 = .ok (.iload_n 1, 1) := by decide +kernel
theorem dX5_known_26 : decode cX5_known 26 = .ok (.iload_n 2, 1) := by decide +kernel
theorem dX5_known_27 : decode cX5_known 27 = .ok (.invokestatic 70, 3) := by decide +kernel
theorem dX5_known_30 : decode cX5_known 30 = .ok (.invokevirtual 111, 3) := by decide +kernel
theorem dX5_known_33 : decode cX5_known 33 = .ok (.istore_n 3, 1) := by decide +kernel
theorem dX5_known_34 : decode cX5_known 34 = .ok (.iload_n 3, 1) := by decide +kernel
theorem dX5_known_35 : decode cX5_known 35 = .ok (.iconst (-1), 1) := by decide +kernel
theorem dX5_known_36 : decode cX5_known 36 = .ok (.if_icmp .ne 8, 3) := by decide +kernel
theorem dX5_known_39 : decode cX5_known 39 = .ok (.bipush (-2), 2) := by decide +kernel
theorem dX5_known_41 : decode cX5_known 41 = .ok (.goto 4, 3) := by decide +kernel
theorem dX5_known_44 : decode cX5_known 44 = .ok (.iload_n 3, 1) := by decide +kernel
theorem dX5_known_45 : decode cX5_known 45 = .ok (.ireturn, 1) := by decide +kernel
set_option maxRecDepth 20000 in
theorem ggX5_number_X0_isReady : GoodIn wsX5_number wsX0_isReady := goodIn_r _ [7, 8, 23, 24, 25, 26, 27, 28, 29] (by decide +kernel) (by decide +kernel)
set_option maxRecDepth 20000 in
theorem gX5_number_X0_isReady : GoodIn wsX5_number (wsV RX5 104 RX0 yX0_isReady wsX0_isReady) := goodIn_app (goodIn_of _ (by decide +kernel)) ggX5_number_X0_isReady
set_option maxRecDepth 20000 in
theorem ggX5_number_X1_lives : GoodIn wsX5_number wsX1_lives := goodIn_r _ [13, 14, 15, 30, 31, 32, 33, 34, 35, 36, 37, 38, 39, 40] (by decide +kernel) (by decide +kernel)
set_option maxRecDepth 20000 in
theorem gX5_number_X1_lives : GoodIn wsX5_number (wsV RX5 108 RX1 yX1_lives wsX1_lives) := goodIn_app (goodIn_of _ (by decide +kernel)) ggX5_number_X1_lives
theorem dX5_number_0 : decode cX5_number 0 = .ok (.aload_n 0, 1) := by decide +kernel
theorem dX5_number_1 : decode cX5_number 1 = .ok (.getfield 49, 3) := by decide +kernel
theorem dX5_number_4 : decode cX5_number 4 = .ok (.invokevirtual 104, 3) := by decide +kernel
theorem dX5_number_7 : decode cX5_number 7 = .ok (.ifCond .eq 14, 3) := by decide +kernel
theorem dX5_number_10 : decode cX5_number 10 = .ok (.aload_n 0, 1) := by decide +kernel
theorem dX5_number_11 : decode cX5_number 11 = .ok (.getfield 31, 3) := by decide +kernel
theorem dX5_number_14 : decode cX5_number 14 = .ok (.iload_n 1, 1) := by decide +kernel
theorem dX5_number_15 : decode cX5_number 15 = .ok (.invokevirtual 108, 3) := by decide +kernel
theorem dX5_number_18 : decode cX5_number 18 = .ok (.ifCond .ne 5, 3) := by decide +kernel
theorem dX5_number_21 : decode cX5_number 21 = .ok (.iconst (-1), 1) := by decide +kernel
theorem dX5_number_22 : decode cX5_number 22 = .ok (.ireturn, 1) := by decide +kernel
theorem dX5_number_23 : decode cX5_number 23 = .ok (.aload_n 0, 1) := by decide +kernel
theorem dX5_number_24 : decode cX5_number 24 = .ok (.getfield 49, 3) := by decide +kernel
theorem dX5_number_27 : decode cX5_number 27 = .ok (.getfield 115, 3) := by decide +kernel
theorem dX5_number_30 : decode cX5_number 30 = .ok (.iload_n 1, 1) := by decide +kernel
theorem dX5_number_31 : decode cX5_number 31 = .ok (.iaload, 1) := by decide +kernel
theorem dX5_number_32 : decode cX5_number 32 = .ok (.ireturn, 1) := by decide +kernel
set_option maxRecDepth 20000 in
theorem ggX5_entry_X0_hasNumber : GoodIn wsX5_entry wsX0_hasNumber := goodIn_r _ [6, 7, 37, 38, 39, 40, 41, 42, 43] (by decide +kernel) (by decide +kernel)
set_option maxRecDepth 20000 in
theorem gX5_entry_X0_hasNumber : GoodIn wsX5_entry (wsV RX5 119 RX0 yX0_hasNumber wsX0_hasNumber) := goodIn_app (goodIn_of _ (by decide +kernel)) ggX5_entry_X0_hasNumber
set_option maxRecDepth 20000 in
theorem ggX5_entry_X5_isLetter : GoodIn wsX5_entry wsX5_isLetter := goodIn_r _ [12, 13, 30, 31, 32, 33, 34, 35, 36] (by decide +kernel) (by decide +kernel)
set_option maxRecDepth 20000 in
theorem gX5_entry_X5_isLetter : GoodIn wsX5_entry (wsV RX5 66 RX5 yX5_isLetter wsX5_isLetter) := goodIn_app (goodIn_of _ (by decide +kernel)) ggX5_entry_X5_isLetter
set_option maxRecDepth 20000 in
theorem ggX5_entry_X5_columnOf : GoodIn wsX5_entry wsX5_columnOf := goodIn_r _ [16] (by decide +kernel) (by decide +kernel)
set_option maxRecDepth 20000 in
theorem gX5_entry_X5_columnOf : GoodIn wsX5_entry (va_wsS RX5 70 yX5_columnOf wsX5_columnOf) := goodIn_app (goodIn_of _ (by decide +kernel)) ggX5_entry_X5_columnOf
set_option maxRecDepth 20000 in
theorem ggX5_entry_X0_letterImage : GoodIn wsX5_entry wsX0_letterImage := goodIn_r _ [20, 21, 22, 23, 24, 25, 26, 27, 28, 29, 37, 38, 39, 40, 41, 42, 43, 44, 45, 46, 47, 48, 49, 50, 51, 52, 53, 54] (by decide +kernel) (by decide +kernel)
set_option maxRecDepth 20000 in
theorem gX5_entry_X0_letterImage : GoodIn wsX5_entry (wsV RX5 122 RX0 yX0_letterImage wsX0_letterImage) := goodIn_app (goodIn_of _ (by decide +kernel)) ggX5_entry_X0_letterImage
theorem dX5_entry_0 : decode cX5_entry 0 = .ok (.aload_n 0, 1) := by decide +kernel
theorem dX5_entry_1 : decode cX5_entry 1 = .ok (.getfield 49, 3) := by decide +kernel
theorem dX5_entry_4 : decode cX5_entry 4 = .ok (.iload_n 1, 1) := by decide +kernel
theorem dX5_entry_5 : decode cX5_entry 5 = .ok (.invokevirtual 119, 3) := by decide +kernel
theorem dX5_entry_8 : decode cX5_entry 8 = .ok (.ifCond .eq 11, 3) := by decide +kernel
theorem dX5_entry_11 : decode cX5_entry 11 = .ok (.aload_n 0, 1) := by decide +kernel
theorem dX5_entry_12 : decode cX5_entry 12 = .ok (.iload_n 2, 1) := by decide +kernel
theorem dX5_entry_13 : decode cX5_entry 13 = .ok (.invokevirtual 66, 3) := by decide +kernel
theorem dX5_entry_16 : decode cX5_entry 16 = .ok (.ifCond .ne 5, 3) := by decide +kernel
theorem dX5_entry_19 : decode cX5_entry 19 = .ok (.iconst (-1), 1) := by decide +kernel
theorem dX5_entry_20 : decode cX5_entry 20 = .ok (.ireturn, 1) := by decide +kernel
theorem dX5_entry_21 : decode cX5_entry 21 = .ok (.aload_n 0, 1) := by decide +kernel
theorem dX5_entry_22 : decode cX5_entry 22 = .ok (.getfield 49, 3) := by decide +kernel
theorem dX5_entry_25 : decode cX5_entry 25 = .ok (.iload_n 1, 1) := by decide +kernel
theorem dX5_entry_26 : decode cX5_entry 26 = .ok (.iload_n 2, 1) := by decide +kernel
theorem dX5_entry_27 : decode cX5_entry 27 = .ok (.invokestatic 70, 3) := by decide +kernel
theorem dX5_entry_30 : decode cX5_entry 30 = .ok (.invokevirtual 122, 3) := by decide +kernel
theorem dX5_entry_33 : decode cX5_entry 33 = .ok (.ireturn, 1) := by decide +kernel
set_option maxRecDepth 20000 in
theorem ggX5_move_X0_hasNumber : GoodIn wsX5_move wsX0_hasNumber := goodIn_r _ [7, 8, 29, 30, 31, 32, 33, 34, 35] (by decide +kernel) (by decide +kernel)
set_option maxRecDepth 20000 in
theorem gX5_move_X0_hasNumber : GoodIn wsX5_move (wsV RX5 119 RX0 yX0_hasNumber wsX0_hasNumber) := goodIn_app (goodIn_of _ (by decide +kernel)) ggX5_move_X0_hasNumber
set_option maxRecDepth 20000 in
theorem ggX5_move_X0_image : GoodIn wsX5_move wsX0_image := goodIn_r _ [12, 13, 14, 15, 16, 17, 18, 19, 20, 21, 29, 30, 31, 32, 33, 34, 35, 36, 37, 38, 39, 40, 41, 42, 43, 44, 45, 46, 47, 48] (by decide +kernel) (by decide +kernel)
set_option maxRecDepth 20000 in
theorem gX5_move_X0_image : GoodIn wsX5_move (wsV RX5 125 RX0 yX0_image wsX0_image) := goodIn_app (goodIn_of _ (by decide +kernel)) ggX5_move_X0_image
theorem dX5_move_0 : decode cX5_move 0 = .ok (.aload_n 0, 1) := by decide +kernel
theorem dX5_move_1 : decode cX5_move 1 = .ok (.getfield 49, 3) := by decide +kernel
theorem dX5_move_4 : decode cX5_move 4 = .ok (.iload_n 1, 1) := by decide +kernel
theorem dX5_move_5 : decode cX5_move 5 = .ok (.invokevirtual 119, 3) := by decide +kernel
theorem dX5_move_8 : decode cX5_move 8 = .ok (.ifCond .eq 18, 3) := by decide +kernel
theorem dX5_move_11 : decode cX5_move 11 = .ok (.aload_n 0, 1) := by decide +kernel
theorem dX5_move_12 : decode cX5_move 12 = .ok (.getfield 49, 3) := by decide +kernel
theorem dX5_move_15 : decode cX5_move 15 = .ok (.iload_n 1, 1) := by decide +kernel
theorem dX5_move_16 : decode cX5_move 16 = .ok (.aload_n 0, 1) := by decide +kernel
theorem dX5_move_17 : decode cX5_move 17 = .ok (.getfield 12, 3) := by decide +kernel
theorem dX5_move_20 : decode cX5_move 20 = .ok (.invokevirtual 125, 3) := by decide +kernel
theorem dX5_move_23 : decode cX5_move 23 = .ok (.goto 4, 3) := by decide +kernel
theorem dX5_move_26 : decode cX5_move 26 = .ok (.iconst (-1), 1) := by decide +kernel
theorem dX5_move_27 : decode cX5_move 27 = .ok (.ireturn, 1) := by decide +kernel
set_option maxRecDepth 20000 in
theorem ggX5_cycles_X0_isReady : GoodIn wsX5_cycles wsX0_isReady := goodIn_r _ [7, 8, 42, 43, 44, 45, 46, 47, 48] (by decide +kernel) (by decide +kernel)
set_option maxRecDepth 20000 in
theorem gX5_cycles_X0_isReady : GoodIn wsX5_cycles (wsV RX5 104 RX0 yX0_isReady wsX0_isReady) := goodIn_app (goodIn_of _ (by decide +kernel)) ggX5_cycles_X0_isReady
set_option maxRecDepth 20000 in
theorem ggX5_cycles_X0_countCycles : GoodIn wsX5_cycles wsX0_countCycles := goodIn_r _ [12, 8, 13, 14, 15, 6, 16, 17, 18, 19, 20, 21, 22, 23, 24, 25, 26, 27, 28, 29, 30, 31, 32, 33, 34, 42, 43, 44, 45, 46, 47, 48, 49, 50, 51, 52, 53, 54, 55, 56, 57, 58, 59, 60, 61] (by decide +kernel) (by decide +kernel)
set_option maxRecDepth 20000 in
theorem gX5_cycles_X0_countCycles : GoodIn wsX5_cycles (wsV RX5 129 RX0 yX0_countCycles wsX0_countCycles) := goodIn_app (goodIn_of _ (by decide +kernel)) ggX5_cycles_X0_countCycles
theorem dX5_cycles_0 : decode cX5_cycles 0 = .ok (.aload_n 0, 1) := by decide +kernel
theorem dX5_cycles_1 : decode cX5_cycles 1 = .ok (.getfield 49, 3) := by decide +kernel
theorem dX5_cycles_4 : decode cX5_cycles 4 = .ok (.invokevirtual 104, 3) := by decide +kernel
theorem dX5_cycles_7 : decode cX5_cycles 7 = .ok (.ifCond .eq 18, 3) := by decide +kernel
theorem dX5_cycles_10 : decode cX5_cycles 10 = .ok (.aload_n 0, 1) := by decide +kernel
theorem dX5_cycles_11 : decode cX5_cycles 11 = .ok (.getfield 49, 3) := by decide +kernel
theorem dX5_cycles_14 : decode cX5_cycles 14 = .ok (.aload_n 0, 1) := by decide +kernel
theorem dX5_cycles_15 : decode cX5_cycles 15 = .ok (.getfield 12, 3) := by decide +kernel
theorem dX5_cycles_18 : decode cX5_cycles 18 = .ok (.iload_n 1, 1) := by decide +kernel
theorem dX5_cycles_19 : decode cX5_cycles 19 = .ok (.invokevirtual 129, 3) := by decide +kernel
theorem dX5_cycles_22 : decode cX5_cycles 22 = .ok (.goto 4, 3) := by decide +kernel
theorem dX5_cycles_25 : decode cX5_cycles 25 = .ok (.iconst (-1), 1) := by decide +kernel
theorem dX5_cycles_26 : decode cX5_cycles 26 = .ok (.ireturn, 1) := by decide +kernel
set_option maxRecDepth 20000 in
theorem ggX5_order_X0_isReady : GoodIn wsX5_order wsX0_isReady := goodIn_r _ [8, 9, 47, 48, 49, 50, 51, 52, 53] (by decide +kernel) (by decide +kernel)
set_option maxRecDepth 20000 in
theorem gX5_order_X0_isReady : GoodIn wsX5_order (wsV RX5 104 RX0 yX0_isReady wsX0_isReady) := goodIn_app (goodIn_of _ (by decide +kernel)) ggX5_order_X0_isReady
set_option maxRecDepth 20000 in
theorem ggX5_order_X0_orderOf : GoodIn wsX5_order wsX0_orderOf := goodIn_r _ [13, 9, 14, 15, 16, 7, 17, 18, 19, 20, 21, 22, 23, 24, 25, 26, 27, 28, 29, 30, 31, 32, 33, 34, 35, 36, 37, 38, 39, 47, 48, 49, 50, 51, 52, 53, 54, 55, 56, 57, 58, 59, 60, 61, 62, 63, 64, 65, 66] (by decide +kernel) (by decide +kernel)
set_option maxRecDepth 20000 in
theorem gX5_order_X0_orderOf : GoodIn wsX5_order (wsV RX5 133 RX0 yX0_orderOf wsX0_orderOf) := goodIn_app (goodIn_of _ (by decide +kernel)) ggX5_order_X0_orderOf
theorem dX5_order_0 : decode cX5_order 0 = .ok (.aload_n 0, 1) := by decide +kernel
theorem dX5_order_1 : decode cX5_order 1 = .ok (.getfield 49, 3) := by decide +kernel
theorem dX5_order_4 : decode cX5_order 4 = .ok (.invokevirtual 104, 3) := by decide +kernel
theorem dX5_order_7 : decode cX5_order 7 = .ok (.ifCond .eq 17, 3) := by decide +kernel
theorem dX5_order_10 : decode cX5_order 10 = .ok (.aload_n 0, 1) := by decide +kernel
theorem dX5_order_11 : decode cX5_order 11 = .ok (.getfield 49, 3) := by decide +kernel
theorem dX5_order_14 : decode cX5_order 14 = .ok (.aload_n 0, 1) := by decide +kernel
theorem dX5_order_15 : decode cX5_order 15 = .ok (.getfield 12, 3) := by decide +kernel
theorem dX5_order_18 : decode cX5_order 18 = .ok (.invokevirtual 133, 3) := by decide +kernel
theorem dX5_order_21 : decode cX5_order 21 = .ok (.goto 6, 3) := by decide +kernel
theorem dX5_order_24 : decode cX5_order 24 = .ok (.ldc2_w 137, 3) := by decide +kernel
theorem dX5_order_27 : decode cX5_order 27 = .ok (.lreturn, 1) := by decide +kernel
set_option maxRecDepth 20000 in
theorem ggX5_resting_X0_isReady : GoodIn wsX5_resting wsX0_isReady := goodIn_r _ [6, 7, 37, 38, 39, 40, 41, 42, 43] (by decide +kernel) (by decide +kernel)
set_option maxRecDepth 20000 in
theorem gX5_resting_X0_isReady : GoodIn wsX5_resting (wsV RX5 104 RX0 yX0_isReady wsX0_isReady) := goodIn_app (goodIn_of _ (by decide +kernel)) ggX5_resting_X0_isReady
set_option maxRecDepth 20000 in
theorem ggX5_resting_X0_countResting : GoodIn wsX5_resting wsX0_countResting := goodIn_r _ [11, 7, 12, 13, 14, 5, 15, 16, 17, 18, 19, 20, 21, 22, 23, 24, 25, 26, 27, 28, 29, 37, 38, 39, 40, 41, 42, 43, 44, 45, 46, 47, 48, 49, 50, 51, 52, 53, 54, 55, 56, 57, 58] (by decide +kernel) (by decide +kernel)
set_option maxRecDepth 20000 in
theorem gX5_resting_X0_countResting : GoodIn wsX5_resting (wsV RX5 139 RX0 yX0_countResting wsX0_countResting) := goodIn_app (goodIn_of _ (by decide +kernel)) ggX5_resting_X0_countResting
theorem dX5_resting_0 : decode cX5_resting 0 = .ok (.aload_n 0, 1) := by decide +kernel
theorem dX5_resting_1 : decode cX5_resting 1 = .ok (.getfield 49, 3) := by decide +kernel
theorem dX5_resting_4 : decode cX5_resting 4 = .ok (.invokevirtual 104, 3) := by decide +kernel
theorem dX5_resting_7 : decode cX5_resting 7 = .ok (.ifCond .eq 13, 3) := by decide +kernel
theorem dX5_resting_10 : decode cX5_resting 10 = .ok (.aload_n 0, 1) := by decide +kernel
theorem dX5_resting_11 : decode cX5_resting 11 = .ok (.getfield 49, 3) := by decide +kernel
theorem dX5_resting_14 : decode cX5_resting 14 = .ok (.invokevirtual 139, 3) := by decide +kernel
theorem dX5_resting_17 : decode cX5_resting 17 = .ok (.goto 4, 3) := by decide +kernel
theorem dX5_resting_20 : decode cX5_resting 20 = .ok (.iconst (-1), 1) := by decide +kernel
theorem dX5_resting_21 : decode cX5_resting 21 = .ok (.ireturn, 1) := by decide +kernel
set_option maxRecDepth 20000 in
theorem ggX5_orbit_X0_hasNumber : GoodIn wsX5_orbit wsX0_hasNumber := goodIn_r _ [6, 7, 43, 44, 45, 46, 47, 48, 49] (by decide +kernel) (by decide +kernel)
set_option maxRecDepth 20000 in
theorem gX5_orbit_X0_hasNumber : GoodIn wsX5_orbit (wsV RX5 119 RX0 yX0_hasNumber wsX0_hasNumber) := goodIn_app (goodIn_of _ (by decide +kernel)) ggX5_orbit_X0_hasNumber
set_option maxRecDepth 20000 in
theorem ggX5_orbit_X0_lowestJoined : GoodIn wsX5_orbit wsX0_lowestJoined := goodIn_r _ [11, 12, 13, 7, 14, 15, 16, 17, 18, 19, 20, 21, 5, 22, 23, 24, 25, 26, 27, 28, 29, 30, 31, 32, 33, 34, 35, 43, 44, 45, 46, 47, 48, 49, 50, 51, 52, 53, 54, 55, 56, 57, 58, 59, 60, 61, 62, 63, 64] (by decide +kernel) (by decide +kernel)
set_option maxRecDepth 20000 in
theorem gX5_orbit_X0_lowestJoined : GoodIn wsX5_orbit (wsV RX5 142 RX0 yX0_lowestJoined wsX0_lowestJoined) := goodIn_app (goodIn_of _ (by decide +kernel)) ggX5_orbit_X0_lowestJoined
theorem dX5_orbit_0 : decode cX5_orbit 0 = .ok (.aload_n 0, 1) := by decide +kernel
theorem dX5_orbit_1 : decode cX5_orbit 1 = .ok (.getfield 49, 3) := by decide +kernel
theorem dX5_orbit_4 : decode cX5_orbit 4 = .ok (.iload_n 1, 1) := by decide +kernel
theorem dX5_orbit_5 : decode cX5_orbit 5 = .ok (.invokevirtual 119, 3) := by decide +kernel
theorem dX5_orbit_8 : decode cX5_orbit 8 = .ok (.ifCond .eq 14, 3) := by decide +kernel
theorem dX5_orbit_11 : decode cX5_orbit 11 = .ok (.aload_n 0, 1) := by decide +kernel
theorem dX5_orbit_12 : decode cX5_orbit 12 = .ok (.getfield 49, 3) := by decide +kernel
theorem dX5_orbit_15 : decode cX5_orbit 15 = .ok (.iload_n 1, 1) := by decide +kernel
theorem dX5_orbit_16 : decode cX5_orbit 16 = .ok (.invokevirtual 142, 3) := by decide +kernel
theorem dX5_orbit_19 : decode cX5_orbit 19 = .ok (.goto 4, 3) := by decide +kernel
theorem dX5_orbit_22 : decode cX5_orbit 22 = .ok (.iconst (-1), 1) := by decide +kernel
theorem dX5_orbit_23 : decode cX5_orbit 23 = .ok (.ireturn, 1) := by decide +kernel
theorem dX5_isLetter_0 : decode cX5_isLetter 0 = .ok (.iload_n 1, 1) := by decide +kernel
theorem dX5_isLetter_1 : decode cX5_isLetter 1 = .ok (.ifCond .eq 24, 3) := by decide +kernel
theorem dX5_isLetter_4 : decode cX5_isLetter 4 = .ok (.iload_n 1, 1) := by decide +kernel
theorem dX5_isLetter_5 : decode cX5_isLetter 5 = .ok (.aload_n 0, 1) := by decide +kernel
theorem dX5_isLetter_6 : decode cX5_isLetter 6 = .ok (.getfield 53, 3) := by decide +kernel
theorem dX5_isLetter_9 : decode cX5_isLetter 9 = .ok (.ineg, 1) := by decide +kernel
theorem dX5_isLetter_10 : decode cX5_isLetter 10 = .ok (.if_icmp .lt 15, 3) := by decide +kernel
theorem dX5_isLetter_13 : decode cX5_isLetter 13 = .ok (.iload_n 1, 1) := by decide +kernel
theorem dX5_isLetter_14 : decode cX5_isLetter 14 = .ok (.aload_n 0, 1) := by decide +kernel
theorem dX5_isLetter_15 : decode cX5_isLetter 15 = .ok (.getfield 53, 3) := by decide +kernel
theorem dX5_isLetter_18 : decode cX5_isLetter 18 = .ok (.if_icmp .gt 7, 3) := by decide +kernel
theorem dX5_isLetter_21 : decode cX5_isLetter 21 = .ok (.iconst 1, 1) := by decide +kernel
theorem dX5_isLetter_22 : decode cX5_isLetter 22 = .ok (.goto 4, 3) := by decide +kernel
theorem dX5_isLetter_25 : decode cX5_isLetter 25 = .ok (.iconst 0, 1) := by decide +kernel
theorem dX5_isLetter_26 : decode cX5_isLetter 26 = .ok (.ireturn, 1) := by decide +kernel
theorem dX5_columnOf_0 : decode cX5_columnOf 0 = .ok (.iload_n 0, 1) := by decide +kernel
theorem dX5_columnOf_1 : decode cX5_columnOf 1 = .ok (.ifCond .le 11, 3) := by decide +kernel
theorem dX5_columnOf_4 : decode cX5_columnOf 4 = .ok (.iconst 2, 1) := by decide +kernel
theorem dX5_columnOf_5 : decode cX5_columnOf 5 = .ok (.iload_n 0, 1) := by decide +kernel
theorem dX5_columnOf_6 : decode cX5_columnOf 6 = .ok (.iconst 1, 1) := by decide +kernel
theorem dX5_columnOf_7 : decode cX5_columnOf 7 = .ok (.isub, 1) := by decide +kernel
theorem dX5_columnOf_8 : decode cX5_columnOf 8 = .ok (.imul, 1) := by decide +kernel
theorem dX5_columnOf_9 : decode cX5_columnOf 9 = .ok (.goto 11, 3) := by decide +kernel
theorem dX5_columnOf_12 : decode cX5_columnOf 12 = .ok (.iconst 2, 1) := by decide +kernel
theorem dX5_columnOf_13 : decode cX5_columnOf 13 = .ok (.iload_n 0, 1) := by decide +kernel
theorem dX5_columnOf_14 : decode cX5_columnOf 14 = .ok (.ineg, 1) := by decide +kernel
theorem dX5_columnOf_15 : decode cX5_columnOf 15 = .ok (.iconst 1, 1) := by decide +kernel
theorem dX5_columnOf_16 : decode cX5_columnOf 16 = .ok (.isub, 1) := by decide +kernel
theorem dX5_columnOf_17 : decode cX5_columnOf 17 = .ok (.imul, 1) := by decide +kernel
theorem dX5_columnOf_18 : decode cX5_columnOf 18 = .ok (.iconst 1, 1) := by decide +kernel
theorem dX5_columnOf_19 : decode cX5_columnOf 19 = .ok (.iadd, 1) := by decide +kernel
theorem dX5_columnOf_20 : decode cX5_columnOf 20 = .ok (.ireturn, 1) := by decide +kernel
set_option maxRecDepth 20000 in
theorem ggX5_startTable_X1_start : GoodIn wsX5_startTable wsX1_start := goodIn_r _ [8, 9, 10, 11, 12, 13, 14, 15, 7, 16, 17, 18, 33, 34, 35, 36, 37, 38, 39, 40, 41, 42, 43] (by decide +kernel) (by decide +kernel)
set_option maxRecDepth 20000 in
theorem gX5_startTable_X1_start : GoodIn wsX5_startTable (wsV RX5 145 RX1 yX1_start wsX1_start) := goodIn_app (goodIn_of _ (by decide +kernel)) ggX5_startTable_X1_start
theorem dX5_startTable_0 : decode cX5_startTable 0 = .ok (.aload_n 0, 1) := by decide +kernel
theorem dX5_startTable_1 : decode cX5_startTable 1 = .ok (.getfield 31, 3) := by decide +kernel
theorem dX5_startTable_4 : decode cX5_startTable 4 = .ok (.iconst 2, 1) := by decide +kernel
theorem dX5_startTable_5 : decode cX5_startTable 5 = .ok (.aload_n 0, 1) := by decide +kernel
theorem dX5_startTable_6 : decode cX5_startTable 6 = .ok (.getfield 53, 3) := by decide +kernel
theorem dX5_startTable_9 : decode cX5_startTable 9 = .ok (.imul, 1) := by decide +kernel
theorem dX5_startTable_10 : decode cX5_startTable 10 = .ok (.invokevirtual 145, 3) := by decide +kernel
theorem dX5_startTable_13 : decode cX5_startTable 13 = .ok (.aload_n 0, 1) := by decide +kernel
theorem dX5_startTable_14 : decode cX5_startTable 14 = .ok (.getfield 49, 3) := by decide +kernel
theorem dX5_startTable_17 : decode cX5_startTable 17 = .ok (.iconst 0, 1) := by decide +kernel
theorem dX5_startTable_18 : decode cX5_startTable 18 = .ok (.putfield 107, 3) := by decide +kernel
theorem dX5_startTable_21 : decode cX5_startTable 21 = .ok (.return_, 1) := by decide +kernel
set_option maxRecDepth 20000 in
theorem ggX5_giveHandTo_X4_isFull : GoodIn wsX5_giveHandTo wsX4_isFull := goodIn_r _ [6, 7, 8, 56, 57] (by decide +kernel) (by decide +kernel)
set_option maxRecDepth 20000 in
theorem gX5_giveHandTo_X4_isFull : GoodIn wsX5_giveHandTo (wsV RX5 148 RX4 yX4_isFull wsX4_isFull) := goodIn_app (goodIn_of _ (by decide +kernel)) ggX5_giveHandTo_X4_isFull
set_option maxRecDepth 20000 in
theorem ggX5_giveHandTo_X4_add : GoodIn wsX5_giveHandTo wsX4_add := goodIn_r _ [12, 8, 7, 13, 14, 15, 16, 17, 18, 19, 20, 21, 22, 23, 56, 57, 54, 55] (by decide +kernel) (by decide +kernel)
set_option maxRecDepth 20000 in
theorem gX5_giveHandTo_X4_add : GoodIn wsX5_giveHandTo (wsV RX5 151 RX4 yX4_add wsX4_add) := goodIn_app (goodIn_of _ (by decide +kernel)) ggX5_giveHandTo_X4_add
set_option maxRecDepth 20000 in
theorem ggX5_giveHandTo_X5_startTable : GoodIn wsX5_giveHandTo wsX5_startTable := goodIn_r _ [28, 29, 30, 31, 32, 33, 34, 35, 36, 37, 38, 39, 40, 41, 42, 43, 44, 45, 46, 47, 48, 49, 50, 51, 52, 53, 58, 59, 60, 61, 62, 63, 64, 65, 66, 67, 68, 69, 70, 71, 72, 73, 74, 75] (by decide +kernel) (by decide +kernel)
set_option maxRecDepth 20000 in
theorem gX5_giveHandTo_X5_startTable : GoodIn wsX5_giveHandTo (wsV RX5 57 RX5 yX5_startTable wsX5_startTable) := goodIn_app (goodIn_of _ (by decide +kernel)) ggX5_giveHandTo_X5_startTable
theorem dX5_giveHandTo_0 : decode cX5_giveHandTo 0 = .ok (.aload_n 0, 1) := by decide +kernel
theorem dX5_giveHandTo_1 : decode cX5_giveHandTo 1 = .ok (.getfield 12, 3) := by decide +kernel
theorem dX5_giveHandTo_4 : decode cX5_giveHandTo 4 = .ok (.getfield 63, 3) := by decide +kernel
theorem dX5_giveHandTo_7 : decode cX5_giveHandTo 7 = .ok (.ifCond .eq 10, 3) := by decide +kernel
theorem dX5_giveHandTo_10 : decode cX5_giveHandTo 10 = .ok (.aload_n 1, 1) := by decide +kernel
theorem dX5_giveHandTo_11 : decode cX5_giveHandTo 11 = .ok (.invokevirtual 148, 3) := by decide +kernel
theorem dX5_giveHandTo_14 : decode cX5_giveHandTo 14 = .ok (.ifCond .eq 5, 3) := by decide +kernel
theorem dX5_giveHandTo_17 : decode cX5_giveHandTo 17 = .ok (.iconst (-1), 1) := by decide +kernel
theorem dX5_giveHandTo_18 : decode cX5_giveHandTo 18 = .ok (.ireturn, 1) := by decide +kernel
theorem dX5_giveHandTo_19 : decode cX5_giveHandTo 19 = .ok (.aload_n 1, 1) := by decide +kernel
theorem dX5_giveHandTo_20 : decode cX5_giveHandTo 20 = .ok (.aload_n 0, 1) := by decide +kernel
theorem dX5_giveHandTo_21 : decode cX5_giveHandTo 21 = .ok (.getfield 12, 3) := by decide +kernel
theorem dX5_giveHandTo_24 : decode cX5_giveHandTo 24 = .ok (.invokevirtual 151, 3) := by decide +kernel
theorem dX5_giveHandTo_27 : decode cX5_giveHandTo 27 = .ok (.aload_n 0, 1) := by decide +kernel
theorem dX5_giveHandTo_28 : decode cX5_giveHandTo 28 = .ok (.getfield 12, 3) := by decide +kernel
theorem dX5_giveHandTo_31 : decode cX5_giveHandTo 31 = .ok (.iconst 0, 1) := by decide +kernel
theorem dX5_giveHandTo_32 : decode cX5_giveHandTo 32 = .ok (.putfield 63, 3) := by decide +kernel
theorem dX5_giveHandTo_35 : decode cX5_giveHandTo 35 = .ok (.aload_n 0, 1) := by decide +kernel
theorem dX5_giveHandTo_36 : decode cX5_giveHandTo 36 = .ok (.invokevirtual 57, 3) := by decide +kernel
theorem dX5_giveHandTo_39 : decode cX5_giveHandTo 39 = .ok (.aload_n 1, 1) := by decide +kernel
theorem dX5_giveHandTo_40 : decode cX5_giveHandTo 40 = .ok (.getfield 60, 3) := by decide +kernel
theorem dX5_giveHandTo_43 : decode cX5_giveHandTo 43 = .ok (.ireturn, 1) := by decide +kernel
set_option maxRecDepth 20000 in
theorem ggX6_init_X6_begin : GoodIn wsX6_init wsX6_begin := goodIn_r _ [20, 21, 22, 23, 6, 24, 25, 26, 19, 27, 28, 7, 8, 29, 30, 31, 32, 33, 34, 35, 36, 37, 38, 39, 40, 41, 42, 43, 44, 45] (by decide +kernel) (by decide +kernel)
set_option maxRecDepth 20000 in
theorem gX6_init_X6_begin : GoodIn wsX6_init (wsV RX6 41 RX6 yX6_begin wsX6_begin) := goodIn_app (goodIn_of _ (by decide +kernel)) ggX6_init_X6_begin
theorem dX6_init_0 : decode cX6_init 0 = .ok (.aload_n 0, 1) := by decide +kernel
theorem dX6_init_1 : decode cX6_init 1 = .ok (.invokespecial 1, 3) := by decide +kernel
theorem dX6_init_4 : decode cX6_init 4 = .ok (.aload_n 0, 1) := by decide +kernel
theorem dX6_init_5 : decode cX6_init 5 = .ok (.sipush 384, 3) := by decide +kernel
theorem dX6_init_8 : decode cX6_init 8 = .ok (.newarray .int, 2) := by decide +kernel
end
section
theorem dX6_init_10 : decode cX6_init 10 = .ok (.putfield 7, 3) := by decide +kernel
theorem dX6_init_13 : decode cX6_init 13 = .ok (.aload_n 0, 1) := by decide +kernel
theorem dX6_init_14 : decode cX6_init 14 = .ok (.bipush 16, 2) := by decide +kernel
theorem dX6_init_16 : decode cX6_init 16 = .ok (.newarray .int, 2) := by decide +kernel
theorem dX6_init_18 : decode cX6_init 18 = .ok (.putfield 13, 3) := by decide +kernel
theorem dX6_init_21 : decode cX6_init 21 = .ok (.aload_n 0, 1) := by decide +kernel
theorem dX6_init_22 : decode cX6_init 22 = .ok (.sipush 200, 3) := by decide +kernel
theorem dX6_init_25 : decode cX6_init 25 = .ok (.newarray .int, 2) := by decide +kernel
theorem dX6_init_27 : decode cX6_init 27 = .ok (.putfield 16, 3) := by decide +kernel
theorem dX6_init_30 : decode cX6_init 30 = .ok (.aload_n 0, 1) := by decide +kernel
theorem dX6_init_31 : decode cX6_init 31 = .ok (.sipush 1200, 3) := by decide +kernel
theorem dX6_init_34 : decode cX6_init 34 = .ok (.newarray .int, 2) := by decide +kernel
theorem dX6_init_36 : decode cX6_init 36 = .ok (.putfield 19, 3) := by decide +kernel
theorem dX6_init_39 : decode cX6_init 39 = .ok (.aload_n 0, 1) := by decide +kernel
theorem dX6_init_40 : decode cX6_init 40 = .ok (.sipush 8000, 3) := by decide +kernel
theorem dX6_init_43 : decode cX6_init 43 = .ok (.newarray .int, 2) := by decide +kernel
theorem dX6_init_45 : decode cX6_init 45 = .ok (.putfield 22, 3) := by decide +kernel
theorem dX6_init_48 : decode cX6_init 48 = .ok (.aload_n 0, 1) := by decide +kernel
theorem dX6_init_49 : decode cX6_init 49 = .ok (.sipush 8000, 3) := by decide +kernel
theorem dX6_init_52 : decode cX6_init 52 = .ok (.newarray .int, 2) := by decide +kernel
theorem dX6_init_54 : decode cX6_init 54 = .ok (.putfield 25, 3) := by decide +kernel
theorem dX6_init_57 : decode cX6_init 57 = .ok (.aload_n 0, 1) := by decide +kernel
theorem dX6_init_58 : decode cX6_init 58 = .ok (.sipush 200, 3) := by decide +kernel
theorem dX6_init_61 : decode cX6_init 61 = .ok (.newarray .int, 2) := by decide +kernel
theorem dX6_init_63 : decode cX6_init 63 = .ok (.putfield 28, 3) := by decide +kernel
theorem dX6_init_66 : decode cX6_init 66 = .ok (.aload_n 0, 1) := by decide +kernel
theorem dX6_init_67 : decode cX6_init 67 = .ok (.sipush 200, 3) := by decide +kernel
theorem dX6_init_70 : decode cX6_init 70 = .ok (.newarray .int, 2) := by decide +kernel
theorem dX6_init_72 : decode cX6_init 72 = .ok (.putfield 31, 3) := by decide +kernel
theorem dX6_init_75 : decode cX6_init 75 = .ok (.aload_n 0, 1) := by decide +kernel
theorem dX6_init_76 : decode cX6_init 76 = .ok (.sipush 200, 3) := by decide +kernel
theorem dX6_init_79 : decode cX6_init 79 = .ok (.newarray .boolean, 2) := by decide +kernel
theorem dX6_init_81 : decode cX6_init 81 = .ok (.putfield 34, 3) := by decide +kernel
theorem dX6_init_84 : decode cX6_init 84 = .ok (.aload_n 0, 1) := by decide +kernel
theorem dX6_init_85 : decode cX6_init 85 = .ok (.sipush 200, 3) := by decide +kernel
theorem dX6_init_88 : decode cX6_init 88 = .ok (.newarray .int, 2) := by decide +kernel
theorem dX6_init_90 : decode cX6_init 90 = .ok (.putfield 38, 3) := by decide +kernel
theorem dX6_init_93 : decode cX6_init 93 = .ok (.aload_n 0, 1) := by decide +kernel
theorem dX6_init_94 : decode cX6_init 94 = .ok (.iconst 1, 1) := by decide +kernel
theorem dX6_init_95 : decode cX6_init 95 = .ok (.invokevirtual 41, 3) := by decide +kernel
theorem dX6_init_98 : decode cX6_init 98 = .ok (.istore_n 1, 1) := by decide +kernel
theorem dX6_init_99 : decode cX6_init 99 = .ok (.return_, 1) := by decide +kernel
theorem dX6_fresh_0 : decode cX6_fresh 0 = .ok (.aload_n 0, 1) := by decide +kernel
theorem dX6_fresh_1 : decode cX6_fresh 1 = .ok (.iconst 1, 1) := by decide +kernel
theorem dX6_fresh_2 : decode cX6_fresh 2 = .ok (.putfield 45, 3) := by decide +kernel
theorem dX6_fresh_5 : decode cX6_fresh 5 = .ok (.aload_n 0, 1) := by decide +kernel
theorem dX6_fresh_6 : decode cX6_fresh 6 = .ok (.getfield 16, 3) := by decide +kernel
theorem dX6_fresh_9 : decode cX6_fresh 9 = .ok (.iconst 0, 1) := by decide +kernel
theorem dX6_fresh_10 : decode cX6_fresh 10 = .ok (.iconst 0, 1) := by decide +kernel
theorem dX6_fresh_11 : decode cX6_fresh 11 = .ok (.iastore, 1) := by decide +kernel
theorem dX6_fresh_12 : decode cX6_fresh 12 = .ok (.iconst 0, 1) := by decide +kernel
theorem dX6_fresh_13 : decode cX6_fresh 13 = .ok (.istore_n 1, 1) := by decide +kernel
theorem dX6_fresh_14 : decode cX6_fresh 14 = .ok (.iload_n 1, 1) := by decide +kernel
theorem dX6_fresh_15 : decode cX6_fresh 15 = .ok (.sipush 1200, 3) := by decide +kernel
theorem dX6_fresh_18 : decode cX6_fresh 18 = .ok (.if_icmp .ge 16, 3) := by decide +kernel
theorem dX6_fresh_21 : decode cX6_fresh 21 = .ok (.aload_n 0, 1) := by decide +kernel
theorem dX6_fresh_22 : decode cX6_fresh 22 = .ok (.getfield 19, 3) := by decide +kernel
theorem dX6_fresh_25 : decode cX6_fresh 25 = .ok (.iload_n 1, 1) := by decide +kernel
theorem dX6_fresh_26 : decode cX6_fresh 26 = .ok (.iconst (-1), 1) := by decide +kernel
theorem dX6_fresh_27 : decode cX6_fresh 27 = .ok (.iastore, 1) := by decide +kernel
theorem dX6_fresh_28 : decode cX6_fresh 28 = .ok (.iinc 1 1, 3) := by decide +kernel
theorem dX6_fresh_31 : decode cX6_fresh 31 = .ok (.goto (-17), 3) := by decide +kernel
theorem dX6_fresh_34 : decode cX6_fresh 34 = .ok (.return_, 1) := by decide +kernel
set_option maxRecDepth 20000 in
theorem ggX6_begin_X6_fresh : GoodIn wsX6_begin wsX6_fresh := goodIn_r _ [9, 10, 11, 12, 13, 14, 15, 16, 17, 18, 19, 20, 21, 22, 23, 24, 25, 26, 27, 28, 29] (by decide +kernel) (by decide +kernel)
set_option maxRecDepth 20000 in
theorem gX6_begin_X6_fresh : GoodIn wsX6_begin (wsV RX6 58 RX6 yX6_fresh wsX6_fresh) := goodIn_app (goodIn_of _ (by decide +kernel)) ggX6_begin_X6_fresh
theorem dX6_begin_0 : decode cX6_begin 0 = .ok (.iload_n 1, 1) := by decide +kernel
theorem dX6_begin_1 : decode cX6_begin 1 = .ok (.iconst 1, 1) := by decide +kernel
theorem dX6_begin_2 : decode cX6_begin 2 = .ok (.if_icmp .lt 8, 3) := by decide +kernel
theorem dX6_begin_5 : decode cX6_begin 5 = .ok (.iload_n 1, 1) := by decide +kernel
theorem dX6_begin_6 : decode cX6_begin 6 = .ok (.iconst 3, 1) := by decide +kernel
theorem dX6_begin_7 : decode cX6_begin 7 = .ok (.if_icmp .le 5, 3) := by decide +kernel
theorem dX6_begin_10 : decode cX6_begin 10 = .ok (.iconst (-1), 1) := by decide +kernel
theorem dX6_begin_11 : decode cX6_begin 11 = .ok (.ireturn, 1) := by decide +kernel
theorem dX6_begin_12 : decode cX6_begin 12 = .ok (.aload_n 0, 1) := by decide +kernel
theorem dX6_begin_13 : decode cX6_begin 13 = .ok (.iload_n 1, 1) := by decide +kernel
theorem dX6_begin_14 : decode cX6_begin 14 = .ok (.putfield 49, 3) := by decide +kernel
theorem dX6_begin_17 : decode cX6_begin 17 = .ok (.aload_n 0, 1) := by decide +kernel
theorem dX6_begin_18 : decode cX6_begin 18 = .ok (.iconst 0, 1) := by decide +kernel
theorem dX6_begin_19 : decode cX6_begin 19 = .ok (.putfield 52, 3) := by decide +kernel
theorem dX6_begin_22 : decode cX6_begin 22 = .ok (.aload_n 0, 1) := by decide +kernel
theorem dX6_begin_23 : decode cX6_begin 23 = .ok (.iconst 0, 1) := by decide +kernel
theorem dX6_begin_24 : decode cX6_begin 24 = .ok (.putfield 55, 3) := by decide +kernel
theorem dX6_begin_27 : decode cX6_begin 27 = .ok (.aload_n 0, 1) := by decide +kernel
theorem dX6_begin_28 : decode cX6_begin 28 = .ok (.getfield 13, 3) := by decide +kernel
theorem dX6_begin_31 : decode cX6_begin 31 = .ok (.bipush 15, 2) := by decide +kernel
theorem dX6_begin_33 : decode cX6_begin 33 = .ok (.iconst 0, 1) := by decide +kernel
theorem dX6_begin_34 : decode cX6_begin 34 = .ok (.iastore, 1) := by decide +kernel
theorem dX6_begin_35 : decode cX6_begin 35 = .ok (.aload_n 0, 1) := by decide +kernel
theorem dX6_begin_36 : decode cX6_begin 36 = .ok (.invokevirtual 58, 3) := by decide +kernel
theorem dX6_begin_39 : decode cX6_begin 39 = .ok (.iconst 0, 1) := by decide +kernel
theorem dX6_begin_40 : decode cX6_begin 40 = .ok (.ireturn, 1) := by decide +kernel
theorem dX6_isLetter_0 : decode cX6_isLetter 0 = .ok (.iload_n 1, 1) := by decide +kernel
theorem dX6_isLetter_1 : decode cX6_isLetter 1 = .ok (.ifCond .eq 24, 3) := by decide +kernel
theorem dX6_isLetter_4 : decode cX6_isLetter 4 = .ok (.iload_n 1, 1) := by decide +kernel
theorem dX6_isLetter_5 : decode cX6_isLetter 5 = .ok (.aload_n 0, 1) := by decide +kernel
theorem dX6_isLetter_6 : decode cX6_isLetter 6 = .ok (.getfield 49, 3) := by decide +kernel
theorem dX6_isLetter_9 : decode cX6_isLetter 9 = .ok (.ineg, 1) := by decide +kernel
theorem dX6_isLetter_10 : decode cX6_isLetter 10 = .ok (.if_icmp .lt 15, 3) := by decide +kernel
theorem dX6_isLetter_13 : decode cX6_isLetter 13 = .ok (.iload_n 1, 1) := by decide +kernel
theorem dX6_isLetter_14 : decode cX6_isLetter 14 = .ok (.aload_n 0, 1) := by decide +kernel
theorem dX6_isLetter_15 : decode cX6_isLetter 15 = .ok (.getfield 49, 3) := by decide +kernel
theorem dX6_isLetter_18 : decode cX6_isLetter 18 = .ok (.if_icmp .gt 7, 3) := by decide +kernel
theorem dX6_isLetter_21 : decode cX6_isLetter 21 = .ok (.iconst 1, 1) := by decide +kernel
theorem dX6_isLetter_22 : decode cX6_isLetter 22 = .ok (.goto 4, 3) := by decide +kernel
theorem dX6_isLetter_25 : decode cX6_isLetter 25 = .ok (.iconst 0, 1) := by decide +kernel
theorem dX6_isLetter_26 : decode cX6_isLetter 26 = .ok (.ireturn, 1) := by decide +kernel
theorem dX6_column_0 : decode cX6_column 0 = .ok (.iload_n 0, 1) := by decide +kernel
theorem dX6_column_1 : decode cX6_column 1 = .ok (.ifCond .le 11, 3) := by decide +kernel
theorem dX6_column_4 : decode cX6_column 4 = .ok (.iconst 2, 1) := by decide +kernel
theorem dX6_column_5 : decode cX6_column 5 = .ok (.iload_n 0, 1) := by decide +kernel
theorem dX6_column_6 : decode cX6_column 6 = .ok (.imul, 1) := by decide +kernel
theorem dX6_column_7 : decode cX6_column 7 = .ok (.iconst 2, 1) := by decide +kernel
theorem dX6_column_8 : decode cX6_column 8 = .ok (.isub, 1) := by decide +kernel
theorem dX6_column_9 : decode cX6_column 9 = .ok (.goto 9, 3) := by decide +kernel
theorem dX6_column_12 : decode cX6_column 12 = .ok (.bipush (-2), 2) := by decide +kernel
theorem dX6_column_14 : decode cX6_column 14 = .ok (.iload_n 0, 1) := by decide +kernel
theorem dX6_column_15 : decode cX6_column 15 = .ok (.imul, 1) := by decide +kernel
theorem dX6_column_16 : decode cX6_column 16 = .ok (.iconst 1, 1) := by decide +kernel
theorem dX6_column_17 : decode cX6_column 17 = .ok (.isub, 1) := by decide +kernel
theorem dX6_column_18 : decode cX6_column 18 = .ok (.ireturn, 1) := by decide +kernel
set_option maxRecDepth 20000 in
theorem ggX6_letter_X6_isLetter : GoodIn wsX6_letter wsX6_isLetter := goodIn_r _ [7, 8, 12, 13, 14, 15, 16, 17, 18, 19, 20, 21, 22, 23, 24, 25, 26, 27, 28] (by decide +kernel) (by decide +kernel)
set_option maxRecDepth 20000 in
theorem gX6_letter_X6_isLetter : GoodIn wsX6_letter (wsV RX6 61 RX6 yX6_isLetter wsX6_isLetter) := goodIn_app (goodIn_of _ (by decide +kernel)) ggX6_letter_X6_isLetter
set_option maxRecDepth 20000 in
theorem ggX6_letter_X6_column : GoodIn wsX6_letter wsX6_column := goodIn_r _ [11] (by decide +kernel) (by decide +kernel)
set_option maxRecDepth 20000 in
theorem gX6_letter_X6_column : GoodIn wsX6_letter (va_wsS RX6 65 yX6_column wsX6_column) := goodIn_app (goodIn_of _ (by decide +kernel)) ggX6_letter_X6_column
theorem dX6_letter_0 : decode cX6_letter 0 = .ok (.aload_n 0, 1) := by decide +kernel
theorem dX6_letter_1 : decode cX6_letter 1 = .ok (.iload_n 1, 1) := by decide +kernel
theorem dX6_letter_2 : decode cX6_letter 2 = .ok (.invokevirtual 61, 3) := by decide +kernel
theorem dX6_letter_5 : decode cX6_letter 5 = .ok (.ifCond .eq 15, 3) := by decide +kernel
theorem dX6_letter_8 : decode cX6_letter 8 = .ok (.aload_n 0, 1) := by decide +kernel
theorem dX6_letter_9 : decode cX6_letter 9 = .ok (.getfield 13, 3) := by decide +kernel
theorem dX6_letter_12 : decode cX6_letter 12 = .ok (.bipush 15, 2) := by decide +kernel
theorem dX6_letter_14 : decode cX6_letter 14 = .ok (.iaload, 1) := by decide +kernel
theorem dX6_letter_15 : decode cX6_letter 15 = .ok (.bipush 24, 2) := by decide +kernel
theorem dX6_letter_17 : decode cX6_letter 17 = .ok (.if_icmp .ne 5, 3) := by decide +kernel
theorem dX6_letter_20 : decode cX6_letter 20 = .ok (.iconst (-1), 1) := by decide +kernel
theorem dX6_letter_21 : decode cX6_letter 21 = .ok (.ireturn, 1) := by decide +kernel
theorem dX6_letter_22 : decode cX6_letter 22 = .ok (.aload_n 0, 1) := by decide +kernel
theorem dX6_letter_23 : decode cX6_letter 23 = .ok (.getfield 7, 3) := by decide +kernel
theorem dX6_letter_26 : decode cX6_letter 26 = .ok (.sipush 360, 3) := by decide +kernel
theorem dX6_letter_29 : decode cX6_letter 29 = .ok (.aload_n 0, 1) := by decide +kernel
theorem dX6_letter_30 : decode cX6_letter 30 = .ok (.getfield 13, 3) := by decide +kernel
theorem dX6_letter_33 : decode cX6_letter 33 = .ok (.bipush 15, 2) := by decide +kernel
theorem dX6_letter_35 : decode cX6_letter 35 = .ok (.iaload, 1) := by decide +kernel
theorem dX6_letter_36 : decode cX6_letter 36 = .ok (.iadd, 1) := by decide +kernel
theorem dX6_letter_37 : decode cX6_letter 37 = .ok (.iload_n 1, 1) := by decide +kernel
theorem dX6_letter_38 : decode cX6_letter 38 = .ok (.invokestatic 65, 3) := by decide +kernel
theorem dX6_letter_41 : decode cX6_letter 41 = .ok (.iastore, 1) := by decide +kernel
theorem dX6_letter_42 : decode cX6_letter 42 = .ok (.aload_n 0, 1) := by decide +kernel
theorem dX6_letter_43 : decode cX6_letter 43 = .ok (.getfield 13, 3) := by decide +kernel
theorem dX6_letter_46 : decode cX6_letter 46 = .ok (.bipush 15, 2) := by decide +kernel
theorem dX6_letter_48 : decode cX6_letter 48 = .ok (.dup2, 1) := by decide +kernel
theorem dX6_letter_49 : decode cX6_letter 49 = .ok (.iaload, 1) := by decide +kernel
theorem dX6_letter_50 : decode cX6_letter 50 = .ok (.iconst 1, 1) := by decide +kernel
theorem dX6_letter_51 : decode cX6_letter 51 = .ok (.iadd, 1) := by decide +kernel
theorem dX6_letter_52 : decode cX6_letter 52 = .ok (.iastore, 1) := by decide +kernel
theorem dX6_letter_53 : decode cX6_letter 53 = .ok (.aload_n 0, 1) := by decide +kernel
theorem dX6_letter_54 : decode cX6_letter 54 = .ok (.getfield 13, 3) := by decide +kernel
theorem dX6_letter_57 : decode cX6_letter 57 = .ok (.bipush 15, 2) := by decide +kernel
theorem dX6_letter_59 : decode cX6_letter 59 = .ok (.iaload, 1) := by decide +kernel
theorem dX6_letter_60 : decode cX6_letter 60 = .ok (.ireturn, 1) := by decide +kernel
theorem dX6_clear_0 : decode cX6_clear 0 = .ok (.aload_n 0, 1) := by decide +kernel
theorem dX6_clear_1 : decode cX6_clear 1 = .ok (.getfield 13, 3) := by decide +kernel
theorem dX6_clear_4 : decode cX6_clear 4 = .ok (.bipush 15, 2) := by decide +kernel
theorem dX6_clear_6 : decode cX6_clear 6 = .ok (.iaload, 1) := by decide +kernel
theorem dX6_clear_7 : decode cX6_clear 7 = .ok (.istore_n 1, 1) := by decide +kernel
theorem dX6_clear_8 : decode cX6_clear 8 = .ok (.aload_n 0, 1) := by decide +kernel
theorem dX6_clear_9 : decode cX6_clear 9 = .ok (.getfield 13, 3) := by decide +kernel
theorem dX6_clear_12 : decode cX6_clear 12 = .ok (.bipush 15, 2) := by decide +kernel
theorem dX6_clear_14 : decode cX6_clear 14 = .ok (.iconst 0, 1) := by decide +kernel
theorem dX6_clear_15 : decode cX6_clear 15 = .ok (.iastore, 1) := by decide +kernel
theorem dX6_clear_16 : decode cX6_clear 16 = .ok (.iload_n 1, 1) := by decide +kernel
theorem dX6_clear_17 : decode cX6_clear 17 = .ok (.ireturn, 1) := by decide +kernel
set_option maxRecDepth 20000 in
theorem ggX6_become_X6_fresh : GoodIn wsX6_become wsX6_fresh := goodIn_r _ [7, 8, 9, 10, 11, 12, 13, 14, 15, 16, 17, 18, 19, 20, 21, 22, 23, 24, 25, 26, 27] (by decide +kernel) (by decide +kernel)
set_option maxRecDepth 20000 in
theorem gX6_become_X6_fresh : GoodIn wsX6_become (wsV RX6 58 RX6 yX6_fresh wsX6_fresh) := goodIn_app (goodIn_of _ (by decide +kernel)) ggX6_become_X6_fresh
theorem dX6_become_0 : decode cX6_become 0 = .ok (.iconst 0, 1) := by decide +kernel
theorem dX6_become_1 : decode cX6_become 1 = .ok (.istore_n 2, 1) := by decide +kernel
theorem dX6_become_2 : decode cX6_become 2 = .ok (.iload_n 2, 1) := by decide +kernel
theorem dX6_become_3 : decode cX6_become 3 = .ok (.aload_n 0, 1) := by decide +kernel
theorem dX6_become_4 : decode cX6_become 4 = .ok (.getfield 13, 3) := by decide +kernel
theorem dX6_become_7 : decode cX6_become 7 = .ok (.bipush 15, 2) := by decide +kernel
theorem dX6_become_9 : decode cX6_become 9 = .ok (.iaload, 1) := by decide +kernel
theorem dX6_become_10 : decode cX6_become 10 = .ok (.if_icmp .ge 30, 3) := by decide +kernel
theorem dX6_become_13 : decode cX6_become 13 = .ok (.aload_n 0, 1) := by decide +kernel
theorem dX6_become_14 : decode cX6_become 14 = .ok (.getfield 7, 3) := by decide +kernel
theorem dX6_become_17 : decode cX6_become 17 = .ok (.bipush 24, 2) := by decide +kernel
theorem dX6_become_19 : decode cX6_become 19 = .ok (.iload_n 1, 1) := by decide +kernel
theorem dX6_become_20 : decode cX6_become 20 = .ok (.imul, 1) := by decide +kernel
theorem dX6_become_21 : decode cX6_become 21 = .ok (.iload_n 2, 1) := by decide +kernel
theorem dX6_become_22 : decode cX6_become 22 = .ok (.iadd, 1) := by decide +kernel
theorem dX6_become_23 : decode cX6_become 23 = .ok (.aload_n 0, 1) := by decide +kernel
theorem dX6_become_24 : decode cX6_become 24 = .ok (.getfield 7, 3) := by decide +kernel
theorem dX6_become_27 : decode cX6_become 27 = .ok (.sipush 360, 3) := by decide +kernel
theorem dX6_become_30 : decode cX6_become 30 = .ok (.iload_n 2, 1) := by decide +kernel
theorem dX6_become_31 : decode cX6_become 31 = .ok (.iadd, 1) := by decide +kernel
theorem dX6_become_32 : decode cX6_become 32 = .ok (.iaload, 1) := by decide +kernel
theorem dX6_become_33 : decode cX6_become 33 = .ok (.iastore, 1) := by decide +kernel
theorem dX6_become_34 : decode cX6_become 34 = .ok (.iinc 2 1, 3) := by decide +kernel
theorem dX6_become_37 : decode cX6_become 37 = .ok (.goto (-35), 3) := by decide +kernel
theorem dX6_become_40 : decode cX6_become 40 = .ok (.aload_n 0, 1) := by decide +kernel
theorem dX6_become_41 : decode cX6_become 41 = .ok (.getfield 13, 3) := by decide +kernel
theorem dX6_become_44 : decode cX6_become 44 = .ok (.iload_n 1, 1) := by decide +kernel
theorem dX6_become_45 : decode cX6_become 45 = .ok (.aload_n 0, 1) := by decide +kernel
theorem dX6_become_46 : decode cX6_become 46 = .ok (.getfield 13, 3) := by decide +kernel
theorem dX6_become_49 : decode cX6_become 49 = .ok (.bipush 15, 2) := by decide +kernel
theorem dX6_become_51 : decode cX6_become 51 = .ok (.iaload, 1) := by decide +kernel
theorem dX6_become_52 : decode cX6_become 52 = .ok (.iastore, 1) := by decide +kernel
theorem dX6_become_53 : decode cX6_become 53 = .ok (.aload_n 0, 1) := by decide +kernel
theorem dX6_become_54 : decode cX6_become 54 = .ok (.getfield 13, 3) := by decide +kernel
theorem dX6_become_57 : decode cX6_become 57 = .ok (.bipush 15, 2) := by decide +kernel
theorem dX6_become_59 : decode cX6_become 59 = .ok (.iconst 0, 1) := by decide +kernel
theorem dX6_become_60 : decode cX6_become 60 = .ok (.iastore, 1) := by decide +kernel
theorem dX6_become_61 : decode cX6_become 61 = .ok (.aload_n 0, 1) := by decide +kernel
theorem dX6_become_62 : decode cX6_become 62 = .ok (.invokevirtual 58, 3) := by decide +kernel
theorem dX6_become_65 : decode cX6_become 65 = .ok (.return_, 1) := by decide +kernel
set_option maxRecDepth 20000 in
theorem ggX6_relator_X6_become : GoodIn wsX6_relator wsX6_become := goodIn_r _ [7, 1, 8, 9, 10, 11, 6, 12, 13, 14, 15, 16, 17, 18, 19, 20, 21, 22, 23, 24, 25, 26, 27, 28, 29, 30, 31, 32] (by decide +kernel) (by decide +kernel)
set_option maxRecDepth 20000 in
theorem gX6_relator_X6_become : GoodIn wsX6_relator (wsV RX6 68 RX6 yX6_become wsX6_become) := goodIn_app (goodIn_of _ (by decide +kernel)) ggX6_relator_X6_become
theorem dX6_relator_0 : decode cX6_relator 0 = .ok (.aload_n 0, 1) := by decide +kernel
theorem dX6_relator_1 : decode cX6_relator 1 = .ok (.getfield 13, 3) := by decide +kernel
theorem dX6_relator_4 : decode cX6_relator 4 = .ok (.bipush 15, 2) := by decide +kernel
theorem dX6_relator_6 : decode cX6_relator 6 = .ok (.iaload, 1) := by decide +kernel
theorem dX6_relator_7 : decode cX6_relator 7 = .ok (.ifCond .eq 12, 3) := by decide +kernel
theorem dX6_relator_10 : decode cX6_relator 10 = .ok (.aload_n 0, 1) := by decide +kernel
theorem dX6_relator_11 : decode cX6_relator 11 = .ok (.getfield 52, 3) := by decide +kernel
theorem dX6_relator_14 : decode cX6_relator 14 = .ok (.bipush 10, 2) := by decide +kernel
theorem dX6_relator_16 : decode cX6_relator 16 = .ok (.if_icmp .ne 5, 3) := by decide +kernel
theorem dX6_relator_19 : decode cX6_relator 19 = .ok (.iconst (-1), 1) := by decide +kernel
theorem dX6_relator_20 : decode cX6_relator 20 = .ok (.ireturn, 1) := by decide +kernel
theorem dX6_relator_21 : decode cX6_relator 21 = .ok (.aload_n 0, 1) := by decide +kernel
theorem dX6_relator_22 : decode cX6_relator 22 = .ok (.aload_n 0, 1) := by decide +kernel
theorem dX6_relator_23 : decode cX6_relator 23 = .ok (.getfield 52, 3) := by decide +kernel
theorem dX6_relator_26 : decode cX6_relator 26 = .ok (.invokevirtual 68, 3) := by decide +kernel
theorem dX6_relator_29 : decode cX6_relator 29 = .ok (.aload_n 0, 1) := by decide +kernel
theorem dX6_relator_30 : decode cX6_relator 30 = .ok (.dup, 1) := by decide +kernel
theorem dX6_relator_31 : decode cX6_relator 31 = .ok (.getfield 52, 3) := by decide +kernel
theorem dX6_relator_34 : decode cX6_relator 34 = .ok (.iconst 1, 1) := by decide +kernel
theorem dX6_relator_35 : decode cX6_relator 35 = .ok (.iadd, 1) := by decide +kernel
theorem dX6_relator_36 : decode cX6_relator 36 = .ok (.putfield 52, 3) := by decide +kernel
theorem dX6_relator_39 : decode cX6_relator 39 = .ok (.aload_n 0, 1) := by decide +kernel
theorem dX6_relator_40 : decode cX6_relator 40 = .ok (.getfield 52, 3) := by decide +kernel
theorem dX6_relator_43 : decode cX6_relator 43 = .ok (.ireturn, 1) := by decide +kernel
set_option maxRecDepth 20000 in
theorem ggX6_subgroup_X6_become : GoodIn wsX6_subgroup wsX6_become := goodIn_r _ [7, 1, 8, 9, 10, 11, 6, 12, 13, 14, 15, 16, 17, 18, 19, 20, 21, 22, 23, 24, 25, 26, 27, 28, 29, 30, 31, 32] (by decide +kernel) (by decide +kernel)
set_option maxRecDepth 20000 in
theorem gX6_subgroup_X6_become : GoodIn wsX6_subgroup (wsV RX6 68 RX6 yX6_become wsX6_become) := goodIn_app (goodIn_of _ (by decide +kernel)) ggX6_subgroup_X6_become
theorem dX6_subgroup_0 : decode cX6_subgroup 0 = .ok (.aload_n 0, 1) := by decide +kernel
theorem dX6_subgroup_1 : decode cX6_subgroup 1 = .ok (.getfield 13, 3) := by decide +kernel
theorem dX6_subgroup_4 : decode cX6_subgroup 4 = .ok (.bipush 15, 2) := by decide +kernel
theorem dX6_subgroup_6 : decode cX6_subgroup 6 = .ok (.iaload, 1) := by decide +kernel
theorem dX6_subgroup_7 : decode cX6_subgroup 7 = .ok (.ifCond .eq 11, 3) := by decide +kernel
theorem dX6_subgroup_10 : decode cX6_subgroup 10 = .ok (.aload_n 0, 1) := by decide +kernel
theorem dX6_subgroup_11 : decode cX6_subgroup 11 = .ok (.getfield 55, 3) := by decide +kernel
theorem dX6_subgroup_14 : decode cX6_subgroup 14 = .ok (.iconst 5, 1) := by decide +kernel
theorem dX6_subgroup_15 : decode cX6_subgroup 15 = .ok (.if_icmp .ne 5, 3) := by decide +kernel
theorem dX6_subgroup_18 : decode cX6_subgroup 18 = .ok (.iconst (-1), 1) := by decide +kernel
theorem dX6_subgroup_19 : decode cX6_subgroup 19 = .ok (.ireturn, 1) := by decide +kernel
theorem dX6_subgroup_20 : decode cX6_subgroup 20 = .ok (.aload_n 0, 1) := by decide +kernel
theorem dX6_subgroup_21 : decode cX6_subgroup 21 = .ok (.bipush 10, 2) := by decide +kernel
theorem dX6_subgroup_23 : decode cX6_subgroup 23 = .ok (.aload_n 0, 1) := by decide +kernel
theorem dX6_subgroup_24 : decode cX6_subgroup 24 = .ok (.getfield 55, 3) := by decide +kernel
theorem dX6_subgroup_27 : decode cX6_subgroup 27 = .ok (.iadd, 1) := by decide +kernel
theorem dX6_subgroup_28 : decode cX6_subgroup 28 = .ok (.invokevirtual 68, 3) := by decide +kernel
theorem dX6_subgroup_31 : decode cX6_subgroup 31 = .ok (.aload_n 0, 1) := by decide +kernel
theorem dX6_subgroup_32 : decode cX6_subgroup 32 = .ok (.dup, 1) := by decide +kernel
theorem dX6_subgroup_33 : decode cX6_subgroup 33 = .ok (.getfield 55, 3) := by decide +kernel
theorem dX6_subgroup_36 : decode cX6_subgroup 36 = .ok (.iconst 1, 1) := by decide +kernel
theorem dX6_subgroup_37 : decode cX6_subgroup 37 = .ok (.iadd, 1) := by decide +kernel
theorem dX6_subgroup_38 : decode cX6_subgroup 38 = .ok (.putfield 55, 3) := by decide +kernel
theorem dX6_subgroup_41 : decode cX6_subgroup 41 = .ok (.aload_n 0, 1) := by decide +kernel
theorem dX6_subgroup_42 : decode cX6_subgroup 42 = .ok (.getfield 55, 3) := by decide +kernel
theorem dX6_subgroup_45 : decode cX6_subgroup 45 = .ok (.ireturn, 1) := by decide +kernel
theorem dX6_real_0 : decode cX6_real 0 = .ok (.iload_n 1, 1) := by decide +kernel
theorem dX6_real_1 : decode cX6_real 1 = .ok (.istore_n 2, 1) := by decide +kernel
theorem dX6_real_2 : decode cX6_real 2 = .ok (.aload_n 0, 1) := by decide +kernel
theorem dX6_real_3 : decode cX6_real 3 = .ok (.getfield 16, 3) := by decide +kernel
theorem dX6_real_6 : decode cX6_real 6 = .ok (.iload_n 2, 1) := by decide +kernel
theorem dX6_real_7 : decode cX6_real 7 = .ok (.iaload, 1) := by decide +kernel
theorem dX6_real_8 : decode cX6_real 8 = .ok (.iload_n 2, 1) := by decide +kernel
theorem dX6_real_9 : decode cX6_real 9 = .ok (.if_icmp .eq 13, 3) := by decide +kernel
theorem dX6_real_12 : decode cX6_real 12 = .ok (.aload_n 0, 1) := by decide +kernel
theorem dX6_real_13 : decode cX6_real 13 = .ok (.getfield 16, 3) := by decide +kernel
theorem dX6_real_16 : decode cX6_real 16 = .ok (.iload_n 2, 1) := by decide +kernel
theorem dX6_real_17 : decode cX6_real 17 = .ok (.iaload, 1) := by decide +kernel
theorem dX6_real_18 : decode cX6_real 18 = .ok (.istore_n 2, 1) := by decide +kernel
theorem dX6_real_19 : decode cX6_real 19 = .ok (.goto (-17), 3) := by decide +kernel
theorem dX6_real_22 : decode cX6_real 22 = .ok (.iload_n 2, 1) := by decide +kernel
theorem dX6_real_23 : decode cX6_real 23 = .ok (.ireturn, 1) := by decide +kernel
theorem dX6_pair_0 : decode cX6_pair 0 = .ok (.aload_n 0, 1) := by decide +kernel
theorem dX6_pair_1 : decode cX6_pair 1 = .ok (.getfield 22, 3) := by decide +kernel
theorem dX6_pair_4 : decode cX6_pair 4 = .ok (.aload_n 0, 1) := by decide +kernel
theorem dX6_pair_5 : decode cX6_pair 5 = .ok (.getfield 72, 3) := by decide +kernel
theorem dX6_pair_8 : decode cX6_pair 8 = .ok (.iload_n 1, 1) := by decide +kernel
theorem dX6_pair_9 : decode cX6_pair 9 = .ok (.iastore, 1) := by decide +kernel
theorem dX6_pair_10 : decode cX6_pair 10 = .ok (.aload_n 0, 1) := by decide +kernel
theorem dX6_pair_11 : decode cX6_pair 11 = .ok (.getfield 25, 3) := by decide +kernel
theorem dX6_pair_14 : decode cX6_pair 14 = .ok (.aload_n 0, 1) := by decide +kernel
theorem dX6_pair_15 : decode cX6_pair 15 = .ok (.getfield 72, 3) := by decide +kernel
theorem dX6_pair_18 : decode cX6_pair 18 = .ok (.iload_n 2, 1) := by decide +kernel
theorem dX6_pair_19 : decode cX6_pair 19 = .ok (.iastore, 1) := by decide +kernel
theorem dX6_pair_20 : decode cX6_pair 20 = .ok (.aload_n 0, 1) := by decide +kernel
theorem dX6_pair_21 : decode cX6_pair 21 = .ok (.dup, 1) := by decide +kernel
theorem dX6_pair_22 : decode cX6_pair 22 = .ok (.getfield 72, 3) := by decide +kernel
theorem dX6_pair_25 : decode cX6_pair 25 = .ok (.iconst 1, 1) := by decide +kernel
theorem dX6_pair_26 : decode cX6_pair 26 = .ok (.iadd, 1) := by decide +kernel
theorem dX6_pair_27 : decode cX6_pair 27 = .ok (.putfield 72, 3) := by decide +kernel
theorem dX6_pair_30 : decode cX6_pair 30 = .ok (.return_, 1) := by decide +kernel
set_option maxRecDepth 20000 in
theorem ggX6_learn_X6_real : GoodIn wsX6_learn wsX6_real := goodIn_r _ [7, 8, 16, 17, 18, 19, 20, 21, 22, 23, 24, 25, 26, 27, 28, 29, 30, 31, 32] (by decide +kernel) (by decide +kernel)
set_option maxRecDepth 20000 in
theorem gX6_learn_X6_real : GoodIn wsX6_learn (wsV RX6 75 RX6 yX6_real wsX6_real) := goodIn_app (goodIn_of _ (by decide +kernel)) ggX6_learn_X6_real
set_option maxRecDepth 20000 in
theorem ggX6_learn_X6_pair : GoodIn wsX6_learn wsX6_pair := goodIn_r _ [12, 13, 14, 15, 16, 17, 18, 19, 20, 21, 22, 23, 24, 25, 26, 27, 28, 29, 30, 31, 32] (by decide +kernel) (by decide +kernel)
set_option maxRecDepth 20000 in
theorem gX6_learn_X6_pair : GoodIn wsX6_learn (wsV RX6 82 RX6 yX6_pair wsX6_pair) := goodIn_app (goodIn_of _ (by decide +kernel)) ggX6_learn_X6_pair
theorem dX6_learn_0 : decode cX6_learn 0 = .ok (.aload_n 0, 1) := by decide +kernel
theorem dX6_learn_1 : decode cX6_learn 1 = .ok (.iload_n 1, 1) := by decide +kernel
theorem dX6_learn_2 : decode cX6_learn 2 = .ok (.invokevirtual 75, 3) := by decide +kernel
theorem dX6_learn_5 : decode cX6_learn 5 = .ok (.istore 4, 2) := by decide +kernel
theorem dX6_learn_7 : decode cX6_learn 7 = .ok (.aload_n 0, 1) := by decide +kernel
theorem dX6_learn_8 : decode cX6_learn 8 = .ok (.iload_n 3, 1) := by decide +kernel
theorem dX6_learn_9 : decode cX6_learn 9 = .ok (.invokevirtual 75, 3) := by decide +kernel
theorem dX6_learn_12 : decode cX6_learn 12 = .ok (.istore 5, 2) := by decide +kernel
theorem dX6_learn_14 : decode cX6_learn 14 = .ok (.aload_n 0, 1) := by decide +kernel
theorem dX6_learn_15 : decode cX6_learn 15 = .ok (.getfield 19, 3) := by decide +kernel
theorem dX6_learn_18 : decode cX6_learn 18 = .ok (.bipush 6, 2) := by decide +kernel
theorem dX6_learn_20 : decode cX6_learn 20 = .ok (.iload 4, 2) := by decide +kernel
theorem dX6_learn_22 : decode cX6_learn 22 = .ok (.imul, 1) := by decide +kernel
theorem dX6_learn_23 : decode cX6_learn 23 = .ok (.iload_n 2, 1) := by decide +kernel
theorem dX6_learn_24 : decode cX6_learn 24 = .ok (.iadd, 1) := by decide +kernel
theorem dX6_learn_25 : decode cX6_learn 25 = .ok (.iaload, 1) := by decide +kernel
theorem dX6_learn_26 : decode cX6_learn 26 = .ok (.istore 6, 2) := by decide +kernel
theorem dX6_learn_28 : decode cX6_learn 28 = .ok (.iload 6, 2) := by decide +kernel
theorem dX6_learn_30 : decode cX6_learn 30 = .ok (.ifCond .ge 25, 3) := by decide +kernel
theorem dX6_learn_33 : decode cX6_learn 33 = .ok (.aload_n 0, 1) := by decide +kernel
theorem dX6_learn_34 : decode cX6_learn 34 = .ok (.getfield 19, 3) := by decide +kernel
theorem dX6_learn_37 : decode cX6_learn 37 = .ok (.bipush 6, 2) := by decide +kernel
theorem dX6_learn_39 : decode cX6_learn 39 = .ok (.iload 4, 2) := by decide +kernel
theorem dX6_learn_41 : decode cX6_learn 41 = .ok (.imul, 1) := by decide +kernel
theorem dX6_learn_42 : decode cX6_learn 42 = .ok (.iload_n 2, 1) := by decide +kernel
theorem dX6_learn_43 : decode cX6_learn 43 = .ok (.iadd, 1) := by decide +kernel
theorem dX6_learn_44 : decode cX6_learn 44 = .ok (.iload 5, 2) := by decide +kernel
theorem dX6_learn_46 : decode cX6_learn 46 = .ok (.iastore, 1) := by decide +kernel
theorem dX6_learn_47 : decode cX6_learn 47 = .ok (.aload_n 0, 1) := by decide +kernel
theorem dX6_learn_48 : decode cX6_learn 48 = .ok (.iconst 1, 1) := by decide +kernel
theorem dX6_learn_49 : decode cX6_learn 49 = .ok (.putfield 78, 3) := by decide +kernel
theorem dX6_learn_52 : decode cX6_learn 52 = .ok (.goto 22, 3) := by decide +kernel
theorem dX6_learn_55 : decode cX6_learn 55 = .ok (.aload_n 0, 1) := by decide +kernel
theorem dX6_learn_56 : decode cX6_learn 56 = .ok (.iload 6, 2) := by decide +kernel
theorem dX6_learn_58 : decode cX6_learn 58 = .ok (.invokevirtual 75, 3) := by decide +kernel
theorem dX6_learn_61 : decode cX6_learn 61 = .ok (.iload 5, 2) := by decide +kernel
theorem dX6_learn_63 : decode cX6_learn 63 = .ok (.if_icmp .eq 11, 3) := by decide +kernel
theorem dX6_learn_66 : decode cX6_learn 66 = .ok (.aload_n 0, 1) := by decide +kernel
theorem dX6_learn_67 : decode cX6_learn 67 = .ok (.iload 6, 2) := by decide +kernel
theorem dX6_learn_69 : decode cX6_learn 69 = .ok (.iload 5, 2) := by decide +kernel
theorem dX6_learn_71 : decode cX6_learn 71 = .ok (.invokevirtual 82, 3) := by decide +kernel
theorem dX6_learn_74 : decode cX6_learn 74 = .ok (.iload_n 2, 1) := by decide +kernel
theorem dX6_learn_75 : decode cX6_learn 75 = .ok (.iconst 1, 1) := by decide +kernel
theorem dX6_learn_76 : decode cX6_learn 76 = .ok (.ixor, 1) := by decide +kernel
theorem dX6_learn_77 : decode cX6_learn 77 = .ok (.istore 7, 2) := by decide +kernel
theorem dX6_learn_79 : decode cX6_learn 79 = .ok (.aload_n 0, 1) := by decide +kernel
theorem dX6_learn_80 : decode cX6_learn 80 = .ok (.getfield 19, 3) := by decide +kernel
theorem dX6_learn_83 : decode cX6_learn 83 = .ok (.bipush 6, 2) := by decide +kernel
theorem dX6_learn_85 : decode cX6_learn 85 = .ok (.iload 5, 2) := by decide +kernel
theorem dX6_learn_87 : decode cX6_learn 87 = .ok (.imul, 1) := by decide +kernel
theorem dX6_learn_88 : decode cX6_learn 88 = .ok (.iload 7, 2) := by decide +kernel
theorem dX6_learn_90 : decode cX6_learn 90 = .ok (.iadd, 1) := by decide +kernel
theorem dX6_learn_91 : decode cX6_learn 91 = .ok (.iaload, 1) := by decide +kernel
theorem dX6_learn_92 : decode cX6_learn 92 = .ok (.istore 8, 2) := by decide +kernel
theorem dX6_learn_94 : decode cX6_learn 94 = .ok (.iload 8, 2) := by decide +kernel
theorem dX6_learn_96 : decode cX6_learn 96 = .ok (.ifCond .ge 26, 3) := by decide +kernel
theorem dX6_learn_99 : decode cX6_learn 99 = .ok (.aload_n 0, 1) := by decide +kernel
theorem dX6_learn_100 : decode cX6_learn 100 = .ok (.getfield 19, 3) := by decide +kernel
theorem dX6_learn_103 : decode cX6_learn 103 = .ok (.bipush 6, 2) := by decide +kernel
theorem dX6_learn_105 : decode cX6_learn 105 = .ok (.iload 5, 2) := by decide +kernel
theorem dX6_learn_107 : decode cX6_learn 107 = .ok (.imul, 1) := by decide +kernel
theorem dX6_learn_108 : decode cX6_learn 108 = .ok (.iload 7, 2) := by decide +kernel
theorem dX6_learn_110 : decode cX6_learn 110 = .ok (.iadd, 1) := by decide +kernel
theorem dX6_learn_111 : decode cX6_learn 111 = .ok (.iload 4, 2) := by decide +kernel
theorem dX6_learn_113 : decode cX6_learn 113 = .ok (.iastore, 1) := by decide +kernel
theorem dX6_learn_114 : decode cX6_learn 114 = .ok (.aload_n 0, 1) := by decide +kernel
theorem dX6_learn_115 : decode cX6_learn 115 = .ok (.iconst 1, 1) := by decide +kernel
theorem dX6_learn_116 : decode cX6_learn 116 = .ok (.putfield 78, 3) := by decide +kernel
theorem dX6_learn_119 : decode cX6_learn 119 = .ok (.goto 22, 3) := by decide +kernel
theorem dX6_learn_122 : decode cX6_learn 122 = .ok (.aload_n 0, 1) := by decide +kernel
theorem dX6_learn_123 : decode cX6_learn 123 = .ok (.iload 8, 2) := by decide +kernel
theorem dX6_learn_125 : decode cX6_learn 125 = .ok (.invokevirtual 75, 3) := by decide +kernel
theorem dX6_learn_128 : decode cX6_learn 128 = .ok (.iload 4, 2) := by decide +kernel
theorem dX6_learn_130 : decode cX6_learn 130 = .ok (.if_icmp .eq 11, 3) := by decide +kernel
theorem dX6_learn_133 : decode cX6_learn 133 = .ok (.aload_n 0, 1) := by decide +kernel
theorem dX6_learn_134 : decode cX6_learn 134 = .ok (.iload 8, 2) := by decide +kernel
theorem dX6_learn_136 : decode cX6_learn 136 = .ok (.iload 4, 2) := by decide +kernel
theorem dX6_learn_138 : decode cX6_learn 138 = .ok (.invokevirtual 82, 3) := by decide +kernel
theorem dX6_learn_141 : decode cX6_learn 141 = .ok (.return_, 1) := by decide +kernel
set_option maxRecDepth 20000 in
theorem ggX6_join_X6_real : GoodIn wsX6_join wsX6_real := goodIn_r _ [12, 4, 21, 22, 23, 24, 25, 26, 27, 28, 29, 30, 31, 32, 33, 34, 35, 36, 37] (by decide +kernel) (by decide +kernel)
set_option maxRecDepth 20000 in
theorem gX6_join_X6_real : GoodIn wsX6_join (wsV RX6 75 RX6 yX6_real wsX6_real) := goodIn_app (goodIn_of _ (by decide +kernel)) ggX6_join_X6_real
set_option maxRecDepth 20000 in
theorem ggX6_join_X6_learn : GoodIn wsX6_join wsX6_learn := goodIn_r _ [16, 6, 5, 8, 9, 10, 11, 12, 4, 17, 18, 19, 20, 2, 1, 3, 21, 22, 23, 24, 25, 26, 27, 28, 29, 30, 31, 32, 33, 34, 35, 36, 37] (by decide +kernel) (by decide +kernel)
set_option maxRecDepth 20000 in
theorem gX6_join_X6_learn : GoodIn wsX6_join (wsV RX6 86 RX6 yX6_learn wsX6_learn) := goodIn_app (goodIn_of _ (by decide +kernel)) ggX6_join_X6_learn
theorem dX6_join_0 : decode cX6_join 0 = .ok (.aload_n 0, 1) := by decide +kernel
theorem dX6_join_1 : decode cX6_join 1 = .ok (.getfield 72, 3) := by decide +kernel
theorem dX6_join_4 : decode cX6_join 4 = .ok (.ifCond .le 144, 3) := by decide +kernel
theorem dX6_join_7 : decode cX6_join 7 = .ok (.aload_n 0, 1) := by decide +kernel
theorem dX6_join_8 : decode cX6_join 8 = .ok (.dup, 1) := by decide +kernel
theorem dX6_join_9 : decode cX6_join 9 = .ok (.getfield 72, 3) := by decide +kernel
theorem dX6_join_12 : decode cX6_join 12 = .ok (.iconst 1, 1) := by decide +kernel
theorem dX6_join_13 : decode cX6_join 13 = .ok (.isub, 1) := by decide +kernel
theorem dX6_join_14 : decode cX6_join 14 = .ok (.putfield 72, 3) := by decide +kernel
theorem dX6_join_17 : decode cX6_join 17 = .ok (.aload_n 0, 1) := by decide +kernel
theorem dX6_join_18 : decode cX6_join 18 = .ok (.aload_n 0, 1) := by decide +kernel
theorem dX6_join_19 : decode cX6_join 19 = .ok (.getfield 22, 3) := by decide +kernel
theorem dX6_join_22 : decode cX6_join 22 = .ok (.aload_n 0, 1) := by decide +kernel
theorem dX6_join_23 : decode cX6_join 23 = .ok (.getfield 72, 3) := by decide +kernel
theorem dX6_join_26 : decode cX6_join 26 = .ok (.iaload, 1) := by decide +kernel
theorem dX6_join_27 : decode cX6_join 27 = .ok (.invokevirtual 75, 3) := by decide +kernel
theorem dX6_join_30 : decode cX6_join 30 = .ok (.istore_n 1, 1) := by decide +kernel
theorem dX6_join_31 : decode cX6_join 31 = .ok (.aload_n 0, 1) := by decide +kernel
theorem dX6_join_32 : decode cX6_join 32 = .ok (.aload_n 0, 1) := by decide +kernel
theorem dX6_join_33 : decode cX6_join 33 = .ok (.getfield 25, 3) := by decide +kernel
theorem dX6_join_36 : decode cX6_join 36 = .ok (.aload_n 0, 1) := by decide +kernel
theorem dX6_join_37 : decode cX6_join 37 = .ok (.getfield 72, 3) := by decide +kernel
theorem dX6_join_40 : decode cX6_join 40 = .ok (.iaload, 1) := by decide +kernel
theorem dX6_join_41 : decode cX6_join 41 = .ok (.invokevirtual 75, 3) := by decide +kernel
theorem dX6_join_44 : decode cX6_join 44 = .ok (.istore_n 2, 1) := by decide +kernel
theorem dX6_join_45 : decode cX6_join 45 = .ok (.iload_n 1, 1) := by decide +kernel
theorem dX6_join_46 : decode cX6_join 46 = .ok (.iload_n 2, 1) := by decide +kernel
theorem dX6_join_47 : decode cX6_join 47 = .ok (.if_icmp .eq 98, 3) := by decide +kernel
theorem dX6_join_50 : decode cX6_join 50 = .ok (.iload_n 1, 1) := by decide +kernel
theorem dX6_join_51 : decode cX6_join 51 = .ok (.iload_n 2, 1) := by decide +kernel
theorem dX6_join_52 : decode cX6_join 52 = .ok (.if_icmp .ge 7, 3) := by decide +kernel
theorem dX6_join_55 : decode cX6_join 55 = .ok (.iload_n 1, 1) := by decide +kernel
theorem dX6_join_56 : decode cX6_join 56 = .ok (.goto 4, 3) := by decide +kernel
theorem dX6_join_59 : decode cX6_join 59 = .ok (.iload_n 2, 1) := by decide +kernel
theorem dX6_join_60 : decode cX6_join 60 = .ok (.istore_n 3, 1) := by decide +kernel
theorem dX6_join_61 : decode cX6_join 61 = .ok (.iload_n 1, 1) := by decide +kernel
theorem dX6_join_62 : decode cX6_join 62 = .ok (.iload_n 2, 1) := by decide +kernel
theorem dX6_join_63 : decode cX6_join 63 = .ok (.if_icmp .ge 7, 3) := by decide +kernel
theorem dX6_join_66 : decode cX6_join 66 = .ok (.iload_n 2, 1) := by decide +kernel
theorem dX6_join_67 : decode cX6_join 67 = .ok (.goto 4, 3) := by decide +kernel
theorem dX6_join_70 : decode cX6_join 70 = .ok (.iload_n 1, 1) := by decide +kernel
theorem dX6_join_71 : decode cX6_join 71 = .ok (.istore 4, 2) := by decide +kernel
theorem dX6_join_73 : decode cX6_join 73 = .ok (.aload_n 0, 1) := by decide +kernel
theorem dX6_join_74 : decode cX6_join 74 = .ok (.getfield 16, 3) := by decide +kernel
theorem dX6_join_77 : decode cX6_join 77 = .ok (.iload 4, 2) := by decide +kernel
theorem dX6_join_79 : decode cX6_join 79 = .ok (.iload_n 3, 1) := by decide +kernel
theorem dX6_join_80 : decode cX6_join 80 = .ok (.iastore, 1) := by decide +kernel
theorem dX6_join_81 : decode cX6_join 81 = .ok (.aload_n 0, 1) := by decide +kernel
theorem dX6_join_82 : decode cX6_join 82 = .ok (.iconst 1, 1) := by decide +kernel
theorem dX6_join_83 : decode cX6_join 83 = .ok (.putfield 78, 3) := by decide +kernel
theorem dX6_join_86 : decode cX6_join 86 = .ok (.iconst 0, 1) := by decide +kernel
theorem dX6_join_87 : decode cX6_join 87 = .ok (.istore 5, 2) := by decide +kernel
theorem dX6_join_89 : decode cX6_join 89 = .ok (.iload 5, 2) := by decide +kernel
theorem dX6_join_91 : decode cX6_join 91 = .ok (.bipush 6, 2) := by decide +kernel
theorem dX6_join_93 : decode cX6_join 93 = .ok (.if_icmp .ge 52, 3) := by decide +kernel
theorem dX6_join_96 : decode cX6_join 96 = .ok (.aload_n 0, 1) := by decide +kernel
theorem dX6_join_97 : decode cX6_join 97 = .ok (.getfield 19, 3) := by decide +kernel
theorem dX6_join_100 : decode cX6_join 100 = .ok (.bipush 6, 2) := by decide +kernel
theorem dX6_join_102 : decode cX6_join 102 = .ok (.iload 4, 2) := by decide +kernel
theorem dX6_join_104 : decode cX6_join 104 = .ok (.imul, 1) := by decide +kernel
theorem dX6_join_105 : decode cX6_join 105 = .ok (.iload 5, 2) := by decide +kernel
theorem dX6_join_107 : decode cX6_join 107 = .ok (.iadd, 1) := by decide +kernel
theorem dX6_join_108 : decode cX6_join 108 = .ok (.iaload, 1) := by decide +kernel
theorem dX6_join_109 : decode cX6_join 109 = .ok (.istore 6, 2) := by decide +kernel
theorem dX6_join_111 : decode cX6_join 111 = .ok (.iload 6, 2) := by decide +kernel
theorem dX6_join_113 : decode cX6_join 113 = .ok (.ifCond .lt 26, 3) := by decide +kernel
theorem dX6_join_116 : decode cX6_join 116 = .ok (.aload_n 0, 1) := by decide +kernel
theorem dX6_join_117 : decode cX6_join 117 = .ok (.getfield 19, 3) := by decide +kernel
theorem dX6_join_120 : decode cX6_join 120 = .ok (.bipush 6, 2) := by decide +kernel
theorem dX6_join_122 : decode cX6_join 122 = .ok (.iload 4, 2) := by decide +kernel
end
section
theorem dX6_join_124 : decode cX6_join 124 = .ok (.imul, 1) := by decide +kernel
theorem dX6_join_125 : decode cX6_join 125 = .ok (.iload 5, 2) := by decide +kernel
theorem dX6_join_127 : decode cX6_join 127 = .ok (.iadd, 1) := by decide +kernel
theorem dX6_join_128 : decode cX6_join 128 = .ok (.iconst (-1), 1) := by decide +kernel
theorem dX6_join_129 : decode cX6_join 129 = .ok (.iastore, 1) := by decide +kernel
theorem dX6_join_130 : decode cX6_join 130 = .ok (.aload_n 0, 1) := by decide +kernel
theorem dX6_join_131 : decode cX6_join 131 = .ok (.iload_n 3, 1) := by decide +kernel
theorem dX6_join_132 : decode cX6_join 132 = .ok (.iload 5, 2) := by decide +kernel
theorem dX6_join_134 : decode cX6_join 134 = .ok (.iload 6, 2) := by decide +kernel
theorem dX6_join_136 : decode cX6_join 136 = .ok (.invokevirtual 86, 3) := by decide +kernel
theorem dX6_join_139 : decode cX6_join 139 = .ok (.iinc 5 1, 3) := by decide +kernel
theorem dX6_join_142 : decode cX6_join 142 = .ok (.goto (-53), 3) := by decide +kernel
theorem dX6_join_145 : decode cX6_join 145 = .ok (.goto (-145), 3) := by decide +kernel
theorem dX6_join_148 : decode cX6_join 148 = .ok (.iconst 0, 1) := by decide +kernel
theorem dX6_join_149 : decode cX6_join 149 = .ok (.istore_n 1, 1) := by decide +kernel
theorem dX6_join_150 : decode cX6_join 150 = .ok (.iload_n 1, 1) := by decide +kernel
theorem dX6_join_151 : decode cX6_join 151 = .ok (.aload_n 0, 1) := by decide +kernel
theorem dX6_join_152 : decode cX6_join 152 = .ok (.getfield 45, 3) := by decide +kernel
theorem dX6_join_155 : decode cX6_join 155 = .ok (.if_icmp .ge 69, 3) := by decide +kernel
theorem dX6_join_158 : decode cX6_join 158 = .ok (.iconst 0, 1) := by decide +kernel
theorem dX6_join_159 : decode cX6_join 159 = .ok (.istore_n 2, 1) := by decide +kernel
theorem dX6_join_160 : decode cX6_join 160 = .ok (.iload_n 2, 1) := by decide +kernel
theorem dX6_join_161 : decode cX6_join 161 = .ok (.bipush 6, 2) := by decide +kernel
theorem dX6_join_163 : decode cX6_join 163 = .ok (.if_icmp .ge 55, 3) := by decide +kernel
theorem dX6_join_166 : decode cX6_join 166 = .ok (.aload_n 0, 1) := by decide +kernel
theorem dX6_join_167 : decode cX6_join 167 = .ok (.getfield 16, 3) := by decide +kernel
theorem dX6_join_170 : decode cX6_join 170 = .ok (.iload_n 1, 1) := by decide +kernel
theorem dX6_join_171 : decode cX6_join 171 = .ok (.iaload, 1) := by decide +kernel
theorem dX6_join_172 : decode cX6_join 172 = .ok (.iload_n 1, 1) := by decide +kernel
theorem dX6_join_173 : decode cX6_join 173 = .ok (.if_icmp .ne 45, 3) := by decide +kernel
theorem dX6_join_176 : decode cX6_join 176 = .ok (.aload_n 0, 1) := by decide +kernel
theorem dX6_join_177 : decode cX6_join 177 = .ok (.getfield 19, 3) := by decide +kernel
theorem dX6_join_180 : decode cX6_join 180 = .ok (.bipush 6, 2) := by decide +kernel
theorem dX6_join_182 : decode cX6_join 182 = .ok (.iload_n 1, 1) := by decide +kernel
theorem dX6_join_183 : decode cX6_join 183 = .ok (.imul, 1) := by decide +kernel
theorem dX6_join_184 : decode cX6_join 184 = .ok (.iload_n 2, 1) := by decide +kernel
theorem dX6_join_185 : decode cX6_join 185 = .ok (.iadd, 1) := by decide +kernel
theorem dX6_join_186 : decode cX6_join 186 = .ok (.iaload, 1) := by decide +kernel
theorem dX6_join_187 : decode cX6_join 187 = .ok (.istore_n 3, 1) := by decide +kernel
theorem dX6_join_188 : decode cX6_join 188 = .ok (.aload_n 0, 1) := by decide +kernel
theorem dX6_join_189 : decode cX6_join 189 = .ok (.getfield 19, 3) := by decide +kernel
theorem dX6_join_192 : decode cX6_join 192 = .ok (.bipush 6, 2) := by decide +kernel
theorem dX6_join_194 : decode cX6_join 194 = .ok (.iload_n 1, 1) := by decide +kernel
theorem dX6_join_195 : decode cX6_join 195 = .ok (.imul, 1) := by decide +kernel
theorem dX6_join_196 : decode cX6_join 196 = .ok (.iload_n 2, 1) := by decide +kernel
theorem dX6_join_197 : decode cX6_join 197 = .ok (.iadd, 1) := by decide +kernel
theorem dX6_join_198 : decode cX6_join 198 = .ok (.iload_n 3, 1) := by decide +kernel
theorem dX6_join_199 : decode cX6_join 199 = .ok (.ifCond .ge 7, 3) := by decide +kernel
theorem dX6_join_202 : decode cX6_join 202 = .ok (.iconst (-1), 1) := by decide +kernel
theorem dX6_join_203 : decode cX6_join 203 = .ok (.goto 8, 3) := by decide +kernel
theorem dX6_join_206 : decode cX6_join 206 = .ok (.aload_n 0, 1) := by decide +kernel
theorem dX6_join_207 : decode cX6_join 207 = .ok (.iload_n 3, 1) := by decide +kernel
theorem dX6_join_208 : decode cX6_join 208 = .ok (.invokevirtual 75, 3) := by decide +kernel
theorem dX6_join_211 : decode cX6_join 211 = .ok (.iastore, 1) := by decide +kernel
theorem dX6_join_212 : decode cX6_join 212 = .ok (.iinc 2 1, 3) := by decide +kernel
theorem dX6_join_215 : decode cX6_join 215 = .ok (.goto (-55), 3) := by decide +kernel
theorem dX6_join_218 : decode cX6_join 218 = .ok (.iinc 1 1, 3) := by decide +kernel
theorem dX6_join_221 : decode cX6_join 221 = .ok (.goto (-71), 3) := by decide +kernel
theorem dX6_join_224 : decode cX6_join 224 = .ok (.return_, 1) := by decide +kernel
set_option maxRecDepth 20000 in
theorem ggX6_attempt_X6_pair : GoodIn wsX6_attempt wsX6_pair := goodIn_r _ [8, 9, 10, 11, 27, 28, 29, 30, 31, 32, 33, 34, 35, 36, 37, 38, 39, 40, 41, 42, 43] (by decide +kernel) (by decide +kernel)
set_option maxRecDepth 20000 in
theorem gX6_attempt_X6_pair : GoodIn wsX6_attempt (wsV RX6 82 RX6 yX6_pair wsX6_pair) := goodIn_app (goodIn_of _ (by decide +kernel)) ggX6_attempt_X6_pair
set_option maxRecDepth 20000 in
theorem ggX6_attempt_X6_join : GoodIn wsX6_attempt wsX6_join := goodIn_r _ [15, 10, 9, 11, 16, 17, 2, 18, 19, 20, 21, 7, 22, 23, 24, 25, 26, 4, 5, 6, 8, 27, 28, 29, 30, 31, 32, 33, 34, 35, 36, 37, 38, 39, 40, 41, 42, 43] (by decide +kernel) (by decide +kernel)
set_option maxRecDepth 20000 in
theorem gX6_attempt_X6_join : GoodIn wsX6_attempt (wsV RX6 90 RX6 yX6_join wsX6_join) := goodIn_app (goodIn_of _ (by decide +kernel)) ggX6_attempt_X6_join
set_option maxRecDepth 20000 in
theorem ggX6_attempt_X6_learn : GoodIn wsX6_attempt wsX6_learn := goodIn_r _ [26, 2, 17, 19, 20, 21, 7, 22, 16, 4, 5, 6, 8, 9, 10, 11, 27, 28, 29, 30, 31, 32, 33, 34, 35, 36, 37, 38, 39, 40, 41, 42, 43] (by decide +kernel) (by decide +kernel)
set_option maxRecDepth 20000 in
theorem gX6_attempt_X6_learn : GoodIn wsX6_attempt (wsV RX6 86 RX6 yX6_learn wsX6_learn) := goodIn_app (goodIn_of _ (by decide +kernel)) ggX6_attempt_X6_learn
theorem dX6_attempt_0 : decode cX6_attempt 0 = .ok (.aload_n 0, 1) := by decide +kernel
theorem dX6_attempt_1 : decode cX6_attempt 1 = .ok (.getfield 13, 3) := by decide +kernel
theorem dX6_attempt_4 : decode cX6_attempt 4 = .ok (.iload_n 1, 1) := by decide +kernel
theorem dX6_attempt_5 : decode cX6_attempt 5 = .ok (.iaload, 1) := by decide +kernel
theorem dX6_attempt_6 : decode cX6_attempt 6 = .ok (.istore_n 3, 1) := by decide +kernel
theorem dX6_attempt_7 : decode cX6_attempt 7 = .ok (.bipush 24, 2) := by decide +kernel
theorem dX6_attempt_9 : decode cX6_attempt 9 = .ok (.iload_n 1, 1) := by decide +kernel
theorem dX6_attempt_10 : decode cX6_attempt 10 = .ok (.imul, 1) := by decide +kernel
theorem dX6_attempt_11 : decode cX6_attempt 11 = .ok (.istore 4, 2) := by decide +kernel
theorem dX6_attempt_13 : decode cX6_attempt 13 = .ok (.iload_n 2, 1) := by decide +kernel
theorem dX6_attempt_14 : decode cX6_attempt 14 = .ok (.istore 5, 2) := by decide +kernel
theorem dX6_attempt_16 : decode cX6_attempt 16 = .ok (.iconst 0, 1) := by decide +kernel
theorem dX6_attempt_17 : decode cX6_attempt 17 = .ok (.istore 6, 2) := by decide +kernel
theorem dX6_attempt_19 : decode cX6_attempt 19 = .ok (.iload 6, 2) := by decide +kernel
theorem dX6_attempt_21 : decode cX6_attempt 21 = .ok (.iload_n 3, 1) := by decide +kernel
theorem dX6_attempt_22 : decode cX6_attempt 22 = .ok (.if_icmp .ge 56, 3) := by decide +kernel
theorem dX6_attempt_25 : decode cX6_attempt 25 = .ok (.aload_n 0, 1) := by decide +kernel
theorem dX6_attempt_26 : decode cX6_attempt 26 = .ok (.getfield 19, 3) := by decide +kernel
theorem dX6_attempt_29 : decode cX6_attempt 29 = .ok (.bipush 6, 2) := by decide +kernel
theorem dX6_attempt_31 : decode cX6_attempt 31 = .ok (.iload 5, 2) := by decide +kernel
theorem dX6_attempt_33 : decode cX6_attempt 33 = .ok (.imul, 1) := by decide +kernel
theorem dX6_attempt_34 : decode cX6_attempt 34 = .ok (.aload_n 0, 1) := by decide +kernel
theorem dX6_attempt_35 : decode cX6_attempt 35 = .ok (.getfield 7, 3) := by decide +kernel
theorem dX6_attempt_38 : decode cX6_attempt 38 = .ok (.iload 4, 2) := by decide +kernel
theorem dX6_attempt_40 : decode cX6_attempt 40 = .ok (.iload 6, 2) := by decide +kernel
theorem dX6_attempt_42 : decode cX6_attempt 42 = .ok (.iadd, 1) := by decide +kernel
theorem dX6_attempt_43 : decode cX6_attempt 43 = .ok (.iaload, 1) := by decide +kernel
theorem dX6_attempt_44 : decode cX6_attempt 44 = .ok (.iadd, 1) := by decide +kernel
theorem dX6_attempt_45 : decode cX6_attempt 45 = .ok (.iaload, 1) := by decide +kernel
theorem dX6_attempt_46 : decode cX6_attempt 46 = .ok (.ifCond .lt 32, 3) := by decide +kernel
theorem dX6_attempt_49 : decode cX6_attempt 49 = .ok (.aload_n 0, 1) := by decide +kernel
theorem dX6_attempt_50 : decode cX6_attempt 50 = .ok (.getfield 19, 3) := by decide +kernel
theorem dX6_attempt_53 : decode cX6_attempt 53 = .ok (.bipush 6, 2) := by decide +kernel
theorem dX6_attempt_55 : decode cX6_attempt 55 = .ok (.iload 5, 2) := by decide +kernel
theorem dX6_attempt_57 : decode cX6_attempt 57 = .ok (.imul, 1) := by decide +kernel
theorem dX6_attempt_58 : decode cX6_attempt 58 = .ok (.aload_n 0, 1) := by decide +kernel
theorem dX6_attempt_59 : decode cX6_attempt 59 = .ok (.getfield 7, 3) := by decide +kernel
theorem dX6_attempt_62 : decode cX6_attempt 62 = .ok (.iload 4, 2) := by decide +kernel
theorem dX6_attempt_64 : decode cX6_attempt 64 = .ok (.iload 6, 2) := by decide +kernel
theorem dX6_attempt_66 : decode cX6_attempt 66 = .ok (.iadd, 1) := by decide +kernel
theorem dX6_attempt_67 : decode cX6_attempt 67 = .ok (.iaload, 1) := by decide +kernel
theorem dX6_attempt_68 : decode cX6_attempt 68 = .ok (.iadd, 1) := by decide +kernel
theorem dX6_attempt_69 : decode cX6_attempt 69 = .ok (.iaload, 1) := by decide +kernel
theorem dX6_attempt_70 : decode cX6_attempt 70 = .ok (.istore 5, 2) := by decide +kernel
theorem dX6_attempt_72 : decode cX6_attempt 72 = .ok (.iinc 6 1, 3) := by decide +kernel
theorem dX6_attempt_75 : decode cX6_attempt 75 = .ok (.goto (-56), 3) := by decide +kernel
theorem dX6_attempt_78 : decode cX6_attempt 78 = .ok (.iload 6, 2) := by decide +kernel
theorem dX6_attempt_80 : decode cX6_attempt 80 = .ok (.iload_n 3, 1) := by decide +kernel
theorem dX6_attempt_81 : decode cX6_attempt 81 = .ok (.if_icmp .ne 21, 3) := by decide +kernel
theorem dX6_attempt_84 : decode cX6_attempt 84 = .ok (.iload 5, 2) := by decide +kernel
theorem dX6_attempt_86 : decode cX6_attempt 86 = .ok (.iload_n 2, 1) := by decide +kernel
theorem dX6_attempt_87 : decode cX6_attempt 87 = .ok (.if_icmp .eq 14, 3) := by decide +kernel
theorem dX6_attempt_90 : decode cX6_attempt 90 = .ok (.aload_n 0, 1) := by decide +kernel
theorem dX6_attempt_91 : decode cX6_attempt 91 = .ok (.iload 5, 2) := by decide +kernel
theorem dX6_attempt_93 : decode cX6_attempt 93 = .ok (.iload_n 2, 1) := by decide +kernel
theorem dX6_attempt_94 : decode cX6_attempt 94 = .ok (.invokevirtual 82, 3) := by decide +kernel
theorem dX6_attempt_97 : decode cX6_attempt 97 = .ok (.aload_n 0, 1) := by decide +kernel
theorem dX6_attempt_98 : decode cX6_attempt 98 = .ok (.invokevirtual 90, 3) := by decide +kernel
theorem dX6_attempt_101 : decode cX6_attempt 101 = .ok (.return_, 1) := by decide +kernel
theorem dX6_attempt_102 : decode cX6_attempt 102 = .ok (.iload_n 2, 1) := by decide +kernel
theorem dX6_attempt_103 : decode cX6_attempt 103 = .ok (.istore 7, 2) := by decide +kernel
theorem dX6_attempt_105 : decode cX6_attempt 105 = .ok (.iload_n 3, 1) := by decide +kernel
theorem dX6_attempt_106 : decode cX6_attempt 106 = .ok (.istore 8, 2) := by decide +kernel
theorem dX6_attempt_108 : decode cX6_attempt 108 = .ok (.iload 8, 2) := by decide +kernel
theorem dX6_attempt_110 : decode cX6_attempt 110 = .ok (.iload 6, 2) := by decide +kernel
theorem dX6_attempt_112 : decode cX6_attempt 112 = .ok (.iconst 1, 1) := by decide +kernel
theorem dX6_attempt_113 : decode cX6_attempt 113 = .ok (.iadd, 1) := by decide +kernel
theorem dX6_attempt_114 : decode cX6_attempt 114 = .ok (.if_icmp .le 64, 3) := by decide +kernel
theorem dX6_attempt_117 : decode cX6_attempt 117 = .ok (.aload_n 0, 1) := by decide +kernel
theorem dX6_attempt_118 : decode cX6_attempt 118 = .ok (.getfield 19, 3) := by decide +kernel
theorem dX6_attempt_121 : decode cX6_attempt 121 = .ok (.bipush 6, 2) := by decide +kernel
theorem dX6_attempt_123 : decode cX6_attempt 123 = .ok (.iload 7, 2) := by decide +kernel
theorem dX6_attempt_125 : decode cX6_attempt 125 = .ok (.imul, 1) := by decide +kernel
theorem dX6_attempt_126 : decode cX6_attempt 126 = .ok (.aload_n 0, 1) := by decide +kernel
theorem dX6_attempt_127 : decode cX6_attempt 127 = .ok (.getfield 7, 3) := by decide +kernel
theorem dX6_attempt_130 : decode cX6_attempt 130 = .ok (.iload 4, 2) := by decide +kernel
theorem dX6_attempt_132 : decode cX6_attempt 132 = .ok (.iload 8, 2) := by decide +kernel
theorem dX6_attempt_134 : decode cX6_attempt 134 = .ok (.iadd, 1) := by decide +kernel
theorem dX6_attempt_135 : decode cX6_attempt 135 = .ok (.iconst 1, 1) := by decide +kernel
theorem dX6_attempt_136 : decode cX6_attempt 136 = .ok (.isub, 1) := by decide +kernel
theorem dX6_attempt_137 : decode cX6_attempt 137 = .ok (.iaload, 1) := by decide +kernel
theorem dX6_attempt_138 : decode cX6_attempt 138 = .ok (.iconst 1, 1) := by decide +kernel
theorem dX6_attempt_139 : decode cX6_attempt 139 = .ok (.ixor, 1) := by decide +kernel
theorem dX6_attempt_140 : decode cX6_attempt 140 = .ok (.iadd, 1) := by decide +kernel
theorem dX6_attempt_141 : decode cX6_attempt 141 = .ok (.iaload, 1) := by decide +kernel
theorem dX6_attempt_142 : decode cX6_attempt 142 = .ok (.ifCond .lt 36, 3) := by decide +kernel
theorem dX6_attempt_145 : decode cX6_attempt 145 = .ok (.aload_n 0, 1) := by decide +kernel
theorem dX6_attempt_146 : decode cX6_attempt 146 = .ok (.getfield 19, 3) := by decide +kernel
theorem dX6_attempt_149 : decode cX6_attempt 149 = .ok (.bipush 6, 2) := by decide +kernel
theorem dX6_attempt_151 : decode cX6_attempt 151 = .ok (.iload 7, 2) := by decide +kernel
theorem dX6_attempt_153 : decode cX6_attempt 153 = .ok (.imul, 1) := by decide +kernel
theorem dX6_attempt_154 : decode cX6_attempt 154 = .ok (.aload_n 0, 1) := by decide +kernel
theorem dX6_attempt_155 : decode cX6_attempt 155 = .ok (.getfield 7, 3) := by decide +kernel
theorem dX6_attempt_158 : decode cX6_attempt 158 = .ok (.iload 4, 2) := by decide +kernel
theorem dX6_attempt_160 : decode cX6_attempt 160 = .ok (.iload 8, 2) := by decide +kernel
theorem dX6_attempt_162 : decode cX6_attempt 162 = .ok (.iadd, 1) := by decide +kernel
theorem dX6_attempt_163 : decode cX6_attempt 163 = .ok (.iconst 1, 1) := by decide +kernel
theorem dX6_attempt_164 : decode cX6_attempt 164 = .ok (.isub, 1) := by decide +kernel
theorem dX6_attempt_165 : decode cX6_attempt 165 = .ok (.iaload, 1) := by decide +kernel
theorem dX6_attempt_166 : decode cX6_attempt 166 = .ok (.iconst 1, 1) := by decide +kernel
theorem dX6_attempt_167 : decode cX6_attempt 167 = .ok (.ixor, 1) := by decide +kernel
theorem dX6_attempt_168 : decode cX6_attempt 168 = .ok (.iadd, 1) := by decide +kernel
theorem dX6_attempt_169 : decode cX6_attempt 169 = .ok (.iaload, 1) := by decide +kernel
theorem dX6_attempt_170 : decode cX6_attempt 170 = .ok (.istore 7, 2) := by decide +kernel
theorem dX6_attempt_172 : decode cX6_attempt 172 = .ok (.iinc 8 (-1), 3) := by decide +kernel
theorem dX6_attempt_175 : decode cX6_attempt 175 = .ok (.goto (-67), 3) := by decide +kernel
theorem dX6_attempt_178 : decode cX6_attempt 178 = .ok (.iload 8, 2) := by decide +kernel
theorem dX6_attempt_180 : decode cX6_attempt 180 = .ok (.iload 6, 2) := by decide +kernel
theorem dX6_attempt_182 : decode cX6_attempt 182 = .ok (.iconst 1, 1) := by decide +kernel
theorem dX6_attempt_183 : decode cX6_attempt 183 = .ok (.iadd, 1) := by decide +kernel
theorem dX6_attempt_184 : decode cX6_attempt 184 = .ok (.if_icmp .ne 25, 3) := by decide +kernel
theorem dX6_attempt_187 : decode cX6_attempt 187 = .ok (.aload_n 0, 1) := by decide +kernel
theorem dX6_attempt_188 : decode cX6_attempt 188 = .ok (.iload 5, 2) := by decide +kernel
theorem dX6_attempt_190 : decode cX6_attempt 190 = .ok (.aload_n 0, 1) := by decide +kernel
theorem dX6_attempt_191 : decode cX6_attempt 191 = .ok (.getfield 7, 3) := by decide +kernel
theorem dX6_attempt_194 : decode cX6_attempt 194 = .ok (.iload 4, 2) := by decide +kernel
theorem dX6_attempt_196 : decode cX6_attempt 196 = .ok (.iload 6, 2) := by decide +kernel
theorem dX6_attempt_198 : decode cX6_attempt 198 = .ok (.iadd, 1) := by decide +kernel
theorem dX6_attempt_199 : decode cX6_attempt 199 = .ok (.iaload, 1) := by decide +kernel
theorem dX6_attempt_200 : decode cX6_attempt 200 = .ok (.iload 7, 2) := by decide +kernel
theorem dX6_attempt_202 : decode cX6_attempt 202 = .ok (.invokevirtual 86, 3) := by decide +kernel
theorem dX6_attempt_205 : decode cX6_attempt 205 = .ok (.aload_n 0, 1) := by decide +kernel
theorem dX6_attempt_206 : decode cX6_attempt 206 = .ok (.invokevirtual 90, 3) := by decide +kernel
theorem dX6_attempt_209 : decode cX6_attempt 209 = .ok (.return_, 1) := by decide +kernel
set_option maxRecDepth 20000 in
theorem ggX6_follow_X6_attempt : GoodIn wsX6_follow wsX6_attempt := goodIn_r _ [10, 11, 12, 13, 14, 15, 16, 9, 17, 18, 19, 20, 21, 22, 23, 24, 4, 1, 2, 25, 26, 27, 28, 29, 30, 31, 32, 33, 34, 35, 36, 37, 38, 39, 40, 41, 42, 43, 44, 45, 46, 47, 48, 49] (by decide +kernel) (by decide +kernel)
set_option maxRecDepth 20000 in
theorem gX6_follow_X6_attempt : GoodIn wsX6_follow (wsV RX6 93 RX6 yX6_attempt wsX6_attempt) := goodIn_app (goodIn_of _ (by decide +kernel)) ggX6_follow_X6_attempt
theorem dX6_follow_0 : decode cX6_follow 0 = .ok (.aload_n 0, 1) := by decide +kernel
theorem dX6_follow_1 : decode cX6_follow 1 = .ok (.iconst 1, 1) := by decide +kernel
theorem dX6_follow_2 : decode cX6_follow 2 = .ok (.putfield 78, 3) := by decide +kernel
theorem dX6_follow_5 : decode cX6_follow 5 = .ok (.aload_n 0, 1) := by decide +kernel
theorem dX6_follow_6 : decode cX6_follow 6 = .ok (.getfield 78, 3) := by decide +kernel
theorem dX6_follow_9 : decode cX6_follow 9 = .ok (.ifCond .eq 84, 3) := by decide +kernel
theorem dX6_follow_12 : decode cX6_follow 12 = .ok (.aload_n 0, 1) := by decide +kernel
theorem dX6_follow_13 : decode cX6_follow 13 = .ok (.iconst 0, 1) := by decide +kernel
theorem dX6_follow_14 : decode cX6_follow 14 = .ok (.putfield 78, 3) := by decide +kernel
theorem dX6_follow_17 : decode cX6_follow 17 = .ok (.iconst 0, 1) := by decide +kernel
theorem dX6_follow_18 : decode cX6_follow 18 = .ok (.istore_n 1, 1) := by decide +kernel
theorem dX6_follow_19 : decode cX6_follow 19 = .ok (.iload_n 1, 1) := by decide +kernel
theorem dX6_follow_20 : decode cX6_follow 20 = .ok (.aload_n 0, 1) := by decide +kernel
theorem dX6_follow_21 : decode cX6_follow 21 = .ok (.getfield 45, 3) := by decide +kernel
theorem dX6_follow_24 : decode cX6_follow 24 = .ok (.if_icmp .ge 41, 3) := by decide +kernel
theorem dX6_follow_27 : decode cX6_follow 27 = .ok (.iconst 0, 1) := by decide +kernel
theorem dX6_follow_28 : decode cX6_follow 28 = .ok (.istore_n 2, 1) := by decide +kernel
theorem dX6_follow_29 : decode cX6_follow 29 = .ok (.iload_n 2, 1) := by decide +kernel
theorem dX6_follow_30 : decode cX6_follow 30 = .ok (.aload_n 0, 1) := by decide +kernel
theorem dX6_follow_31 : decode cX6_follow 31 = .ok (.getfield 52, 3) := by decide +kernel
theorem dX6_follow_34 : decode cX6_follow 34 = .ok (.if_icmp .ge 25, 3) := by decide +kernel
theorem dX6_follow_37 : decode cX6_follow 37 = .ok (.aload_n 0, 1) := by decide +kernel
theorem dX6_follow_38 : decode cX6_follow 38 = .ok (.getfield 16, 3) := by decide +kernel
theorem dX6_follow_41 : decode cX6_follow 41 = .ok (.iload_n 1, 1) := by decide +kernel
theorem dX6_follow_42 : decode cX6_follow 42 = .ok (.iaload, 1) := by decide +kernel
theorem dX6_follow_43 : decode cX6_follow 43 = .ok (.iload_n 1, 1) := by decide +kernel
theorem dX6_follow_44 : decode cX6_follow 44 = .ok (.if_icmp .ne 9, 3) := by decide +kernel
theorem dX6_follow_47 : decode cX6_follow 47 = .ok (.aload_n 0, 1) := by decide +kernel
theorem dX6_follow_48 : decode cX6_follow 48 = .ok (.iload_n 2, 1) := by decide +kernel
theorem dX6_follow_49 : decode cX6_follow 49 = .ok (.iload_n 1, 1) := by decide +kernel
theorem dX6_follow_50 : decode cX6_follow 50 = .ok (.invokevirtual 93, 3) := by decide +kernel
theorem dX6_follow_53 : decode cX6_follow 53 = .ok (.iinc 2 1, 3) := by decide +kernel
theorem dX6_follow_56 : decode cX6_follow 56 = .ok (.goto (-27), 3) := by decide +kernel
theorem dX6_follow_59 : decode cX6_follow 59 = .ok (.iinc 1 1, 3) := by decide +kernel
theorem dX6_follow_62 : decode cX6_follow 62 = .ok (.goto (-43), 3) := by decide +kernel
theorem dX6_follow_65 : decode cX6_follow 65 = .ok (.iconst 0, 1) := by decide +kernel
theorem dX6_follow_66 : decode cX6_follow 66 = .ok (.istore_n 1, 1) := by decide +kernel
theorem dX6_follow_67 : decode cX6_follow 67 = .ok (.iload_n 1, 1) := by decide +kernel
theorem dX6_follow_68 : decode cX6_follow 68 = .ok (.aload_n 0, 1) := by decide +kernel
theorem dX6_follow_69 : decode cX6_follow 69 = .ok (.getfield 55, 3) := by decide +kernel
theorem dX6_follow_72 : decode cX6_follow 72 = .ok (.if_icmp .ge 18, 3) := by decide +kernel
theorem dX6_follow_75 : decode cX6_follow 75 = .ok (.aload_n 0, 1) := by decide +kernel
theorem dX6_follow_76 : decode cX6_follow 76 = .ok (.bipush 10, 2) := by decide +kernel
theorem dX6_follow_78 : decode cX6_follow 78 = .ok (.iload_n 1, 1) := by decide +kernel
theorem dX6_follow_79 : decode cX6_follow 79 = .ok (.iadd, 1) := by decide +kernel
theorem dX6_follow_80 : decode cX6_follow 80 = .ok (.iconst 0, 1) := by decide +kernel
theorem dX6_follow_81 : decode cX6_follow 81 = .ok (.invokevirtual 93, 3) := by decide +kernel
theorem dX6_follow_84 : decode cX6_follow 84 = .ok (.iinc 1 1, 3) := by decide +kernel
theorem dX6_follow_87 : decode cX6_follow 87 = .ok (.goto (-20), 3) := by decide +kernel
theorem dX6_follow_90 : decode cX6_follow 90 = .ok (.goto (-85), 3) := by decide +kernel
theorem dX6_follow_93 : decode cX6_follow 93 = .ok (.return_, 1) := by decide +kernel
theorem dX6_open_0 : decode cX6_open 0 = .ok (.iconst 0, 1) := by decide +kernel
theorem dX6_open_1 : decode cX6_open 1 = .ok (.istore_n 1, 1) := by decide +kernel
theorem dX6_open_2 : decode cX6_open 2 = .ok (.iload_n 1, 1) := by decide +kernel
theorem dX6_open_3 : decode cX6_open 3 = .ok (.aload_n 0, 1) := by decide +kernel
theorem dX6_open_4 : decode cX6_open 4 = .ok (.getfield 45, 3) := by decide +kernel
theorem dX6_open_7 : decode cX6_open 7 = .ok (.if_icmp .ge 58, 3) := by decide +kernel
theorem dX6_open_10 : decode cX6_open 10 = .ok (.iconst 0, 1) := by decide +kernel
theorem dX6_open_11 : decode cX6_open 11 = .ok (.istore_n 2, 1) := by decide +kernel
theorem dX6_open_12 : decode cX6_open 12 = .ok (.iload_n 2, 1) := by decide +kernel
theorem dX6_open_13 : decode cX6_open 13 = .ok (.iconst 2, 1) := by decide +kernel
theorem dX6_open_14 : decode cX6_open 14 = .ok (.aload_n 0, 1) := by decide +kernel
theorem dX6_open_15 : decode cX6_open 15 = .ok (.getfield 49, 3) := by decide +kernel
theorem dX6_open_18 : decode cX6_open 18 = .ok (.imul, 1) := by decide +kernel
theorem dX6_open_19 : decode cX6_open 19 = .ok (.if_icmp .ge 40, 3) := by decide +kernel
theorem dX6_open_22 : decode cX6_open 22 = .ok (.aload_n 0, 1) := by decide +kernel
theorem dX6_open_23 : decode cX6_open 23 = .ok (.getfield 16, 3) := by decide +kernel
theorem dX6_open_26 : decode cX6_open 26 = .ok (.iload_n 1, 1) := by decide +kernel
theorem dX6_open_27 : decode cX6_open 27 = .ok (.iaload, 1) := by decide +kernel
theorem dX6_open_28 : decode cX6_open 28 = .ok (.iload_n 1, 1) := by decide +kernel
theorem dX6_open_29 : decode cX6_open 29 = .ok (.if_icmp .ne 24, 3) := by decide +kernel
theorem dX6_open_32 : decode cX6_open 32 = .ok (.aload_n 0, 1) := by decide +kernel
theorem dX6_open_33 : decode cX6_open 33 = .ok (.getfield 19, 3) := by decide +kernel
theorem dX6_open_36 : decode cX6_open 36 = .ok (.bipush 6, 2) := by decide +kernel
theorem dX6_open_38 : decode cX6_open 38 = .ok (.iload_n 1, 1) := by decide +kernel
theorem dX6_open_39 : decode cX6_open 39 = .ok (.imul, 1) := by decide +kernel
theorem dX6_open_40 : decode cX6_open 40 = .ok (.iload_n 2, 1) := by decide +kernel
theorem dX6_open_41 : decode cX6_open 41 = .ok (.iadd, 1) := by decide +kernel
theorem dX6_open_42 : decode cX6_open 42 = .ok (.iaload, 1) := by decide +kernel
theorem dX6_open_43 : decode cX6_open 43 = .ok (.ifCond .ge 10, 3) := by decide +kernel
theorem dX6_open_46 : decode cX6_open 46 = .ok (.bipush 6, 2) := by decide +kernel
theorem dX6_open_48 : decode cX6_open 48 = .ok (.iload_n 1, 1) := by decide +kernel
theorem dX6_open_49 : decode cX6_open 49 = .ok (.imul, 1) := by decide +kernel
theorem dX6_open_50 : decode cX6_open 50 = .ok (.iload_n 2, 1) := by decide +kernel
theorem dX6_open_51 : decode cX6_open 51 = .ok (.iadd, 1) := by decide +kernel
theorem dX6_open_52 : decode cX6_open 52 = .ok (.ireturn, 1) := by decide +kernel
theorem dX6_open_53 : decode cX6_open 53 = .ok (.iinc 2 1, 3) := by decide +kernel
theorem dX6_open_56 : decode cX6_open 56 = .ok (.goto (-44), 3) := by decide +kernel
theorem dX6_open_59 : decode cX6_open 59 = .ok (.iinc 1 1, 3) := by decide +kernel
theorem dX6_open_62 : decode cX6_open 62 = .ok (.goto (-60), 3) := by decide +kernel
theorem dX6_open_65 : decode cX6_open 65 = .ok (.iconst (-1), 1) := by decide +kernel
theorem dX6_open_66 : decode cX6_open 66 = .ok (.ireturn, 1) := by decide +kernel
set_option maxRecDepth 20000 in
theorem ggX6_run_X6_follow : GoodIn wsX6_run wsX6_follow := goodIn_r _ [7, 8, 1, 9, 2, 10, 11, 12, 13, 6, 14, 15, 16, 17, 18, 19, 20, 21, 22, 23, 24, 25, 26, 27, 28, 29, 30, 31, 32, 33, 34, 35, 36, 42, 43, 44, 45, 46, 47, 48, 49, 50, 51, 52, 53, 54, 55, 56, 57, 58] (by decide +kernel) (by decide +kernel)
set_option maxRecDepth 20000 in
theorem gX6_run_X6_follow : GoodIn wsX6_run (wsV RX6 96 RX6 yX6_follow wsX6_follow) := goodIn_app (goodIn_of _ (by decide +kernel)) ggX6_run_X6_follow
set_option maxRecDepth 20000 in
theorem ggX6_run_X6_open : GoodIn wsX6_run wsX6_open := goodIn_r _ [40, 1, 41, 2, 16, 42, 43, 44, 45, 46, 47, 48, 49, 50, 51, 52, 53, 54, 55, 56, 57, 58] (by decide +kernel) (by decide +kernel)
set_option maxRecDepth 20000 in
theorem gX6_run_X6_open : GoodIn wsX6_run (wsV RX6 99 RX6 yX6_open wsX6_open) := goodIn_app (goodIn_of _ (by decide +kernel)) ggX6_run_X6_open
set_option maxRecDepth 20000 in
theorem ggX6_run_X6_learn : GoodIn wsX6_run wsX6_learn := goodIn_r _ [36, 16, 8, 29, 30, 31, 6, 32, 2, 18, 19, 20, 21, 22, 23, 24, 42, 43, 44, 45, 46, 47, 48, 49, 50, 51, 52, 53, 54, 55, 56, 57, 58] (by decide +kernel) (by decide +kernel)
set_option maxRecDepth 20000 in
theorem gX6_run_X6_learn : GoodIn wsX6_run (wsV RX6 86 RX6 yX6_learn wsX6_learn) := goodIn_app (goodIn_of _ (by decide +kernel)) ggX6_run_X6_learn
theorem dX6_run_0 : decode cX6_run 0 = .ok (.iload_n 1, 1) := by decide +kernel
theorem dX6_run_1 : decode cX6_run 1 = .ok (.iconst 1, 1) := by decide +kernel
theorem dX6_run_2 : decode cX6_run 2 = .ok (.if_icmp .lt 10, 3) := by decide +kernel
theorem dX6_run_5 : decode cX6_run 5 = .ok (.iload_n 1, 1) := by decide +kernel
theorem dX6_run_6 : decode cX6_run 6 = .ok (.sipush 200, 3) := by decide +kernel
theorem dX6_run_9 : decode cX6_run 9 = .ok (.if_icmp .le 5, 3) := by decide +kernel
theorem dX6_run_12 : decode cX6_run 12 = .ok (.iconst (-1), 1) := by decide +kernel
theorem dX6_run_13 : decode cX6_run 13 = .ok (.ireturn, 1) := by decide +kernel
theorem dX6_run_14 : decode cX6_run 14 = .ok (.aload_n 0, 1) := by decide +kernel
theorem dX6_run_15 : decode cX6_run 15 = .ok (.invokevirtual 96, 3) := by decide +kernel
theorem dX6_run_18 : decode cX6_run 18 = .ok (.aload_n 0, 1) := by decide +kernel
theorem dX6_run_19 : decode cX6_run 19 = .ok (.invokevirtual 99, 3) := by decide +kernel
theorem dX6_run_22 : decode cX6_run 22 = .ok (.istore_n 2, 1) := by decide +kernel
theorem dX6_run_23 : decode cX6_run 23 = .ok (.iload_n 2, 1) := by decide +kernel
theorem dX6_run_24 : decode cX6_run 24 = .ok (.ifCond .lt 64, 3) := by decide +kernel
theorem dX6_run_27 : decode cX6_run 27 = .ok (.aload_n 0, 1) := by decide +kernel
theorem dX6_run_28 : decode cX6_run 28 = .ok (.getfield 45, 3) := by decide +kernel
theorem dX6_run_31 : decode cX6_run 31 = .ok (.iload_n 1, 1) := by decide +kernel
theorem dX6_run_32 : decode cX6_run 32 = .ok (.if_icmp .ge 56, 3) := by decide +kernel
theorem dX6_run_35 : decode cX6_run 35 = .ok (.aload_n 0, 1) := by decide +kernel
theorem dX6_run_36 : decode cX6_run 36 = .ok (.getfield 16, 3) := by decide +kernel
theorem dX6_run_39 : decode cX6_run 39 = .ok (.aload_n 0, 1) := by decide +kernel
theorem dX6_run_40 : decode cX6_run 40 = .ok (.getfield 45, 3) := by decide +kernel
theorem dX6_run_43 : decode cX6_run 43 = .ok (.aload_n 0, 1) := by decide +kernel
theorem dX6_run_44 : decode cX6_run 44 = .ok (.getfield 45, 3) := by decide +kernel
theorem dX6_run_47 : decode cX6_run 47 = .ok (.iastore, 1) := by decide +kernel
theorem dX6_run_48 : decode cX6_run 48 = .ok (.aload_n 0, 1) := by decide +kernel
theorem dX6_run_49 : decode cX6_run 49 = .ok (.dup, 1) := by decide +kernel
theorem dX6_run_50 : decode cX6_run 50 = .ok (.getfield 45, 3) := by decide +kernel
theorem dX6_run_53 : decode cX6_run 53 = .ok (.iconst 1, 1) := by decide +kernel
theorem dX6_run_54 : decode cX6_run 54 = .ok (.iadd, 1) := by decide +kernel
theorem dX6_run_55 : decode cX6_run 55 = .ok (.putfield 45, 3) := by decide +kernel
theorem dX6_run_58 : decode cX6_run 58 = .ok (.aload_n 0, 1) := by decide +kernel
theorem dX6_run_59 : decode cX6_run 59 = .ok (.iload_n 2, 1) := by decide +kernel
theorem dX6_run_60 : decode cX6_run 60 = .ok (.bipush 6, 2) := by decide +kernel
theorem dX6_run_62 : decode cX6_run 62 = .ok (.idiv, 1) := by decide +kernel
theorem dX6_run_63 : decode cX6_run 63 = .ok (.iload_n 2, 1) := by decide +kernel
theorem dX6_run_64 : decode cX6_run 64 = .ok (.bipush 6, 2) := by decide +kernel
theorem dX6_run_66 : decode cX6_run 66 = .ok (.irem, 1) := by decide +kernel
theorem dX6_run_67 : decode cX6_run 67 = .ok (.aload_n 0, 1) := by decide +kernel
theorem dX6_run_68 : decode cX6_run 68 = .ok (.getfield 45, 3) := by decide +kernel
theorem dX6_run_71 : decode cX6_run 71 = .ok (.iconst 1, 1) := by decide +kernel
theorem dX6_run_72 : decode cX6_run 72 = .ok (.isub, 1) := by decide +kernel
theorem dX6_run_73 : decode cX6_run 73 = .ok (.invokevirtual 86, 3) := by decide +kernel
theorem dX6_run_76 : decode cX6_run 76 = .ok (.aload_n 0, 1) := by decide +kernel
theorem dX6_run_77 : decode cX6_run 77 = .ok (.invokevirtual 96, 3) := by decide +kernel
theorem dX6_run_80 : decode cX6_run 80 = .ok (.aload_n 0, 1) := by decide +kernel
theorem dX6_run_81 : decode cX6_run 81 = .ok (.invokevirtual 99, 3) := by decide +kernel
theorem dX6_run_84 : decode cX6_run 84 = .ok (.istore_n 2, 1) := by decide +kernel
theorem dX6_run_85 : decode cX6_run 85 = .ok (.goto (-62), 3) := by decide +kernel
theorem dX6_run_88 : decode cX6_run 88 = .ok (.aload_n 0, 1) := by decide +kernel
theorem dX6_run_89 : decode cX6_run 89 = .ok (.getfield 45, 3) := by decide +kernel
theorem dX6_run_92 : decode cX6_run 92 = .ok (.ireturn, 1) := by decide +kernel
theorem dX6_cosets_0 : decode cX6_cosets 0 = .ok (.iconst 0, 1) := by decide +kernel
theorem dX6_cosets_1 : decode cX6_cosets 1 = .ok (.istore_n 1, 1) := by decide +kernel
theorem dX6_cosets_2 : decode cX6_cosets 2 = .ok (.iconst 0, 1) := by decide +kernel
theorem dX6_cosets_3 : decode cX6_cosets 3 = .ok (.istore_n 2, 1) := by decide +kernel
theorem dX6_cosets_4 : decode cX6_cosets 4 = .ok (.iload_n 2, 1) := by decide +kernel
theorem dX6_cosets_5 : decode cX6_cosets 5 = .ok (.aload_n 0, 1) := by decide +kernel
theorem dX6_cosets_6 : decode cX6_cosets 6 = .ok (.getfield 45, 3) := by decide +kernel
theorem dX6_cosets_9 : decode cX6_cosets 9 = .ok (.if_icmp .ge 27, 3) := by decide +kernel
theorem dX6_cosets_12 : decode cX6_cosets 12 = .ok (.iload_n 1, 1) := by decide +kernel
theorem dX6_cosets_13 : decode cX6_cosets 13 = .ok (.aload_n 0, 1) := by decide +kernel
theorem dX6_cosets_14 : decode cX6_cosets 14 = .ok (.getfield 16, 3) := by decide +kernel
theorem dX6_cosets_17 : decode cX6_cosets 17 = .ok (.iload_n 2, 1) := by decide +kernel
theorem dX6_cosets_18 : decode cX6_cosets 18 = .ok (.iaload, 1) := by decide +kernel
theorem dX6_cosets_19 : decode cX6_cosets 19 = .ok (.iload_n 2, 1) := by decide +kernel
theorem dX6_cosets_20 : decode cX6_cosets 20 = .ok (.if_icmp .ne 7, 3) := by decide +kernel
theorem dX6_cosets_23 : decode cX6_cosets 23 = .ok (.iconst 1, 1) := by decide +kernel
theorem dX6_cosets_24 : decode cX6_cosets 24 = .ok (.goto 4, 3) := by decide +kernel
theorem dX6_cosets_27 : decode cX6_cosets 27 = .ok (.iconst 0, 1) := by decide +kernel
theorem dX6_cosets_28 : decode cX6_cosets 28 = .ok (.iadd, 1) := by decide +kernel
theorem dX6_cosets_29 : decode cX6_cosets 29 = .ok (.istore_n 1, 1) := by decide +kernel
theorem dX6_cosets_30 : decode cX6_cosets 30 = .ok (.iinc 2 1, 3) := by decide +kernel
theorem dX6_cosets_33 : decode cX6_cosets 33 = .ok (.goto (-29), 3) := by decide +kernel
theorem dX6_cosets_36 : decode cX6_cosets 36 = .ok (.iload_n 1, 1) := by decide +kernel
theorem dX6_cosets_37 : decode cX6_cosets 37 = .ok (.ireturn, 1) := by decide +kernel
theorem dX6_unknown_0 : decode cX6_unknown 0 = .ok (.iconst 0, 1) := by decide +kernel
theorem dX6_unknown_1 : decode cX6_unknown 1 = .ok (.istore_n 1, 1) := by decide +kernel
theorem dX6_unknown_2 : decode cX6_unknown 2 = .ok (.iconst 0, 1) := by decide +kernel
theorem dX6_unknown_3 : decode cX6_unknown 3 = .ok (.istore_n 2, 1) := by decide +kernel
theorem dX6_unknown_4 : decode cX6_unknown 4 = .ok (.iload_n 2, 1) := by decide +kernel
theorem dX6_unknown_5 : decode cX6_unknown 5 = .ok (.aload_n 0, 1) := by decide +kernel
theorem dX6_unknown_6 : decode cX6_unknown 6 = .ok (.getfield 45, 3) := by decide +kernel
theorem dX6_unknown_9 : decode cX6_unknown 9 = .ok (.if_icmp .ge 59, 3) := by decide +kernel
theorem dX6_unknown_12 : decode cX6_unknown 12 = .ok (.iconst 0, 1) := by decide +kernel
theorem dX6_unknown_13 : decode cX6_unknown 13 = .ok (.istore_n 3, 1) := by decide +kernel
theorem dX6_unknown_14 : decode cX6_unknown 14 = .ok (.iload_n 3, 1) := by decide +kernel
theorem dX6_unknown_15 : decode cX6_unknown 15 = .ok (.iconst 2, 1) := by decide +kernel
theorem dX6_unknown_16 : decode cX6_unknown 16 = .ok (.aload_n 0, 1) := by decide +kernel
theorem dX6_unknown_17 : decode cX6_unknown 17 = .ok (.getfield 49, 3) := by decide +kernel
theorem dX6_unknown_20 : decode cX6_unknown 20 = .ok (.imul, 1) := by decide +kernel
theorem dX6_unknown_21 : decode cX6_unknown 21 = .ok (.if_icmp .ge 41, 3) := by decide +kernel
theorem dX6_unknown_24 : decode cX6_unknown 24 = .ok (.iload_n 1, 1) := by decide +kernel
theorem dX6_unknown_25 : decode cX6_unknown 25 = .ok (.aload_n 0, 1) := by decide +kernel
theorem dX6_unknown_26 : decode cX6_unknown 26 = .ok (.getfield 16, 3) := by decide +kernel
theorem dX6_unknown_29 : decode cX6_unknown 29 = .ok (.iload_n 2, 1) := by decide +kernel
theorem dX6_unknown_30 : decode cX6_unknown 30 = .ok (.iaload, 1) := by decide +kernel
theorem dX6_unknown_31 : decode cX6_unknown 31 = .ok (.iload_n 2, 1) := by decide +kernel
theorem dX6_unknown_32 : decode cX6_unknown 32 = .ok (.if_icmp .ne 21, 3) := by decide +kernel
theorem dX6_unknown_35 : decode cX6_unknown 35 = .ok (.aload_n 0, 1) := by decide +kernel
theorem dX6_unknown_36 : decode cX6_unknown 36 = .ok (.getfield 19, 3) := by decide +kernel
theorem dX6_unknown_39 : decode cX6_unknown 39 = .ok (.bipush 6, 2) := by decide +kernel
theorem dX6_unknown_41 : decode cX6_unknown 41 = .ok (.iload_n 2, 1) := by decide +kernel
theorem dX6_unknown_42 : decode cX6_unknown 42 = .ok (.imul, 1) := by decide +kernel
theorem dX6_unknown_43 : decode cX6_unknown 43 = .ok (.iload_n 3, 1) := by decide +kernel
theorem dX6_unknown_44 : decode cX6_unknown 44 = .ok (.iadd, 1) := by decide +kernel
theorem dX6_unknown_45 : decode cX6_unknown 45 = .ok (.iaload, 1) := by decide +kernel
theorem dX6_unknown_46 : decode cX6_unknown 46 = .ok (.ifCond .ge 7, 3) := by decide +kernel
theorem dX6_unknown_49 : decode cX6_unknown 49 = .ok (.iconst 1, 1) := by decide +kernel
theorem dX6_unknown_50 : decode cX6_unknown 50 = .ok (.goto 4, 3) := by decide +kernel
theorem dX6_unknown_53 : decode cX6_unknown 53 = .ok (.iconst 0, 1) := by decide +kernel
theorem dX6_unknown_54 : decode cX6_unknown 54 = .ok (.iadd, 1) := by decide +kernel
theorem dX6_unknown_55 : decode cX6_unknown 55 = .ok (.istore_n 1, 1) := by decide +kernel
theorem dX6_unknown_56 : decode cX6_unknown 56 = .ok (.iinc 3 1, 3) := by decide +kernel
theorem dX6_unknown_59 : decode cX6_unknown 59 = .ok (.goto (-45), 3) := by decide +kernel
theorem dX6_unknown_62 : decode cX6_unknown 62 = .ok (.iinc 2 1, 3) := by decide +kernel
theorem dX6_unknown_65 : decode cX6_unknown 65 = .ok (.goto (-61), 3) := by decide +kernel
theorem dX6_unknown_68 : decode cX6_unknown 68 = .ok (.iload_n 1, 1) := by decide +kernel
theorem dX6_unknown_69 : decode cX6_unknown 69 = .ok (.ireturn, 1) := by decide +kernel
set_option maxRecDepth 20000 in
theorem ggX6_isComplete_X6_open : GoodIn wsX6_isComplete wsX6_open := goodIn_r _ [5, 6, 7, 8, 9, 10, 11, 12, 13, 14, 15, 16, 17, 18, 19, 20, 21, 22, 23, 24, 25, 26] (by decide +kernel) (by decide +kernel)
set_option maxRecDepth 20000 in
theorem gX6_isComplete_X6_open : GoodIn wsX6_isComplete (wsV RX6 99 RX6 yX6_open wsX6_open) := goodIn_app (goodIn_of _ (by decide +kernel)) ggX6_isComplete_X6_open
theorem dX6_isComplete_0 : decode cX6_isComplete 0 = .ok (.aload_n 0, 1) := by decide +kernel
theorem dX6_isComplete_1 : decode cX6_isComplete 1 = .ok (.invokevirtual 99, 3) := by decide +kernel
theorem dX6_isComplete_4 : decode cX6_isComplete 4 = .ok (.ifCond .ge 7, 3) := by decide +kernel
theorem dX6_isComplete_7 : decode cX6_isComplete 7 = .ok (.iconst 1, 1) := by decide +kernel
theorem dX6_isComplete_8 : decode cX6_isComplete 8 = .ok (.goto 4, 3) := by decide +kernel
theorem dX6_isComplete_11 : decode cX6_isComplete 11 = .ok (.iconst 0, 1) := by decide +kernel
theorem dX6_isComplete_12 : decode cX6_isComplete 12 = .ok (.ireturn, 1) := by decide +kernel
set_option maxRecDepth 20000 in
theorem ggX6_count_X6_cosets : GoodIn wsX6_count wsX6_cosets := goodIn_r _ [9, 1, 10, 25, 26, 27, 28, 29, 30, 31, 32, 33, 34, 35, 36, 37, 38, 39, 40, 41] (by decide +kernel) (by decide +kernel)
set_option maxRecDepth 20000 in
theorem gX6_count_X6_cosets : GoodIn wsX6_count (wsV RX6 103 RX6 yX6_cosets wsX6_cosets) := goodIn_app (goodIn_of _ (by decide +kernel)) ggX6_count_X6_cosets
set_option maxRecDepth 20000 in
theorem ggX6_count_X6_unknown : GoodIn wsX6_count wsX6_unknown := goodIn_r _ [14, 1, 15, 10, 16, 25, 26, 27, 28, 29, 30, 31, 32, 33, 34, 35, 36, 37, 38, 39, 40, 41] (by decide +kernel) (by decide +kernel)
set_option maxRecDepth 20000 in
theorem gX6_count_X6_unknown : GoodIn wsX6_count (wsV RX6 106 RX6 yX6_unknown wsX6_unknown) := goodIn_app (goodIn_of _ (by decide +kernel)) ggX6_count_X6_unknown
set_option maxRecDepth 20000 in
theorem ggX6_count_X6_isComplete : GoodIn wsX6_count wsX6_isComplete := goodIn_r _ [20, 21, 22, 23, 8, 24, 1, 15, 10, 16, 25, 26, 27, 28, 29, 30, 31, 32, 33, 34, 35, 36, 37, 38, 39, 40, 41] (by decide +kernel) (by decide +kernel)
set_option maxRecDepth 20000 in
theorem gX6_count_X6_isComplete : GoodIn wsX6_count (wsV RX6 109 RX6 yX6_isComplete wsX6_isComplete) := goodIn_app (goodIn_of _ (by decide +kernel)) ggX6_count_X6_isComplete
theorem dX6_count_0 : decode cX6_count 0 = .ok (.iload_n 1, 1) := by decide +kernel
theorem dX6_count_1 : decode cX6_count 1 = .ok (.tableswitch 110 0 7 #[47, 52, 57, 62, 75, 92, 97, 102], 47) := by decide +kernel
theorem dX6_count_48 : decode cX6_count 48 = .ok (.aload_n 0, 1) := by decide +kernel
theorem dX6_count_49 : decode cX6_count 49 = .ok (.getfield 45, 3) := by decide +kernel
theorem dX6_count_52 : decode cX6_count 52 = .ok (.ireturn, 1) := by decide +kernel
theorem dX6_count_53 : decode cX6_count 53 = .ok (.aload_n 0, 1) := by decide +kernel
theorem dX6_count_54 : decode cX6_count 54 = .ok (.invokevirtual 103, 3) := by decide +kernel
theorem dX6_count_57 : decode cX6_count 57 = .ok (.ireturn, 1) := by decide +kernel
theorem dX6_count_58 : decode cX6_count 58 = .ok (.aload_n 0, 1) := by decide +kernel
theorem dX6_count_59 : decode cX6_count 59 = .ok (.invokevirtual 106, 3) := by decide +kernel
theorem dX6_count_62 : decode cX6_count 62 = .ok (.ireturn, 1) := by decide +kernel
theorem dX6_count_63 : decode cX6_count 63 = .ok (.aload_n 0, 1) := by decide +kernel
theorem dX6_count_64 : decode cX6_count 64 = .ok (.invokevirtual 109, 3) := by decide +kernel
theorem dX6_count_67 : decode cX6_count 67 = .ok (.ifCond .eq 7, 3) := by decide +kernel
theorem dX6_count_70 : decode cX6_count 70 = .ok (.iconst 1, 1) := by decide +kernel
theorem dX6_count_71 : decode cX6_count 71 = .ok (.goto 4, 3) := by decide +kernel
theorem dX6_count_74 : decode cX6_count 74 = .ok (.iconst 0, 1) := by decide +kernel
theorem dX6_count_75 : decode cX6_count 75 = .ok (.ireturn, 1) := by decide +kernel
theorem dX6_count_76 : decode cX6_count 76 = .ok (.aload_n 0, 1) := by decide +kernel
theorem dX6_count_77 : decode cX6_count 77 = .ok (.invokevirtual 109, 3) := by decide +kernel
theorem dX6_count_80 : decode cX6_count 80 = .ok (.ifCond .eq 10, 3) := by decide +kernel
theorem dX6_count_83 : decode cX6_count 83 = .ok (.aload_n 0, 1) := by decide +kernel
theorem dX6_count_84 : decode cX6_count 84 = .ok (.invokevirtual 103, 3) := by decide +kernel
theorem dX6_count_87 : decode cX6_count 87 = .ok (.goto 5, 3) := by decide +kernel
theorem dX6_count_90 : decode cX6_count 90 = .ok (.bipush (-2), 2) := by decide +kernel
theorem dX6_count_92 : decode cX6_count 92 = .ok (.ireturn, 1) := by decide +kernel
theorem dX6_count_93 : decode cX6_count 93 = .ok (.aload_n 0, 1) := by decide +kernel
theorem dX6_count_94 : decode cX6_count 94 = .ok (.getfield 52, 3) := by decide +kernel
theorem dX6_count_97 : decode cX6_count 97 = .ok (.ireturn, 1) := by decide +kernel
theorem dX6_count_98 : decode cX6_count 98 = .ok (.aload_n 0, 1) := by decide +kernel
theorem dX6_count_99 : decode cX6_count 99 = .ok (.getfield 55, 3) := by decide +kernel
theorem dX6_count_102 : decode cX6_count 102 = .ok (.ireturn, 1) := by decide +kernel
theorem dX6_count_103 : decode cX6_count 103 = .ok (.aload_n 0, 1) := by decide +kernel
theorem dX6_count_104 : decode cX6_count 104 = .ok (.getfield 13, 3) := by decide +kernel
end
section
theorem dX6_count_107 : decode cX6_count 107 = .ok (.bipush 15, 2) := by decide +kernel
theorem dX6_count_109 : decode cX6_count 109 = .ok (.iaload, 1) := by decide +kernel
theorem dX6_count_110 : decode cX6_count 110 = .ok (.ireturn, 1) := by decide +kernel
theorem dX6_count_111 : decode cX6_count 111 = .ok (.iconst (-1), 1) := by decide +kernel
theorem dX6_count_112 : decode cX6_count 112 = .ok (.ireturn, 1) := by decide +kernel
theorem dX6_isCoset_0 : decode cX6_isCoset 0 = .ok (.iload_n 1, 1) := by decide +kernel
theorem dX6_isCoset_1 : decode cX6_isCoset 1 = .ok (.ifCond .lt 25, 3) := by decide +kernel
theorem dX6_isCoset_4 : decode cX6_isCoset 4 = .ok (.iload_n 1, 1) := by decide +kernel
theorem dX6_isCoset_5 : decode cX6_isCoset 5 = .ok (.aload_n 0, 1) := by decide +kernel
theorem dX6_isCoset_6 : decode cX6_isCoset 6 = .ok (.getfield 45, 3) := by decide +kernel
theorem dX6_isCoset_9 : decode cX6_isCoset 9 = .ok (.if_icmp .ge 17, 3) := by decide +kernel
theorem dX6_isCoset_12 : decode cX6_isCoset 12 = .ok (.aload_n 0, 1) := by decide +kernel
theorem dX6_isCoset_13 : decode cX6_isCoset 13 = .ok (.getfield 16, 3) := by decide +kernel
theorem dX6_isCoset_16 : decode cX6_isCoset 16 = .ok (.iload_n 1, 1) := by decide +kernel
theorem dX6_isCoset_17 : decode cX6_isCoset 17 = .ok (.iaload, 1) := by decide +kernel
theorem dX6_isCoset_18 : decode cX6_isCoset 18 = .ok (.iload_n 1, 1) := by decide +kernel
theorem dX6_isCoset_19 : decode cX6_isCoset 19 = .ok (.if_icmp .ne 7, 3) := by decide +kernel
theorem dX6_isCoset_22 : decode cX6_isCoset 22 = .ok (.iconst 1, 1) := by decide +kernel
theorem dX6_isCoset_23 : decode cX6_isCoset 23 = .ok (.goto 4, 3) := by decide +kernel
theorem dX6_isCoset_26 : decode cX6_isCoset 26 = .ok (.iconst 0, 1) := by decide +kernel
theorem dX6_isCoset_27 : decode cX6_isCoset 27 = .ok (.ireturn, 1) := by decide +kernel
set_option maxRecDepth 20000 in
theorem ggX6_known_X6_isLetter : GoodIn wsX6_known wsX6_isLetter := goodIn_r _ [6, 7, 17, 18, 19, 20, 21, 22, 23, 24, 25, 26, 27, 28, 29, 30, 31, 32, 33] (by decide +kernel) (by decide +kernel)
set_option maxRecDepth 20000 in
theorem gX6_known_X6_isLetter : GoodIn wsX6_known (wsV RX6 61 RX6 yX6_isLetter wsX6_isLetter) := goodIn_app (goodIn_of _ (by decide +kernel)) ggX6_known_X6_isLetter
set_option maxRecDepth 20000 in
theorem ggX6_known_X6_isCoset : GoodIn wsX6_known wsX6_isCoset := goodIn_r _ [11, 12, 13, 17, 18, 19, 20, 21, 22, 23, 24, 25, 26, 27, 28, 29, 30, 31, 32, 33] (by decide +kernel) (by decide +kernel)
set_option maxRecDepth 20000 in
theorem gX6_known_X6_isCoset : GoodIn wsX6_known (wsV RX6 113 RX6 yX6_isCoset wsX6_isCoset) := goodIn_app (goodIn_of _ (by decide +kernel)) ggX6_known_X6_isCoset
set_option maxRecDepth 20000 in
theorem ggX6_known_X6_column : GoodIn wsX6_known wsX6_column := goodIn_r _ [16] (by decide +kernel) (by decide +kernel)
set_option maxRecDepth 20000 in
theorem gX6_known_X6_column : GoodIn wsX6_known (va_wsS RX6 65 yX6_column wsX6_column) := goodIn_app (goodIn_of _ (by decide +kernel)) ggX6_known_X6_column
theorem dX6_known_0 : decode cX6_known 0 = .ok (.aload_n 0, 1) := by decide +kernel
theorem dX6_known_1 : decode cX6_known 1 = .ok (.iload_n 2, 1) := by decide +kernel
theorem dX6_known_2 : decode cX6_known 2 = .ok (.invokevirtual 61, 3) := by decide +kernel
theorem dX6_known_5 : decode cX6_known 5 = .ok (.ifCond .eq 11, 3) := by decide +kernel
theorem dX6_known_8 : decode cX6_known 8 = .ok (.aload_n 0, 1) := by decide +kernel
theorem dX6_known_9 : decode cX6_known 9 = .ok (.iload_n 1, 1) := by decide +kernel
theorem dX6_known_10 : decode cX6_known 10 = .ok (.invokevirtual 113, 3) := by decide +kernel
theorem dX6_known_13 : decode cX6_known 13 = .ok (.ifCond .ne 5, 3) := by decide +kernel
theorem dX6_known_16 : decode cX6_known 16 = .ok (.iconst (-1), 1) := by decide +kernel
theorem dX6_known_17 : decode cX6_known 17 = .ok (.ireturn, 1) := by decide +kernel
theorem dX6_known_18 : decode cX6_known 18 = .ok (.aload_n 0, 1) := by decide +kernel
theorem dX6_known_19 : decode cX6_known 19 = .ok (.getfield 19, 3) := by decide +kernel
theorem dX6_known_22 : decode cX6_known 22 = .ok (.bipush 6, 2) := by decide +kernel
theorem dX6_known_24 : decode cX6_known 24 = .ok (.iload_n 1, 1) := by decide +kernel
theorem dX6_known_25 : decode cX6_known 25 = .ok (.imul, 1) := by decide +kernel
theorem dX6_known_26 : decode cX6_known 26 = .ok (.iload_n 2, 1) := by decide +kernel
theorem dX6_known_27 : decode cX6_known 27 = .ok (.invokestatic 65, 3) := by decide +kernel
theorem dX6_known_30 : decode cX6_known 30 = .ok (.iadd, 1) := by decide +kernel
theorem dX6_known_31 : decode cX6_known 31 = .ok (.iaload, 1) := by decide +kernel
theorem dX6_known_32 : decode cX6_known 32 = .ok (.istore_n 3, 1) := by decide +kernel
theorem dX6_known_33 : decode cX6_known 33 = .ok (.iload_n 3, 1) := by decide +kernel
theorem dX6_known_34 : decode cX6_known 34 = .ok (.ifCond .ge 8, 3) := by decide +kernel
theorem dX6_known_37 : decode cX6_known 37 = .ok (.bipush (-2), 2) := by decide +kernel
theorem dX6_known_39 : decode cX6_known 39 = .ok (.goto 4, 3) := by decide +kernel
theorem dX6_known_42 : decode cX6_known 42 = .ok (.iload_n 3, 1) := by decide +kernel
theorem dX6_known_43 : decode cX6_known 43 = .ok (.ireturn, 1) := by decide +kernel
set_option maxRecDepth 20000 in
theorem ggX6_numberAll_X6_isComplete : GoodIn wsX6_numberAll wsX6_isComplete := goodIn_r _ [10, 11, 12, 13, 9, 14, 15, 4, 16, 5, 17, 18, 19, 20, 21, 22, 23, 24, 25, 26, 27, 28, 29, 30, 31, 32, 33] (by decide +kernel) (by decide +kernel)
set_option maxRecDepth 20000 in
theorem gX6_numberAll_X6_isComplete : GoodIn wsX6_numberAll (wsV RX6 109 RX6 yX6_isComplete wsX6_isComplete) := goodIn_app (goodIn_of _ (by decide +kernel)) ggX6_numberAll_X6_isComplete
theorem dX6_numberAll_0 : decode cX6_numberAll 0 = .ok (.aload_n 0, 1) := by decide +kernel
theorem dX6_numberAll_1 : decode cX6_numberAll 1 = .ok (.invokevirtual 109, 3) := by decide +kernel
theorem dX6_numberAll_4 : decode cX6_numberAll 4 = .ok (.ifCond .ne 5, 3) := by decide +kernel
theorem dX6_numberAll_7 : decode cX6_numberAll 7 = .ok (.iconst 0, 1) := by decide +kernel
theorem dX6_numberAll_8 : decode cX6_numberAll 8 = .ok (.ireturn, 1) := by decide +kernel
theorem dX6_numberAll_9 : decode cX6_numberAll 9 = .ok (.iconst 0, 1) := by decide +kernel
theorem dX6_numberAll_10 : decode cX6_numberAll 10 = .ok (.istore_n 1, 1) := by decide +kernel
theorem dX6_numberAll_11 : decode cX6_numberAll 11 = .ok (.iload_n 1, 1) := by decide +kernel
theorem dX6_numberAll_12 : decode cX6_numberAll 12 = .ok (.sipush 200, 3) := by decide +kernel
theorem dX6_numberAll_15 : decode cX6_numberAll 15 = .ok (.if_icmp .ge 16, 3) := by decide +kernel
theorem dX6_numberAll_18 : decode cX6_numberAll 18 = .ok (.aload_n 0, 1) := by decide +kernel
theorem dX6_numberAll_19 : decode cX6_numberAll 19 = .ok (.getfield 28, 3) := by decide +kernel
theorem dX6_numberAll_22 : decode cX6_numberAll 22 = .ok (.iload_n 1, 1) := by decide +kernel
theorem dX6_numberAll_23 : decode cX6_numberAll 23 = .ok (.iconst (-1), 1) := by decide +kernel
theorem dX6_numberAll_24 : decode cX6_numberAll 24 = .ok (.iastore, 1) := by decide +kernel
theorem dX6_numberAll_25 : decode cX6_numberAll 25 = .ok (.iinc 1 1, 3) := by decide +kernel
theorem dX6_numberAll_28 : decode cX6_numberAll 28 = .ok (.goto (-17), 3) := by decide +kernel
theorem dX6_numberAll_31 : decode cX6_numberAll 31 = .ok (.aload_n 0, 1) := by decide +kernel
theorem dX6_numberAll_32 : decode cX6_numberAll 32 = .ok (.getfield 28, 3) := by decide +kernel
theorem dX6_numberAll_35 : decode cX6_numberAll 35 = .ok (.iconst 0, 1) := by decide +kernel
theorem dX6_numberAll_36 : decode cX6_numberAll 36 = .ok (.iconst 0, 1) := by decide +kernel
theorem dX6_numberAll_37 : decode cX6_numberAll 37 = .ok (.iastore, 1) := by decide +kernel
theorem dX6_numberAll_38 : decode cX6_numberAll 38 = .ok (.aload_n 0, 1) := by decide +kernel
theorem dX6_numberAll_39 : decode cX6_numberAll 39 = .ok (.getfield 31, 3) := by decide +kernel
theorem dX6_numberAll_42 : decode cX6_numberAll 42 = .ok (.iconst 0, 1) := by decide +kernel
theorem dX6_numberAll_43 : decode cX6_numberAll 43 = .ok (.iconst 0, 1) := by decide +kernel
theorem dX6_numberAll_44 : decode cX6_numberAll 44 = .ok (.iastore, 1) := by decide +kernel
theorem dX6_numberAll_45 : decode cX6_numberAll 45 = .ok (.aload_n 0, 1) := by decide +kernel
theorem dX6_numberAll_46 : decode cX6_numberAll 46 = .ok (.iconst 1, 1) := by decide +kernel
theorem dX6_numberAll_47 : decode cX6_numberAll 47 = .ok (.putfield 116, 3) := by decide +kernel
theorem dX6_numberAll_50 : decode cX6_numberAll 50 = .ok (.iconst 0, 1) := by decide +kernel
theorem dX6_numberAll_51 : decode cX6_numberAll 51 = .ok (.istore_n 1, 1) := by decide +kernel
theorem dX6_numberAll_52 : decode cX6_numberAll 52 = .ok (.iload_n 1, 1) := by decide +kernel
theorem dX6_numberAll_53 : decode cX6_numberAll 53 = .ok (.aload_n 0, 1) := by decide +kernel
theorem dX6_numberAll_54 : decode cX6_numberAll 54 = .ok (.getfield 116, 3) := by decide +kernel
theorem dX6_numberAll_57 : decode cX6_numberAll 57 = .ok (.if_icmp .ge 83, 3) := by decide +kernel
theorem dX6_numberAll_60 : decode cX6_numberAll 60 = .ok (.iconst 0, 1) := by decide +kernel
theorem dX6_numberAll_61 : decode cX6_numberAll 61 = .ok (.istore_n 2, 1) := by decide +kernel
theorem dX6_numberAll_62 : decode cX6_numberAll 62 = .ok (.iload_n 2, 1) := by decide +kernel
theorem dX6_numberAll_63 : decode cX6_numberAll 63 = .ok (.iconst 2, 1) := by decide +kernel
theorem dX6_numberAll_64 : decode cX6_numberAll 64 = .ok (.aload_n 0, 1) := by decide +kernel
theorem dX6_numberAll_65 : decode cX6_numberAll 65 = .ok (.getfield 49, 3) := by decide +kernel
theorem dX6_numberAll_68 : decode cX6_numberAll 68 = .ok (.imul, 1) := by decide +kernel
theorem dX6_numberAll_69 : decode cX6_numberAll 69 = .ok (.if_icmp .ge 65, 3) := by decide +kernel
theorem dX6_numberAll_72 : decode cX6_numberAll 72 = .ok (.aload_n 0, 1) := by decide +kernel
theorem dX6_numberAll_73 : decode cX6_numberAll 73 = .ok (.getfield 19, 3) := by decide +kernel
theorem dX6_numberAll_76 : decode cX6_numberAll 76 = .ok (.bipush 6, 2) := by decide +kernel
theorem dX6_numberAll_78 : decode cX6_numberAll 78 = .ok (.aload_n 0, 1) := by decide +kernel
theorem dX6_numberAll_79 : decode cX6_numberAll 79 = .ok (.getfield 31, 3) := by decide +kernel
theorem dX6_numberAll_82 : decode cX6_numberAll 82 = .ok (.iload_n 1, 1) := by decide +kernel
theorem dX6_numberAll_83 : decode cX6_numberAll 83 = .ok (.iaload, 1) := by decide +kernel
theorem dX6_numberAll_84 : decode cX6_numberAll 84 = .ok (.imul, 1) := by decide +kernel
theorem dX6_numberAll_85 : decode cX6_numberAll 85 = .ok (.iload_n 2, 1) := by decide +kernel
theorem dX6_numberAll_86 : decode cX6_numberAll 86 = .ok (.iadd, 1) := by decide +kernel
theorem dX6_numberAll_87 : decode cX6_numberAll 87 = .ok (.iaload, 1) := by decide +kernel
theorem dX6_numberAll_88 : decode cX6_numberAll 88 = .ok (.istore_n 3, 1) := by decide +kernel
theorem dX6_numberAll_89 : decode cX6_numberAll 89 = .ok (.aload_n 0, 1) := by decide +kernel
theorem dX6_numberAll_90 : decode cX6_numberAll 90 = .ok (.getfield 28, 3) := by decide +kernel
theorem dX6_numberAll_93 : decode cX6_numberAll 93 = .ok (.iload_n 3, 1) := by decide +kernel
theorem dX6_numberAll_94 : decode cX6_numberAll 94 = .ok (.iaload, 1) := by decide +kernel
theorem dX6_numberAll_95 : decode cX6_numberAll 95 = .ok (.ifCond .ge 33, 3) := by decide +kernel
theorem dX6_numberAll_98 : decode cX6_numberAll 98 = .ok (.aload_n 0, 1) := by decide +kernel
theorem dX6_numberAll_99 : decode cX6_numberAll 99 = .ok (.getfield 28, 3) := by decide +kernel
theorem dX6_numberAll_102 : decode cX6_numberAll 102 = .ok (.iload_n 3, 1) := by decide +kernel
theorem dX6_numberAll_103 : decode cX6_numberAll 103 = .ok (.aload_n 0, 1) := by decide +kernel
theorem dX6_numberAll_104 : decode cX6_numberAll 104 = .ok (.getfield 116, 3) := by decide +kernel
theorem dX6_numberAll_107 : decode cX6_numberAll 107 = .ok (.iastore, 1) := by decide +kernel
theorem dX6_numberAll_108 : decode cX6_numberAll 108 = .ok (.aload_n 0, 1) := by decide +kernel
theorem dX6_numberAll_109 : decode cX6_numberAll 109 = .ok (.getfield 31, 3) := by decide +kernel
theorem dX6_numberAll_112 : decode cX6_numberAll 112 = .ok (.aload_n 0, 1) := by decide +kernel
theorem dX6_numberAll_113 : decode cX6_numberAll 113 = .ok (.getfield 116, 3) := by decide +kernel
theorem dX6_numberAll_116 : decode cX6_numberAll 116 = .ok (.iload_n 3, 1) := by decide +kernel
theorem dX6_numberAll_117 : decode cX6_numberAll 117 = .ok (.iastore, 1) := by decide +kernel
theorem dX6_numberAll_118 : decode cX6_numberAll 118 = .ok (.aload_n 0, 1) := by decide +kernel
theorem dX6_numberAll_119 : decode cX6_numberAll 119 = .ok (.dup, 1) := by decide +kernel
theorem dX6_numberAll_120 : decode cX6_numberAll 120 = .ok (.getfield 116, 3) := by decide +kernel
theorem dX6_numberAll_123 : decode cX6_numberAll 123 = .ok (.iconst 1, 1) := by decide +kernel
theorem dX6_numberAll_124 : decode cX6_numberAll 124 = .ok (.iadd, 1) := by decide +kernel
theorem dX6_numberAll_125 : decode cX6_numberAll 125 = .ok (.putfield 116, 3) := by decide +kernel
theorem dX6_numberAll_128 : decode cX6_numberAll 128 = .ok (.iinc 2 1, 3) := by decide +kernel
theorem dX6_numberAll_131 : decode cX6_numberAll 131 = .ok (.goto (-69), 3) := by decide +kernel
theorem dX6_numberAll_134 : decode cX6_numberAll 134 = .ok (.iinc 1 1, 3) := by decide +kernel
theorem dX6_numberAll_137 : decode cX6_numberAll 137 = .ok (.goto (-85), 3) := by decide +kernel
theorem dX6_numberAll_140 : decode cX6_numberAll 140 = .ok (.iconst 1, 1) := by decide +kernel
theorem dX6_numberAll_141 : decode cX6_numberAll 141 = .ok (.ireturn, 1) := by decide +kernel
theorem dX6_isNumber_0 : decode cX6_isNumber 0 = .ok (.iload_n 1, 1) := by decide +kernel
theorem dX6_isNumber_1 : decode cX6_isNumber 1 = .ok (.ifCond .lt 15, 3) := by decide +kernel
theorem dX6_isNumber_4 : decode cX6_isNumber 4 = .ok (.iload_n 1, 1) := by decide +kernel
theorem dX6_isNumber_5 : decode cX6_isNumber 5 = .ok (.aload_n 0, 1) := by decide +kernel
theorem dX6_isNumber_6 : decode cX6_isNumber 6 = .ok (.getfield 116, 3) := by decide +kernel
theorem dX6_isNumber_9 : decode cX6_isNumber 9 = .ok (.if_icmp .ge 7, 3) := by decide +kernel
theorem dX6_isNumber_12 : decode cX6_isNumber 12 = .ok (.iconst 1, 1) := by decide +kernel
theorem dX6_isNumber_13 : decode cX6_isNumber 13 = .ok (.goto 4, 3) := by decide +kernel
theorem dX6_isNumber_16 : decode cX6_isNumber 16 = .ok (.iconst 0, 1) := by decide +kernel
theorem dX6_isNumber_17 : decode cX6_isNumber 17 = .ok (.ireturn, 1) := by decide +kernel
theorem dX6_moved_0 : decode cX6_moved 0 = .ok (.aload_n 0, 1) := by decide +kernel
theorem dX6_moved_1 : decode cX6_moved 1 = .ok (.getfield 31, 3) := by decide +kernel
theorem dX6_moved_4 : decode cX6_moved 4 = .ok (.iload_n 2, 1) := by decide +kernel
theorem dX6_moved_5 : decode cX6_moved 5 = .ok (.iaload, 1) := by decide +kernel
theorem dX6_moved_6 : decode cX6_moved 6 = .ok (.istore_n 3, 1) := by decide +kernel
theorem dX6_moved_7 : decode cX6_moved 7 = .ok (.iconst 0, 1) := by decide +kernel
theorem dX6_moved_8 : decode cX6_moved 8 = .ok (.istore 4, 2) := by decide +kernel
theorem dX6_moved_10 : decode cX6_moved 10 = .ok (.iload 4, 2) := by decide +kernel
theorem dX6_moved_12 : decode cX6_moved 12 = .ok (.aload_n 0, 1) := by decide +kernel
theorem dX6_moved_13 : decode cX6_moved 13 = .ok (.getfield 13, 3) := by decide +kernel
theorem dX6_moved_16 : decode cX6_moved 16 = .ok (.iload_n 1, 1) := by decide +kernel
theorem dX6_moved_17 : decode cX6_moved 17 = .ok (.iaload, 1) := by decide +kernel
theorem dX6_moved_18 : decode cX6_moved 18 = .ok (.if_icmp .ge 32, 3) := by decide +kernel
theorem dX6_moved_21 : decode cX6_moved 21 = .ok (.aload_n 0, 1) := by decide +kernel
theorem dX6_moved_22 : decode cX6_moved 22 = .ok (.getfield 19, 3) := by decide +kernel
theorem dX6_moved_25 : decode cX6_moved 25 = .ok (.bipush 6, 2) := by decide +kernel
theorem dX6_moved_27 : decode cX6_moved 27 = .ok (.iload_n 3, 1) := by decide +kernel
theorem dX6_moved_28 : decode cX6_moved 28 = .ok (.imul, 1) := by decide +kernel
theorem dX6_moved_29 : decode cX6_moved 29 = .ok (.aload_n 0, 1) := by decide +kernel
theorem dX6_moved_30 : decode cX6_moved 30 = .ok (.getfield 7, 3) := by decide +kernel
theorem dX6_moved_33 : decode cX6_moved 33 = .ok (.bipush 24, 2) := by decide +kernel
theorem dX6_moved_35 : decode cX6_moved 35 = .ok (.iload_n 1, 1) := by decide +kernel
theorem dX6_moved_36 : decode cX6_moved 36 = .ok (.imul, 1) := by decide +kernel
theorem dX6_moved_37 : decode cX6_moved 37 = .ok (.iload 4, 2) := by decide +kernel
theorem dX6_moved_39 : decode cX6_moved 39 = .ok (.iadd, 1) := by decide +kernel
theorem dX6_moved_40 : decode cX6_moved 40 = .ok (.iaload, 1) := by decide +kernel
theorem dX6_moved_41 : decode cX6_moved 41 = .ok (.iadd, 1) := by decide +kernel
theorem dX6_moved_42 : decode cX6_moved 42 = .ok (.iaload, 1) := by decide +kernel
theorem dX6_moved_43 : decode cX6_moved 43 = .ok (.istore_n 3, 1) := by decide +kernel
theorem dX6_moved_44 : decode cX6_moved 44 = .ok (.iinc 4 1, 3) := by decide +kernel
theorem dX6_moved_47 : decode cX6_moved 47 = .ok (.goto (-37), 3) := by decide +kernel
theorem dX6_moved_50 : decode cX6_moved 50 = .ok (.aload_n 0, 1) := by decide +kernel
theorem dX6_moved_51 : decode cX6_moved 51 = .ok (.getfield 28, 3) := by decide +kernel
theorem dX6_moved_54 : decode cX6_moved 54 = .ok (.iload_n 3, 1) := by decide +kernel
theorem dX6_moved_55 : decode cX6_moved 55 = .ok (.iaload, 1) := by decide +kernel
theorem dX6_moved_56 : decode cX6_moved 56 = .ok (.ireturn, 1) := by decide +kernel
set_option maxRecDepth 20000 in
theorem ggX6_number_X6_numberAll : GoodIn wsX6_number wsX6_numberAll := goodIn_r _ [6, 1, 7, 8, 9, 10, 11, 12, 13, 5, 14, 15, 16, 17, 18, 19, 20, 25, 26, 27, 28, 29, 30, 31, 32, 33, 34, 35, 36, 37, 38, 39, 40, 41] (by decide +kernel) (by decide +kernel)
set_option maxRecDepth 20000 in
theorem gX6_number_X6_numberAll : GoodIn wsX6_number (wsV RX6 119 RX6 yX6_numberAll wsX6_numberAll) := goodIn_app (goodIn_of _ (by decide +kernel)) ggX6_number_X6_numberAll
set_option maxRecDepth 20000 in
theorem ggX6_number_X6_isCoset : GoodIn wsX6_number wsX6_isCoset := goodIn_r _ [24, 19, 20, 25, 26, 27, 28, 29, 30, 31, 32, 33, 34, 35, 36, 37, 38, 39, 40, 41] (by decide +kernel) (by decide +kernel)
set_option maxRecDepth 20000 in
theorem gX6_number_X6_isCoset : GoodIn wsX6_number (wsV RX6 113 RX6 yX6_isCoset wsX6_isCoset) := goodIn_app (goodIn_of _ (by decide +kernel)) ggX6_number_X6_isCoset
theorem dX6_number_0 : decode cX6_number 0 = .ok (.aload_n 0, 1) := by decide +kernel
theorem dX6_number_1 : decode cX6_number 1 = .ok (.invokevirtual 119, 3) := by decide +kernel
theorem dX6_number_4 : decode cX6_number 4 = .ok (.ifCond .eq 20, 3) := by decide +kernel
theorem dX6_number_7 : decode cX6_number 7 = .ok (.aload_n 0, 1) := by decide +kernel
theorem dX6_number_8 : decode cX6_number 8 = .ok (.iload_n 1, 1) := by decide +kernel
theorem dX6_number_9 : decode cX6_number 9 = .ok (.invokevirtual 113, 3) := by decide +kernel
theorem dX6_number_12 : decode cX6_number 12 = .ok (.ifCond .eq 12, 3) := by decide +kernel
theorem dX6_number_15 : decode cX6_number 15 = .ok (.aload_n 0, 1) := by decide +kernel
theorem dX6_number_16 : decode cX6_number 16 = .ok (.getfield 28, 3) := by decide +kernel
theorem dX6_number_19 : decode cX6_number 19 = .ok (.iload_n 1, 1) := by decide +kernel
theorem dX6_number_20 : decode cX6_number 20 = .ok (.iaload, 1) := by decide +kernel
theorem dX6_number_21 : decode cX6_number 21 = .ok (.goto 4, 3) := by decide +kernel
theorem dX6_number_24 : decode cX6_number 24 = .ok (.iconst (-1), 1) := by decide +kernel
theorem dX6_number_25 : decode cX6_number 25 = .ok (.ireturn, 1) := by decide +kernel
set_option maxRecDepth 20000 in
theorem ggX6_entry_X6_numberAll : GoodIn wsX6_entry wsX6_numberAll := goodIn_r _ [8, 1, 3, 9, 10, 2, 11, 12, 13, 7, 14, 15, 16, 17, 18, 19, 20, 32, 33, 34, 35, 36, 37, 38, 39, 40, 41, 42, 43, 44, 45, 46, 47, 48] (by decide +kernel) (by decide +kernel)
set_option maxRecDepth 20000 in
theorem gX6_entry_X6_numberAll : GoodIn wsX6_entry (wsV RX6 119 RX6 yX6_numberAll wsX6_numberAll) := goodIn_app (goodIn_of _ (by decide +kernel)) ggX6_entry_X6_numberAll
set_option maxRecDepth 20000 in
theorem ggX6_entry_X6_isNumber : GoodIn wsX6_entry wsX6_isNumber := goodIn_r _ [24, 9, 32, 33, 34, 35, 36, 37, 38, 39, 40, 41, 42, 43, 44, 45, 46, 47, 48] (by decide +kernel) (by decide +kernel)
set_option maxRecDepth 20000 in
theorem gX6_entry_X6_isNumber : GoodIn wsX6_entry (wsV RX6 122 RX6 yX6_isNumber wsX6_isNumber) := goodIn_app (goodIn_of _ (by decide +kernel)) ggX6_entry_X6_isNumber
set_option maxRecDepth 20000 in
theorem ggX6_entry_X6_isLetter : GoodIn wsX6_entry wsX6_isLetter := goodIn_r _ [28, 10, 32, 33, 34, 35, 36, 37, 38, 39, 40, 41, 42, 43, 44, 45, 46, 47, 48] (by decide +kernel) (by decide +kernel)
set_option maxRecDepth 20000 in
theorem gX6_entry_X6_isLetter : GoodIn wsX6_entry (wsV RX6 61 RX6 yX6_isLetter wsX6_isLetter) := goodIn_app (goodIn_of _ (by decide +kernel)) ggX6_entry_X6_isLetter
set_option maxRecDepth 20000 in
theorem ggX6_entry_X6_column : GoodIn wsX6_entry wsX6_column := goodIn_r _ [31] (by decide +kernel) (by decide +kernel)
set_option maxRecDepth 20000 in
theorem gX6_entry_X6_column : GoodIn wsX6_entry (va_wsS RX6 65 yX6_column wsX6_column) := goodIn_app (goodIn_of _ (by decide +kernel)) ggX6_entry_X6_column
theorem dX6_entry_0 : decode cX6_entry 0 = .ok (.aload_n 0, 1) := by decide +kernel
theorem dX6_entry_1 : decode cX6_entry 1 = .ok (.invokevirtual 119, 3) := by decide +kernel
theorem dX6_entry_4 : decode cX6_entry 4 = .ok (.ifCond .eq 46, 3) := by decide +kernel
theorem dX6_entry_7 : decode cX6_entry 7 = .ok (.aload_n 0, 1) := by decide +kernel
theorem dX6_entry_8 : decode cX6_entry 8 = .ok (.iload_n 1, 1) := by decide +kernel
theorem dX6_entry_9 : decode cX6_entry 9 = .ok (.invokevirtual 122, 3) := by decide +kernel
theorem dX6_entry_12 : decode cX6_entry 12 = .ok (.ifCond .eq 38, 3) := by decide +kernel
theorem dX6_entry_15 : decode cX6_entry 15 = .ok (.aload_n 0, 1) := by decide +kernel
theorem dX6_entry_16 : decode cX6_entry 16 = .ok (.iload_n 2, 1) := by decide +kernel
theorem dX6_entry_17 : decode cX6_entry 17 = .ok (.invokevirtual 61, 3) := by decide +kernel
theorem dX6_entry_20 : decode cX6_entry 20 = .ok (.ifCond .eq 30, 3) := by decide +kernel
theorem dX6_entry_23 : decode cX6_entry 23 = .ok (.aload_n 0, 1) := by decide +kernel
theorem dX6_entry_24 : decode cX6_entry 24 = .ok (.getfield 28, 3) := by decide +kernel
theorem dX6_entry_27 : decode cX6_entry 27 = .ok (.aload_n 0, 1) := by decide +kernel
theorem dX6_entry_28 : decode cX6_entry 28 = .ok (.getfield 19, 3) := by decide +kernel
theorem dX6_entry_31 : decode cX6_entry 31 = .ok (.bipush 6, 2) := by decide +kernel
theorem dX6_entry_33 : decode cX6_entry 33 = .ok (.aload_n 0, 1) := by decide +kernel
theorem dX6_entry_34 : decode cX6_entry 34 = .ok (.getfield 31, 3) := by decide +kernel
theorem dX6_entry_37 : decode cX6_entry 37 = .ok (.iload_n 1, 1) := by decide +kernel
theorem dX6_entry_38 : decode cX6_entry 38 = .ok (.iaload, 1) := by decide +kernel
theorem dX6_entry_39 : decode cX6_entry 39 = .ok (.imul, 1) := by decide +kernel
theorem dX6_entry_40 : decode cX6_entry 40 = .ok (.iload_n 2, 1) := by decide +kernel
theorem dX6_entry_41 : decode cX6_entry 41 = .ok (.invokestatic 65, 3) := by decide +kernel
theorem dX6_entry_44 : decode cX6_entry 44 = .ok (.iadd, 1) := by decide +kernel
theorem dX6_entry_45 : decode cX6_entry 45 = .ok (.iaload, 1) := by decide +kernel
theorem dX6_entry_46 : decode cX6_entry 46 = .ok (.iaload, 1) := by decide +kernel
theorem dX6_entry_47 : decode cX6_entry 47 = .ok (.goto 4, 3) := by decide +kernel
theorem dX6_entry_50 : decode cX6_entry 50 = .ok (.iconst (-1), 1) := by decide +kernel
theorem dX6_entry_51 : decode cX6_entry 51 = .ok (.ireturn, 1) := by decide +kernel
set_option maxRecDepth 20000 in
theorem ggX6_move_X6_numberAll : GoodIn wsX6_move wsX6_numberAll := goodIn_r _ [5, 6, 7, 8, 9, 10, 11, 12, 13, 4, 14, 15, 16, 17, 18, 19, 20, 31, 32, 33, 34, 35, 36, 37, 38, 39, 40, 41, 42, 43, 44, 45, 46, 47] (by decide +kernel) (by decide +kernel)
set_option maxRecDepth 20000 in
theorem gX6_move_X6_numberAll : GoodIn wsX6_move (wsV RX6 119 RX6 yX6_numberAll wsX6_numberAll) := goodIn_app (goodIn_of _ (by decide +kernel)) ggX6_move_X6_numberAll
set_option maxRecDepth 20000 in
theorem ggX6_move_X6_isNumber : GoodIn wsX6_move wsX6_isNumber := goodIn_r _ [24, 8, 31, 32, 33, 34, 35, 36, 37, 38, 39, 40, 41, 42, 43, 44, 45, 46, 47] (by decide +kernel) (by decide +kernel)
set_option maxRecDepth 20000 in
theorem gX6_move_X6_isNumber : GoodIn wsX6_move (wsV RX6 122 RX6 yX6_isNumber wsX6_isNumber) := goodIn_app (goodIn_of _ (by decide +kernel)) ggX6_move_X6_isNumber
set_option maxRecDepth 20000 in
theorem ggX6_move_X6_moved : GoodIn wsX6_move wsX6_moved := goodIn_r _ [28, 7, 29, 10, 30, 6, 31, 32, 33, 34, 35, 36, 37, 38, 39, 40, 41, 42, 43, 44, 45, 46, 47] (by decide +kernel) (by decide +kernel)
set_option maxRecDepth 20000 in
theorem gX6_move_X6_moved : GoodIn wsX6_move (wsV RX6 125 RX6 yX6_moved wsX6_moved) := goodIn_app (goodIn_of _ (by decide +kernel)) ggX6_move_X6_moved
theorem dX6_move_0 : decode cX6_move 0 = .ok (.aload_n 0, 1) := by decide +kernel
theorem dX6_move_1 : decode cX6_move 1 = .ok (.invokevirtual 119, 3) := by decide +kernel
theorem dX6_move_4 : decode cX6_move 4 = .ok (.ifCond .eq 21, 3) := by decide +kernel
theorem dX6_move_7 : decode cX6_move 7 = .ok (.aload_n 0, 1) := by decide +kernel
theorem dX6_move_8 : decode cX6_move 8 = .ok (.iload_n 1, 1) := by decide +kernel
theorem dX6_move_9 : decode cX6_move 9 = .ok (.invokevirtual 122, 3) := by decide +kernel
theorem dX6_move_12 : decode cX6_move 12 = .ok (.ifCond .eq 13, 3) := by decide +kernel
theorem dX6_move_15 : decode cX6_move 15 = .ok (.aload_n 0, 1) := by decide +kernel
theorem dX6_move_16 : decode cX6_move 16 = .ok (.bipush 15, 2) := by decide +kernel
theorem dX6_move_18 : decode cX6_move 18 = .ok (.iload_n 1, 1) := by decide +kernel
theorem dX6_move_19 : decode cX6_move 19 = .ok (.invokevirtual 125, 3) := by decide +kernel
theorem dX6_move_22 : decode cX6_move 22 = .ok (.goto 4, 3) := by decide +kernel
theorem dX6_move_25 : decode cX6_move 25 = .ok (.iconst (-1), 1) := by decide +kernel
theorem dX6_move_26 : decode cX6_move 26 = .ok (.ireturn, 1) := by decide +kernel
set_option maxRecDepth 20000 in
theorem ggX6_cycle_X6_moved : GoodIn wsX6_cycle wsX6_moved := goodIn_r _ [6, 7, 8, 9, 10, 11, 12, 13, 14, 15, 16, 17, 18, 19, 20, 21, 22, 23, 24, 25, 26, 27, 28] (by decide +kernel) (by decide +kernel)
set_option maxRecDepth 20000 in
theorem gX6_cycle_X6_moved : GoodIn wsX6_cycle (wsV RX6 125 RX6 yX6_moved wsX6_moved) := goodIn_app (goodIn_of _ (by decide +kernel)) ggX6_cycle_X6_moved
theorem dX6_cycle_0 : decode cX6_cycle 0 = .ok (.iconst 0, 1) := by decide +kernel
theorem dX6_cycle_1 : decode cX6_cycle 1 = .ok (.istore_n 2, 1) := by decide +kernel
theorem dX6_cycle_2 : decode cX6_cycle 2 = .ok (.iload_n 1, 1) := by decide +kernel
theorem dX6_cycle_3 : decode cX6_cycle 3 = .ok (.istore_n 3, 1) := by decide +kernel
theorem dX6_cycle_4 : decode cX6_cycle 4 = .ok (.aload_n 0, 1) := by decide +kernel
theorem dX6_cycle_5 : decode cX6_cycle 5 = .ok (.getfield 34, 3) := by decide +kernel
theorem dX6_cycle_8 : decode cX6_cycle 8 = .ok (.iload_n 3, 1) := by decide +kernel
theorem dX6_cycle_9 : decode cX6_cycle 9 = .ok (.baload, 1) := by decide +kernel
theorem dX6_cycle_10 : decode cX6_cycle 10 = .ok (.ifCond .ne 24, 3) := by decide +kernel
theorem dX6_cycle_13 : decode cX6_cycle 13 = .ok (.aload_n 0, 1) := by decide +kernel
theorem dX6_cycle_14 : decode cX6_cycle 14 = .ok (.getfield 34, 3) := by decide +kernel
theorem dX6_cycle_17 : decode cX6_cycle 17 = .ok (.iload_n 3, 1) := by decide +kernel
theorem dX6_cycle_18 : decode cX6_cycle 18 = .ok (.iconst 1, 1) := by decide +kernel
theorem dX6_cycle_19 : decode cX6_cycle 19 = .ok (.bastore, 1) := by decide +kernel
theorem dX6_cycle_20 : decode cX6_cycle 20 = .ok (.iinc 2 1, 3) := by decide +kernel
theorem dX6_cycle_23 : decode cX6_cycle 23 = .ok (.aload_n 0, 1) := by decide +kernel
theorem dX6_cycle_24 : decode cX6_cycle 24 = .ok (.bipush 15, 2) := by decide +kernel
theorem dX6_cycle_26 : decode cX6_cycle 26 = .ok (.iload_n 3, 1) := by decide +kernel
theorem dX6_cycle_27 : decode cX6_cycle 27 = .ok (.invokevirtual 125, 3) := by decide +kernel
theorem dX6_cycle_30 : decode cX6_cycle 30 = .ok (.istore_n 3, 1) := by decide +kernel
theorem dX6_cycle_31 : decode cX6_cycle 31 = .ok (.goto (-27), 3) := by decide +kernel
theorem dX6_cycle_34 : decode cX6_cycle 34 = .ok (.iload_n 2, 1) := by decide +kernel
theorem dX6_cycle_35 : decode cX6_cycle 35 = .ok (.ireturn, 1) := by decide +kernel
set_option maxRecDepth 20000 in
theorem ggX6_cycles_X6_numberAll : GoodIn wsX6_cycles wsX6_numberAll := goodIn_r _ [7, 8, 9, 1, 10, 11, 12, 13, 14, 6, 15, 16, 17, 18, 19, 20, 21, 32, 33, 34, 35, 36, 37, 38, 39, 40, 41, 42, 43, 44, 45, 46, 47, 48] (by decide +kernel) (by decide +kernel)
set_option maxRecDepth 20000 in
theorem gX6_cycles_X6_numberAll : GoodIn wsX6_cycles (wsV RX6 119 RX6 yX6_numberAll wsX6_numberAll) := goodIn_app (goodIn_of _ (by decide +kernel)) ggX6_cycles_X6_numberAll
set_option maxRecDepth 20000 in
theorem ggX6_cycles_X6_cycle : GoodIn wsX6_cycles wsX6_cycle := goodIn_r _ [25, 2, 26, 27, 28, 6, 29, 9, 30, 11, 31, 8, 32, 33, 34, 35, 36, 37, 38, 39, 40, 41, 42, 43, 44, 45, 46, 47, 48] (by decide +kernel) (by decide +kernel)
set_option maxRecDepth 20000 in
theorem gX6_cycles_X6_cycle : GoodIn wsX6_cycles (wsV RX6 129 RX6 yX6_cycle wsX6_cycle) := goodIn_app (goodIn_of _ (by decide +kernel)) ggX6_cycles_X6_cycle
theorem dX6_cycles_0 : decode cX6_cycles 0 = .ok (.aload_n 0, 1) := by decide +kernel
theorem dX6_cycles_1 : decode cX6_cycles 1 = .ok (.invokevirtual 119, 3) := by decide +kernel
theorem dX6_cycles_4 : decode cX6_cycles 4 = .ok (.ifCond .ne 5, 3) := by decide +kernel
theorem dX6_cycles_7 : decode cX6_cycles 7 = .ok (.iconst (-1), 1) := by decide +kernel
theorem dX6_cycles_8 : decode cX6_cycles 8 = .ok (.ireturn, 1) := by decide +kernel
theorem dX6_cycles_9 : decode cX6_cycles 9 = .ok (.iconst 0, 1) := by decide +kernel
theorem dX6_cycles_10 : decode cX6_cycles 10 = .ok (.istore_n 2, 1) := by decide +kernel
theorem dX6_cycles_11 : decode cX6_cycles 11 = .ok (.iload_n 2, 1) := by decide +kernel
theorem dX6_cycles_12 : decode cX6_cycles 12 = .ok (.aload_n 0, 1) := by decide +kernel
theorem dX6_cycles_13 : decode cX6_cycles 13 = .ok (.getfield 116, 3) := by decide +kernel
theorem dX6_cycles_16 : decode cX6_cycles 16 = .ok (.if_icmp .ge 16, 3) := by decide +kernel
theorem dX6_cycles_19 : decode cX6_cycles 19 = .ok (.aload_n 0, 1) := by decide +kernel
theorem dX6_cycles_20 : decode cX6_cycles 20 = .ok (.getfield 34, 3) := by decide +kernel
theorem dX6_cycles_23 : decode cX6_cycles 23 = .ok (.iload_n 2, 1) := by decide +kernel
theorem dX6_cycles_24 : decode cX6_cycles 24 = .ok (.iconst 0, 1) := by decide +kernel
theorem dX6_cycles_25 : decode cX6_cycles 25 = .ok (.bastore, 1) := by decide +kernel
theorem dX6_cycles_26 : decode cX6_cycles 26 = .ok (.iinc 2 1, 3) := by decide +kernel
theorem dX6_cycles_29 : decode cX6_cycles 29 = .ok (.goto (-18), 3) := by decide +kernel
theorem dX6_cycles_32 : decode cX6_cycles 32 = .ok (.iconst 0, 1) := by decide +kernel
theorem dX6_cycles_33 : decode cX6_cycles 33 = .ok (.istore_n 2, 1) := by decide +kernel
theorem dX6_cycles_34 : decode cX6_cycles 34 = .ok (.iconst 0, 1) := by decide +kernel
theorem dX6_cycles_35 : decode cX6_cycles 35 = .ok (.istore_n 3, 1) := by decide +kernel
theorem dX6_cycles_36 : decode cX6_cycles 36 = .ok (.iload_n 3, 1) := by decide +kernel
theorem dX6_cycles_37 : decode cX6_cycles 37 = .ok (.aload_n 0, 1) := by decide +kernel
theorem dX6_cycles_38 : decode cX6_cycles 38 = .ok (.getfield 116, 3) := by decide +kernel
theorem dX6_cycles_41 : decode cX6_cycles 41 = .ok (.if_icmp .ge 40, 3) := by decide +kernel
theorem dX6_cycles_44 : decode cX6_cycles 44 = .ok (.aload_n 0, 1) := by decide +kernel
theorem dX6_cycles_45 : decode cX6_cycles 45 = .ok (.iload_n 3, 1) := by decide +kernel
theorem dX6_cycles_46 : decode cX6_cycles 46 = .ok (.invokevirtual 129, 3) := by decide +kernel
theorem dX6_cycles_49 : decode cX6_cycles 49 = .ok (.istore 4, 2) := by decide +kernel
theorem dX6_cycles_51 : decode cX6_cycles 51 = .ok (.iload_n 2, 1) := by decide +kernel
theorem dX6_cycles_52 : decode cX6_cycles 52 = .ok (.iload 4, 2) := by decide +kernel
theorem dX6_cycles_54 : decode cX6_cycles 54 = .ok (.iconst 1, 1) := by decide +kernel
theorem dX6_cycles_55 : decode cX6_cycles 55 = .ok (.if_icmp .eq 13, 3) := by decide +kernel
theorem dX6_cycles_58 : decode cX6_cycles 58 = .ok (.iload 4, 2) := by decide +kernel
theorem dX6_cycles_60 : decode cX6_cycles 60 = .ok (.iconst 1, 1) := by decide +kernel
theorem dX6_cycles_61 : decode cX6_cycles 61 = .ok (.if_icmp .le 11, 3) := by decide +kernel
theorem dX6_cycles_64 : decode cX6_cycles 64 = .ok (.iload_n 1, 1) := by decide +kernel
theorem dX6_cycles_65 : decode cX6_cycles 65 = .ok (.ifCond .ne 7, 3) := by decide +kernel
theorem dX6_cycles_68 : decode cX6_cycles 68 = .ok (.iconst 1, 1) := by decide +kernel
theorem dX6_cycles_69 : decode cX6_cycles 69 = .ok (.goto 4, 3) := by decide +kernel
theorem dX6_cycles_72 : decode cX6_cycles 72 = .ok (.iconst 0, 1) := by decide +kernel
theorem dX6_cycles_73 : decode cX6_cycles 73 = .ok (.iadd, 1) := by decide +kernel
theorem dX6_cycles_74 : decode cX6_cycles 74 = .ok (.istore_n 2, 1) := by decide +kernel
theorem dX6_cycles_75 : decode cX6_cycles 75 = .ok (.iinc 3 1, 3) := by decide +kernel
theorem dX6_cycles_78 : decode cX6_cycles 78 = .ok (.goto (-42), 3) := by decide +kernel
theorem dX6_cycles_81 : decode cX6_cycles 81 = .ok (.iload_n 2, 1) := by decide +kernel
theorem dX6_cycles_82 : decode cX6_cycles 82 = .ok (.ireturn, 1) := by decide +kernel
set_option maxRecDepth 20000 in
theorem ggX6_order_X6_numberAll : GoodIn wsX6_order wsX6_numberAll := goodIn_r _ [8, 9, 10, 2, 11, 12, 13, 14, 15, 7, 16, 17, 18, 19, 20, 21, 22, 33, 34, 35, 36, 37, 38, 39, 40, 41, 42, 43, 44, 45, 46, 47, 48, 49] (by decide +kernel) (by decide +kernel)
set_option maxRecDepth 20000 in
theorem gX6_order_X6_numberAll : GoodIn wsX6_order (wsV RX6 119 RX6 yX6_numberAll wsX6_numberAll) := goodIn_app (goodIn_of _ (by decide +kernel)) ggX6_order_X6_numberAll
set_option maxRecDepth 20000 in
theorem ggX6_order_X6_cycle : GoodIn wsX6_order wsX6_cycle := goodIn_r _ [26, 3, 27, 28, 29, 7, 30, 10, 31, 12, 32, 9, 33, 34, 35, 36, 37, 38, 39, 40, 41, 42, 43, 44, 45, 46, 47, 48, 49] (by decide +kernel) (by decide +kernel)
set_option maxRecDepth 20000 in
theorem gX6_order_X6_cycle : GoodIn wsX6_order (wsV RX6 129 RX6 yX6_cycle wsX6_cycle) := goodIn_app (goodIn_of _ (by decide +kernel)) ggX6_order_X6_cycle
theorem dX6_order_0 : decode cX6_order 0 = .ok (.aload_n 0, 1) := by decide +kernel
theorem dX6_order_1 : decode cX6_order 1 = .ok (.invokevirtual 119, 3) := by decide +kernel
theorem dX6_order_4 : decode cX6_order 4 = .ok (.ifCond .ne 7, 3) := by decide +kernel
theorem dX6_order_7 : decode cX6_order 7 = .ok (.ldc2_w 132, 3) := by decide +kernel
theorem dX6_order_10 : decode cX6_order 10 = .ok (.lreturn, 1) := by decide +kernel
theorem dX6_order_11 : decode cX6_order 11 = .ok (.iconst 0, 1) := by decide +kernel
theorem dX6_order_12 : decode cX6_order 12 = .ok (.istore_n 1, 1) := by decide +kernel
theorem dX6_order_13 : decode cX6_order 13 = .ok (.iload_n 1, 1) := by decide +kernel
theorem dX6_order_14 : decode cX6_order 14 = .ok (.aload_n 0, 1) := by decide +kernel
theorem dX6_order_15 : decode cX6_order 15 = .ok (.getfield 116, 3) := by decide +kernel
theorem dX6_order_18 : decode cX6_order 18 = .ok (.if_icmp .ge 16, 3) := by decide +kernel
theorem dX6_order_21 : decode cX6_order 21 = .ok (.aload_n 0, 1) := by decide +kernel
theorem dX6_order_22 : decode cX6_order 22 = .ok (.getfield 34, 3) := by decide +kernel
theorem dX6_order_25 : decode cX6_order 25 = .ok (.iload_n 1, 1) := by decide +kernel
theorem dX6_order_26 : decode cX6_order 26 = .ok (.iconst 0, 1) := by decide +kernel
theorem dX6_order_27 : decode cX6_order 27 = .ok (.bastore, 1) := by decide +kernel
theorem dX6_order_28 : decode cX6_order 28 = .ok (.iinc 1 1, 3) := by decide +kernel
theorem dX6_order_31 : decode cX6_order 31 = .ok (.goto (-18), 3) := by decide +kernel
theorem dX6_order_34 : decode cX6_order 34 = .ok (.lconst 1, 1) := by decide +kernel
theorem dX6_order_35 : decode cX6_order 35 = .ok (.lstore_n 1, 1) := by decide +kernel
theorem dX6_order_36 : decode cX6_order 36 = .ok (.iconst 0, 1) := by decide +kernel
theorem dX6_order_37 : decode cX6_order 37 = .ok (.istore_n 3, 1) := by decide +kernel
theorem dX6_order_38 : decode cX6_order 38 = .ok (.iload_n 3, 1) := by decide +kernel
theorem dX6_order_39 : decode cX6_order 39 = .ok (.aload_n 0, 1) := by decide +kernel
theorem dX6_order_40 : decode cX6_order 40 = .ok (.getfield 116, 3) := by decide +kernel
theorem dX6_order_43 : decode cX6_order 43 = .ok (.if_icmp .ge 68, 3) := by decide +kernel
theorem dX6_order_46 : decode cX6_order 46 = .ok (.aload_n 0, 1) := by decide +kernel
theorem dX6_order_47 : decode cX6_order 47 = .ok (.iload_n 3, 1) := by decide +kernel
theorem dX6_order_48 : decode cX6_order 48 = .ok (.invokevirtual 129, 3) := by decide +kernel
theorem dX6_order_51 : decode cX6_order 51 = .ok (.i2l, 1) := by decide +kernel
theorem dX6_order_52 : decode cX6_order 52 = .ok (.lstore 4, 2) := by decide +kernel
theorem dX6_order_54 : decode cX6_order 54 = .ok (.lload_n 1, 1) := by decide +kernel
theorem dX6_order_55 : decode cX6_order 55 = .ok (.lstore 6, 2) := by decide +kernel
theorem dX6_order_57 : decode cX6_order 57 = .ok (.lload 4, 2) := by decide +kernel
theorem dX6_order_59 : decode cX6_order 59 = .ok (.lstore 8, 2) := by decide +kernel
theorem dX6_order_61 : decode cX6_order 61 = .ok (.lload 8, 2) := by decide +kernel
theorem dX6_order_63 : decode cX6_order 63 = .ok (.lconst 0, 1) := by decide +kernel
theorem dX6_order_64 : decode cX6_order 64 = .ok (.lcmp, 1) := by decide +kernel
theorem dX6_order_65 : decode cX6_order 65 = .ok (.ifCond .le 21, 3) := by decide +kernel
theorem dX6_order_68 : decode cX6_order 68 = .ok (.lload 6, 2) := by decide +kernel
theorem dX6_order_70 : decode cX6_order 70 = .ok (.lload 8, 2) := by decide +kernel
theorem dX6_order_72 : decode cX6_order 72 = .ok (.lrem, 1) := by decide +kernel
theorem dX6_order_73 : decode cX6_order 73 = .ok (.lstore 10, 2) := by decide +kernel
theorem dX6_order_75 : decode cX6_order 75 = .ok (.lload 8, 2) := by decide +kernel
theorem dX6_order_77 : decode cX6_order 77 = .ok (.lstore 6, 2) := by decide +kernel
theorem dX6_order_79 : decode cX6_order 79 = .ok (.lload 10, 2) := by decide +kernel
theorem dX6_order_81 : decode cX6_order 81 = .ok (.lstore 8, 2) := by decide +kernel
theorem dX6_order_83 : decode cX6_order 83 = .ok (.goto (-22), 3) := by decide +kernel
theorem dX6_order_86 : decode cX6_order 86 = .ok (.lload 4, 2) := by decide +kernel
theorem dX6_order_88 : decode cX6_order 88 = .ok (.lconst 0, 1) := by decide +kernel
theorem dX6_order_89 : decode cX6_order 89 = .ok (.lcmp, 1) := by decide +kernel
theorem dX6_order_90 : decode cX6_order 90 = .ok (.ifCond .le 13, 3) := by decide +kernel
theorem dX6_order_93 : decode cX6_order 93 = .ok (.lload_n 1, 1) := by decide +kernel
theorem dX6_order_94 : decode cX6_order 94 = .ok (.lload 6, 2) := by decide +kernel
theorem dX6_order_96 : decode cX6_order 96 = .ok (.ldiv, 1) := by decide +kernel
theorem dX6_order_97 : decode cX6_order 97 = .ok (.lload 4, 2) := by decide +kernel
theorem dX6_order_99 : decode cX6_order 99 = .ok (.lmul, 1) := by decide +kernel
theorem dX6_order_100 : decode cX6_order 100 = .ok (.goto 4, 3) := by decide +kernel
theorem dX6_order_103 : decode cX6_order 103 = .ok (.lload_n 1, 1) := by decide +kernel
theorem dX6_order_104 : decode cX6_order 104 = .ok (.lstore_n 1, 1) := by decide +kernel
theorem dX6_order_105 : decode cX6_order 105 = .ok (.iinc 3 1, 3) := by decide +kernel
theorem dX6_order_108 : decode cX6_order 108 = .ok (.goto (-70), 3) := by decide +kernel
theorem dX6_order_111 : decode cX6_order 111 = .ok (.lload_n 1, 1) := by decide +kernel
theorem dX6_order_112 : decode cX6_order 112 = .ok (.lreturn, 1) := by decide +kernel
set_option maxRecDepth 20000 in
theorem ggX6_resting_X6_numberAll : GoodIn wsX6_resting wsX6_numberAll := goodIn_r _ [7, 8, 9, 1, 10, 11, 12, 13, 14, 6, 15, 16, 17, 18, 19, 20, 21, 28, 29, 30, 31, 32, 33, 34, 35, 36, 37, 38, 39, 40, 41, 42, 43, 44] (by decide +kernel) (by decide +kernel)
set_option maxRecDepth 20000 in
theorem gX6_resting_X6_numberAll : GoodIn wsX6_resting (wsV RX6 119 RX6 yX6_numberAll wsX6_numberAll) := goodIn_app (goodIn_of _ (by decide +kernel)) ggX6_resting_X6_numberAll
set_option maxRecDepth 20000 in
theorem ggX6_resting_X6_moved : GoodIn wsX6_resting wsX6_moved := goodIn_r _ [25, 9, 26, 11, 27, 8, 28, 29, 30, 31, 32, 33, 34, 35, 36, 37, 38, 39, 40, 41, 42, 43, 44] (by decide +kernel) (by decide +kernel)
set_option maxRecDepth 20000 in
theorem gX6_resting_X6_moved : GoodIn wsX6_resting (wsV RX6 125 RX6 yX6_moved wsX6_moved) := goodIn_app (goodIn_of _ (by decide +kernel)) ggX6_resting_X6_moved
theorem dX6_resting_0 : decode cX6_resting 0 = .ok (.aload_n 0, 1) := by decide +kernel
theorem dX6_resting_1 : decode cX6_resting 1 = .ok (.invokevirtual 119, 3) := by decide +kernel
theorem dX6_resting_4 : decode cX6_resting 4 = .ok (.ifCond .ne 5, 3) := by decide +kernel
theorem dX6_resting_7 : decode cX6_resting 7 = .ok (.iconst (-1), 1) := by decide +kernel
theorem dX6_resting_8 : decode cX6_resting 8 = .ok (.ireturn, 1) := by decide +kernel
theorem dX6_resting_9 : decode cX6_resting 9 = .ok (.iconst 0, 1) := by decide +kernel
theorem dX6_resting_10 : decode cX6_resting 10 = .ok (.istore_n 1, 1) := by decide +kernel
theorem dX6_resting_11 : decode cX6_resting 11 = .ok (.iconst 0, 1) := by decide +kernel
theorem dX6_resting_12 : decode cX6_resting 12 = .ok (.istore_n 2, 1) := by decide +kernel
theorem dX6_resting_13 : decode cX6_resting 13 = .ok (.iload_n 2, 1) := by decide +kernel
theorem dX6_resting_14 : decode cX6_resting 14 = .ok (.aload_n 0, 1) := by decide +kernel
theorem dX6_resting_15 : decode cX6_resting 15 = .ok (.getfield 116, 3) := by decide +kernel
theorem dX6_resting_18 : decode cX6_resting 18 = .ok (.if_icmp .ge 65, 3) := by decide +kernel
theorem dX6_resting_21 : decode cX6_resting 21 = .ok (.iconst 1, 1) := by decide +kernel
theorem dX6_resting_22 : decode cX6_resting 22 = .ok (.istore_n 3, 1) := by decide +kernel
theorem dX6_resting_23 : decode cX6_resting 23 = .ok (.iconst 0, 1) := by decide +kernel
theorem dX6_resting_24 : decode cX6_resting 24 = .ok (.istore 4, 2) := by decide +kernel
theorem dX6_resting_26 : decode cX6_resting 26 = .ok (.iload 4, 2) := by decide +kernel
theorem dX6_resting_28 : decode cX6_resting 28 = .ok (.aload_n 0, 1) := by decide +kernel
theorem dX6_resting_29 : decode cX6_resting 29 = .ok (.getfield 55, 3) := by decide +kernel
theorem dX6_resting_32 : decode cX6_resting 32 = .ok (.if_icmp .ge 33, 3) := by decide +kernel
theorem dX6_resting_35 : decode cX6_resting 35 = .ok (.iload_n 3, 1) := by decide +kernel
theorem dX6_resting_36 : decode cX6_resting 36 = .ok (.ifCond .eq 21, 3) := by decide +kernel
theorem dX6_resting_39 : decode cX6_resting 39 = .ok (.aload_n 0, 1) := by decide +kernel
theorem dX6_resting_40 : decode cX6_resting 40 = .ok (.bipush 10, 2) := by decide +kernel
theorem dX6_resting_42 : decode cX6_resting 42 = .ok (.iload 4, 2) := by decide +kernel
theorem dX6_resting_44 : decode cX6_resting 44 = .ok (.iadd, 1) := by decide +kernel
theorem dX6_resting_45 : decode cX6_resting 45 = .ok (.iload_n 2, 1) := by decide +kernel
theorem dX6_resting_46 : decode cX6_resting 46 = .ok (.invokevirtual 125, 3) := by decide +kernel
theorem dX6_resting_49 : decode cX6_resting 49 = .ok (.iload_n 2, 1) := by decide +kernel
end
section
theorem dX6_resting_50 : decode cX6_resting 50 = .ok (.if_icmp .ne 7, 3) := by decide +kernel
theorem dX6_resting_53 : decode cX6_resting 53 = .ok (.iconst 1, 1) := by decide +kernel
theorem dX6_resting_54 : decode cX6_resting 54 = .ok (.goto 4, 3) := by decide +kernel
theorem dX6_resting_57 : decode cX6_resting 57 = .ok (.iconst 0, 1) := by decide +kernel
theorem dX6_resting_58 : decode cX6_resting 58 = .ok (.istore_n 3, 1) := by decide +kernel
theorem dX6_resting_59 : decode cX6_resting 59 = .ok (.iinc 4 1, 3) := by decide +kernel
theorem dX6_resting_62 : decode cX6_resting 62 = .ok (.goto (-36), 3) := by decide +kernel
theorem dX6_resting_65 : decode cX6_resting 65 = .ok (.iload_n 1, 1) := by decide +kernel
theorem dX6_resting_66 : decode cX6_resting 66 = .ok (.iload_n 3, 1) := by decide +kernel
theorem dX6_resting_67 : decode cX6_resting 67 = .ok (.ifCond .eq 7, 3) := by decide +kernel
theorem dX6_resting_70 : decode cX6_resting 70 = .ok (.iconst 1, 1) := by decide +kernel
theorem dX6_resting_71 : decode cX6_resting 71 = .ok (.goto 4, 3) := by decide +kernel
theorem dX6_resting_74 : decode cX6_resting 74 = .ok (.iconst 0, 1) := by decide +kernel
theorem dX6_resting_75 : decode cX6_resting 75 = .ok (.iadd, 1) := by decide +kernel
theorem dX6_resting_76 : decode cX6_resting 76 = .ok (.istore_n 1, 1) := by decide +kernel
theorem dX6_resting_77 : decode cX6_resting 77 = .ok (.iinc 2 1, 3) := by decide +kernel
theorem dX6_resting_80 : decode cX6_resting 80 = .ok (.goto (-67), 3) := by decide +kernel
theorem dX6_resting_83 : decode cX6_resting 83 = .ok (.iload_n 1, 1) := by decide +kernel
theorem dX6_resting_84 : decode cX6_resting 84 = .ok (.ireturn, 1) := by decide +kernel
set_option maxRecDepth 20000 in
theorem ggX6_orbit_X6_numberAll : GoodIn wsX6_orbit wsX6_numberAll := goodIn_r _ [8, 9, 10, 1, 11, 12, 13, 14, 15, 7, 16, 17, 18, 19, 20, 21, 22, 33, 34, 35, 36, 37, 38, 39, 40, 41, 42, 43, 44, 45, 46, 47, 48, 49] (by decide +kernel) (by decide +kernel)
set_option maxRecDepth 20000 in
theorem gX6_orbit_X6_numberAll : GoodIn wsX6_orbit (wsV RX6 119 RX6 yX6_numberAll wsX6_numberAll) := goodIn_app (goodIn_of _ (by decide +kernel)) ggX6_orbit_X6_numberAll
set_option maxRecDepth 20000 in
theorem ggX6_orbit_X6_isNumber : GoodIn wsX6_orbit wsX6_isNumber := goodIn_r _ [26, 1, 33, 34, 35, 36, 37, 38, 39, 40, 41, 42, 43, 44, 45, 46, 47, 48, 49] (by decide +kernel) (by decide +kernel)
set_option maxRecDepth 20000 in
theorem gX6_orbit_X6_isNumber : GoodIn wsX6_orbit (wsV RX6 122 RX6 yX6_isNumber wsX6_isNumber) := goodIn_app (goodIn_of _ (by decide +kernel)) ggX6_orbit_X6_isNumber
set_option maxRecDepth 20000 in
theorem ggX6_orbit_X6_moved : GoodIn wsX6_orbit wsX6_moved := goodIn_r _ [30, 10, 31, 12, 32, 9, 33, 34, 35, 36, 37, 38, 39, 40, 41, 42, 43, 44, 45, 46, 47, 48, 49] (by decide +kernel) (by decide +kernel)
set_option maxRecDepth 20000 in
theorem gX6_orbit_X6_moved : GoodIn wsX6_orbit (wsV RX6 125 RX6 yX6_moved wsX6_moved) := goodIn_app (goodIn_of _ (by decide +kernel)) ggX6_orbit_X6_moved
theorem dX6_orbit_0 : decode cX6_orbit 0 = .ok (.aload_n 0, 1) := by decide +kernel
theorem dX6_orbit_1 : decode cX6_orbit 1 = .ok (.invokevirtual 119, 3) := by decide +kernel
theorem dX6_orbit_4 : decode cX6_orbit 4 = .ok (.ifCond .eq 11, 3) := by decide +kernel
theorem dX6_orbit_7 : decode cX6_orbit 7 = .ok (.aload_n 0, 1) := by decide +kernel
theorem dX6_orbit_8 : decode cX6_orbit 8 = .ok (.iload_n 1, 1) := by decide +kernel
theorem dX6_orbit_9 : decode cX6_orbit 9 = .ok (.invokevirtual 122, 3) := by decide +kernel
theorem dX6_orbit_12 : decode cX6_orbit 12 = .ok (.ifCond .ne 5, 3) := by decide +kernel
theorem dX6_orbit_15 : decode cX6_orbit 15 = .ok (.iconst (-1), 1) := by decide +kernel
theorem dX6_orbit_16 : decode cX6_orbit 16 = .ok (.ireturn, 1) := by decide +kernel
theorem dX6_orbit_17 : decode cX6_orbit 17 = .ok (.iconst 0, 1) := by decide +kernel
theorem dX6_orbit_18 : decode cX6_orbit 18 = .ok (.istore_n 2, 1) := by decide +kernel
theorem dX6_orbit_19 : decode cX6_orbit 19 = .ok (.iload_n 2, 1) := by decide +kernel
theorem dX6_orbit_20 : decode cX6_orbit 20 = .ok (.aload_n 0, 1) := by decide +kernel
theorem dX6_orbit_21 : decode cX6_orbit 21 = .ok (.getfield 116, 3) := by decide +kernel
theorem dX6_orbit_24 : decode cX6_orbit 24 = .ok (.if_icmp .ge 16, 3) := by decide +kernel
theorem dX6_orbit_27 : decode cX6_orbit 27 = .ok (.aload_n 0, 1) := by decide +kernel
theorem dX6_orbit_28 : decode cX6_orbit 28 = .ok (.getfield 38, 3) := by decide +kernel
theorem dX6_orbit_31 : decode cX6_orbit 31 = .ok (.iload_n 2, 1) := by decide +kernel
theorem dX6_orbit_32 : decode cX6_orbit 32 = .ok (.iload_n 2, 1) := by decide +kernel
theorem dX6_orbit_33 : decode cX6_orbit 33 = .ok (.iastore, 1) := by decide +kernel
theorem dX6_orbit_34 : decode cX6_orbit 34 = .ok (.iinc 2 1, 3) := by decide +kernel
theorem dX6_orbit_37 : decode cX6_orbit 37 = .ok (.goto (-18), 3) := by decide +kernel
theorem dX6_orbit_40 : decode cX6_orbit 40 = .ok (.iconst 1, 1) := by decide +kernel
theorem dX6_orbit_41 : decode cX6_orbit 41 = .ok (.istore_n 2, 1) := by decide +kernel
theorem dX6_orbit_42 : decode cX6_orbit 42 = .ok (.iload_n 2, 1) := by decide +kernel
theorem dX6_orbit_43 : decode cX6_orbit 43 = .ok (.ifCond .eq 138, 3) := by decide +kernel
theorem dX6_orbit_46 : decode cX6_orbit 46 = .ok (.iconst 0, 1) := by decide +kernel
theorem dX6_orbit_47 : decode cX6_orbit 47 = .ok (.istore_n 2, 1) := by decide +kernel
theorem dX6_orbit_48 : decode cX6_orbit 48 = .ok (.iconst 0, 1) := by decide +kernel
theorem dX6_orbit_49 : decode cX6_orbit 49 = .ok (.istore_n 3, 1) := by decide +kernel
theorem dX6_orbit_50 : decode cX6_orbit 50 = .ok (.iload_n 3, 1) := by decide +kernel
theorem dX6_orbit_51 : decode cX6_orbit 51 = .ok (.aload_n 0, 1) := by decide +kernel
theorem dX6_orbit_52 : decode cX6_orbit 52 = .ok (.getfield 116, 3) := by decide +kernel
theorem dX6_orbit_55 : decode cX6_orbit 55 = .ok (.if_icmp .ge 123, 3) := by decide +kernel
theorem dX6_orbit_58 : decode cX6_orbit 58 = .ok (.iconst 0, 1) := by decide +kernel
theorem dX6_orbit_59 : decode cX6_orbit 59 = .ok (.istore 4, 2) := by decide +kernel
theorem dX6_orbit_61 : decode cX6_orbit 61 = .ok (.iload 4, 2) := by decide +kernel
theorem dX6_orbit_63 : decode cX6_orbit 63 = .ok (.aload_n 0, 1) := by decide +kernel
theorem dX6_orbit_64 : decode cX6_orbit 64 = .ok (.getfield 55, 3) := by decide +kernel
theorem dX6_orbit_67 : decode cX6_orbit 67 = .ok (.if_icmp .ge 105, 3) := by decide +kernel
theorem dX6_orbit_70 : decode cX6_orbit 70 = .ok (.aload_n 0, 1) := by decide +kernel
theorem dX6_orbit_71 : decode cX6_orbit 71 = .ok (.bipush 10, 2) := by decide +kernel
theorem dX6_orbit_73 : decode cX6_orbit 73 = .ok (.iload 4, 2) := by decide +kernel
theorem dX6_orbit_75 : decode cX6_orbit 75 = .ok (.iadd, 1) := by decide +kernel
theorem dX6_orbit_76 : decode cX6_orbit 76 = .ok (.iload_n 3, 1) := by decide +kernel
theorem dX6_orbit_77 : decode cX6_orbit 77 = .ok (.invokevirtual 125, 3) := by decide +kernel
theorem dX6_orbit_80 : decode cX6_orbit 80 = .ok (.istore 5, 2) := by decide +kernel
theorem dX6_orbit_82 : decode cX6_orbit 82 = .ok (.aload_n 0, 1) := by decide +kernel
theorem dX6_orbit_83 : decode cX6_orbit 83 = .ok (.getfield 38, 3) := by decide +kernel
theorem dX6_orbit_86 : decode cX6_orbit 86 = .ok (.iload_n 3, 1) := by decide +kernel
theorem dX6_orbit_87 : decode cX6_orbit 87 = .ok (.iaload, 1) := by decide +kernel
theorem dX6_orbit_88 : decode cX6_orbit 88 = .ok (.aload_n 0, 1) := by decide +kernel
theorem dX6_orbit_89 : decode cX6_orbit 89 = .ok (.getfield 38, 3) := by decide +kernel
theorem dX6_orbit_92 : decode cX6_orbit 92 = .ok (.iload 5, 2) := by decide +kernel
theorem dX6_orbit_94 : decode cX6_orbit 94 = .ok (.iaload, 1) := by decide +kernel
theorem dX6_orbit_95 : decode cX6_orbit 95 = .ok (.if_icmp .ge 12, 3) := by decide +kernel
theorem dX6_orbit_98 : decode cX6_orbit 98 = .ok (.aload_n 0, 1) := by decide +kernel
theorem dX6_orbit_99 : decode cX6_orbit 99 = .ok (.getfield 38, 3) := by decide +kernel
theorem dX6_orbit_102 : decode cX6_orbit 102 = .ok (.iload_n 3, 1) := by decide +kernel
theorem dX6_orbit_103 : decode cX6_orbit 103 = .ok (.iaload, 1) := by decide +kernel
theorem dX6_orbit_104 : decode cX6_orbit 104 = .ok (.goto 10, 3) := by decide +kernel
theorem dX6_orbit_107 : decode cX6_orbit 107 = .ok (.aload_n 0, 1) := by decide +kernel
theorem dX6_orbit_108 : decode cX6_orbit 108 = .ok (.getfield 38, 3) := by decide +kernel
theorem dX6_orbit_111 : decode cX6_orbit 111 = .ok (.iload 5, 2) := by decide +kernel
theorem dX6_orbit_113 : decode cX6_orbit 113 = .ok (.iaload, 1) := by decide +kernel
theorem dX6_orbit_114 : decode cX6_orbit 114 = .ok (.istore 6, 2) := by decide +kernel
theorem dX6_orbit_116 : decode cX6_orbit 116 = .ok (.iload_n 2, 1) := by decide +kernel
theorem dX6_orbit_117 : decode cX6_orbit 117 = .ok (.ifCond .ne 26, 3) := by decide +kernel
theorem dX6_orbit_120 : decode cX6_orbit 120 = .ok (.aload_n 0, 1) := by decide +kernel
theorem dX6_orbit_121 : decode cX6_orbit 121 = .ok (.getfield 38, 3) := by decide +kernel
theorem dX6_orbit_124 : decode cX6_orbit 124 = .ok (.iload_n 3, 1) := by decide +kernel
theorem dX6_orbit_125 : decode cX6_orbit 125 = .ok (.iaload, 1) := by decide +kernel
theorem dX6_orbit_126 : decode cX6_orbit 126 = .ok (.iload 6, 2) := by decide +kernel
theorem dX6_orbit_128 : decode cX6_orbit 128 = .ok (.if_icmp .ne 15, 3) := by decide +kernel
theorem dX6_orbit_131 : decode cX6_orbit 131 = .ok (.aload_n 0, 1) := by decide +kernel
theorem dX6_orbit_132 : decode cX6_orbit 132 = .ok (.getfield 38, 3) := by decide +kernel
theorem dX6_orbit_135 : decode cX6_orbit 135 = .ok (.iload 5, 2) := by decide +kernel
theorem dX6_orbit_137 : decode cX6_orbit 137 = .ok (.iaload, 1) := by decide +kernel
theorem dX6_orbit_138 : decode cX6_orbit 138 = .ok (.iload 6, 2) := by decide +kernel
theorem dX6_orbit_140 : decode cX6_orbit 140 = .ok (.if_icmp .eq 7, 3) := by decide +kernel
theorem dX6_orbit_143 : decode cX6_orbit 143 = .ok (.iconst 1, 1) := by decide +kernel
theorem dX6_orbit_144 : decode cX6_orbit 144 = .ok (.goto 4, 3) := by decide +kernel
theorem dX6_orbit_147 : decode cX6_orbit 147 = .ok (.iconst 0, 1) := by decide +kernel
theorem dX6_orbit_148 : decode cX6_orbit 148 = .ok (.istore_n 2, 1) := by decide +kernel
theorem dX6_orbit_149 : decode cX6_orbit 149 = .ok (.aload_n 0, 1) := by decide +kernel
theorem dX6_orbit_150 : decode cX6_orbit 150 = .ok (.getfield 38, 3) := by decide +kernel
theorem dX6_orbit_153 : decode cX6_orbit 153 = .ok (.iload_n 3, 1) := by decide +kernel
theorem dX6_orbit_154 : decode cX6_orbit 154 = .ok (.iload 6, 2) := by decide +kernel
theorem dX6_orbit_156 : decode cX6_orbit 156 = .ok (.iastore, 1) := by decide +kernel
theorem dX6_orbit_157 : decode cX6_orbit 157 = .ok (.aload_n 0, 1) := by decide +kernel
theorem dX6_orbit_158 : decode cX6_orbit 158 = .ok (.getfield 38, 3) := by decide +kernel
theorem dX6_orbit_161 : decode cX6_orbit 161 = .ok (.iload 5, 2) := by decide +kernel
theorem dX6_orbit_163 : decode cX6_orbit 163 = .ok (.iload 6, 2) := by decide +kernel
theorem dX6_orbit_165 : decode cX6_orbit 165 = .ok (.iastore, 1) := by decide +kernel
theorem dX6_orbit_166 : decode cX6_orbit 166 = .ok (.iinc 4 1, 3) := by decide +kernel
theorem dX6_orbit_169 : decode cX6_orbit 169 = .ok (.goto (-108), 3) := by decide +kernel
theorem dX6_orbit_172 : decode cX6_orbit 172 = .ok (.iinc 3 1, 3) := by decide +kernel
theorem dX6_orbit_175 : decode cX6_orbit 175 = .ok (.goto (-125), 3) := by decide +kernel
theorem dX6_orbit_178 : decode cX6_orbit 178 = .ok (.goto (-136), 3) := by decide +kernel
theorem dX6_orbit_181 : decode cX6_orbit 181 = .ok (.aload_n 0, 1) := by decide +kernel
theorem dX6_orbit_182 : decode cX6_orbit 182 = .ok (.getfield 38, 3) := by decide +kernel
theorem dX6_orbit_185 : decode cX6_orbit 185 = .ok (.iload_n 1, 1) := by decide +kernel
theorem dX6_orbit_186 : decode cX6_orbit 186 = .ok (.iaload, 1) := by decide +kernel
theorem dX6_orbit_187 : decode cX6_orbit 187 = .ok (.ireturn, 1) := by decide +kernel
theorem dJ9_min_7cf53_0 : decode cJ9_min_7cf53 0 = .ok (.iload_n 0, 1) := by decide +kernel
theorem dJ9_min_7cf53_1 : decode cJ9_min_7cf53 1 = .ok (.iload_n 1, 1) := by decide +kernel
theorem dJ9_min_7cf53_2 : decode cJ9_min_7cf53 2 = .ok (.if_icmp .gt 7, 3) := by decide +kernel
theorem dJ9_min_7cf53_5 : decode cJ9_min_7cf53 5 = .ok (.iload_n 0, 1) := by decide +kernel
theorem dJ9_min_7cf53_6 : decode cJ9_min_7cf53 6 = .ok (.goto 4, 3) := by decide +kernel
theorem dJ9_min_7cf53_9 : decode cJ9_min_7cf53 9 = .ok (.iload_n 1, 1) := by decide +kernel
theorem dJ9_min_7cf53_10 : decode cJ9_min_7cf53 10 = .ok (.ireturn, 1) := by decide +kernel
theorem dJ7_fill_53178_0 : decode cJ7_fill_53178 0 = .ok (.iconst 0, 1) := by decide +kernel
theorem dJ7_fill_53178_1 : decode cJ7_fill_53178 1 = .ok (.istore_n 2, 1) := by decide +kernel
theorem dJ7_fill_53178_2 : decode cJ7_fill_53178 2 = .ok (.aload_n 0, 1) := by decide +kernel
theorem dJ7_fill_53178_3 : decode cJ7_fill_53178 3 = .ok (.arraylength, 1) := by decide +kernel
theorem dJ7_fill_53178_4 : decode cJ7_fill_53178 4 = .ok (.istore_n 3, 1) := by decide +kernel
theorem dJ7_fill_53178_5 : decode cJ7_fill_53178 5 = .ok (.iload_n 2, 1) := by decide +kernel
theorem dJ7_fill_53178_6 : decode cJ7_fill_53178 6 = .ok (.iload_n 3, 1) := by decide +kernel
theorem dJ7_fill_53178_7 : decode cJ7_fill_53178 7 = .ok (.if_icmp .ge 13, 3) := by decide +kernel
theorem dJ7_fill_53178_10 : decode cJ7_fill_53178 10 = .ok (.aload_n 0, 1) := by decide +kernel
theorem dJ7_fill_53178_11 : decode cJ7_fill_53178 11 = .ok (.iload_n 2, 1) := by decide +kernel
theorem dJ7_fill_53178_12 : decode cJ7_fill_53178 12 = .ok (.iload_n 1, 1) := by decide +kernel
theorem dJ7_fill_53178_13 : decode cJ7_fill_53178 13 = .ok (.iastore, 1) := by decide +kernel
theorem dJ7_fill_53178_14 : decode cJ7_fill_53178 14 = .ok (.iinc 2 1, 3) := by decide +kernel
theorem dJ7_fill_53178_17 : decode cJ7_fill_53178 17 = .ok (.goto (-12), 3) := by decide +kernel
theorem dJ7_fill_53178_20 : decode cJ7_fill_53178 20 = .ok (.return_, 1) := by decide +kernel
set_option maxRecDepth 20000 in
theorem ggL_law_X5_init : GoodIn wsL_law wsX5_init := goodIn_r _ [8, 9, 10, 11, 12, 13, 14, 15, 16, 17, 18, 19, 20, 21, 22, 23, 24, 25, 26, 27, 28, 29, 30, 31, 32, 33, 34, 35, 36, 37, 38, 39, 40, 41, 42, 43, 44, 45, 46, 47, 48, 49, 50, 51, 52, 53, 54, 55, 56, 57, 58, 59, 60, 61, 62, 63, 64, 65, 66, 67, 68, 69, 70, 71, 72, 73, 2, 74, 75, 76, 77, 78, 79, 80, 81, 82, 83, 84, 85, 86, 502, 503, 478, 479, 480, 481, 482, 483, 484, 504, 505, 506, 507, 508, 509, 510, 511, 512, 513, 514, 515, 516, 517, 518, 519, 520, 521, 522, 523, 524, 525, 526] (by decide +kernel) (by decide +kernel)
set_option maxRecDepth 20000 in
theorem gL_law_X5_init : GoodIn wsL_law (wsX5_init) := ggL_law_X5_init
set_option maxRecDepth 20000 in
theorem ggL_law_X6_init : GoodIn wsL_law wsX6_init := goodIn_r _ [89, 90, 10, 11, 37, 91, 92, 93, 94, 95, 96, 97, 98, 52, 99, 100, 101, 102, 103, 5, 104, 105, 106, 107, 108, 109, 110, 111, 112, 485, 486, 487, 488, 489, 490, 491, 492, 493, 494, 495, 496, 497, 498, 499, 500, 501] (by decide +kernel) (by decide +kernel)
set_option maxRecDepth 20000 in
theorem gL_law_X6_init : GoodIn wsL_law (wsX6_init) := ggL_law_X6_init
set_option maxRecDepth 20000 in
theorem ggL_law_X5_begin : GoodIn wsL_law wsX5_begin := goodIn_r _ [116, 33, 19, 20, 15, 71, 72, 73, 2, 74, 24, 32, 75, 76, 77, 23, 78, 79, 80, 81, 82, 83, 84, 85, 86, 48, 49, 478, 479, 480, 481, 482, 483, 484, 504, 505, 502, 503, 520, 521, 522, 523, 524, 525, 526, 506, 507, 508, 509, 510, 511, 512, 513, 514, 515, 516] (by decide +kernel) (by decide +kernel)
set_option maxRecDepth 20000 in
theorem gL_law_X5_begin : GoodIn wsL_law (wsV RL 13 RX5 yX5_begin wsX5_begin) := goodIn_app (goodIn_of _ (by decide +kernel)) ggL_law_X5_begin
set_option maxRecDepth 20000 in
theorem ggL_law_X6_begin : GoodIn wsL_law wsX6_begin := goodIn_r _ [104, 105, 106, 107, 92, 108, 109, 110, 5, 111, 112, 93, 94, 485, 486, 487, 488, 489, 490, 491, 492, 493, 494, 495, 496, 497, 498, 499, 500, 501] (by decide +kernel) (by decide +kernel)
set_option maxRecDepth 20000 in
theorem gL_law_X6_begin : GoodIn wsL_law (wsV RL 17 RX6 yX6_begin wsX6_begin) := goodIn_app (goodIn_of _ (by decide +kernel)) ggL_law_X6_begin
set_option maxRecDepth 20000 in
theorem ggL_law_X5_letter : GoodIn wsL_law wsX5_letter := goodIn_r _ [121, 15, 122, 123, 124, 2, 125, 33, 126, 127, 128, 129, 130, 131, 14, 132, 38, 133, 478, 479, 480, 481, 482, 483, 484, 502, 503] (by decide +kernel) (by decide +kernel)
set_option maxRecDepth 20000 in
theorem gL_law_X5_letter : GoodIn wsL_law (wsV RL 18 RX5 yX5_letter wsX5_letter) := goodIn_app (goodIn_of _ (by decide +kernel)) ggL_law_X5_letter
set_option maxRecDepth 20000 in
theorem ggL_law_X6_letter : GoodIn wsL_law wsX6_letter := goodIn_r _ [137, 92, 91, 138, 139, 140, 5, 141, 105, 142, 143, 144, 485, 486, 487, 488, 489, 490, 491, 492, 493, 494, 495, 496, 497, 498, 499, 500, 501] (by decide +kernel) (by decide +kernel)
set_option maxRecDepth 20000 in
theorem gL_law_X6_letter : GoodIn wsL_law (wsV RL 21 RX6 yX6_letter wsX6_letter) := goodIn_app (goodIn_of _ (by decide +kernel)) ggL_law_X6_letter
set_option maxRecDepth 20000 in
theorem ggL_law_X5_clear : GoodIn wsL_law wsX5_clear := goodIn_r _ [148, 15, 478, 479, 480, 481, 482, 483, 484, 502, 503] (by decide +kernel) (by decide +kernel)
set_option maxRecDepth 20000 in
theorem gL_law_X5_clear : GoodIn wsL_law (wsV RL 22 RX5 yX5_clear wsX5_clear) := goodIn_app (goodIn_of _ (by decide +kernel)) ggL_law_X5_clear
set_option maxRecDepth 20000 in
theorem ggL_law_X6_clear : GoodIn wsL_law wsX6_clear := goodIn_r _ [152, 92, 485, 486, 487, 488, 489, 490, 491, 492, 493, 494, 495, 496, 497, 498, 499, 500, 501] (by decide +kernel) (by decide +kernel)
set_option maxRecDepth 20000 in
theorem gL_law_X6_clear : GoodIn wsL_law (wsV RL 26 RX6 yX6_clear wsX6_clear) := goodIn_app (goodIn_of _ (by decide +kernel)) ggL_law_X6_clear
set_option maxRecDepth 20000 in
theorem ggL_law_X5_relator : GoodIn wsL_law wsX5_relator := goodIn_r _ [156, 19, 157, 158, 159, 2, 160, 15, 161, 162, 163, 18, 164, 165, 44, 166, 167, 168, 169, 170, 171, 172, 14, 173, 38, 133, 174, 175, 176, 177, 71, 72, 73, 74, 24, 33, 32, 75, 76, 77, 23, 78, 79, 80, 81, 82, 83, 84, 85, 86, 48, 49, 478, 479, 480, 481, 482, 483, 484, 502, 503, 504, 505, 520, 521, 522, 523, 524, 525, 526, 506, 507, 508, 509, 510, 511, 512, 513, 514, 515, 516] (by decide +kernel) (by decide +kernel)
set_option maxRecDepth 20000 in
theorem gL_law_X5_relator : GoodIn wsL_law (wsV RL 27 RX5 yX5_relator wsX5_relator) := goodIn_app (goodIn_of _ (by decide +kernel)) ggL_law_X5_relator
set_option maxRecDepth 20000 in
theorem ggL_law_X6_relator : GoodIn wsL_law wsX6_relator := goodIn_r _ [181, 92, 106, 182, 183, 184, 5, 185, 91, 108, 109, 110, 111, 112, 93, 94, 485, 486, 487, 488, 489, 490, 491, 492, 493, 494, 495, 496, 497, 498, 499, 500, 501] (by decide +kernel) (by decide +kernel)
set_option maxRecDepth 20000 in
theorem gL_law_X6_relator : GoodIn wsL_law (wsV RL 30 RX6 yX6_relator wsX6_relator) := goodIn_app (goodIn_of _ (by decide +kernel)) ggL_law_X6_relator
set_option maxRecDepth 20000 in
theorem ggL_law_X5_subgroup : GoodIn wsL_law wsX5_subgroup := goodIn_r _ [189, 20, 157, 158, 159, 2, 160, 15, 161, 162, 163, 18, 164, 165, 44, 166, 167, 168, 169, 170, 171, 172, 14, 173, 38, 133, 174, 175, 176, 177, 71, 72, 73, 74, 24, 33, 32, 75, 76, 77, 23, 78, 79, 80, 81, 82, 83, 84, 85, 86, 48, 49, 478, 479, 480, 481, 482, 483, 484, 502, 503, 504, 505, 520, 521, 522, 523, 524, 525, 526, 506, 507, 508, 509, 510, 511, 512, 513, 514, 515, 516] (by decide +kernel) (by decide +kernel)
set_option maxRecDepth 20000 in
theorem gL_law_X5_subgroup : GoodIn wsL_law (wsV RL 31 RX5 yX5_subgroup wsX5_subgroup) := goodIn_app (goodIn_of _ (by decide +kernel)) ggL_law_X5_subgroup
set_option maxRecDepth 20000 in
theorem ggL_law_X6_subgroup : GoodIn wsL_law wsX6_subgroup := goodIn_r _ [193, 92, 107, 182, 183, 184, 5, 185, 91, 108, 109, 110, 111, 112, 93, 94, 485, 486, 487, 488, 489, 490, 491, 492, 493, 494, 495, 496, 497, 498, 499, 500, 501] (by decide +kernel) (by decide +kernel)
set_option maxRecDepth 20000 in
theorem gL_law_X6_subgroup : GoodIn wsL_law (wsV RL 34 RX6 yX6_subgroup wsX6_subgroup) := goodIn_app (goodIn_of _ (by decide +kernel)) ggL_law_X6_subgroup
set_option maxRecDepth 20000 in
theorem ggL_law_X5_run : GoodIn wsL_law wsX5_run := goodIn_r _ [197, 28, 24, 32, 198, 199, 200, 27, 201, 59, 58, 202, 203, 204, 205, 23, 206, 80, 49, 207, 208, 209, 210, 211, 212, 213, 14, 214, 38, 133, 215, 216, 217, 218, 48, 219, 220, 221, 222, 223, 50, 224, 225, 226, 227, 81, 228, 229, 230, 231, 79, 232, 233, 234, 235, 236, 53, 51, 237, 238, 239, 240, 241, 242, 60, 243, 244, 245, 246, 247, 248, 249, 250, 251, 252, 253, 254, 82, 255, 256, 257, 258, 259, 260, 261, 262, 263, 83, 84, 85, 86, 264, 265, 266, 31, 267, 65, 268, 69, 66, 269, 270, 271, 272, 273, 274, 275, 276, 277, 478, 479, 480, 481, 482, 483, 484, 506, 507, 508, 509, 510, 511, 512, 513, 514, 515, 516, 517, 518, 519, 504, 505, 502, 503, 520, 521, 522, 523, 524, 525, 526] (by decide +kernel) (by decide +kernel)
set_option maxRecDepth 20000 in
theorem gL_law_X5_run : GoodIn wsL_law (wsV RL 35 RX5 yX5_run wsX5_run) := goodIn_app (goodIn_of _ (by decide +kernel)) ggL_law_X5_run
set_option maxRecDepth 20000 in
theorem ggL_law_X6_run : GoodIn wsL_law wsX6_run := goodIn_r _ [281, 112, 93, 282, 283, 284, 5, 285, 286, 106, 107, 287, 288, 289, 290, 92, 94, 91, 291, 292, 293, 294, 95, 295, 96, 296, 297, 298, 299, 300, 301, 302, 303, 304, 305, 306, 307, 308, 309, 310, 311, 105, 485, 486, 487, 488, 489, 490, 491, 492, 493, 494, 495, 496, 497, 498, 499, 500, 501] (by decide +kernel) (by decide +kernel)
set_option maxRecDepth 20000 in
theorem gL_law_X6_run : GoodIn wsL_law (wsV RL 38 RX6 yX6_run wsX6_run) := goodIn_app (goodIn_of _ (by decide +kernel)) ggL_law_X6_run
set_option maxRecDepth 20000 in
theorem ggL_law_X5_count : GoodIn wsL_law wsX5_count := goodIn_r _ [315, 24, 32, 19, 20, 15, 316, 317, 318, 23, 319, 80, 255, 256, 257, 258, 79, 48, 259, 204, 205, 206, 49, 320, 321, 322, 31, 323, 268, 478, 479, 480, 481, 482, 483, 484, 506, 507, 508, 509, 510, 511, 512, 513, 514, 515, 516, 520, 521, 522, 523, 524, 525, 526, 504, 505, 502, 503] (by decide +kernel) (by decide +kernel)
set_option maxRecDepth 20000 in
theorem gL_law_X5_count : GoodIn wsL_law (wsV RL 39 RX5 yX5_count wsX5_count) := goodIn_app (goodIn_of _ (by decide +kernel)) ggL_law_X5_count
set_option maxRecDepth 20000 in
theorem ggL_law_X6_count : GoodIn wsL_law wsX6_count := goodIn_r _ [327, 112, 106, 107, 92, 328, 329, 330, 5, 331, 93, 332, 333, 334, 335, 105, 94, 336, 337, 338, 339, 308, 309, 310, 311, 485, 486, 487, 488, 489, 490, 491, 492, 493, 494, 495, 496, 497, 498, 499, 500, 501] (by decide +kernel) (by decide +kernel)
set_option maxRecDepth 20000 in
theorem gL_law_X6_count : GoodIn wsL_law (wsV RL 42 RX6 yX6_count wsX6_count) := goodIn_app (goodIn_of _ (by decide +kernel)) ggL_law_X6_count
set_option maxRecDepth 20000 in
theorem ggL_law_X5_known : GoodIn wsL_law wsX5_known := goodIn_r _ [343, 24, 122, 123, 124, 2, 125, 33, 344, 204, 205, 23, 206, 80, 49, 126, 127, 128, 345, 216, 217, 218, 48, 478, 479, 480, 481, 482, 483, 484, 506, 507, 508, 509, 510, 511, 512, 513, 514, 515, 516] (by decide +kernel) (by decide +kernel)
set_option maxRecDepth 20000 in
theorem gL_law_X5_known : GoodIn wsL_law (wsV RL 43 RX5 yX5_known wsX5_known) := goodIn_app (goodIn_of _ (by decide +kernel)) ggL_law_X5_known
set_option maxRecDepth 20000 in
theorem ggL_law_X6_known : GoodIn wsL_law wsX6_known := goodIn_r _ [349, 94, 138, 139, 140, 5, 141, 105, 350, 351, 352, 353, 112, 93, 142, 143, 144, 485, 486, 487, 488, 489, 490, 491, 492, 493, 494, 495, 496, 497, 498, 499, 500, 501] (by decide +kernel) (by decide +kernel)
set_option maxRecDepth 20000 in
theorem gL_law_X6_known : GoodIn wsL_law (wsV RL 47 RX6 yX6_known wsX6_known) := goodIn_app (goodIn_of _ (by decide +kernel)) ggL_law_X6_known
set_option maxRecDepth 20000 in
theorem ggL_law_X5_number : GoodIn wsL_law wsX5_number := goodIn_r _ [357, 32, 24, 320, 321, 322, 31, 323, 268, 344, 204, 205, 23, 206, 80, 49, 478, 479, 480, 481, 482, 483, 484, 520, 521, 522, 523, 524, 525, 526, 506, 507, 508, 509, 510, 511, 512, 513, 514, 515, 516] (by decide +kernel) (by decide +kernel)
set_option maxRecDepth 20000 in
theorem gL_law_X5_number : GoodIn wsL_law (wsV RL 48 RX5 yX5_number wsX5_number) := goodIn_app (goodIn_of _ (by decide +kernel)) ggL_law_X5_number
set_option maxRecDepth 20000 in
theorem ggL_law_X6_number : GoodIn wsL_law wsX6_number := goodIn_r _ [361, 97, 362, 363, 364, 5, 365, 98, 366, 105, 94, 336, 337, 338, 339, 308, 309, 310, 311, 112, 93, 350, 351, 352, 353, 485, 486, 487, 488, 489, 490, 491, 492, 493, 494, 495, 496, 497, 498, 499, 500, 501] (by decide +kernel) (by decide +kernel)
set_option maxRecDepth 20000 in
theorem gL_law_X6_number : GoodIn wsL_law (wsV RL 51 RX6 yX6_number wsX6_number) := goodIn_app (goodIn_of _ (by decide +kernel)) ggL_law_X6_number
set_option maxRecDepth 20000 in
theorem ggL_law_X5_entry : GoodIn wsL_law wsX5_entry := goodIn_r _ [370, 32, 371, 372, 373, 31, 374, 268, 122, 123, 124, 2, 125, 33, 126, 127, 128, 375, 376, 377, 378, 65, 69, 66, 277, 216, 217, 23, 218, 48, 478, 479, 480, 481, 482, 483, 484, 520, 521, 522, 523, 524, 525, 526, 506, 507, 508, 509, 510, 511, 512, 513, 514, 515, 516] (by decide +kernel) (by decide +kernel)
set_option maxRecDepth 20000 in
theorem gL_law_X5_entry : GoodIn wsL_law (wsV RL 52 RX5 yX5_entry wsX5_entry) := goodIn_app (goodIn_of _ (by decide +kernel)) ggL_law_X5_entry
set_option maxRecDepth 20000 in
theorem ggL_law_X6_entry : GoodIn wsL_law wsX6_entry := goodIn_r _ [382, 97, 94, 98, 362, 363, 364, 5, 365, 366, 105, 336, 337, 338, 339, 308, 309, 310, 311, 112, 93, 383, 384, 385, 386, 138, 139, 140, 141, 142, 143, 144, 485, 486, 487, 488, 489, 490, 491, 492, 493, 494, 495, 496, 497, 498, 499, 500, 501] (by decide +kernel) (by decide +kernel)
set_option maxRecDepth 20000 in
theorem gL_law_X6_entry : GoodIn wsL_law (wsV RL 55 RX6 yX6_entry wsX6_entry) := goodIn_app (goodIn_of _ (by decide +kernel)) ggL_law_X6_entry
set_option maxRecDepth 20000 in
theorem ggL_law_X5_move : GoodIn wsL_law wsX5_move := goodIn_r _ [390, 32, 15, 371, 372, 373, 31, 374, 268, 391, 392, 393, 394, 66, 69, 65, 277, 216, 217, 23, 218, 48, 478, 479, 480, 481, 482, 483, 484, 520, 521, 522, 523, 524, 525, 526, 502, 503, 506, 507, 508, 509, 510, 511, 512, 513, 514, 515, 516] (by decide +kernel) (by decide +kernel)
set_option maxRecDepth 20000 in
theorem gL_law_X5_move : GoodIn wsL_law (wsV RL 56 RX5 yX5_move wsX5_move) := goodIn_app (goodIn_of _ (by decide +kernel)) ggL_law_X5_move
set_option maxRecDepth 20000 in
theorem ggL_law_X6_move : GoodIn wsL_law wsX6_move := goodIn_r _ [398, 362, 363, 364, 5, 365, 97, 98, 366, 105, 94, 336, 337, 338, 339, 308, 309, 310, 311, 112, 93, 383, 384, 385, 386, 399, 400, 401, 402, 92, 91, 485, 486, 487, 488, 489, 490, 491, 492, 493, 494, 495, 496, 497, 498, 499, 500, 501] (by decide +kernel) (by decide +kernel)
set_option maxRecDepth 20000 in
theorem gL_law_X6_move : GoodIn wsL_law (wsV RL 59 RX6 yX6_move wsX6_move) := goodIn_app (goodIn_of _ (by decide +kernel)) ggL_law_X6_move
set_option maxRecDepth 20000 in
theorem ggL_law_X5_cycles : GoodIn wsL_law wsX5_cycles := goodIn_r _ [406, 32, 15, 320, 321, 322, 31, 323, 268, 407, 408, 409, 410, 411, 412, 413, 414, 67, 415, 416, 417, 418, 419, 392, 393, 394, 66, 69, 65, 277, 216, 217, 23, 218, 48, 478, 479, 480, 481, 482, 483, 484, 520, 521, 522, 523, 524, 525, 526, 502, 503, 506, 507, 508, 509, 510, 511, 512, 513, 514, 515, 516] (by decide +kernel) (by decide +kernel)
set_option maxRecDepth 20000 in
theorem gL_law_X5_cycles : GoodIn wsL_law (wsV RL 60 RX5 yX5_cycles wsX5_cycles) := goodIn_app (goodIn_of _ (by decide +kernel)) ggL_law_X5_cycles
set_option maxRecDepth 20000 in
theorem ggL_law_X6_cycles : GoodIn wsL_law wsX6_cycles := goodIn_r _ [423, 366, 99, 362, 363, 364, 5, 365, 97, 98, 105, 94, 336, 337, 338, 339, 308, 309, 310, 311, 112, 93, 424, 425, 426, 427, 399, 400, 401, 402, 92, 91, 485, 486, 487, 488, 489, 490, 491, 492, 493, 494, 495, 496, 497, 498, 499, 500, 501] (by decide +kernel) (by decide +kernel)
set_option maxRecDepth 20000 in
theorem gL_law_X6_cycles : GoodIn wsL_law (wsV RL 64 RX6 yX6_cycles wsX6_cycles) := goodIn_app (goodIn_of _ (by decide +kernel)) ggL_law_X6_cycles
set_option maxRecDepth 20000 in
theorem ggL_law_X5_order : GoodIn wsL_law wsX5_order := goodIn_r _ [431, 32, 15, 432, 320, 321, 322, 31, 323, 268, 433, 434, 435, 436, 411, 412, 413, 414, 67, 415, 416, 417, 418, 419, 392, 393, 394, 66, 69, 65, 277, 216, 217, 23, 218, 48, 437, 438, 439, 440, 478, 479, 480, 481, 482, 483, 484, 520, 521, 522, 523, 524, 525, 526, 502, 503, 506, 507, 508, 509, 510, 511, 512, 513, 514, 515, 516] (by decide +kernel) (by decide +kernel)
set_option maxRecDepth 20000 in
theorem gL_law_X5_order : GoodIn wsL_law (wsV RL 65 RX5 yX5_order wsX5_order) := goodIn_app (goodIn_of _ (by decide +kernel)) ggL_law_X5_order
set_option maxRecDepth 20000 in
theorem ggL_law_X6_order : GoodIn wsL_law wsX6_order := goodIn_r _ [444, 445, 366, 99, 362, 363, 364, 5, 365, 97, 98, 105, 94, 336, 337, 338, 339, 308, 309, 310, 311, 112, 93, 424, 425, 426, 427, 399, 400, 401, 402, 92, 91, 485, 486, 487, 488, 489, 490, 491, 492, 493, 494, 495, 496, 497, 498, 499, 500, 501] (by decide +kernel) (by decide +kernel)
set_option maxRecDepth 20000 in
theorem gL_law_X6_order : GoodIn wsL_law (wsV RL 69 RX6 yX6_order wsX6_order) := goodIn_app (goodIn_of _ (by decide +kernel)) ggL_law_X6_order
set_option maxRecDepth 20000 in
theorem ggL_law_X5_resting : GoodIn wsL_law wsX5_resting := goodIn_r _ [449, 32, 320, 321, 322, 31, 323, 268, 450, 451, 452, 453, 454, 455, 456, 457, 70, 419, 392, 393, 394, 66, 69, 65, 277, 216, 217, 23, 218, 48, 478, 479, 480, 481, 482, 483, 484, 520, 521, 522, 523, 524, 525, 526, 504, 505, 502, 503, 506, 507, 508, 509, 510, 511, 512, 513, 514, 515, 516] (by decide +kernel) (by decide +kernel)
set_option maxRecDepth 20000 in
theorem gL_law_X5_resting : GoodIn wsL_law (wsV RL 70 RX5 yX5_resting wsX5_resting) := goodIn_app (goodIn_of _ (by decide +kernel)) ggL_law_X5_resting
set_option maxRecDepth 20000 in
theorem ggL_law_X6_resting : GoodIn wsL_law wsX6_resting := goodIn_r _ [461, 366, 107, 362, 363, 364, 5, 365, 97, 98, 105, 94, 336, 337, 338, 339, 308, 309, 310, 311, 112, 93, 399, 400, 401, 402, 92, 91, 485, 486, 487, 488, 489, 490, 491, 492, 493, 494, 495, 496, 497, 498, 499, 500, 501] (by decide +kernel) (by decide +kernel)
set_option maxRecDepth 20000 in
theorem gL_law_X6_resting : GoodIn wsL_law (wsV RL 73 RX6 yX6_resting wsX6_resting) := goodIn_app (goodIn_of _ (by decide +kernel)) ggL_law_X6_resting
set_option maxRecDepth 20000 in
theorem ggL_law_X5_orbit : GoodIn wsL_law wsX5_orbit := goodIn_r _ [465, 32, 371, 372, 373, 31, 374, 268, 466, 467, 468, 469, 67, 68, 70, 470, 471, 472, 473, 411, 412, 413, 414, 419, 392, 393, 394, 66, 69, 65, 277, 216, 217, 23, 218, 48, 478, 479, 480, 481, 482, 483, 484, 520, 521, 522, 523, 524, 525, 526, 504, 505, 502, 503, 506, 507, 508, 509, 510, 511, 512, 513, 514, 515, 516] (by decide +kernel) (by decide +kernel)
set_option maxRecDepth 20000 in
theorem gL_law_X5_orbit : GoodIn wsL_law (wsV RL 74 RX5 yX5_orbit wsX5_orbit) := goodIn_app (goodIn_of _ (by decide +kernel)) ggL_law_X5_orbit
set_option maxRecDepth 20000 in
theorem ggL_law_X6_orbit : GoodIn wsL_law wsX6_orbit := goodIn_r _ [477, 366, 100, 107, 362, 363, 364, 5, 365, 97, 98, 105, 94, 336, 337, 338, 339, 308, 309, 310, 311, 112, 93, 383, 384, 385, 386, 399, 400, 401, 402, 92, 91, 485, 486, 487, 488, 489, 490, 491, 492, 493, 494, 495, 496, 497, 498, 499, 500, 501] (by decide +kernel) (by decide +kernel)
set_option maxRecDepth 20000 in
theorem gL_law_X6_orbit : GoodIn wsL_law (wsV RL 77 RX6 yX6_orbit wsX6_orbit) := goodIn_app (goodIn_of _ (by decide +kernel)) ggL_law_X6_orbit
theorem dL_law_0 : decode cL_law 0 = .ok (.new 7, 3) := by decide +kernel
theorem dL_law_3 : decode cL_law 3 = .ok (.dup, 1) := by decide +kernel
theorem dL_law_4 : decode cL_law 4 = .ok (.invokespecial 9, 3) := by decide +kernel
theorem dL_law_7 : decode cL_law 7 = .ok (.astore_n 1, 1) := by decide +kernel
theorem dL_law_8 : decode cL_law 8 = .ok (.new 10, 3) := by decide +kernel
theorem dL_law_11 : decode cL_law 11 = .ok (.dup, 1) := by decide +kernel
theorem dL_law_12 : decode cL_law 12 = .ok (.invokespecial 12, 3) := by decide +kernel
theorem dL_law_15 : decode cL_law 15 = .ok (.astore_n 2, 1) := by decide +kernel
theorem dL_law_16 : decode cL_law 16 = .ok (.iconst 0, 1) := by decide +kernel
theorem dL_law_17 : decode cL_law 17 = .ok (.istore_n 3, 1) := by decide +kernel
theorem dL_law_18 : decode cL_law 18 = .ok (.iload_n 3, 1) := by decide +kernel
theorem dL_law_19 : decode cL_law 19 = .ok (.aload_n 0, 1) := by decide +kernel
theorem dL_law_20 : decode cL_law 20 = .ok (.arraylength, 1) := by decide +kernel
theorem dL_law_21 : decode cL_law 21 = .ok (.iconst 3, 1) := by decide +kernel
theorem dL_law_22 : decode cL_law 22 = .ok (.isub, 1) := by decide +kernel
theorem dL_law_23 : decode cL_law 23 = .ok (.if_icmp .gt 423, 3) := by decide +kernel
theorem dL_law_26 : decode cL_law 26 = .ok (.aload_n 0, 1) := by decide +kernel
theorem dL_law_27 : decode cL_law 27 = .ok (.iload_n 3, 1) := by decide +kernel
theorem dL_law_28 : decode cL_law 28 = .ok (.iaload, 1) := by decide +kernel
theorem dL_law_29 : decode cL_law 29 = .ok (.bipush 15, 2) := by decide +kernel
theorem dL_law_31 : decode cL_law 31 = .ok (.iand, 1) := by decide +kernel
theorem dL_law_32 : decode cL_law 32 = .ok (.tableswitch 408 0 14 #[76, 99, 122, 135, 148, 161, 184, 207, 240, 263, 296, 319, 358, 372, 385], 76) := by decide +kernel
theorem dL_law_108 : decode cL_law 108 = .ok (.aload_n 1, 1) := by decide +kernel
theorem dL_law_109 : decode cL_law 109 = .ok (.aload_n 0, 1) := by decide +kernel
theorem dL_law_110 : decode cL_law 110 = .ok (.iload_n 3, 1) := by decide +kernel
theorem dL_law_111 : decode cL_law 111 = .ok (.iconst 1, 1) := by decide +kernel
theorem dL_law_112 : decode cL_law 112 = .ok (.iadd, 1) := by decide +kernel
theorem dL_law_113 : decode cL_law 113 = .ok (.iaload, 1) := by decide +kernel
theorem dL_law_114 : decode cL_law 114 = .ok (.invokevirtual 13, 3) := by decide +kernel
theorem dL_law_117 : decode cL_law 117 = .ok (.aload_n 2, 1) := by decide +kernel
theorem dL_law_118 : decode cL_law 118 = .ok (.aload_n 0, 1) := by decide +kernel
theorem dL_law_119 : decode cL_law 119 = .ok (.iload_n 3, 1) := by decide +kernel
theorem dL_law_120 : decode cL_law 120 = .ok (.iconst 1, 1) := by decide +kernel
theorem dL_law_121 : decode cL_law 121 = .ok (.iadd, 1) := by decide +kernel
theorem dL_law_122 : decode cL_law 122 = .ok (.iaload, 1) := by decide +kernel
theorem dL_law_123 : decode cL_law 123 = .ok (.invokevirtual 17, 3) := by decide +kernel
theorem dL_law_126 : decode cL_law 126 = .ok (.if_icmp .eq 314, 3) := by decide +kernel
theorem dL_law_129 : decode cL_law 129 = .ok (.iconst 0, 1) := by decide +kernel
theorem dL_law_130 : decode cL_law 130 = .ok (.ireturn, 1) := by decide +kernel
theorem dL_law_131 : decode cL_law 131 = .ok (.aload_n 1, 1) := by decide +kernel
theorem dL_law_132 : decode cL_law 132 = .ok (.aload_n 0, 1) := by decide +kernel
theorem dL_law_133 : decode cL_law 133 = .ok (.iload_n 3, 1) := by decide +kernel
theorem dL_law_134 : decode cL_law 134 = .ok (.iconst 1, 1) := by decide +kernel
theorem dL_law_135 : decode cL_law 135 = .ok (.iadd, 1) := by decide +kernel
theorem dL_law_136 : decode cL_law 136 = .ok (.iaload, 1) := by decide +kernel
theorem dL_law_137 : decode cL_law 137 = .ok (.invokevirtual 18, 3) := by decide +kernel
theorem dL_law_140 : decode cL_law 140 = .ok (.aload_n 2, 1) := by decide +kernel
theorem dL_law_141 : decode cL_law 141 = .ok (.aload_n 0, 1) := by decide +kernel
theorem dL_law_142 : decode cL_law 142 = .ok (.iload_n 3, 1) := by decide +kernel
theorem dL_law_143 : decode cL_law 143 = .ok (.iconst 1, 1) := by decide +kernel
theorem dL_law_144 : decode cL_law 144 = .ok (.iadd, 1) := by decide +kernel
theorem dL_law_145 : decode cL_law 145 = .ok (.iaload, 1) := by decide +kernel
theorem dL_law_146 : decode cL_law 146 = .ok (.invokevirtual 21, 3) := by decide +kernel
theorem dL_law_149 : decode cL_law 149 = .ok (.if_icmp .eq 291, 3) := by decide +kernel
theorem dL_law_152 : decode cL_law 152 = .ok (.iconst 0, 1) := by decide +kernel
theorem dL_law_153 : decode cL_law 153 = .ok (.ireturn, 1) := by decide +kernel
theorem dL_law_154 : decode cL_law 154 = .ok (.aload_n 1, 1) := by decide +kernel
theorem dL_law_155 : decode cL_law 155 = .ok (.invokevirtual 22, 3) := by decide +kernel
theorem dL_law_158 : decode cL_law 158 = .ok (.aload_n 2, 1) := by decide +kernel
theorem dL_law_159 : decode cL_law 159 = .ok (.invokevirtual 26, 3) := by decide +kernel
theorem dL_law_162 : decode cL_law 162 = .ok (.if_icmp .eq 278, 3) := by decide +kernel
theorem dL_law_165 : decode cL_law 165 = .ok (.iconst 0, 1) := by decide +kernel
theorem dL_law_166 : decode cL_law 166 = .ok (.ireturn, 1) := by decide +kernel
theorem dL_law_167 : decode cL_law 167 = .ok (.aload_n 1, 1) := by decide +kernel
theorem dL_law_168 : decode cL_law 168 = .ok (.invokevirtual 27, 3) := by decide +kernel
theorem dL_law_171 : decode cL_law 171 = .ok (.aload_n 2, 1) := by decide +kernel
theorem dL_law_172 : decode cL_law 172 = .ok (.invokevirtual 30, 3) := by decide +kernel
theorem dL_law_175 : decode cL_law 175 = .ok (.if_icmp .eq 265, 3) := by decide +kernel
theorem dL_law_178 : decode cL_law 178 = .ok (.iconst 0, 1) := by decide +kernel
theorem dL_law_179 : decode cL_law 179 = .ok (.ireturn, 1) := by decide +kernel
theorem dL_law_180 : decode cL_law 180 = .ok (.aload_n 1, 1) := by decide +kernel
theorem dL_law_181 : decode cL_law 181 = .ok (.invokevirtual 31, 3) := by decide +kernel
theorem dL_law_184 : decode cL_law 184 = .ok (.aload_n 2, 1) := by decide +kernel
theorem dL_law_185 : decode cL_law 185 = .ok (.invokevirtual 34, 3) := by decide +kernel
theorem dL_law_188 : decode cL_law 188 = .ok (.if_icmp .eq 252, 3) := by decide +kernel
theorem dL_law_191 : decode cL_law 191 = .ok (.iconst 0, 1) := by decide +kernel
theorem dL_law_192 : decode cL_law 192 = .ok (.ireturn, 1) := by decide +kernel
theorem dL_law_193 : decode cL_law 193 = .ok (.aload_n 1, 1) := by decide +kernel
theorem dL_law_194 : decode cL_law 194 = .ok (.aload_n 0, 1) := by decide +kernel
theorem dL_law_195 : decode cL_law 195 = .ok (.iload_n 3, 1) := by decide +kernel
theorem dL_law_196 : decode cL_law 196 = .ok (.iconst 1, 1) := by decide +kernel
theorem dL_law_197 : decode cL_law 197 = .ok (.iadd, 1) := by decide +kernel
theorem dL_law_198 : decode cL_law 198 = .ok (.iaload, 1) := by decide +kernel
theorem dL_law_199 : decode cL_law 199 = .ok (.invokevirtual 35, 3) := by decide +kernel
theorem dL_law_202 : decode cL_law 202 = .ok (.aload_n 2, 1) := by decide +kernel
theorem dL_law_203 : decode cL_law 203 = .ok (.aload_n 0, 1) := by decide +kernel
theorem dL_law_204 : decode cL_law 204 = .ok (.iload_n 3, 1) := by decide +kernel
theorem dL_law_205 : decode cL_law 205 = .ok (.iconst 1, 1) := by decide +kernel
theorem dL_law_206 : decode cL_law 206 = .ok (.iadd, 1) := by decide +kernel
theorem dL_law_207 : decode cL_law 207 = .ok (.iaload, 1) := by decide +kernel
theorem dL_law_208 : decode cL_law 208 = .ok (.invokevirtual 38, 3) := by decide +kernel
theorem dL_law_211 : decode cL_law 211 = .ok (.if_icmp .eq 229, 3) := by decide +kernel
theorem dL_law_214 : decode cL_law 214 = .ok (.iconst 0, 1) := by decide +kernel
theorem dL_law_215 : decode cL_law 215 = .ok (.ireturn, 1) := by decide +kernel
theorem dL_law_216 : decode cL_law 216 = .ok (.aload_n 1, 1) := by decide +kernel
theorem dL_law_217 : decode cL_law 217 = .ok (.aload_n 0, 1) := by decide +kernel
theorem dL_law_218 : decode cL_law 218 = .ok (.iload_n 3, 1) := by decide +kernel
theorem dL_law_219 : decode cL_law 219 = .ok (.iconst 1, 1) := by decide +kernel
theorem dL_law_220 : decode cL_law 220 = .ok (.iadd, 1) := by decide +kernel
theorem dL_law_221 : decode cL_law 221 = .ok (.iaload, 1) := by decide +kernel
theorem dL_law_222 : decode cL_law 222 = .ok (.invokevirtual 39, 3) := by decide +kernel
theorem dL_law_225 : decode cL_law 225 = .ok (.aload_n 2, 1) := by decide +kernel
theorem dL_law_226 : decode cL_law 226 = .ok (.aload_n 0, 1) := by decide +kernel
theorem dL_law_227 : decode cL_law 227 = .ok (.iload_n 3, 1) := by decide +kernel
theorem dL_law_228 : decode cL_law 228 = .ok (.iconst 1, 1) := by decide +kernel
theorem dL_law_229 : decode cL_law 229 = .ok (.iadd, 1) := by decide +kernel
theorem dL_law_230 : decode cL_law 230 = .ok (.iaload, 1) := by decide +kernel
theorem dL_law_231 : decode cL_law 231 = .ok (.invokevirtual 42, 3) := by decide +kernel
theorem dL_law_234 : decode cL_law 234 = .ok (.if_icmp .eq 206, 3) := by decide +kernel
theorem dL_law_237 : decode cL_law 237 = .ok (.iconst 0, 1) := by decide +kernel
theorem dL_law_238 : decode cL_law 238 = .ok (.ireturn, 1) := by decide +kernel
theorem dL_law_239 : decode cL_law 239 = .ok (.aload_n 1, 1) := by decide +kernel
theorem dL_law_240 : decode cL_law 240 = .ok (.aload_n 0, 1) := by decide +kernel
theorem dL_law_241 : decode cL_law 241 = .ok (.iload_n 3, 1) := by decide +kernel
theorem dL_law_242 : decode cL_law 242 = .ok (.iconst 1, 1) := by decide +kernel
theorem dL_law_243 : decode cL_law 243 = .ok (.iadd, 1) := by decide +kernel
theorem dL_law_244 : decode cL_law 244 = .ok (.iaload, 1) := by decide +kernel
theorem dL_law_245 : decode cL_law 245 = .ok (.aload_n 0, 1) := by decide +kernel
theorem dL_law_246 : decode cL_law 246 = .ok (.iload_n 3, 1) := by decide +kernel
theorem dL_law_247 : decode cL_law 247 = .ok (.iconst 2, 1) := by decide +kernel
theorem dL_law_248 : decode cL_law 248 = .ok (.iadd, 1) := by decide +kernel
theorem dL_law_249 : decode cL_law 249 = .ok (.iaload, 1) := by decide +kernel
theorem dL_law_250 : decode cL_law 250 = .ok (.invokevirtual 43, 3) := by decide +kernel
theorem dL_law_253 : decode cL_law 253 = .ok (.aload_n 2, 1) := by decide +kernel
theorem dL_law_254 : decode cL_law 254 = .ok (.aload_n 0, 1) := by decide +kernel
theorem dL_law_255 : decode cL_law 255 = .ok (.iload_n 3, 1) := by decide +kernel
theorem dL_law_256 : decode cL_law 256 = .ok (.iconst 1, 1) := by decide +kernel
theorem dL_law_257 : decode cL_law 257 = .ok (.iadd, 1) := by decide +kernel
theorem dL_law_258 : decode cL_law 258 = .ok (.iaload, 1) := by decide +kernel
theorem dL_law_259 : decode cL_law 259 = .ok (.aload_n 0, 1) := by decide +kernel
theorem dL_law_260 : decode cL_law 260 = .ok (.iload_n 3, 1) := by decide +kernel
theorem dL_law_261 : decode cL_law 261 = .ok (.iconst 2, 1) := by decide +kernel
theorem dL_law_262 : decode cL_law 262 = .ok (.iadd, 1) := by decide +kernel
theorem dL_law_263 : decode cL_law 263 = .ok (.iaload, 1) := by decide +kernel
theorem dL_law_264 : decode cL_law 264 = .ok (.invokevirtual 47, 3) := by decide +kernel
theorem dL_law_267 : decode cL_law 267 = .ok (.if_icmp .eq 173, 3) := by decide +kernel
theorem dL_law_270 : decode cL_law 270 = .ok (.iconst 0, 1) := by decide +kernel
theorem dL_law_271 : decode cL_law 271 = .ok (.ireturn, 1) := by decide +kernel
theorem dL_law_272 : decode cL_law 272 = .ok (.aload_n 1, 1) := by decide +kernel
theorem dL_law_273 : decode cL_law 273 = .ok (.aload_n 0, 1) := by decide +kernel
theorem dL_law_274 : decode cL_law 274 = .ok (.iload_n 3, 1) := by decide +kernel
theorem dL_law_275 : decode cL_law 275 = .ok (.iconst 1, 1) := by decide +kernel
theorem dL_law_276 : decode cL_law 276 = .ok (.iadd, 1) := by decide +kernel
theorem dL_law_277 : decode cL_law 277 = .ok (.iaload, 1) := by decide +kernel
theorem dL_law_278 : decode cL_law 278 = .ok (.invokevirtual 48, 3) := by decide +kernel
theorem dL_law_281 : decode cL_law 281 = .ok (.aload_n 2, 1) := by decide +kernel
theorem dL_law_282 : decode cL_law 282 = .ok (.aload_n 0, 1) := by decide +kernel
theorem dL_law_283 : decode cL_law 283 = .ok (.iload_n 3, 1) := by decide +kernel
theorem dL_law_284 : decode cL_law 284 = .ok (.iconst 1, 1) := by decide +kernel
theorem dL_law_285 : decode cL_law 285 = .ok (.iadd, 1) := by decide +kernel
theorem dL_law_286 : decode cL_law 286 = .ok (.iaload, 1) := by decide +kernel
theorem dL_law_287 : decode cL_law 287 = .ok (.invokevirtual 51, 3) := by decide +kernel
theorem dL_law_290 : decode cL_law 290 = .ok (.if_icmp .eq 150, 3) := by decide +kernel
theorem dL_law_293 : decode cL_law 293 = .ok (.iconst 0, 1) := by decide +kernel
theorem dL_law_294 : decode cL_law 294 = .ok (.ireturn, 1) := by decide +kernel
theorem dL_law_295 : decode cL_law 295 = .ok (.aload_n 1, 1) := by decide +kernel
theorem dL_law_296 : decode cL_law 296 = .ok (.aload_n 0, 1) := by decide +kernel
theorem dL_law_297 : decode cL_law 297 = .ok (.iload_n 3, 1) := by decide +kernel
theorem dL_law_298 : decode cL_law 298 = .ok (.iconst 1, 1) := by decide +kernel
theorem dL_law_299 : decode cL_law 299 = .ok (.iadd, 1) := by decide +kernel
theorem dL_law_300 : decode cL_law 300 = .ok (.iaload, 1) := by decide +kernel
theorem dL_law_301 : decode cL_law 301 = .ok (.aload_n 0, 1) := by decide +kernel
theorem dL_law_302 : decode cL_law 302 = .ok (.iload_n 3, 1) := by decide +kernel
theorem dL_law_303 : decode cL_law 303 = .ok (.iconst 2, 1) := by decide +kernel
theorem dL_law_304 : decode cL_law 304 = .ok (.iadd, 1) := by decide +kernel
theorem dL_law_305 : decode cL_law 305 = .ok (.iaload, 1) := by decide +kernel
theorem dL_law_306 : decode cL_law 306 = .ok (.invokevirtual 52, 3) := by decide +kernel
theorem dL_law_309 : decode cL_law 309 = .ok (.aload_n 2, 1) := by decide +kernel
theorem dL_law_310 : decode cL_law 310 = .ok (.aload_n 0, 1) := by decide +kernel
theorem dL_law_311 : decode cL_law 311 = .ok (.iload_n 3, 1) := by decide +kernel
theorem dL_law_312 : decode cL_law 312 = .ok (.iconst 1, 1) := by decide +kernel
theorem dL_law_313 : decode cL_law 313 = .ok (.iadd, 1) := by decide +kernel
theorem dL_law_314 : decode cL_law 314 = .ok (.iaload, 1) := by decide +kernel
theorem dL_law_315 : decode cL_law 315 = .ok (.aload_n 0, 1) := by decide +kernel
theorem dL_law_316 : decode cL_law 316 = .ok (.iload_n 3, 1) := by decide +kernel
theorem dL_law_317 : decode cL_law 317 = .ok (.iconst 2, 1) := by decide +kernel
theorem dL_law_318 : decode cL_law 318 = .ok (.iadd, 1) := by decide +kernel
theorem dL_law_319 : decode cL_law 319 = .ok (.iaload, 1) := by decide +kernel
theorem dL_law_320 : decode cL_law 320 = .ok (.invokevirtual 55, 3) := by decide +kernel
theorem dL_law_323 : decode cL_law 323 = .ok (.if_icmp .eq 117, 3) := by decide +kernel
theorem dL_law_326 : decode cL_law 326 = .ok (.iconst 0, 1) := by decide +kernel
theorem dL_law_327 : decode cL_law 327 = .ok (.ireturn, 1) := by decide +kernel
theorem dL_law_328 : decode cL_law 328 = .ok (.aload_n 1, 1) := by decide +kernel
theorem dL_law_329 : decode cL_law 329 = .ok (.aload_n 0, 1) := by decide +kernel
theorem dL_law_330 : decode cL_law 330 = .ok (.iload_n 3, 1) := by decide +kernel
theorem dL_law_331 : decode cL_law 331 = .ok (.iconst 1, 1) := by decide +kernel
theorem dL_law_332 : decode cL_law 332 = .ok (.iadd, 1) := by decide +kernel
theorem dL_law_333 : decode cL_law 333 = .ok (.iaload, 1) := by decide +kernel
theorem dL_law_334 : decode cL_law 334 = .ok (.invokevirtual 56, 3) := by decide +kernel
theorem dL_law_337 : decode cL_law 337 = .ok (.aload_n 2, 1) := by decide +kernel
theorem dL_law_338 : decode cL_law 338 = .ok (.aload_n 0, 1) := by decide +kernel
theorem dL_law_339 : decode cL_law 339 = .ok (.iload_n 3, 1) := by decide +kernel
theorem dL_law_340 : decode cL_law 340 = .ok (.iconst 1, 1) := by decide +kernel
theorem dL_law_341 : decode cL_law 341 = .ok (.iadd, 1) := by decide +kernel
theorem dL_law_342 : decode cL_law 342 = .ok (.iaload, 1) := by decide +kernel
end
section
theorem dL_law_343 : decode cL_law 343 = .ok (.invokevirtual 59, 3) := by decide +kernel
theorem dL_law_346 : decode cL_law 346 = .ok (.if_icmp .eq 94, 3) := by decide +kernel
theorem dL_law_349 : decode cL_law 349 = .ok (.iconst 0, 1) := by decide +kernel
theorem dL_law_350 : decode cL_law 350 = .ok (.ireturn, 1) := by decide +kernel
theorem dL_law_351 : decode cL_law 351 = .ok (.aload_n 1, 1) := by decide +kernel
theorem dL_law_352 : decode cL_law 352 = .ok (.aload_n 0, 1) := by decide +kernel
theorem dL_law_353 : decode cL_law 353 = .ok (.iload_n 3, 1) := by decide +kernel
theorem dL_law_354 : decode cL_law 354 = .ok (.iconst 1, 1) := by decide +kernel
theorem dL_law_355 : decode cL_law 355 = .ok (.iadd, 1) := by decide +kernel
theorem dL_law_356 : decode cL_law 356 = .ok (.iaload, 1) := by decide +kernel
theorem dL_law_357 : decode cL_law 357 = .ok (.ifCond .eq 7, 3) := by decide +kernel
theorem dL_law_360 : decode cL_law 360 = .ok (.iconst 1, 1) := by decide +kernel
theorem dL_law_361 : decode cL_law 361 = .ok (.goto 4, 3) := by decide +kernel
theorem dL_law_364 : decode cL_law 364 = .ok (.iconst 0, 1) := by decide +kernel
theorem dL_law_365 : decode cL_law 365 = .ok (.invokevirtual 60, 3) := by decide +kernel
theorem dL_law_368 : decode cL_law 368 = .ok (.aload_n 2, 1) := by decide +kernel
theorem dL_law_369 : decode cL_law 369 = .ok (.aload_n 0, 1) := by decide +kernel
theorem dL_law_370 : decode cL_law 370 = .ok (.iload_n 3, 1) := by decide +kernel
theorem dL_law_371 : decode cL_law 371 = .ok (.iconst 1, 1) := by decide +kernel
theorem dL_law_372 : decode cL_law 372 = .ok (.iadd, 1) := by decide +kernel
theorem dL_law_373 : decode cL_law 373 = .ok (.iaload, 1) := by decide +kernel
theorem dL_law_374 : decode cL_law 374 = .ok (.ifCond .eq 7, 3) := by decide +kernel
theorem dL_law_377 : decode cL_law 377 = .ok (.iconst 1, 1) := by decide +kernel
theorem dL_law_378 : decode cL_law 378 = .ok (.goto 4, 3) := by decide +kernel
theorem dL_law_381 : decode cL_law 381 = .ok (.iconst 0, 1) := by decide +kernel
theorem dL_law_382 : decode cL_law 382 = .ok (.invokevirtual 64, 3) := by decide +kernel
theorem dL_law_385 : decode cL_law 385 = .ok (.if_icmp .eq 55, 3) := by decide +kernel
theorem dL_law_388 : decode cL_law 388 = .ok (.iconst 0, 1) := by decide +kernel
theorem dL_law_389 : decode cL_law 389 = .ok (.ireturn, 1) := by decide +kernel
theorem dL_law_390 : decode cL_law 390 = .ok (.aload_n 1, 1) := by decide +kernel
theorem dL_law_391 : decode cL_law 391 = .ok (.invokevirtual 65, 3) := by decide +kernel
theorem dL_law_394 : decode cL_law 394 = .ok (.aload_n 2, 1) := by decide +kernel
theorem dL_law_395 : decode cL_law 395 = .ok (.invokevirtual 69, 3) := by decide +kernel
theorem dL_law_398 : decode cL_law 398 = .ok (.lcmp, 1) := by decide +kernel
theorem dL_law_399 : decode cL_law 399 = .ok (.ifCond .eq 41, 3) := by decide +kernel
theorem dL_law_402 : decode cL_law 402 = .ok (.iconst 0, 1) := by decide +kernel
theorem dL_law_403 : decode cL_law 403 = .ok (.ireturn, 1) := by decide +kernel
theorem dL_law_404 : decode cL_law 404 = .ok (.aload_n 1, 1) := by decide +kernel
theorem dL_law_405 : decode cL_law 405 = .ok (.invokevirtual 70, 3) := by decide +kernel
theorem dL_law_408 : decode cL_law 408 = .ok (.aload_n 2, 1) := by decide +kernel
theorem dL_law_409 : decode cL_law 409 = .ok (.invokevirtual 73, 3) := by decide +kernel
theorem dL_law_412 : decode cL_law 412 = .ok (.if_icmp .eq 28, 3) := by decide +kernel
theorem dL_law_415 : decode cL_law 415 = .ok (.iconst 0, 1) := by decide +kernel
theorem dL_law_416 : decode cL_law 416 = .ok (.ireturn, 1) := by decide +kernel
theorem dL_law_417 : decode cL_law 417 = .ok (.aload_n 1, 1) := by decide +kernel
theorem dL_law_418 : decode cL_law 418 = .ok (.aload_n 0, 1) := by decide +kernel
theorem dL_law_419 : decode cL_law 419 = .ok (.iload_n 3, 1) := by decide +kernel
theorem dL_law_420 : decode cL_law 420 = .ok (.iconst 1, 1) := by decide +kernel
theorem dL_law_421 : decode cL_law 421 = .ok (.iadd, 1) := by decide +kernel
theorem dL_law_422 : decode cL_law 422 = .ok (.iaload, 1) := by decide +kernel
theorem dL_law_423 : decode cL_law 423 = .ok (.invokevirtual 74, 3) := by decide +kernel
theorem dL_law_426 : decode cL_law 426 = .ok (.aload_n 2, 1) := by decide +kernel
theorem dL_law_427 : decode cL_law 427 = .ok (.aload_n 0, 1) := by decide +kernel
theorem dL_law_428 : decode cL_law 428 = .ok (.iload_n 3, 1) := by decide +kernel
theorem dL_law_429 : decode cL_law 429 = .ok (.iconst 1, 1) := by decide +kernel
theorem dL_law_430 : decode cL_law 430 = .ok (.iadd, 1) := by decide +kernel
theorem dL_law_431 : decode cL_law 431 = .ok (.iaload, 1) := by decide +kernel
theorem dL_law_432 : decode cL_law 432 = .ok (.invokevirtual 77, 3) := by decide +kernel
theorem dL_law_435 : decode cL_law 435 = .ok (.if_icmp .eq 5, 3) := by decide +kernel
theorem dL_law_438 : decode cL_law 438 = .ok (.iconst 0, 1) := by decide +kernel
theorem dL_law_439 : decode cL_law 439 = .ok (.ireturn, 1) := by decide +kernel
theorem dL_law_440 : decode cL_law 440 = .ok (.iinc 3 3, 3) := by decide +kernel
theorem dL_law_443 : decode cL_law 443 = .ok (.goto (-425), 3) := by decide +kernel
theorem dL_law_446 : decode cL_law 446 = .ok (.iconst 1, 1) := by decide +kernel
theorem dL_law_447 : decode cL_law 447 = .ok (.ireturn, 1) := by decide +kernel
end
section
theorem up_wsL_law_r1 {w : Cond} (h : w ∈ wsL_law_r1) : w ∈ wsL_law := (List.mem_append_left _ (List.mem_append_left _ (List.mem_append_left _ (List.mem_append_left _ (List.mem_append_left _ (List.mem_append_left _ (List.mem_append_left _ (List.mem_append_left _ (List.mem_append_left _ h)))))))))
theorem up_wsL_law_r2 {w : Cond} (h : w ∈ wsL_law_r2) : w ∈ wsL_law := (List.mem_append_left _ (List.mem_append_left _ (List.mem_append_left _ (List.mem_append_left _ (List.mem_append_left _ (List.mem_append_left _ (List.mem_append_left _ (List.mem_append_left _ (List.mem_append_right _ (List.mem_append_left _ h))))))))))
theorem up_wsL_law_r3 {w : Cond} (h : w ∈ wsL_law_r3) : w ∈ wsL_law := (List.mem_append_left _ (List.mem_append_left _ (List.mem_append_left _ (List.mem_append_left _ (List.mem_append_left _ (List.mem_append_left _ (List.mem_append_left _ (List.mem_append_left _ (List.mem_append_right _ (List.mem_append_right _ (List.mem_append_left _ h)))))))))))
theorem up_wsL_law_r4 {w : Cond} (h : w ∈ wsL_law_r4) : w ∈ wsL_law := (List.mem_append_left _ (List.mem_append_left _ (List.mem_append_left _ (List.mem_append_left _ (List.mem_append_left _ (List.mem_append_left _ (List.mem_append_left _ (List.mem_append_left _ (List.mem_append_right _ (List.mem_append_right _ (List.mem_append_right _ (List.mem_append_left _ h))))))))))))
theorem up_wsL_law_r5 {w : Cond} (h : w ∈ wsL_law_r5) : w ∈ wsL_law := (List.mem_append_left _ (List.mem_append_left _ (List.mem_append_left _ (List.mem_append_left _ (List.mem_append_left _ (List.mem_append_left _ (List.mem_append_left _ (List.mem_append_left _ (List.mem_append_right _ (List.mem_append_right _ (List.mem_append_right _ (List.mem_append_right _ (List.mem_append_left _ h)))))))))))))
theorem up_wsL_law_r6 {w : Cond} (h : w ∈ wsL_law_r6) : w ∈ wsL_law := (List.mem_append_left _ (List.mem_append_left _ (List.mem_append_left _ (List.mem_append_left _ (List.mem_append_left _ (List.mem_append_left _ (List.mem_append_left _ (List.mem_append_left _ (List.mem_append_right _ (List.mem_append_right _ (List.mem_append_right _ (List.mem_append_right _ (List.mem_append_right _ (List.mem_append_left _ h))))))))))))))
theorem up_wsL_law_r7 {w : Cond} (h : w ∈ wsL_law_r7) : w ∈ wsL_law := (List.mem_append_left _ (List.mem_append_left _ (List.mem_append_left _ (List.mem_append_left _ (List.mem_append_left _ (List.mem_append_left _ (List.mem_append_left _ (List.mem_append_left _ (List.mem_append_right _ (List.mem_append_right _ (List.mem_append_right _ (List.mem_append_right _ (List.mem_append_right _ (List.mem_append_right _ (List.mem_append_left _ h)))))))))))))))
theorem up_wsL_law_r8 {w : Cond} (h : w ∈ wsL_law_r8) : w ∈ wsL_law := (List.mem_append_left _ (List.mem_append_left _ (List.mem_append_left _ (List.mem_append_left _ (List.mem_append_left _ (List.mem_append_left _ (List.mem_append_left _ (List.mem_append_left _ (List.mem_append_right _ (List.mem_append_right _ (List.mem_append_right _ (List.mem_append_right _ (List.mem_append_right _ (List.mem_append_right _ (List.mem_append_right _ (List.mem_append_left _ h))))))))))))))))
theorem up_wsL_law_r9 {w : Cond} (h : w ∈ wsL_law_r9) : w ∈ wsL_law := (List.mem_append_left _ (List.mem_append_left _ (List.mem_append_left _ (List.mem_append_left _ (List.mem_append_left _ (List.mem_append_left _ (List.mem_append_left _ (List.mem_append_left _ (List.mem_append_right _ (List.mem_append_right _ (List.mem_append_right _ (List.mem_append_right _ (List.mem_append_right _ (List.mem_append_right _ (List.mem_append_right _ (List.mem_append_right _ (List.mem_append_left _ h)))))))))))))))))
theorem up_wsL_law_r10 {w : Cond} (h : w ∈ wsL_law_r10) : w ∈ wsL_law := (List.mem_append_left _ (List.mem_append_left _ (List.mem_append_left _ (List.mem_append_left _ (List.mem_append_left _ (List.mem_append_left _ (List.mem_append_left _ (List.mem_append_left _ (List.mem_append_right _ (List.mem_append_right _ (List.mem_append_right _ (List.mem_append_right _ (List.mem_append_right _ (List.mem_append_right _ (List.mem_append_right _ (List.mem_append_right _ (List.mem_append_right _ (List.mem_append_left _ h))))))))))))))))))
theorem up_wsL_law_r11 {w : Cond} (h : w ∈ wsL_law_r11) : w ∈ wsL_law := (List.mem_append_left _ (List.mem_append_left _ (List.mem_append_left _ (List.mem_append_left _ (List.mem_append_left _ (List.mem_append_left _ (List.mem_append_left _ (List.mem_append_left _ (List.mem_append_right _ (List.mem_append_right _ (List.mem_append_right _ (List.mem_append_right _ (List.mem_append_right _ (List.mem_append_right _ (List.mem_append_right _ (List.mem_append_right _ (List.mem_append_right _ (List.mem_append_right _ (List.mem_append_left _ h)))))))))))))))))))
theorem up_wsL_law_r12 {w : Cond} (h : w ∈ wsL_law_r12) : w ∈ wsL_law := (List.mem_append_left _ (List.mem_append_left _ (List.mem_append_left _ (List.mem_append_left _ (List.mem_append_left _ (List.mem_append_left _ (List.mem_append_left _ (List.mem_append_left _ (List.mem_append_right _ (List.mem_append_right _ (List.mem_append_right _ (List.mem_append_right _ (List.mem_append_right _ (List.mem_append_right _ (List.mem_append_right _ (List.mem_append_right _ (List.mem_append_right _ (List.mem_append_right _ (List.mem_append_right _ (List.mem_append_left _ h))))))))))))))))))))
theorem up_wsL_law_r13 {w : Cond} (h : w ∈ wsL_law_r13) : w ∈ wsL_law := (List.mem_append_left _ (List.mem_append_left _ (List.mem_append_left _ (List.mem_append_left _ (List.mem_append_left _ (List.mem_append_left _ (List.mem_append_left _ (List.mem_append_left _ (List.mem_append_right _ (List.mem_append_right _ (List.mem_append_right _ (List.mem_append_right _ (List.mem_append_right _ (List.mem_append_right _ (List.mem_append_right _ (List.mem_append_right _ (List.mem_append_right _ (List.mem_append_right _ (List.mem_append_right _ (List.mem_append_right _ (List.mem_append_left _ h)))))))))))))))))))))
theorem up_wsL_law_r14 {w : Cond} (h : w ∈ wsL_law_r14) : w ∈ wsL_law := (List.mem_append_left _ (List.mem_append_left _ (List.mem_append_left _ (List.mem_append_left _ (List.mem_append_left _ (List.mem_append_left _ (List.mem_append_left _ (List.mem_append_left _ (List.mem_append_right _ (List.mem_append_right _ (List.mem_append_right _ (List.mem_append_right _ (List.mem_append_right _ (List.mem_append_right _ (List.mem_append_right _ (List.mem_append_right _ (List.mem_append_right _ (List.mem_append_right _ (List.mem_append_right _ (List.mem_append_right _ (List.mem_append_right _ (List.mem_append_left _ h))))))))))))))))))))))
theorem up_wsL_law_r15 {w : Cond} (h : w ∈ wsL_law_r15) : w ∈ wsL_law := (List.mem_append_left _ (List.mem_append_left _ (List.mem_append_left _ (List.mem_append_left _ (List.mem_append_left _ (List.mem_append_left _ (List.mem_append_left _ (List.mem_append_left _ (List.mem_append_right _ (List.mem_append_right _ (List.mem_append_right _ (List.mem_append_right _ (List.mem_append_right _ (List.mem_append_right _ (List.mem_append_right _ (List.mem_append_right _ (List.mem_append_right _ (List.mem_append_right _ (List.mem_append_right _ (List.mem_append_right _ (List.mem_append_right _ (List.mem_append_right _ (List.mem_append_left _ h)))))))))))))))))))))))
theorem up_wsL_law_r16 {w : Cond} (h : w ∈ wsL_law_r16) : w ∈ wsL_law := (List.mem_append_left _ (List.mem_append_left _ (List.mem_append_left _ (List.mem_append_left _ (List.mem_append_left _ (List.mem_append_left _ (List.mem_append_left _ (List.mem_append_left _ (List.mem_append_right _ (List.mem_append_right _ (List.mem_append_right _ (List.mem_append_right _ (List.mem_append_right _ (List.mem_append_right _ (List.mem_append_right _ (List.mem_append_right _ (List.mem_append_right _ (List.mem_append_right _ (List.mem_append_right _ (List.mem_append_right _ (List.mem_append_right _ (List.mem_append_right _ (List.mem_append_right _ (List.mem_append_left _ h))))))))))))))))))))))))
theorem up_wsL_law_r17 {w : Cond} (h : w ∈ wsL_law_r17) : w ∈ wsL_law := (List.mem_append_left _ (List.mem_append_left _ (List.mem_append_left _ (List.mem_append_left _ (List.mem_append_left _ (List.mem_append_left _ (List.mem_append_left _ (List.mem_append_left _ (List.mem_append_right _ (List.mem_append_right _ (List.mem_append_right _ (List.mem_append_right _ (List.mem_append_right _ (List.mem_append_right _ (List.mem_append_right _ (List.mem_append_right _ (List.mem_append_right _ (List.mem_append_right _ (List.mem_append_right _ (List.mem_append_right _ (List.mem_append_right _ (List.mem_append_right _ (List.mem_append_right _ (List.mem_append_right _ (List.mem_append_left _ h)))))))))))))))))))))))))
theorem up_wsL_law_r18 {w : Cond} (h : w ∈ wsL_law_r18) : w ∈ wsL_law := (List.mem_append_left _ (List.mem_append_left _ (List.mem_append_left _ (List.mem_append_left _ (List.mem_append_left _ (List.mem_append_left _ (List.mem_append_left _ (List.mem_append_left _ (List.mem_append_right _ (List.mem_append_right _ (List.mem_append_right _ (List.mem_append_right _ (List.mem_append_right _ (List.mem_append_right _ (List.mem_append_right _ (List.mem_append_right _ (List.mem_append_right _ (List.mem_append_right _ (List.mem_append_right _ (List.mem_append_right _ (List.mem_append_right _ (List.mem_append_right _ (List.mem_append_right _ (List.mem_append_right _ (List.mem_append_right _ (List.mem_append_left _ h))))))))))))))))))))))))))
theorem up_wsL_law_r19 {w : Cond} (h : w ∈ wsL_law_r19) : w ∈ wsL_law := (List.mem_append_left _ (List.mem_append_left _ (List.mem_append_left _ (List.mem_append_left _ (List.mem_append_left _ (List.mem_append_left _ (List.mem_append_left _ (List.mem_append_left _ (List.mem_append_right _ (List.mem_append_right _ (List.mem_append_right _ (List.mem_append_right _ (List.mem_append_right _ (List.mem_append_right _ (List.mem_append_right _ (List.mem_append_right _ (List.mem_append_right _ (List.mem_append_right _ (List.mem_append_right _ (List.mem_append_right _ (List.mem_append_right _ (List.mem_append_right _ (List.mem_append_right _ (List.mem_append_right _ (List.mem_append_right _ (List.mem_append_right _ (List.mem_append_left _ h)))))))))))))))))))))))))))
theorem up_wsL_law_r20 {w : Cond} (h : w ∈ wsL_law_r20) : w ∈ wsL_law := (List.mem_append_left _ (List.mem_append_left _ (List.mem_append_left _ (List.mem_append_left _ (List.mem_append_left _ (List.mem_append_left _ (List.mem_append_left _ (List.mem_append_left _ (List.mem_append_right _ (List.mem_append_right _ (List.mem_append_right _ (List.mem_append_right _ (List.mem_append_right _ (List.mem_append_right _ (List.mem_append_right _ (List.mem_append_right _ (List.mem_append_right _ (List.mem_append_right _ (List.mem_append_right _ (List.mem_append_right _ (List.mem_append_right _ (List.mem_append_right _ (List.mem_append_right _ (List.mem_append_right _ (List.mem_append_right _ (List.mem_append_right _ (List.mem_append_right _ h)))))))))))))))))))))))))))
theorem cl_L_7 : (Cond.classLink RL 7 RX5 : Cond) ∈ wsL_law := up_wsL_law_r1 (List.mem_of_getElem? (i := 0) rfl)
theorem it_X5 : (Cond.instantiable RX5 7 : Cond) ∈ wsL_law := up_wsL_law_r1 (List.mem_of_getElem? (i := 1) rfl)
theorem in_X5 : (Cond.initialized RX5 : Cond) ∈ wsL_law := up_wsL_law_r1 (List.mem_of_getElem? (i := 2) rfl)
theorem cl_L_10 : (Cond.classLink RL 10 RX6 : Cond) ∈ wsL_law := up_wsL_law_r1 (List.mem_of_getElem? (i := 3) rfl)
theorem it_X6 : (Cond.instantiable RX6 17 : Cond) ∈ wsL_law := up_wsL_law_r1 (List.mem_of_getElem? (i := 4) rfl)
theorem in_X6 : (Cond.initialized RX6 : Cond) ∈ wsL_law := up_wsL_law_r1 (List.mem_of_getElem? (i := 5) rfl)
theorem ml_L_9 : (Cond.methodLink RL 9 yX5_init : Cond) ∈ wsL_law := up_wsL_law_r1 (List.mem_of_getElem? (i := 6) rfl)
theorem im_yX5_init : (Cond.instanceMethod yX5_init : Cond) ∈ wsL_law := up_wsL_law_r1 (List.mem_of_getElem? (i := 7) rfl)
theorem co_yX5_init : (Cond.code yX5_init cX5_init 1 none : Cond) ∈ wsL_law := up_wsL_law_r1 (List.mem_of_getElem? (i := 8) rfl)
theorem ml_X5_3 : (Cond.methodLink RX5 3 objectInit : Cond) ∈ wsL_law := up_wsL_law_r1 (List.mem_of_getElem? (i := 9) rfl)
theorem im_objectInit : (Cond.instanceMethod objectInit : Cond) ∈ wsL_law := up_wsL_law_r1 (List.mem_of_getElem? (i := 10) rfl)
theorem co_objectInit : (Cond.code objectInit ⟨#[0xb1]⟩ 1 none : Cond) ∈ wsL_law := up_wsL_law_r1 (List.mem_of_getElem? (i := 11) rfl)
theorem cl_X5_9 : (Cond.classLink RX5 9 RX3 : Cond) ∈ wsL_law := up_wsL_law_r1 (List.mem_of_getElem? (i := 12) rfl)
theorem it_X3 : (Cond.instantiable RX3 2 : Cond) ∈ wsL_law := up_wsL_law_r1 (List.mem_of_getElem? (i := 13) rfl)
theorem in_X3 : (Cond.initialized RX3 : Cond) ∈ wsL_law := up_wsL_law_r1 (List.mem_of_getElem? (i := 14) rfl)
theorem fl_X5_12 : (Cond.fieldLink RX5 12 "CosetTable" "hand" "LCosetTable$Word;" : Cond) ∈ wsL_law := up_wsL_law_r1 (List.mem_of_getElem? (i := 15) rfl)
theorem cl_X5_16 : (Cond.classLink RX5 16 RX4 : Cond) ∈ wsL_law := up_wsL_law_r1 (List.mem_of_getElem? (i := 16) rfl)
theorem it_X4 : (Cond.instantiable RX4 2 : Cond) ∈ wsL_law := up_wsL_law_r1 (List.mem_of_getElem? (i := 17) rfl)
theorem in_X4 : (Cond.initialized RX4 : Cond) ∈ wsL_law := up_wsL_law_r1 (List.mem_of_getElem? (i := 18) rfl)
theorem fl_X5_21 : (Cond.fieldLink RX5 21 "CosetTable" "relators" "LCosetTable$WordList;" : Cond) ∈ wsL_law := up_wsL_law_r1 (List.mem_of_getElem? (i := 19) rfl)
theorem fl_X5_25 : (Cond.fieldLink RX5 25 "CosetTable" "subgroupWords" "LCosetTable$WordList;" : Cond) ∈ wsL_law := up_wsL_law_r1 (List.mem_of_getElem? (i := 20) rfl)
theorem cl_X5_28 : (Cond.classLink RX5 28 RX1 : Cond) ∈ wsL_law := up_wsL_law_r1 (List.mem_of_getElem? (i := 21) rfl)
theorem it_X1 : (Cond.instantiable RX1 11 : Cond) ∈ wsL_law := up_wsL_law_r1 (List.mem_of_getElem? (i := 22) rfl)
theorem in_X1 : (Cond.initialized RX1 : Cond) ∈ wsL_law := up_wsL_law_r1 (List.mem_of_getElem? (i := 23) rfl)
theorem fl_X5_31 : (Cond.fieldLink RX5 31 "CosetTable" "cosets" "LCosetTable$Cosets;" : Cond) ∈ wsL_law := up_wsL_law_r2 (List.mem_of_getElem? (i := 0) rfl)
theorem cl_X5_35 : (Cond.classLink RX5 35 RX2 : Cond) ∈ wsL_law := up_wsL_law_r2 (List.mem_of_getElem? (i := 1) rfl)
theorem it_X2 : (Cond.instantiable RX2 3 : Cond) ∈ wsL_law := up_wsL_law_r2 (List.mem_of_getElem? (i := 2) rfl)
theorem in_X2 : (Cond.initialized RX2 : Cond) ∈ wsL_law := up_wsL_law_r2 (List.mem_of_getElem? (i := 3) rfl)
theorem fl_X5_40 : (Cond.fieldLink RX5 40 "CosetTable" "inference" "LCosetTable$Inference;" : Cond) ∈ wsL_law := up_wsL_law_r2 (List.mem_of_getElem? (i := 4) rfl)
theorem cl_X5_44 : (Cond.classLink RX5 44 RX0 : Cond) ∈ wsL_law := up_wsL_law_r2 (List.mem_of_getElem? (i := 5) rfl)
theorem it_X0 : (Cond.instantiable RX0 7 : Cond) ∈ wsL_law := up_wsL_law_r2 (List.mem_of_getElem? (i := 6) rfl)
theorem in_X0 : (Cond.initialized RX0 : Cond) ∈ wsL_law := up_wsL_law_r2 (List.mem_of_getElem? (i := 7) rfl)
theorem fl_X5_49 : (Cond.fieldLink RX5 49 "CosetTable" "action" "LCosetTable$Action;" : Cond) ∈ wsL_law := up_wsL_law_r2 (List.mem_of_getElem? (i := 8) rfl)
theorem fl_X5_53 : (Cond.fieldLink RX5 53 "CosetTable" "generators" "I" : Cond) ∈ wsL_law := up_wsL_law_r2 (List.mem_of_getElem? (i := 9) rfl)
theorem im_yX3_init : (Cond.instanceMethod yX3_init : Cond) ∈ wsL_law := up_wsL_law_r2 (List.mem_of_getElem? (i := 10) rfl)
theorem co_yX3_init : (Cond.code yX3_init cX3_init 1 none : Cond) ∈ wsL_law := up_wsL_law_r2 (List.mem_of_getElem? (i := 11) rfl)
theorem ml_X3_3 : (Cond.methodLink RX3 3 objectInit : Cond) ∈ wsL_law := up_wsL_law_r2 (List.mem_of_getElem? (i := 12) rfl)
theorem ac_int : (Cond.arrayClass .int : Cond) ∈ wsL_law := up_wsL_law_r2 (List.mem_of_getElem? (i := 13) rfl)
theorem fl_X3_9 : (Cond.fieldLink RX3 9 "CosetTable$Word" "columns" "[I" : Cond) ∈ wsL_law := up_wsL_law_r2 (List.mem_of_getElem? (i := 14) rfl)
theorem ml_X5_18 : (Cond.methodLink RX5 18 yX4_init : Cond) ∈ wsL_law := up_wsL_law_r2 (List.mem_of_getElem? (i := 15) rfl)
theorem im_yX4_init : (Cond.instanceMethod yX4_init : Cond) ∈ wsL_law := up_wsL_law_r2 (List.mem_of_getElem? (i := 16) rfl)
theorem co_yX4_init : (Cond.code yX4_init cX4_init 3 none : Cond) ∈ wsL_law := up_wsL_law_r2 (List.mem_of_getElem? (i := 17) rfl)
theorem ml_X4_1 : (Cond.methodLink RX4 1 objectInit : Cond) ∈ wsL_law := up_wsL_law_r2 (List.mem_of_getElem? (i := 18) rfl)
theorem cl_X4_7 : (Cond.classLink RX4 7 RX3 : Cond) ∈ wsL_law := up_wsL_law_r2 (List.mem_of_getElem? (i := 19) rfl)
theorem fl_X4_9 : (Cond.fieldLink RX4 9 "CosetTable$WordList" "words" "[LCosetTable$Word;" : Cond) ∈ wsL_law := up_wsL_law_r2 (List.mem_of_getElem? (i := 20) rfl)
theorem im_yX1_init : (Cond.instanceMethod yX1_init : Cond) ∈ wsL_law := up_wsL_law_r2 (List.mem_of_getElem? (i := 21) rfl)
theorem co_yX1_init : (Cond.code yX1_init cX1_init 1 none : Cond) ∈ wsL_law := up_wsL_law_r2 (List.mem_of_getElem? (i := 22) rfl)
theorem ml_X1_3 : (Cond.methodLink RX1 3 objectInit : Cond) ∈ wsL_law := up_wsL_law_r2 (List.mem_of_getElem? (i := 23) rfl)
theorem fl_X1_9 : (Cond.fieldLink RX1 9 "CosetTable$Cosets" "entries" "[I" : Cond) ∈ wsL_law := up_wsL_law_r3 (List.mem_of_getElem? (i := 0) rfl)
theorem fl_X1_15 : (Cond.fieldLink RX1 15 "CosetTable$Cosets" "leaders" "[I" : Cond) ∈ wsL_law := up_wsL_law_r3 (List.mem_of_getElem? (i := 1) rfl)
theorem fl_X1_18 : (Cond.fieldLink RX1 18 "CosetTable$Cosets" "fallen" "[I" : Cond) ∈ wsL_law := up_wsL_law_r3 (List.mem_of_getElem? (i := 2) rfl)
theorem fl_X1_21 : (Cond.fieldLink RX1 21 "CosetTable$Cosets" "fresh" "[I" : Cond) ∈ wsL_law := up_wsL_law_r3 (List.mem_of_getElem? (i := 3) rfl)
theorem ac_boolean : (Cond.arrayClass .boolean : Cond) ∈ wsL_law := up_wsL_law_r3 (List.mem_of_getElem? (i := 4) rfl)
theorem fl_X1_24 : (Cond.fieldLink RX1 24 "CosetTable$Cosets" "isFresh" "[Z" : Cond) ∈ wsL_law := up_wsL_law_r3 (List.mem_of_getElem? (i := 5) rfl)
theorem ml_X5_37 : (Cond.methodLink RX5 37 yX2_init : Cond) ∈ wsL_law := up_wsL_law_r3 (List.mem_of_getElem? (i := 6) rfl)
theorem im_yX2_init : (Cond.instanceMethod yX2_init : Cond) ∈ wsL_law := up_wsL_law_r3 (List.mem_of_getElem? (i := 7) rfl)
theorem co_yX2_init : (Cond.code yX2_init cX2_init 4 none : Cond) ∈ wsL_law := up_wsL_law_r3 (List.mem_of_getElem? (i := 8) rfl)
theorem ml_X2_3 : (Cond.methodLink RX2 3 objectInit : Cond) ∈ wsL_law := up_wsL_law_r3 (List.mem_of_getElem? (i := 9) rfl)
theorem fl_X2_9 : (Cond.fieldLink RX2 9 "CosetTable$Inference" "cosets" "LCosetTable$Cosets;" : Cond) ∈ wsL_law := up_wsL_law_r3 (List.mem_of_getElem? (i := 10) rfl)
theorem fl_X2_15 : (Cond.fieldLink RX2 15 "CosetTable$Inference" "relators" "LCosetTable$WordList;" : Cond) ∈ wsL_law := up_wsL_law_r3 (List.mem_of_getElem? (i := 11) rfl)
theorem fl_X2_19 : (Cond.fieldLink RX2 19 "CosetTable$Inference" "subgroupWords" "LCosetTable$WordList;" : Cond) ∈ wsL_law := up_wsL_law_r3 (List.mem_of_getElem? (i := 12) rfl)
theorem ml_X5_46 : (Cond.methodLink RX5 46 yX0_init : Cond) ∈ wsL_law := up_wsL_law_r3 (List.mem_of_getElem? (i := 13) rfl)
theorem im_yX0_init : (Cond.instanceMethod yX0_init : Cond) ∈ wsL_law := up_wsL_law_r3 (List.mem_of_getElem? (i := 14) rfl)
theorem co_yX0_init : (Cond.code yX0_init cX0_init 3 none : Cond) ∈ wsL_law := up_wsL_law_r3 (List.mem_of_getElem? (i := 15) rfl)
theorem ml_X0_3 : (Cond.methodLink RX0 3 objectInit : Cond) ∈ wsL_law := up_wsL_law_r3 (List.mem_of_getElem? (i := 16) rfl)
theorem fl_X0_9 : (Cond.fieldLink RX0 9 "CosetTable$Action" "numbers" "[I" : Cond) ∈ wsL_law := up_wsL_law_r3 (List.mem_of_getElem? (i := 17) rfl)
theorem fl_X0_15 : (Cond.fieldLink RX0 15 "CosetTable$Action" "names" "[I" : Cond) ∈ wsL_law := up_wsL_law_r3 (List.mem_of_getElem? (i := 18) rfl)
theorem fl_X0_18 : (Cond.fieldLink RX0 18 "CosetTable$Action" "seen" "[Z" : Cond) ∈ wsL_law := up_wsL_law_r3 (List.mem_of_getElem? (i := 19) rfl)
theorem fl_X0_22 : (Cond.fieldLink RX0 22 "CosetTable$Action" "reached" "[I" : Cond) ∈ wsL_law := up_wsL_law_r3 (List.mem_of_getElem? (i := 20) rfl)
theorem fl_X0_25 : (Cond.fieldLink RX0 25 "CosetTable$Action" "cosets" "LCosetTable$Cosets;" : Cond) ∈ wsL_law := up_wsL_law_r3 (List.mem_of_getElem? (i := 21) rfl)
theorem fl_X0_29 : (Cond.fieldLink RX0 29 "CosetTable$Action" "subgroupWords" "LCosetTable$WordList;" : Cond) ∈ wsL_law := up_wsL_law_r3 (List.mem_of_getElem? (i := 22) rfl)
theorem ml_X5_57 : (Cond.methodLink RX5 57 yX5_startTable : Cond) ∈ wsL_law := up_wsL_law_r3 (List.mem_of_getElem? (i := 23) rfl)
theorem im_yX5_startTable : (Cond.instanceMethod yX5_startTable : Cond) ∈ wsL_law := up_wsL_law_r4 (List.mem_of_getElem? (i := 0) rfl)
theorem se_yX5_startTable : (Cond.selects RX5 yX5_startTable yX5_startTable : Cond) ∈ wsL_law := up_wsL_law_r4 (List.mem_of_getElem? (i := 1) rfl)
theorem co_yX5_startTable : (Cond.code yX5_startTable cX5_startTable 1 none : Cond) ∈ wsL_law := up_wsL_law_r4 (List.mem_of_getElem? (i := 2) rfl)
theorem ml_X5_145 : (Cond.methodLink RX5 145 yX1_start : Cond) ∈ wsL_law := up_wsL_law_r4 (List.mem_of_getElem? (i := 3) rfl)
theorem im_yX1_start : (Cond.instanceMethod yX1_start : Cond) ∈ wsL_law := up_wsL_law_r4 (List.mem_of_getElem? (i := 4) rfl)
theorem se_yX1_start : (Cond.selects RX1 yX1_start yX1_start : Cond) ∈ wsL_law := up_wsL_law_r4 (List.mem_of_getElem? (i := 5) rfl)
theorem co_yX1_start : (Cond.code yX1_start cX1_start 2 none : Cond) ∈ wsL_law := up_wsL_law_r4 (List.mem_of_getElem? (i := 6) rfl)
theorem fl_X1_28 : (Cond.fieldLink RX1 28 "CosetTable$Cosets" "columns" "I" : Cond) ∈ wsL_law := up_wsL_law_r4 (List.mem_of_getElem? (i := 7) rfl)
theorem fl_X1_32 : (Cond.fieldLink RX1 32 "CosetTable$Cosets" "made" "I" : Cond) ∈ wsL_law := up_wsL_law_r4 (List.mem_of_getElem? (i := 8) rfl)
theorem fl_X1_35 : (Cond.fieldLink RX1 35 "CosetTable$Cosets" "living" "I" : Cond) ∈ wsL_law := up_wsL_law_r4 (List.mem_of_getElem? (i := 9) rfl)
theorem fl_X1_38 : (Cond.fieldLink RX1 38 "CosetTable$Cosets" "open" "I" : Cond) ∈ wsL_law := up_wsL_law_r4 (List.mem_of_getElem? (i := 10) rfl)
theorem ml_X1_41 : (Cond.methodLink RX1 41 yX1_make : Cond) ∈ wsL_law := up_wsL_law_r4 (List.mem_of_getElem? (i := 11) rfl)
theorem im_yX1_make : (Cond.instanceMethod yX1_make : Cond) ∈ wsL_law := up_wsL_law_r4 (List.mem_of_getElem? (i := 12) rfl)
theorem se_yX1_make : (Cond.selects RX1 yX1_make yX1_make : Cond) ∈ wsL_law := up_wsL_law_r4 (List.mem_of_getElem? (i := 13) rfl)
theorem co_yX1_make : (Cond.code yX1_make cX1_make 3 (some .int) : Cond) ∈ wsL_law := up_wsL_law_r4 (List.mem_of_getElem? (i := 14) rfl)
theorem ml_L_12 : (Cond.methodLink RL 12 yX6_init : Cond) ∈ wsL_law := up_wsL_law_r4 (List.mem_of_getElem? (i := 15) rfl)
theorem im_yX6_init : (Cond.instanceMethod yX6_init : Cond) ∈ wsL_law := up_wsL_law_r4 (List.mem_of_getElem? (i := 16) rfl)
theorem co_yX6_init : (Cond.code yX6_init cX6_init 2 none : Cond) ∈ wsL_law := up_wsL_law_r4 (List.mem_of_getElem? (i := 17) rfl)
theorem ml_X6_1 : (Cond.methodLink RX6 1 objectInit : Cond) ∈ wsL_law := up_wsL_law_r4 (List.mem_of_getElem? (i := 18) rfl)
theorem fl_X6_7 : (Cond.fieldLink RX6 7 "CosetTableModel" "letters" "[I" : Cond) ∈ wsL_law := up_wsL_law_r4 (List.mem_of_getElem? (i := 19) rfl)
theorem fl_X6_13 : (Cond.fieldLink RX6 13 "CosetTableModel" "sizes" "[I" : Cond) ∈ wsL_law := up_wsL_law_r4 (List.mem_of_getElem? (i := 20) rfl)
theorem fl_X6_16 : (Cond.fieldLink RX6 16 "CosetTableModel" "now" "[I" : Cond) ∈ wsL_law := up_wsL_law_r4 (List.mem_of_getElem? (i := 21) rfl)
theorem fl_X6_19 : (Cond.fieldLink RX6 19 "CosetTableModel" "table" "[I" : Cond) ∈ wsL_law := up_wsL_law_r4 (List.mem_of_getElem? (i := 22) rfl)
theorem fl_X6_22 : (Cond.fieldLink RX6 22 "CosetTableModel" "one" "[I" : Cond) ∈ wsL_law := up_wsL_law_r4 (List.mem_of_getElem? (i := 23) rfl)
theorem fl_X6_25 : (Cond.fieldLink RX6 25 "CosetTableModel" "two" "[I" : Cond) ∈ wsL_law := up_wsL_law_r5 (List.mem_of_getElem? (i := 0) rfl)
theorem fl_X6_28 : (Cond.fieldLink RX6 28 "CosetTableModel" "numbers" "[I" : Cond) ∈ wsL_law := up_wsL_law_r5 (List.mem_of_getElem? (i := 1) rfl)
theorem fl_X6_31 : (Cond.fieldLink RX6 31 "CosetTableModel" "names" "[I" : Cond) ∈ wsL_law := up_wsL_law_r5 (List.mem_of_getElem? (i := 2) rfl)
theorem fl_X6_34 : (Cond.fieldLink RX6 34 "CosetTableModel" "seen" "[Z" : Cond) ∈ wsL_law := up_wsL_law_r5 (List.mem_of_getElem? (i := 3) rfl)
theorem fl_X6_38 : (Cond.fieldLink RX6 38 "CosetTableModel" "low" "[I" : Cond) ∈ wsL_law := up_wsL_law_r5 (List.mem_of_getElem? (i := 4) rfl)
theorem ml_X6_41 : (Cond.methodLink RX6 41 yX6_begin : Cond) ∈ wsL_law := up_wsL_law_r5 (List.mem_of_getElem? (i := 5) rfl)
theorem im_yX6_begin : (Cond.instanceMethod yX6_begin : Cond) ∈ wsL_law := up_wsL_law_r5 (List.mem_of_getElem? (i := 6) rfl)
theorem se_yX6_begin : (Cond.selects RX6 yX6_begin yX6_begin : Cond) ∈ wsL_law := up_wsL_law_r5 (List.mem_of_getElem? (i := 7) rfl)
theorem co_yX6_begin : (Cond.code yX6_begin cX6_begin 2 (some .int) : Cond) ∈ wsL_law := up_wsL_law_r5 (List.mem_of_getElem? (i := 8) rfl)
theorem fl_X6_49 : (Cond.fieldLink RX6 49 "CosetTableModel" "n" "I" : Cond) ∈ wsL_law := up_wsL_law_r5 (List.mem_of_getElem? (i := 9) rfl)
theorem fl_X6_52 : (Cond.fieldLink RX6 52 "CosetTableModel" "relators" "I" : Cond) ∈ wsL_law := up_wsL_law_r5 (List.mem_of_getElem? (i := 10) rfl)
theorem fl_X6_55 : (Cond.fieldLink RX6 55 "CosetTableModel" "subgroup" "I" : Cond) ∈ wsL_law := up_wsL_law_r5 (List.mem_of_getElem? (i := 11) rfl)
theorem ml_X6_58 : (Cond.methodLink RX6 58 yX6_fresh : Cond) ∈ wsL_law := up_wsL_law_r5 (List.mem_of_getElem? (i := 12) rfl)
theorem im_yX6_fresh : (Cond.instanceMethod yX6_fresh : Cond) ∈ wsL_law := up_wsL_law_r5 (List.mem_of_getElem? (i := 13) rfl)
theorem se_yX6_fresh : (Cond.selects RX6 yX6_fresh yX6_fresh : Cond) ∈ wsL_law := up_wsL_law_r5 (List.mem_of_getElem? (i := 14) rfl)
theorem co_yX6_fresh : (Cond.code yX6_fresh cX6_fresh 2 none : Cond) ∈ wsL_law := up_wsL_law_r5 (List.mem_of_getElem? (i := 15) rfl)
theorem fl_X6_45 : (Cond.fieldLink RX6 45 "CosetTableModel" "made" "I" : Cond) ∈ wsL_law := up_wsL_law_r5 (List.mem_of_getElem? (i := 16) rfl)
theorem ml_L_13 : (Cond.methodLink RL 13 yX5_begin : Cond) ∈ wsL_law := up_wsL_law_r5 (List.mem_of_getElem? (i := 17) rfl)
theorem im_yX5_begin : (Cond.instanceMethod yX5_begin : Cond) ∈ wsL_law := up_wsL_law_r5 (List.mem_of_getElem? (i := 18) rfl)
theorem se_yX5_begin : (Cond.selects RX5 yX5_begin yX5_begin : Cond) ∈ wsL_law := up_wsL_law_r5 (List.mem_of_getElem? (i := 19) rfl)
theorem co_yX5_begin : (Cond.code yX5_begin cX5_begin 2 (some .int) : Cond) ∈ wsL_law := up_wsL_law_r5 (List.mem_of_getElem? (i := 20) rfl)
theorem ml_L_17 : (Cond.methodLink RL 17 yX6_begin : Cond) ∈ wsL_law := up_wsL_law_r5 (List.mem_of_getElem? (i := 21) rfl)
theorem ml_L_18 : (Cond.methodLink RL 18 yX5_letter : Cond) ∈ wsL_law := up_wsL_law_r5 (List.mem_of_getElem? (i := 22) rfl)
theorem im_yX5_letter : (Cond.instanceMethod yX5_letter : Cond) ∈ wsL_law := up_wsL_law_r5 (List.mem_of_getElem? (i := 23) rfl)
theorem se_yX5_letter : (Cond.selects RX5 yX5_letter yX5_letter : Cond) ∈ wsL_law := up_wsL_law_r6 (List.mem_of_getElem? (i := 0) rfl)
theorem co_yX5_letter : (Cond.code yX5_letter cX5_letter 2 (some .int) : Cond) ∈ wsL_law := up_wsL_law_r6 (List.mem_of_getElem? (i := 1) rfl)
theorem ml_X5_66 : (Cond.methodLink RX5 66 yX5_isLetter : Cond) ∈ wsL_law := up_wsL_law_r6 (List.mem_of_getElem? (i := 2) rfl)
theorem im_yX5_isLetter : (Cond.instanceMethod yX5_isLetter : Cond) ∈ wsL_law := up_wsL_law_r6 (List.mem_of_getElem? (i := 3) rfl)
theorem se_yX5_isLetter : (Cond.selects RX5 yX5_isLetter yX5_isLetter : Cond) ∈ wsL_law := up_wsL_law_r6 (List.mem_of_getElem? (i := 4) rfl)
theorem co_yX5_isLetter : (Cond.code yX5_isLetter cX5_isLetter 2 (some .boolean) : Cond) ∈ wsL_law := up_wsL_law_r6 (List.mem_of_getElem? (i := 5) rfl)
theorem ml_X5_70 : (Cond.methodLink RX5 70 yX5_columnOf : Cond) ∈ wsL_law := up_wsL_law_r6 (List.mem_of_getElem? (i := 6) rfl)
theorem st_yX5_columnOf : (Cond.static yX5_columnOf : Cond) ∈ wsL_law := up_wsL_law_r6 (List.mem_of_getElem? (i := 7) rfl)
theorem co_yX5_columnOf : (Cond.code yX5_columnOf cX5_columnOf 1 (some .int) : Cond) ∈ wsL_law := up_wsL_law_r6 (List.mem_of_getElem? (i := 8) rfl)
theorem ml_X5_74 : (Cond.methodLink RX5 74 yX3_append : Cond) ∈ wsL_law := up_wsL_law_r6 (List.mem_of_getElem? (i := 9) rfl)
theorem im_yX3_append : (Cond.instanceMethod yX3_append : Cond) ∈ wsL_law := up_wsL_law_r6 (List.mem_of_getElem? (i := 10) rfl)
theorem se_yX3_append : (Cond.selects RX3 yX3_append yX3_append : Cond) ∈ wsL_law := up_wsL_law_r6 (List.mem_of_getElem? (i := 11) rfl)
theorem co_yX3_append : (Cond.code yX3_append cX3_append 2 none : Cond) ∈ wsL_law := up_wsL_law_r6 (List.mem_of_getElem? (i := 12) rfl)
theorem fl_X3_15 : (Cond.fieldLink RX3 15 "CosetTable$Word" "length" "I" : Cond) ∈ wsL_law := up_wsL_law_r6 (List.mem_of_getElem? (i := 13) rfl)
theorem ml_L_21 : (Cond.methodLink RL 21 yX6_letter : Cond) ∈ wsL_law := up_wsL_law_r6 (List.mem_of_getElem? (i := 14) rfl)
theorem im_yX6_letter : (Cond.instanceMethod yX6_letter : Cond) ∈ wsL_law := up_wsL_law_r6 (List.mem_of_getElem? (i := 15) rfl)
theorem se_yX6_letter : (Cond.selects RX6 yX6_letter yX6_letter : Cond) ∈ wsL_law := up_wsL_law_r6 (List.mem_of_getElem? (i := 16) rfl)
theorem co_yX6_letter : (Cond.code yX6_letter cX6_letter 2 (some .int) : Cond) ∈ wsL_law := up_wsL_law_r6 (List.mem_of_getElem? (i := 17) rfl)
theorem ml_X6_61 : (Cond.methodLink RX6 61 yX6_isLetter : Cond) ∈ wsL_law := up_wsL_law_r6 (List.mem_of_getElem? (i := 18) rfl)
theorem im_yX6_isLetter : (Cond.instanceMethod yX6_isLetter : Cond) ∈ wsL_law := up_wsL_law_r6 (List.mem_of_getElem? (i := 19) rfl)
theorem se_yX6_isLetter : (Cond.selects RX6 yX6_isLetter yX6_isLetter : Cond) ∈ wsL_law := up_wsL_law_r6 (List.mem_of_getElem? (i := 20) rfl)
theorem co_yX6_isLetter : (Cond.code yX6_isLetter cX6_isLetter 2 (some .boolean) : Cond) ∈ wsL_law := up_wsL_law_r6 (List.mem_of_getElem? (i := 21) rfl)
theorem ml_X6_65 : (Cond.methodLink RX6 65 yX6_column : Cond) ∈ wsL_law := up_wsL_law_r6 (List.mem_of_getElem? (i := 22) rfl)
theorem st_yX6_column : (Cond.static yX6_column : Cond) ∈ wsL_law := up_wsL_law_r6 (List.mem_of_getElem? (i := 23) rfl)
theorem co_yX6_column : (Cond.code yX6_column cX6_column 1 (some .int) : Cond) ∈ wsL_law := up_wsL_law_r7 (List.mem_of_getElem? (i := 0) rfl)
theorem ml_L_22 : (Cond.methodLink RL 22 yX5_clear : Cond) ∈ wsL_law := up_wsL_law_r7 (List.mem_of_getElem? (i := 1) rfl)
theorem im_yX5_clear : (Cond.instanceMethod yX5_clear : Cond) ∈ wsL_law := up_wsL_law_r7 (List.mem_of_getElem? (i := 2) rfl)
theorem se_yX5_clear : (Cond.selects RX5 yX5_clear yX5_clear : Cond) ∈ wsL_law := up_wsL_law_r7 (List.mem_of_getElem? (i := 3) rfl)
theorem co_yX5_clear : (Cond.code yX5_clear cX5_clear 2 (some .int) : Cond) ∈ wsL_law := up_wsL_law_r7 (List.mem_of_getElem? (i := 4) rfl)
theorem ml_L_26 : (Cond.methodLink RL 26 yX6_clear : Cond) ∈ wsL_law := up_wsL_law_r7 (List.mem_of_getElem? (i := 5) rfl)
theorem im_yX6_clear : (Cond.instanceMethod yX6_clear : Cond) ∈ wsL_law := up_wsL_law_r7 (List.mem_of_getElem? (i := 6) rfl)
theorem se_yX6_clear : (Cond.selects RX6 yX6_clear yX6_clear : Cond) ∈ wsL_law := up_wsL_law_r7 (List.mem_of_getElem? (i := 7) rfl)
theorem co_yX6_clear : (Cond.code yX6_clear cX6_clear 2 (some .int) : Cond) ∈ wsL_law := up_wsL_law_r7 (List.mem_of_getElem? (i := 8) rfl)
theorem ml_L_27 : (Cond.methodLink RL 27 yX5_relator : Cond) ∈ wsL_law := up_wsL_law_r7 (List.mem_of_getElem? (i := 9) rfl)
theorem im_yX5_relator : (Cond.instanceMethod yX5_relator : Cond) ∈ wsL_law := up_wsL_law_r7 (List.mem_of_getElem? (i := 10) rfl)
theorem se_yX5_relator : (Cond.selects RX5 yX5_relator yX5_relator : Cond) ∈ wsL_law := up_wsL_law_r7 (List.mem_of_getElem? (i := 11) rfl)
theorem co_yX5_relator : (Cond.code yX5_relator cX5_relator 1 (some .int) : Cond) ∈ wsL_law := up_wsL_law_r7 (List.mem_of_getElem? (i := 12) rfl)
theorem ml_X5_77 : (Cond.methodLink RX5 77 yX5_giveHandTo : Cond) ∈ wsL_law := up_wsL_law_r7 (List.mem_of_getElem? (i := 13) rfl)
theorem im_yX5_giveHandTo : (Cond.instanceMethod yX5_giveHandTo : Cond) ∈ wsL_law := up_wsL_law_r7 (List.mem_of_getElem? (i := 14) rfl)
theorem se_yX5_giveHandTo : (Cond.selects RX5 yX5_giveHandTo yX5_giveHandTo : Cond) ∈ wsL_law := up_wsL_law_r7 (List.mem_of_getElem? (i := 15) rfl)
theorem co_yX5_giveHandTo : (Cond.code yX5_giveHandTo cX5_giveHandTo 2 (some .int) : Cond) ∈ wsL_law := up_wsL_law_r7 (List.mem_of_getElem? (i := 16) rfl)
theorem ml_X5_148 : (Cond.methodLink RX5 148 yX4_isFull : Cond) ∈ wsL_law := up_wsL_law_r7 (List.mem_of_getElem? (i := 17) rfl)
theorem im_yX4_isFull : (Cond.instanceMethod yX4_isFull : Cond) ∈ wsL_law := up_wsL_law_r7 (List.mem_of_getElem? (i := 18) rfl)
theorem se_yX4_isFull : (Cond.selects RX4 yX4_isFull yX4_isFull : Cond) ∈ wsL_law := up_wsL_law_r7 (List.mem_of_getElem? (i := 19) rfl)
theorem co_yX4_isFull : (Cond.code yX4_isFull cX4_isFull 1 (some .boolean) : Cond) ∈ wsL_law := up_wsL_law_r7 (List.mem_of_getElem? (i := 20) rfl)
theorem fl_X4_16 : (Cond.fieldLink RX4 16 "CosetTable$WordList" "size" "I" : Cond) ∈ wsL_law := up_wsL_law_r7 (List.mem_of_getElem? (i := 21) rfl)
theorem ml_X5_151 : (Cond.methodLink RX5 151 yX4_add : Cond) ∈ wsL_law := up_wsL_law_r7 (List.mem_of_getElem? (i := 22) rfl)
theorem im_yX4_add : (Cond.instanceMethod yX4_add : Cond) ∈ wsL_law := up_wsL_law_r7 (List.mem_of_getElem? (i := 23) rfl)
theorem se_yX4_add : (Cond.selects RX4 yX4_add yX4_add : Cond) ∈ wsL_law := up_wsL_law_r8 (List.mem_of_getElem? (i := 0) rfl)
theorem co_yX4_add : (Cond.code yX4_add cX4_add 2 none : Cond) ∈ wsL_law := up_wsL_law_r8 (List.mem_of_getElem? (i := 1) rfl)
theorem ml_X4_20 : (Cond.methodLink RX4 20 yX3_copyFrom : Cond) ∈ wsL_law := up_wsL_law_r8 (List.mem_of_getElem? (i := 2) rfl)
theorem im_yX3_copyFrom : (Cond.instanceMethod yX3_copyFrom : Cond) ∈ wsL_law := up_wsL_law_r8 (List.mem_of_getElem? (i := 3) rfl)
theorem se_yX3_copyFrom : (Cond.selects RX3 yX3_copyFrom yX3_copyFrom : Cond) ∈ wsL_law := up_wsL_law_r8 (List.mem_of_getElem? (i := 4) rfl)
theorem co_yX3_copyFrom : (Cond.code yX3_copyFrom cX3_copyFrom 2 none : Cond) ∈ wsL_law := up_wsL_law_r8 (List.mem_of_getElem? (i := 5) rfl)
theorem ml_X3_19 : (Cond.methodLink RX3 19 arraycopyName : Cond) ∈ wsL_law := up_wsL_law_r8 (List.mem_of_getElem? (i := 6) rfl)
theorem na_arraycopyName : (Cond.native arraycopyName : Cond) ∈ wsL_law := up_wsL_law_r8 (List.mem_of_getElem? (i := 7) rfl)
theorem st_arraycopyName : (Cond.static arraycopyName : Cond) ∈ wsL_law := up_wsL_law_r8 (List.mem_of_getElem? (i := 8) rfl)
theorem in_java_lang_System : (Cond.initialized "java/lang/System" : Cond) ∈ wsL_law := up_wsL_law_r8 (List.mem_of_getElem? (i := 9) rfl)
theorem ml_L_30 : (Cond.methodLink RL 30 yX6_relator : Cond) ∈ wsL_law := up_wsL_law_r8 (List.mem_of_getElem? (i := 10) rfl)
theorem im_yX6_relator : (Cond.instanceMethod yX6_relator : Cond) ∈ wsL_law := up_wsL_law_r8 (List.mem_of_getElem? (i := 11) rfl)
theorem se_yX6_relator : (Cond.selects RX6 yX6_relator yX6_relator : Cond) ∈ wsL_law := up_wsL_law_r8 (List.mem_of_getElem? (i := 12) rfl)
theorem co_yX6_relator : (Cond.code yX6_relator cX6_relator 1 (some .int) : Cond) ∈ wsL_law := up_wsL_law_r8 (List.mem_of_getElem? (i := 13) rfl)
theorem ml_X6_68 : (Cond.methodLink RX6 68 yX6_become : Cond) ∈ wsL_law := up_wsL_law_r8 (List.mem_of_getElem? (i := 14) rfl)
theorem im_yX6_become : (Cond.instanceMethod yX6_become : Cond) ∈ wsL_law := up_wsL_law_r8 (List.mem_of_getElem? (i := 15) rfl)
theorem se_yX6_become : (Cond.selects RX6 yX6_become yX6_become : Cond) ∈ wsL_law := up_wsL_law_r8 (List.mem_of_getElem? (i := 16) rfl)
theorem co_yX6_become : (Cond.code yX6_become cX6_become 3 none : Cond) ∈ wsL_law := up_wsL_law_r8 (List.mem_of_getElem? (i := 17) rfl)
theorem ml_L_31 : (Cond.methodLink RL 31 yX5_subgroup : Cond) ∈ wsL_law := up_wsL_law_r8 (List.mem_of_getElem? (i := 18) rfl)
theorem im_yX5_subgroup : (Cond.instanceMethod yX5_subgroup : Cond) ∈ wsL_law := up_wsL_law_r8 (List.mem_of_getElem? (i := 19) rfl)
theorem se_yX5_subgroup : (Cond.selects RX5 yX5_subgroup yX5_subgroup : Cond) ∈ wsL_law := up_wsL_law_r8 (List.mem_of_getElem? (i := 20) rfl)
theorem co_yX5_subgroup : (Cond.code yX5_subgroup cX5_subgroup 1 (some .int) : Cond) ∈ wsL_law := up_wsL_law_r8 (List.mem_of_getElem? (i := 21) rfl)
theorem ml_L_34 : (Cond.methodLink RL 34 yX6_subgroup : Cond) ∈ wsL_law := up_wsL_law_r8 (List.mem_of_getElem? (i := 22) rfl)
theorem im_yX6_subgroup : (Cond.instanceMethod yX6_subgroup : Cond) ∈ wsL_law := up_wsL_law_r8 (List.mem_of_getElem? (i := 23) rfl)
theorem se_yX6_subgroup : (Cond.selects RX6 yX6_subgroup yX6_subgroup : Cond) ∈ wsL_law := up_wsL_law_r9 (List.mem_of_getElem? (i := 0) rfl)
theorem co_yX6_subgroup : (Cond.code yX6_subgroup cX6_subgroup 1 (some .int) : Cond) ∈ wsL_law := up_wsL_law_r9 (List.mem_of_getElem? (i := 1) rfl)
theorem ml_L_35 : (Cond.methodLink RL 35 yX5_run : Cond) ∈ wsL_law := up_wsL_law_r9 (List.mem_of_getElem? (i := 2) rfl)
theorem im_yX5_run : (Cond.instanceMethod yX5_run : Cond) ∈ wsL_law := up_wsL_law_r9 (List.mem_of_getElem? (i := 3) rfl)
theorem se_yX5_run : (Cond.selects RX5 yX5_run yX5_run : Cond) ∈ wsL_law := up_wsL_law_r9 (List.mem_of_getElem? (i := 4) rfl)
theorem co_yX5_run : (Cond.code yX5_run cX5_run 3 (some .int) : Cond) ∈ wsL_law := up_wsL_law_r9 (List.mem_of_getElem? (i := 5) rfl)
theorem ml_X5_81 : (Cond.methodLink RX5 81 yX2_drawFrom : Cond) ∈ wsL_law := up_wsL_law_r9 (List.mem_of_getElem? (i := 6) rfl)
theorem im_yX2_drawFrom : (Cond.instanceMethod yX2_drawFrom : Cond) ∈ wsL_law := up_wsL_law_r9 (List.mem_of_getElem? (i := 7) rfl)
theorem se_yX2_drawFrom : (Cond.selects RX2 yX2_drawFrom yX2_drawFrom : Cond) ∈ wsL_law := up_wsL_law_r9 (List.mem_of_getElem? (i := 8) rfl)
theorem co_yX2_drawFrom : (Cond.code yX2_drawFrom cX2_drawFrom 5 none : Cond) ∈ wsL_law := up_wsL_law_r9 (List.mem_of_getElem? (i := 9) rfl)
theorem cn_X2_45 : (Cond.constant RX2 45 (1000000) : Cond) ∈ wsL_law := up_wsL_law_r9 (List.mem_of_getElem? (i := 10) rfl)
theorem ml_X2_28 : (Cond.methodLink RX2 28 yX1_lives : Cond) ∈ wsL_law := up_wsL_law_r9 (List.mem_of_getElem? (i := 11) rfl)
theorem im_yX1_lives : (Cond.instanceMethod yX1_lives : Cond) ∈ wsL_law := up_wsL_law_r9 (List.mem_of_getElem? (i := 12) rfl)
theorem se_yX1_lives : (Cond.selects RX1 yX1_lives yX1_lives : Cond) ∈ wsL_law := up_wsL_law_r9 (List.mem_of_getElem? (i := 13) rfl)
theorem co_yX1_lives : (Cond.code yX1_lives cX1_lives 2 (some .boolean) : Cond) ∈ wsL_law := up_wsL_law_r9 (List.mem_of_getElem? (i := 14) rfl)
theorem ml_X2_38 : (Cond.methodLink RX2 38 yX2_close : Cond) ∈ wsL_law := up_wsL_law_r9 (List.mem_of_getElem? (i := 15) rfl)
theorem im_yX2_close : (Cond.instanceMethod yX2_close : Cond) ∈ wsL_law := up_wsL_law_r9 (List.mem_of_getElem? (i := 16) rfl)
theorem se_yX2_close : (Cond.selects RX2 yX2_close yX2_close : Cond) ∈ wsL_law := up_wsL_law_r9 (List.mem_of_getElem? (i := 17) rfl)
theorem co_yX2_close : (Cond.code yX2_close cX2_close 9 none : Cond) ∈ wsL_law := up_wsL_law_r9 (List.mem_of_getElem? (i := 18) rfl)
theorem ml_X2_70 : (Cond.methodLink RX2 70 yX3_around : Cond) ∈ wsL_law := up_wsL_law_r9 (List.mem_of_getElem? (i := 19) rfl)
theorem im_yX3_around : (Cond.instanceMethod yX3_around : Cond) ∈ wsL_law := up_wsL_law_r9 (List.mem_of_getElem? (i := 20) rfl)
theorem se_yX3_around : (Cond.selects RX3 yX3_around yX3_around : Cond) ∈ wsL_law := up_wsL_law_r9 (List.mem_of_getElem? (i := 21) rfl)
theorem co_yX3_around : (Cond.code yX3_around cX3_around 2 (some .int) : Cond) ∈ wsL_law := up_wsL_law_r9 (List.mem_of_getElem? (i := 22) rfl)
theorem ml_X2_62 : (Cond.methodLink RX2 62 yX1_at : Cond) ∈ wsL_law := up_wsL_law_r9 (List.mem_of_getElem? (i := 23) rfl)
theorem im_yX1_at : (Cond.instanceMethod yX1_at : Cond) ∈ wsL_law := up_wsL_law_r10 (List.mem_of_getElem? (i := 0) rfl)
theorem se_yX1_at : (Cond.selects RX1 yX1_at yX1_at : Cond) ∈ wsL_law := up_wsL_law_r10 (List.mem_of_getElem? (i := 1) rfl)
theorem co_yX1_at : (Cond.code yX1_at cX1_at 3 (some .int) : Cond) ∈ wsL_law := up_wsL_law_r10 (List.mem_of_getElem? (i := 2) rfl)
theorem ml_X2_74 : (Cond.methodLink RX2 74 yX1_unite : Cond) ∈ wsL_law := up_wsL_law_r10 (List.mem_of_getElem? (i := 3) rfl)
theorem im_yX1_unite : (Cond.instanceMethod yX1_unite : Cond) ∈ wsL_law := up_wsL_law_r10 (List.mem_of_getElem? (i := 4) rfl)
theorem se_yX1_unite : (Cond.selects RX1 yX1_unite yX1_unite : Cond) ∈ wsL_law := up_wsL_law_r10 (List.mem_of_getElem? (i := 5) rfl)
theorem co_yX1_unite : (Cond.code yX1_unite cX1_unite 4 none : Cond) ∈ wsL_law := up_wsL_law_r10 (List.mem_of_getElem? (i := 6) rfl)
theorem fl_X1_59 : (Cond.fieldLink RX1 59 "CosetTable$Cosets" "fallenCount" "I" : Cond) ∈ wsL_law := up_wsL_law_r10 (List.mem_of_getElem? (i := 7) rfl)
theorem ml_X1_62 : (Cond.methodLink RX1 62 yX1_fall : Cond) ∈ wsL_law := up_wsL_law_r10 (List.mem_of_getElem? (i := 8) rfl)
theorem im_yX1_fall : (Cond.instanceMethod yX1_fall : Cond) ∈ wsL_law := up_wsL_law_r10 (List.mem_of_getElem? (i := 9) rfl)
theorem se_yX1_fall : (Cond.selects RX1 yX1_fall yX1_fall : Cond) ∈ wsL_law := up_wsL_law_r10 (List.mem_of_getElem? (i := 10) rfl)
theorem co_yX1_fall : (Cond.code yX1_fall cX1_fall 6 none : Cond) ∈ wsL_law := up_wsL_law_r10 (List.mem_of_getElem? (i := 11) rfl)
theorem ml_X1_66 : (Cond.methodLink RX1 66 yX1_handOver : Cond) ∈ wsL_law := up_wsL_law_r10 (List.mem_of_getElem? (i := 12) rfl)
theorem im_yX1_handOver : (Cond.instanceMethod yX1_handOver : Cond) ∈ wsL_law := up_wsL_law_r10 (List.mem_of_getElem? (i := 13) rfl)
theorem se_yX1_handOver : (Cond.selects RX1 yX1_handOver yX1_handOver : Cond) ∈ wsL_law := up_wsL_law_r10 (List.mem_of_getElem? (i := 14) rfl)
theorem co_yX1_handOver : (Cond.code yX1_handOver cX1_handOver 6 none : Cond) ∈ wsL_law := up_wsL_law_r10 (List.mem_of_getElem? (i := 15) rfl)
theorem ml_X1_70 : (Cond.methodLink RX1 70 yX1_at : Cond) ∈ wsL_law := up_wsL_law_r10 (List.mem_of_getElem? (i := 16) rfl)
theorem ml_X1_52 : (Cond.methodLink RX1 52 yX1_join : Cond) ∈ wsL_law := up_wsL_law_r10 (List.mem_of_getElem? (i := 17) rfl)
theorem im_yX1_join : (Cond.instanceMethod yX1_join : Cond) ∈ wsL_law := up_wsL_law_r10 (List.mem_of_getElem? (i := 18) rfl)
theorem se_yX1_join : (Cond.selects RX1 yX1_join yX1_join : Cond) ∈ wsL_law := up_wsL_law_r10 (List.mem_of_getElem? (i := 19) rfl)
theorem co_yX1_join : (Cond.code yX1_join cX1_join 5 none : Cond) ∈ wsL_law := up_wsL_law_r10 (List.mem_of_getElem? (i := 20) rfl)
theorem fl_X1_56 : (Cond.fieldLink RX1 56 "CosetTable$Cosets" "freshCount" "I" : Cond) ∈ wsL_law := up_wsL_law_r10 (List.mem_of_getElem? (i := 21) rfl)
theorem ml_X2_78 : (Cond.methodLink RX2 78 yX1_join : Cond) ∈ wsL_law := up_wsL_law_r10 (List.mem_of_getElem? (i := 22) rfl)
theorem ml_X2_42 : (Cond.methodLink RX2 42 yX2_drawFromSubgroup : Cond) ∈ wsL_law := up_wsL_law_r10 (List.mem_of_getElem? (i := 23) rfl)
theorem im_yX2_drawFromSubgroup : (Cond.instanceMethod yX2_drawFromSubgroup : Cond) ∈ wsL_law := up_wsL_law_r11 (List.mem_of_getElem? (i := 0) rfl)
theorem se_yX2_drawFromSubgroup : (Cond.selects RX2 yX2_drawFromSubgroup yX2_drawFromSubgroup : Cond) ∈ wsL_law := up_wsL_law_r11 (List.mem_of_getElem? (i := 1) rfl)
theorem co_yX2_drawFromSubgroup : (Cond.code yX2_drawFromSubgroup cX2_drawFromSubgroup 2 none : Cond) ∈ wsL_law := up_wsL_law_r11 (List.mem_of_getElem? (i := 2) rfl)
theorem ml_X2_49 : (Cond.methodLink RX2 49 yX1_takeFresh : Cond) ∈ wsL_law := up_wsL_law_r11 (List.mem_of_getElem? (i := 3) rfl)
theorem im_yX1_takeFresh : (Cond.instanceMethod yX1_takeFresh : Cond) ∈ wsL_law := up_wsL_law_r11 (List.mem_of_getElem? (i := 4) rfl)
theorem se_yX1_takeFresh : (Cond.selects RX1 yX1_takeFresh yX1_takeFresh : Cond) ∈ wsL_law := up_wsL_law_r11 (List.mem_of_getElem? (i := 5) rfl)
theorem co_yX1_takeFresh : (Cond.code yX1_takeFresh cX1_takeFresh 1 (some .int) : Cond) ∈ wsL_law := up_wsL_law_r11 (List.mem_of_getElem? (i := 6) rfl)
theorem ml_X2_53 : (Cond.methodLink RX2 53 yX2_drawThrough : Cond) ∈ wsL_law := up_wsL_law_r11 (List.mem_of_getElem? (i := 7) rfl)
theorem im_yX2_drawThrough : (Cond.instanceMethod yX2_drawThrough : Cond) ∈ wsL_law := up_wsL_law_r11 (List.mem_of_getElem? (i := 8) rfl)
theorem se_yX2_drawThrough : (Cond.selects RX2 yX2_drawThrough yX2_drawThrough : Cond) ∈ wsL_law := up_wsL_law_r11 (List.mem_of_getElem? (i := 9) rfl)
theorem co_yX2_drawThrough : (Cond.code yX2_drawThrough cX2_drawThrough 6 none : Cond) ∈ wsL_law := up_wsL_law_r11 (List.mem_of_getElem? (i := 10) rfl)
theorem ml_X5_87 : (Cond.methodLink RX5 87 yX1_findOpen : Cond) ∈ wsL_law := up_wsL_law_r11 (List.mem_of_getElem? (i := 11) rfl)
theorem im_yX1_findOpen : (Cond.instanceMethod yX1_findOpen : Cond) ∈ wsL_law := up_wsL_law_r11 (List.mem_of_getElem? (i := 12) rfl)
theorem se_yX1_findOpen : (Cond.selects RX1 yX1_findOpen yX1_findOpen : Cond) ∈ wsL_law := up_wsL_law_r11 (List.mem_of_getElem? (i := 13) rfl)
theorem co_yX1_findOpen : (Cond.code yX1_findOpen cX1_findOpen 1 (some .boolean) : Cond) ∈ wsL_law := up_wsL_law_r11 (List.mem_of_getElem? (i := 14) rfl)
theorem ml_X1_45 : (Cond.methodLink RX1 45 yX1_isOpen : Cond) ∈ wsL_law := up_wsL_law_r11 (List.mem_of_getElem? (i := 15) rfl)
theorem im_yX1_isOpen : (Cond.instanceMethod yX1_isOpen : Cond) ∈ wsL_law := up_wsL_law_r11 (List.mem_of_getElem? (i := 16) rfl)
theorem se_yX1_isOpen : (Cond.selects RX1 yX1_isOpen yX1_isOpen : Cond) ∈ wsL_law := up_wsL_law_r11 (List.mem_of_getElem? (i := 17) rfl)
theorem co_yX1_isOpen : (Cond.code yX1_isOpen cX1_isOpen 2 (some .boolean) : Cond) ∈ wsL_law := up_wsL_law_r11 (List.mem_of_getElem? (i := 18) rfl)
theorem ml_X1_49 : (Cond.methodLink RX1 49 yX1_lives : Cond) ∈ wsL_law := up_wsL_law_r11 (List.mem_of_getElem? (i := 19) rfl)
theorem ml_X5_91 : (Cond.methodLink RX5 91 yX1_makeNeighbour : Cond) ∈ wsL_law := up_wsL_law_r11 (List.mem_of_getElem? (i := 20) rfl)
theorem im_yX1_makeNeighbour : (Cond.instanceMethod yX1_makeNeighbour : Cond) ∈ wsL_law := up_wsL_law_r11 (List.mem_of_getElem? (i := 21) rfl)
theorem se_yX1_makeNeighbour : (Cond.selects RX1 yX1_makeNeighbour yX1_makeNeighbour : Cond) ∈ wsL_law := up_wsL_law_r11 (List.mem_of_getElem? (i := 22) rfl)
theorem co_yX1_makeNeighbour : (Cond.code yX1_makeNeighbour cX1_makeNeighbour 2 (some .int) : Cond) ∈ wsL_law := up_wsL_law_r11 (List.mem_of_getElem? (i := 23) rfl)
theorem ml_X5_95 : (Cond.methodLink RX5 95 yX0_giveNumbers : Cond) ∈ wsL_law := up_wsL_law_r12 (List.mem_of_getElem? (i := 0) rfl)
theorem im_yX0_giveNumbers : (Cond.instanceMethod yX0_giveNumbers : Cond) ∈ wsL_law := up_wsL_law_r12 (List.mem_of_getElem? (i := 1) rfl)
theorem se_yX0_giveNumbers : (Cond.selects RX0 yX0_giveNumbers yX0_giveNumbers : Cond) ∈ wsL_law := up_wsL_law_r12 (List.mem_of_getElem? (i := 2) rfl)
theorem co_yX0_giveNumbers : (Cond.code yX0_giveNumbers cX0_giveNumbers 3 none : Cond) ∈ wsL_law := up_wsL_law_r12 (List.mem_of_getElem? (i := 3) rfl)
theorem fl_X0_33 : (Cond.fieldLink RX0 33 "CosetTable$Action" "size" "I" : Cond) ∈ wsL_law := up_wsL_law_r12 (List.mem_of_getElem? (i := 4) rfl)
theorem ml_X0_37 : (Cond.methodLink RX0 37 yJ7_fill_53178 : Cond) ∈ wsL_law := up_wsL_law_r12 (List.mem_of_getElem? (i := 5) rfl)
theorem st_yJ7_fill_53178 : (Cond.static yJ7_fill_53178 : Cond) ∈ wsL_law := up_wsL_law_r12 (List.mem_of_getElem? (i := 6) rfl)
theorem in_J7 : (Cond.initialized RJ7 : Cond) ∈ wsL_law := up_wsL_law_r12 (List.mem_of_getElem? (i := 7) rfl)
theorem co_yJ7_fill_53178 : (Cond.code yJ7_fill_53178 cJ7_fill_53178 4 none : Cond) ∈ wsL_law := up_wsL_law_r12 (List.mem_of_getElem? (i := 8) rfl)
theorem ml_X0_43 : (Cond.methodLink RX0 43 yX0_giveNextNumber : Cond) ∈ wsL_law := up_wsL_law_r12 (List.mem_of_getElem? (i := 9) rfl)
theorem im_yX0_giveNextNumber : (Cond.instanceMethod yX0_giveNextNumber : Cond) ∈ wsL_law := up_wsL_law_r12 (List.mem_of_getElem? (i := 10) rfl)
theorem se_yX0_giveNextNumber : (Cond.selects RX0 yX0_giveNextNumber yX0_giveNextNumber : Cond) ∈ wsL_law := up_wsL_law_r12 (List.mem_of_getElem? (i := 11) rfl)
theorem co_yX0_giveNextNumber : (Cond.code yX0_giveNextNumber cX0_giveNextNumber 2 none : Cond) ∈ wsL_law := up_wsL_law_r12 (List.mem_of_getElem? (i := 12) rfl)
theorem ml_X0_52 : (Cond.methodLink RX0 52 yX1_at : Cond) ∈ wsL_law := up_wsL_law_r12 (List.mem_of_getElem? (i := 13) rfl)
theorem ml_L_38 : (Cond.methodLink RL 38 yX6_run : Cond) ∈ wsL_law := up_wsL_law_r12 (List.mem_of_getElem? (i := 14) rfl)
theorem im_yX6_run : (Cond.instanceMethod yX6_run : Cond) ∈ wsL_law := up_wsL_law_r12 (List.mem_of_getElem? (i := 15) rfl)
theorem se_yX6_run : (Cond.selects RX6 yX6_run yX6_run : Cond) ∈ wsL_law := up_wsL_law_r12 (List.mem_of_getElem? (i := 16) rfl)
theorem co_yX6_run : (Cond.code yX6_run cX6_run 3 (some .int) : Cond) ∈ wsL_law := up_wsL_law_r12 (List.mem_of_getElem? (i := 17) rfl)
theorem ml_X6_96 : (Cond.methodLink RX6 96 yX6_follow : Cond) ∈ wsL_law := up_wsL_law_r12 (List.mem_of_getElem? (i := 18) rfl)
theorem im_yX6_follow : (Cond.instanceMethod yX6_follow : Cond) ∈ wsL_law := up_wsL_law_r12 (List.mem_of_getElem? (i := 19) rfl)
theorem se_yX6_follow : (Cond.selects RX6 yX6_follow yX6_follow : Cond) ∈ wsL_law := up_wsL_law_r12 (List.mem_of_getElem? (i := 20) rfl)
theorem co_yX6_follow : (Cond.code yX6_follow cX6_follow 3 none : Cond) ∈ wsL_law := up_wsL_law_r12 (List.mem_of_getElem? (i := 21) rfl)
theorem fl_X6_78 : (Cond.fieldLink RX6 78 "CosetTableModel" "changed" "Z" : Cond) ∈ wsL_law := up_wsL_law_r12 (List.mem_of_getElem? (i := 22) rfl)
theorem ml_X6_93 : (Cond.methodLink RX6 93 yX6_attempt : Cond) ∈ wsL_law := up_wsL_law_r12 (List.mem_of_getElem? (i := 23) rfl)
theorem im_yX6_attempt : (Cond.instanceMethod yX6_attempt : Cond) ∈ wsL_law := up_wsL_law_r13 (List.mem_of_getElem? (i := 0) rfl)
theorem se_yX6_attempt : (Cond.selects RX6 yX6_attempt yX6_attempt : Cond) ∈ wsL_law := up_wsL_law_r13 (List.mem_of_getElem? (i := 1) rfl)
theorem co_yX6_attempt : (Cond.code yX6_attempt cX6_attempt 9 none : Cond) ∈ wsL_law := up_wsL_law_r13 (List.mem_of_getElem? (i := 2) rfl)
theorem ml_X6_82 : (Cond.methodLink RX6 82 yX6_pair : Cond) ∈ wsL_law := up_wsL_law_r13 (List.mem_of_getElem? (i := 3) rfl)
theorem im_yX6_pair : (Cond.instanceMethod yX6_pair : Cond) ∈ wsL_law := up_wsL_law_r13 (List.mem_of_getElem? (i := 4) rfl)
theorem se_yX6_pair : (Cond.selects RX6 yX6_pair yX6_pair : Cond) ∈ wsL_law := up_wsL_law_r13 (List.mem_of_getElem? (i := 5) rfl)
theorem co_yX6_pair : (Cond.code yX6_pair cX6_pair 3 none : Cond) ∈ wsL_law := up_wsL_law_r13 (List.mem_of_getElem? (i := 6) rfl)
theorem fl_X6_72 : (Cond.fieldLink RX6 72 "CosetTableModel" "pairs" "I" : Cond) ∈ wsL_law := up_wsL_law_r13 (List.mem_of_getElem? (i := 7) rfl)
theorem ml_X6_90 : (Cond.methodLink RX6 90 yX6_join : Cond) ∈ wsL_law := up_wsL_law_r13 (List.mem_of_getElem? (i := 8) rfl)
theorem im_yX6_join : (Cond.instanceMethod yX6_join : Cond) ∈ wsL_law := up_wsL_law_r13 (List.mem_of_getElem? (i := 9) rfl)
theorem se_yX6_join : (Cond.selects RX6 yX6_join yX6_join : Cond) ∈ wsL_law := up_wsL_law_r13 (List.mem_of_getElem? (i := 10) rfl)
theorem co_yX6_join : (Cond.code yX6_join cX6_join 7 none : Cond) ∈ wsL_law := up_wsL_law_r13 (List.mem_of_getElem? (i := 11) rfl)
theorem ml_X6_75 : (Cond.methodLink RX6 75 yX6_real : Cond) ∈ wsL_law := up_wsL_law_r13 (List.mem_of_getElem? (i := 12) rfl)
theorem im_yX6_real : (Cond.instanceMethod yX6_real : Cond) ∈ wsL_law := up_wsL_law_r13 (List.mem_of_getElem? (i := 13) rfl)
theorem se_yX6_real : (Cond.selects RX6 yX6_real yX6_real : Cond) ∈ wsL_law := up_wsL_law_r13 (List.mem_of_getElem? (i := 14) rfl)
theorem co_yX6_real : (Cond.code yX6_real cX6_real 3 (some .int) : Cond) ∈ wsL_law := up_wsL_law_r13 (List.mem_of_getElem? (i := 15) rfl)
theorem ml_X6_86 : (Cond.methodLink RX6 86 yX6_learn : Cond) ∈ wsL_law := up_wsL_law_r13 (List.mem_of_getElem? (i := 16) rfl)
theorem im_yX6_learn : (Cond.instanceMethod yX6_learn : Cond) ∈ wsL_law := up_wsL_law_r13 (List.mem_of_getElem? (i := 17) rfl)
theorem se_yX6_learn : (Cond.selects RX6 yX6_learn yX6_learn : Cond) ∈ wsL_law := up_wsL_law_r13 (List.mem_of_getElem? (i := 18) rfl)
theorem co_yX6_learn : (Cond.code yX6_learn cX6_learn 9 none : Cond) ∈ wsL_law := up_wsL_law_r13 (List.mem_of_getElem? (i := 19) rfl)
theorem ml_X6_99 : (Cond.methodLink RX6 99 yX6_open : Cond) ∈ wsL_law := up_wsL_law_r13 (List.mem_of_getElem? (i := 20) rfl)
theorem im_yX6_open : (Cond.instanceMethod yX6_open : Cond) ∈ wsL_law := up_wsL_law_r13 (List.mem_of_getElem? (i := 21) rfl)
theorem se_yX6_open : (Cond.selects RX6 yX6_open yX6_open : Cond) ∈ wsL_law := up_wsL_law_r13 (List.mem_of_getElem? (i := 22) rfl)
theorem co_yX6_open : (Cond.code yX6_open cX6_open 3 (some .int) : Cond) ∈ wsL_law := up_wsL_law_r13 (List.mem_of_getElem? (i := 23) rfl)
theorem ml_L_39 : (Cond.methodLink RL 39 yX5_count : Cond) ∈ wsL_law := up_wsL_law_r14 (List.mem_of_getElem? (i := 0) rfl)
theorem im_yX5_count : (Cond.instanceMethod yX5_count : Cond) ∈ wsL_law := up_wsL_law_r14 (List.mem_of_getElem? (i := 1) rfl)
theorem se_yX5_count : (Cond.selects RX5 yX5_count yX5_count : Cond) ∈ wsL_law := up_wsL_law_r14 (List.mem_of_getElem? (i := 2) rfl)
theorem co_yX5_count : (Cond.code yX5_count cX5_count 2 (some .int) : Cond) ∈ wsL_law := up_wsL_law_r14 (List.mem_of_getElem? (i := 3) rfl)
theorem ml_X5_101 : (Cond.methodLink RX5 101 yX1_countOpen : Cond) ∈ wsL_law := up_wsL_law_r14 (List.mem_of_getElem? (i := 4) rfl)
theorem im_yX1_countOpen : (Cond.instanceMethod yX1_countOpen : Cond) ∈ wsL_law := up_wsL_law_r14 (List.mem_of_getElem? (i := 5) rfl)
theorem se_yX1_countOpen : (Cond.selects RX1 yX1_countOpen yX1_countOpen : Cond) ∈ wsL_law := up_wsL_law_r14 (List.mem_of_getElem? (i := 6) rfl)
theorem co_yX1_countOpen : (Cond.code yX1_countOpen cX1_countOpen 3 (some .int) : Cond) ∈ wsL_law := up_wsL_law_r14 (List.mem_of_getElem? (i := 7) rfl)
theorem ml_X5_104 : (Cond.methodLink RX5 104 yX0_isReady : Cond) ∈ wsL_law := up_wsL_law_r14 (List.mem_of_getElem? (i := 8) rfl)
theorem im_yX0_isReady : (Cond.instanceMethod yX0_isReady : Cond) ∈ wsL_law := up_wsL_law_r14 (List.mem_of_getElem? (i := 9) rfl)
theorem se_yX0_isReady : (Cond.selects RX0 yX0_isReady yX0_isReady : Cond) ∈ wsL_law := up_wsL_law_r14 (List.mem_of_getElem? (i := 10) rfl)
theorem co_yX0_isReady : (Cond.code yX0_isReady cX0_isReady 1 (some .boolean) : Cond) ∈ wsL_law := up_wsL_law_r14 (List.mem_of_getElem? (i := 11) rfl)
theorem ml_L_42 : (Cond.methodLink RL 42 yX6_count : Cond) ∈ wsL_law := up_wsL_law_r14 (List.mem_of_getElem? (i := 12) rfl)
theorem im_yX6_count : (Cond.instanceMethod yX6_count : Cond) ∈ wsL_law := up_wsL_law_r14 (List.mem_of_getElem? (i := 13) rfl)
theorem se_yX6_count : (Cond.selects RX6 yX6_count yX6_count : Cond) ∈ wsL_law := up_wsL_law_r14 (List.mem_of_getElem? (i := 14) rfl)
theorem co_yX6_count : (Cond.code yX6_count cX6_count 2 (some .int) : Cond) ∈ wsL_law := up_wsL_law_r14 (List.mem_of_getElem? (i := 15) rfl)
theorem ml_X6_103 : (Cond.methodLink RX6 103 yX6_cosets : Cond) ∈ wsL_law := up_wsL_law_r14 (List.mem_of_getElem? (i := 16) rfl)
theorem im_yX6_cosets : (Cond.instanceMethod yX6_cosets : Cond) ∈ wsL_law := up_wsL_law_r14 (List.mem_of_getElem? (i := 17) rfl)
theorem se_yX6_cosets : (Cond.selects RX6 yX6_cosets yX6_cosets : Cond) ∈ wsL_law := up_wsL_law_r14 (List.mem_of_getElem? (i := 18) rfl)
theorem co_yX6_cosets : (Cond.code yX6_cosets cX6_cosets 3 (some .int) : Cond) ∈ wsL_law := up_wsL_law_r14 (List.mem_of_getElem? (i := 19) rfl)
theorem ml_X6_106 : (Cond.methodLink RX6 106 yX6_unknown : Cond) ∈ wsL_law := up_wsL_law_r14 (List.mem_of_getElem? (i := 20) rfl)
theorem im_yX6_unknown : (Cond.instanceMethod yX6_unknown : Cond) ∈ wsL_law := up_wsL_law_r14 (List.mem_of_getElem? (i := 21) rfl)
theorem se_yX6_unknown : (Cond.selects RX6 yX6_unknown yX6_unknown : Cond) ∈ wsL_law := up_wsL_law_r14 (List.mem_of_getElem? (i := 22) rfl)
theorem co_yX6_unknown : (Cond.code yX6_unknown cX6_unknown 4 (some .int) : Cond) ∈ wsL_law := up_wsL_law_r14 (List.mem_of_getElem? (i := 23) rfl)
theorem ml_X6_109 : (Cond.methodLink RX6 109 yX6_isComplete : Cond) ∈ wsL_law := up_wsL_law_r15 (List.mem_of_getElem? (i := 0) rfl)
theorem im_yX6_isComplete : (Cond.instanceMethod yX6_isComplete : Cond) ∈ wsL_law := up_wsL_law_r15 (List.mem_of_getElem? (i := 1) rfl)
theorem se_yX6_isComplete : (Cond.selects RX6 yX6_isComplete yX6_isComplete : Cond) ∈ wsL_law := up_wsL_law_r15 (List.mem_of_getElem? (i := 2) rfl)
theorem co_yX6_isComplete : (Cond.code yX6_isComplete cX6_isComplete 1 (some .boolean) : Cond) ∈ wsL_law := up_wsL_law_r15 (List.mem_of_getElem? (i := 3) rfl)
theorem ml_L_43 : (Cond.methodLink RL 43 yX5_known : Cond) ∈ wsL_law := up_wsL_law_r15 (List.mem_of_getElem? (i := 4) rfl)
theorem im_yX5_known : (Cond.instanceMethod yX5_known : Cond) ∈ wsL_law := up_wsL_law_r15 (List.mem_of_getElem? (i := 5) rfl)
theorem se_yX5_known : (Cond.selects RX5 yX5_known yX5_known : Cond) ∈ wsL_law := up_wsL_law_r15 (List.mem_of_getElem? (i := 6) rfl)
theorem co_yX5_known : (Cond.code yX5_known cX5_known 4 (some .int) : Cond) ∈ wsL_law := up_wsL_law_r15 (List.mem_of_getElem? (i := 7) rfl)
theorem ml_X5_108 : (Cond.methodLink RX5 108 yX1_lives : Cond) ∈ wsL_law := up_wsL_law_r15 (List.mem_of_getElem? (i := 8) rfl)
theorem ml_X5_111 : (Cond.methodLink RX5 111 yX1_at : Cond) ∈ wsL_law := up_wsL_law_r15 (List.mem_of_getElem? (i := 9) rfl)
theorem ml_L_47 : (Cond.methodLink RL 47 yX6_known : Cond) ∈ wsL_law := up_wsL_law_r15 (List.mem_of_getElem? (i := 10) rfl)
theorem im_yX6_known : (Cond.instanceMethod yX6_known : Cond) ∈ wsL_law := up_wsL_law_r15 (List.mem_of_getElem? (i := 11) rfl)
theorem se_yX6_known : (Cond.selects RX6 yX6_known yX6_known : Cond) ∈ wsL_law := up_wsL_law_r15 (List.mem_of_getElem? (i := 12) rfl)
theorem co_yX6_known : (Cond.code yX6_known cX6_known 4 (some .int) : Cond) ∈ wsL_law := up_wsL_law_r15 (List.mem_of_getElem? (i := 13) rfl)
theorem ml_X6_113 : (Cond.methodLink RX6 113 yX6_isCoset : Cond) ∈ wsL_law := up_wsL_law_r15 (List.mem_of_getElem? (i := 14) rfl)
theorem im_yX6_isCoset : (Cond.instanceMethod yX6_isCoset : Cond) ∈ wsL_law := up_wsL_law_r15 (List.mem_of_getElem? (i := 15) rfl)
theorem se_yX6_isCoset : (Cond.selects RX6 yX6_isCoset yX6_isCoset : Cond) ∈ wsL_law := up_wsL_law_r15 (List.mem_of_getElem? (i := 16) rfl)
theorem co_yX6_isCoset : (Cond.code yX6_isCoset cX6_isCoset 2 (some .boolean) : Cond) ∈ wsL_law := up_wsL_law_r15 (List.mem_of_getElem? (i := 17) rfl)
theorem ml_L_48 : (Cond.methodLink RL 48 yX5_number : Cond) ∈ wsL_law := up_wsL_law_r15 (List.mem_of_getElem? (i := 18) rfl)
theorem im_yX5_number : (Cond.instanceMethod yX5_number : Cond) ∈ wsL_law := up_wsL_law_r15 (List.mem_of_getElem? (i := 19) rfl)
theorem se_yX5_number : (Cond.selects RX5 yX5_number yX5_number : Cond) ∈ wsL_law := up_wsL_law_r15 (List.mem_of_getElem? (i := 20) rfl)
theorem co_yX5_number : (Cond.code yX5_number cX5_number 2 (some .int) : Cond) ∈ wsL_law := up_wsL_law_r15 (List.mem_of_getElem? (i := 21) rfl)
theorem ml_L_51 : (Cond.methodLink RL 51 yX6_number : Cond) ∈ wsL_law := up_wsL_law_r15 (List.mem_of_getElem? (i := 22) rfl)
theorem im_yX6_number : (Cond.instanceMethod yX6_number : Cond) ∈ wsL_law := up_wsL_law_r15 (List.mem_of_getElem? (i := 23) rfl)
theorem se_yX6_number : (Cond.selects RX6 yX6_number yX6_number : Cond) ∈ wsL_law := up_wsL_law_r16 (List.mem_of_getElem? (i := 0) rfl)
theorem co_yX6_number : (Cond.code yX6_number cX6_number 2 (some .int) : Cond) ∈ wsL_law := up_wsL_law_r16 (List.mem_of_getElem? (i := 1) rfl)
theorem ml_X6_119 : (Cond.methodLink RX6 119 yX6_numberAll : Cond) ∈ wsL_law := up_wsL_law_r16 (List.mem_of_getElem? (i := 2) rfl)
theorem im_yX6_numberAll : (Cond.instanceMethod yX6_numberAll : Cond) ∈ wsL_law := up_wsL_law_r16 (List.mem_of_getElem? (i := 3) rfl)
theorem se_yX6_numberAll : (Cond.selects RX6 yX6_numberAll yX6_numberAll : Cond) ∈ wsL_law := up_wsL_law_r16 (List.mem_of_getElem? (i := 4) rfl)
theorem co_yX6_numberAll : (Cond.code yX6_numberAll cX6_numberAll 4 (some .boolean) : Cond) ∈ wsL_law := up_wsL_law_r16 (List.mem_of_getElem? (i := 5) rfl)
theorem fl_X6_116 : (Cond.fieldLink RX6 116 "CosetTableModel" "numbered" "I" : Cond) ∈ wsL_law := up_wsL_law_r16 (List.mem_of_getElem? (i := 6) rfl)
theorem ml_L_52 : (Cond.methodLink RL 52 yX5_entry : Cond) ∈ wsL_law := up_wsL_law_r16 (List.mem_of_getElem? (i := 7) rfl)
theorem im_yX5_entry : (Cond.instanceMethod yX5_entry : Cond) ∈ wsL_law := up_wsL_law_r16 (List.mem_of_getElem? (i := 8) rfl)
theorem se_yX5_entry : (Cond.selects RX5 yX5_entry yX5_entry : Cond) ∈ wsL_law := up_wsL_law_r16 (List.mem_of_getElem? (i := 9) rfl)
theorem co_yX5_entry : (Cond.code yX5_entry cX5_entry 3 (some .int) : Cond) ∈ wsL_law := up_wsL_law_r16 (List.mem_of_getElem? (i := 10) rfl)
theorem ml_X5_119 : (Cond.methodLink RX5 119 yX0_hasNumber : Cond) ∈ wsL_law := up_wsL_law_r16 (List.mem_of_getElem? (i := 11) rfl)
theorem im_yX0_hasNumber : (Cond.instanceMethod yX0_hasNumber : Cond) ∈ wsL_law := up_wsL_law_r16 (List.mem_of_getElem? (i := 12) rfl)
theorem se_yX0_hasNumber : (Cond.selects RX0 yX0_hasNumber yX0_hasNumber : Cond) ∈ wsL_law := up_wsL_law_r16 (List.mem_of_getElem? (i := 13) rfl)
theorem co_yX0_hasNumber : (Cond.code yX0_hasNumber cX0_hasNumber 2 (some .boolean) : Cond) ∈ wsL_law := up_wsL_law_r16 (List.mem_of_getElem? (i := 14) rfl)
theorem ml_X5_122 : (Cond.methodLink RX5 122 yX0_letterImage : Cond) ∈ wsL_law := up_wsL_law_r16 (List.mem_of_getElem? (i := 15) rfl)
theorem im_yX0_letterImage : (Cond.instanceMethod yX0_letterImage : Cond) ∈ wsL_law := up_wsL_law_r16 (List.mem_of_getElem? (i := 16) rfl)
theorem se_yX0_letterImage : (Cond.selects RX0 yX0_letterImage yX0_letterImage : Cond) ∈ wsL_law := up_wsL_law_r16 (List.mem_of_getElem? (i := 17) rfl)
theorem co_yX0_letterImage : (Cond.code yX0_letterImage cX0_letterImage 3 (some .int) : Cond) ∈ wsL_law := up_wsL_law_r16 (List.mem_of_getElem? (i := 18) rfl)
theorem ml_L_55 : (Cond.methodLink RL 55 yX6_entry : Cond) ∈ wsL_law := up_wsL_law_r16 (List.mem_of_getElem? (i := 19) rfl)
theorem im_yX6_entry : (Cond.instanceMethod yX6_entry : Cond) ∈ wsL_law := up_wsL_law_r16 (List.mem_of_getElem? (i := 20) rfl)
theorem se_yX6_entry : (Cond.selects RX6 yX6_entry yX6_entry : Cond) ∈ wsL_law := up_wsL_law_r16 (List.mem_of_getElem? (i := 21) rfl)
theorem co_yX6_entry : (Cond.code yX6_entry cX6_entry 3 (some .int) : Cond) ∈ wsL_law := up_wsL_law_r16 (List.mem_of_getElem? (i := 22) rfl)
theorem ml_X6_122 : (Cond.methodLink RX6 122 yX6_isNumber : Cond) ∈ wsL_law := up_wsL_law_r16 (List.mem_of_getElem? (i := 23) rfl)
theorem im_yX6_isNumber : (Cond.instanceMethod yX6_isNumber : Cond) ∈ wsL_law := up_wsL_law_r17 (List.mem_of_getElem? (i := 0) rfl)
theorem se_yX6_isNumber : (Cond.selects RX6 yX6_isNumber yX6_isNumber : Cond) ∈ wsL_law := up_wsL_law_r17 (List.mem_of_getElem? (i := 1) rfl)
theorem co_yX6_isNumber : (Cond.code yX6_isNumber cX6_isNumber 2 (some .boolean) : Cond) ∈ wsL_law := up_wsL_law_r17 (List.mem_of_getElem? (i := 2) rfl)
theorem ml_L_56 : (Cond.methodLink RL 56 yX5_move : Cond) ∈ wsL_law := up_wsL_law_r17 (List.mem_of_getElem? (i := 3) rfl)
theorem im_yX5_move : (Cond.instanceMethod yX5_move : Cond) ∈ wsL_law := up_wsL_law_r17 (List.mem_of_getElem? (i := 4) rfl)
theorem se_yX5_move : (Cond.selects RX5 yX5_move yX5_move : Cond) ∈ wsL_law := up_wsL_law_r17 (List.mem_of_getElem? (i := 5) rfl)
theorem co_yX5_move : (Cond.code yX5_move cX5_move 2 (some .int) : Cond) ∈ wsL_law := up_wsL_law_r17 (List.mem_of_getElem? (i := 6) rfl)
theorem ml_X5_125 : (Cond.methodLink RX5 125 yX0_image : Cond) ∈ wsL_law := up_wsL_law_r17 (List.mem_of_getElem? (i := 7) rfl)
theorem im_yX0_image : (Cond.instanceMethod yX0_image : Cond) ∈ wsL_law := up_wsL_law_r17 (List.mem_of_getElem? (i := 8) rfl)
theorem se_yX0_image : (Cond.selects RX0 yX0_image yX0_image : Cond) ∈ wsL_law := up_wsL_law_r17 (List.mem_of_getElem? (i := 9) rfl)
theorem co_yX0_image : (Cond.code yX0_image cX0_image 5 (some .int) : Cond) ∈ wsL_law := up_wsL_law_r17 (List.mem_of_getElem? (i := 10) rfl)
theorem ml_L_59 : (Cond.methodLink RL 59 yX6_move : Cond) ∈ wsL_law := up_wsL_law_r17 (List.mem_of_getElem? (i := 11) rfl)
theorem im_yX6_move : (Cond.instanceMethod yX6_move : Cond) ∈ wsL_law := up_wsL_law_r17 (List.mem_of_getElem? (i := 12) rfl)
theorem se_yX6_move : (Cond.selects RX6 yX6_move yX6_move : Cond) ∈ wsL_law := up_wsL_law_r17 (List.mem_of_getElem? (i := 13) rfl)
theorem co_yX6_move : (Cond.code yX6_move cX6_move 2 (some .int) : Cond) ∈ wsL_law := up_wsL_law_r17 (List.mem_of_getElem? (i := 14) rfl)
theorem ml_X6_125 : (Cond.methodLink RX6 125 yX6_moved : Cond) ∈ wsL_law := up_wsL_law_r17 (List.mem_of_getElem? (i := 15) rfl)
theorem im_yX6_moved : (Cond.instanceMethod yX6_moved : Cond) ∈ wsL_law := up_wsL_law_r17 (List.mem_of_getElem? (i := 16) rfl)
theorem se_yX6_moved : (Cond.selects RX6 yX6_moved yX6_moved : Cond) ∈ wsL_law := up_wsL_law_r17 (List.mem_of_getElem? (i := 17) rfl)
theorem co_yX6_moved : (Cond.code yX6_moved cX6_moved 5 (some .int) : Cond) ∈ wsL_law := up_wsL_law_r17 (List.mem_of_getElem? (i := 18) rfl)
theorem ml_L_60 : (Cond.methodLink RL 60 yX5_cycles : Cond) ∈ wsL_law := up_wsL_law_r17 (List.mem_of_getElem? (i := 19) rfl)
theorem im_yX5_cycles : (Cond.instanceMethod yX5_cycles : Cond) ∈ wsL_law := up_wsL_law_r17 (List.mem_of_getElem? (i := 20) rfl)
theorem se_yX5_cycles : (Cond.selects RX5 yX5_cycles yX5_cycles : Cond) ∈ wsL_law := up_wsL_law_r17 (List.mem_of_getElem? (i := 21) rfl)
theorem co_yX5_cycles : (Cond.code yX5_cycles cX5_cycles 2 (some .int) : Cond) ∈ wsL_law := up_wsL_law_r17 (List.mem_of_getElem? (i := 22) rfl)
theorem ml_X5_129 : (Cond.methodLink RX5 129 yX0_countCycles : Cond) ∈ wsL_law := up_wsL_law_r17 (List.mem_of_getElem? (i := 23) rfl)
theorem im_yX0_countCycles : (Cond.instanceMethod yX0_countCycles : Cond) ∈ wsL_law := up_wsL_law_r18 (List.mem_of_getElem? (i := 0) rfl)
theorem se_yX0_countCycles : (Cond.selects RX0 yX0_countCycles yX0_countCycles : Cond) ∈ wsL_law := up_wsL_law_r18 (List.mem_of_getElem? (i := 1) rfl)
theorem co_yX0_countCycles : (Cond.code yX0_countCycles cX0_countCycles 6 (some .int) : Cond) ∈ wsL_law := up_wsL_law_r18 (List.mem_of_getElem? (i := 2) rfl)
theorem ml_X0_63 : (Cond.methodLink RX0 63 yX0_forgetSeen : Cond) ∈ wsL_law := up_wsL_law_r18 (List.mem_of_getElem? (i := 3) rfl)
theorem im_yX0_forgetSeen : (Cond.instanceMethod yX0_forgetSeen : Cond) ∈ wsL_law := up_wsL_law_r18 (List.mem_of_getElem? (i := 4) rfl)
theorem se_yX0_forgetSeen : (Cond.selects RX0 yX0_forgetSeen yX0_forgetSeen : Cond) ∈ wsL_law := up_wsL_law_r18 (List.mem_of_getElem? (i := 5) rfl)
theorem co_yX0_forgetSeen : (Cond.code yX0_forgetSeen cX0_forgetSeen 2 none : Cond) ∈ wsL_law := up_wsL_law_r18 (List.mem_of_getElem? (i := 6) rfl)
theorem ml_X0_66 : (Cond.methodLink RX0 66 yX0_seeCycle : Cond) ∈ wsL_law := up_wsL_law_r18 (List.mem_of_getElem? (i := 7) rfl)
theorem im_yX0_seeCycle : (Cond.instanceMethod yX0_seeCycle : Cond) ∈ wsL_law := up_wsL_law_r18 (List.mem_of_getElem? (i := 8) rfl)
theorem se_yX0_seeCycle : (Cond.selects RX0 yX0_seeCycle yX0_seeCycle : Cond) ∈ wsL_law := up_wsL_law_r18 (List.mem_of_getElem? (i := 9) rfl)
theorem co_yX0_seeCycle : (Cond.code yX0_seeCycle cX0_seeCycle 5 (some .int) : Cond) ∈ wsL_law := up_wsL_law_r18 (List.mem_of_getElem? (i := 10) rfl)
theorem ml_X0_74 : (Cond.methodLink RX0 74 yX0_image : Cond) ∈ wsL_law := up_wsL_law_r18 (List.mem_of_getElem? (i := 11) rfl)
theorem ml_L_64 : (Cond.methodLink RL 64 yX6_cycles : Cond) ∈ wsL_law := up_wsL_law_r18 (List.mem_of_getElem? (i := 12) rfl)
theorem im_yX6_cycles : (Cond.instanceMethod yX6_cycles : Cond) ∈ wsL_law := up_wsL_law_r18 (List.mem_of_getElem? (i := 13) rfl)
theorem se_yX6_cycles : (Cond.selects RX6 yX6_cycles yX6_cycles : Cond) ∈ wsL_law := up_wsL_law_r18 (List.mem_of_getElem? (i := 14) rfl)
theorem co_yX6_cycles : (Cond.code yX6_cycles cX6_cycles 5 (some .int) : Cond) ∈ wsL_law := up_wsL_law_r18 (List.mem_of_getElem? (i := 15) rfl)
theorem ml_X6_129 : (Cond.methodLink RX6 129 yX6_cycle : Cond) ∈ wsL_law := up_wsL_law_r18 (List.mem_of_getElem? (i := 16) rfl)
theorem im_yX6_cycle : (Cond.instanceMethod yX6_cycle : Cond) ∈ wsL_law := up_wsL_law_r18 (List.mem_of_getElem? (i := 17) rfl)
theorem se_yX6_cycle : (Cond.selects RX6 yX6_cycle yX6_cycle : Cond) ∈ wsL_law := up_wsL_law_r18 (List.mem_of_getElem? (i := 18) rfl)
theorem co_yX6_cycle : (Cond.code yX6_cycle cX6_cycle 4 (some .int) : Cond) ∈ wsL_law := up_wsL_law_r18 (List.mem_of_getElem? (i := 19) rfl)
theorem ml_L_65 : (Cond.methodLink RL 65 yX5_order : Cond) ∈ wsL_law := up_wsL_law_r18 (List.mem_of_getElem? (i := 20) rfl)
theorem im_yX5_order : (Cond.instanceMethod yX5_order : Cond) ∈ wsL_law := up_wsL_law_r18 (List.mem_of_getElem? (i := 21) rfl)
theorem se_yX5_order : (Cond.selects RX5 yX5_order yX5_order : Cond) ∈ wsL_law := up_wsL_law_r18 (List.mem_of_getElem? (i := 22) rfl)
theorem co_yX5_order : (Cond.code yX5_order cX5_order 1 (some .long) : Cond) ∈ wsL_law := up_wsL_law_r18 (List.mem_of_getElem? (i := 23) rfl)
theorem cn_X5_137 : (Cond.constantLong RX5 137 (-1) : Cond) ∈ wsL_law := up_wsL_law_r19 (List.mem_of_getElem? (i := 0) rfl)
theorem ml_X5_133 : (Cond.methodLink RX5 133 yX0_orderOf : Cond) ∈ wsL_law := up_wsL_law_r19 (List.mem_of_getElem? (i := 1) rfl)
theorem im_yX0_orderOf : (Cond.instanceMethod yX0_orderOf : Cond) ∈ wsL_law := up_wsL_law_r19 (List.mem_of_getElem? (i := 2) rfl)
theorem se_yX0_orderOf : (Cond.selects RX0 yX0_orderOf yX0_orderOf : Cond) ∈ wsL_law := up_wsL_law_r19 (List.mem_of_getElem? (i := 3) rfl)
theorem co_yX0_orderOf : (Cond.code yX0_orderOf cX0_orderOf 6 (some .long) : Cond) ∈ wsL_law := up_wsL_law_r19 (List.mem_of_getElem? (i := 4) rfl)
theorem ml_X0_70 : (Cond.methodLink RX0 70 yX0_leastCommonMultiple : Cond) ∈ wsL_law := up_wsL_law_r19 (List.mem_of_getElem? (i := 5) rfl)
theorem st_yX0_leastCommonMultiple : (Cond.static yX0_leastCommonMultiple : Cond) ∈ wsL_law := up_wsL_law_r19 (List.mem_of_getElem? (i := 6) rfl)
theorem co_yX0_leastCommonMultiple : (Cond.code yX0_leastCommonMultiple cX0_leastCommonMultiple 11 (some .long) : Cond) ∈ wsL_law := up_wsL_law_r19 (List.mem_of_getElem? (i := 7) rfl)
theorem cn_X0_94 : (Cond.constant RX0 94 (1000000) : Cond) ∈ wsL_law := up_wsL_law_r19 (List.mem_of_getElem? (i := 8) rfl)
theorem ml_L_69 : (Cond.methodLink RL 69 yX6_order : Cond) ∈ wsL_law := up_wsL_law_r19 (List.mem_of_getElem? (i := 9) rfl)
theorem im_yX6_order : (Cond.instanceMethod yX6_order : Cond) ∈ wsL_law := up_wsL_law_r19 (List.mem_of_getElem? (i := 10) rfl)
theorem se_yX6_order : (Cond.selects RX6 yX6_order yX6_order : Cond) ∈ wsL_law := up_wsL_law_r19 (List.mem_of_getElem? (i := 11) rfl)
theorem co_yX6_order : (Cond.code yX6_order cX6_order 12 (some .long) : Cond) ∈ wsL_law := up_wsL_law_r19 (List.mem_of_getElem? (i := 12) rfl)
theorem cn_X6_132 : (Cond.constantLong RX6 132 (-1) : Cond) ∈ wsL_law := up_wsL_law_r19 (List.mem_of_getElem? (i := 13) rfl)
theorem ml_L_70 : (Cond.methodLink RL 70 yX5_resting : Cond) ∈ wsL_law := up_wsL_law_r19 (List.mem_of_getElem? (i := 14) rfl)
theorem im_yX5_resting : (Cond.instanceMethod yX5_resting : Cond) ∈ wsL_law := up_wsL_law_r19 (List.mem_of_getElem? (i := 15) rfl)
theorem se_yX5_resting : (Cond.selects RX5 yX5_resting yX5_resting : Cond) ∈ wsL_law := up_wsL_law_r19 (List.mem_of_getElem? (i := 16) rfl)
theorem co_yX5_resting : (Cond.code yX5_resting cX5_resting 1 (some .int) : Cond) ∈ wsL_law := up_wsL_law_r19 (List.mem_of_getElem? (i := 17) rfl)
theorem ml_X5_139 : (Cond.methodLink RX5 139 yX0_countResting : Cond) ∈ wsL_law := up_wsL_law_r19 (List.mem_of_getElem? (i := 18) rfl)
theorem im_yX0_countResting : (Cond.instanceMethod yX0_countResting : Cond) ∈ wsL_law := up_wsL_law_r19 (List.mem_of_getElem? (i := 19) rfl)
theorem se_yX0_countResting : (Cond.selects RX0 yX0_countResting yX0_countResting : Cond) ∈ wsL_law := up_wsL_law_r19 (List.mem_of_getElem? (i := 20) rfl)
theorem co_yX0_countResting : (Cond.code yX0_countResting cX0_countResting 3 (some .int) : Cond) ∈ wsL_law := up_wsL_law_r19 (List.mem_of_getElem? (i := 21) rfl)
theorem ml_X0_78 : (Cond.methodLink RX0 78 yX0_rests : Cond) ∈ wsL_law := up_wsL_law_r19 (List.mem_of_getElem? (i := 22) rfl)
theorem im_yX0_rests : (Cond.instanceMethod yX0_rests : Cond) ∈ wsL_law := up_wsL_law_r19 (List.mem_of_getElem? (i := 23) rfl)
theorem se_yX0_rests : (Cond.selects RX0 yX0_rests yX0_rests : Cond) ∈ wsL_law := up_wsL_law_r20 (List.mem_of_getElem? (i := 0) rfl)
theorem co_yX0_rests : (Cond.code yX0_rests cX0_rests 3 (some .boolean) : Cond) ∈ wsL_law := up_wsL_law_r20 (List.mem_of_getElem? (i := 1) rfl)
theorem ml_L_73 : (Cond.methodLink RL 73 yX6_resting : Cond) ∈ wsL_law := up_wsL_law_r20 (List.mem_of_getElem? (i := 2) rfl)
theorem im_yX6_resting : (Cond.instanceMethod yX6_resting : Cond) ∈ wsL_law := up_wsL_law_r20 (List.mem_of_getElem? (i := 3) rfl)
theorem se_yX6_resting : (Cond.selects RX6 yX6_resting yX6_resting : Cond) ∈ wsL_law := up_wsL_law_r20 (List.mem_of_getElem? (i := 4) rfl)
theorem co_yX6_resting : (Cond.code yX6_resting cX6_resting 5 (some .int) : Cond) ∈ wsL_law := up_wsL_law_r20 (List.mem_of_getElem? (i := 5) rfl)
theorem ml_L_74 : (Cond.methodLink RL 74 yX5_orbit : Cond) ∈ wsL_law := up_wsL_law_r20 (List.mem_of_getElem? (i := 6) rfl)
theorem im_yX5_orbit : (Cond.instanceMethod yX5_orbit : Cond) ∈ wsL_law := up_wsL_law_r20 (List.mem_of_getElem? (i := 7) rfl)
theorem se_yX5_orbit : (Cond.selects RX5 yX5_orbit yX5_orbit : Cond) ∈ wsL_law := up_wsL_law_r20 (List.mem_of_getElem? (i := 8) rfl)
theorem co_yX5_orbit : (Cond.code yX5_orbit cX5_orbit 2 (some .int) : Cond) ∈ wsL_law := up_wsL_law_r20 (List.mem_of_getElem? (i := 9) rfl)
theorem ml_X5_142 : (Cond.methodLink RX5 142 yX0_lowestJoined : Cond) ∈ wsL_law := up_wsL_law_r20 (List.mem_of_getElem? (i := 10) rfl)
theorem im_yX0_lowestJoined : (Cond.instanceMethod yX0_lowestJoined : Cond) ∈ wsL_law := up_wsL_law_r20 (List.mem_of_getElem? (i := 11) rfl)
theorem se_yX0_lowestJoined : (Cond.selects RX0 yX0_lowestJoined yX0_lowestJoined : Cond) ∈ wsL_law := up_wsL_law_r20 (List.mem_of_getElem? (i := 12) rfl)
theorem co_yX0_lowestJoined : (Cond.code yX0_lowestJoined cX0_lowestJoined 7 (some .int) : Cond) ∈ wsL_law := up_wsL_law_r20 (List.mem_of_getElem? (i := 13) rfl)
theorem ml_X0_89 : (Cond.methodLink RX0 89 Lib.Math.min.name : Cond) ∈ wsL_law := up_wsL_law_r20 (List.mem_of_getElem? (i := 14) rfl)
theorem st_Math_min : (Cond.static Lib.Math.min.name : Cond) ∈ wsL_law := up_wsL_law_r20 (List.mem_of_getElem? (i := 15) rfl)
theorem in_java_lang_Math : (Cond.initialized "java/lang/Math" : Cond) ∈ wsL_law := up_wsL_law_r20 (List.mem_of_getElem? (i := 16) rfl)
theorem co_Math_min : (Cond.code Lib.Math.min.name Lib.Math.min.code 2 (some .int) : Cond) ∈ wsL_law := up_wsL_law_r20 (List.mem_of_getElem? (i := 17) rfl)
theorem ml_L_77 : (Cond.methodLink RL 77 yX6_orbit : Cond) ∈ wsL_law := up_wsL_law_r20 (List.mem_of_getElem? (i := 18) rfl)
theorem im_yX6_orbit : (Cond.instanceMethod yX6_orbit : Cond) ∈ wsL_law := up_wsL_law_r20 (List.mem_of_getElem? (i := 19) rfl)
theorem se_yX6_orbit : (Cond.selects RX6 yX6_orbit yX6_orbit : Cond) ∈ wsL_law := up_wsL_law_r20 (List.mem_of_getElem? (i := 20) rfl)
theorem co_yX6_orbit : (Cond.code yX6_orbit cX6_orbit 7 (some .int) : Cond) ∈ wsL_law := up_wsL_law_r20 (List.mem_of_getElem? (i := 21) rfl)
def NWl : List Cond := [Cond.fieldLinkNest RX2 66 "CosetTable$Word" "columns" "[I" "CosetTable", Cond.fieldLinkNest RX0 61 "CosetTable$Word" "columns" "[I" "CosetTable", Cond.fieldLinkNest RX5 63 "CosetTable$Word" "length" "I" "CosetTable", Cond.fieldLinkNest RX2 57 "CosetTable$Word" "length" "I" "CosetTable", Cond.fieldLinkNest RX0 56 "CosetTable$Word" "length" "I" "CosetTable", Cond.fieldLinkNest RX2 34 "CosetTable$WordList" "words" "[LCosetTable$Word;" "CosetTable", Cond.fieldLinkNest RX0 85 "CosetTable$WordList" "words" "[LCosetTable$Word;" "CosetTable", Cond.fieldLinkNest RX2 22 "CosetTable$WordList" "size" "I" "CosetTable", Cond.fieldLinkNest RX5 60 "CosetTable$WordList" "size" "I" "CosetTable", Cond.fieldLinkNest RX0 82 "CosetTable$WordList" "size" "I" "CosetTable", Cond.fieldLinkNest RX2 46 "CosetTable$Cosets" "freshCount" "I" "CosetTable", Cond.fieldLinkNest RX0 47 "CosetTable$Cosets" "columns" "I" "CosetTable", Cond.fieldLinkNest RX5 84 "CosetTable$Cosets" "made" "I" "CosetTable", Cond.fieldLinkNest RX5 98 "CosetTable$Cosets" "living" "I" "CosetTable", Cond.fieldLinkNest RX5 115 "CosetTable$Action" "numbers" "[I" "CosetTable", Cond.fieldLinkNest RX5 107 "CosetTable$Action" "size" "I" "CosetTable", Cond.methodLinkNest RX5 11 yX3_init "CosetTable", Cond.methodLinkNest RX4 15 yX3_init "CosetTable", Cond.methodLinkNest RX5 30 yX1_init "CosetTable"]
def NW (U : State) : Prop := ∀ w ∈ NWl, va_Nw w U
set_option maxRecDepth 20000 in
theorem NW_all {P : Cond → Prop} (h0 : P (Cond.fieldLinkNest RX2 66 "CosetTable$Word" "columns" "[I" "CosetTable")) (h1 : P (Cond.fieldLinkNest RX0 61 "CosetTable$Word" "columns" "[I" "CosetTable")) (h2 : P (Cond.fieldLinkNest RX5 63 "CosetTable$Word" "length" "I" "CosetTable")) (h3 : P (Cond.fieldLinkNest RX2 57 "CosetTable$Word" "length" "I" "CosetTable")) (h4 : P (Cond.fieldLinkNest RX0 56 "CosetTable$Word" "length" "I" "CosetTable")) (h5 : P (Cond.fieldLinkNest RX2 34 "CosetTable$WordList" "words" "[LCosetTable$Word;" "CosetTable")) (h6 : P (Cond.fieldLinkNest RX0 85 "CosetTable$WordList" "words" "[LCosetTable$Word;" "CosetTable")) (h7 : P (Cond.fieldLinkNest RX2 22 "CosetTable$WordList" "size" "I" "CosetTable")) (h8 : P (Cond.fieldLinkNest RX5 60 "CosetTable$WordList" "size" "I" "CosetTable")) (h9 : P (Cond.fieldLinkNest RX0 82 "CosetTable$WordList" "size" "I" "CosetTable")) (h10 : P (Cond.fieldLinkNest RX2 46 "CosetTable$Cosets" "freshCount" "I" "CosetTable")) (h11 : P (Cond.fieldLinkNest RX0 47 "CosetTable$Cosets" "columns" "I" "CosetTable")) (h12 : P (Cond.fieldLinkNest RX5 84 "CosetTable$Cosets" "made" "I" "CosetTable")) (h13 : P (Cond.fieldLinkNest RX5 98 "CosetTable$Cosets" "living" "I" "CosetTable")) (h14 : P (Cond.fieldLinkNest RX5 115 "CosetTable$Action" "numbers" "[I" "CosetTable")) (h15 : P (Cond.fieldLinkNest RX5 107 "CosetTable$Action" "size" "I" "CosetTable")) (h16 : P (Cond.methodLinkNest RX5 11 yX3_init "CosetTable")) (h17 : P (Cond.methodLinkNest RX4 15 yX3_init "CosetTable")) (h18 : P (Cond.methodLinkNest RX5 30 yX1_init "CosetTable")) : ∀ w ∈ NWl, P w := by
  intro w hw
  simp only [NWl, List.mem_cons, List.not_mem_nil, or_false] at hw
  rcases hw with rfl | rfl | rfl | rfl | rfl | rfl | rfl | rfl | rfl | rfl | rfl | rfl | rfl | rfl | rfl | rfl | rfl | rfl | rfl
  · exact h0
  · exact h1
  · exact h2
  · exact h3
  · exact h4
  · exact h5
  · exact h6
  · exact h7
  · exact h8
  · exact h9
  · exact h10
  · exact h11
  · exact h12
  · exact h13
  · exact h14
  · exact h15
  · exact h16
  · exact h17
  · exact h18
theorem nf_X2_66 : (Cond.fieldLinkNest RX2 66 "CosetTable$Word" "columns" "[I" "CosetTable" : Cond) ∈ NWl := List.mem_of_getElem? (i := 0) rfl
theorem nf_X0_61 : (Cond.fieldLinkNest RX0 61 "CosetTable$Word" "columns" "[I" "CosetTable" : Cond) ∈ NWl := List.mem_of_getElem? (i := 1) rfl
theorem nf_X5_63 : (Cond.fieldLinkNest RX5 63 "CosetTable$Word" "length" "I" "CosetTable" : Cond) ∈ NWl := List.mem_of_getElem? (i := 2) rfl
theorem nf_X2_57 : (Cond.fieldLinkNest RX2 57 "CosetTable$Word" "length" "I" "CosetTable" : Cond) ∈ NWl := List.mem_of_getElem? (i := 3) rfl
theorem nf_X0_56 : (Cond.fieldLinkNest RX0 56 "CosetTable$Word" "length" "I" "CosetTable" : Cond) ∈ NWl := List.mem_of_getElem? (i := 4) rfl
theorem nf_X2_34 : (Cond.fieldLinkNest RX2 34 "CosetTable$WordList" "words" "[LCosetTable$Word;" "CosetTable" : Cond) ∈ NWl := List.mem_of_getElem? (i := 5) rfl
theorem nf_X0_85 : (Cond.fieldLinkNest RX0 85 "CosetTable$WordList" "words" "[LCosetTable$Word;" "CosetTable" : Cond) ∈ NWl := List.mem_of_getElem? (i := 6) rfl
theorem nf_X2_22 : (Cond.fieldLinkNest RX2 22 "CosetTable$WordList" "size" "I" "CosetTable" : Cond) ∈ NWl := List.mem_of_getElem? (i := 7) rfl
theorem nf_X5_60 : (Cond.fieldLinkNest RX5 60 "CosetTable$WordList" "size" "I" "CosetTable" : Cond) ∈ NWl := List.mem_of_getElem? (i := 8) rfl
theorem nf_X0_82 : (Cond.fieldLinkNest RX0 82 "CosetTable$WordList" "size" "I" "CosetTable" : Cond) ∈ NWl := List.mem_of_getElem? (i := 9) rfl
theorem nf_X2_46 : (Cond.fieldLinkNest RX2 46 "CosetTable$Cosets" "freshCount" "I" "CosetTable" : Cond) ∈ NWl := List.mem_of_getElem? (i := 10) rfl
theorem nf_X0_47 : (Cond.fieldLinkNest RX0 47 "CosetTable$Cosets" "columns" "I" "CosetTable" : Cond) ∈ NWl := List.mem_of_getElem? (i := 11) rfl
theorem nf_X5_84 : (Cond.fieldLinkNest RX5 84 "CosetTable$Cosets" "made" "I" "CosetTable" : Cond) ∈ NWl := List.mem_of_getElem? (i := 12) rfl
theorem nf_X5_98 : (Cond.fieldLinkNest RX5 98 "CosetTable$Cosets" "living" "I" "CosetTable" : Cond) ∈ NWl := List.mem_of_getElem? (i := 13) rfl
theorem nf_X5_115 : (Cond.fieldLinkNest RX5 115 "CosetTable$Action" "numbers" "[I" "CosetTable" : Cond) ∈ NWl := List.mem_of_getElem? (i := 14) rfl
theorem nf_X5_107 : (Cond.fieldLinkNest RX5 107 "CosetTable$Action" "size" "I" "CosetTable" : Cond) ∈ NWl := List.mem_of_getElem? (i := 15) rfl
theorem nm_X5_11 : (Cond.methodLinkNest RX5 11 yX3_init "CosetTable" : Cond) ∈ NWl := List.mem_of_getElem? (i := 16) rfl
theorem nm_X4_15 : (Cond.methodLinkNest RX4 15 yX3_init "CosetTable" : Cond) ∈ NWl := List.mem_of_getElem? (i := 17) rfl
theorem nm_X5_30 : (Cond.methodLinkNest RX5 30 yX1_init "CosetTable" : Cond) ∈ NWl := List.mem_of_getElem? (i := 18) rfl
theorem NW.warm {s U : State} (hW : s.WarmedH U.vm) (h : NW s) : NW U := NW_all (va_Nw.warmF hW (h _ nf_X2_66)) (va_Nw.warmF hW (h _ nf_X0_61)) (va_Nw.warmF hW (h _ nf_X5_63)) (va_Nw.warmF hW (h _ nf_X2_57)) (va_Nw.warmF hW (h _ nf_X0_56)) (va_Nw.warmF hW (h _ nf_X2_34)) (va_Nw.warmF hW (h _ nf_X0_85)) (va_Nw.warmF hW (h _ nf_X2_22)) (va_Nw.warmF hW (h _ nf_X5_60)) (va_Nw.warmF hW (h _ nf_X0_82)) (va_Nw.warmF hW (h _ nf_X2_46)) (va_Nw.warmF hW (h _ nf_X0_47)) (va_Nw.warmF hW (h _ nf_X5_84)) (va_Nw.warmF hW (h _ nf_X5_98)) (va_Nw.warmF hW (h _ nf_X5_115)) (va_Nw.warmF hW (h _ nf_X5_107)) (va_Nw.warmM hW (h _ nm_X5_11)) (va_Nw.warmM hW (h _ nm_X4_15)) (va_Nw.warmM hW (h _ nm_X5_30))
theorem NW.same {s U : State} (hv : s.vm = U.vm) (h : NW s) : NW U := NW_all (va_Nw.same rfl hv (h _ nf_X2_66)) (va_Nw.same rfl hv (h _ nf_X0_61)) (va_Nw.same rfl hv (h _ nf_X5_63)) (va_Nw.same rfl hv (h _ nf_X2_57)) (va_Nw.same rfl hv (h _ nf_X0_56)) (va_Nw.same rfl hv (h _ nf_X2_34)) (va_Nw.same rfl hv (h _ nf_X0_85)) (va_Nw.same rfl hv (h _ nf_X2_22)) (va_Nw.same rfl hv (h _ nf_X5_60)) (va_Nw.same rfl hv (h _ nf_X0_82)) (va_Nw.same rfl hv (h _ nf_X2_46)) (va_Nw.same rfl hv (h _ nf_X0_47)) (va_Nw.same rfl hv (h _ nf_X5_84)) (va_Nw.same rfl hv (h _ nf_X5_98)) (va_Nw.same rfl hv (h _ nf_X5_115)) (va_Nw.same rfl hv (h _ nf_X5_107)) (va_Nw.same rfl hv (h _ nm_X5_11)) (va_Nw.same rfl hv (h _ nm_X4_15)) (va_Nw.same rfl hv (h _ nm_X5_30))
set_option maxRecDepth 20000 in
theorem NW_tbl : ∀ w ∈ NWl, w ∈ lw_tbl := by decide +kernel
theorem NW.of {A : Array Value} {U : State} (h : ∀ w ∈ lw_tbl, w.before A U = true) : NW U := NW_all (va_Nw.of rfl (h _ (NW_tbl _ nf_X2_66))) (va_Nw.of rfl (h _ (NW_tbl _ nf_X0_61))) (va_Nw.of rfl (h _ (NW_tbl _ nf_X5_63))) (va_Nw.of rfl (h _ (NW_tbl _ nf_X2_57))) (va_Nw.of rfl (h _ (NW_tbl _ nf_X0_56))) (va_Nw.of rfl (h _ (NW_tbl _ nf_X2_34))) (va_Nw.of rfl (h _ (NW_tbl _ nf_X0_85))) (va_Nw.of rfl (h _ (NW_tbl _ nf_X2_22))) (va_Nw.of rfl (h _ (NW_tbl _ nf_X5_60))) (va_Nw.of rfl (h _ (NW_tbl _ nf_X0_82))) (va_Nw.of rfl (h _ (NW_tbl _ nf_X2_46))) (va_Nw.of rfl (h _ (NW_tbl _ nf_X0_47))) (va_Nw.of rfl (h _ (NW_tbl _ nf_X5_84))) (va_Nw.of rfl (h _ (NW_tbl _ nf_X5_98))) (va_Nw.of rfl (h _ (NW_tbl _ nf_X5_115))) (va_Nw.of rfl (h _ (NW_tbl _ nf_X5_107))) (va_Nw.of rfl (h _ (NW_tbl _ nm_X5_11))) (va_Nw.of rfl (h _ (NW_tbl _ nm_X4_15))) (va_Nw.of rfl (h _ (NW_tbl _ nm_X5_30)))
set_option maxRecDepth 20000 in
theorem good_law : wsL_law.all goodWord = true := by decide +kernel
end
section
/-! numbers in ints -/
def eI (o : Option Nat) : Int32 := match o with | none => -1 | some d => nI d
def zI (b : Bool) : Int32 := match b with | false => 0 | true => 1
theorem kI_up {α : Type} (k : α → Int32) (f : Nat → α) (i : Nat) (v : α) (hi : i < 2 ^ 31) : upd (fun j => k (f j)) (nI i).toNatClampNeg (k v) = fun j => k (va_up f i v j) := by
  funext j
  rw [nI_clamp hi]
  by_cases h : j = i
  · simp [upd, va_up, h]
  · simp [upd, va_up, h]
theorem vz_nar (b : Bool) : vp_nar .boolean (zI b) = zI b := by cases b <;> rfl
theorem nz_bool (b : Bool) : narrow .boolean (.int (zI b)) = .int (zI b) := by cases b <;> rfl
theorem eI_neg {o : Option Nat} (h : ∀ d, o = some d → d < 2 ^ 31) : eI o < 0 ↔ o = none := by
  cases o with
  | none => simp [eI]
  | some d => simp [eI]; exact nI_pos' (h d rfl)
theorem eI_m1 {o : Option Nat} (h : ∀ d, o = some d → d < 2 ^ 31) : eI o = -1 ↔ o = none := by
  cases o with
  | none => simp [eI]
  | some d =>
    simp [eI]
    intro q
    have := nI_pos (h d rfl)
    rw [q] at this
    exact this (by decide)
theorem zI_0 {b : Bool} : zI b = 0 ↔ b = false := by cases b <;> simp [zI]
/-! what every method's start knows -/
abbrev ty3 (cI cZ cW : ClassId) : List (ClassId × FieldType) := [(cI, .int), (cZ, .boolean), (cW, .object "CosetTable$Word")]
def EV (D : va_G) (cI cZ cW : ClassId) (U : State) : Prop := va_K D vwCl (ty3 cI cZ cW) U ∧ NW U
theorem EV.warm {D : va_G} {cI cZ cW : ClassId} {s U : State} (hW : s.WarmedH U.vm) (h : EV D cI cZ cW s) : EV D cI cZ cW U := ⟨va_K.moved hW.alike h.1, h.2.warm hW⟩
theorem EV.calling {D : va_G} {cI cZ cW : ClassId} {U : State} {g : JFrame} {mk : MethodId} {a : Array Value} (h : EV D cI cZ cW U) : EV D cI cZ cW (U.calling g mk a) := ⟨va_K.moved (u := U) (U := U.calling g mk a) (Vm.Alike.refl U.vm) h.1, NW.same (s := U) (U := U.calling g mk a) rfl h.2⟩
def CX (p : Program) (s : State) (m : MethodId) (args : Array Value) (c : Code) (cc : ByteArray) (nL : Nat) (own : String) (D : va_G) (cI cZ cW : ClassId) (A : Nat → Prop) : Prop :=
  p.tables.exec = Jvm.exec ∧ c.code = cc ∧ c.maxLocals = nL ∧ s.vm.findClass own = some m.cls ∧ (∀ w ∈ wsL_law, w.before args s = true) ∧ EV D cI cZ cW s ∧ ∀ q, s.heap.size ≤ q → A q
/-- a cell that is only read -/
def RO (D : va_G) (A : Nat → Prop) (s : State) (q : Nat × va_E) : Prop := va_at D vwCl q s.heap ∧ ¬ A q.1
def V (p : Program) (l : Launch) (e : Env) (R : Room) (s : State) (m : MethodId) (args : Array Value) (below : List Frame) (meth : Method) (c : Code) (D : va_G) (A : Nat → Prop) (nL cells slots : Nat) (Q : State → Prop) (ws : va_W) (pc : Nat) (lv : List (Nat × Value)) (st : List Value) : Prop :=
  ∀ (H : Heap) (locs : List Loc) (ls : Array Slot), va_P D vwCl ws H → va_D A ws → va_S A s.heap H locs → lv_has ls nL lv → W p l e R s m args below meth c H locs cells slots Q (F0 m pc ls st)
theorem RO.at {D : va_G} {A : Nat → Prop} {s : State} {q : Nat × va_E} {H : Heap} {locs : List Loc} (h : RO D A s q) (hS : va_S A s.heap H locs) : va_P D vwCl [q] H := by
  intro k x hx
  match k, hx with
  | 0, hx =>
    cases hx
    exact h.1.kept (hS.2.1 _ h.1.lt h.2)
  | k + 1, hx => simp at hx
theorem wlaw_bef {args : Array Value} {s : State} {w : Cond} (h : ∀ w ∈ wsL_law, w.before args s = true) (hw : w ∈ wsL_law) : w.before args s = true := h w hw
section RULES
variable {p : Program} {l : Launch} {e : Env} {R : Room} {s : State} {m : MethodId} {args : Array Value} {below : List Frame} {meth : Method} {c : Code} {D : va_G} {A : Nat → Prop} {nL cells slots : Nat} {Q : State → Prop} {ws : va_W} {pc : Nat} {lv : List (Nat × Value)} {st : List Value}
variable {cc : ByteArray} {own : String} {cI cZ cW : ClassId}
theorem r_iload_n (hc : CX p s m args c cc nL own D cI cZ cW A) {k : Fin 4} {i : Nat} {x : Int32} (hdg : decode cc pc = .ok (.iload_n k, 1)) (hi : (k : Nat) = i) (j : Nat) (hl : lv[j]? = some (i, .int x)) (kk : V p l e R s m args below meth c D A nL cells slots Q ws (pc + 1) lv (.int x :: st)) : V p l e R s m args below meth c D A nL cells slots Q ws pc lv st :=
  fun H locs ls hP hD hS hL => lv_iload_n hc.1 hc.2.1 hdg hi (lv_at hL j hl) (kk H locs ls hP hD hS hL)
theorem r_iload (hc : CX p s m args c cc nL own D cI cZ cW A) {i : Nat} {x : Int32} (hdg : decode cc pc = .ok (.iload i, 2)) (j : Nat) (hl : lv[j]? = some (i, .int x)) (kk : V p l e R s m args below meth c D A nL cells slots Q ws (pc + 2) lv (.int x :: st)) : V p l e R s m args below meth c D A nL cells slots Q ws pc lv st :=
  fun H locs ls hP hD hS hL => lv_iload hc.1 hc.2.1 hdg (lv_at hL j hl) (kk H locs ls hP hD hS hL)
theorem r_lload_n (hc : CX p s m args c cc nL own D cI cZ cW A) {k : Fin 4} {i : Nat} {x : Int64} (hdg : decode cc pc = .ok (.lload_n k, 1)) (hi : (k : Nat) = i) (j : Nat) (hl : lv[j]? = some (i, .long x)) (kk : V p l e R s m args below meth c D A nL cells slots Q ws (pc + 1) lv (.long x :: st)) : V p l e R s m args below meth c D A nL cells slots Q ws pc lv st :=
  fun H locs ls hP hD hS hL => lv_lload_n hc.1 hc.2.1 hdg hi (lv_at hL j hl) (kk H locs ls hP hD hS hL)
theorem r_lload (hc : CX p s m args c cc nL own D cI cZ cW A) {i : Nat} {x : Int64} (hdg : decode cc pc = .ok (.lload i, 2)) (j : Nat) (hl : lv[j]? = some (i, .long x)) (kk : V p l e R s m args below meth c D A nL cells slots Q ws (pc + 2) lv (.long x :: st)) : V p l e R s m args below meth c D A nL cells slots Q ws pc lv st :=
  fun H locs ls hP hD hS hL => lv_lload hc.1 hc.2.1 hdg (lv_at hL j hl) (kk H locs ls hP hD hS hL)
theorem r_aload_n (hc : CX p s m args c cc nL own D cI cZ cW A) {k : Fin 4} {i : Nat} {x : Nat} (hdg : decode cc pc = .ok (.aload_n k, 1)) (hi : (k : Nat) = i) (j : Nat) (hl : lv[j]? = some (i, .ref x)) (kk : V p l e R s m args below meth c D A nL cells slots Q ws (pc + 1) lv (.ref x :: st)) : V p l e R s m args below meth c D A nL cells slots Q ws pc lv st :=
  fun H locs ls hP hD hS hL => lv_aload_n hc.1 hc.2.1 hdg hi (lv_at hL j hl) (kk H locs ls hP hD hS hL)
theorem r_aload (hc : CX p s m args c cc nL own D cI cZ cW A) {i : Nat} {x : Nat} (hdg : decode cc pc = .ok (.aload i, 2)) (j : Nat) (hl : lv[j]? = some (i, .ref x)) (kk : V p l e R s m args below meth c D A nL cells slots Q ws (pc + 2) lv (.ref x :: st)) : V p l e R s m args below meth c D A nL cells slots Q ws pc lv st :=
  fun H locs ls hP hD hS hL => lv_aload hc.1 hc.2.1 hdg (lv_at hL j hl) (kk H locs ls hP hD hS hL)
theorem r_istore_n (hc : CX p s m args c cc nL own D cI cZ cW A) {k : Fin 4} {i : Nat} {x : Int32} {lv' : List (Nat × Value)} (hdg : decode cc pc = .ok (.istore_n k, 1)) (hi : (k : Nat) = i) (hn : i < nL) (hl : (i, Value.int x) :: lv.filter (fun q => !(q.1 == i) && !(q.1 + 1 == i && q.2.category == 2)) = lv') (kk : V p l e R s m args below meth c D A nL cells slots Q ws (pc + 1) lv' st) : V p l e R s m args below meth c D A nL cells slots Q ws pc lv (.int x :: st) :=
  fun H locs ls hP hD hS hL => lv_istore_n hc.1 hc.2.1 hdg hi hL hn hl (fun ls' hL' => kk H locs ls' hP hD hS hL')
theorem r_istore (hc : CX p s m args c cc nL own D cI cZ cW A) {i : Nat} {x : Int32} {lv' : List (Nat × Value)} (hdg : decode cc pc = .ok (.istore i, 2)) (hn : i < nL) (hl : (i, Value.int x) :: lv.filter (fun q => !(q.1 == i) && !(q.1 + 1 == i && q.2.category == 2)) = lv') (kk : V p l e R s m args below meth c D A nL cells slots Q ws (pc + 2) lv' st) : V p l e R s m args below meth c D A nL cells slots Q ws pc lv (.int x :: st) :=
  fun H locs ls hP hD hS hL => lv_istore hc.1 hc.2.1 hdg hL hn hl (fun ls' hL' => kk H locs ls' hP hD hS hL')
theorem r_lstore_n (hc : CX p s m args c cc nL own D cI cZ cW A) {k : Fin 4} {i : Nat} {x : Int64} {lv' : List (Nat × Value)} (hdg : decode cc pc = .ok (.lstore_n k, 1)) (hi : (k : Nat) = i) (hn : i + 1 < nL) (hl : (i, Value.long x) :: lv.filter (fun q => !(q.1 == i) && (!(q.1 == i + 1) && !(q.1 + 1 == i && q.2.category == 2))) = lv') (kk : V p l e R s m args below meth c D A nL cells slots Q ws (pc + 1) lv' st) : V p l e R s m args below meth c D A nL cells slots Q ws pc lv (.long x :: st) :=
  fun H locs ls hP hD hS hL => lv_lstore_n hc.1 hc.2.1 hdg hi hL hn hl (fun ls' hL' => kk H locs ls' hP hD hS hL')
theorem r_lstore (hc : CX p s m args c cc nL own D cI cZ cW A) {i : Nat} {x : Int64} {lv' : List (Nat × Value)} (hdg : decode cc pc = .ok (.lstore i, 2)) (hn : i + 1 < nL) (hl : (i, Value.long x) :: lv.filter (fun q => !(q.1 == i) && (!(q.1 == i + 1) && !(q.1 + 1 == i && q.2.category == 2))) = lv') (kk : V p l e R s m args below meth c D A nL cells slots Q ws (pc + 2) lv' st) : V p l e R s m args below meth c D A nL cells slots Q ws pc lv (.long x :: st) :=
  fun H locs ls hP hD hS hL => lv_lstore hc.1 hc.2.1 hdg hL hn hl (fun ls' hL' => kk H locs ls' hP hD hS hL')
theorem r_astore_n (hc : CX p s m args c cc nL own D cI cZ cW A) {k : Fin 4} {i : Nat} {x : Nat} {lv' : List (Nat × Value)} (hdg : decode cc pc = .ok (.astore_n k, 1)) (hi : (k : Nat) = i) (hn : i < nL) (hl : (i, Value.ref x) :: lv.filter (fun q => !(q.1 == i) && !(q.1 + 1 == i && q.2.category == 2)) = lv') (kk : V p l e R s m args below meth c D A nL cells slots Q ws (pc + 1) lv' st) : V p l e R s m args below meth c D A nL cells slots Q ws pc lv (.ref x :: st) :=
  fun H locs ls hP hD hS hL => lv_astore_n hc.1 hc.2.1 hdg hi hL hn hl (fun ls' hL' => kk H locs ls' hP hD hS hL')
theorem r_iinc (hc : CX p s m args c cc nL own D cI cZ cW A) {i k : Nat} {n : Int} {x v : Int32} {lv' : List (Nat × Value)} (hdg : decode cc pc = .ok (.iinc i n, 3)) (hk : lv[k]? = some (i, .int x)) (hv : x + Int32.ofInt n = v) (hn : i < nL) (hl : (i, Value.int v) :: lv.filter (fun q => !(q.1 == i) && !(q.1 + 1 == i && q.2.category == 2)) = lv') (kk : V p l e R s m args below meth c D A nL cells slots Q ws (pc + 3) lv' st) : V p l e R s m args below meth c D A nL cells slots Q ws pc lv st :=
  fun H locs ls hP hD hS hL => lv_iinc hc.1 hc.2.1 hdg hL hk hv hn hl (fun ls' hL' => kk H locs ls' hP hD hS hL')
theorem r_iconst (hc : CX p s m args c cc nL own D cI cZ cW A) {n : Int} {v : Int32} (hdg : decode cc pc = .ok (.iconst n, 1)) (hv : Int32.ofInt n = v) (kk : V p l e R s m args below meth c D A nL cells slots Q ws (pc + 1) lv (.int v :: st)) : V p l e R s m args below meth c D A nL cells slots Q ws pc lv st :=
  fun H locs ls hP hD hS hL => lv_iconst hc.1 hc.2.1 hdg hv (kk H locs ls hP hD hS hL)
theorem r_bipush (hc : CX p s m args c cc nL own D cI cZ cW A) {n : Int} {v : Int32} (hdg : decode cc pc = .ok (.bipush n, 2)) (hv : (Int8.ofInt n).toInt32 = v) (kk : V p l e R s m args below meth c D A nL cells slots Q ws (pc + 2) lv (.int v :: st)) : V p l e R s m args below meth c D A nL cells slots Q ws pc lv st :=
  fun H locs ls hP hD hS hL => lv_bipush hc.1 hc.2.1 hdg hv (kk H locs ls hP hD hS hL)
theorem r_sipush (hc : CX p s m args c cc nL own D cI cZ cW A) {n : Int} {v : Int32} (hdg : decode cc pc = .ok (.sipush n, 3)) (hv : (Int16.ofInt n).toInt32 = v) (kk : V p l e R s m args below meth c D A nL cells slots Q ws (pc + 3) lv (.int v :: st)) : V p l e R s m args below meth c D A nL cells slots Q ws pc lv st :=
  fun H locs ls hP hD hS hL => lv_sipush hc.1 hc.2.1 hdg hv (kk H locs ls hP hD hS hL)
theorem r_lconst (hc : CX p s m args c cc nL own D cI cZ cW A) {n : Fin 2} {v : Int64} (hdg : decode cc pc = .ok (.lconst n, 1)) (hv : Int64.ofNat (n : Nat) = v) (kk : V p l e R s m args below meth c D A nL cells slots Q ws (pc + 1) lv (.long v :: st)) : V p l e R s m args below meth c D A nL cells slots Q ws pc lv st :=
  fun H locs ls hP hD hS hL => lv_lconst hc.1 hc.2.1 hdg hv (kk H locs ls hP hD hS hL)
theorem r_iadd (hc : CX p s m args c cc nL own D cI cZ cW A) {x y v : Int32} (hdg : decode cc pc = .ok (.iadd, 1)) (hv : x + y = v) (kk : V p l e R s m args below meth c D A nL cells slots Q ws (pc + 1) lv (.int v :: st)) : V p l e R s m args below meth c D A nL cells slots Q ws pc lv (.int y :: .int x :: st) :=
  fun H locs ls hP hD hS hL => lv_iadd hc.1 hc.2.1 hdg (hv ▸ kk H locs ls hP hD hS hL)
theorem r_isub (hc : CX p s m args c cc nL own D cI cZ cW A) {x y v : Int32} (hdg : decode cc pc = .ok (.isub, 1)) (hv : x - y = v) (kk : V p l e R s m args below meth c D A nL cells slots Q ws (pc + 1) lv (.int v :: st)) : V p l e R s m args below meth c D A nL cells slots Q ws pc lv (.int y :: .int x :: st) :=
  fun H locs ls hP hD hS hL => lv_isub hc.1 hc.2.1 hdg (hv ▸ kk H locs ls hP hD hS hL)
theorem r_imul (hc : CX p s m args c cc nL own D cI cZ cW A) {x y v : Int32} (hdg : decode cc pc = .ok (.imul, 1)) (hv : x * y = v) (kk : V p l e R s m args below meth c D A nL cells slots Q ws (pc + 1) lv (.int v :: st)) : V p l e R s m args below meth c D A nL cells slots Q ws pc lv (.int y :: .int x :: st) :=
  fun H locs ls hP hD hS hL => lv_imul hc.1 hc.2.1 hdg (hv ▸ kk H locs ls hP hD hS hL)
theorem r_ixor (hc : CX p s m args c cc nL own D cI cZ cW A) {x y v : Int32} (hdg : decode cc pc = .ok (.ixor, 1)) (hv : x ^^^ y = v) (kk : V p l e R s m args below meth c D A nL cells slots Q ws (pc + 1) lv (.int v :: st)) : V p l e R s m args below meth c D A nL cells slots Q ws pc lv (.int y :: .int x :: st) :=
  fun H locs ls hP hD hS hL => lv_ixor hc.1 hc.2.1 hdg (hv ▸ kk H locs ls hP hD hS hL)
theorem r_iand (hc : CX p s m args c cc nL own D cI cZ cW A) {x y v : Int32} (hdg : decode cc pc = .ok (.iand, 1)) (hv : x &&& y = v) (kk : V p l e R s m args below meth c D A nL cells slots Q ws (pc + 1) lv (.int v :: st)) : V p l e R s m args below meth c D A nL cells slots Q ws pc lv (.int y :: .int x :: st) :=
  fun H locs ls hP hD hS hL => lv_iand hc.1 hc.2.1 hdg (hv ▸ kk H locs ls hP hD hS hL)
theorem r_ineg (hc : CX p s m args c cc nL own D cI cZ cW A) {x v : Int32} (hdg : decode cc pc = .ok (.ineg, 1)) (hv : -x = v) (kk : V p l e R s m args below meth c D A nL cells slots Q ws (pc + 1) lv (.int v :: st)) : V p l e R s m args below meth c D A nL cells slots Q ws pc lv (.int x :: st) :=
  fun H locs ls hP hD hS hL => lv_ineg hc.1 hc.2.1 hdg (hv ▸ kk H locs ls hP hD hS hL)
theorem r_idiv (hc : CX p s m args c cc nL own D cI cZ cW A) {x y v : Int32} (hdg : decode cc pc = .ok (.idiv, 1)) (hne : ¬ y = 0) (hv : x / y = v) (kk : V p l e R s m args below meth c D A nL cells slots Q ws (pc + 1) lv (.int v :: st)) : V p l e R s m args below meth c D A nL cells slots Q ws pc lv (.int y :: .int x :: st) :=
  fun H locs ls hP hD hS hL => lv_idiv hc.1 hc.2.1 hdg hne (hv ▸ kk H locs ls hP hD hS hL)
theorem r_irem (hc : CX p s m args c cc nL own D cI cZ cW A) {x y v : Int32} (hdg : decode cc pc = .ok (.irem, 1)) (hne : ¬ y = 0) (hv : x - x / y * y = v) (kk : V p l e R s m args below meth c D A nL cells slots Q ws (pc + 1) lv (.int v :: st)) : V p l e R s m args below meth c D A nL cells slots Q ws pc lv (.int y :: .int x :: st) :=
  fun H locs ls hP hD hS hL => lv_irem hc.1 hc.2.1 hdg hne (hv ▸ kk H locs ls hP hD hS hL)
theorem r_dup (hc : CX p s m args c cc nL own D cI cZ cW A) {va : Value} (hdg : decode cc pc = .ok (.dup, 1)) (hva : va.category = 1) (kk : V p l e R s m args below meth c D A nL cells slots Q ws (pc + 1) lv (va :: va :: st)) : V p l e R s m args below meth c D A nL cells slots Q ws pc lv (va :: st) :=
  fun H locs ls hP hD hS hL => lv_dup hc.1 hc.2.1 hdg hva (kk H locs ls hP hD hS hL)
theorem r_pop (hc : CX p s m args c cc nL own D cI cZ cW A) {va : Value} (hdg : decode cc pc = .ok (.pop, 1)) (hva : va.category = 1) (kk : V p l e R s m args below meth c D A nL cells slots Q ws (pc + 1) lv st) : V p l e R s m args below meth c D A nL cells slots Q ws pc lv (va :: st) :=
  fun H locs ls hP hD hS hL => lv_pop hc.1 hc.2.1 hdg hva (kk H locs ls hP hD hS hL)
theorem r_dup2 (hc : CX p s m args c cc nL own D cI cZ cW A) {va vb : Value} (hdg : decode cc pc = .ok (.dup2, 1)) (hva : va.category = 1) (hvb : vb.category = 1) (kk : V p l e R s m args below meth c D A nL cells slots Q ws (pc + 1) lv (va :: vb :: va :: vb :: st)) : V p l e R s m args below meth c D A nL cells slots Q ws pc lv (va :: vb :: st) :=
  fun H locs ls hP hD hS hL => lv_dup2_11 hc.1 hc.2.1 hdg hva hvb (kk H locs ls hP hD hS hL)
theorem r_goto (hc : CX p s m args c cc nL own D cI cZ cW A) {off : Int} (tgt : Nat) (hdg : decode cc pc = .ok (.goto off, 3)) (ht : (pc : Int) + off = (tgt : Int)) (kk : V p l e R s m args below meth c D A nL cells slots Q ws tgt lv st) : V p l e R s m args below meth c D A nL cells slots Q ws pc lv st :=
  fun H locs ls hP hD hS hL => lv_goto hc.1 hc.2.1 hdg ht (kk H locs ls hP hD hS hL)
end RULES
end
section
/-! rules with branches, fields, arrays, returns, calls -/
section RULES2
variable {p : Program} {l : Launch} {e : Env} {R : Room} {s : State} {m : MethodId} {args : Array Value} {below : List Frame} {meth : Method} {c : Code} {D : va_G} {A : Nat → Prop} {nL cells slots : Nat} {Q : State → Prop} {ws : va_W} {pc : Nat} {lv : List (Nat × Value)} {st : List Value}
variable {cc : ByteArray} {own : String} {cI cZ cW : ClassId}
theorem r_if_eq (hc : CX p s m args c cc nL own D cI cZ cW A) {x : Int32} {off : Int} (tgt : Nat) (hdg : decode cc pc = .ok (.ifCond .eq off, 3)) (ht : (pc : Int) + off = (tgt : Int)) (kt : x = 0 → V p l e R s m args below meth c D A nL cells slots Q ws tgt lv st) (kf : ¬ (x = 0) → V p l e R s m args below meth c D A nL cells slots Q ws (pc + 3) lv st) : V p l e R s m args below meth c D A nL cells slots Q ws pc lv (.int x :: st) :=
  fun H locs ls hP hD hS hL => lv_if_eq hc.1 hc.2.1 hdg ht (fun h => kt h H locs ls hP hD hS hL) (fun h => kf h H locs ls hP hD hS hL)
theorem r_icmp_eq (hc : CX p s m args c cc nL own D cI cZ cW A) {x y : Int32} {off : Int} (tgt : Nat) (hdg : decode cc pc = .ok (.if_icmp .eq off, 3)) (ht : (pc : Int) + off = (tgt : Int)) (kt : x = y → V p l e R s m args below meth c D A nL cells slots Q ws tgt lv st) (kf : ¬ (x = y) → V p l e R s m args below meth c D A nL cells slots Q ws (pc + 3) lv st) : V p l e R s m args below meth c D A nL cells slots Q ws pc lv (.int y :: .int x :: st) :=
  fun H locs ls hP hD hS hL => lv_icmp_eq hc.1 hc.2.1 hdg ht (fun h => kt h H locs ls hP hD hS hL) (fun h => kf h H locs ls hP hD hS hL)
theorem r_if_ne (hc : CX p s m args c cc nL own D cI cZ cW A) {x : Int32} {off : Int} (tgt : Nat) (hdg : decode cc pc = .ok (.ifCond .ne off, 3)) (ht : (pc : Int) + off = (tgt : Int)) (kt : ¬ x = 0 → V p l e R s m args below meth c D A nL cells slots Q ws tgt lv st) (kf : x = 0 → V p l e R s m args below meth c D A nL cells slots Q ws (pc + 3) lv st) : V p l e R s m args below meth c D A nL cells slots Q ws pc lv (.int x :: st) :=
  fun H locs ls hP hD hS hL => lv_if_ne hc.1 hc.2.1 hdg ht (fun h => kt h H locs ls hP hD hS hL) (fun h => kf h H locs ls hP hD hS hL)
theorem r_icmp_ne (hc : CX p s m args c cc nL own D cI cZ cW A) {x y : Int32} {off : Int} (tgt : Nat) (hdg : decode cc pc = .ok (.if_icmp .ne off, 3)) (ht : (pc : Int) + off = (tgt : Int)) (kt : ¬ x = y → V p l e R s m args below meth c D A nL cells slots Q ws tgt lv st) (kf : x = y → V p l e R s m args below meth c D A nL cells slots Q ws (pc + 3) lv st) : V p l e R s m args below meth c D A nL cells slots Q ws pc lv (.int y :: .int x :: st) :=
  fun H locs ls hP hD hS hL => lv_icmp_ne hc.1 hc.2.1 hdg ht (fun h => kt h H locs ls hP hD hS hL) (fun h => kf h H locs ls hP hD hS hL)
theorem r_if_lt (hc : CX p s m args c cc nL own D cI cZ cW A) {x : Int32} {off : Int} (tgt : Nat) (hdg : decode cc pc = .ok (.ifCond .lt off, 3)) (ht : (pc : Int) + off = (tgt : Int)) (kt : x < 0 → V p l e R s m args below meth c D A nL cells slots Q ws tgt lv st) (kf : ¬ (x < 0) → V p l e R s m args below meth c D A nL cells slots Q ws (pc + 3) lv st) : V p l e R s m args below meth c D A nL cells slots Q ws pc lv (.int x :: st) :=
  fun H locs ls hP hD hS hL => lv_if_lt hc.1 hc.2.1 hdg ht (fun h => kt h H locs ls hP hD hS hL) (fun h => kf h H locs ls hP hD hS hL)
theorem r_icmp_lt (hc : CX p s m args c cc nL own D cI cZ cW A) {x y : Int32} {off : Int} (tgt : Nat) (hdg : decode cc pc = .ok (.if_icmp .lt off, 3)) (ht : (pc : Int) + off = (tgt : Int)) (kt : x < y → V p l e R s m args below meth c D A nL cells slots Q ws tgt lv st) (kf : ¬ (x < y) → V p l e R s m args below meth c D A nL cells slots Q ws (pc + 3) lv st) : V p l e R s m args below meth c D A nL cells slots Q ws pc lv (.int y :: .int x :: st) :=
  fun H locs ls hP hD hS hL => lv_icmp_lt hc.1 hc.2.1 hdg ht (fun h => kt h H locs ls hP hD hS hL) (fun h => kf h H locs ls hP hD hS hL)
theorem r_if_ge (hc : CX p s m args c cc nL own D cI cZ cW A) {x : Int32} {off : Int} (tgt : Nat) (hdg : decode cc pc = .ok (.ifCond .ge off, 3)) (ht : (pc : Int) + off = (tgt : Int)) (kt : 0 ≤ x → V p l e R s m args below meth c D A nL cells slots Q ws tgt lv st) (kf : ¬ (0 ≤ x) → V p l e R s m args below meth c D A nL cells slots Q ws (pc + 3) lv st) : V p l e R s m args below meth c D A nL cells slots Q ws pc lv (.int x :: st) :=
  fun H locs ls hP hD hS hL => lv_if_ge hc.1 hc.2.1 hdg ht (fun h => kt h H locs ls hP hD hS hL) (fun h => kf h H locs ls hP hD hS hL)
theorem r_icmp_ge (hc : CX p s m args c cc nL own D cI cZ cW A) {x y : Int32} {off : Int} (tgt : Nat) (hdg : decode cc pc = .ok (.if_icmp .ge off, 3)) (ht : (pc : Int) + off = (tgt : Int)) (kt : y ≤ x → V p l e R s m args below meth c D A nL cells slots Q ws tgt lv st) (kf : ¬ (y ≤ x) → V p l e R s m args below meth c D A nL cells slots Q ws (pc + 3) lv st) : V p l e R s m args below meth c D A nL cells slots Q ws pc lv (.int y :: .int x :: st) :=
  fun H locs ls hP hD hS hL => lv_icmp_ge hc.1 hc.2.1 hdg ht (fun h => kt h H locs ls hP hD hS hL) (fun h => kf h H locs ls hP hD hS hL)
theorem r_if_gt (hc : CX p s m args c cc nL own D cI cZ cW A) {x : Int32} {off : Int} (tgt : Nat) (hdg : decode cc pc = .ok (.ifCond .gt off, 3)) (ht : (pc : Int) + off = (tgt : Int)) (kt : 0 < x → V p l e R s m args below meth c D A nL cells slots Q ws tgt lv st) (kf : ¬ (0 < x) → V p l e R s m args below meth c D A nL cells slots Q ws (pc + 3) lv st) : V p l e R s m args below meth c D A nL cells slots Q ws pc lv (.int x :: st) :=
  fun H locs ls hP hD hS hL => lv_if_gt hc.1 hc.2.1 hdg ht (fun h => kt h H locs ls hP hD hS hL) (fun h => kf h H locs ls hP hD hS hL)
theorem r_icmp_gt (hc : CX p s m args c cc nL own D cI cZ cW A) {x y : Int32} {off : Int} (tgt : Nat) (hdg : decode cc pc = .ok (.if_icmp .gt off, 3)) (ht : (pc : Int) + off = (tgt : Int)) (kt : y < x → V p l e R s m args below meth c D A nL cells slots Q ws tgt lv st) (kf : ¬ (y < x) → V p l e R s m args below meth c D A nL cells slots Q ws (pc + 3) lv st) : V p l e R s m args below meth c D A nL cells slots Q ws pc lv (.int y :: .int x :: st) :=
  fun H locs ls hP hD hS hL => lv_icmp_gt hc.1 hc.2.1 hdg ht (fun h => kt h H locs ls hP hD hS hL) (fun h => kf h H locs ls hP hD hS hL)
theorem r_if_le (hc : CX p s m args c cc nL own D cI cZ cW A) {x : Int32} {off : Int} (tgt : Nat) (hdg : decode cc pc = .ok (.ifCond .le off, 3)) (ht : (pc : Int) + off = (tgt : Int)) (kt : x ≤ 0 → V p l e R s m args below meth c D A nL cells slots Q ws tgt lv st) (kf : ¬ (x ≤ 0) → V p l e R s m args below meth c D A nL cells slots Q ws (pc + 3) lv st) : V p l e R s m args below meth c D A nL cells slots Q ws pc lv (.int x :: st) :=
  fun H locs ls hP hD hS hL => lv_if_le hc.1 hc.2.1 hdg ht (fun h => kt h H locs ls hP hD hS hL) (fun h => kf h H locs ls hP hD hS hL)
theorem r_icmp_le (hc : CX p s m args c cc nL own D cI cZ cW A) {x y : Int32} {off : Int} (tgt : Nat) (hdg : decode cc pc = .ok (.if_icmp .le off, 3)) (ht : (pc : Int) + off = (tgt : Int)) (kt : x ≤ y → V p l e R s m args below meth c D A nL cells slots Q ws tgt lv st) (kf : ¬ (x ≤ y) → V p l e R s m args below meth c D A nL cells slots Q ws (pc + 3) lv st) : V p l e R s m args below meth c D A nL cells slots Q ws pc lv (.int y :: .int x :: st) :=
  fun H locs ls hP hD hS hL => lv_icmp_le hc.1 hc.2.1 hdg ht (fun h => kt h H locs ls hP hD hS hL) (fun h => kf h H locs ls hP hD hS hL)
theorem n_icmp_eq (hc : CX p s m args c cc nL own D cI cZ cW A) {a b : Nat} {off : Int} (tgt : Nat) (hdg : decode cc pc = .ok (.if_icmp .eq off, 3)) (ht : (pc : Int) + off = (tgt : Int)) (ha : a < 2 ^ 31) (hb : b < 2 ^ 31) (kt : a = b → V p l e R s m args below meth c D A nL cells slots Q ws tgt lv st) (kf : a ≠ b → V p l e R s m args below meth c D A nL cells slots Q ws (pc + 3) lv st) : V p l e R s m args below meth c D A nL cells slots Q ws pc lv (.int (nI b) :: .int (nI a) :: st) :=
  r_icmp_eq hc tgt hdg ht (fun h => kt ((nI_eq ha hb).mp h)) (fun h => kf (fun q => h ((nI_eq ha hb).mpr q)))
theorem n_icmp_ne (hc : CX p s m args c cc nL own D cI cZ cW A) {a b : Nat} {off : Int} (tgt : Nat) (hdg : decode cc pc = .ok (.if_icmp .ne off, 3)) (ht : (pc : Int) + off = (tgt : Int)) (ha : a < 2 ^ 31) (hb : b < 2 ^ 31) (kt : a ≠ b → V p l e R s m args below meth c D A nL cells slots Q ws tgt lv st) (kf : a = b → V p l e R s m args below meth c D A nL cells slots Q ws (pc + 3) lv st) : V p l e R s m args below meth c D A nL cells slots Q ws pc lv (.int (nI b) :: .int (nI a) :: st) :=
  r_icmp_ne hc tgt hdg ht (fun h => kt (fun q => h ((nI_eq ha hb).mpr q))) (fun h => kf ((nI_eq ha hb).mp h))
theorem n_icmp_lt (hc : CX p s m args c cc nL own D cI cZ cW A) {a b : Nat} {off : Int} (tgt : Nat) (hdg : decode cc pc = .ok (.if_icmp .lt off, 3)) (ht : (pc : Int) + off = (tgt : Int)) (ha : a < 2 ^ 31) (hb : b < 2 ^ 31) (kt : a < b → V p l e R s m args below meth c D A nL cells slots Q ws tgt lv st) (kf : b ≤ a → V p l e R s m args below meth c D A nL cells slots Q ws (pc + 3) lv st) : V p l e R s m args below meth c D A nL cells slots Q ws pc lv (.int (nI b) :: .int (nI a) :: st) :=
  r_icmp_lt hc tgt hdg ht (fun h => kt ((nI_ltI ha hb).mp h)) (fun h => kf (Nat.le_of_not_lt fun q => h ((nI_ltI ha hb).mpr q)))
theorem n_icmp_ge (hc : CX p s m args c cc nL own D cI cZ cW A) {a b : Nat} {off : Int} (tgt : Nat) (hdg : decode cc pc = .ok (.if_icmp .ge off, 3)) (ht : (pc : Int) + off = (tgt : Int)) (ha : a < 2 ^ 31) (hb : b < 2 ^ 31) (kt : b ≤ a → V p l e R s m args below meth c D A nL cells slots Q ws tgt lv st) (kf : a < b → V p l e R s m args below meth c D A nL cells slots Q ws (pc + 3) lv st) : V p l e R s m args below meth c D A nL cells slots Q ws pc lv (.int (nI b) :: .int (nI a) :: st) :=
  r_icmp_ge hc tgt hdg ht (fun h => kt ((nI_leI hb ha).mp h)) (fun h => kf (Nat.lt_of_not_le fun q => h ((nI_leI hb ha).mpr q)))
theorem n_icmp_gt (hc : CX p s m args c cc nL own D cI cZ cW A) {a b : Nat} {off : Int} (tgt : Nat) (hdg : decode cc pc = .ok (.if_icmp .gt off, 3)) (ht : (pc : Int) + off = (tgt : Int)) (ha : a < 2 ^ 31) (hb : b < 2 ^ 31) (kt : b < a → V p l e R s m args below meth c D A nL cells slots Q ws tgt lv st) (kf : a ≤ b → V p l e R s m args below meth c D A nL cells slots Q ws (pc + 3) lv st) : V p l e R s m args below meth c D A nL cells slots Q ws pc lv (.int (nI b) :: .int (nI a) :: st) :=
  r_icmp_gt hc tgt hdg ht (fun h => kt ((nI_ltI hb ha).mp h)) (fun h => kf (Nat.le_of_not_lt fun q => h ((nI_ltI hb ha).mpr q)))
theorem n_icmp_le (hc : CX p s m args c cc nL own D cI cZ cW A) {a b : Nat} {off : Int} (tgt : Nat) (hdg : decode cc pc = .ok (.if_icmp .le off, 3)) (ht : (pc : Int) + off = (tgt : Int)) (ha : a < 2 ^ 31) (hb : b < 2 ^ 31) (kt : a ≤ b → V p l e R s m args below meth c D A nL cells slots Q ws tgt lv st) (kf : b < a → V p l e R s m args below meth c D A nL cells slots Q ws (pc + 3) lv st) : V p l e R s m args below meth c D A nL cells slots Q ws pc lv (.int (nI b) :: .int (nI a) :: st) :=
  r_icmp_le hc tgt hdg ht (fun h => kt ((nI_leI ha hb).mp h)) (fun h => kf (Nat.lt_of_not_le fun q => h ((nI_leI ha hb).mpr q)))
theorem z_if_eq (hc : CX p s m args c cc nL own D cI cZ cW A) {b : Bool} {off : Int} (tgt : Nat) (hdg : decode cc pc = .ok (.ifCond .eq off, 3)) (ht : (pc : Int) + off = (tgt : Int)) (kt : b = false → V p l e R s m args below meth c D A nL cells slots Q ws tgt lv st) (kf : b = true → V p l e R s m args below meth c D A nL cells slots Q ws (pc + 3) lv st) : V p l e R s m args below meth c D A nL cells slots Q ws pc lv (.int (zI b) :: st) :=
  r_if_eq hc tgt hdg ht (fun h => kt (zI_0.mp h)) (fun h => kf (by cases b with | false => exact absurd rfl h | true => rfl))
theorem z_if_ne (hc : CX p s m args c cc nL own D cI cZ cW A) {b : Bool} {off : Int} (tgt : Nat) (hdg : decode cc pc = .ok (.ifCond .ne off, 3)) (ht : (pc : Int) + off = (tgt : Int)) (kt : b = true → V p l e R s m args below meth c D A nL cells slots Q ws tgt lv st) (kf : b = false → V p l e R s m args below meth c D A nL cells slots Q ws (pc + 3) lv st) : V p l e R s m args below meth c D A nL cells slots Q ws pc lv (.int (zI b) :: st) :=
  r_if_ne hc tgt hdg ht (fun h => kt (by cases b with | false => exact absurd rfl h | true => rfl)) (fun h => kf (zI_0.mp h))
theorem e_if_lt (hc : CX p s m args c cc nL own D cI cZ cW A) {o : Option Nat} {off : Int} (tgt : Nat) (hdg : decode cc pc = .ok (.ifCond .lt off, 3)) (ht : (pc : Int) + off = (tgt : Int)) (ho : ∀ d, o = some d → d < 2 ^ 31) (kt : o = none → V p l e R s m args below meth c D A nL cells slots Q ws tgt lv st) (kf : ∀ d, o = some d → V p l e R s m args below meth c D A nL cells slots Q ws (pc + 3) lv st) : V p l e R s m args below meth c D A nL cells slots Q ws pc lv (.int (eI o) :: st) :=
  r_if_lt hc tgt hdg ht (fun h => kt ((eI_neg ho).mp h)) (fun h => by
    cases ho' : o with
    | none => exact absurd ((eI_neg ho).mpr ho') h
    | some d => exact kf d ho')
theorem e_if_ge (hc : CX p s m args c cc nL own D cI cZ cW A) {o : Option Nat} {off : Int} (tgt : Nat) (hdg : decode cc pc = .ok (.ifCond .ge off, 3)) (ht : (pc : Int) + off = (tgt : Int)) (ho : ∀ d, o = some d → d < 2 ^ 31) (kt : ∀ d, o = some d → V p l e R s m args below meth c D A nL cells slots Q ws tgt lv st) (kf : o = none → V p l e R s m args below meth c D A nL cells slots Q ws (pc + 3) lv st) : V p l e R s m args below meth c D A nL cells slots Q ws pc lv (.int (eI o) :: st) :=
  r_if_ge hc tgt hdg ht (fun h => by
    cases ho' : o with
    | none => rw [ho'] at h; exact absurd h (by decide)
    | some d => exact kt d ho') (fun h => kf (by
    cases ho' : o with
    | none => rfl
    | some d => rw [ho'] at h; exact absurd (nI_pos' (ho d ho')) h))
theorem e_icmp_eq (hc : CX p s m args c cc nL own D cI cZ cW A) {o : Option Nat} {off : Int} (tgt : Nat) (hdg : decode cc pc = .ok (.if_icmp .eq off, 3)) (ht : (pc : Int) + off = (tgt : Int)) (ho : ∀ d, o = some d → d < 2 ^ 31) (kt : o = none → V p l e R s m args below meth c D A nL cells slots Q ws tgt lv st) (kf : ∀ d, o = some d → V p l e R s m args below meth c D A nL cells slots Q ws (pc + 3) lv st) : V p l e R s m args below meth c D A nL cells slots Q ws pc lv (.int (-1) :: .int (eI o) :: st) :=
  r_icmp_eq hc tgt hdg ht (fun h => kt ((eI_m1 ho).mp h)) (fun h => by
    cases ho' : o with
    | none => exact absurd ((eI_m1 ho).mpr ho') h
    | some d => exact kf d ho')
theorem e_icmp_ne (hc : CX p s m args c cc nL own D cI cZ cW A) {o : Option Nat} {off : Int} (tgt : Nat) (hdg : decode cc pc = .ok (.if_icmp .ne off, 3)) (ht : (pc : Int) + off = (tgt : Int)) (ho : ∀ d, o = some d → d < 2 ^ 31) (kt : ∀ d, o = some d → V p l e R s m args below meth c D A nL cells slots Q ws tgt lv st) (kf : o = none → V p l e R s m args below meth c D A nL cells slots Q ws (pc + 3) lv st) : V p l e R s m args below meth c D A nL cells slots Q ws pc lv (.int (-1) :: .int (eI o) :: st) :=
  r_icmp_ne hc tgt hdg ht (fun h => by
    cases ho' : o with
    | none => exact absurd ((eI_m1 ho).mpr ho') h
    | some d => exact kt d ho') (fun h => kf ((eI_m1 ho).mp h))
theorem n_add (hc : CX p s m args c cc nL own D cI cZ cW A) {a b : Nat} (hdg : decode cc pc = .ok (.iadd, 1)) (kk : V p l e R s m args below meth c D A nL cells slots Q ws (pc + 1) lv (.int (nI (a + b)) :: st)) : V p l e R s m args below meth c D A nL cells slots Q ws pc lv (.int (nI b) :: .int (nI a) :: st) := r_iadd hc hdg (nI_add a b) kk
theorem n_sub (hc : CX p s m args c cc nL own D cI cZ cW A) {a b : Nat} (hdg : decode cc pc = .ok (.isub, 1)) (h : b ≤ a) (kk : V p l e R s m args below meth c D A nL cells slots Q ws (pc + 1) lv (.int (nI (a - b)) :: st)) : V p l e R s m args below meth c D A nL cells slots Q ws pc lv (.int (nI b) :: .int (nI a) :: st) := r_isub hc hdg (pk_sub h) kk
theorem n_mul (hc : CX p s m args c cc nL own D cI cZ cW A) {a b : Nat} (hdg : decode cc pc = .ok (.imul, 1)) (kk : V p l e R s m args below meth c D A nL cells slots Q ws (pc + 1) lv (.int (nI (a * b)) :: st)) : V p l e R s m args below meth c D A nL cells slots Q ws pc lv (.int (nI b) :: .int (nI a) :: st) := r_imul hc hdg (pk_mul a b) kk
theorem nx_xor' (a b : Nat) : nI a ^^^ nI b = nI (a ^^^ b) := by
  apply Int32.toBitVec_inj.mp
  show (BitVec.ofNat 32 a ^^^ BitVec.ofNat 32 b) = BitVec.ofNat 32 (a ^^^ b)
  apply BitVec.eq_of_getLsbD_eq
  intro i hi
  simp [BitVec.getLsbD_ofNat, hi]
theorem n_xor (hc : CX p s m args c cc nL own D cI cZ cW A) {a b : Nat} (hdg : decode cc pc = .ok (.ixor, 1)) (kk : V p l e R s m args below meth c D A nL cells slots Q ws (pc + 1) lv (.int (nI (a ^^^ b)) :: st)) : V p l e R s m args below meth c D A nL cells slots Q ws pc lv (.int (nI b) :: .int (nI a) :: st) := r_ixor hc hdg (nx_xor' a b) kk
theorem n_div (hc : CX p s m args c cc nL own D cI cZ cW A) {a b : Nat} (hdg : decode cc pc = .ok (.idiv, 1)) (ha : a < 2 ^ 31) (h0 : 0 < b) (hb : b < 2 ^ 31) (kk : V p l e R s m args below meth c D A nL cells slots Q ws (pc + 1) lv (.int (nI (a / b)) :: st)) : V p l e R s m args below meth c D A nL cells slots Q ws pc lv (.int (nI b) :: .int (nI a) :: st) := r_idiv hc hdg (nI_ne0 h0 hb) (pk_div ha h0 hb) kk
theorem n_rem (hc : CX p s m args c cc nL own D cI cZ cW A) {a b : Nat} (hdg : decode cc pc = .ok (.irem, 1)) (ha : a < 2 ^ 31) (h0 : 0 < b) (hb : b < 2 ^ 31) (kk : V p l e R s m args below meth c D A nL cells slots Q ws (pc + 1) lv (.int (nI (a % b)) :: st)) : V p l e R s m args below meth c D A nL cells slots Q ws pc lv (.int (nI b) :: .int (nI a) :: st) := r_irem hc hdg (nI_ne0 h0 hb) (pk_rem ha h0 hb) kk
theorem r_get (hc : CX p s m args c cc nL own D cI cZ cW A) {ref C : String} {T : u_T} {N ci index a : Nat} {fs : List Value} {v : Value} (hin : ∀ w ∈ u_ws C T N, w ∈ wsL_law) (q0 : Nat) (he : ws[q0]? = some (a, .inr (ci, fs))) (hcl : vwCl[ci]? = some (C, T, N)) (k : Nat) (hk : k < N) (hlk : Cond.fieldLink own index ref (T k).2.1 (T k).2.2.1 ∈ wsL_law) (href : (T k).1 = ref) (hv : fs[k]? = some v) (hdg : decode cc pc = .ok (.getfield index, 3)) (kk : V p l e R s m args below meth c D A nL cells slots Q ws (pc + 3) lv (v :: st)) : V p l e R s m args below meth c D A nL cells slots Q ws pc lv (.ref a :: st) :=
  fun H locs ls hP hD hS hL => va_get hc.1 hc.2.1 hc.2.2.2.2.1 hin hc.2.2.2.1 hc.2.2.2.2.2.1.1 hP q0 he hcl k hk (hc.2.2.2.2.1 _ hlk) (fun _ h => href ▸ h) hv hdg (kk H locs ls hP hD hS hL)
theorem r_getR (hc : CX p s m args c cc nL own D cI cZ cW A) {ref C : String} {T : u_T} {N ci index a : Nat} {fs : List Value} {v : Value} (hin : ∀ w ∈ u_ws C T N, w ∈ wsL_law) (hro : RO D A s (a, .inr (ci, fs))) (hcl : vwCl[ci]? = some (C, T, N)) (k : Nat) (hk : k < N) (hlk : Cond.fieldLink own index ref (T k).2.1 (T k).2.2.1 ∈ wsL_law) (href : (T k).1 = ref) (hv : fs[k]? = some v) (hdg : decode cc pc = .ok (.getfield index, 3)) (kk : V p l e R s m args below meth c D A nL cells slots Q ws (pc + 3) lv (v :: st)) : V p l e R s m args below meth c D A nL cells slots Q ws pc lv (.ref a :: st) :=
  fun H locs ls hP hD hS hL => va_get hc.1 hc.2.1 hc.2.2.2.2.1 hin hc.2.2.2.1 hc.2.2.2.2.2.1.1 (hro.at hS) 0 rfl hcl k hk (hc.2.2.2.2.1 _ hlk) (fun _ h => href ▸ h) hv hdg (kk H locs ls hP hD hS hL)
theorem r_getN (hc : CX p s m args c cc nL own D cI cZ cW A) {ref C host : String} {T : u_T} {N ci index a : Nat} {fs : List Value} {v : Value} (hin : ∀ w ∈ u_ws C T N, w ∈ wsL_law) (q0 : Nat) (he : ws[q0]? = some (a, .inr (ci, fs))) (hcl : vwCl[ci]? = some (C, T, N)) (k : Nat) (hk : k < N) (hlk : Cond.fieldLinkNest own index ref (T k).2.1 (T k).2.2.1 host ∈ NWl) (href : (T k).1 = ref) (hv : fs[k]? = some v) (hdg : decode cc pc = .ok (.getfield index, 3)) (kk : V p l e R s m args below meth c D A nL cells slots Q ws (pc + 3) lv (v :: st)) : V p l e R s m args below meth c D A nL cells slots Q ws pc lv (.ref a :: st) :=
  fun H locs ls hP hD hS hL => va_getN hc.1 hc.2.1 hc.2.2.2.2.1 hin hc.2.2.2.1 hc.2.2.2.2.2.1.1 hP q0 he hcl k hk (va_Nw.use rfl (hc.2.2.2.2.2.1.2 _ hlk)) (fun _ h => href ▸ h) hv hdg (kk H locs ls hP hD hS hL)
theorem r_getRN (hc : CX p s m args c cc nL own D cI cZ cW A) {ref C host : String} {T : u_T} {N ci index a : Nat} {fs : List Value} {v : Value} (hin : ∀ w ∈ u_ws C T N, w ∈ wsL_law) (hro : RO D A s (a, .inr (ci, fs))) (hcl : vwCl[ci]? = some (C, T, N)) (k : Nat) (hk : k < N) (hlk : Cond.fieldLinkNest own index ref (T k).2.1 (T k).2.2.1 host ∈ NWl) (href : (T k).1 = ref) (hv : fs[k]? = some v) (hdg : decode cc pc = .ok (.getfield index, 3)) (kk : V p l e R s m args below meth c D A nL cells slots Q ws (pc + 3) lv (v :: st)) : V p l e R s m args below meth c D A nL cells slots Q ws pc lv (.ref a :: st) :=
  fun H locs ls hP hD hS hL => va_getN hc.1 hc.2.1 hc.2.2.2.2.1 hin hc.2.2.2.1 hc.2.2.2.2.2.1.1 (hro.at hS) 0 rfl hcl k hk (va_Nw.use rfl (hc.2.2.2.2.2.1.2 _ hlk)) (fun _ h => href ▸ h) hv hdg (kk H locs ls hP hD hS hL)
theorem r_put (hc : CX p s m args c cc nL own D cI cZ cW A) {ref C : String} {T : u_T} {N ci index a : Nat} {fs : List Value} {v : Value} {ws' : va_W} (hin : ∀ w ∈ u_ws C T N, w ∈ wsL_law) (ty0 : Nat → FieldType) (hty : ∀ k, k < N → parseFieldDescriptor (T k).2.2.1 = some (ty0 k)) (hnm : ∀ a, a < N → ∀ b, b < N → a ≠ b → (T a).2.1 ≠ (T b).2.1) (q0 : Nat) (he : ws[q0]? = some (a, .inr (ci, fs))) (hcl : vwCl[ci]? = some (C, T, N)) (k : Nat) (hk : k < N) (hlk : Cond.fieldLink own index ref (T k).2.1 (T k).2.2.1 ∈ wsL_law) (href : (T k).1 = ref) (hfin : (T k).2.2.2 = false) (hn : narrow (ty0 k) v = v) (hfit : fits (ty0 k) v = true) (hl : k < fs.length) (hw : ws.set q0 (a, .inr (ci, fs.set k v)) = ws') (hdg : decode cc pc = .ok (.putfield index, 3)) (kk : V p l e R s m args below meth c D A nL cells slots Q ws' (pc + 3) lv st) : V p l e R s m args below meth c D A nL cells slots Q ws pc lv (v :: .ref a :: st) :=
  fun H locs ls hP hD hS hL => va_put hc.1 hc.2.1 hc.2.2.2.2.1 hin ty0 hty hnm hc.2.2.2.1 hc.2.2.2.2.2.1.1 hP hD hS q0 he hcl k hk (hc.2.2.2.2.1 _ hlk) (fun _ h => href ▸ h) hfin (hty k hk) hn hfit hl hdg (fun H1 locs1 hP1 hD1 hS1 => kk H1 locs1 ls (hw ▸ hP1) (hw ▸ hD1) hS1 hL)
theorem r_putN (hc : CX p s m args c cc nL own D cI cZ cW A) {ref C host : String} {T : u_T} {N ci index a : Nat} {fs : List Value} {v : Value} {ws' : va_W} (hin : ∀ w ∈ u_ws C T N, w ∈ wsL_law) (ty0 : Nat → FieldType) (hty : ∀ k, k < N → parseFieldDescriptor (T k).2.2.1 = some (ty0 k)) (hnm : ∀ a, a < N → ∀ b, b < N → a ≠ b → (T a).2.1 ≠ (T b).2.1) (q0 : Nat) (he : ws[q0]? = some (a, .inr (ci, fs))) (hcl : vwCl[ci]? = some (C, T, N)) (k : Nat) (hk : k < N) (hlk : Cond.fieldLinkNest own index ref (T k).2.1 (T k).2.2.1 host ∈ NWl) (href : (T k).1 = ref) (hfin : (T k).2.2.2 = false) (hn : narrow (ty0 k) v = v) (hfit : fits (ty0 k) v = true) (hl : k < fs.length) (hw : ws.set q0 (a, .inr (ci, fs.set k v)) = ws') (hdg : decode cc pc = .ok (.putfield index, 3)) (kk : V p l e R s m args below meth c D A nL cells slots Q ws' (pc + 3) lv st) : V p l e R s m args below meth c D A nL cells slots Q ws pc lv (v :: .ref a :: st) :=
  fun H locs ls hP hD hS hL => va_putN hc.1 hc.2.1 hc.2.2.2.2.1 hin ty0 hty hnm hc.2.2.2.1 hc.2.2.2.2.2.1.1 hP hD hS q0 he hcl k hk (va_Nw.use rfl (hc.2.2.2.2.2.1.2 _ hlk)) (fun _ h => href ▸ h) hfin (hty k hk) hn hfit hl hdg (fun H1 locs1 hP1 hD1 hS1 => kk H1 locs1 ls (hw ▸ hP1) (hw ▸ hD1) hS1 hL)
theorem r_putF (hc : CX p s m args c cc nL own D cI cZ cW A) {ref C : String} {T : u_T} {N ci index a : Nat} {fs : List Value} {v : Value} {ws' : va_W} (hin : ∀ w ∈ u_ws C T N, w ∈ wsL_law) (ty0 : Nat → FieldType) (hty : ∀ k, k < N → parseFieldDescriptor (T k).2.2.1 = some (ty0 k)) (hnm : ∀ a, a < N → ∀ b, b < N → a ≠ b → (T a).2.1 ≠ (T b).2.1) (q0 : Nat) (he : ws[q0]? = some (a, .inr (ci, fs))) (hcl : vwCl[ci]? = some (C, T, N)) (k : Nat) (hk : k < N) (hlk : Cond.fieldLink own index ref (T k).2.1 (T k).2.2.1 ∈ wsL_law) (href : (T k).1 = ref) (hfin : (T k).2.2.2 = true) (hin2 : meth.name = "<init>") (hdecl : (T k).1 = own) (hn : narrow (ty0 k) v = v) (hfit : fits (ty0 k) v = true) (hl : k < fs.length) (hw : ws.set q0 (a, .inr (ci, fs.set k v)) = ws') (hdg : decode cc pc = .ok (.putfield index, 3)) (kk : V p l e R s m args below meth c D A nL cells slots Q ws' (pc + 3) lv st) : V p l e R s m args below meth c D A nL cells slots Q ws pc lv (v :: .ref a :: st) :=
  fun H locs ls hP hD hS hL => va_putF hc.1 hc.2.1 hc.2.2.2.2.1 hin ty0 hty hnm hc.2.2.2.1 hc.2.2.2.2.2.1.1 hP hD hS q0 he hcl k hk (hc.2.2.2.2.1 _ hlk) (fun _ h => href ▸ h) hfin hin2 hdecl (hty k hk) hn hfit hl hdg (fun H1 locs1 hP1 hD1 hS1 => kk H1 locs1 ls (hw ▸ hP1) (hw ▸ hD1) hS1 hL)
theorem k_read {α : Type} {kf : α → Int32} {f : Nat → α} {i : Nat} (h : i < 2 ^ 31) : (fun j => kf (f j)) (nI i).toNatClampNeg = kf (f i) := by
  show kf (f _) = _
  rw [nI_clamp h]
theorem r_iald (hc : CX p s m args c cc nL own D cI cZ cW A) {α : Type} (kf : α → Int32) {f : Nat → α} {n a i : Nat} (q0 : Nat) (ha : ws[q0]? = some (a, .inl (cI, n, .inl (fun j => kf (f j))))) (hi : i < n) (hn : n < 2 ^ 31) (hdg : decode cc pc = .ok (.iaload, 1)) (kk : V p l e R s m args below meth c D A nL cells slots Q ws (pc + 1) lv (.int (kf (f i)) :: st)) : V p l e R s m args below meth c D A nL cells slots Q ws pc lv (.int (nI i) :: .ref a :: st) :=
  fun H locs ls hP hD hS hL => va_iald hc.1 hc.2.1 hc.2.2.2.2.2.1.1 hP q0 0 ha rfl (vp_in_nI hi hn) hdg (by rw [nI_clamp (Nat.lt_trans hi hn)]; exact kk H locs ls hP hD hS hL)
theorem r_ialdR (hc : CX p s m args c cc nL own D cI cZ cW A) {α : Type} (kf : α → Int32) {f : Nat → α} {n a i : Nat} (hro : RO D A s (a, .inl (cI, n, .inl (fun j => kf (f j))))) (hi : i < n) (hn : n < 2 ^ 31) (hdg : decode cc pc = .ok (.iaload, 1)) (kk : V p l e R s m args below meth c D A nL cells slots Q ws (pc + 1) lv (.int (kf (f i)) :: st)) : V p l e R s m args below meth c D A nL cells slots Q ws pc lv (.int (nI i) :: .ref a :: st) :=
  fun H locs ls hP hD hS hL => va_iald hc.1 hc.2.1 hc.2.2.2.2.2.1.1 (hro.at hS) 0 0 rfl rfl (vp_in_nI hi hn) hdg (by rw [nI_clamp (Nat.lt_trans hi hn)]; exact kk H locs ls hP hD hS hL)
theorem r_zald (hc : CX p s m args c cc nL own D cI cZ cW A) {α : Type} (kf : α → Int32) {f : Nat → α} {n a i : Nat} (q0 : Nat) (ha : ws[q0]? = some (a, .inl (cZ, n, .inl (fun j => kf (f j))))) (hi : i < n) (hn : n < 2 ^ 31) (hdg : decode cc pc = .ok (.baload, 1)) (kk : V p l e R s m args below meth c D A nL cells slots Q ws (pc + 1) lv (.int (kf (f i)) :: st)) : V p l e R s m args below meth c D A nL cells slots Q ws pc lv (.int (nI i) :: .ref a :: st) :=
  fun H locs ls hP hD hS hL => va_zald hc.1 hc.2.1 hc.2.2.2.2.2.1.1 hP q0 1 ha rfl (vp_in_nI hi hn) hdg (by rw [nI_clamp (Nat.lt_trans hi hn)]; exact kk H locs ls hP hD hS hL)
theorem r_aldR (hc : CX p s m args c cc nL own D cI cZ cW A) {f : Nat → Option Nat} {n a i x : Nat} (hro : RO D A s (a, .inl (cW, n, .inr (.inr (.inr (.inr f)))))) (hi : i < n) (hn : n < 2 ^ 31) (hx : f i = some x) (hdg : decode cc pc = .ok (.aaload, 1)) (kk : V p l e R s m args below meth c D A nL cells slots Q ws (pc + 1) lv (.ref x :: st)) : V p l e R s m args below meth c D A nL cells slots Q ws pc lv (.int (nI i) :: .ref a :: st) :=
  fun H locs ls hP hD hS hL => va_aldq hc.1 hc.2.1 hc.2.2.2.2.2.1.1 (hro.at hS) 0 2 rfl rfl (vp_in_nI hi hn) hdg (by rw [nI_clamp (Nat.lt_trans hi hn), hx]; exact kk H locs ls hP hD hS hL)
theorem r_alenR (hc : CX p s m args c cc nL own D cI cZ cW A) {x : vp_A} {a : Nat} (t0 : Nat) {ca : ClassId} {ty : FieldType} (hro : RO D A s (a, .inl (ca, x))) (ht : (ty3 cI cZ cW)[t0]? = some (ca, ty)) {v : Int32} (hv : Int32.ofNat x.1 = v) (hdg : decode cc pc = .ok (.arraylength, 1)) (kk : V p l e R s m args below meth c D A nL cells slots Q ws (pc + 1) lv (.int v :: st)) : V p l e R s m args below meth c D A nL cells slots Q ws pc lv (.ref a :: st) :=
  fun H locs ls hP hD hS hL => va_alen hc.1 hc.2.1 hc.2.2.2.2.2.1.1 (hro.at hS) 0 t0 rfl ht hv hdg (kk H locs ls hP hD hS hL)
theorem r_alen (hc : CX p s m args c cc nL own D cI cZ cW A) {x : vp_A} {a : Nat} (q0 t0 : Nat) {ca : ClassId} {ty : FieldType} (ha : ws[q0]? = some (a, .inl (ca, x))) (ht : (ty3 cI cZ cW)[t0]? = some (ca, ty)) {v : Int32} (hv : Int32.ofNat x.1 = v) (hdg : decode cc pc = .ok (.arraylength, 1)) (kk : V p l e R s m args below meth c D A nL cells slots Q ws (pc + 1) lv (.int v :: st)) : V p l e R s m args below meth c D A nL cells slots Q ws pc lv (.ref a :: st) :=
  fun H locs ls hP hD hS hL => va_alen hc.1 hc.2.1 hc.2.2.2.2.2.1.1 hP q0 t0 ha ht hv hdg (kk H locs ls hP hD hS hL)
theorem r_iast (hc : CX p s m args c cc nL own D cI cZ cW A) {α : Type} (kf : α → Int32) {f : Nat → α} {n a i : Nat} (v : α) {ws' : va_W} (q0 : Nat) (ha : ws[q0]? = some (a, .inl (cI, n, .inl (fun j => kf (f j))))) (hi : i < n) (hn : n < 2 ^ 31) (hw : ws.set q0 (a, .inl (cI, n, .inl (fun j => kf (va_up f i v j)))) = ws') (hdg : decode cc pc = .ok (.iastore, 1)) (kk : V p l e R s m args below meth c D A nL cells slots Q ws' (pc + 1) lv st) : V p l e R s m args below meth c D A nL cells slots Q ws pc lv (.int (kf v) :: .int (nI i) :: .ref a :: st) :=
  fun H locs ls hP hD hS hL => va_iast hc.1 hc.2.1 hc.2.2.2.2.2.1.1 hP hD hS q0 0 ha rfl (vp_in_nI hi hn) hdg (fun H1 locs1 hP1 hD1 hS1 => by
    rw [kI_up kf f i v (Nat.lt_trans hi hn)] at hP1 hD1
    exact kk H1 locs1 ls (hw ▸ hP1) (hw ▸ hD1) hS1 hL)
theorem r_zast (hc : CX p s m args c cc nL own D cI cZ cW A) {f : Nat → Bool} {n a i : Nat} (v : Bool) {ws' : va_W} (q0 : Nat) (ha : ws[q0]? = some (a, .inl (cZ, n, .inl (fun j => zI (f j))))) (hi : i < n) (hn : n < 2 ^ 31) (hw : ws.set q0 (a, .inl (cZ, n, .inl (fun j => zI (va_up f i v j)))) = ws') (hdg : decode cc pc = .ok (.bastore, 1)) (kk : V p l e R s m args below meth c D A nL cells slots Q ws' (pc + 1) lv st) : V p l e R s m args below meth c D A nL cells slots Q ws pc lv (.int (zI v) :: .int (nI i) :: .ref a :: st) :=
  fun H locs ls hP hD hS hL => va_zast hc.1 hc.2.1 hc.2.2.2.2.2.1.1 hP hD hS q0 1 ha rfl (vp_in_nI hi hn) hdg (fun H1 locs1 hP1 hD1 hS1 => by
    rw [vz_nar, kI_up zI f i v (Nat.lt_trans hi hn)] at hP1 hD1
    exact kk H1 locs1 ls (hw ▸ hP1) (hw ▸ hD1) hS1 hL)
end RULES2
end
section
/-! contracts: what a method takes, what it leaves; their start, their end, their use -/
def PC (D : va_G) (cI cZ cW : ClassId) (ws ro : va_W) (sz : Nat) (U : State) : Prop := U.heap.size = sz ∧ EV D cI cZ cW U ∧ va_P D vwCl ws U.heap ∧ va_D (fun _ => True) ws ∧ ∀ q ∈ ro, va_at D vwCl q U.heap ∧ ¬ va_A ws sz q.1
def QB (D : va_G) (A : Nat → Prop) {S : Type} (W' : S → va_W) (u : S) (t : State) : Prop := va_P D vwCl (W' u) t.heap ∧ va_D A (W' u)
abbrev RM (fr lo mc ms : Nat) : Room := { frames := fr, cells := mc, slots := ms, locals := lo }
def CtI (l : Launch) (y : MethodName) (cc : ByteArray) (maxL : Nat) (ret : Option FieldType) (fr lo mc ms : Nat) (D : va_G) (cI cZ cW : ClassId) (av : List Value) (ws ro : va_W) {S : Type} (post : Int32 → S → Prop) (W' : S → va_W) : Prop :=
  ∀ sz, Met l y (.code y cc maxL ret :: wsL_law) (RM fr lo mc ms) (va_Pc av (PC D cI cZ cW ws ro sz)) (va_Qi post (QB D (va_A ws sz) W') (va_A ws sz)) mc ms (va_A ws sz)
def CtL (l : Launch) (y : MethodName) (cc : ByteArray) (maxL : Nat) (ret : Option FieldType) (fr lo mc ms : Nat) (D : va_G) (cI cZ cW : ClassId) (av : List Value) (ws ro : va_W) {S : Type} (post : Int64 → S → Prop) (W' : S → va_W) : Prop :=
  ∀ sz, Met l y (.code y cc maxL ret :: wsL_law) (RM fr lo mc ms) (va_Pc av (PC D cI cZ cW ws ro sz)) (va_Ql post (QB D (va_A ws sz) W') (va_A ws sz)) mc ms (va_A ws sz)
def CtV (l : Launch) (y : MethodName) (cc : ByteArray) (maxL : Nat) (ret : Option FieldType) (fr lo mc ms : Nat) (D : va_G) (cI cZ cW : ClassId) (av : List Value) (ws ro : va_W) {S : Type} (post : S → Prop) (W' : S → va_W) : Prop :=
  ∀ sz, Met l y (.code y cc maxL ret :: wsL_law) (RM fr lo mc ms) (va_Pc av (PC D cI cZ cW ws ro sz)) (va_Qv post (QB D (va_A ws sz) W') (va_A ws sz)) mc ms (va_A ws sz)
theorem PC.blind {D : va_G} {cI cZ cW : ClassId} {ws ro : va_W} {sz : Nat} {av : List Value} : FrameBlind (va_Pc av (PC D cI cZ cW ws ro sz)) := fun a U g mk h => ⟨h.1, h.2.1, h.2.2.1.calling, h.2.2.2.1, h.2.2.2.2⟩
theorem wlaw_good {y : MethodName} {cc : ByteArray} {maxL : Nat} {ret : Option FieldType} (hco : Cond.code y cc maxL ret ∈ wsL_law) : GoodIn wsL_law (.code y cc maxL ret :: wsL_law) := fun w hw => (List.mem_cons.mp hw).elim (fun h => h ▸ ⟨hco, good_of_word (List.all_eq_true.mp good_law _ hco)⟩) (fun h => ⟨h, good_of_word (List.all_eq_true.mp good_law _ h)⟩)
theorem CtI.mk {l : Launch} {y : MethodName} {cc : ByteArray} {maxL : Nat} {ret : Option FieldType} {fr lo mc ms : Nat} {D : va_G} {cI cZ cW : ClassId} {av : List Value} {ws ro : va_W} {S : Type} {post : Int32 → S → Prop} {W' : S → va_W} (hy : plainName y.cls = true) (hlen : (lg_sl av).length ≤ maxL)
    (body : ∀ (p : Program) (e : Env) (s : State) (m : MethodId) (args : Array Value) (below : List Frame) (meth : Method) (c : Code) (A : Nat → Prop), CX p s m args c cc maxL y.cls D cI cZ cW A → meth.sig.returnType = ret → meth.locks = false → meth.name = y.name → (∀ q ∈ ro, RO D A s q) →
      V p l e (RM fr lo mc ms) s m args below meth c D A maxL 0 0 (MQ below (va_Qi post (QB D A W') A) args s mc ms A) ws 0 (lv_args 0 av) []) : CtI l y cc maxL ret fr lo mc ms D cI cZ cW av ws ro post W' := by
  intro sz
  refine Met.ofW (cc := cc) (maxL := maxL) (ret := ret) hy rfl ?_
  intro p e s m args below meth c s₁ B hml hv
  obtain ⟨rfl, hsz, hE, hP, hD0, hro⟩ := hv
  subst hsz
  have hts : ∀ w ∈ wsL_law, w.before av.toArray s = true := fun w hw => atoms_spec (ws := .code y cc maxL ret :: wsL_law) B.pre w (List.mem_cons_of_mem _ hw)
  have hA : ∀ q : Nat, s.heap.size ≤ q → va_A ws s.heap.size q := fun q h => Or.inr h
  have hl := lv_entry av (n := maxL) hlen
  rw [lg_entry_eq]
  exact body p e s m _ below meth c (va_A ws s.heap.size) ⟨B.exec, B.bytes, hml, findClass_of_methodNamed B.named, hts, hE, hA⟩ B.returns B.notSynchronized (name_of_methodNamed B.named B.method).1 hro s.heap [] _ hP (hD0.self (sz := s.heap.size)) va_S.rf hl
theorem CtL.mk {l : Launch} {y : MethodName} {cc : ByteArray} {maxL : Nat} {ret : Option FieldType} {fr lo mc ms : Nat} {D : va_G} {cI cZ cW : ClassId} {av : List Value} {ws ro : va_W} {S : Type} {post : Int64 → S → Prop} {W' : S → va_W} (hy : plainName y.cls = true) (hlen : (lg_sl av).length ≤ maxL)
    (body : ∀ (p : Program) (e : Env) (s : State) (m : MethodId) (args : Array Value) (below : List Frame) (meth : Method) (c : Code) (A : Nat → Prop), CX p s m args c cc maxL y.cls D cI cZ cW A → meth.sig.returnType = ret → meth.locks = false → meth.name = y.name → (∀ q ∈ ro, RO D A s q) →
      V p l e (RM fr lo mc ms) s m args below meth c D A maxL 0 0 (MQ below (va_Ql post (QB D A W') A) args s mc ms A) ws 0 (lv_args 0 av) []) : CtL l y cc maxL ret fr lo mc ms D cI cZ cW av ws ro post W' := by
  intro sz
  refine Met.ofW (cc := cc) (maxL := maxL) (ret := ret) hy rfl ?_
  intro p e s m args below meth c s₁ B hml hv
  obtain ⟨rfl, hsz, hE, hP, hD0, hro⟩ := hv
  subst hsz
  have hts : ∀ w ∈ wsL_law, w.before av.toArray s = true := fun w hw => atoms_spec (ws := .code y cc maxL ret :: wsL_law) B.pre w (List.mem_cons_of_mem _ hw)
  have hA : ∀ q : Nat, s.heap.size ≤ q → va_A ws s.heap.size q := fun q h => Or.inr h
  have hl := lv_entry av (n := maxL) hlen
  rw [lg_entry_eq]
  exact body p e s m _ below meth c (va_A ws s.heap.size) ⟨B.exec, B.bytes, hml, findClass_of_methodNamed B.named, hts, hE, hA⟩ B.returns B.notSynchronized (name_of_methodNamed B.named B.method).1 hro s.heap [] _ hP (hD0.self (sz := s.heap.size)) va_S.rf hl
theorem CtV.mk {l : Launch} {y : MethodName} {cc : ByteArray} {maxL : Nat} {ret : Option FieldType} {fr lo mc ms : Nat} {D : va_G} {cI cZ cW : ClassId} {av : List Value} {ws ro : va_W} {S : Type} {post : S → Prop} {W' : S → va_W} (hy : plainName y.cls = true) (hlen : (lg_sl av).length ≤ maxL)
    (body : ∀ (p : Program) (e : Env) (s : State) (m : MethodId) (args : Array Value) (below : List Frame) (meth : Method) (c : Code) (A : Nat → Prop), CX p s m args c cc maxL y.cls D cI cZ cW A → meth.sig.returnType = ret → meth.locks = false → meth.name = y.name → (∀ q ∈ ro, RO D A s q) →
      V p l e (RM fr lo mc ms) s m args below meth c D A maxL 0 0 (MQ below (va_Qv post (QB D A W') A) args s mc ms A) ws 0 (lv_args 0 av) []) : CtV l y cc maxL ret fr lo mc ms D cI cZ cW av ws ro post W' := by
  intro sz
  refine Met.ofW (cc := cc) (maxL := maxL) (ret := ret) hy rfl ?_
  intro p e s m args below meth c s₁ B hml hv
  obtain ⟨rfl, hsz, hE, hP, hD0, hro⟩ := hv
  subst hsz
  have hts : ∀ w ∈ wsL_law, w.before av.toArray s = true := fun w hw => atoms_spec (ws := .code y cc maxL ret :: wsL_law) B.pre w (List.mem_cons_of_mem _ hw)
  have hA : ∀ q : Nat, s.heap.size ≤ q → va_A ws s.heap.size q := fun q h => Or.inr h
  have hl := lv_entry av (n := maxL) hlen
  rw [lg_entry_eq]
  exact body p e s m _ below meth c (va_A ws s.heap.size) ⟨B.exec, B.bytes, hml, findClass_of_methodNamed B.named, hts, hE, hA⟩ B.returns B.notSynchronized (name_of_methodNamed B.named B.method).1 hro s.heap [] _ hP (hD0.self (sz := s.heap.size)) va_S.rf hl
theorem va_P.places {D : va_G} {ws wc : va_W} {H : Heap} (isC : List Nat) (hC : isC.map (fun i => ws[i]?) = wc.map some) (hP : va_P D vwCl ws H) : va_P D vwCl wc H := by
  intro k x hx
  have h1 : (isC.map (fun i => ws[i]?))[k]? = some (some x) := by rw [hC, List.getElem?_map, hx]; rfl
  rw [List.getElem?_map] at h1
  cases hi : isC[k]? with
  | none => rw [hi] at h1; cases h1
  | some i => rw [hi] at h1; exact hP i x (Option.some.inj h1)
theorem va_D.placesT {A : Nat → Prop} {ws wc : va_W} (isC : List Nat) (hnd : va_nd isC = true) (hC : isC.map (fun i => ws[i]?) = wc.map some) (hD : va_D A ws) : va_D (fun _ => True) wc := (hD.sub isC hnd hC).weaken (fun _ _ _ _ => trivial)
section RULES3
variable {p : Program} {l : Launch} {e : Env} {R : Room} {s : State} {m : MethodId} {args : Array Value} {below : List Frame} {meth : Method} {c : Code} {D : va_G} {A : Nat → Prop} {nL cells slots : Nat} {Q : State → Prop} {ws : va_W} {pc : Nat} {lv : List (Nat × Value)} {st : List Value}
variable {cc : ByteArray} {own : String} {cI cZ cW : ClassId}
theorem r_iret (hc : CX p s m args c cc nL own D cI cZ cW A) {S : Type} {post : Int32 → S → Prop} {W' : S → va_W} {r : Int32} (hr : meth.sig.returnType = some .int) (hlk : meth.locks = false) (u : S) (hp : post r u) (hw : ws = W' u) (hdg : decode cc pc = .ok (.ireturn, 1)) : V p l e R s m args below meth c D A nL cells slots (MQ below (va_Qi post (QB D A W') A) args s cells slots A) ws pc lv [.int r] :=
  fun H locs ls hP hD hS hL => W.iret (v := r) hc.1 hc.2.1 hr (fun t ht hW => ⟨⟨r, u, rfl, hp, by rw [ht, ← hw]; exact hP, by rw [← hw]; exact hD⟩, hS.F ht⟩) hS.2.2 hdg hlk
theorem r_zret (hc : CX p s m args c cc nL own D cI cZ cW A) {S : Type} {post : Int32 → S → Prop} {W' : S → va_W} {b : Bool} (hr : meth.sig.returnType = some .boolean) (hlk : meth.locks = false) (u : S) (hp : post (zI b) u) (hw : ws = W' u) (hdg : decode cc pc = .ok (.ireturn, 1)) : V p l e R s m args below meth c D A nL cells slots (MQ below (va_Qi post (QB D A W') A) args s cells slots A) ws pc lv [.int (zI b)] :=
  fun H locs ls hP hD hS hL => W.zret (v := zI b) hc.1 hc.2.1 hr (nz_bool b) (fun t ht hW => ⟨⟨zI b, u, rfl, hp, by rw [ht, ← hw]; exact hP, by rw [← hw]; exact hD⟩, hS.F ht⟩) hS.2.2 hdg hlk
theorem r_lret (hc : CX p s m args c cc nL own D cI cZ cW A) {S : Type} {post : Int64 → S → Prop} {W' : S → va_W} {r : Int64} (hr : meth.sig.returnType = some .long) (hlk : meth.locks = false) (u : S) (hp : post r u) (hw : ws = W' u) (hdg : decode cc pc = .ok (.lreturn, 1)) : V p l e R s m args below meth c D A nL cells slots (MQ below (va_Ql post (QB D A W') A) args s cells slots A) ws pc lv [.long r] :=
  fun H locs ls hP hD hS hL => W.lret (v := r) hc.1 hc.2.1 hr (fun t ht hW => ⟨⟨r, u, rfl, hp, by rw [ht, ← hw]; exact hP, by rw [← hw]; exact hD⟩, hS.F ht⟩) hS.2.2 hdg hlk
theorem r_vret (hc : CX p s m args c cc nL own D cI cZ cW A) {S : Type} {post : S → Prop} {W' : S → va_W} (hr : meth.sig.returnType = none) (hlk : meth.locks = false) (u : S) (hp : post u) (hw : ws = W' u) (hdg : decode cc pc = .ok (.return_, 1)) : V p l e R s m args below meth c D A nL cells slots (MQ below (va_Qv post (QB D A W') A) args s cells slots A) ws pc lv [] :=
  fun H locs ls hP hD hS hL => W.vret hc.1 hc.2.1 hr (fun t ht hW => ⟨⟨u, rfl, hp, by rw [ht, ← hw]; exact hP, by rw [← hw]; exact hD⟩, hS.F ht⟩) hS.2.2 hdg hlk
/-- the callee's cells that are only read -/
theorem ro_ok {wc wr : va_W} {H : Heap} {locs : List Loc} (isC isR : List Nat) (hC : isC.map (fun i => ws[i]?) = wc.map some) (hP : va_P D vwCl ws H) (hD : va_D A ws) (hS : va_S A s.heap H locs) (hA : ∀ q, s.heap.size ≤ q → A q) {rc : va_W} (hro : ∀ q ∈ rc, (∃ k : Nat, ws[k]? = some q ∧ k ∉ isC) ∨ RO D A s q) : ∀ q ∈ rc, va_at D vwCl q H ∧ ¬ va_A wc H.size q.1 := by
  intro q hq
  have at' : ∀ (k : Nat) (x : Nat × va_E), wc[k]? = some x → ∃ i, isC[k]? = some i ∧ ws[i]? = some x := by
    intro k x hx
    have h1 : (isC.map (fun i => ws[i]?))[k]? = some (some x) := by rw [hC, List.getElem?_map, hx]; rfl
    rw [List.getElem?_map] at h1
    cases hi : isC[k]? with
    | none => rw [hi] at h1; cases h1
    | some i => rw [hi] at h1; exact ⟨i, rfl, Option.some.inj h1⟩
  rcases hro q hq with ⟨k, hk, hn⟩ | hr
  · have ha := hP k q hk
    refine ⟨ha, fun h => ?_⟩
    rcases h with ⟨k2, e, h⟩ | h
    · obtain ⟨i, h3, h4⟩ := at' k2 (q.1, e) h
      have := hD.1 k i q (q.1, e) hk h4 rfl
      subst this
      exact hn (List.mem_of_getElem? h3)
    · exact absurd ha.lt (Nat.not_lt.mpr h)
  · have ha : va_at D vwCl q H := hr.1.kept (hS.2.1 _ hr.1.lt hr.2)
    refine ⟨ha, fun h => ?_⟩
    rcases h with ⟨k2, e, h⟩ | h
    · obtain ⟨i, h3, h4⟩ := at' k2 (q.1, e) h
      exact hr.2 (hD.2 i (q.1, e) h4)
    · exact absurd ha.lt (Nat.not_lt.mpr h)
theorem rv_ok {H : Heap} {locs : List Loc} {b ci : Nat} {qc : vw_C} (hE : EV D cI cZ cW s) (hP : va_P D vwCl ws H) (hS : va_S A s.heap H locs) (hcl : vwCl[ci]? = some qc) (hrv : (∃ (k : Nat) (fs : List Value), ws[k]? = some (b, Sum.inr (ci, fs))) ∨ ∃ fs : List Value, RO D A s (b, Sum.inr (ci, fs))) : ∃ cell : Cell, H[b]? = some cell ∧ cell.vm.isStatics = false ∧ s.vm.findClass qc.1 = some cell.cls := by
  rcases hrv with ⟨k, fs, hk⟩ | ⟨fs, hr⟩
  · exact va_recv hE.1 hP hcl hk
  · exact va_recv hE.1 (hr.at hS) hcl (q0 := 0) rfl
/-- a call of a method of an object -/
theorem r_callI (hc : CX p s m args c cc nL own D cI cZ cW A) {y : MethodName} {cc' : ByteArray} {maxL' fr lo mc ms index n : Nat} {ret' : Option FieldType} {As av : List Value} {wc rc wr : va_W} {S : Type} {post : Int32 → S → Prop} {W' : S → va_W} {b ci : Nat} {T : u_T} {N : Nat} (hM : CtI l y cc' maxL' ret' fr lo mc ms D cI cZ cW (.ref b :: As) wc rc post W') (hco : Cond.code y cc' maxL' ret' ∈ wsL_law) (hini : Cond.initialized y.cls ∈ wsL_law) (hml : Cond.methodLink own index y ∈ wsL_law) (hd : y.cls ≠ "java/lang/invoke/MethodHandle" ∧ y.cls ≠ "java/lang/invoke/VarHandle" ∧ (parseMethodDescriptor y.desc).map (fun d => d.parameters.length) = some n) (hn : As.length = n) (hR : fr + 1 ≤ R.frames ∧ 8 + (maxL' + 11) + lo ≤ R.locals) (hcells : cells + mc ≤ R.cells ∧ slots + ms ≤ R.slots) (him : Cond.instanceMethod y ∈ wsL_law) (hse : Cond.selects y.cls y y ∈ wsL_law) (hcl : vwCl[ci]? = some (y.cls, T, N)) (hrv : (∃ (k : Nat) (fs : List Value), ws[k]? = some (b, Sum.inr (ci, fs))) ∨ ∃ fs : List Value, RO D A s (b, Sum.inr (ci, fs))) (hst : As.reverse ++ .ref b :: st = av) (hrm : (st.map fun v => v.category).sum ≤ 8) (isC isR : List Nat) (hC : isC.map (fun i => ws[i]?) = wc.map some) (hRR : isR.map (fun i => ws[i]?) = wr.map some) (hndC : va_nd isC = true) (hnd : va_nd isR = true) (hdis : ∀ i ∈ isR, i ∉ isC) (hro : ∀ q ∈ rc, (∃ k : Nat, ws[k]? = some q ∧ k ∉ isC) ∨ RO D A s q) (hdg : decode cc pc = .ok (.invokevirtual index, 3)) (kk : ∀ (r : Int32) (u : S), post r u → V p l e R s m args below meth c D A nL (cells + mc) (slots + ms) Q (wr ++ W' u) (pc + 3) lv (.int r :: st)) : V p l e R s m args below meth c D A nL cells slots Q ws pc lv av := by
  intro H locs ls hP hD hS hL
  have hts := hc.2.2.2.2.1
  have hF := va_free (wc := wc) hD hS hc.2.2.2.2.2.2 isC hC
  subst hst
  exact va_calli (va_runV (Ts := wsL_law) (own := own) (C := y.cls) (n := n) (As := As) (rest := st) (nL := nL) ⟨hc.1, hc.2.1, hc.2.2.1, hc.2.2.2.1, hts⟩ (hM H.size) ⟨callB_of n hts (wlaw_good hco) rfl rfl rfl (hts _ hini) (hts _ hml) hd hR, hts _ him, hts _ hse⟩ ⟨PC.blind, rv_ok hc.2.2.2.2.2.1 hP hS hcl hrv, fun U hU hW => ⟨rfl, by rw [hU], hc.2.2.2.2.2.1.warm hW, by rw [hU]; exact va_P.places isC hC hP, va_D.placesT isC hndC hC hD, by rw [hU]; exact ro_ok (wr := wr) isC isR hC hP hD hS hc.2.2.2.2.2.2 hro⟩⟩ rfl hn hL.1 rfl (lv_room hrm) hdg hcells) hS (fun q _ h => hF q h) hF
    (fun r u t H1 locs1 ht hvm hw hB hz1 hk1 hS1 => by
      obtain ⟨hP1, hD1⟩ := hB
      rw [ht] at hP1
      obtain ⟨hP2, hD2⟩ := va_join (wr := wr) (w1 := W' u) hP hD isC isR hC hRR hnd hdis hk1 hF hP1 hD1
      exact kk r u hw H1 locs1 ls hP2 hD2 hS1 hL)
/-- a call of a static method -/
theorem r_callsI (hc : CX p s m args c cc nL own D cI cZ cW A) {y : MethodName} {cc' : ByteArray} {maxL' fr lo mc ms index n : Nat} {ret' : Option FieldType} {As av : List Value} {wc rc wr : va_W} {S : Type} {post : Int32 → S → Prop} {W' : S → va_W} (hM : CtI l y cc' maxL' ret' fr lo mc ms D cI cZ cW As wc rc post W') (hco : Cond.code y cc' maxL' ret' ∈ wsL_law) (hini : Cond.initialized y.cls ∈ wsL_law) (hml : Cond.methodLink own index y ∈ wsL_law) (hd : y.cls ≠ "java/lang/invoke/MethodHandle" ∧ y.cls ≠ "java/lang/invoke/VarHandle" ∧ (parseMethodDescriptor y.desc).map (fun d => d.parameters.length) = some n) (hn : As.length = n) (hR : fr + 1 ≤ R.frames ∧ 8 + (maxL' + 11) + lo ≤ R.locals) (hcells : cells + mc ≤ R.cells ∧ slots + ms ≤ R.slots) (hsm : Cond.static y ∈ wsL_law) (hst : As.reverse ++ st = av) (hrm : (st.map fun v => v.category).sum ≤ 8) (isC isR : List Nat) (hC : isC.map (fun i => ws[i]?) = wc.map some) (hRR : isR.map (fun i => ws[i]?) = wr.map some) (hndC : va_nd isC = true) (hnd : va_nd isR = true) (hdis : ∀ i ∈ isR, i ∉ isC) (hro : ∀ q ∈ rc, (∃ k : Nat, ws[k]? = some q ∧ k ∉ isC) ∨ RO D A s q) (hdg : decode cc pc = .ok (.invokestatic index, 3)) (kk : ∀ (r : Int32) (u : S), post r u → V p l e R s m args below meth c D A nL (cells + mc) (slots + ms) Q (wr ++ W' u) (pc + 3) lv (.int r :: st)) : V p l e R s m args below meth c D A nL cells slots Q ws pc lv av := by
  intro H locs ls hP hD hS hL
  have hts := hc.2.2.2.2.1
  have hF := va_free (wc := wc) hD hS hc.2.2.2.2.2.2 isC hC
  subst hst
  exact va_calli (va_runS (Ts := wsL_law) (own := own) (n := n) (As := As) (rest := st) (nL := nL) ⟨hc.1, hc.2.1, hc.2.2.1, hc.2.2.2.1, hts⟩ (hM H.size) ⟨callB_of n hts (wlaw_good hco) rfl rfl rfl (hts _ hini) (hts _ hml) hd hR, hts _ hsm⟩ ⟨PC.blind, fun U hU hW => ⟨rfl, by rw [hU], hc.2.2.2.2.2.1.warm hW, by rw [hU]; exact va_P.places isC hC hP, va_D.placesT isC hndC hC hD, by rw [hU]; exact ro_ok (wr := wr) isC isR hC hP hD hS hc.2.2.2.2.2.2 hro⟩⟩ rfl hn hL.1 rfl (lv_room hrm) hdg hcells) hS (fun q _ h => hF q h) hF
    (fun r u t H1 locs1 ht hvm hw hB hz1 hk1 hS1 => by
      obtain ⟨hP1, hD1⟩ := hB
      rw [ht] at hP1
      obtain ⟨hP2, hD2⟩ := va_join (wr := wr) (w1 := W' u) hP hD isC isR hC hRR hnd hdis hk1 hF hP1 hD1
      exact kk r u hw H1 locs1 ls hP2 hD2 hS1 hL)
/-- a call of a method of an object -/
theorem r_callL (hc : CX p s m args c cc nL own D cI cZ cW A) {y : MethodName} {cc' : ByteArray} {maxL' fr lo mc ms index n : Nat} {ret' : Option FieldType} {As av : List Value} {wc rc wr : va_W} {S : Type} {post : Int64 → S → Prop} {W' : S → va_W} {b ci : Nat} {T : u_T} {N : Nat} (hM : CtL l y cc' maxL' ret' fr lo mc ms D cI cZ cW (.ref b :: As) wc rc post W') (hco : Cond.code y cc' maxL' ret' ∈ wsL_law) (hini : Cond.initialized y.cls ∈ wsL_law) (hml : Cond.methodLink own index y ∈ wsL_law) (hd : y.cls ≠ "java/lang/invoke/MethodHandle" ∧ y.cls ≠ "java/lang/invoke/VarHandle" ∧ (parseMethodDescriptor y.desc).map (fun d => d.parameters.length) = some n) (hn : As.length = n) (hR : fr + 1 ≤ R.frames ∧ 8 + (maxL' + 11) + lo ≤ R.locals) (hcells : cells + mc ≤ R.cells ∧ slots + ms ≤ R.slots) (him : Cond.instanceMethod y ∈ wsL_law) (hse : Cond.selects y.cls y y ∈ wsL_law) (hcl : vwCl[ci]? = some (y.cls, T, N)) (hrv : (∃ (k : Nat) (fs : List Value), ws[k]? = some (b, Sum.inr (ci, fs))) ∨ ∃ fs : List Value, RO D A s (b, Sum.inr (ci, fs))) (hst : As.reverse ++ .ref b :: st = av) (hrm : (st.map fun v => v.category).sum ≤ 8) (isC isR : List Nat) (hC : isC.map (fun i => ws[i]?) = wc.map some) (hRR : isR.map (fun i => ws[i]?) = wr.map some) (hndC : va_nd isC = true) (hnd : va_nd isR = true) (hdis : ∀ i ∈ isR, i ∉ isC) (hro : ∀ q ∈ rc, (∃ k : Nat, ws[k]? = some q ∧ k ∉ isC) ∨ RO D A s q) (hdg : decode cc pc = .ok (.invokevirtual index, 3)) (kk : ∀ (r : Int64) (u : S), post r u → V p l e R s m args below meth c D A nL (cells + mc) (slots + ms) Q (wr ++ W' u) (pc + 3) lv (.long r :: st)) : V p l e R s m args below meth c D A nL cells slots Q ws pc lv av := by
  intro H locs ls hP hD hS hL
  have hts := hc.2.2.2.2.1
  have hF := va_free (wc := wc) hD hS hc.2.2.2.2.2.2 isC hC
  subst hst
  exact va_calll (va_runV (Ts := wsL_law) (own := own) (C := y.cls) (n := n) (As := As) (rest := st) (nL := nL) ⟨hc.1, hc.2.1, hc.2.2.1, hc.2.2.2.1, hts⟩ (hM H.size) ⟨callB_of n hts (wlaw_good hco) rfl rfl rfl (hts _ hini) (hts _ hml) hd hR, hts _ him, hts _ hse⟩ ⟨PC.blind, rv_ok hc.2.2.2.2.2.1 hP hS hcl hrv, fun U hU hW => ⟨rfl, by rw [hU], hc.2.2.2.2.2.1.warm hW, by rw [hU]; exact va_P.places isC hC hP, va_D.placesT isC hndC hC hD, by rw [hU]; exact ro_ok (wr := wr) isC isR hC hP hD hS hc.2.2.2.2.2.2 hro⟩⟩ rfl hn hL.1 rfl (lv_room hrm) hdg hcells) hS (fun q _ h => hF q h) hF
    (fun r u t H1 locs1 ht hvm hw hB hz1 hk1 hS1 => by
      obtain ⟨hP1, hD1⟩ := hB
      rw [ht] at hP1
      obtain ⟨hP2, hD2⟩ := va_join (wr := wr) (w1 := W' u) hP hD isC isR hC hRR hnd hdis hk1 hF hP1 hD1
      exact kk r u hw H1 locs1 ls hP2 hD2 hS1 hL)
/-- a call of a static method -/
theorem r_callsL (hc : CX p s m args c cc nL own D cI cZ cW A) {y : MethodName} {cc' : ByteArray} {maxL' fr lo mc ms index n : Nat} {ret' : Option FieldType} {As av : List Value} {wc rc wr : va_W} {S : Type} {post : Int64 → S → Prop} {W' : S → va_W} (hM : CtL l y cc' maxL' ret' fr lo mc ms D cI cZ cW As wc rc post W') (hco : Cond.code y cc' maxL' ret' ∈ wsL_law) (hini : Cond.initialized y.cls ∈ wsL_law) (hml : Cond.methodLink own index y ∈ wsL_law) (hd : y.cls ≠ "java/lang/invoke/MethodHandle" ∧ y.cls ≠ "java/lang/invoke/VarHandle" ∧ (parseMethodDescriptor y.desc).map (fun d => d.parameters.length) = some n) (hn : As.length = n) (hR : fr + 1 ≤ R.frames ∧ 8 + (maxL' + 11) + lo ≤ R.locals) (hcells : cells + mc ≤ R.cells ∧ slots + ms ≤ R.slots) (hsm : Cond.static y ∈ wsL_law) (hst : As.reverse ++ st = av) (hrm : (st.map fun v => v.category).sum ≤ 8) (isC isR : List Nat) (hC : isC.map (fun i => ws[i]?) = wc.map some) (hRR : isR.map (fun i => ws[i]?) = wr.map some) (hndC : va_nd isC = true) (hnd : va_nd isR = true) (hdis : ∀ i ∈ isR, i ∉ isC) (hro : ∀ q ∈ rc, (∃ k : Nat, ws[k]? = some q ∧ k ∉ isC) ∨ RO D A s q) (hdg : decode cc pc = .ok (.invokestatic index, 3)) (kk : ∀ (r : Int64) (u : S), post r u → V p l e R s m args below meth c D A nL (cells + mc) (slots + ms) Q (wr ++ W' u) (pc + 3) lv (.long r :: st)) : V p l e R s m args below meth c D A nL cells slots Q ws pc lv av := by
  intro H locs ls hP hD hS hL
  have hts := hc.2.2.2.2.1
  have hF := va_free (wc := wc) hD hS hc.2.2.2.2.2.2 isC hC
  subst hst
  exact va_calll (va_runS (Ts := wsL_law) (own := own) (n := n) (As := As) (rest := st) (nL := nL) ⟨hc.1, hc.2.1, hc.2.2.1, hc.2.2.2.1, hts⟩ (hM H.size) ⟨callB_of n hts (wlaw_good hco) rfl rfl rfl (hts _ hini) (hts _ hml) hd hR, hts _ hsm⟩ ⟨PC.blind, fun U hU hW => ⟨rfl, by rw [hU], hc.2.2.2.2.2.1.warm hW, by rw [hU]; exact va_P.places isC hC hP, va_D.placesT isC hndC hC hD, by rw [hU]; exact ro_ok (wr := wr) isC isR hC hP hD hS hc.2.2.2.2.2.2 hro⟩⟩ rfl hn hL.1 rfl (lv_room hrm) hdg hcells) hS (fun q _ h => hF q h) hF
    (fun r u t H1 locs1 ht hvm hw hB hz1 hk1 hS1 => by
      obtain ⟨hP1, hD1⟩ := hB
      rw [ht] at hP1
      obtain ⟨hP2, hD2⟩ := va_join (wr := wr) (w1 := W' u) hP hD isC isR hC hRR hnd hdis hk1 hF hP1 hD1
      exact kk r u hw H1 locs1 ls hP2 hD2 hS1 hL)
/-- a call of a method of an object -/
theorem r_callV (hc : CX p s m args c cc nL own D cI cZ cW A) {y : MethodName} {cc' : ByteArray} {maxL' fr lo mc ms index n : Nat} {ret' : Option FieldType} {As av : List Value} {wc rc wr : va_W} {S : Type} {post : S → Prop} {W' : S → va_W} {b ci : Nat} {T : u_T} {N : Nat} (hM : CtV l y cc' maxL' ret' fr lo mc ms D cI cZ cW (.ref b :: As) wc rc post W') (hco : Cond.code y cc' maxL' ret' ∈ wsL_law) (hini : Cond.initialized y.cls ∈ wsL_law) (hml : Cond.methodLink own index y ∈ wsL_law) (hd : y.cls ≠ "java/lang/invoke/MethodHandle" ∧ y.cls ≠ "java/lang/invoke/VarHandle" ∧ (parseMethodDescriptor y.desc).map (fun d => d.parameters.length) = some n) (hn : As.length = n) (hR : fr + 1 ≤ R.frames ∧ 8 + (maxL' + 11) + lo ≤ R.locals) (hcells : cells + mc ≤ R.cells ∧ slots + ms ≤ R.slots) (him : Cond.instanceMethod y ∈ wsL_law) (hse : Cond.selects y.cls y y ∈ wsL_law) (hcl : vwCl[ci]? = some (y.cls, T, N)) (hrv : (∃ (k : Nat) (fs : List Value), ws[k]? = some (b, Sum.inr (ci, fs))) ∨ ∃ fs : List Value, RO D A s (b, Sum.inr (ci, fs))) (hst : As.reverse ++ .ref b :: st = av) (hrm : (st.map fun v => v.category).sum ≤ 8) (isC isR : List Nat) (hC : isC.map (fun i => ws[i]?) = wc.map some) (hRR : isR.map (fun i => ws[i]?) = wr.map some) (hndC : va_nd isC = true) (hnd : va_nd isR = true) (hdis : ∀ i ∈ isR, i ∉ isC) (hro : ∀ q ∈ rc, (∃ k : Nat, ws[k]? = some q ∧ k ∉ isC) ∨ RO D A s q) (hdg : decode cc pc = .ok (.invokevirtual index, 3)) (kk : ∀ (u : S), post u → V p l e R s m args below meth c D A nL (cells + mc) (slots + ms) Q (wr ++ W' u) (pc + 3) lv (st)) : V p l e R s m args below meth c D A nL cells slots Q ws pc lv av := by
  intro H locs ls hP hD hS hL
  have hts := hc.2.2.2.2.1
  have hF := va_free (wc := wc) hD hS hc.2.2.2.2.2.2 isC hC
  subst hst
  exact va_callv (va_runV (Ts := wsL_law) (own := own) (C := y.cls) (n := n) (As := As) (rest := st) (nL := nL) ⟨hc.1, hc.2.1, hc.2.2.1, hc.2.2.2.1, hts⟩ (hM H.size) ⟨callB_of n hts (wlaw_good hco) rfl rfl rfl (hts _ hini) (hts _ hml) hd hR, hts _ him, hts _ hse⟩ ⟨PC.blind, rv_ok hc.2.2.2.2.2.1 hP hS hcl hrv, fun U hU hW => ⟨rfl, by rw [hU], hc.2.2.2.2.2.1.warm hW, by rw [hU]; exact va_P.places isC hC hP, va_D.placesT isC hndC hC hD, by rw [hU]; exact ro_ok (wr := wr) isC isR hC hP hD hS hc.2.2.2.2.2.2 hro⟩⟩ rfl hn hL.1 rfl (lv_room hrm) hdg hcells) hS (fun q _ h => hF q h) hF
    (fun u t H1 locs1 ht hvm hw hB hz1 hk1 hS1 => by
      obtain ⟨hP1, hD1⟩ := hB
      rw [ht] at hP1
      obtain ⟨hP2, hD2⟩ := va_join (wr := wr) (w1 := W' u) hP hD isC isR hC hRR hnd hdis hk1 hF hP1 hD1
      exact kk u hw H1 locs1 ls hP2 hD2 hS1 hL)
/-- a call of a static method -/
theorem r_callsV (hc : CX p s m args c cc nL own D cI cZ cW A) {y : MethodName} {cc' : ByteArray} {maxL' fr lo mc ms index n : Nat} {ret' : Option FieldType} {As av : List Value} {wc rc wr : va_W} {S : Type} {post : S → Prop} {W' : S → va_W} (hM : CtV l y cc' maxL' ret' fr lo mc ms D cI cZ cW As wc rc post W') (hco : Cond.code y cc' maxL' ret' ∈ wsL_law) (hini : Cond.initialized y.cls ∈ wsL_law) (hml : Cond.methodLink own index y ∈ wsL_law) (hd : y.cls ≠ "java/lang/invoke/MethodHandle" ∧ y.cls ≠ "java/lang/invoke/VarHandle" ∧ (parseMethodDescriptor y.desc).map (fun d => d.parameters.length) = some n) (hn : As.length = n) (hR : fr + 1 ≤ R.frames ∧ 8 + (maxL' + 11) + lo ≤ R.locals) (hcells : cells + mc ≤ R.cells ∧ slots + ms ≤ R.slots) (hsm : Cond.static y ∈ wsL_law) (hst : As.reverse ++ st = av) (hrm : (st.map fun v => v.category).sum ≤ 8) (isC isR : List Nat) (hC : isC.map (fun i => ws[i]?) = wc.map some) (hRR : isR.map (fun i => ws[i]?) = wr.map some) (hndC : va_nd isC = true) (hnd : va_nd isR = true) (hdis : ∀ i ∈ isR, i ∉ isC) (hro : ∀ q ∈ rc, (∃ k : Nat, ws[k]? = some q ∧ k ∉ isC) ∨ RO D A s q) (hdg : decode cc pc = .ok (.invokestatic index, 3)) (kk : ∀ (u : S), post u → V p l e R s m args below meth c D A nL (cells + mc) (slots + ms) Q (wr ++ W' u) (pc + 3) lv (st)) : V p l e R s m args below meth c D A nL cells slots Q ws pc lv av := by
  intro H locs ls hP hD hS hL
  have hts := hc.2.2.2.2.1
  have hF := va_free (wc := wc) hD hS hc.2.2.2.2.2.2 isC hC
  subst hst
  exact va_callv (va_runS (Ts := wsL_law) (own := own) (n := n) (As := As) (rest := st) (nL := nL) ⟨hc.1, hc.2.1, hc.2.2.1, hc.2.2.2.1, hts⟩ (hM H.size) ⟨callB_of n hts (wlaw_good hco) rfl rfl rfl (hts _ hini) (hts _ hml) hd hR, hts _ hsm⟩ ⟨PC.blind, fun U hU hW => ⟨rfl, by rw [hU], hc.2.2.2.2.2.1.warm hW, by rw [hU]; exact va_P.places isC hC hP, va_D.placesT isC hndC hC hD, by rw [hU]; exact ro_ok (wr := wr) isC isR hC hP hD hS hc.2.2.2.2.2.2 hro⟩⟩ rfl hn hL.1 rfl (lv_room hrm) hdg hcells) hS (fun q _ h => hF q h) hF
    (fun u t H1 locs1 ht hvm hw hB hz1 hk1 hS1 => by
      obtain ⟨hP1, hD1⟩ := hB
      rw [ht] at hP1
      obtain ⟨hP2, hD2⟩ := va_join (wr := wr) (w1 := W' u) hP hD isC isR hC hRR hnd hdis hk1 hF hP1 hD1
      exact kk u hw H1 locs1 ls hP2 hD2 hS1 hL)
theorem r_ldc (hc : CX p s m args c cc nL own D cI cZ cW A) {index : Nat} {v : Int32} (hcn : Cond.constant own index v ∈ wsL_law) (hdg : decode cc pc = .ok (.ldc index, 2)) (kk : V p l e R s m args below meth c D A nL cells slots Q ws (pc + 2) lv (.int v :: st)) : V p l e R s m args below meth c D A nL cells slots Q ws pc lv st :=
  fun H locs ls hP hD hS hL => lv_ldc hc.1 hc.2.1 hc.2.2.2.1 (hc.2.2.2.2.1 _ hcn) hdg (kk H locs ls hP hD hS hL)
theorem nI_z {a : Nat} (h : a < 2 ^ 31) : nI a = 0 ↔ a = 0 := by rw [← nI_0]; exact nI_eq h (by decide)
theorem n_if_eq (hc : CX p s m args c cc nL own D cI cZ cW A) {a : Nat} {off : Int} (tgt : Nat) (hdg : decode cc pc = .ok (.ifCond .eq off, 3)) (ht : (pc : Int) + off = (tgt : Int)) (ha : a < 2 ^ 31) (kt : a = 0 → V p l e R s m args below meth c D A nL cells slots Q ws tgt lv st) (kf : a ≠ 0 → V p l e R s m args below meth c D A nL cells slots Q ws (pc + 3) lv st) : V p l e R s m args below meth c D A nL cells slots Q ws pc lv (.int (nI a) :: st) := r_if_eq hc tgt hdg ht (fun h => kt ((nI_z ha).mp h)) (fun h => kf (fun q => h ((nI_z ha).mpr q)))
theorem n_if_ne (hc : CX p s m args c cc nL own D cI cZ cW A) {a : Nat} {off : Int} (tgt : Nat) (hdg : decode cc pc = .ok (.ifCond .ne off, 3)) (ht : (pc : Int) + off = (tgt : Int)) (ha : a < 2 ^ 31) (kt : a ≠ 0 → V p l e R s m args below meth c D A nL cells slots Q ws tgt lv st) (kf : a = 0 → V p l e R s m args below meth c D A nL cells slots Q ws (pc + 3) lv st) : V p l e R s m args below meth c D A nL cells slots Q ws pc lv (.int (nI a) :: st) := r_if_ne hc tgt hdg ht (fun h => kt (fun q => h ((nI_z ha).mpr q))) (fun h => kf ((nI_z ha).mp h))
theorem n_if_le (hc : CX p s m args c cc nL own D cI cZ cW A) {a : Nat} {off : Int} (tgt : Nat) (hdg : decode cc pc = .ok (.ifCond .le off, 3)) (ht : (pc : Int) + off = (tgt : Int)) (ha : a < 2 ^ 31) (kt : a = 0 → V p l e R s m args below meth c D A nL cells slots Q ws tgt lv st) (kf : 0 < a → V p l e R s m args below meth c D A nL cells slots Q ws (pc + 3) lv st) : V p l e R s m args below meth c D A nL cells slots Q ws pc lv (.int (nI a) :: st) := r_if_le hc tgt hdg ht (fun h => kt (Nat.eq_zero_of_not_pos fun q => nI_nle q ha h)) (fun h => kf (Nat.pos_of_ne_zero fun q => h (by rw [q, nI_0]; exact Int32.le_refl 0)))
end RULES3
end
section
/-! the state of Cosets: entries, leaders, fallen, fallenCount, fresh, isFresh, freshCount, open, columns, made, living -/
abbrev CS : Type := (Nat → Option Nat) × (Nat → Nat) × (Nat → Nat) × Nat × (Nat → Nat) × (Nat → Bool) × Nat × Nat × Nat × Nat × Nat
def sE (σ : CS) : Nat → Option Nat := σ.1
def sL (σ : CS) : Nat → Nat := σ.2.1
def sF (σ : CS) : Nat → Nat := σ.2.2.1
def sFc (σ : CS) : Nat := σ.2.2.2.1
def sR (σ : CS) : Nat → Nat := σ.2.2.2.2.1
def sS (σ : CS) : Nat → Bool := σ.2.2.2.2.2.1
def sRc (σ : CS) : Nat := σ.2.2.2.2.2.2.1
def sO (σ : CS) : Nat := σ.2.2.2.2.2.2.2.1
def sC (σ : CS) : Nat := σ.2.2.2.2.2.2.2.2.1
def sM (σ : CS) : Nat := σ.2.2.2.2.2.2.2.2.2.1
def sV (σ : CS) : Nat := σ.2.2.2.2.2.2.2.2.2.2
abbrev wX (cI cZ : ClassId) (h aE aL aF aR aS : Nat) (e : Nat → Option Nat) (ld fa : Nat → Nat) (fc : Nat) (fr : Nat → Nat) (sf : Nat → Bool) (rc op co md vv : Nat) : va_W := [(h, .inr (1, [.ref aE, .ref aL, .ref aF, .int (nI fc), .ref aR, .ref aS, .int (nI rc), .int (nI op), .int (nI co), .int (nI md), .int (nI vv)])), (aE, .inl (cI, 1200, .inl (fun j => eI (e j)))), (aL, .inl (cI, 200, .inl (fun j => nI (ld j)))), (aF, .inl (cI, 200, .inl (fun j => nI (fa j)))), (aR, .inl (cI, 1200, .inl (fun j => nI (fr j)))), (aS, .inl (cZ, 1200, .inl (fun j => zI (sf j))))]
abbrev wS (cI cZ : ClassId) (h aE aL aF aR aS : Nat) (σ : CS) : va_W := wX cI cZ h aE aL aF aR aS (sE σ) (sL σ) (sF σ) (sFc σ) (sR σ) (sS σ) (sRc σ) (sO σ) (sC σ) (sM σ) (sV σ)
theorem n_dec {a k : Nat} {n : Int} (h : k ≤ a) (hn : Int32.ofInt n = -(nI k) := by rfl) : nI a + Int32.ofInt n = nI (a - k) := by
  rw [hn, ← pk_sub h, Int32.sub_eq_add_neg]
/-- what is known of a coset and a column; open places; what is alive -/
def liv (σ : CS) (c : Nat) : Bool := decide (c < sM σ) && decide (sL σ c = c)
def BD (σ : CS) : Prop := sM σ ≤ 200 ∧ sC σ ≤ 6 ∧ (∀ i, sL σ i < 200) ∧ (∀ i, sF σ i < 200) ∧ (∀ i, sR σ i < 1200) ∧ (∀ i d, sE σ i = some d → d < 200) ∧ sRc σ ≤ 1200 ∧ sFc σ ≤ 200 ∧ sV σ ≤ 200 ∧ sO σ ≤ 1200
def opn (σ : CS) (p : Nat) : Bool := decide (p % 6 < sC σ) && (liv σ (p / 6) && decide (sE σ p = none))
theorem r_lv {p : Program} {l : Launch} {e : Env} {R : Room} {s : State} {m : MethodId} {args : Array Value} {below : List Frame} {meth : Method} {c : Code} {D : va_G} {A : Nat → Prop} {nL cells slots : Nat} {Q : State → Prop} {ws : va_W} {pc : Nat} {lv lv' : List (Nat × Value)} {st : List Value} (ks : List Nat) (hl : lv_pick lv ks = lv') (kk : V p l e R s m args below meth c D A nL cells slots Q ws pc lv' st) : V p l e R s m args below meth c D A nL cells slots Q ws pc lv st :=
  fun H locs ls hP hD hS hL => kk H locs ls hP hD hS (lv_sub hL ks hl)
set_option maxHeartbeats 4000000 in
set_option maxRecDepth 100000 in
/-- at(k, x) -/
theorem c_at (l : Launch) (D : va_G) (cI cZ cW : ClassId) (h aE aL aF aR aS : Nat) (σ : CS) (k x : Nat) (hk : k < 200) (hx : x < 6) : CtI l yX1_at cX1_at 3 (some .int) 0 0 0 0 D cI cZ cW [.ref h, .int (nI k), .int (nI x)] ([]) (wS cI cZ h aE aL aF aR aS σ) (S := Unit) (fun r _ => r = eI (sE σ (k * 6 + x))) (fun _ => []) := by
  refine CtI.mk (by decide) (Nat.le_of_ble_eq_true rfl) ?_
  intro p e s m args below meth c A hc hr hlk hnm hro
  generalize hQ : MQ below _ args s 0 0 A = Q
  show V p l e (RM 0 0 0 0) s m args below meth c D A 3 0 0 Q ([]) 0 [(0, .ref h), (1, .int (nI k)), (2, .int (nI x))] []
  refine r_aload_n hc dX1_at_0 rfl 0 rfl ?_
  refine r_getR hc inlX1 (hro _ (List.mem_of_getElem? (i := 0) rfl)) rfl 0 (by decide) fl_X1_9 rfl rfl dX1_at_1 ?_
  refine r_iload_n hc dX1_at_4 rfl 1 rfl ?_
  refine r_bipush (v := (nI 6)) hc dX1_at_5 rfl ?_
  refine n_mul hc dX1_at_7 ?_
  refine r_iload_n hc dX1_at_8 rfl 2 rfl ?_
  refine n_add hc dX1_at_9 ?_
  refine r_ialdR hc eI (hro _ (List.mem_of_getElem? (i := 1) rfl)) (by omega) (by decide) dX1_at_10 ?_
  rw [← hQ]
  exact r_iret hc hr hlk () (rfl) rfl dX1_at_11
end
section
def livI (σ : CS) (v : Int32) : Bool := if v < 0 then false else liv σ v.toNatClampNeg
theorem livI_n (σ : CS) {k : Nat} (hk : k < 2 ^ 31) : livI σ (nI k) = liv σ k := by rw [livI, if_neg (nI_pos hk), nI_clamp hk]
def fJoin (σ : CS) (k x d : Nat) : CS :=
  if sS σ (k * 6 + x) = true then (va_up (va_up (sE σ) (k * 6 + x) (some d)) (d * 6 + (x ^^^ 1)) (some k), sL σ, sF σ, sFc σ, sR σ, sS σ, sRc σ, sO σ, sC σ, sM σ, sV σ)
  else (va_up (va_up (sE σ) (k * 6 + x) (some d)) (d * 6 + (x ^^^ 1)) (some k), sL σ, sF σ, sFc σ, va_up (sR σ) (sRc σ) (k * 6 + x), va_up (sS σ) (k * 6 + x) true, sRc σ + 1, sO σ, sC σ, sM σ, sV σ)
def fTake (σ : CS) : CS := (sE σ, sL σ, sF σ, sFc σ, sR σ, va_up (sS σ) (sR σ (sRc σ - 1)) false, sRc σ - 1, sO σ, sC σ, sM σ, sV σ)
theorem xor1_lt {x : Nat} (h : x < 6) : x ^^^ 1 < 6 := by
  have : ∀ x, x < 6 → x ^^^ 1 < 6 := by decide
  exact this x h
set_option maxHeartbeats 4000000 in
set_option maxRecDepth 100000 in
/-- lives(v) -/
theorem c_lives (l : Launch) (D : va_G) (cI cZ cW : ClassId) (h aE aL aF aR aS : Nat) (σ : CS) (v : Int32) (hB : BD σ) : CtI l yX1_lives cX1_lives 2 (some .boolean) 0 0 0 0 D cI cZ cW [.ref h, .int v] ([]) (wS cI cZ h aE aL aF aR aS σ) (S := Unit) (fun r _ => r = zI (livI σ v)) (fun _ => []) := by
  refine CtI.mk (by decide) (Nat.le_of_ble_eq_true rfl) ?_
  intro p e s m args below meth c A hc hr hlk hnm hro
  generalize hQ : MQ below _ args s 0 0 A = Q
  have hB0 := hB
  obtain ⟨bM, bC, bL, bF, bR, bE, bRc, bFc, bV, bO⟩ := hB
  show V p l e (RM 0 0 0 0) s m args below meth c D A 2 0 0 Q ([]) 0 [(0, .ref h), (1, .int v)] []
  refine r_iload_n hc dX1_lives_0 rfl 1 rfl ?_
  refine r_if_lt hc 26 dX1_lives_1 (by decide) (fun h1 => ?_) (fun h1 => ?_)
  · refine r_iconst (v := (nI 0)) hc dX1_lives_26 rfl ?_
    rw [← hQ]
    refine r_zret (b := false) hc hr hlk () (congrArg zI ?_) rfl dX1_lives_27
    first | (simp [livI, *]; done) | (rw [livI_n σ hk]; simp [liv]; omega)
  · obtain ⟨k, hk, rfl⟩ := nI_of h1
    show V p l e (RM 0 0 0 0) s m args below meth c D A 2 0 0 Q ([]) 4 [(0, .ref h), (1, .int (nI k))] []
    refine r_iload_n hc dX1_lives_4 rfl 1 rfl ?_
    refine r_aload_n hc dX1_lives_5 rfl 0 rfl ?_
    refine r_getR hc inlX1 (hro _ (List.mem_of_getElem? (i := 0) rfl)) rfl 9 (by decide) fl_X1_32 rfl rfl dX1_lives_6 ?_
    refine n_icmp_ge hc 26 dX1_lives_9 (by decide) (by omega) (by omega) (fun h2 => ?_) (fun h2 => ?_)
    · refine r_iconst (v := (nI 0)) hc dX1_lives_26 rfl ?_
      rw [← hQ]
      refine r_zret (b := false) hc hr hlk () (congrArg zI ?_) rfl dX1_lives_27
      first | (simp [livI, *]; done) | (rw [livI_n σ hk]; simp [liv]; omega)
    · refine r_aload_n hc dX1_lives_12 rfl 0 rfl ?_
      refine r_getR hc inlX1 (hro _ (List.mem_of_getElem? (i := 0) rfl)) rfl 1 (by decide) fl_X1_15 rfl rfl dX1_lives_13 ?_
      refine r_iload_n hc dX1_lives_16 rfl 1 rfl ?_
      have b3 := bL k
      refine r_ialdR hc nI (hro _ (List.mem_of_getElem? (i := 2) rfl)) (by omega) (by decide) dX1_lives_17 ?_
      refine r_iload_n hc dX1_lives_18 rfl 1 rfl ?_
      refine n_icmp_ne hc 26 dX1_lives_19 (by decide) (by omega) (by omega) (fun h4 => ?_) (fun h4 => ?_)
      · refine r_iconst (v := (nI 0)) hc dX1_lives_26 rfl ?_
        rw [← hQ]
        refine r_zret (b := false) hc hr hlk () (congrArg zI ?_) rfl dX1_lives_27
        first | (simp [livI, *]; done) | (rw [livI_n σ hk]; simp [liv]; omega)
      · refine r_iconst (v := (nI 1)) hc dX1_lives_22 rfl ?_
        refine r_goto hc 27 dX1_lives_23 (by decide) ?_
        rw [← hQ]
        refine r_zret (b := true) hc hr hlk () (congrArg zI ?_) rfl dX1_lives_27
        first | (simp [livI, *]; done) | (rw [livI_n σ hk]; simp [liv]; omega)
set_option maxHeartbeats 4000000 in
set_option maxRecDepth 100000 in
/-- isOpen(k) -/
theorem c_isOpen (l : Launch) (D : va_G) (cI cZ cW : ClassId) (h aE aL aF aR aS : Nat) (σ : CS) (k : Nat) (hk : k < 1200) (hB : BD σ) : CtI l yX1_isOpen cX1_isOpen 2 (some .boolean) 1 21 0 0 D cI cZ cW [.ref h, .int (nI k)] ([]) (wS cI cZ h aE aL aF aR aS σ) (S := Unit) (fun r _ => r = zI (opn σ k)) (fun _ => []) := by
  refine CtI.mk (by decide) (Nat.le_of_ble_eq_true rfl) ?_
  intro p e s m args below meth c A hc hr hlk hnm hro
  generalize hQ : MQ below _ args s 0 0 A = Q
  have hB0 := hB
  obtain ⟨bM, bC, bL, bF, bR, bE, bRc, bFc, bV, bO⟩ := hB
  show V p l e (RM 1 21 0 0) s m args below meth c D A 2 0 0 Q ([]) 0 [(0, .ref h), (1, .int (nI k))] []
  refine r_iload_n hc dX1_isOpen_0 rfl 1 rfl ?_
  refine r_bipush (v := (nI 6)) hc dX1_isOpen_1 rfl ?_
  refine n_rem hc dX1_isOpen_3 (by omega) (by decide) (by decide) ?_
  refine r_aload_n hc dX1_isOpen_4 rfl 0 rfl ?_
  refine r_getR hc inlX1 (hro _ (List.mem_of_getElem? (i := 0) rfl)) rfl 8 (by decide) fl_X1_28 rfl rfl dX1_isOpen_5 ?_
  refine n_icmp_ge hc 36 dX1_isOpen_8 (by decide) (by omega) (by omega) (fun h1 => ?_) (fun h1 => ?_)
  · refine r_iconst (v := (nI 0)) hc dX1_isOpen_36 rfl ?_
    rw [← hQ]
    refine r_zret (b := false) hc hr hlk () (congrArg zI ?_) rfl dX1_isOpen_37
    first | (simp [opn, *]; done) | (simp [opn, *]; omega)
  · refine r_aload_n hc dX1_isOpen_11 rfl 0 rfl ?_
    refine r_iload_n hc dX1_isOpen_12 rfl 1 rfl ?_
    refine r_bipush (v := (nI 6)) hc dX1_isOpen_13 rfl ?_
    refine n_div hc dX1_isOpen_15 (by omega) (by decide) (by decide) ?_
    refine r_callI (As := [.int (nI (k / 6))]) (n := 1) (wr := []) hc (c_lives l D cI cZ cW h aE aL aF aR aS σ (nI (k / 6)) hB0) co_yX1_lives in_X1 ml_X1_49 (by decide +kernel) rfl ⟨by decide, by decide⟩ ⟨by decide, by decide⟩ im_yX1_lives se_yX1_lives rfl (Or.inr ⟨_, (hro _ (List.mem_of_getElem? (i := 0) rfl))⟩) rfl (by decide) [] [] rfl rfl rfl rfl (by decide) (fun q hq => Or.inr (hro q hq)) dX1_isOpen_16 (fun r2 u3 e4 => ?_)
    subst e4
    rw [livI_n _ (by omega)]
    refine z_if_eq hc 36 dX1_isOpen_19 (by decide) (fun h5 => ?_) (fun h5 => ?_)
    · refine r_iconst (v := (nI 0)) hc dX1_isOpen_36 rfl ?_
      rw [← hQ]
      refine r_zret (b := false) hc hr hlk () (congrArg zI ?_) rfl dX1_isOpen_37
      first | (simp [opn, *]; done) | (simp [opn, *]; omega)
    · refine r_aload_n hc dX1_isOpen_22 rfl 0 rfl ?_
      refine r_getR hc inlX1 (hro _ (List.mem_of_getElem? (i := 0) rfl)) rfl 0 (by decide) fl_X1_9 rfl rfl dX1_isOpen_23 ?_
      refine r_iload_n hc dX1_isOpen_26 rfl 1 rfl ?_
      refine r_ialdR hc eI (hro _ (List.mem_of_getElem? (i := 1) rfl)) (by omega) (by decide) dX1_isOpen_27 ?_
      refine r_iconst (v := (-1)) hc dX1_isOpen_28 rfl ?_
      refine e_icmp_ne hc 36 dX1_isOpen_29 (by decide) (fun d h => Nat.lt_trans (bE _ d h) (by decide)) (fun d7 h6 => ?_) (fun h6 => ?_)
      · refine r_iconst (v := (nI 0)) hc dX1_isOpen_36 rfl ?_
        rw [← hQ]
        refine r_zret (b := false) hc hr hlk () (congrArg zI ?_) rfl dX1_isOpen_37
        first | (simp [opn, *]; done) | (simp [opn, *]; omega)
      · refine r_iconst (v := (nI 1)) hc dX1_isOpen_32 rfl ?_
        refine r_goto hc 37 dX1_isOpen_33 (by decide) ?_
        rw [← hQ]
        refine r_zret (b := true) hc hr hlk () (congrArg zI ?_) rfl dX1_isOpen_37
        first | (simp [opn, *]; done) | (simp [opn, *]; omega)
end
section
def mkE (f : Nat → Option Nat) (k : Nat) (x : Nat) : Nat → Option Nat := match x with | 0 => f | x + 1 => va_up (mkE f k x) (k * 6 + x) none
def fMake (σ : CS) : CS := (mkE (sE σ) (sM σ) 6, va_up (sL σ) (sM σ) (sM σ), sF σ, sFc σ, sR σ, sS σ, sRc σ, sO σ, sC σ, sM σ + 1, sV σ + 1)
set_option maxHeartbeats 4000000 in
set_option maxRecDepth 100000 in
/-- takeFresh() -/
theorem c_takeFresh (l : Launch) (D : va_G) (cI cZ cW : ClassId) (h aE aL aF aR aS : Nat) (σ : CS) (h1 : 1 ≤ sRc σ) (hB : BD σ) : CtI l yX1_takeFresh cX1_takeFresh 1 (some .int) 0 0 0 0 D cI cZ cW [.ref h] (wS cI cZ h aE aL aF aR aS σ) ([]) (S := CS) (fun r u => r = nI (sR σ (sRc σ - 1)) ∧ u = fTake σ) (fun u => wS cI cZ h aE aL aF aR aS u) := by
  refine CtI.mk (by decide) (Nat.le_of_ble_eq_true rfl) ?_
  intro p e s m args below meth c A hc hr hlk hnm hro
  generalize hQ : MQ below _ args s 0 0 A = Q
  have hB0 := hB
  obtain ⟨bM, bC, bL, bF, bR, bE, bRc, bFc, bV, bO⟩ := hB
  show V p l e (RM 0 0 0 0) s m args below meth c D A 1 0 0 Q (wS cI cZ h aE aL aF aR aS σ) 0 [(0, .ref h)] []
  refine r_aload_n hc dX1_takeFresh_0 rfl 0 rfl ?_
  refine r_dup hc dX1_takeFresh_1 rfl ?_
  refine r_get hc inlX1 0 rfl rfl 6 (by decide) fl_X1_56 rfl rfl dX1_takeFresh_2 ?_
  refine r_iconst (v := (nI 1)) hc dX1_takeFresh_5 rfl ?_
  refine n_sub hc dX1_takeFresh_6 (by omega) ?_
  refine r_put (ws' := wX cI cZ h aE aL aF aR aS (sE σ) (sL σ) (sF σ) (sFc σ) (sR σ) (sS σ) ((sRc σ) - 1) (sO σ) (sC σ) (sM σ) (sV σ)) hc inlX1 tyX1 tyX1_ok nmX1 0 rfl rfl 6 (by decide) fl_X1_56 rfl rfl rfl rfl (Nat.le_of_ble_eq_true rfl) rfl dX1_takeFresh_7 ?_
  refine r_aload_n hc dX1_takeFresh_10 rfl 0 rfl ?_
  refine r_get hc inlX1 0 rfl rfl 5 (by decide) fl_X1_24 rfl rfl dX1_takeFresh_11 ?_
  refine r_aload_n hc dX1_takeFresh_14 rfl 0 rfl ?_
  refine r_get hc inlX1 0 rfl rfl 4 (by decide) fl_X1_21 rfl rfl dX1_takeFresh_15 ?_
  refine r_aload_n hc dX1_takeFresh_18 rfl 0 rfl ?_
  refine r_get hc inlX1 0 rfl rfl 6 (by decide) fl_X1_56 rfl rfl dX1_takeFresh_19 ?_
  have b1 := bR ((sRc σ) - 1)
  refine r_iald hc nI 4 rfl (by omega) (by decide) dX1_takeFresh_22 ?_
  refine r_iconst (v := (nI 0)) hc dX1_takeFresh_23 rfl ?_
  refine r_zast (ws' := wX cI cZ h aE aL aF aR aS (sE σ) (sL σ) (sF σ) (sFc σ) (sR σ) (va_up (sS σ) ((sR σ) ((sRc σ) - 1)) false) ((sRc σ) - 1) (sO σ) (sC σ) (sM σ) (sV σ)) hc false 5 rfl (by omega) (by decide) rfl dX1_takeFresh_24 ?_
  refine r_aload_n hc dX1_takeFresh_25 rfl 0 rfl ?_
  refine r_get hc inlX1 0 rfl rfl 4 (by decide) fl_X1_21 rfl rfl dX1_takeFresh_26 ?_
  refine r_aload_n hc dX1_takeFresh_29 rfl 0 rfl ?_
  refine r_get hc inlX1 0 rfl rfl 6 (by decide) fl_X1_56 rfl rfl dX1_takeFresh_30 ?_
  have b2 := bR ((sRc σ) - 1)
  refine r_iald hc nI 4 rfl (by omega) (by decide) dX1_takeFresh_33 ?_
  rw [← hQ]
  exact r_iret hc hr hlk (sE σ, sL σ, sF σ, sFc σ, sR σ, va_up (sS σ) ((sR σ) ((sRc σ) - 1)) false, (sRc σ) - 1, sO σ, sC σ, sM σ, sV σ) (⟨rfl, rfl⟩) rfl dX1_takeFresh_34
set_option maxHeartbeats 4000000 in
set_option maxRecDepth 100000 in
/-- join(k, x, d) -/
theorem c_join (l : Launch) (D : va_G) (cI cZ cW : ClassId) (h aE aL aF aR aS : Nat) (σ : CS) (k x d : Nat) (hk : k < 200) (hx : x < 6) (hd : d < 200) (hf : sS σ (k * 6 + x) = false → sRc σ < 1200) (hB : BD σ) : CtV l yX1_join cX1_join 5 none 0 0 0 0 D cI cZ cW [.ref h, .int (nI k), .int (nI x), .int (nI d)] (wS cI cZ h aE aL aF aR aS σ) ([]) (S := CS) (fun u => u = fJoin σ k x d) (fun u => wS cI cZ h aE aL aF aR aS u) := by
  refine CtV.mk (by decide) (Nat.le_of_ble_eq_true rfl) ?_
  intro p e s m args below meth c A hc hr hlk hnm hro
  generalize hQ : MQ below _ args s 0 0 A = Q
  have hB0 := hB
  obtain ⟨bM, bC, bL, bF, bR, bE, bRc, bFc, bV, bO⟩ := hB
  have hx1 := xor1_lt hx
  show V p l e (RM 0 0 0 0) s m args below meth c D A 5 0 0 Q (wS cI cZ h aE aL aF aR aS σ) 0 [(0, .ref h), (1, .int (nI k)), (2, .int (nI x)), (3, .int (nI d))] []
  refine r_iload_n hc dX1_join_0 rfl 1 rfl ?_
  refine r_bipush (v := (nI 6)) hc dX1_join_1 rfl ?_
  refine n_mul hc dX1_join_3 ?_
  refine r_iload_n hc dX1_join_4 rfl 2 rfl ?_
  refine n_add hc dX1_join_5 ?_
  refine r_istore (lv' := [(4, .int (nI ((k * 6) + x))), (0, .ref h), (1, .int (nI k)), (2, .int (nI x)), (3, .int (nI d))]) hc dX1_join_6 (by decide) rfl ?_
  refine r_aload_n hc dX1_join_8 rfl 1 rfl ?_
  refine r_get hc inlX1 0 rfl rfl 0 (by decide) fl_X1_9 rfl rfl dX1_join_9 ?_
  refine r_iload hc dX1_join_12 0 rfl ?_
  refine r_iload_n hc dX1_join_14 rfl 4 rfl ?_
  refine r_iast (ws' := wX cI cZ h aE aL aF aR aS (va_up (sE σ) ((k * 6) + x) (some d)) (sL σ) (sF σ) (sFc σ) (sR σ) (sS σ) (sRc σ) (sO σ) (sC σ) (sM σ) (sV σ)) hc eI (some d) 1 rfl (by omega) (by decide) rfl dX1_join_15 ?_
  refine r_aload_n hc dX1_join_16 rfl 1 rfl ?_
  refine r_get hc inlX1 0 rfl rfl 0 (by decide) fl_X1_9 rfl rfl dX1_join_17 ?_
  refine r_iload_n hc dX1_join_20 rfl 4 rfl ?_
  refine r_bipush (v := (nI 6)) hc dX1_join_21 rfl ?_
  refine n_mul hc dX1_join_23 ?_
  refine r_iload_n hc dX1_join_24 rfl 3 rfl ?_
  refine r_iconst (v := (nI 1)) hc dX1_join_25 rfl ?_
  refine n_xor hc dX1_join_26 ?_
  refine n_add hc dX1_join_27 ?_
  refine r_iload_n hc dX1_join_28 rfl 2 rfl ?_
  refine r_iast (ws' := wX cI cZ h aE aL aF aR aS (va_up (va_up (sE σ) ((k * 6) + x) (some d)) ((d * 6) + (x ^^^ 1)) (some k)) (sL σ) (sF σ) (sFc σ) (sR σ) (sS σ) (sRc σ) (sO σ) (sC σ) (sM σ) (sV σ)) hc eI (some k) 1 rfl (by omega) (by decide) rfl dX1_join_29 ?_
  refine r_aload_n hc dX1_join_30 rfl 1 rfl ?_
  refine r_get hc inlX1 0 rfl rfl 5 (by decide) fl_X1_24 rfl rfl dX1_join_31 ?_
  refine r_iload hc dX1_join_34 0 rfl ?_
  refine r_zald hc zI 5 rfl (by omega) (by decide) dX1_join_36 ?_
  refine z_if_ne hc 69 dX1_join_37 (by decide) (fun h1 => ?_) (fun h1 => ?_)
  · rw [← hQ]
    exact r_vret hc hr hlk (va_up (va_up (sE σ) ((k * 6) + x) (some d)) ((d * 6) + (x ^^^ 1)) (some k), sL σ, sF σ, sFc σ, sR σ, sS σ, sRc σ, sO σ, sC σ, sM σ, sV σ) ((if_pos h1).symm) rfl dX1_join_69
  · have hf1 := hf h1
    refine r_aload_n hc dX1_join_40 rfl 1 rfl ?_
    refine r_get hc inlX1 0 rfl rfl 5 (by decide) fl_X1_24 rfl rfl dX1_join_41 ?_
    refine r_iload hc dX1_join_44 0 rfl ?_
    refine r_iconst (v := (nI 1)) hc dX1_join_46 rfl ?_
    refine r_zast (ws' := wX cI cZ h aE aL aF aR aS (va_up (va_up (sE σ) ((k * 6) + x) (some d)) ((d * 6) + (x ^^^ 1)) (some k)) (sL σ) (sF σ) (sFc σ) (sR σ) (va_up (sS σ) ((k * 6) + x) true) (sRc σ) (sO σ) (sC σ) (sM σ) (sV σ)) hc true 5 rfl (by omega) (by decide) rfl dX1_join_47 ?_
    refine r_aload_n hc dX1_join_48 rfl 1 rfl ?_
    refine r_get hc inlX1 0 rfl rfl 4 (by decide) fl_X1_21 rfl rfl dX1_join_49 ?_
    refine r_aload_n hc dX1_join_52 rfl 1 rfl ?_
    refine r_get hc inlX1 0 rfl rfl 6 (by decide) fl_X1_56 rfl rfl dX1_join_53 ?_
    refine r_iload hc dX1_join_56 0 rfl ?_
    refine r_iast (ws' := wX cI cZ h aE aL aF aR aS (va_up (va_up (sE σ) ((k * 6) + x) (some d)) ((d * 6) + (x ^^^ 1)) (some k)) (sL σ) (sF σ) (sFc σ) (va_up (sR σ) (sRc σ) ((k * 6) + x)) (va_up (sS σ) ((k * 6) + x) true) (sRc σ) (sO σ) (sC σ) (sM σ) (sV σ)) hc nI ((k * 6) + x) 4 rfl (by omega) (by decide) rfl dX1_join_58 ?_
    refine r_aload_n hc dX1_join_59 rfl 1 rfl ?_
    refine r_dup hc dX1_join_60 rfl ?_
    refine r_get hc inlX1 0 rfl rfl 6 (by decide) fl_X1_56 rfl rfl dX1_join_61 ?_
    refine r_iconst (v := (nI 1)) hc dX1_join_64 rfl ?_
    refine n_add hc dX1_join_65 ?_
    refine r_put (ws' := wX cI cZ h aE aL aF aR aS (va_up (va_up (sE σ) ((k * 6) + x) (some d)) ((d * 6) + (x ^^^ 1)) (some k)) (sL σ) (sF σ) (sFc σ) (va_up (sR σ) (sRc σ) ((k * 6) + x)) (va_up (sS σ) ((k * 6) + x) true) ((sRc σ) + 1) (sO σ) (sC σ) (sM σ) (sV σ)) hc inlX1 tyX1 tyX1_ok nmX1 0 rfl rfl 6 (by decide) fl_X1_56 rfl rfl rfl rfl (Nat.le_of_ble_eq_true rfl) rfl dX1_join_66 ?_
    rw [← hQ]
    exact r_vret hc hr hlk (va_up (va_up (sE σ) ((k * 6) + x) (some d)) ((d * 6) + (x ^^^ 1)) (some k), sL σ, sF σ, sFc σ, va_up (sR σ) (sRc σ) ((k * 6) + x), va_up (sS σ) ((k * 6) + x) true, (sRc σ) + 1, sO σ, sC σ, sM σ, sV σ) ((if_neg (by rw [h1]; decide)).symm) rfl dX1_join_69
set_option maxHeartbeats 4000000 in
set_option maxRecDepth 100000 in
/-- make() -/
theorem c_make (l : Launch) (D : va_G) (cI cZ cW : ClassId) (h aE aL aF aR aS : Nat) (σ : CS) (hm : sM σ < 200) (hB : BD σ) : CtI l yX1_make cX1_make 3 (some .int) 0 0 0 0 D cI cZ cW [.ref h] (wS cI cZ h aE aL aF aR aS σ) ([]) (S := CS) (fun r u => r = nI (sM σ) ∧ u = fMake σ) (fun u => wS cI cZ h aE aL aF aR aS u) := by
  refine CtI.mk (by decide) (Nat.le_of_ble_eq_true rfl) ?_
  intro p e s m args below meth c A hc hr hlk hnm hro
  generalize hQ : MQ below _ args s 0 0 A = Q
  have hB0 := hB
  obtain ⟨bM, bC, bL, bF, bR, bE, bRc, bFc, bV, bO⟩ := hB
  show V p l e (RM 0 0 0 0) s m args below meth c D A 3 0 0 Q (wS cI cZ h aE aL aF aR aS σ) 0 [(0, .ref h)] []
  refine r_aload_n hc dX1_make_0 rfl 0 rfl ?_
  refine r_get hc inlX1 0 rfl rfl 9 (by decide) fl_X1_32 rfl rfl dX1_make_1 ?_
  refine r_istore_n (lv' := [(1, .int (nI (sM σ))), (0, .ref h)]) hc dX1_make_4 rfl (by decide) rfl ?_
  refine r_iconst (v := (nI 0)) hc dX1_make_5 rfl ?_
  refine r_istore_n (lv' := [(2, .int (nI 0)), (1, .int (nI (sM σ))), (0, .ref h)]) hc dX1_make_6 rfl (by decide) rfl ?_
  have lp7 : ∀ (n : Nat) (x : Nat), 6 - x = n → (x ≤ 6) → V p l e (RM 0 0 0 0) s m args below meth c D A 3 0 0 Q (wX cI cZ h aE aL aF aR aS (mkE (sE σ) (sM σ) x) (sL σ) (sF σ) (sFc σ) (sR σ) (sS σ) (sRc σ) (sO σ) (sC σ) (sM σ) (sV σ)) 7 [(2, .int (nI x)), (1, .int (nI (sM σ))), (0, .ref h)] [] := by
    intro n
    induction n using Nat.strongRecOn with
    | _ n ih7 =>
    intro x hm7 hx
    refine r_iload_n hc dX1_make_7 rfl 0 rfl ?_
    refine r_bipush (v := (nI 6)) hc dX1_make_8 rfl ?_
    refine n_icmp_ge hc 31 dX1_make_10 (by decide) (by omega) (by omega) (fun h1 => ?_) (fun h1 => ?_)
    · obtain rfl : x = 6 := by omega
      show V p l e (RM 0 0 0 0) s m args below meth c D A 3 0 0 Q (wX cI cZ h aE aL aF aR aS (mkE (sE σ) (sM σ) 6) (sL σ) (sF σ) (sFc σ) (sR σ) (sS σ) (sRc σ) (sO σ) (sC σ) (sM σ) (sV σ)) 31 [(2, .int (nI 6)), (1, .int (nI (sM σ))), (0, .ref h)] []
      refine r_aload_n hc dX1_make_31 rfl 2 rfl ?_
      refine r_get hc inlX1 0 rfl rfl 1 (by decide) fl_X1_15 rfl rfl dX1_make_32 ?_
      refine r_iload_n hc dX1_make_35 rfl 1 rfl ?_
      refine r_iload_n hc dX1_make_36 rfl 1 rfl ?_
      refine r_iast (ws' := wX cI cZ h aE aL aF aR aS (mkE (sE σ) (sM σ) 6) (va_up (sL σ) (sM σ) (sM σ)) (sF σ) (sFc σ) (sR σ) (sS σ) (sRc σ) (sO σ) (sC σ) (sM σ) (sV σ)) hc nI (sM σ) 2 rfl (by omega) (by decide) rfl dX1_make_37 ?_
      refine r_aload_n hc dX1_make_38 rfl 2 rfl ?_
      refine r_dup hc dX1_make_39 rfl ?_
      refine r_get hc inlX1 0 rfl rfl 9 (by decide) fl_X1_32 rfl rfl dX1_make_40 ?_
      refine r_iconst (v := (nI 1)) hc dX1_make_43 rfl ?_
      refine n_add hc dX1_make_44 ?_
      refine r_put (ws' := wX cI cZ h aE aL aF aR aS (mkE (sE σ) (sM σ) 6) (va_up (sL σ) (sM σ) (sM σ)) (sF σ) (sFc σ) (sR σ) (sS σ) (sRc σ) (sO σ) (sC σ) ((sM σ) + 1) (sV σ)) hc inlX1 tyX1 tyX1_ok nmX1 0 rfl rfl 9 (by decide) fl_X1_32 rfl rfl rfl rfl (Nat.le_of_ble_eq_true rfl) rfl dX1_make_45 ?_
      refine r_aload_n hc dX1_make_48 rfl 2 rfl ?_
      refine r_dup hc dX1_make_49 rfl ?_
      refine r_get hc inlX1 0 rfl rfl 10 (by decide) fl_X1_35 rfl rfl dX1_make_50 ?_
      refine r_iconst (v := (nI 1)) hc dX1_make_53 rfl ?_
      refine n_add hc dX1_make_54 ?_
      refine r_put (ws' := wX cI cZ h aE aL aF aR aS (mkE (sE σ) (sM σ) 6) (va_up (sL σ) (sM σ) (sM σ)) (sF σ) (sFc σ) (sR σ) (sS σ) (sRc σ) (sO σ) (sC σ) ((sM σ) + 1) ((sV σ) + 1)) hc inlX1 tyX1 tyX1_ok nmX1 0 rfl rfl 10 (by decide) fl_X1_35 rfl rfl rfl rfl (Nat.le_of_ble_eq_true rfl) rfl dX1_make_55 ?_
      refine r_iload_n hc dX1_make_58 rfl 1 rfl ?_
      rw [← hQ]
      exact r_iret hc hr hlk (mkE (sE σ) (sM σ) 6, va_up (sL σ) (sM σ) (sM σ), sF σ, sFc σ, sR σ, sS σ, sRc σ, sO σ, sC σ, (sM σ) + 1, (sV σ) + 1) (⟨rfl, rfl⟩) rfl dX1_make_59
    · refine r_aload_n hc dX1_make_13 rfl 2 rfl ?_
      refine r_get hc inlX1 0 rfl rfl 0 (by decide) fl_X1_9 rfl rfl dX1_make_14 ?_
      refine r_iload_n hc dX1_make_17 rfl 1 rfl ?_
      refine r_bipush (v := (nI 6)) hc dX1_make_18 rfl ?_
      refine n_mul hc dX1_make_20 ?_
      refine r_iload_n hc dX1_make_21 rfl 0 rfl ?_
      refine n_add hc dX1_make_22 ?_
      refine r_iconst (v := (-1)) hc dX1_make_23 rfl ?_
      refine r_iast (ws' := wX cI cZ h aE aL aF aR aS (va_up (mkE (sE σ) (sM σ) x) (((sM σ) * 6) + x) none) (sL σ) (sF σ) (sFc σ) (sR σ) (sS σ) (sRc σ) (sO σ) (sC σ) (sM σ) (sV σ)) hc eI none 1 rfl (by omega) (by decide) rfl dX1_make_24 ?_
      refine r_iinc (k := 0) (v := (nI (x + 1))) (lv' := [(2, .int (nI (x + 1))), (1, .int (nI (sM σ))), (0, .ref h)]) hc dX1_make_25 rfl (nI_add _ _) (by decide) rfl ?_
      refine r_goto hc 7 dX1_make_28 (by decide) ?_
      refine r_lv [0, 1, 2] rfl ?_
      exact ih7 _ (by omega) (x + 1) rfl (by omega)
  refine r_lv [0, 1, 2] rfl ?_
  exact lp7 _ 0 rfl (by decide)
set_option maxHeartbeats 4000000 in
set_option maxRecDepth 100000 in
/-- findOpen() -/
theorem c_findOpen (l : Launch) (D : va_G) (cI cZ cW : ClassId) (h aE aL aF aR aS : Nat) (σ : CS) (hB : BD σ) : CtI l yX1_findOpen cX1_findOpen 1 (some .boolean) 2 42 0 0 D cI cZ cW [.ref h] (wS cI cZ h aE aL aF aR aS σ) ([]) (S := CS) (fun r u => ∃ o, u = (sE σ, sL σ, sF σ, sFc σ, sR σ, sS σ, sRc σ, o, sC σ, sM σ, sV σ) ∧ sO σ ≤ o ∧ o ≤ max (sO σ) (sM σ * 6) ∧ (∀ p, sO σ ≤ p → p < o → opn σ p = false) ∧ r = zI (decide (o < sM σ * 6)) ∧ (o < sM σ * 6 → opn σ o = true)) (fun u => wS cI cZ h aE aL aF aR aS u) := by
  refine CtI.mk (by decide) (Nat.le_of_ble_eq_true rfl) ?_
  intro p e s m args below meth c A hc hr hlk hnm hro
  generalize hQ : MQ below _ args s 0 0 A = Q
  have hB0 := hB
  obtain ⟨bM, bC, bL, bF, bR, bE, bRc, bFc, bV, bO⟩ := hB
  show V p l e (RM 2 42 0 0) s m args below meth c D A 1 0 0 Q (wS cI cZ h aE aL aF aR aS σ) 0 [(0, .ref h)] []
  have lp0 : ∀ (n : Nat) (o : Nat), 1200 + sM σ * 6 - o = n → (sO σ ≤ o) → (o ≤ max (sO σ) (sM σ * 6)) → (∀ p, sO σ ≤ p → p < o → opn σ p = false) → V p l e (RM 2 42 0 0) s m args below meth c D A 1 0 0 Q (wX cI cZ h aE aL aF aR aS (sE σ) (sL σ) (sF σ) (sFc σ) (sR σ) (sS σ) (sRc σ) o (sC σ) (sM σ) (sV σ)) 0 [(0, .ref h)] [] := by
    intro n
    induction n using Nat.strongRecOn with
    | _ n ih0 =>
    intro o hm0 hlo hhi ho
    refine r_aload_n hc dX1_findOpen_0 rfl 0 rfl ?_
    refine r_get hc inlX1 0 rfl rfl 7 (by decide) fl_X1_38 rfl rfl dX1_findOpen_1 ?_
    refine r_aload_n hc dX1_findOpen_4 rfl 0 rfl ?_
    refine r_get hc inlX1 0 rfl rfl 9 (by decide) fl_X1_32 rfl rfl dX1_findOpen_5 ?_
    refine r_bipush (v := (nI 6)) hc dX1_findOpen_8 rfl ?_
    refine n_mul hc dX1_findOpen_10 ?_
    refine n_icmp_ge hc 38 dX1_findOpen_11 (by decide) (by omega) (by omega) (fun h1 => ?_) (fun h1 => ?_)
    · refine r_aload_n hc dX1_findOpen_38 rfl 0 rfl ?_
      refine r_get hc inlX1 0 rfl rfl 7 (by decide) fl_X1_38 rfl rfl dX1_findOpen_39 ?_
      refine r_aload_n hc dX1_findOpen_42 rfl 0 rfl ?_
      refine r_get hc inlX1 0 rfl rfl 9 (by decide) fl_X1_32 rfl rfl dX1_findOpen_43 ?_
      refine r_bipush (v := (nI 6)) hc dX1_findOpen_46 rfl ?_
      refine n_mul hc dX1_findOpen_48 ?_
      refine n_icmp_ge hc 56 dX1_findOpen_49 (by decide) (by omega) (by omega) (fun h2 => ?_) (fun h2 => ?_)
      · refine r_iconst (v := (nI 0)) hc dX1_findOpen_56 rfl ?_
        rw [← hQ]
        exact r_zret (b := false) hc hr hlk (sE σ, sL σ, sF σ, sFc σ, sR σ, sS σ, sRc σ, o, sC σ, sM σ, sV σ) ⟨o, rfl, hlo, hhi, ho, congrArg zI (by simp; omega), fun q => by omega⟩ rfl dX1_findOpen_57
      · exact absurd h2 (by omega)
    · refine r_aload_n hc dX1_findOpen_14 rfl 0 rfl ?_
      refine r_aload_n hc dX1_findOpen_15 rfl 0 rfl ?_
      refine r_get hc inlX1 0 rfl rfl 7 (by decide) fl_X1_38 rfl rfl dX1_findOpen_16 ?_
      refine r_callI (As := [.int (nI o)]) (n := 1) (wr := wX cI cZ h aE aL aF aR aS (sE σ) (sL σ) (sF σ) (sFc σ) (sR σ) (sS σ) (sRc σ) o (sC σ) (sM σ) (sV σ)) hc (c_isOpen l D cI cZ cW h aE aL aF aR aS (sE σ, sL σ, sF σ, sFc σ, sR σ, sS σ, sRc σ, o, sC σ, sM σ, sV σ) o (by omega) (show BD (sE σ, sL σ, sF σ, sFc σ, sR σ, sS σ, sRc σ, o, sC σ, sM σ, sV σ) from ⟨bM, bC, bL, bF, bR, bE, bRc, bFc, bV, (show o ≤ 1200 by omega)⟩)) co_yX1_isOpen in_X1 ml_X1_45 (by decide +kernel) rfl ⟨by decide, by decide⟩ ⟨by decide, by decide⟩ im_yX1_isOpen se_yX1_isOpen rfl (Or.inl ⟨0, _, rfl⟩) rfl (by decide) [] [0, 1, 2, 3, 4, 5] rfl rfl rfl rfl (by decide) (fun q hq => Or.inl ((List.getElem?_of_mem hq).elim fun k hk => ⟨k, hk, List.not_mem_nil⟩)) dX1_findOpen_19 (fun r3 u4 e5 => ?_)
      subst e5
      change V _ _ _ _ _ _ _ _ _ _ _ _ _ _ _ _ _ _ _ [.int (zI (opn σ o))]
      refine z_if_ne hc 38 dX1_findOpen_22 (by decide) (fun h6 => ?_) (fun h6 => ?_)
      · have hop : opn σ o = true := h6
        refine r_aload_n hc dX1_findOpen_38 rfl 0 rfl ?_
        refine r_get hc inlX1 0 rfl rfl 7 (by decide) fl_X1_38 rfl rfl dX1_findOpen_39 ?_
        refine r_aload_n hc dX1_findOpen_42 rfl 0 rfl ?_
        refine r_get hc inlX1 0 rfl rfl 9 (by decide) fl_X1_32 rfl rfl dX1_findOpen_43 ?_
        refine r_bipush (v := (nI 6)) hc dX1_findOpen_46 rfl ?_
        refine n_mul hc dX1_findOpen_48 ?_
        refine n_icmp_ge hc 56 dX1_findOpen_49 (by decide) (by omega) (by omega) (fun h7 => ?_) (fun h7 => ?_)
        · exact absurd h7 (by omega)
        · refine r_iconst (v := (nI 1)) hc dX1_findOpen_52 rfl ?_
          refine r_goto hc 57 dX1_findOpen_53 (by decide) ?_
          rw [← hQ]
          exact r_zret (b := true) hc hr hlk (sE σ, sL σ, sF σ, sFc σ, sR σ, sS σ, sRc σ, o, sC σ, sM σ, sV σ) ⟨o, rfl, hlo, hhi, ho, congrArg zI (by simp; omega), fun _ => hop⟩ rfl dX1_findOpen_57
      · refine r_aload_n hc dX1_findOpen_25 rfl 0 rfl ?_
        refine r_dup hc dX1_findOpen_26 rfl ?_
        refine r_get hc inlX1 0 rfl rfl 7 (by decide) fl_X1_38 rfl rfl dX1_findOpen_27 ?_
        refine r_iconst (v := (nI 1)) hc dX1_findOpen_30 rfl ?_
        refine n_add hc dX1_findOpen_31 ?_
        refine r_put (ws' := wX cI cZ h aE aL aF aR aS (sE σ) (sL σ) (sF σ) (sFc σ) (sR σ) (sS σ) (sRc σ) (o + 1) (sC σ) (sM σ) (sV σ)) hc inlX1 tyX1 tyX1_ok nmX1 0 rfl rfl 7 (by decide) fl_X1_38 rfl rfl rfl rfl (Nat.le_of_ble_eq_true rfl) rfl dX1_findOpen_32 ?_
        refine r_goto hc 0 dX1_findOpen_35 (by decide) ?_
        refine r_lv [0] rfl ?_
        exact ih0 _ (by omega) (o + 1) rfl (by omega) (by omega) (fun p q1 q2 => if q : p = o then q ▸ h6 else ho p q1 (by omega))
  refine r_lv [0] rfl ?_
  exact lp0 _ (sO σ) rfl (Nat.le_refl _) (Nat.le_max_left _ _) (fun p h1 h2 => absurd h1 (by omega))
end
section
def cntO (σ : CS) (n : Nat) : Nat := match n with | 0 => 0 | n + 1 => cntO σ n + (if opn σ n = true then 1 else 0)
theorem cntO_le (σ : CS) (n : Nat) : cntO σ n ≤ n := by
  induction n with
  | zero => exact Nat.le_refl _
  | succ n ih => rw [cntO]; split <;> omega
def rl (f : Nat → Nat) (hi lo : Nat) (j : Nat) : Nat → Nat := match j with | 0 => f | j + 1 => if rl f hi lo j (hi + j) = hi then va_up (rl f hi lo j) (hi + j) lo else rl f hi lo j
def fFl (σ : CS) (lo hi : Nat) : CS := (sE σ, rl (sL σ) hi lo (sM σ - hi), va_up (sF σ) (sFc σ) hi, sFc σ + 1, sR σ, sS σ, sRc σ, sO σ, sC σ, sM σ, sV σ - 1)
def fFall (σ : CS) (c d : Nat) : CS := if sL σ c = sL σ d then σ else if sL σ c < sL σ d then fFl σ (sL σ c) (sL σ d) else fFl σ (sL σ d) (sL σ c)
theorem rl_lt {f : Nat → Nat} {hi lo : Nat} (hf : ∀ i, f i < 200) (hlo : lo < 200) (j : Nat) : ∀ i, rl f hi lo j i < 200 := by
  induction j with
  | zero => exact hf
  | succ j ih =>
    intro i
    rw [rl]
    split
    · simp only [va_up]; split
      · exact hlo
      · exact ih i
    · exact ih i
set_option maxHeartbeats 4000000 in
set_option maxRecDepth 100000 in
/-- countOpen() -/
theorem c_countOpen (l : Launch) (D : va_G) (cI cZ cW : ClassId) (h aE aL aF aR aS : Nat) (σ : CS) (hB : BD σ) : CtI l yX1_countOpen cX1_countOpen 3 (some .int) 2 42 0 0 D cI cZ cW [.ref h] ([]) (wS cI cZ h aE aL aF aR aS σ) (S := Unit) (fun r _ => r = nI (cntO σ (sM σ * 6))) (fun _ => []) := by
  refine CtI.mk (by decide) (Nat.le_of_ble_eq_true rfl) ?_
  intro p e s m args below meth c A hc hr hlk hnm hro
  generalize hQ : MQ below _ args s 0 0 A = Q
  have hB0 := hB
  obtain ⟨bM, bC, bL, bF, bR, bE, bRc, bFc, bV, bO⟩ := hB
  show V p l e (RM 2 42 0 0) s m args below meth c D A 3 0 0 Q ([]) 0 [(0, .ref h)] []
  refine r_iconst (v := (nI 0)) hc dX1_countOpen_0 rfl ?_
  refine r_istore_n (lv' := [(1, .int (nI 0)), (0, .ref h)]) hc dX1_countOpen_1 rfl (by decide) rfl ?_
  refine r_iconst (v := (nI 0)) hc dX1_countOpen_2 rfl ?_
  refine r_istore_n (lv' := [(2, .int (nI 0)), (1, .int (nI 0)), (0, .ref h)]) hc dX1_countOpen_3 rfl (by decide) rfl ?_
  have lp4 : ∀ (n : Nat) (k : Nat), sM σ * 6 - k = n → (k ≤ sM σ * 6) → V p l e (RM 2 42 0 0) s m args below meth c D A 3 0 0 Q ([]) 4 [(2, .int (nI k)), (1, .int (nI (cntO σ k))), (0, .ref h)] [] := by
    intro n
    induction n using Nat.strongRecOn with
    | _ n ih4 =>
    intro k hm4 hk
    refine r_iload_n hc dX1_countOpen_4 rfl 0 rfl ?_
    refine r_aload_n hc dX1_countOpen_5 rfl 2 rfl ?_
    refine r_getR hc inlX1 (hro _ (List.mem_of_getElem? (i := 0) rfl)) rfl 9 (by decide) fl_X1_32 rfl rfl dX1_countOpen_6 ?_
    refine r_bipush (v := (nI 6)) hc dX1_countOpen_9 rfl ?_
    refine n_mul hc dX1_countOpen_11 ?_
    refine n_icmp_ge hc 32 dX1_countOpen_12 (by decide) (by omega) (by omega) (fun h1 => ?_) (fun h1 => ?_)
    · obtain rfl : k = sM σ * 6 := by omega
      show V p l e (RM 2 42 0 0) s m args below meth c D A 3 0 0 Q ([]) 32 [(2, .int (nI (sM σ * 6))), (1, .int (nI (cntO σ (sM σ * 6)))), (0, .ref h)] []
      refine r_iload_n hc dX1_countOpen_32 rfl 1 rfl ?_
      rw [← hQ]
      exact r_iret hc hr hlk () (rfl) rfl dX1_countOpen_33
    · refine r_aload_n hc dX1_countOpen_15 rfl 2 rfl ?_
      refine r_iload_n hc dX1_countOpen_16 rfl 0 rfl ?_
      refine r_callI (As := [.int (nI k)]) (n := 1) (wr := []) hc (c_isOpen l D cI cZ cW h aE aL aF aR aS σ k (by omega) hB0) co_yX1_isOpen in_X1 ml_X1_45 (by decide +kernel) rfl ⟨by decide, by decide⟩ ⟨by decide, by decide⟩ im_yX1_isOpen se_yX1_isOpen rfl (Or.inr ⟨_, (hro _ (List.mem_of_getElem? (i := 0) rfl))⟩) rfl (by decide) [] [] rfl rfl rfl rfl (by decide) (fun q hq => Or.inr (hro q hq)) dX1_countOpen_17 (fun r2 u3 e4 => ?_)
      subst e4
      refine z_if_eq hc 26 dX1_countOpen_20 (by decide) (fun h5 => ?_) (fun h5 => ?_)
      · have hcn : cntO σ k = cntO σ (k + 1) := by rw [cntO, if_neg (by rw [h5]; decide)]; rfl
        rw [hcn]
        show V p l e (RM 2 42 0 0) s m args below meth c D A 3 0 0 Q ([]) 26 [(2, .int (nI k)), (1, .int (nI (cntO σ (k + 1)))), (0, .ref h)] []
        refine r_iinc (k := 0) (v := (nI (k + 1))) (lv' := [(2, .int (nI (k + 1))), (1, .int (nI (cntO σ (k + 1)))), (0, .ref h)]) hc dX1_countOpen_26 rfl (nI_add _ _) (by decide) rfl ?_
        refine r_goto hc 4 dX1_countOpen_29 (by decide) ?_
        refine r_lv [0, 1, 2] rfl ?_
        exact ih4 _ (by omega) (k + 1) rfl (by omega)
      · refine r_iinc (k := 1) (v := (nI (cntO σ k + 1))) (lv' := [(1, .int (nI (cntO σ k + 1))), (2, .int (nI k)), (0, .ref h)]) hc dX1_countOpen_23 rfl (nI_add _ _) (by decide) rfl ?_
        have hcn : cntO σ k + 1 = cntO σ (k + 1) := by rw [cntO, if_pos h5]
        rw [hcn]
        show V p l e (RM 2 42 0 0) s m args below meth c D A 3 0 0 Q ([]) 26 [(1, .int (nI (cntO σ (k + 1)))), (2, .int (nI k)), (0, .ref h)] []
        refine r_iinc (k := 1) (v := (nI (k + 1))) (lv' := [(2, .int (nI (k + 1))), (1, .int (nI (cntO σ (k + 1)))), (0, .ref h)]) hc dX1_countOpen_26 rfl (nI_add _ _) (by decide) rfl ?_
        refine r_goto hc 4 dX1_countOpen_29 (by decide) ?_
        refine r_lv [0, 1, 2] rfl ?_
        exact ih4 _ (by omega) (k + 1) rfl (by omega)
  refine r_lv [0, 1, 2] rfl ?_
  exact lp4 _ 0 rfl (Nat.zero_le _)
set_option maxHeartbeats 4000000 in
set_option maxRecDepth 100000 in
/-- fall(k, d) -/
theorem c_fall (l : Launch) (D : va_G) (cI cZ cW : ClassId) (h aE aL aF aR aS : Nat) (σ : CS) (k d : Nat) (hk : k < 200) (hd : d < 200) (hf : ¬ sL σ k = sL σ d → sFc σ < 200) (hv : ¬ sL σ k = sL σ d → 1 ≤ sV σ) (hB : BD σ) : CtV l yX1_fall cX1_fall 6 none 0 0 0 0 D cI cZ cW [.ref h, .int (nI k), .int (nI d)] (wS cI cZ h aE aL aF aR aS σ) ([]) (S := CS) (fun u => u = fFall σ k d) (fun u => wS cI cZ h aE aL aF aR aS u) := by
  refine CtV.mk (by decide) (Nat.le_of_ble_eq_true rfl) ?_
  intro p e s m args below meth c A hc hr hlk hnm hro
  generalize hQ : MQ below _ args s 0 0 A = Q
  have hB0 := hB
  obtain ⟨bM, bC, bL, bF, bR, bE, bRc, bFc, bV, bO⟩ := hB
  show V p l e (RM 0 0 0 0) s m args below meth c D A 6 0 0 Q (wS cI cZ h aE aL aF aR aS σ) 0 [(0, .ref h), (1, .int (nI k)), (2, .int (nI d))] []
  refine r_aload_n hc dX1_fall_0 rfl 0 rfl ?_
  refine r_get hc inlX1 0 rfl rfl 1 (by decide) fl_X1_15 rfl rfl dX1_fall_1 ?_
  refine r_iload_n hc dX1_fall_4 rfl 1 rfl ?_
  have b1 := bL k
  refine r_iald hc nI 2 rfl (by omega) (by decide) dX1_fall_5 ?_
  refine r_aload_n hc dX1_fall_6 rfl 0 rfl ?_
  refine r_get hc inlX1 0 rfl rfl 1 (by decide) fl_X1_15 rfl rfl dX1_fall_7 ?_
  refine r_iload_n hc dX1_fall_10 rfl 2 rfl ?_
  have b2 := bL d
  refine r_iald hc nI 2 rfl (by omega) (by decide) dX1_fall_11 ?_
  refine n_icmp_ne hc 16 dX1_fall_12 (by decide) (by omega) (by omega) (fun h3 => ?_) (fun h3 => ?_)
  · have hne : ¬ sL σ k = sL σ d := h3
    have hfc1 := hf hne
    have hv1 := hv hne
    refine r_aload_n hc dX1_fall_16 rfl 0 rfl ?_
    refine r_get hc inlX1 0 rfl rfl 1 (by decide) fl_X1_15 rfl rfl dX1_fall_17 ?_
    refine r_iload_n hc dX1_fall_20 rfl 1 rfl ?_
    have b4 := bL k
    refine r_iald hc nI 2 rfl (by omega) (by decide) dX1_fall_21 ?_
    refine r_aload_n hc dX1_fall_22 rfl 0 rfl ?_
    refine r_get hc inlX1 0 rfl rfl 1 (by decide) fl_X1_15 rfl rfl dX1_fall_23 ?_
    refine r_iload_n hc dX1_fall_26 rfl 2 rfl ?_
    have b5 := bL d
    refine r_iald hc nI 2 rfl (by omega) (by decide) dX1_fall_27 ?_
    refine n_icmp_ge hc 40 dX1_fall_28 (by decide) (by omega) (by omega) (fun h6 => ?_) (fun h6 => ?_)
    · refine r_aload_n hc dX1_fall_40 rfl 0 rfl ?_
      refine r_get hc inlX1 0 rfl rfl 1 (by decide) fl_X1_15 rfl rfl dX1_fall_41 ?_
      refine r_iload_n hc dX1_fall_44 rfl 2 rfl ?_
      have b7 := bL d
      refine r_iald hc nI 2 rfl (by omega) (by decide) dX1_fall_45 ?_
      refine r_istore_n (lv' := [(3, .int (nI ((sL σ) d))), (0, .ref h), (1, .int (nI k)), (2, .int (nI d))]) hc dX1_fall_46 rfl (by decide) rfl ?_
      refine r_aload_n hc dX1_fall_47 rfl 1 rfl ?_
      refine r_get hc inlX1 0 rfl rfl 1 (by decide) fl_X1_15 rfl rfl dX1_fall_48 ?_
      refine r_iload_n hc dX1_fall_51 rfl 2 rfl ?_
      have b8 := bL k
      refine r_iald hc nI 2 rfl (by omega) (by decide) dX1_fall_52 ?_
      refine r_aload_n hc dX1_fall_53 rfl 1 rfl ?_
      refine r_get hc inlX1 0 rfl rfl 1 (by decide) fl_X1_15 rfl rfl dX1_fall_54 ?_
      refine r_iload_n hc dX1_fall_57 rfl 3 rfl ?_
      have b9 := bL d
      refine r_iald hc nI 2 rfl (by omega) (by decide) dX1_fall_58 ?_
      refine n_icmp_ge hc 71 dX1_fall_59 (by decide) (by omega) (by omega) (fun h10 => ?_) (fun h10 => ?_)
      · refine r_aload_n hc dX1_fall_71 rfl 1 rfl ?_
        refine r_get hc inlX1 0 rfl rfl 1 (by decide) fl_X1_15 rfl rfl dX1_fall_72 ?_
        refine r_iload_n hc dX1_fall_75 rfl 2 rfl ?_
        have b11 := bL k
        refine r_iald hc nI 2 rfl (by omega) (by decide) dX1_fall_76 ?_
        refine r_istore (lv' := [(4, .int (nI ((sL σ) k))), (3, .int (nI ((sL σ) d))), (0, .ref h), (1, .int (nI k)), (2, .int (nI d))]) hc dX1_fall_77 (by decide) rfl ?_
        refine r_iload hc dX1_fall_79 0 rfl ?_
        refine r_istore (lv' := [(5, .int (nI ((sL σ) k))), (4, .int (nI ((sL σ) k))), (3, .int (nI ((sL σ) d))), (0, .ref h), (1, .int (nI k)), (2, .int (nI d))]) hc dX1_fall_81 (by decide) rfl ?_
        have lp83 : ∀ (n : Nat) (j : Nat), sM σ - j = n → (j ≤ sM σ - (sL σ k)) → V p l e (RM 0 0 0 0) s m args below meth c D A 6 0 0 Q (wX cI cZ h aE aL aF aR aS (sE σ) (rl (sL σ) (sL σ k) (sL σ d) j) (sF σ) (sFc σ) (sR σ) (sS σ) (sRc σ) (sO σ) (sC σ) (sM σ) (sV σ)) 83 [(5, .int (nI (sL σ k + j))), (4, .int (nI ((sL σ) k))), (3, .int (nI ((sL σ) d))), (0, .ref h), (1, .int (nI k)), (2, .int (nI d))] [] := by
          intro n
          induction n using Nat.strongRecOn with
          | _ n ih83 =>
          intro j hm83 hj
          refine r_iload hc dX1_fall_83 0 rfl ?_
          refine r_aload_n hc dX1_fall_85 rfl 3 rfl ?_
          refine r_get hc inlX1 0 rfl rfl 9 (by decide) fl_X1_32 rfl rfl dX1_fall_86 ?_
          refine n_icmp_ge hc 118 dX1_fall_89 (by decide) (by omega) (by omega) (fun h12 => ?_) (fun h12 => ?_)
          · obtain rfl : j = sM σ - (sL σ k) := by omega
            show V p l e (RM 0 0 0 0) s m args below meth c D A 6 0 0 Q (wX cI cZ h aE aL aF aR aS (sE σ) (rl (sL σ) (sL σ k) (sL σ d) (sM σ - (sL σ k))) (sF σ) (sFc σ) (sR σ) (sS σ) (sRc σ) (sO σ) (sC σ) (sM σ) (sV σ)) 118 [(5, .int (nI (sL σ k + (sM σ - (sL σ k))))), (4, .int (nI ((sL σ) k))), (3, .int (nI ((sL σ) d))), (0, .ref h), (1, .int (nI k)), (2, .int (nI d))] []
            refine r_aload_n hc dX1_fall_118 rfl 3 rfl ?_
            refine r_get hc inlX1 0 rfl rfl 2 (by decide) fl_X1_18 rfl rfl dX1_fall_119 ?_
            refine r_aload_n hc dX1_fall_122 rfl 3 rfl ?_
            refine r_get hc inlX1 0 rfl rfl 3 (by decide) fl_X1_59 rfl rfl dX1_fall_123 ?_
            refine r_iload hc dX1_fall_126 1 rfl ?_
            refine r_iast (ws' := wX cI cZ h aE aL aF aR aS (sE σ) (rl (sL σ) (sL σ k) (sL σ d) (sM σ - (sL σ k))) (va_up (sF σ) (sFc σ) ((sL σ) k)) (sFc σ) (sR σ) (sS σ) (sRc σ) (sO σ) (sC σ) (sM σ) (sV σ)) hc nI ((sL σ) k) 3 rfl (by omega) (by decide) rfl dX1_fall_128 ?_
            refine r_aload_n hc dX1_fall_129 rfl 3 rfl ?_
            refine r_dup hc dX1_fall_130 rfl ?_
            refine r_get hc inlX1 0 rfl rfl 3 (by decide) fl_X1_59 rfl rfl dX1_fall_131 ?_
            refine r_iconst (v := (nI 1)) hc dX1_fall_134 rfl ?_
            refine n_add hc dX1_fall_135 ?_
            refine r_put (ws' := wX cI cZ h aE aL aF aR aS (sE σ) (rl (sL σ) (sL σ k) (sL σ d) (sM σ - (sL σ k))) (va_up (sF σ) (sFc σ) ((sL σ) k)) ((sFc σ) + 1) (sR σ) (sS σ) (sRc σ) (sO σ) (sC σ) (sM σ) (sV σ)) hc inlX1 tyX1 tyX1_ok nmX1 0 rfl rfl 3 (by decide) fl_X1_59 rfl rfl rfl rfl (Nat.le_of_ble_eq_true rfl) rfl dX1_fall_136 ?_
            refine r_aload_n hc dX1_fall_139 rfl 3 rfl ?_
            refine r_dup hc dX1_fall_140 rfl ?_
            refine r_get hc inlX1 0 rfl rfl 10 (by decide) fl_X1_35 rfl rfl dX1_fall_141 ?_
            refine r_iconst (v := (nI 1)) hc dX1_fall_144 rfl ?_
            refine n_sub hc dX1_fall_145 (by omega) ?_
            refine r_put (ws' := wX cI cZ h aE aL aF aR aS (sE σ) (rl (sL σ) (sL σ k) (sL σ d) (sM σ - (sL σ k))) (va_up (sF σ) (sFc σ) ((sL σ) k)) ((sFc σ) + 1) (sR σ) (sS σ) (sRc σ) (sO σ) (sC σ) (sM σ) ((sV σ) - 1)) hc inlX1 tyX1 tyX1_ok nmX1 0 rfl rfl 10 (by decide) fl_X1_35 rfl rfl rfl rfl (Nat.le_of_ble_eq_true rfl) rfl dX1_fall_146 ?_
            rw [← hQ]
            exact r_vret hc hr hlk (sE σ, rl (sL σ) (sL σ k) (sL σ d) (sM σ - (sL σ k)), va_up (sF σ) (sFc σ) ((sL σ) k), (sFc σ) + 1, sR σ, sS σ, sRc σ, sO σ, sC σ, sM σ, (sV σ) - 1) (((if_neg hne).trans (if_neg (by omega))).symm) rfl dX1_fall_149
          · have hrl := rl_lt (hi := sL σ k) (lo := sL σ d) bL (bL _) j (sL σ k + j)
            refine r_aload_n hc dX1_fall_92 rfl 3 rfl ?_
            refine r_get hc inlX1 0 rfl rfl 1 (by decide) fl_X1_15 rfl rfl dX1_fall_93 ?_
            refine r_iload hc dX1_fall_96 0 rfl ?_
            refine r_iald hc nI 2 rfl (by omega) (by decide) dX1_fall_98 ?_
            refine r_iload hc dX1_fall_99 1 rfl ?_
            refine n_icmp_ne hc 112 dX1_fall_101 (by decide) (by omega) (by omega) (fun h13 => ?_) (fun h13 => ?_)
            · have hrn : rl (sL σ) (sL σ k) (sL σ d) j = rl (sL σ) (sL σ k) (sL σ d) (j + 1) := by rw [rl, if_neg h13]
              rw [hrn]
              show V p l e (RM 0 0 0 0) s m args below meth c D A 6 0 0 Q (wX cI cZ h aE aL aF aR aS (sE σ) (rl (sL σ) (sL σ k) (sL σ d) (j + 1)) (sF σ) (sFc σ) (sR σ) (sS σ) (sRc σ) (sO σ) (sC σ) (sM σ) (sV σ)) 112 [(5, .int (nI (sL σ k + j))), (4, .int (nI ((sL σ) k))), (3, .int (nI ((sL σ) d))), (0, .ref h), (1, .int (nI k)), (2, .int (nI d))] []
              refine r_iinc (k := 0) (v := (nI (sL σ k + j + 1))) (lv' := [(5, .int (nI (sL σ k + j + 1))), (4, .int (nI ((sL σ) k))), (3, .int (nI ((sL σ) d))), (0, .ref h), (1, .int (nI k)), (2, .int (nI d))]) hc dX1_fall_112 rfl (nI_add _ _) (by decide) rfl ?_
              refine r_goto hc 83 dX1_fall_115 (by decide) ?_
              refine r_lv [0, 1, 2, 3, 4, 5] rfl ?_
              exact ih83 _ (by omega) (j + 1) rfl (by omega)
            · refine r_aload_n hc dX1_fall_104 rfl 3 rfl ?_
              refine r_get hc inlX1 0 rfl rfl 1 (by decide) fl_X1_15 rfl rfl dX1_fall_105 ?_
              refine r_iload hc dX1_fall_108 0 rfl ?_
              refine r_iload_n hc dX1_fall_110 rfl 2 rfl ?_
              refine r_iast (ws' := wX cI cZ h aE aL aF aR aS (sE σ) (va_up (rl (sL σ) (sL σ k) (sL σ d) j) (sL σ k + j) ((sL σ) d)) (sF σ) (sFc σ) (sR σ) (sS σ) (sRc σ) (sO σ) (sC σ) (sM σ) (sV σ)) hc nI ((sL σ) d) 2 rfl (by omega) (by decide) rfl dX1_fall_111 ?_
              have hrn : va_up (rl (sL σ) (sL σ k) (sL σ d) j) (sL σ k + j) (sL σ d) = rl (sL σ) (sL σ k) (sL σ d) (j + 1) := by rw [rl, if_pos h13]
              rw [hrn]
              show V p l e (RM 0 0 0 0) s m args below meth c D A 6 0 0 Q (wX cI cZ h aE aL aF aR aS (sE σ) (rl (sL σ) (sL σ k) (sL σ d) (j + 1)) (sF σ) (sFc σ) (sR σ) (sS σ) (sRc σ) (sO σ) (sC σ) (sM σ) (sV σ)) 112 [(5, .int (nI (sL σ k + j))), (4, .int (nI ((sL σ) k))), (3, .int (nI ((sL σ) d))), (0, .ref h), (1, .int (nI k)), (2, .int (nI d))] []
              refine r_iinc (k := 0) (v := (nI (sL σ k + j + 1))) (lv' := [(5, .int (nI (sL σ k + j + 1))), (4, .int (nI ((sL σ) k))), (3, .int (nI ((sL σ) d))), (0, .ref h), (1, .int (nI k)), (2, .int (nI d))]) hc dX1_fall_112 rfl (nI_add _ _) (by decide) rfl ?_
              refine r_goto hc 83 dX1_fall_115 (by decide) ?_
              refine r_lv [0, 1, 2, 3, 4, 5] rfl ?_
              exact ih83 _ (by omega) (j + 1) rfl (by omega)
        refine r_lv [0, 1, 2, 3, 4, 5] rfl ?_
        exact lp83 _ 0 rfl (Nat.zero_le _)
      · exact absurd h10 (by omega)
    · refine r_aload_n hc dX1_fall_31 rfl 0 rfl ?_
      refine r_get hc inlX1 0 rfl rfl 1 (by decide) fl_X1_15 rfl rfl dX1_fall_32 ?_
      refine r_iload_n hc dX1_fall_35 rfl 1 rfl ?_
      have b14 := bL k
      refine r_iald hc nI 2 rfl (by omega) (by decide) dX1_fall_36 ?_
      refine r_goto hc 46 dX1_fall_37 (by decide) ?_
      refine r_istore_n (lv' := [(3, .int (nI ((sL σ) k))), (0, .ref h), (1, .int (nI k)), (2, .int (nI d))]) hc dX1_fall_46 rfl (by decide) rfl ?_
      refine r_aload_n hc dX1_fall_47 rfl 1 rfl ?_
      refine r_get hc inlX1 0 rfl rfl 1 (by decide) fl_X1_15 rfl rfl dX1_fall_48 ?_
      refine r_iload_n hc dX1_fall_51 rfl 2 rfl ?_
      have b15 := bL k
      refine r_iald hc nI 2 rfl (by omega) (by decide) dX1_fall_52 ?_
      refine r_aload_n hc dX1_fall_53 rfl 1 rfl ?_
      refine r_get hc inlX1 0 rfl rfl 1 (by decide) fl_X1_15 rfl rfl dX1_fall_54 ?_
      refine r_iload_n hc dX1_fall_57 rfl 3 rfl ?_
      have b16 := bL d
      refine r_iald hc nI 2 rfl (by omega) (by decide) dX1_fall_58 ?_
      refine n_icmp_ge hc 71 dX1_fall_59 (by decide) (by omega) (by omega) (fun h17 => ?_) (fun h17 => ?_)
      · exact absurd h17 (by omega)
      · refine r_aload_n hc dX1_fall_62 rfl 1 rfl ?_
        refine r_get hc inlX1 0 rfl rfl 1 (by decide) fl_X1_15 rfl rfl dX1_fall_63 ?_
        refine r_iload_n hc dX1_fall_66 rfl 3 rfl ?_
        have b18 := bL d
        refine r_iald hc nI 2 rfl (by omega) (by decide) dX1_fall_67 ?_
        refine r_goto hc 77 dX1_fall_68 (by decide) ?_
        refine r_istore (lv' := [(4, .int (nI ((sL σ) d))), (3, .int (nI ((sL σ) k))), (0, .ref h), (1, .int (nI k)), (2, .int (nI d))]) hc dX1_fall_77 (by decide) rfl ?_
        refine r_iload hc dX1_fall_79 0 rfl ?_
        refine r_istore (lv' := [(5, .int (nI ((sL σ) d))), (4, .int (nI ((sL σ) d))), (3, .int (nI ((sL σ) k))), (0, .ref h), (1, .int (nI k)), (2, .int (nI d))]) hc dX1_fall_81 (by decide) rfl ?_
        have lp83 : ∀ (n : Nat) (j : Nat), sM σ - j = n → (j ≤ sM σ - (sL σ d)) → V p l e (RM 0 0 0 0) s m args below meth c D A 6 0 0 Q (wX cI cZ h aE aL aF aR aS (sE σ) (rl (sL σ) (sL σ d) (sL σ k) j) (sF σ) (sFc σ) (sR σ) (sS σ) (sRc σ) (sO σ) (sC σ) (sM σ) (sV σ)) 83 [(5, .int (nI (sL σ d + j))), (4, .int (nI ((sL σ) d))), (3, .int (nI ((sL σ) k))), (0, .ref h), (1, .int (nI k)), (2, .int (nI d))] [] := by
          intro n
          induction n using Nat.strongRecOn with
          | _ n ih83 =>
          intro j hm83 hj
          refine r_iload hc dX1_fall_83 0 rfl ?_
          refine r_aload_n hc dX1_fall_85 rfl 3 rfl ?_
          refine r_get hc inlX1 0 rfl rfl 9 (by decide) fl_X1_32 rfl rfl dX1_fall_86 ?_
          refine n_icmp_ge hc 118 dX1_fall_89 (by decide) (by omega) (by omega) (fun h19 => ?_) (fun h19 => ?_)
          · obtain rfl : j = sM σ - (sL σ d) := by omega
            show V p l e (RM 0 0 0 0) s m args below meth c D A 6 0 0 Q (wX cI cZ h aE aL aF aR aS (sE σ) (rl (sL σ) (sL σ d) (sL σ k) (sM σ - (sL σ d))) (sF σ) (sFc σ) (sR σ) (sS σ) (sRc σ) (sO σ) (sC σ) (sM σ) (sV σ)) 118 [(5, .int (nI (sL σ d + (sM σ - (sL σ d))))), (4, .int (nI ((sL σ) d))), (3, .int (nI ((sL σ) k))), (0, .ref h), (1, .int (nI k)), (2, .int (nI d))] []
            refine r_aload_n hc dX1_fall_118 rfl 3 rfl ?_
            refine r_get hc inlX1 0 rfl rfl 2 (by decide) fl_X1_18 rfl rfl dX1_fall_119 ?_
            refine r_aload_n hc dX1_fall_122 rfl 3 rfl ?_
            refine r_get hc inlX1 0 rfl rfl 3 (by decide) fl_X1_59 rfl rfl dX1_fall_123 ?_
            refine r_iload hc dX1_fall_126 1 rfl ?_
            refine r_iast (ws' := wX cI cZ h aE aL aF aR aS (sE σ) (rl (sL σ) (sL σ d) (sL σ k) (sM σ - (sL σ d))) (va_up (sF σ) (sFc σ) ((sL σ) d)) (sFc σ) (sR σ) (sS σ) (sRc σ) (sO σ) (sC σ) (sM σ) (sV σ)) hc nI ((sL σ) d) 3 rfl (by omega) (by decide) rfl dX1_fall_128 ?_
            refine r_aload_n hc dX1_fall_129 rfl 3 rfl ?_
            refine r_dup hc dX1_fall_130 rfl ?_
            refine r_get hc inlX1 0 rfl rfl 3 (by decide) fl_X1_59 rfl rfl dX1_fall_131 ?_
            refine r_iconst (v := (nI 1)) hc dX1_fall_134 rfl ?_
            refine n_add hc dX1_fall_135 ?_
            refine r_put (ws' := wX cI cZ h aE aL aF aR aS (sE σ) (rl (sL σ) (sL σ d) (sL σ k) (sM σ - (sL σ d))) (va_up (sF σ) (sFc σ) ((sL σ) d)) ((sFc σ) + 1) (sR σ) (sS σ) (sRc σ) (sO σ) (sC σ) (sM σ) (sV σ)) hc inlX1 tyX1 tyX1_ok nmX1 0 rfl rfl 3 (by decide) fl_X1_59 rfl rfl rfl rfl (Nat.le_of_ble_eq_true rfl) rfl dX1_fall_136 ?_
            refine r_aload_n hc dX1_fall_139 rfl 3 rfl ?_
            refine r_dup hc dX1_fall_140 rfl ?_
            refine r_get hc inlX1 0 rfl rfl 10 (by decide) fl_X1_35 rfl rfl dX1_fall_141 ?_
            refine r_iconst (v := (nI 1)) hc dX1_fall_144 rfl ?_
            refine n_sub hc dX1_fall_145 (by omega) ?_
            refine r_put (ws' := wX cI cZ h aE aL aF aR aS (sE σ) (rl (sL σ) (sL σ d) (sL σ k) (sM σ - (sL σ d))) (va_up (sF σ) (sFc σ) ((sL σ) d)) ((sFc σ) + 1) (sR σ) (sS σ) (sRc σ) (sO σ) (sC σ) (sM σ) ((sV σ) - 1)) hc inlX1 tyX1 tyX1_ok nmX1 0 rfl rfl 10 (by decide) fl_X1_35 rfl rfl rfl rfl (Nat.le_of_ble_eq_true rfl) rfl dX1_fall_146 ?_
            rw [← hQ]
            exact r_vret hc hr hlk (sE σ, rl (sL σ) (sL σ d) (sL σ k) (sM σ - (sL σ d)), va_up (sF σ) (sFc σ) ((sL σ) d), (sFc σ) + 1, sR σ, sS σ, sRc σ, sO σ, sC σ, sM σ, (sV σ) - 1) (((if_neg hne).trans (if_pos (by omega))).symm) rfl dX1_fall_149
          · have hrl := rl_lt (hi := sL σ d) (lo := sL σ k) bL (bL _) j (sL σ d + j)
            refine r_aload_n hc dX1_fall_92 rfl 3 rfl ?_
            refine r_get hc inlX1 0 rfl rfl 1 (by decide) fl_X1_15 rfl rfl dX1_fall_93 ?_
            refine r_iload hc dX1_fall_96 0 rfl ?_
            refine r_iald hc nI 2 rfl (by omega) (by decide) dX1_fall_98 ?_
            refine r_iload hc dX1_fall_99 1 rfl ?_
            refine n_icmp_ne hc 112 dX1_fall_101 (by decide) (by omega) (by omega) (fun h20 => ?_) (fun h20 => ?_)
            · have hrn : rl (sL σ) (sL σ d) (sL σ k) j = rl (sL σ) (sL σ d) (sL σ k) (j + 1) := by rw [rl, if_neg h20]
              rw [hrn]
              show V p l e (RM 0 0 0 0) s m args below meth c D A 6 0 0 Q (wX cI cZ h aE aL aF aR aS (sE σ) (rl (sL σ) (sL σ d) (sL σ k) (j + 1)) (sF σ) (sFc σ) (sR σ) (sS σ) (sRc σ) (sO σ) (sC σ) (sM σ) (sV σ)) 112 [(5, .int (nI (sL σ d + j))), (4, .int (nI ((sL σ) d))), (3, .int (nI ((sL σ) k))), (0, .ref h), (1, .int (nI k)), (2, .int (nI d))] []
              refine r_iinc (k := 0) (v := (nI (sL σ d + j + 1))) (lv' := [(5, .int (nI (sL σ d + j + 1))), (4, .int (nI ((sL σ) d))), (3, .int (nI ((sL σ) k))), (0, .ref h), (1, .int (nI k)), (2, .int (nI d))]) hc dX1_fall_112 rfl (nI_add _ _) (by decide) rfl ?_
              refine r_goto hc 83 dX1_fall_115 (by decide) ?_
              refine r_lv [0, 1, 2, 3, 4, 5] rfl ?_
              exact ih83 _ (by omega) (j + 1) rfl (by omega)
            · refine r_aload_n hc dX1_fall_104 rfl 3 rfl ?_
              refine r_get hc inlX1 0 rfl rfl 1 (by decide) fl_X1_15 rfl rfl dX1_fall_105 ?_
              refine r_iload hc dX1_fall_108 0 rfl ?_
              refine r_iload_n hc dX1_fall_110 rfl 2 rfl ?_
              refine r_iast (ws' := wX cI cZ h aE aL aF aR aS (sE σ) (va_up (rl (sL σ) (sL σ d) (sL σ k) j) (sL σ d + j) ((sL σ) k)) (sF σ) (sFc σ) (sR σ) (sS σ) (sRc σ) (sO σ) (sC σ) (sM σ) (sV σ)) hc nI ((sL σ) k) 2 rfl (by omega) (by decide) rfl dX1_fall_111 ?_
              have hrn : va_up (rl (sL σ) (sL σ d) (sL σ k) j) (sL σ d + j) (sL σ k) = rl (sL σ) (sL σ d) (sL σ k) (j + 1) := by rw [rl, if_pos h20]
              rw [hrn]
              show V p l e (RM 0 0 0 0) s m args below meth c D A 6 0 0 Q (wX cI cZ h aE aL aF aR aS (sE σ) (rl (sL σ) (sL σ d) (sL σ k) (j + 1)) (sF σ) (sFc σ) (sR σ) (sS σ) (sRc σ) (sO σ) (sC σ) (sM σ) (sV σ)) 112 [(5, .int (nI (sL σ d + j))), (4, .int (nI ((sL σ) d))), (3, .int (nI ((sL σ) k))), (0, .ref h), (1, .int (nI k)), (2, .int (nI d))] []
              refine r_iinc (k := 0) (v := (nI (sL σ d + j + 1))) (lv' := [(5, .int (nI (sL σ d + j + 1))), (4, .int (nI ((sL σ) d))), (3, .int (nI ((sL σ) k))), (0, .ref h), (1, .int (nI k)), (2, .int (nI d))]) hc dX1_fall_112 rfl (nI_add _ _) (by decide) rfl ?_
              refine r_goto hc 83 dX1_fall_115 (by decide) ?_
              refine r_lv [0, 1, 2, 3, 4, 5] rfl ?_
              exact ih83 _ (by omega) (j + 1) rfl (by omega)
        refine r_lv [0, 1, 2, 3, 4, 5] rfl ?_
        exact lp83 _ 0 rfl (Nat.zero_le _)
  · rw [← hQ]
    exact r_vret hc hr hlk σ ((if_pos h3).symm) rfl dX1_fall_15
end
section
def fClr (σ : CS) (k x d : Nat) : CS := (va_up (va_up (sE σ) (k * 6 + x) none) (d * 6 + (x ^^^ 1)) none, sL σ, sF σ, sFc σ, sR σ, sS σ, sRc σ, sO σ, sC σ, sM σ, sV σ)
def hoS2 (τ : CS) (a b x : Nat) : CS := match sE τ (a * 6 + x) with
  | some f => fFall τ f b
  | none => match sE τ (b * 6 + (x ^^^ 1)) with
    | some g => fFall τ g a
    | none => fJoin τ a x b
def hoStep (σ : CS) (k x : Nat) : CS := match sE σ (k * 6 + x) with
  | none => σ
  | some d => hoS2 (fClr σ k x d) (sL σ k) (sL σ d) x
def hoI (σ : CS) (k n : Nat) : CS := match n with | 0 => σ | n + 1 => hoStep (hoI σ k n) k n
def PreHo (τ : CS) : Prop := BD τ ∧ sFc τ < 200 ∧ 1 ≤ sV τ ∧ ∀ p, p < 1200 → sS τ p = false → sRc τ < 1200
theorem up_some {f : Nat → Option Nat} {k i d : Nat} {v : Option Nat} {B : Nat} (hf : ∀ i d, f i = some d → d < B) (hv : ∀ d, v = some d → d < B) (h : va_up f k v i = some d) : d < B := by
  simp only [va_up] at h
  split at h
  · exact hv d h
  · exact hf i d h
theorem BD.clr {σ : CS} {k x d : Nat} (h : BD σ) : BD (fClr σ k x d) := ⟨h.1, h.2.1, h.2.2.1, h.2.2.2.1, h.2.2.2.2.1, fun i e q => up_some (fun i e q => up_some h.2.2.2.2.2.1 (fun _ z => by cases z) q) (fun _ z => by cases z) q, h.2.2.2.2.2.2⟩
theorem sC_fall (σ : CS) (a b : Nat) : sC (fFall σ a b) = sC σ := by unfold fFall; split; rfl; split <;> rfl
theorem sC_join (σ : CS) (a x b : Nat) : sC (fJoin σ a x b) = sC σ := by unfold fJoin; split <;> rfl
theorem sC_ho (σ : CS) (k n : Nat) : sC (hoI σ k n) = sC σ := by
  induction n with
  | zero => rfl
  | succ n ih =>
    rw [hoI, ← ih]
    generalize hoI σ k n = τ
    unfold hoStep
    split
    · rfl
    · unfold hoS2
      split
      · rw [sC_fall]; rfl
      · split
        · rw [sC_fall]; rfl
        · rw [sC_join]; rfl
theorem ho_none {τ : CS} {k x : Nat} (h : sE τ (k * 6 + x) = none) : hoStep τ k x = τ := by unfold hoStep; rw [h]
theorem ho_a {τ ρ : CS} {k x d f : Nat} (h : sE τ (k * 6 + x) = some d) (hρ : ρ = fClr τ k x d) (hf : sE ρ (sL ρ k * 6 + x) = some f) : hoStep τ k x = fFall ρ f (sL ρ d) := by
  subst hρ
  unfold hoStep; rw [h]; show hoS2 _ _ _ _ = _; unfold hoS2
  rw [show sE (fClr τ k x d) (sL τ k * 6 + x) = some f from hf]; rfl
theorem ho_b {τ ρ : CS} {k x d f : Nat} (h : sE τ (k * 6 + x) = some d) (hρ : ρ = fClr τ k x d) (hn : sE ρ (sL ρ k * 6 + x) = none) (hf : sE ρ (sL ρ d * 6 + (x ^^^ 1)) = some f) : hoStep τ k x = fFall ρ f (sL ρ k) := by
  subst hρ
  unfold hoStep; rw [h]; show hoS2 _ _ _ _ = _; unfold hoS2
  rw [show sE (fClr τ k x d) (sL τ k * 6 + x) = none from hn]; show (match sE (fClr τ k x d) (sL τ d * 6 + (x ^^^ 1)) with | some g => _ | none => _) = _
  rw [show sE (fClr τ k x d) (sL τ d * 6 + (x ^^^ 1)) = some f from hf]; rfl
theorem ho_c {τ ρ : CS} {k x d : Nat} (h : sE τ (k * 6 + x) = some d) (hρ : ρ = fClr τ k x d) (hn : sE ρ (sL ρ k * 6 + x) = none) (hf : sE ρ (sL ρ d * 6 + (x ^^^ 1)) = none) : hoStep τ k x = fJoin ρ (sL ρ k) x (sL ρ d) := by
  subst hρ
  unfold hoStep; rw [h]; show hoS2 _ _ _ _ = _; unfold hoS2
  rw [show sE (fClr τ k x d) (sL τ k * 6 + x) = none from hn]; show (match sE (fClr τ k x d) (sL τ d * 6 + (x ^^^ 1)) with | some g => _ | none => _) = _
  rw [show sE (fClr τ k x d) (sL τ d * 6 + (x ^^^ 1)) = none from hf]; rfl
set_option maxHeartbeats 4000000 in
set_option maxRecDepth 100000 in
/-- handOver(k) -/
theorem c_handOver (l : Launch) (D : va_G) (cI cZ cW : ClassId) (h aE aL aF aR aS : Nat) (σ : CS) (k : Nat) (hk : k < 200) (hC6 : sC σ ≤ 6) (hP : ∀ x, x < sC σ → PreHo (hoI σ k x)) : CtV l yX1_handOver cX1_handOver 6 none 1 25 0 0 D cI cZ cW [.ref h, .int (nI k)] (wS cI cZ h aE aL aF aR aS σ) ([]) (S := CS) (fun u => u = hoI σ k (sC σ)) (fun u => wS cI cZ h aE aL aF aR aS u) := by
  refine CtV.mk (by decide) (Nat.le_of_ble_eq_true rfl) ?_
  intro p e s m args below meth c A hc hr hlk hnm hro
  generalize hQ : MQ below _ args s 0 0 A = Q
  show V p l e (RM 1 25 0 0) s m args below meth c D A 6 0 0 Q (wS cI cZ h aE aL aF aR aS σ) 0 [(0, .ref h), (1, .int (nI k))] []
  refine r_iconst (v := (nI 0)) hc dX1_handOver_0 rfl ?_
  refine r_istore_n (lv' := [(2, .int (nI 0)), (0, .ref h), (1, .int (nI k))]) hc dX1_handOver_1 rfl (by decide) rfl ?_
  have lp2 : ∀ (n : Nat) (x : Nat), sC σ - x = n → (x ≤ sC σ) → V p l e (RM 1 25 0 0) s m args below meth c D A 6 0 0 Q (wS cI cZ h aE aL aF aR aS (hoI σ k x)) 2 [(2, .int (nI x)), (0, .ref h), (1, .int (nI k))] [] := by
    intro n
    induction n using Nat.strongRecOn with
    | _ n ih2 =>
    intro x hm2 hx
    obtain ⟨τ, hτ⟩ : ∃ τ, τ = hoI σ k x := ⟨_, rfl⟩
    have hcτ : sC τ = sC σ := by rw [hτ, sC_ho]
    rw [← hτ]
    refine r_iload_n hc dX1_handOver_2 rfl 0 rfl ?_
    refine r_aload_n hc dX1_handOver_3 rfl 1 rfl ?_
    refine r_get hc inlX1 0 rfl rfl 8 (by decide) fl_X1_28 rfl rfl dX1_handOver_4 ?_
    refine n_icmp_ge hc 140 dX1_handOver_7 (by decide) (by omega) (by omega) (fun h1 => ?_) (fun h1 => ?_)
    · obtain rfl : x = sC σ := by omega
      subst hτ
      show V p l e (RM 1 25 0 0) s m args below meth c D A 6 0 0 Q (wS cI cZ h aE aL aF aR aS (hoI σ k (sC σ))) 140 [(2, .int (nI (sC σ))), (0, .ref h), (1, .int (nI k))] []
      rw [← hQ]
      exact r_vret hc hr hlk (hoI σ k (sC σ)) rfl rfl dX1_handOver_140
    · have hp := hP x (by omega)
      rw [← hτ] at hp
      obtain ⟨hBτ, tF1, tV1, tS⟩ := hp
      have hBτ0 := hBτ
      obtain ⟨tM, tC, tL, tF, tR, tE, tRc, tFc, tV, tO⟩ := hBτ
      have hx6 : x < 6 := by omega
      have hx1 := xor1_lt hx6
      refine r_aload_n hc dX1_handOver_10 rfl 1 rfl ?_
      refine r_iload_n hc dX1_handOver_11 rfl 2 rfl ?_
      refine r_iload_n hc dX1_handOver_12 rfl 0 rfl ?_
      refine r_callI (As := [.int (nI k), .int (nI x)]) (n := 2) (wr := wS cI cZ h aE aL aF aR aS τ) hc (c_at l D cI cZ cW h aE aL aF aR aS τ k x (by omega) (by omega)) co_yX1_at in_X1 ml_X1_70 (by decide +kernel) rfl ⟨by decide, by decide⟩ ⟨by decide, by decide⟩ im_yX1_at se_yX1_at rfl (Or.inl ⟨0, _, rfl⟩) rfl (Nat.le_of_ble_eq_true rfl) [] [0, 1, 2, 3, 4, 5] rfl rfl rfl rfl (by decide) (fun q hq => Or.inl ((List.getElem?_of_mem hq).elim fun k hk => ⟨k, hk, List.not_mem_nil⟩)) dX1_handOver_13 (fun r2 u3 e4 => ?_)
      subst e4
      show V p l e (RM 1 25 0 0) s m args below meth c D A 6 0 0 Q (wS cI cZ h aE aL aF aR aS τ) 16 [(2, .int (nI x)), (0, .ref h), (1, .int (nI k))] [.int (eI (sE τ (k * 6 + x)))]
      refine r_istore_n (lv' := [(3, .int (eI (sE τ (k * 6 + x)))), (2, .int (nI x)), (0, .ref h), (1, .int (nI k))]) hc dX1_handOver_16 rfl (by decide) rfl ?_
      refine r_iload_n hc dX1_handOver_17 rfl 0 rfl ?_
      refine r_iconst (v := (-1)) hc dX1_handOver_18 rfl ?_
      refine e_icmp_ne hc 25 dX1_handOver_19 (by decide) (fun d h => Nat.lt_trans (tE _ d h) (by decide)) (fun d6 h5 => ?_) (fun h5 => ?_)
      · rw [h5]
        show V _ _ _ _ _ _ _ _ _ _ _ _ _ _ _ _ _ _ [(3, .int (nI d6)), (2, .int (nI x)), (0, .ref h), (1, .int (nI k))] []
        have pd : d6 < 200 := tE _ _ h5
        refine r_aload_n hc dX1_handOver_25 rfl 2 rfl ?_
        refine r_get hc inlX1 0 rfl rfl 0 (by decide) fl_X1_9 rfl rfl dX1_handOver_26 ?_
        refine r_iload_n hc dX1_handOver_29 rfl 3 rfl ?_
        refine r_bipush (v := (nI 6)) hc dX1_handOver_30 rfl ?_
        refine n_mul hc dX1_handOver_32 ?_
        refine r_iload_n hc dX1_handOver_33 rfl 1 rfl ?_
        refine n_add hc dX1_handOver_34 ?_
        refine r_iconst (v := (-1)) hc dX1_handOver_35 rfl ?_
        refine r_iast (ws' := wX cI cZ h aE aL aF aR aS (va_up (sE τ) ((k * 6) + x) none) (sL τ) (sF τ) (sFc τ) (sR τ) (sS τ) (sRc τ) (sO τ) (sC τ) (sM τ) (sV τ)) hc eI none 1 rfl (by omega) (by decide) rfl dX1_handOver_36 ?_
        refine r_aload_n hc dX1_handOver_37 rfl 2 rfl ?_
        refine r_get hc inlX1 0 rfl rfl 0 (by decide) fl_X1_9 rfl rfl dX1_handOver_38 ?_
        refine r_iload_n hc dX1_handOver_41 rfl 0 rfl ?_
        refine r_bipush (v := (nI 6)) hc dX1_handOver_42 rfl ?_
        refine n_mul hc dX1_handOver_44 ?_
        refine r_iload_n hc dX1_handOver_45 rfl 1 rfl ?_
        refine r_iconst (v := (nI 1)) hc dX1_handOver_46 rfl ?_
        refine n_xor hc dX1_handOver_47 ?_
        refine n_add hc dX1_handOver_48 ?_
        refine r_iconst (v := (-1)) hc dX1_handOver_49 rfl ?_
        refine r_iast (ws' := wX cI cZ h aE aL aF aR aS (va_up (va_up (sE τ) ((k * 6) + x) none) ((d6 * 6) + (x ^^^ 1)) none) (sL τ) (sF τ) (sFc τ) (sR τ) (sS τ) (sRc τ) (sO τ) (sC τ) (sM τ) (sV τ)) hc eI none 1 rfl (by omega) (by decide) rfl dX1_handOver_50 ?_
        obtain ⟨ρ, hρ⟩ : ∃ ρ, ρ = fClr τ k x d6 := ⟨_, rfl⟩
        have hBρ : BD ρ := by rw [hρ]; exact hBτ0.clr
        have hBρ0 := hBρ
        obtain ⟨pM, pC, pL, pF, pR, pE, pRc, pFc, pV, pO⟩ := hBρ
        have pF1 : sFc ρ < 200 := by rw [hρ]; exact tF1
        have pV1 : 1 ≤ sV ρ := by rw [hρ]; exact tV1
        have pS : ∀ p, p < 1200 → sS ρ p = false → sRc ρ < 1200 := by rw [hρ]; exact tS
        show V p l e (RM 1 25 0 0) s m args below meth c D A 6 0 0 Q (wS cI cZ h aE aL aF aR aS (fClr τ k x d6)) 51 [(3, .int (nI d6)), (2, .int (nI x)), (0, .ref h), (1, .int (nI k))] []
        rw [← hρ]
        refine r_aload_n hc dX1_handOver_51 rfl 2 rfl ?_
        refine r_get hc inlX1 0 rfl rfl 1 (by decide) fl_X1_15 rfl rfl dX1_handOver_52 ?_
        refine r_iload_n hc dX1_handOver_55 rfl 3 rfl ?_
        have b7 := pL k
        refine r_iald hc nI 2 rfl (by omega) (by decide) dX1_handOver_56 ?_
        refine r_istore (lv' := [(4, .int (nI ((sL ρ) k))), (3, .int (nI d6)), (2, .int (nI x)), (0, .ref h), (1, .int (nI k))]) hc dX1_handOver_57 (by decide) rfl ?_
        refine r_aload_n hc dX1_handOver_59 rfl 3 rfl ?_
        refine r_get hc inlX1 0 rfl rfl 1 (by decide) fl_X1_15 rfl rfl dX1_handOver_60 ?_
        refine r_iload_n hc dX1_handOver_63 rfl 1 rfl ?_
        have b8 := pL d6
        refine r_iald hc nI 2 rfl (by omega) (by decide) dX1_handOver_64 ?_
        refine r_istore (lv' := [(5, .int (nI ((sL ρ) d6))), (4, .int (nI ((sL ρ) k))), (3, .int (nI d6)), (2, .int (nI x)), (0, .ref h), (1, .int (nI k))]) hc dX1_handOver_65 (by decide) rfl ?_
        refine r_aload_n hc dX1_handOver_67 rfl 4 rfl ?_
        refine r_iload hc dX1_handOver_68 1 rfl ?_
        refine r_iload_n hc dX1_handOver_70 rfl 3 rfl ?_
        refine r_callI (As := [.int (nI ((sL ρ) k)), .int (nI x)]) (n := 2) (wr := wS cI cZ h aE aL aF aR aS ρ) hc (c_at l D cI cZ cW h aE aL aF aR aS ρ ((sL ρ) k) x (by omega) (by omega)) co_yX1_at in_X1 ml_X1_70 (by decide +kernel) rfl ⟨by decide, by decide⟩ ⟨by decide, by decide⟩ im_yX1_at se_yX1_at rfl (Or.inl ⟨0, _, rfl⟩) rfl (Nat.le_of_ble_eq_true rfl) [] [0, 1, 2, 3, 4, 5] rfl rfl rfl rfl (by decide) (fun q hq => Or.inl ((List.getElem?_of_mem hq).elim fun k hk => ⟨k, hk, List.not_mem_nil⟩)) dX1_handOver_71 (fun r9 u10 e11 => ?_)
        subst e11
        show V p l e (RM 1 25 0 0) s m args below meth c D A 6 0 0 Q (wS cI cZ h aE aL aF aR aS ρ) 74 [(5, .int (nI ((sL ρ) d6))), (4, .int (nI ((sL ρ) k))), (3, .int (nI d6)), (2, .int (nI x)), (0, .ref h), (1, .int (nI k))] [.int (eI (sE ρ (((sL ρ) k) * 6 + x)))]
        refine r_iconst (v := (-1)) hc dX1_handOver_74 rfl ?_
        refine e_icmp_eq hc 94 dX1_handOver_75 (by decide) (fun d h => Nat.lt_trans (pE _ d h) (by decide)) (fun h12 => ?_) (fun d13 h12 => ?_)
        · refine r_aload_n hc dX1_handOver_94 rfl 4 rfl ?_
          refine r_iload hc dX1_handOver_95 0 rfl ?_
          refine r_iload_n hc dX1_handOver_97 rfl 3 rfl ?_
          refine r_iconst (v := (nI 1)) hc dX1_handOver_98 rfl ?_
          refine n_xor hc dX1_handOver_99 ?_
          refine r_callI (As := [.int (nI ((sL ρ) d6)), .int (nI (x ^^^ 1))]) (n := 2) (wr := wS cI cZ h aE aL aF aR aS ρ) hc (c_at l D cI cZ cW h aE aL aF aR aS ρ ((sL ρ) d6) (x ^^^ 1) (by omega) (by omega)) co_yX1_at in_X1 ml_X1_70 (by decide +kernel) rfl ⟨by decide, by decide⟩ ⟨by decide, by decide⟩ im_yX1_at se_yX1_at rfl (Or.inl ⟨0, _, rfl⟩) rfl (Nat.le_of_ble_eq_true rfl) [] [0, 1, 2, 3, 4, 5] rfl rfl rfl rfl (by decide) (fun q hq => Or.inl ((List.getElem?_of_mem hq).elim fun k hk => ⟨k, hk, List.not_mem_nil⟩)) dX1_handOver_100 (fun r14 u15 e16 => ?_)
          subst e16
          show V p l e (RM 1 25 0 0) s m args below meth c D A 6 0 0 Q (wS cI cZ h aE aL aF aR aS ρ) 103 [(5, .int (nI ((sL ρ) d6))), (4, .int (nI ((sL ρ) k))), (3, .int (nI d6)), (2, .int (nI x)), (0, .ref h), (1, .int (nI k))] [.int (eI (sE ρ (((sL ρ) d6) * 6 + (x ^^^ 1))))]
          refine r_iconst (v := (-1)) hc dX1_handOver_103 rfl ?_
          refine e_icmp_eq hc 125 dX1_handOver_104 (by decide) (fun d h => Nat.lt_trans (pE _ d h) (by decide)) (fun h17 => ?_) (fun d18 h17 => ?_)
          · refine r_aload_n hc dX1_handOver_125 rfl 4 rfl ?_
            refine r_iload hc dX1_handOver_126 1 rfl ?_
            refine r_iload_n hc dX1_handOver_128 rfl 3 rfl ?_
            refine r_iload hc dX1_handOver_129 0 rfl ?_
            refine r_callV (As := [.int (nI ((sL ρ) k)), .int (nI x), .int (nI ((sL ρ) d6))]) (n := 3) (wr := []) hc (c_join l D cI cZ cW h aE aL aF aR aS ρ (sL ρ k) x (sL ρ d6) (pL _) hx6 (pL _) (fun q => pS _ (by have := pL k; omega) q) hBρ0) co_yX1_join in_X1 ml_X1_52 (by decide +kernel) rfl ⟨by decide, by decide⟩ ⟨by decide, by decide⟩ im_yX1_join se_yX1_join rfl (Or.inl ⟨0, _, rfl⟩) rfl (Nat.le_of_ble_eq_true rfl) [0, 1, 2, 3, 4, 5] [] rfl rfl rfl rfl (by decide) (fun q hq => absurd hq List.not_mem_nil) dX1_handOver_131 (fun u e19 => ?_)
            show V p l e (RM 1 25 0 0) s m args below meth c D A 6 0 0 Q (wS cI cZ h aE aL aF aR aS u) 134 [(5, .int (nI ((sL ρ) d6))), (4, .int (nI ((sL ρ) k))), (3, .int (nI d6)), (2, .int (nI x)), (0, .ref h), (1, .int (nI k))] []
            refine r_lv [4, 5, 3] rfl ?_
            have hnx : u = hoI σ k (x + 1) := by rw [hoI, ← hτ, ho_c h5 hρ h12 h17, e19]
            rw [hnx]
            refine r_iinc (k := 2) (v := (nI (x + 1))) (lv' := [(2, .int (nI (x + 1))), (0, .ref h), (1, .int (nI k))]) hc dX1_handOver_134 rfl (nI_add _ _) (by decide) rfl ?_
            refine r_goto hc 2 dX1_handOver_137 (by decide) ?_
            refine r_lv [0, 1, 2] rfl ?_
            exact ih2 _ (by omega) (x + 1) rfl (by omega)
          · refine r_aload_n hc dX1_handOver_107 rfl 4 rfl ?_
            refine r_aload_n hc dX1_handOver_108 rfl 4 rfl ?_
            refine r_iload hc dX1_handOver_109 0 rfl ?_
            refine r_iload_n hc dX1_handOver_111 rfl 3 rfl ?_
            refine r_iconst (v := (nI 1)) hc dX1_handOver_112 rfl ?_
            refine n_xor hc dX1_handOver_113 ?_
            refine r_callI (As := [.int (nI ((sL ρ) d6)), .int (nI (x ^^^ 1))]) (n := 2) (wr := wS cI cZ h aE aL aF aR aS ρ) hc (c_at l D cI cZ cW h aE aL aF aR aS ρ ((sL ρ) d6) (x ^^^ 1) (by omega) (by omega)) co_yX1_at in_X1 ml_X1_70 (by decide +kernel) rfl ⟨by decide, by decide⟩ ⟨by decide, by decide⟩ im_yX1_at se_yX1_at rfl (Or.inl ⟨0, _, rfl⟩) rfl (Nat.le_of_ble_eq_true rfl) [] [0, 1, 2, 3, 4, 5] rfl rfl rfl rfl (by decide) (fun q hq => Or.inl ((List.getElem?_of_mem hq).elim fun k hk => ⟨k, hk, List.not_mem_nil⟩)) dX1_handOver_114 (fun r20 u21 e22 => ?_)
            subst e22
            show V p l e (RM 1 25 0 0) s m args below meth c D A 6 0 0 Q (wS cI cZ h aE aL aF aR aS ρ) 117 [(5, .int (nI ((sL ρ) d6))), (4, .int (nI ((sL ρ) k))), (3, .int (nI d6)), (2, .int (nI x)), (0, .ref h), (1, .int (nI k))] [.int (eI (sE ρ (((sL ρ) d6) * 6 + (x ^^^ 1)))), .ref h]
            rw [h17]
            show V p l e (RM 1 25 0 0) s m args below meth c D A 6 0 0 Q (wS cI cZ h aE aL aF aR aS ρ) 117 [(5, .int (nI ((sL ρ) d6))), (4, .int (nI ((sL ρ) k))), (3, .int (nI d6)), (2, .int (nI x)), (0, .ref h), (1, .int (nI k))] [.int (nI d18), .ref h]
            refine r_iload hc dX1_handOver_117 1 rfl ?_
            refine r_callV (As := [.int (nI d18), .int (nI ((sL ρ) k))]) (n := 2) (wr := []) hc (c_fall l D cI cZ cW h aE aL aF aR aS ρ d18 ((sL ρ) k) (pE _ _ h17) (pL _) (fun _ => pF1) (fun _ => pV1) hBρ0) co_yX1_fall in_X1 ml_X1_62 (by decide +kernel) rfl ⟨by decide, by decide⟩ ⟨by decide, by decide⟩ im_yX1_fall se_yX1_fall rfl (Or.inl ⟨0, _, rfl⟩) rfl (Nat.le_of_ble_eq_true rfl) [0, 1, 2, 3, 4, 5] [] rfl rfl rfl rfl (by decide) (fun q hq => absurd hq List.not_mem_nil) dX1_handOver_119 (fun u e23 => ?_)
            show V p l e (RM 1 25 0 0) s m args below meth c D A 6 0 0 Q (wS cI cZ h aE aL aF aR aS u) 122 [(5, .int (nI ((sL ρ) d6))), (4, .int (nI ((sL ρ) k))), (3, .int (nI d6)), (2, .int (nI x)), (0, .ref h), (1, .int (nI k))] []
            refine r_goto hc 134 dX1_handOver_122 (by decide) ?_
            refine r_lv [4, 5, 3] rfl ?_
            have hnx : u = hoI σ k (x + 1) := by rw [hoI, ← hτ, ho_b h5 hρ h12 h17, e23]
            rw [hnx]
            refine r_iinc (k := 2) (v := (nI (x + 1))) (lv' := [(2, .int (nI (x + 1))), (0, .ref h), (1, .int (nI k))]) hc dX1_handOver_134 rfl (nI_add _ _) (by decide) rfl ?_
            refine r_goto hc 2 dX1_handOver_137 (by decide) ?_
            refine r_lv [0, 1, 2] rfl ?_
            exact ih2 _ (by omega) (x + 1) rfl (by omega)
        · refine r_aload_n hc dX1_handOver_78 rfl 4 rfl ?_
          refine r_aload_n hc dX1_handOver_79 rfl 4 rfl ?_
          refine r_iload hc dX1_handOver_80 1 rfl ?_
          refine r_iload_n hc dX1_handOver_82 rfl 3 rfl ?_
          refine r_callI (As := [.int (nI ((sL ρ) k)), .int (nI x)]) (n := 2) (wr := wS cI cZ h aE aL aF aR aS ρ) hc (c_at l D cI cZ cW h aE aL aF aR aS ρ ((sL ρ) k) x (by omega) (by omega)) co_yX1_at in_X1 ml_X1_70 (by decide +kernel) rfl ⟨by decide, by decide⟩ ⟨by decide, by decide⟩ im_yX1_at se_yX1_at rfl (Or.inl ⟨0, _, rfl⟩) rfl (Nat.le_of_ble_eq_true rfl) [] [0, 1, 2, 3, 4, 5] rfl rfl rfl rfl (by decide) (fun q hq => Or.inl ((List.getElem?_of_mem hq).elim fun k hk => ⟨k, hk, List.not_mem_nil⟩)) dX1_handOver_83 (fun r24 u25 e26 => ?_)
          subst e26
          show V p l e (RM 1 25 0 0) s m args below meth c D A 6 0 0 Q (wS cI cZ h aE aL aF aR aS ρ) 86 [(5, .int (nI ((sL ρ) d6))), (4, .int (nI ((sL ρ) k))), (3, .int (nI d6)), (2, .int (nI x)), (0, .ref h), (1, .int (nI k))] [.int (eI (sE ρ (((sL ρ) k) * 6 + x))), .ref h]
          rw [h12]
          show V p l e (RM 1 25 0 0) s m args below meth c D A 6 0 0 Q (wS cI cZ h aE aL aF aR aS ρ) 86 [(5, .int (nI ((sL ρ) d6))), (4, .int (nI ((sL ρ) k))), (3, .int (nI d6)), (2, .int (nI x)), (0, .ref h), (1, .int (nI k))] [.int (nI d13), .ref h]
          refine r_iload hc dX1_handOver_86 0 rfl ?_
          refine r_callV (As := [.int (nI d13), .int (nI ((sL ρ) d6))]) (n := 2) (wr := []) hc (c_fall l D cI cZ cW h aE aL aF aR aS ρ d13 ((sL ρ) d6) (pE _ _ h12) (pL _) (fun _ => pF1) (fun _ => pV1) hBρ0) co_yX1_fall in_X1 ml_X1_62 (by decide +kernel) rfl ⟨by decide, by decide⟩ ⟨by decide, by decide⟩ im_yX1_fall se_yX1_fall rfl (Or.inl ⟨0, _, rfl⟩) rfl (Nat.le_of_ble_eq_true rfl) [0, 1, 2, 3, 4, 5] [] rfl rfl rfl rfl (by decide) (fun q hq => absurd hq List.not_mem_nil) dX1_handOver_88 (fun u e27 => ?_)
          show V p l e (RM 1 25 0 0) s m args below meth c D A 6 0 0 Q (wS cI cZ h aE aL aF aR aS u) 91 [(5, .int (nI ((sL ρ) d6))), (4, .int (nI ((sL ρ) k))), (3, .int (nI d6)), (2, .int (nI x)), (0, .ref h), (1, .int (nI k))] []
          refine r_goto hc 134 dX1_handOver_91 (by decide) ?_
          refine r_lv [4, 5, 3] rfl ?_
          have hnx : u = hoI σ k (x + 1) := by rw [hoI, ← hτ, ho_a h5 hρ h12, e27]
          rw [hnx]
          refine r_iinc (k := 2) (v := (nI (x + 1))) (lv' := [(2, .int (nI (x + 1))), (0, .ref h), (1, .int (nI k))]) hc dX1_handOver_134 rfl (nI_add _ _) (by decide) rfl ?_
          refine r_goto hc 2 dX1_handOver_137 (by decide) ?_
          refine r_lv [0, 1, 2] rfl ?_
          exact ih2 _ (by omega) (x + 1) rfl (by omega)
      · refine r_goto hc 134 dX1_handOver_22 (by decide) ?_
        refine r_lv [2, 3, 1] rfl ?_
        have hnx : τ = hoI σ k (x + 1) := by rw [hoI, ← hτ, ho_none h5]
        rw [hnx]
        refine r_iinc (k := 2) (v := (nI (x + 1))) (lv' := [(2, .int (nI (x + 1))), (0, .ref h), (1, .int (nI k))]) hc dX1_handOver_134 rfl (nI_add _ _) (by decide) rfl ?_
        refine r_goto hc 2 dX1_handOver_137 (by decide) ?_
        refine r_lv [0, 1, 2] rfl ?_
        exact ih2 _ (by omega) (x + 1) rfl (by omega)
  refine r_lv [0, 1, 2] rfl ?_
  exact lp2 _ 0 rfl (Nat.zero_le _)
end
section
def fU0 (σ : CS) : CS := (sE σ, sL σ, sF σ, 0, sR σ, sS σ, sRc σ, sO σ, sC σ, sM σ, sV σ)
def unI (τ : CS) (i : Nat) : CS := match i with | 0 => τ | i + 1 => hoI (unI τ i) (sF (unI τ i) i) (sC (unI τ i))
/-- what unite leaves: the fallen are handed over as long as there is one -/
def UnEnd (τ u : CS) : Prop := ∃ N, u = unI τ N ∧ N ≤ 200 ∧ (∀ j, j < N → j < sFc (unI τ j)) ∧ (N < 200 → sFc (unI τ N) ≤ N)
set_option maxHeartbeats 4000000 in
set_option maxRecDepth 100000 in
/-- unite(k, d) -/
theorem c_unite (l : Launch) (D : va_G) (cI cZ cW : ClassId) (h aE aL aF aR aS : Nat) (σ : CS) (k d : Nat) (hk : k < 200) (hd : d < 200) (hV : ¬ sL (fU0 σ) k = sL (fU0 σ) d → 1 ≤ sV (fU0 σ)) (hB : BD (fU0 σ)) (hBi : ∀ i, i ≤ 200 → (∀ j, j < i → j < sFc (unI (fFall (fU0 σ) k d) j)) → BD (unI (fFall (fU0 σ) k d) i)) (hP : ∀ i, i < 200 → (∀ j, j < i + 1 → j < sFc (unI (fFall (fU0 σ) k d) j)) → ∀ x, x < sC (unI (fFall (fU0 σ) k d) i) → PreHo (hoI (unI (fFall (fU0 σ) k d) i) (sF (unI (fFall (fU0 σ) k d) i) i) x)) : CtV l yX1_unite cX1_unite 4 none 2 50 0 0 D cI cZ cW [.ref h, .int (nI k), .int (nI d)] (wS cI cZ h aE aL aF aR aS σ) ([]) (S := CS) (fun u => UnEnd (fFall (fU0 σ) k d) u) (fun u => wS cI cZ h aE aL aF aR aS u) := by
  refine CtV.mk (by decide) (Nat.le_of_ble_eq_true rfl) ?_
  intro p e s m args below meth c A hc hr hlk hnm hro
  generalize hQ : MQ below _ args s 0 0 A = Q
  show V p l e (RM 2 50 0 0) s m args below meth c D A 4 0 0 Q (wS cI cZ h aE aL aF aR aS σ) 0 [(0, .ref h), (1, .int (nI k)), (2, .int (nI d))] []
  refine r_aload_n hc dX1_unite_0 rfl 0 rfl ?_
  refine r_iconst (v := (nI 0)) hc dX1_unite_1 rfl ?_
  refine r_put (ws' := wX cI cZ h aE aL aF aR aS (sE σ) (sL σ) (sF σ) 0 (sR σ) (sS σ) (sRc σ) (sO σ) (sC σ) (sM σ) (sV σ)) hc inlX1 tyX1 tyX1_ok nmX1 0 rfl rfl 3 (by decide) fl_X1_59 rfl rfl rfl rfl (Nat.le_of_ble_eq_true rfl) rfl dX1_unite_2 ?_
  refine r_aload_n hc dX1_unite_5 rfl 0 rfl ?_
  refine r_iload_n hc dX1_unite_6 rfl 1 rfl ?_
  refine r_iload_n hc dX1_unite_7 rfl 2 rfl ?_
  show V p l e (RM 2 50 0 0) s m args below meth c D A 4 0 0 Q (wS cI cZ h aE aL aF aR aS (fU0 σ)) 8 [(0, .ref h), (1, .int (nI k)), (2, .int (nI d))] [.int (nI d), .int (nI k), .ref h]
  refine r_callV (As := [.int (nI k), .int (nI d)]) (n := 2) (wr := []) hc (c_fall l D cI cZ cW h aE aL aF aR aS (fU0 σ) k d hk hd (fun _ => by show 0 < 200; decide) hV hB) co_yX1_fall in_X1 ml_X1_62 (by decide +kernel) rfl ⟨by decide, by decide⟩ ⟨by decide, by decide⟩ im_yX1_fall se_yX1_fall rfl (Or.inl ⟨0, _, rfl⟩) rfl (Nat.le_of_ble_eq_true rfl) [0, 1, 2, 3, 4, 5] [] rfl rfl rfl rfl (by decide) (fun q hq => absurd hq List.not_mem_nil) dX1_unite_8 (fun u e1 => ?_)
  show V p l e (RM 2 50 0 0) s m args below meth c D A 4 0 0 Q (wS cI cZ h aE aL aF aR aS u) 11 [(0, .ref h), (1, .int (nI k)), (2, .int (nI d))] []
  subst e1
  refine r_iconst (v := (nI 0)) hc dX1_unite_11 rfl ?_
  refine r_istore_n (lv' := [(3, .int (nI 0)), (0, .ref h), (1, .int (nI k)), (2, .int (nI d))]) hc dX1_unite_12 rfl (by decide) rfl ?_
  have lp13 : ∀ (n : Nat) (i : Nat), 200 - i = n → (i ≤ 200) → (∀ j, j < i → j < sFc (unI (fFall (fU0 σ) k d) j)) → V p l e (RM 2 50 0 0) s m args below meth c D A 4 0 0 Q (wS cI cZ h aE aL aF aR aS (unI (fFall (fU0 σ) k d) i)) 13 [(3, .int (nI i)), (0, .ref h), (1, .int (nI k)), (2, .int (nI d))] [] := by
    intro n
    induction n using Nat.strongRecOn with
    | _ n ih13 =>
    intro i hm13 hi hpre
    obtain ⟨τ, hτ⟩ : ∃ τ, τ = unI (fFall (fU0 σ) k d) i := ⟨_, rfl⟩
    have hBτ := hBi i hi hpre
    rw [← hτ] at hBτ ⊢
    obtain ⟨tM, tC, tL, tF, tR, tE, tRc, tFc, tV, tO⟩ := hBτ
    refine r_iload_n hc dX1_unite_13 rfl 0 rfl ?_
    refine r_aload_n hc dX1_unite_14 rfl 1 rfl ?_
    refine r_get hc inlX1 0 rfl rfl 3 (by decide) fl_X1_59 rfl rfl dX1_unite_15 ?_
    refine n_icmp_ge hc 44 dX1_unite_18 (by decide) (by omega) (by omega) (fun h2 => ?_) (fun h2 => ?_)
    · rw [← hQ]
      exact r_vret hc hr hlk τ ⟨i, hτ, hi, hpre, fun _ => by rw [← hτ]; omega⟩ rfl dX1_unite_44
    · refine r_iload_n hc dX1_unite_21 rfl 0 rfl ?_
      refine r_sipush (v := (nI 200)) hc dX1_unite_22 rfl ?_
      refine n_icmp_ge hc 44 dX1_unite_25 (by decide) (by omega) (by omega) (fun h3 => ?_) (fun h3 => ?_)
      · rw [← hQ]
        exact r_vret hc hr hlk τ ⟨i, hτ, hi, hpre, fun q => absurd q (by omega)⟩ rfl dX1_unite_44
      · refine r_aload_n hc dX1_unite_28 rfl 1 rfl ?_
        refine r_aload_n hc dX1_unite_29 rfl 1 rfl ?_
        refine r_get hc inlX1 0 rfl rfl 2 (by decide) fl_X1_18 rfl rfl dX1_unite_30 ?_
        refine r_iload_n hc dX1_unite_33 rfl 0 rfl ?_
        have b4 := tF i
        refine r_iald hc nI 3 rfl (by omega) (by decide) dX1_unite_34 ?_
        have hpj : ∀ j, j < i + 1 → j < sFc (unI (fFall (fU0 σ) k d) j) := fun j q => if z : j = i then by rw [z, ← hτ]; exact h2 else hpre j (by omega)
        have hPh := hP i (by omega) hpj
        rw [← hτ] at hPh
        refine r_callV (As := [.int (nI ((sF τ) i))]) (n := 1) (wr := []) hc (c_handOver l D cI cZ cW h aE aL aF aR aS τ (sF τ i) (tF _) tC hPh) co_yX1_handOver in_X1 ml_X1_66 (by decide +kernel) rfl ⟨by decide, by decide⟩ ⟨by decide, by decide⟩ im_yX1_handOver se_yX1_handOver rfl (Or.inl ⟨0, _, rfl⟩) rfl (Nat.le_of_ble_eq_true rfl) [0, 1, 2, 3, 4, 5] [] rfl rfl rfl rfl (by decide) (fun q hq => absurd hq List.not_mem_nil) dX1_unite_35 (fun u e5 => ?_)
        show V p l e (RM 2 50 0 0) s m args below meth c D A 4 0 0 Q (wS cI cZ h aE aL aF aR aS u) 38 [(3, .int (nI i)), (0, .ref h), (1, .int (nI k)), (2, .int (nI d))] []
        have hnx : u = unI (fFall (fU0 σ) k d) (i + 1) := by rw [unI, ← hτ, e5]
        rw [hnx]
        refine r_iinc (k := 0) (v := (nI (i + 1))) (lv' := [(3, .int (nI (i + 1))), (0, .ref h), (1, .int (nI k)), (2, .int (nI d))]) hc dX1_unite_38 rfl (nI_add _ _) (by decide) rfl ?_
        refine r_goto hc 13 dX1_unite_41 (by decide) ?_
        refine r_lv [0, 1, 2, 3] rfl ?_
        exact ih13 _ (by omega) (i + 1) rfl (by omega) hpj
  refine r_lv [0, 1, 2, 3] rfl ?_
  exact lp13 _ 0 rfl (Nat.zero_le _) (fun j q => absurd q (Nat.not_lt_zero j))
set_option maxHeartbeats 4000000 in
set_option maxRecDepth 100000 in
/-- makeNeighbour() -/
theorem c_makeNeighbour (l : Launch) (D : va_G) (cI cZ cW : ClassId) (h aE aL aF aR aS : Nat) (σ : CS) (hm : sM σ < 200) (ho : sO σ < 1200) (hf : sS (fMake σ) (sO σ / 6 * 6 + sO σ % 6) = false → sRc (fMake σ) < 1200) (hBm : BD (fMake σ)) (hB : BD σ) : CtI l yX1_makeNeighbour cX1_makeNeighbour 2 (some .int) 1 24 0 0 D cI cZ cW [.ref h] (wS cI cZ h aE aL aF aR aS σ) ([]) (S := CS) (fun r u => r = nI (sM σ) ∧ u = fJoin (fMake σ) (sO σ / 6) (sO σ % 6) (sM σ)) (fun u => wS cI cZ h aE aL aF aR aS u) := by
  refine CtI.mk (by decide) (Nat.le_of_ble_eq_true rfl) ?_
  intro p e s m args below meth c A hc hr hlk hnm hro
  generalize hQ : MQ below _ args s 0 0 A = Q
  have hB0 := hB
  obtain ⟨bM, bC, bL, bF, bR, bE, bRc, bFc, bV, bO⟩ := hB
  show V p l e (RM 1 24 0 0) s m args below meth c D A 2 0 0 Q (wS cI cZ h aE aL aF aR aS σ) 0 [(0, .ref h)] []
  refine r_aload_n hc dX1_makeNeighbour_0 rfl 0 rfl ?_
  refine r_callI (As := []) (n := 0) (wr := []) hc (c_make l D cI cZ cW h aE aL aF aR aS σ hm hB0) co_yX1_make in_X1 ml_X1_41 (by decide +kernel) rfl ⟨by decide, by decide⟩ ⟨by decide, by decide⟩ im_yX1_make se_yX1_make rfl (Or.inl ⟨0, _, rfl⟩) rfl (Nat.le_of_ble_eq_true rfl) [0, 1, 2, 3, 4, 5] [] rfl rfl rfl rfl (by decide) (fun q hq => absurd hq List.not_mem_nil) dX1_makeNeighbour_1 (fun r u e1 => ?_)
  show V p l e (RM 1 24 0 0) s m args below meth c D A 2 0 0 Q (wS cI cZ h aE aL aF aR aS u) 4 [(0, .ref h)] [.int r]
  obtain ⟨rfl, rfl⟩ := e1
  obtain ⟨τ, hτ⟩ : ∃ τ, τ = fMake σ := ⟨_, rfl⟩
  have hoτ : sO τ = sO σ := by rw [hτ]; rfl
  have hBτ : BD τ := by rw [hτ]; exact hBm
  rw [← hτ]
  refine r_istore_n (lv' := [(1, .int (nI (sM σ))), (0, .ref h)]) hc dX1_makeNeighbour_4 rfl (by decide) rfl ?_
  refine r_aload_n hc dX1_makeNeighbour_5 rfl 1 rfl ?_
  refine r_aload_n hc dX1_makeNeighbour_6 rfl 1 rfl ?_
  refine r_get hc inlX1 0 rfl rfl 7 (by decide) fl_X1_38 rfl rfl dX1_makeNeighbour_7 ?_
  refine r_bipush (v := (nI 6)) hc dX1_makeNeighbour_10 rfl ?_
  refine n_div hc dX1_makeNeighbour_12 (by omega) (by decide) (by decide) ?_
  refine r_aload_n hc dX1_makeNeighbour_13 rfl 1 rfl ?_
  refine r_get hc inlX1 0 rfl rfl 7 (by decide) fl_X1_38 rfl rfl dX1_makeNeighbour_14 ?_
  refine r_bipush (v := (nI 6)) hc dX1_makeNeighbour_17 rfl ?_
  refine n_rem hc dX1_makeNeighbour_19 (by omega) (by decide) (by decide) ?_
  refine r_iload_n hc dX1_makeNeighbour_20 rfl 0 rfl ?_
  refine r_callV (As := [.int (nI ((sO τ) / 6)), .int (nI ((sO τ) % 6)), .int (nI (sM σ))]) (n := 3) (wr := []) hc (c_join l D cI cZ cW h aE aL aF aR aS τ (sO τ / 6) (sO τ % 6) (sM σ) (by omega) (by omega) (by omega) (by rw [hτ]; exact hf) hBτ) co_yX1_join in_X1 ml_X1_52 (by decide +kernel) rfl ⟨by decide, by decide⟩ ⟨by decide, by decide⟩ im_yX1_join se_yX1_join rfl (Or.inl ⟨0, _, rfl⟩) rfl (Nat.le_of_ble_eq_true rfl) [0, 1, 2, 3, 4, 5] [] rfl rfl rfl rfl (by decide) (fun q hq => absurd hq List.not_mem_nil) dX1_makeNeighbour_21 (fun u e2 => ?_)
  show V p l e (RM 1 24 0 0) s m args below meth c D A 2 0 0 Q (wS cI cZ h aE aL aF aR aS u) 24 [(1, .int (nI (sM σ))), (0, .ref h)] []
  refine r_iload_n hc dX1_makeNeighbour_24 rfl 0 rfl ?_
  rw [← hQ]
  exact r_iret hc hr hlk u ⟨rfl, by rw [e2, hτ]; rfl⟩ rfl dX1_makeNeighbour_25
def fSt0 (σ : CS) (n : Nat) : CS := (sE σ, sL σ, sF σ, sFc σ, sR σ, sS σ, sRc σ, 0, n, 0, 0)
set_option maxHeartbeats 4000000 in
set_option maxRecDepth 100000 in
/-- start(n) -/
theorem c_start (l : Launch) (D : va_G) (cI cZ cW : ClassId) (h aE aL aF aR aS : Nat) (σ : CS) (n : Nat) (hn : n ≤ 6) (hB : BD σ) : CtV l yX1_start cX1_start 2 none 1 22 0 0 D cI cZ cW [.ref h, .int (nI n)] (wS cI cZ h aE aL aF aR aS σ) ([]) (S := CS) (fun u => u = fMake (fSt0 σ n)) (fun u => wS cI cZ h aE aL aF aR aS u) := by
  refine CtV.mk (by decide) (Nat.le_of_ble_eq_true rfl) ?_
  intro p e s m args below meth c A hc hr hlk hnm hro
  generalize hQ : MQ below _ args s 0 0 A = Q
  have hB0 := hB
  obtain ⟨bM, bC, bL, bF, bR, bE, bRc, bFc, bV, bO⟩ := hB
  have hBs : BD (fSt0 σ n) := ⟨by show 0 ≤ 200; decide, hn, bL, bF, bR, bE, bRc, bFc, by show 0 ≤ 200; decide, by show 0 ≤ 1200; decide⟩
  show V p l e (RM 1 22 0 0) s m args below meth c D A 2 0 0 Q (wS cI cZ h aE aL aF aR aS σ) 0 [(0, .ref h), (1, .int (nI n))] []
  refine r_aload_n hc dX1_start_0 rfl 0 rfl ?_
  refine r_iload_n hc dX1_start_1 rfl 1 rfl ?_
  refine r_put (ws' := wX cI cZ h aE aL aF aR aS (sE σ) (sL σ) (sF σ) (sFc σ) (sR σ) (sS σ) (sRc σ) (sO σ) n (sM σ) (sV σ)) hc inlX1 tyX1 tyX1_ok nmX1 0 rfl rfl 8 (by decide) fl_X1_28 rfl rfl rfl rfl (Nat.le_of_ble_eq_true rfl) rfl dX1_start_2 ?_
  refine r_aload_n hc dX1_start_5 rfl 0 rfl ?_
  refine r_iconst (v := (nI 0)) hc dX1_start_6 rfl ?_
  refine r_put (ws' := wX cI cZ h aE aL aF aR aS (sE σ) (sL σ) (sF σ) (sFc σ) (sR σ) (sS σ) (sRc σ) (sO σ) n 0 (sV σ)) hc inlX1 tyX1 tyX1_ok nmX1 0 rfl rfl 9 (by decide) fl_X1_32 rfl rfl rfl rfl (Nat.le_of_ble_eq_true rfl) rfl dX1_start_7 ?_
  refine r_aload_n hc dX1_start_10 rfl 0 rfl ?_
  refine r_iconst (v := (nI 0)) hc dX1_start_11 rfl ?_
  refine r_put (ws' := wX cI cZ h aE aL aF aR aS (sE σ) (sL σ) (sF σ) (sFc σ) (sR σ) (sS σ) (sRc σ) (sO σ) n 0 0) hc inlX1 tyX1 tyX1_ok nmX1 0 rfl rfl 10 (by decide) fl_X1_35 rfl rfl rfl rfl (Nat.le_of_ble_eq_true rfl) rfl dX1_start_12 ?_
  refine r_aload_n hc dX1_start_15 rfl 0 rfl ?_
  refine r_iconst (v := (nI 0)) hc dX1_start_16 rfl ?_
  refine r_put (ws' := wX cI cZ h aE aL aF aR aS (sE σ) (sL σ) (sF σ) (sFc σ) (sR σ) (sS σ) (sRc σ) 0 n 0 0) hc inlX1 tyX1 tyX1_ok nmX1 0 rfl rfl 7 (by decide) fl_X1_38 rfl rfl rfl rfl (Nat.le_of_ble_eq_true rfl) rfl dX1_start_17 ?_
  refine r_aload_n hc dX1_start_20 rfl 0 rfl ?_
  show V p l e (RM 1 22 0 0) s m args below meth c D A 2 0 0 Q (wS cI cZ h aE aL aF aR aS (fSt0 σ n)) 21 [(0, .ref h), (1, .int (nI n))] [.ref h]
  refine r_callI (As := []) (n := 0) (wr := []) hc (c_make l D cI cZ cW h aE aL aF aR aS (fSt0 σ n) (by show 0 < 200; decide) hBs) co_yX1_make in_X1 ml_X1_41 (by decide +kernel) rfl ⟨by decide, by decide⟩ ⟨by decide, by decide⟩ im_yX1_make se_yX1_make rfl (Or.inl ⟨0, _, rfl⟩) rfl (Nat.le_of_ble_eq_true rfl) [0, 1, 2, 3, 4, 5] [] rfl rfl rfl rfl (by decide) (fun q hq => absurd hq List.not_mem_nil) dX1_start_21 (fun r u e1 => ?_)
  show V p l e (RM 1 22 0 0) s m args below meth c D A 2 0 0 Q (wS cI cZ h aE aL aF aR aS u) 24 [(0, .ref h), (1, .int (nI n))] [.int r]
  obtain ⟨rfl, rfl⟩ := e1
  refine r_pop hc dX1_start_24 rfl ?_
  rw [← hQ]
  exact r_vret hc hr hlk (fMake (fSt0 σ n)) rfl rfl dX1_start_25
end
section
/-! words -/
abbrev WS : Type := (Nat → Nat) × Nat
abbrev wW (cI : ClassId) (hw aw : Nat) (col : Nat → Nat) (len : Nat) : va_W := [(hw, .inr (3, [.ref aw, .int (nI len)])), (aw, .inl (cI, 24, .inl (fun j => nI (col j))))]
def rnd (col : Nat → Nat) (len i : Nat) : Nat := col (if i < len then i else i - len)
set_option maxHeartbeats 4000000 in
set_option maxRecDepth 100000 in
/-- around(i) -/
theorem c_around (l : Launch) (D : va_G) (cI cZ cW : ClassId) (hw aw : Nat) (col : Nat → Nat) (len : Nat) (i : Nat) (hl : len ≤ 24) (hi : i < len + len) : CtI l yX3_around cX3_around 2 (some .int) 0 0 0 0 D cI cZ cW [.ref hw, .int (nI i)] ([]) (wW cI hw aw col len) (S := Unit) (fun r _ => r = nI (rnd col len i)) (fun _ => []) := by
  refine CtI.mk (by decide) (Nat.le_of_ble_eq_true rfl) ?_
  intro p e s m args below meth c A hc hr hlk hnm hro
  generalize hQ : MQ below _ args s 0 0 A = Q
  show V p l e (RM 0 0 0 0) s m args below meth c D A 2 0 0 Q ([]) 0 [(0, .ref hw), (1, .int (nI i))] []
  refine r_aload_n hc dX3_around_0 rfl 0 rfl ?_
  refine r_getR hc inlX3 (hro _ (List.mem_of_getElem? (i := 0) rfl)) rfl 0 (by decide) fl_X3_9 rfl rfl dX3_around_1 ?_
  refine r_iload_n hc dX3_around_4 rfl 1 rfl ?_
  refine r_aload_n hc dX3_around_5 rfl 0 rfl ?_
  refine r_getR hc inlX3 (hro _ (List.mem_of_getElem? (i := 0) rfl)) rfl 1 (by decide) fl_X3_15 rfl rfl dX3_around_6 ?_
  refine n_icmp_ge hc 16 dX3_around_9 (by decide) (by omega) (by omega) (fun h1 => ?_) (fun h1 => ?_)
  · refine r_iload_n hc dX3_around_16 rfl 1 rfl ?_
    refine r_aload_n hc dX3_around_17 rfl 0 rfl ?_
    refine r_getR hc inlX3 (hro _ (List.mem_of_getElem? (i := 0) rfl)) rfl 1 (by decide) fl_X3_15 rfl rfl dX3_around_18 ?_
    refine n_sub hc dX3_around_21 (by omega) ?_
    refine r_ialdR hc nI (hro _ (List.mem_of_getElem? (i := 1) rfl)) (by omega) (by decide) dX3_around_22 ?_
    rw [← hQ]
    exact r_iret hc hr hlk () (by rw [rnd, if_neg (by omega)]) rfl dX3_around_23
  · refine r_iload_n hc dX3_around_12 rfl 1 rfl ?_
    refine r_goto hc 22 dX3_around_13 (by decide) ?_
    refine r_ialdR hc nI (hro _ (List.mem_of_getElem? (i := 1) rfl)) (by omega) (by decide) dX3_around_22 ?_
    rw [← hQ]
    exact r_iret hc hr hlk () (by rw [rnd, if_pos h1]) rfl dX3_around_23
set_option maxHeartbeats 4000000 in
set_option maxRecDepth 100000 in
/-- append(x) -/
theorem c_append (l : Launch) (D : va_G) (cI cZ cW : ClassId) (hw aw : Nat) (col : Nat → Nat) (len : Nat) (x : Nat) (hl : len < 24) : CtV l yX3_append cX3_append 2 none 0 0 0 0 D cI cZ cW [.ref hw, .int (nI x)] (wW cI hw aw col len) ([]) (S := WS) (fun u => u = (va_up col len x, len + 1)) (fun u => wW cI hw aw u.1 u.2) := by
  refine CtV.mk (by decide) (Nat.le_of_ble_eq_true rfl) ?_
  intro p e s m args below meth c A hc hr hlk hnm hro
  generalize hQ : MQ below _ args s 0 0 A = Q
  show V p l e (RM 0 0 0 0) s m args below meth c D A 2 0 0 Q (wW cI hw aw col len) 0 [(0, .ref hw), (1, .int (nI x))] []
  refine r_aload_n hc dX3_append_0 rfl 0 rfl ?_
  refine r_get hc inlX3 0 rfl rfl 0 (by decide) fl_X3_9 rfl rfl dX3_append_1 ?_
  refine r_aload_n hc dX3_append_4 rfl 0 rfl ?_
  refine r_get hc inlX3 0 rfl rfl 1 (by decide) fl_X3_15 rfl rfl dX3_append_5 ?_
  refine r_iload_n hc dX3_append_8 rfl 1 rfl ?_
  refine r_iast (ws' := wW cI hw aw (va_up col len x) len) hc nI x 1 rfl (by omega) (by decide) rfl dX3_append_9 ?_
  refine r_aload_n hc dX3_append_10 rfl 0 rfl ?_
  refine r_dup hc dX3_append_11 rfl ?_
  refine r_get hc inlX3 0 rfl rfl 1 (by decide) fl_X3_15 rfl rfl dX3_append_12 ?_
  refine r_iconst (v := (nI 1)) hc dX3_append_15 rfl ?_
  refine n_add hc dX3_append_16 ?_
  refine r_put (ws' := wW cI hw aw (va_up col len x) (len + 1)) hc inlX3 tyX3 tyX3_ok nmX3 0 rfl rfl 1 (by decide) fl_X3_15 rfl rfl rfl rfl (Nat.le_of_ble_eq_true rfl) rfl dX3_append_17 ?_
  rw [← hQ]
  exact r_vret hc hr hlk (va_up col len x, len + 1) (rfl) rfl dX3_append_20
end
section
/-! close -/
def pth (e : Nat → Option Nat) (g : Nat → Nat) (c : Nat) (i : Nat) : Option Nat := match i with | 0 => some c | i + 1 => match pth e g c i with | none => none | some p => e (p * 6 + g i)
def bp (e : Nat → Option Nat) (g : Nat → Nat) (len c : Nat) (k : Nat) : Option Nat := match k with | 0 => some c | k + 1 => match bp e g len c k with | none => none | some q => e (q * 6 + (g (len - 1 - k) ^^^ 1))
def PreUn (σ : CS) (k d : Nat) : Prop := (¬ sL (fU0 σ) k = sL (fU0 σ) d → 1 ≤ sV (fU0 σ)) ∧ BD (fU0 σ) ∧ (∀ i, i ≤ 200 → (∀ j, j < i → j < sFc (unI (fFall (fU0 σ) k d) j)) → BD (unI (fFall (fU0 σ) k d) i)) ∧ (∀ i, i < 200 → (∀ j, j < i + 1 → j < sFc (unI (fFall (fU0 σ) k d) j)) → ∀ x, x < sC (unI (fFall (fU0 σ) k d) i) → PreHo (hoI (unI (fFall (fU0 σ) k d) i) (sF (unI (fFall (fU0 σ) k d) i) i) x))
def PreC (σ : CS) : Prop := BD σ ∧ (∀ i d, sE σ i = some d → d < sM σ) ∧ (∀ p, p < 1200 → sS σ p = false → sRc σ < 1200) ∧ ∀ a b, a < sM σ → b < sM σ → PreUn σ a b
def rot (col : Nat → Nat) (len st : Nat) : Nat → Nat := fun j => rnd col len (st + j)
def CloseR (σ : CS) (col : Nat → Nat) (len st c : Nat) (u : CS) : Prop :=
  (∃ p, pth (sE σ) (rot col len st) c len = some p ∧ UnEnd (fFall (fU0 σ) p c) u)
  ∨ (∃ i p, i < len ∧ pth (sE σ) (rot col len st) c i = some p ∧ sE σ (p * 6 + rot col len st i) = none ∧
      ((∃ q, bp (sE σ) (rot col len st) len c (len - 1 - i) = some q ∧ sE σ (q * 6 + (rot col len st i ^^^ 1)) = none ∧ u = fJoin σ p (rot col len st i) q)
      ∨ (∃ q t, bp (sE σ) (rot col len st) len c (len - 1 - i) = some q ∧ sE σ (q * 6 + (rot col len st i ^^^ 1)) = some t ∧ UnEnd (fFall (fU0 σ) t p) u)
      ∨ (∃ k, k < len - 1 - i ∧ bp (sE σ) (rot col len st) len c (k + 1) = none ∧ u = σ)))
theorem pth_lt {e : Nat → Option Nat} {g : Nat → Nat} {c M : Nat} (he : ∀ i d, e i = some d → d < M) (hc : c < M) {i p : Nat} (h : pth e g c i = some p) : p < M := by
  cases i with
  | zero => cases h; exact hc
  | succ i =>
    rw [pth] at h
    split at h
    · cases h
    · exact he _ _ h
theorem bp_lt {e : Nat → Option Nat} {g : Nat → Nat} {len c M : Nat} (he : ∀ i d, e i = some d → d < M) (hc : c < M) {i p : Nat} (h : bp e g len c i = some p) : p < M := by
  cases i with
  | zero => cases h; exact hc
  | succ i =>
    rw [bp] at h
    split at h
    · cases h
    · exact he _ _ h
theorem rnd_lt {col : Nat → Nat} (hcol : ∀ j, col j < 6) (len i : Nat) : rnd col len i < 6 := hcol _
set_option maxHeartbeats 4000000 in
set_option maxRecDepth 100000 in
/-- close(word, st0, c0) -/
theorem c_close (l : Launch) (D : va_G) (cI cZ cW : ClassId) (h aE aL aF aR aS : Nat) (σ : CS) (hi hr1 hs1 hw aw : Nat) (col : Nat → Nat) (len : Nat) (st0 c0 : Nat) (hl : len ≤ 24) (hst : st0 < len) (hcol : ∀ j, col j < 6) (hcM : c0 < sM σ) (hC : PreC σ) : CtV l yX2_close cX2_close 9 none 3 73 0 0 D cI cZ cW [.ref hi, .ref hw, .int (nI st0), .int (nI c0)] (wS cI cZ h aE aL aF aR aS σ) ((hi, .inr (2, [.ref h, .ref hr1, .ref hs1])) :: wW cI hw aw col len) (S := CS) (fun u => CloseR σ col len st0 c0 u) (fun u => wS cI cZ h aE aL aF aR aS u) := by
  refine CtV.mk (by decide) (Nat.le_of_ble_eq_true rfl) ?_
  intro p e s m args below meth c A hc hr hlk hnm hro
  generalize hQ : MQ below _ args s 0 0 A = Q
  obtain ⟨cB, cE, cS, cU⟩ := hC
  have cB0 := cB
  obtain ⟨bM, bC, bL, bF, bR, bE, bRc, bFc, bV, bO⟩ := cB
  show V p l e (RM 3 73 0 0) s m args below meth c D A 9 0 0 Q (wS cI cZ h aE aL aF aR aS σ) 0 [(0, .ref hi), (1, .ref hw), (2, .int (nI st0)), (3, .int (nI c0))] []
  refine r_iload_n hc dX2_close_0 rfl 3 rfl ?_
  refine r_istore (lv' := [(4, .int (nI c0)), (0, .ref hi), (1, .ref hw), (2, .int (nI st0)), (3, .int (nI c0))]) hc dX2_close_1 (by decide) rfl ?_
  refine r_iconst (v := (nI 0)) hc dX2_close_3 rfl ?_
  refine r_istore (lv' := [(5, .int (nI 0)), (4, .int (nI c0)), (0, .ref hi), (1, .ref hw), (2, .int (nI st0)), (3, .int (nI c0))]) hc dX2_close_4 (by decide) rfl ?_
  have lp6 : ∀ (n : Nat) (p0 i : Nat), len - i = n → (i ≤ len) → (pth (sE σ) (rot col len st0) c0 i = some p0) → V p l e (RM 3 73 0 0) s m args below meth c D A 9 0 0 Q (wS cI cZ h aE aL aF aR aS σ) 6 [(5, .int (nI i)), (4, .int (nI p0)), (0, .ref hi), (1, .ref hw), (2, .int (nI st0)), (3, .int (nI c0))] [] := by
    intro n
    induction n using Nat.strongRecOn with
    | _ n ih6 =>
    intro p0 i hm6 hi1 hp
    have hpM := pth_lt cE hcM hp
    refine r_iload hc dX2_close_6 0 rfl ?_
    refine r_aload_n hc dX2_close_8 rfl 3 rfl ?_
    refine r_getRN hc inlX3 (hro _ (List.mem_of_getElem? (i := 1) rfl)) rfl 1 (by decide) nf_X2_57 rfl rfl dX2_close_9 ?_
    refine n_icmp_ge hc 61 dX2_close_12 (by decide) (by omega) (by omega) (fun h1 => ?_) (fun h1 => ?_)
    · refine r_iload hc dX2_close_61 0 rfl ?_
      refine r_aload_n hc dX2_close_63 rfl 3 rfl ?_
      refine r_getRN hc inlX3 (hro _ (List.mem_of_getElem? (i := 1) rfl)) rfl 1 (by decide) nf_X2_57 rfl rfl dX2_close_64 ?_
      refine n_icmp_ne hc 81 dX2_close_67 (by decide) (by omega) (by omega) (fun h2 => ?_) (fun h2 => ?_)
      · exact absurd (show i = len by omega) h2
      · have hil : i = len := h2
        refine r_aload_n hc dX2_close_70 rfl 2 rfl ?_
        refine r_getR hc inlX2 (hro _ (List.mem_of_getElem? (i := 0) rfl)) rfl 0 (by decide) fl_X2_9 rfl rfl dX2_close_71 ?_
        refine r_iload hc dX2_close_74 1 rfl ?_
        refine r_iload_n hc dX2_close_76 rfl 5 rfl ?_
        obtain ⟨uV, uB, uBi, uP⟩ := (cU p0 c0 hpM hcM)
        refine r_callV (As := [.int (nI p0), .int (nI c0)]) (n := 2) (wr := []) hc (c_unite l D cI cZ cW h aE aL aF aR aS σ p0 c0 (by omega) (by omega) uV uB uBi uP) co_yX1_unite in_X1 ml_X2_74 (by decide +kernel) rfl ⟨by decide, by decide⟩ ⟨by decide, by decide⟩ im_yX1_unite se_yX1_unite rfl (Or.inl ⟨0, _, rfl⟩) rfl (Nat.le_of_ble_eq_true rfl) [0, 1, 2, 3, 4, 5] [] rfl rfl rfl rfl (by decide) (fun q hq => absurd hq List.not_mem_nil) dX2_close_77 (fun u e3 => ?_)
        show V p l e (RM 3 73 0 0) s m args below meth c D A 9 0 0 Q (wS cI cZ h aE aL aF aR aS u) 80 [(5, .int (nI i)), (4, .int (nI p0)), (0, .ref hi), (1, .ref hw), (2, .int (nI st0)), (3, .int (nI c0))] []
        rw [← hQ]
        exact r_vret hc hr hlk u (Or.inl ⟨p0, by have z := hp; rw [hil] at z; exact z, e3⟩) rfl dX2_close_80
    · refine r_aload_n hc dX2_close_15 rfl 2 rfl ?_
      refine r_getR hc inlX2 (hro _ (List.mem_of_getElem? (i := 0) rfl)) rfl 0 (by decide) fl_X2_9 rfl rfl dX2_close_16 ?_
      refine r_iload hc dX2_close_19 1 rfl ?_
      refine r_aload_n hc dX2_close_21 rfl 3 rfl ?_
      refine r_iload_n hc dX2_close_22 rfl 4 rfl ?_
      refine r_iload hc dX2_close_23 0 rfl ?_
      refine n_add hc dX2_close_25 ?_
      refine r_callI (As := [.int (nI (st0 + i))]) (n := 1) (wr := wS cI cZ h aE aL aF aR aS σ) hc (c_around l D cI cZ cW hw aw col len (st0 + i) hl (by omega)) co_yX3_around in_X3 ml_X2_70 (by decide +kernel) rfl ⟨by decide, by decide⟩ ⟨by decide, by decide⟩ im_yX3_around se_yX3_around rfl (Or.inr ⟨_, (hro _ (List.mem_of_getElem? (i := 1) rfl))⟩) rfl (Nat.le_of_ble_eq_true rfl) [] [0, 1, 2, 3, 4, 5] rfl rfl rfl rfl (by decide) (fun q hq => Or.inr (hro q (List.mem_cons_of_mem _ hq))) dX2_close_26 (fun r4 u5 e6 => ?_)
      subst e6
      show V p l e (RM 3 73 0 0) s m args below meth c D A 9 0 0 Q (wS cI cZ h aE aL aF aR aS σ) 29 [(5, .int (nI i)), (4, .int (nI p0)), (0, .ref hi), (1, .ref hw), (2, .int (nI st0)), (3, .int (nI c0))] [.int (nI (rnd col len (st0 + i))), .int (nI p0), .ref h]
      have q7 := rnd_lt hcol len (st0 + i)
      have q8 := xor1_lt (rnd_lt hcol len (st0 + i))
      refine r_callI (As := [.int (nI p0), .int (nI (rnd col len (st0 + i)))]) (n := 2) (wr := wS cI cZ h aE aL aF aR aS σ) hc (c_at l D cI cZ cW h aE aL aF aR aS σ p0 (rnd col len (st0 + i)) (by omega) (by omega)) co_yX1_at in_X1 ml_X2_62 (by decide +kernel) rfl ⟨by decide, by decide⟩ ⟨by decide, by decide⟩ im_yX1_at se_yX1_at rfl (Or.inl ⟨0, _, rfl⟩) rfl (Nat.le_of_ble_eq_true rfl) [] [0, 1, 2, 3, 4, 5] rfl rfl rfl rfl (by decide) (fun q hq => Or.inl ((List.getElem?_of_mem hq).elim fun k hk => ⟨k, hk, List.not_mem_nil⟩)) dX2_close_29 (fun r9 u10 e11 => ?_)
      subst e11
      show V p l e (RM 3 73 0 0) s m args below meth c D A 9 0 0 Q (wS cI cZ h aE aL aF aR aS σ) 32 [(5, .int (nI i)), (4, .int (nI p0)), (0, .ref hi), (1, .ref hw), (2, .int (nI st0)), (3, .int (nI c0))] [.int (eI (sE σ (p0 * 6 + (rnd col len (st0 + i)))))]
      refine r_iconst (v := (-1)) hc dX2_close_32 rfl ?_
      refine e_icmp_eq hc 61 dX2_close_33 (by decide) (fun d h => Nat.lt_trans (bE _ d h) (by decide)) (fun h12 => ?_) (fun d13 h12 => ?_)
      · refine r_iload hc dX2_close_61 0 rfl ?_
        refine r_aload_n hc dX2_close_63 rfl 3 rfl ?_
        refine r_getRN hc inlX3 (hro _ (List.mem_of_getElem? (i := 1) rfl)) rfl 1 (by decide) nf_X2_57 rfl rfl dX2_close_64 ?_
        refine n_icmp_ne hc 81 dX2_close_67 (by decide) (by omega) (by omega) (fun h14 => ?_) (fun h14 => ?_)
        · refine r_iload_n hc dX2_close_81 rfl 5 rfl ?_
          refine r_istore (lv' := [(6, .int (nI c0)), (5, .int (nI i)), (4, .int (nI p0)), (0, .ref hi), (1, .ref hw), (2, .int (nI st0)), (3, .int (nI c0))]) hc dX2_close_82 (by decide) rfl ?_
          refine r_aload_n hc dX2_close_84 rfl 4 rfl ?_
          refine r_getRN hc inlX3 (hro _ (List.mem_of_getElem? (i := 1) rfl)) rfl 1 (by decide) nf_X2_57 rfl rfl dX2_close_85 ?_
          refine r_iconst (v := (nI 1)) hc dX2_close_88 rfl ?_
          refine n_sub hc dX2_close_89 (by omega) ?_
          refine r_istore (lv' := [(7, .int (nI (len - 1))), (6, .int (nI c0)), (5, .int (nI i)), (4, .int (nI p0)), (0, .ref hi), (1, .ref hw), (2, .int (nI st0)), (3, .int (nI c0))]) hc dX2_close_90 (by decide) rfl ?_
          have hil : i < len := by omega
          have lp92 : ∀ (n : Nat) (q0 b0 : Nat), b0 = n → (i ≤ b0) → (b0 ≤ len - 1) → (bp (sE σ) (rot col len st0) len c0 (len - 1 - b0) = some q0) → V p l e (RM 3 73 0 0) s m args below meth c D A 9 0 0 Q (wS cI cZ h aE aL aF aR aS σ) 92 [(7, .int (nI b0)), (6, .int (nI q0)), (5, .int (nI i)), (4, .int (nI p0)), (0, .ref hi), (1, .ref hw), (2, .int (nI st0)), (3, .int (nI c0))] [] := by
            intro n
            induction n using Nat.strongRecOn with
            | _ n ih92 =>
            intro q0 b0 hm92 hb1 hb2 hq
            have hqM := bp_lt cE hcM hq
            refine r_iload hc dX2_close_92 0 rfl ?_
            refine r_iload hc dX2_close_94 2 rfl ?_
            refine n_icmp_le hc 133 dX2_close_96 (by decide) (by omega) (by omega) (fun h15 => ?_) (fun h15 => ?_)
            · obtain rfl : i = b0 := by omega
              show V p l e (RM 3 73 0 0) s m args below meth c D A 9 0 0 Q (wS cI cZ h aE aL aF aR aS σ) 133 [(7, .int (nI i)), (6, .int (nI q0)), (5, .int (nI i)), (4, .int (nI p0)), (0, .ref hi), (1, .ref hw), (2, .int (nI st0)), (3, .int (nI c0))] []
              refine r_aload_n hc dX2_close_133 rfl 5 rfl ?_
              refine r_iload_n hc dX2_close_134 rfl 6 rfl ?_
              refine r_iload hc dX2_close_135 2 rfl ?_
              refine n_add hc dX2_close_137 ?_
              refine r_callI (As := [.int (nI (st0 + i))]) (n := 1) (wr := wS cI cZ h aE aL aF aR aS σ) hc (c_around l D cI cZ cW hw aw col len (st0 + i) hl (by omega)) co_yX3_around in_X3 ml_X2_70 (by decide +kernel) rfl ⟨by decide, by decide⟩ ⟨by decide, by decide⟩ im_yX3_around se_yX3_around rfl (Or.inr ⟨_, (hro _ (List.mem_of_getElem? (i := 1) rfl))⟩) rfl (Nat.le_of_ble_eq_true rfl) [] [0, 1, 2, 3, 4, 5] rfl rfl rfl rfl (by decide) (fun q hq => Or.inr (hro q (List.mem_cons_of_mem _ hq))) dX2_close_138 (fun r16 u17 e18 => ?_)
              subst e18
              show V p l e (RM 3 73 0 0) s m args below meth c D A 9 0 0 Q (wS cI cZ h aE aL aF aR aS σ) 141 [(7, .int (nI i)), (6, .int (nI q0)), (5, .int (nI i)), (4, .int (nI p0)), (0, .ref hi), (1, .ref hw), (2, .int (nI st0)), (3, .int (nI c0))] [.int (nI (rnd col len (st0 + i)))]
              refine r_istore (lv' := [(7, .int (nI (rnd col len (st0 + i)))), (6, .int (nI q0)), (5, .int (nI i)), (4, .int (nI p0)), (0, .ref hi), (1, .ref hw), (2, .int (nI st0)), (3, .int (nI c0))]) hc dX2_close_141 (by decide) rfl ?_
              refine r_aload_n hc dX2_close_143 rfl 4 rfl ?_
              refine r_getR hc inlX2 (hro _ (List.mem_of_getElem? (i := 0) rfl)) rfl 0 (by decide) fl_X2_9 rfl rfl dX2_close_144 ?_
              refine r_iload hc dX2_close_147 1 rfl ?_
              refine r_iload hc dX2_close_149 0 rfl ?_
              refine r_iconst (v := (nI 1)) hc dX2_close_151 rfl ?_
              refine n_xor hc dX2_close_152 ?_
              refine r_callI (As := [.int (nI q0), .int (nI ((rnd col len (st0 + i)) ^^^ 1))]) (n := 2) (wr := wS cI cZ h aE aL aF aR aS σ) hc (c_at l D cI cZ cW h aE aL aF aR aS σ q0 ((rnd col len (st0 + i)) ^^^ 1) (by omega) (by omega)) co_yX1_at in_X1 ml_X2_62 (by decide +kernel) rfl ⟨by decide, by decide⟩ ⟨by decide, by decide⟩ im_yX1_at se_yX1_at rfl (Or.inl ⟨0, _, rfl⟩) rfl (Nat.le_of_ble_eq_true rfl) [] [0, 1, 2, 3, 4, 5] rfl rfl rfl rfl (by decide) (fun q hq => Or.inl ((List.getElem?_of_mem hq).elim fun k hk => ⟨k, hk, List.not_mem_nil⟩)) dX2_close_153 (fun r19 u20 e21 => ?_)
              subst e21
              show V p l e (RM 3 73 0 0) s m args below meth c D A 9 0 0 Q (wS cI cZ h aE aL aF aR aS σ) 156 [(7, .int (nI (rnd col len (st0 + i)))), (6, .int (nI q0)), (5, .int (nI i)), (4, .int (nI p0)), (0, .ref hi), (1, .ref hw), (2, .int (nI st0)), (3, .int (nI c0))] [.int (eI (sE σ (q0 * 6 + ((rnd col len (st0 + i)) ^^^ 1))))]
              refine r_istore (lv' := [(8, .int (eI (sE σ (q0 * 6 + ((rnd col len (st0 + i)) ^^^ 1))))), (7, .int (nI (rnd col len (st0 + i)))), (6, .int (nI q0)), (5, .int (nI i)), (4, .int (nI p0)), (0, .ref hi), (1, .ref hw), (2, .int (nI st0)), (3, .int (nI c0))]) hc dX2_close_156 (by decide) rfl ?_
              refine r_iload hc dX2_close_158 0 rfl ?_
              refine r_iconst (v := (-1)) hc dX2_close_160 rfl ?_
              refine e_icmp_ne hc 180 dX2_close_161 (by decide) (fun d h => Nat.lt_trans (bE _ d h) (by decide)) (fun d23 h22 => ?_) (fun h22 => ?_)
              · rw [h22]
                show V _ _ _ _ _ _ _ _ _ _ _ _ _ _ _ _ _ _ [(8, .int (nI d23)), (7, .int (nI (rnd col len (st0 + i)))), (6, .int (nI q0)), (5, .int (nI i)), (4, .int (nI p0)), (0, .ref hi), (1, .ref hw), (2, .int (nI st0)), (3, .int (nI c0))] []
                refine r_aload_n hc dX2_close_180 rfl 5 rfl ?_
                refine r_getR hc inlX2 (hro _ (List.mem_of_getElem? (i := 0) rfl)) rfl 0 (by decide) fl_X2_9 rfl rfl dX2_close_181 ?_
                refine r_iload hc dX2_close_184 0 rfl ?_
                refine r_iload hc dX2_close_186 4 rfl ?_
                obtain ⟨uV, uB, uBi, uP⟩ := (cU d23 p0 (cE _ _ h22) hpM)
                refine r_callV (As := [.int (nI d23), .int (nI p0)]) (n := 2) (wr := []) hc (c_unite l D cI cZ cW h aE aL aF aR aS σ d23 p0 (by have := cE _ _ h22; omega) (by omega) uV uB uBi uP) co_yX1_unite in_X1 ml_X2_74 (by decide +kernel) rfl ⟨by decide, by decide⟩ ⟨by decide, by decide⟩ im_yX1_unite se_yX1_unite rfl (Or.inl ⟨0, _, rfl⟩) rfl (Nat.le_of_ble_eq_true rfl) [0, 1, 2, 3, 4, 5] [] rfl rfl rfl rfl (by decide) (fun q hq => absurd hq List.not_mem_nil) dX2_close_188 (fun u e24 => ?_)
                show V p l e (RM 3 73 0 0) s m args below meth c D A 9 0 0 Q (wS cI cZ h aE aL aF aR aS u) 191 [(8, .int (nI d23)), (7, .int (nI (rnd col len (st0 + i)))), (6, .int (nI q0)), (5, .int (nI i)), (4, .int (nI p0)), (0, .ref hi), (1, .ref hw), (2, .int (nI st0)), (3, .int (nI c0))] []
                rw [← hQ]
                exact r_vret hc hr hlk u (Or.inr ⟨_, p0, hil, hp, h12, Or.inr (Or.inl ⟨q0, _, hq, h22, e24⟩)⟩) rfl dX2_close_191
              · refine r_aload_n hc dX2_close_164 rfl 5 rfl ?_
                refine r_getR hc inlX2 (hro _ (List.mem_of_getElem? (i := 0) rfl)) rfl 0 (by decide) fl_X2_9 rfl rfl dX2_close_165 ?_
                refine r_iload hc dX2_close_168 4 rfl ?_
                refine r_iload hc dX2_close_170 1 rfl ?_
                refine r_iload hc dX2_close_172 2 rfl ?_
                refine r_callV (As := [.int (nI p0), .int (nI (rnd col len (st0 + i))), .int (nI q0)]) (n := 3) (wr := []) hc (c_join l D cI cZ cW h aE aL aF aR aS σ p0 (rnd col len (st0 + i)) q0 (by omega) (by omega) (by omega) (fun z => cS _ (by omega) z) cB0) co_yX1_join in_X1 ml_X2_78 (by decide +kernel) rfl ⟨by decide, by decide⟩ ⟨by decide, by decide⟩ im_yX1_join se_yX1_join rfl (Or.inl ⟨0, _, rfl⟩) rfl (Nat.le_of_ble_eq_true rfl) [0, 1, 2, 3, 4, 5] [] rfl rfl rfl rfl (by decide) (fun q hq => absurd hq List.not_mem_nil) dX2_close_174 (fun u e25 => ?_)
                show V p l e (RM 3 73 0 0) s m args below meth c D A 9 0 0 Q (wS cI cZ h aE aL aF aR aS u) 177 [(8, .int (eI (sE σ (q0 * 6 + ((rnd col len (st0 + i)) ^^^ 1))))), (7, .int (nI (rnd col len (st0 + i)))), (6, .int (nI q0)), (5, .int (nI i)), (4, .int (nI p0)), (0, .ref hi), (1, .ref hw), (2, .int (nI st0)), (3, .int (nI c0))] []
                refine r_goto hc 191 dX2_close_177 (by decide) ?_
                rw [← hQ]
                exact r_vret hc hr hlk u (Or.inr ⟨_, p0, hil, hp, h12, Or.inl ⟨q0, hq, h22, e25⟩⟩) rfl dX2_close_191
            · refine r_aload_n hc dX2_close_99 rfl 4 rfl ?_
              refine r_getR hc inlX2 (hro _ (List.mem_of_getElem? (i := 0) rfl)) rfl 0 (by decide) fl_X2_9 rfl rfl dX2_close_100 ?_
              refine r_iload hc dX2_close_103 1 rfl ?_
              refine r_aload_n hc dX2_close_105 rfl 5 rfl ?_
              refine r_iload_n hc dX2_close_106 rfl 6 rfl ?_
              refine r_iload hc dX2_close_107 0 rfl ?_
              refine n_add hc dX2_close_109 ?_
              refine r_callI (As := [.int (nI (st0 + b0))]) (n := 1) (wr := wS cI cZ h aE aL aF aR aS σ) hc (c_around l D cI cZ cW hw aw col len (st0 + b0) hl (by omega)) co_yX3_around in_X3 ml_X2_70 (by decide +kernel) rfl ⟨by decide, by decide⟩ ⟨by decide, by decide⟩ im_yX3_around se_yX3_around rfl (Or.inr ⟨_, (hro _ (List.mem_of_getElem? (i := 1) rfl))⟩) rfl (Nat.le_of_ble_eq_true rfl) [] [0, 1, 2, 3, 4, 5] rfl rfl rfl rfl (by decide) (fun q hq => Or.inr (hro q (List.mem_cons_of_mem _ hq))) dX2_close_110 (fun r26 u27 e28 => ?_)
              subst e28
              show V p l e (RM 3 73 0 0) s m args below meth c D A 9 0 0 Q (wS cI cZ h aE aL aF aR aS σ) 113 [(7, .int (nI b0)), (6, .int (nI q0)), (5, .int (nI i)), (4, .int (nI p0)), (0, .ref hi), (1, .ref hw), (2, .int (nI st0)), (3, .int (nI c0))] [.int (nI (rnd col len (st0 + b0))), .int (nI q0), .ref h]
              have q29 := rnd_lt hcol len (st0 + b0)
              have q30 := xor1_lt (rnd_lt hcol len (st0 + b0))
              refine r_iconst (v := (nI 1)) hc dX2_close_113 rfl ?_
              refine n_xor hc dX2_close_114 ?_
              refine r_callI (As := [.int (nI q0), .int (nI ((rnd col len (st0 + b0)) ^^^ 1))]) (n := 2) (wr := wS cI cZ h aE aL aF aR aS σ) hc (c_at l D cI cZ cW h aE aL aF aR aS σ q0 ((rnd col len (st0 + b0)) ^^^ 1) (by omega) (by omega)) co_yX1_at in_X1 ml_X2_62 (by decide +kernel) rfl ⟨by decide, by decide⟩ ⟨by decide, by decide⟩ im_yX1_at se_yX1_at rfl (Or.inl ⟨0, _, rfl⟩) rfl (Nat.le_of_ble_eq_true rfl) [] [0, 1, 2, 3, 4, 5] rfl rfl rfl rfl (by decide) (fun q hq => Or.inl ((List.getElem?_of_mem hq).elim fun k hk => ⟨k, hk, List.not_mem_nil⟩)) dX2_close_115 (fun r31 u32 e33 => ?_)
              subst e33
              show V p l e (RM 3 73 0 0) s m args below meth c D A 9 0 0 Q (wS cI cZ h aE aL aF aR aS σ) 118 [(7, .int (nI b0)), (6, .int (nI q0)), (5, .int (nI i)), (4, .int (nI p0)), (0, .ref hi), (1, .ref hw), (2, .int (nI st0)), (3, .int (nI c0))] [.int (eI (sE σ (q0 * 6 + ((rnd col len (st0 + b0)) ^^^ 1))))]
              refine r_istore (lv' := [(6, .int (eI (sE σ (q0 * 6 + ((rnd col len (st0 + b0)) ^^^ 1))))), (7, .int (nI b0)), (5, .int (nI i)), (4, .int (nI p0)), (0, .ref hi), (1, .ref hw), (2, .int (nI st0)), (3, .int (nI c0))]) hc dX2_close_118 (by decide) rfl ?_
              refine r_iload hc dX2_close_120 0 rfl ?_
              refine r_iconst (v := (-1)) hc dX2_close_122 rfl ?_
              refine e_icmp_ne hc 127 dX2_close_123 (by decide) (fun d h => Nat.lt_trans (bE _ d h) (by decide)) (fun d35 h34 => ?_) (fun h34 => ?_)
              · rw [h34]
                show V _ _ _ _ _ _ _ _ _ _ _ _ _ _ _ _ _ _ [(6, .int (nI d35)), (7, .int (nI b0)), (5, .int (nI i)), (4, .int (nI p0)), (0, .ref hi), (1, .ref hw), (2, .int (nI st0)), (3, .int (nI c0))] []
                refine r_iinc (k := 1) (v := (nI (b0 - 1))) (lv' := [(7, .int (nI (b0 - 1))), (6, .int (nI d35)), (5, .int (nI i)), (4, .int (nI p0)), (0, .ref hi), (1, .ref hw), (2, .int (nI st0)), (3, .int (nI c0))]) hc dX2_close_127 rfl (n_dec (by omega)) (by decide) rfl ?_
                refine r_goto hc 92 dX2_close_130 (by decide) ?_
                refine r_lv [0, 1, 2, 3, 4, 5, 6, 7] rfl ?_
                exact ih92 _ (by omega) d35 (b0 - 1) rfl (by omega) (by omega) (by rw [show len - 1 - (b0 - 1) = len - 1 - b0 + 1 by omega, bp, hq, show len - 1 - (len - 1 - b0) = b0 by omega]; exact h34)
              · rw [← hQ]
                exact r_vret hc hr hlk σ (Or.inr ⟨i, p0, hil, hp, h12, Or.inr (Or.inr ⟨len - 1 - b0, by omega, by rw [bp, hq, show len - 1 - (len - 1 - b0) = b0 by omega]; exact h34, rfl⟩)⟩) rfl dX2_close_126
          refine r_lv [0, 1, 2, 3, 4, 5, 6, 7] rfl ?_
          exact lp92 _ c0 (len - 1) rfl (by omega) (by omega) (by rw [Nat.sub_self]; rfl)
        · exact absurd h14 (by omega)
      · refine r_aload_n hc dX2_close_36 rfl 2 rfl ?_
        refine r_getR hc inlX2 (hro _ (List.mem_of_getElem? (i := 0) rfl)) rfl 0 (by decide) fl_X2_9 rfl rfl dX2_close_37 ?_
        refine r_iload hc dX2_close_40 1 rfl ?_
        refine r_aload_n hc dX2_close_42 rfl 3 rfl ?_
        refine r_iload_n hc dX2_close_43 rfl 4 rfl ?_
        refine r_iload hc dX2_close_44 0 rfl ?_
        refine n_add hc dX2_close_46 ?_
        refine r_callI (As := [.int (nI (st0 + i))]) (n := 1) (wr := wS cI cZ h aE aL aF aR aS σ) hc (c_around l D cI cZ cW hw aw col len (st0 + i) hl (by omega)) co_yX3_around in_X3 ml_X2_70 (by decide +kernel) rfl ⟨by decide, by decide⟩ ⟨by decide, by decide⟩ im_yX3_around se_yX3_around rfl (Or.inr ⟨_, (hro _ (List.mem_of_getElem? (i := 1) rfl))⟩) rfl (Nat.le_of_ble_eq_true rfl) [] [0, 1, 2, 3, 4, 5] rfl rfl rfl rfl (by decide) (fun q hq => Or.inr (hro q (List.mem_cons_of_mem _ hq))) dX2_close_47 (fun r36 u37 e38 => ?_)
        subst e38
        show V p l e (RM 3 73 0 0) s m args below meth c D A 9 0 0 Q (wS cI cZ h aE aL aF aR aS σ) 50 [(5, .int (nI i)), (4, .int (nI p0)), (0, .ref hi), (1, .ref hw), (2, .int (nI st0)), (3, .int (nI c0))] [.int (nI (rnd col len (st0 + i))), .int (nI p0), .ref h]
        refine r_callI (As := [.int (nI p0), .int (nI (rnd col len (st0 + i)))]) (n := 2) (wr := wS cI cZ h aE aL aF aR aS σ) hc (c_at l D cI cZ cW h aE aL aF aR aS σ p0 (rnd col len (st0 + i)) (by omega) (by omega)) co_yX1_at in_X1 ml_X2_62 (by decide +kernel) rfl ⟨by decide, by decide⟩ ⟨by decide, by decide⟩ im_yX1_at se_yX1_at rfl (Or.inl ⟨0, _, rfl⟩) rfl (Nat.le_of_ble_eq_true rfl) [] [0, 1, 2, 3, 4, 5] rfl rfl rfl rfl (by decide) (fun q hq => Or.inl ((List.getElem?_of_mem hq).elim fun k hk => ⟨k, hk, List.not_mem_nil⟩)) dX2_close_50 (fun r39 u40 e41 => ?_)
        subst e41
        show V p l e (RM 3 73 0 0) s m args below meth c D A 9 0 0 Q (wS cI cZ h aE aL aF aR aS σ) 53 [(5, .int (nI i)), (4, .int (nI p0)), (0, .ref hi), (1, .ref hw), (2, .int (nI st0)), (3, .int (nI c0))] [.int (eI (sE σ (p0 * 6 + (rnd col len (st0 + i)))))]
        rw [h12]
        show V p l e (RM 3 73 0 0) s m args below meth c D A 9 0 0 Q (wS cI cZ h aE aL aF aR aS σ) 53 [(5, .int (nI i)), (4, .int (nI p0)), (0, .ref hi), (1, .ref hw), (2, .int (nI st0)), (3, .int (nI c0))] [.int (nI d13)]
        refine r_istore (lv' := [(4, .int (nI d13)), (5, .int (nI i)), (0, .ref hi), (1, .ref hw), (2, .int (nI st0)), (3, .int (nI c0))]) hc dX2_close_53 (by decide) rfl ?_
        refine r_iinc (k := 1) (v := (nI (i + 1))) (lv' := [(5, .int (nI (i + 1))), (4, .int (nI d13)), (0, .ref hi), (1, .ref hw), (2, .int (nI st0)), (3, .int (nI c0))]) hc dX2_close_55 rfl (nI_add _ _) (by decide) rfl ?_
        refine r_goto hc 6 dX2_close_58 (by decide) ?_
        refine r_lv [0, 1, 2, 3, 4, 5] rfl ?_
        exact ih6 _ (by omega) d13 (i + 1) rfl (by omega) (by rw [pth, hp]; exact h12)
  refine r_lv [0, 1, 2, 3, 4, 5] rfl ?_
  exact lp6 _ c0 0 rfl (Nat.zero_le _) rfl
end
section
set_option maxHeartbeats 4000000 in
set_option maxRecDepth 100000 in
/-- drawThrough(k, x0, word) -/
theorem c_drawThrough (l : Launch) (D : va_G) (cI cZ cW : ClassId) (h aE aL aF aR aS : Nat) (σ : CS) (hi hr1 hs1 hw aw : Nat) (col : Nat → Nat) (len : Nat) (k x0 : Nat) (hx0 : x0 < 6) (hl : len ≤ 24) (hcol : ∀ j, col j < 6) (J : Nat → CS → Prop) (hJ0 : J 0 σ) (hpre : ∀ n τ, n < len → J n τ → PreC τ ∧ k < sM τ) (hst1 : ∀ n τ d u, n < len → J n τ → sE τ (k * 6 + x0) = some d → col n = x0 → CloseR τ col len n k u → J (n + 1) u) (hst2 : ∀ n τ d u, n < len → J n τ → sE τ (k * 6 + x0) = some d → col n ≠ x0 → col n = x0 ^^^ 1 → CloseR τ col len n d u → J (n + 1) u) (hst3 : ∀ n τ d, n < len → J n τ → sE τ (k * 6 + x0) = some d → col n ≠ x0 → col n ≠ x0 ^^^ 1 → J (n + 1) τ) : CtV l yX2_drawThrough cX2_drawThrough 6 none 4 101 0 0 D cI cZ cW [.ref hi, .int (nI k), .int (nI x0), .ref hw] (wS cI cZ h aE aL aF aR aS σ) ((hi, .inr (2, [.ref h, .ref hr1, .ref hs1])) :: wW cI hw aw col len) (S := CS) (fun u => J len u ∨ ∃ n, n < len ∧ J n u ∧ sE u (k * 6 + x0) = none) (fun u => wS cI cZ h aE aL aF aR aS u) := by
  refine CtV.mk (by decide) (Nat.le_of_ble_eq_true rfl) ?_
  intro p e s m args below meth c A hc hr hlk hnm hro
  generalize hQ : MQ below _ args s 0 0 A = Q
  have hx1 := xor1_lt hx0
  show V p l e (RM 4 101 0 0) s m args below meth c D A 6 0 0 Q (wS cI cZ h aE aL aF aR aS σ) 0 [(0, .ref hi), (1, .int (nI k)), (2, .int (nI x0)), (3, .ref hw)] []
  refine r_iconst (v := (nI 0)) hc dX2_drawThrough_0 rfl ?_
  refine r_istore (lv' := [(4, .int (nI 0)), (0, .ref hi), (1, .int (nI k)), (2, .int (nI x0)), (3, .ref hw)]) hc dX2_drawThrough_1 (by decide) rfl ?_
  have lp3 : ∀ (n : Nat) (τ : CS) (n0 : Nat), len - n0 = n → (n0 ≤ len) → (J n0 τ) → V p l e (RM 4 101 0 0) s m args below meth c D A 6 0 0 Q (wS cI cZ h aE aL aF aR aS τ) 3 [(4, .int (nI n0)), (0, .ref hi), (1, .int (nI k)), (2, .int (nI x0)), (3, .ref hw)] [] := by
    intro n
    induction n using Nat.strongRecOn with
    | _ n ih3 =>
    intro τ n0 hm3 hn0 hJ
    refine r_iload hc dX2_drawThrough_3 0 rfl ?_
    refine r_aload_n hc dX2_drawThrough_5 rfl 4 rfl ?_
    refine r_getRN hc inlX3 (hro _ (List.mem_of_getElem? (i := 1) rfl)) rfl 1 (by decide) nf_X2_57 rfl rfl dX2_drawThrough_6 ?_
    refine n_icmp_ge hc 80 dX2_drawThrough_9 (by decide) (by omega) (by omega) (fun h1 => ?_) (fun h1 => ?_)
    · rw [← hQ]
      exact r_vret hc hr hlk τ (Or.inl ((show n0 = len by omega) ▸ hJ)) rfl dX2_drawThrough_80
    · obtain ⟨hPC, hkM⟩ := hpre n0 τ h1 hJ
      obtain ⟨cB, cE, cS, cU⟩ := id hPC
      obtain ⟨tM, tC, tL, tF, tR, tE, tRc, tFc, tV, tO⟩ := id cB
      refine r_aload_n hc dX2_drawThrough_12 rfl 1 rfl ?_
      refine r_getR hc inlX2 (hro _ (List.mem_of_getElem? (i := 0) rfl)) rfl 0 (by decide) fl_X2_9 rfl rfl dX2_drawThrough_13 ?_
      refine r_iload_n hc dX2_drawThrough_16 rfl 2 rfl ?_
      refine r_iload_n hc dX2_drawThrough_17 rfl 3 rfl ?_
      refine r_callI (As := [.int (nI k), .int (nI x0)]) (n := 2) (wr := wS cI cZ h aE aL aF aR aS τ) hc (c_at l D cI cZ cW h aE aL aF aR aS τ k x0 (by omega) hx0) co_yX1_at in_X1 ml_X2_62 (by decide +kernel) rfl ⟨by decide, by decide⟩ ⟨by decide, by decide⟩ im_yX1_at se_yX1_at rfl (Or.inl ⟨0, _, rfl⟩) rfl (Nat.le_of_ble_eq_true rfl) [] [0, 1, 2, 3, 4, 5] rfl rfl rfl rfl (by decide) (fun q hq => Or.inl ((List.getElem?_of_mem hq).elim fun k hk => ⟨k, hk, List.not_mem_nil⟩)) dX2_drawThrough_18 (fun r2 u3 e4 => ?_)
      subst e4
      show V p l e (RM 4 101 0 0) s m args below meth c D A 6 0 0 Q (wS cI cZ h aE aL aF aR aS τ) 21 [(4, .int (nI n0)), (0, .ref hi), (1, .int (nI k)), (2, .int (nI x0)), (3, .ref hw)] [.int (eI (sE τ (k * 6 + x0)))]
      refine r_istore (lv' := [(5, .int (eI (sE τ (k * 6 + x0)))), (4, .int (nI n0)), (0, .ref hi), (1, .int (nI k)), (2, .int (nI x0)), (3, .ref hw)]) hc dX2_drawThrough_21 (by decide) rfl ?_
      refine r_iload hc dX2_drawThrough_23 0 rfl ?_
      refine r_iconst (v := (-1)) hc dX2_drawThrough_25 rfl ?_
      refine e_icmp_ne hc 30 dX2_drawThrough_26 (by decide) (fun d h => Nat.lt_trans (tE _ d h) (by decide)) (fun d6 h5 => ?_) (fun h5 => ?_)
      · rw [h5]
        show V _ _ _ _ _ _ _ _ _ _ _ _ _ _ _ _ _ _ [(5, .int (nI d6)), (4, .int (nI n0)), (0, .ref hi), (1, .int (nI k)), (2, .int (nI x0)), (3, .ref hw)] []
        refine r_aload_n hc dX2_drawThrough_30 rfl 5 rfl ?_
        refine r_getRN hc inlX3 (hro _ (List.mem_of_getElem? (i := 1) rfl)) rfl 0 (by decide) nf_X2_66 rfl rfl dX2_drawThrough_31 ?_
        refine r_iload hc dX2_drawThrough_34 1 rfl ?_
        have hcn := hcol n0
        refine r_ialdR hc nI (hro _ (List.mem_of_getElem? (i := 2) rfl)) (by omega) (by decide) dX2_drawThrough_36 ?_
        refine r_iload_n hc dX2_drawThrough_37 rfl 4 rfl ?_
        refine n_icmp_ne hc 52 dX2_drawThrough_38 (by decide) (by omega) (by omega) (fun h7 => ?_) (fun h7 => ?_)
        · refine r_aload_n hc dX2_drawThrough_52 rfl 5 rfl ?_
          refine r_getRN hc inlX3 (hro _ (List.mem_of_getElem? (i := 1) rfl)) rfl 0 (by decide) nf_X2_66 rfl rfl dX2_drawThrough_53 ?_
          refine r_iload hc dX2_drawThrough_56 1 rfl ?_
          refine r_ialdR hc nI (hro _ (List.mem_of_getElem? (i := 2) rfl)) (by omega) (by decide) dX2_drawThrough_58 ?_
          refine r_iload_n hc dX2_drawThrough_59 rfl 4 rfl ?_
          refine r_iconst (v := (nI 1)) hc dX2_drawThrough_60 rfl ?_
          refine n_xor hc dX2_drawThrough_61 ?_
          refine n_icmp_ne hc 74 dX2_drawThrough_62 (by decide) (by omega) (by omega) (fun h8 => ?_) (fun h8 => ?_)
          · refine r_iinc (k := 1) (v := (nI (n0 + 1))) (lv' := [(4, .int (nI (n0 + 1))), (5, .int (nI d6)), (0, .ref hi), (1, .int (nI k)), (2, .int (nI x0)), (3, .ref hw)]) hc dX2_drawThrough_74 rfl (nI_add _ _) (by decide) rfl ?_
            refine r_goto hc 3 dX2_drawThrough_77 (by decide) ?_
            refine r_lv [0, 2, 3, 4, 5] rfl ?_
            exact ih3 _ (by omega) τ (n0 + 1) rfl (by omega) (hst3 n0 τ _ h1 hJ h5 h7 h8)
          · refine r_aload_n hc dX2_drawThrough_65 rfl 2 rfl ?_
            refine r_aload_n hc dX2_drawThrough_66 rfl 5 rfl ?_
            refine r_iload hc dX2_drawThrough_67 1 rfl ?_
            refine r_iload hc dX2_drawThrough_69 0 rfl ?_
            refine r_callV (As := [.ref hw, .int (nI n0), .int (nI d6)]) (n := 3) (wr := []) hc (c_close l D cI cZ cW h aE aL aF aR aS τ hi hr1 hs1 hw aw col len n0 d6 hl (by omega) hcol (cE _ _ h5) hPC) co_yX2_close in_X2 ml_X2_38 (by decide +kernel) rfl ⟨by decide, by decide⟩ ⟨by decide, by decide⟩ im_yX2_close se_yX2_close rfl (Or.inr ⟨_, (hro _ (List.mem_of_getElem? (i := 0) rfl))⟩) rfl (Nat.le_of_ble_eq_true rfl) [0, 1, 2, 3, 4, 5] [] rfl rfl rfl rfl (by decide) (fun q hq => Or.inr (hro q hq)) dX2_drawThrough_71 (fun u e9 => ?_)
            show V p l e (RM 4 101 0 0) s m args below meth c D A 6 0 0 Q (wS cI cZ h aE aL aF aR aS u) 74 [(5, .int (nI d6)), (4, .int (nI n0)), (0, .ref hi), (1, .int (nI k)), (2, .int (nI x0)), (3, .ref hw)] []
            refine r_iinc (k := 1) (v := (nI (n0 + 1))) (lv' := [(4, .int (nI (n0 + 1))), (5, .int (nI d6)), (0, .ref hi), (1, .int (nI k)), (2, .int (nI x0)), (3, .ref hw)]) hc dX2_drawThrough_74 rfl (nI_add _ _) (by decide) rfl ?_
            refine r_goto hc 3 dX2_drawThrough_77 (by decide) ?_
            refine r_lv [0, 2, 3, 4, 5] rfl ?_
            exact ih3 _ (by omega) u (n0 + 1) rfl (by omega) (hst2 n0 τ _ u h1 hJ h5 h7 h8 e9)
        · refine r_aload_n hc dX2_drawThrough_41 rfl 2 rfl ?_
          refine r_aload_n hc dX2_drawThrough_42 rfl 5 rfl ?_
          refine r_iload hc dX2_drawThrough_43 1 rfl ?_
          refine r_iload_n hc dX2_drawThrough_45 rfl 3 rfl ?_
          refine r_callV (As := [.ref hw, .int (nI n0), .int (nI k)]) (n := 3) (wr := []) hc (c_close l D cI cZ cW h aE aL aF aR aS τ hi hr1 hs1 hw aw col len n0 k hl (by omega) hcol hkM hPC) co_yX2_close in_X2 ml_X2_38 (by decide +kernel) rfl ⟨by decide, by decide⟩ ⟨by decide, by decide⟩ im_yX2_close se_yX2_close rfl (Or.inr ⟨_, (hro _ (List.mem_of_getElem? (i := 0) rfl))⟩) rfl (Nat.le_of_ble_eq_true rfl) [0, 1, 2, 3, 4, 5] [] rfl rfl rfl rfl (by decide) (fun q hq => Or.inr (hro q hq)) dX2_drawThrough_46 (fun u e10 => ?_)
          show V p l e (RM 4 101 0 0) s m args below meth c D A 6 0 0 Q (wS cI cZ h aE aL aF aR aS u) 49 [(5, .int (nI d6)), (4, .int (nI n0)), (0, .ref hi), (1, .int (nI k)), (2, .int (nI x0)), (3, .ref hw)] []
          refine r_goto hc 74 dX2_drawThrough_49 (by decide) ?_
          refine r_iinc (k := 1) (v := (nI (n0 + 1))) (lv' := [(4, .int (nI (n0 + 1))), (5, .int (nI d6)), (0, .ref hi), (1, .int (nI k)), (2, .int (nI x0)), (3, .ref hw)]) hc dX2_drawThrough_74 rfl (nI_add _ _) (by decide) rfl ?_
          refine r_goto hc 3 dX2_drawThrough_77 (by decide) ?_
          refine r_lv [0, 2, 3, 4, 5] rfl ?_
          exact ih3 _ (by omega) u (n0 + 1) rfl (by omega) (hst1 n0 τ _ u h1 hJ h5 h7 e10)
      · rw [← hQ]
        exact r_vret hc hr hlk τ (Or.inr ⟨n0, h1, hJ, h5⟩) rfl dX2_drawThrough_29
  refine r_lv [0, 1, 2, 3, 4] rfl ?_
  exact lp3 _ σ 0 rfl (Nat.zero_le _) hJ0
/-! lists of words -/
abbrev wL (cI cW : ClassId) (hl al n : Nat) (wa ca : Nat → Nat) (col : Nat → Nat → Nat) (len : Nat → Nat) (sz : Nat) : va_W := (hl, .inr (4, [.ref al, .int (nI sz)])) :: (al, .inl (cW, n, .inr (.inr (.inr (.inr (fun j => some (wa j))))))) :: (List.range n).flatMap (fun i => wW cI (wa i) (ca i) (col i) (len i))
theorem wL_word {cI cW : ClassId} {hl al n : Nat} {wa ca : Nat → Nat} {col : Nat → Nat → Nat} {len : Nat → Nat} {sz i : Nat} (hi : i < n) {q : Nat × va_E} (h : q ∈ wW cI (wa i) (ca i) (col i) (len i)) : q ∈ wL cI cW hl al n wa ca col len sz := List.mem_cons_of_mem _ (List.mem_cons_of_mem _ (List.mem_flatMap.mpr ⟨i, List.mem_range.mpr hi, h⟩))
set_option maxHeartbeats 4000000 in
set_option maxRecDepth 100000 in
/-- drawFromSubgroup() -/
theorem c_drawSub (l : Launch) (D : va_G) (cI cZ cW : ClassId) (h aE aL aF aR aS : Nat) (σ : CS) (hi hr1 hs1 ar as : Nat) (rwa rca : Nat → Nat) (rcol : Nat → Nat → Nat) (rlen : Nat → Nat) (nr : Nat) (swa sca : Nat → Nat) (scol : Nat → Nat → Nat) (slen : Nat → Nat) (ns : Nat) (hrl : ∀ i, i < nr → 1 ≤ rlen i ∧ rlen i ≤ 24 ∧ ∀ j, rcol i j < 6) (hnr : nr ≤ 10) (hsl : ∀ i, i < ns → 1 ≤ slen i ∧ slen i ≤ 24 ∧ ∀ j, scol i j < 6) (hns : ns ≤ 5) (K : Nat → CS → Prop) (hK0 : K 0 σ) (hpre : ∀ i τ, i < ns → K i τ → PreC τ ∧ 0 < sM τ) (hstep : ∀ i τ u, i < ns → K i τ → CloseR τ (scol i) (slen i) 0 0 u → K (i + 1) u) : CtV l yX2_drawFromSubgroup cX2_drawFromSubgroup 2 none 4 101 0 0 D cI cZ cW [.ref hi] (wS cI cZ h aE aL aF aR aS σ) ((hi, .inr (2, [.ref h, .ref hr1, .ref hs1])) :: (wL cI cW hr1 ar 10 rwa rca rcol rlen nr ++ wL cI cW hs1 as 5 swa sca scol slen ns)) (S := CS) (fun u => K ns u) (fun u => wS cI cZ h aE aL aF aR aS u) := by
  refine CtV.mk (by decide) (Nat.le_of_ble_eq_true rfl) ?_
  intro p e s m args below meth c A hc hr hlk hnm hro
  generalize hQ : MQ below _ args s 0 0 A = Q
  show V p l e (RM 4 101 0 0) s m args below meth c D A 2 0 0 Q (wS cI cZ h aE aL aF aR aS σ) 0 [(0, .ref hi)] []
  refine r_iconst (v := (nI 0)) hc dX2_drawFromSubgroup_0 rfl ?_
  refine r_istore_n (lv' := [(1, .int (nI 0)), (0, .ref hi)]) hc dX2_drawFromSubgroup_1 rfl (by decide) rfl ?_
  have lp2 : ∀ (n : Nat) (τ : CS) (i : Nat), ns - i = n → (i ≤ ns) → (K i τ) → V p l e (RM 4 101 0 0) s m args below meth c D A 2 0 0 Q (wS cI cZ h aE aL aF aR aS τ) 2 [(1, .int (nI i)), (0, .ref hi)] [] := by
    intro n
    induction n using Nat.strongRecOn with
    | _ n ih2 =>
    intro τ i hm2 hi1 hK
    refine r_iload_n hc dX2_drawFromSubgroup_2 rfl 0 rfl ?_
    refine r_aload_n hc dX2_drawFromSubgroup_3 rfl 1 rfl ?_
    refine r_getR hc inlX2 (hro _ (List.mem_of_getElem? (i := 0) rfl)) rfl 2 (by decide) fl_X2_19 rfl rfl dX2_drawFromSubgroup_4 ?_
    refine r_getRN hc inlX4 (hro _ (List.mem_cons_of_mem _ (List.mem_append_right _ (List.mem_of_getElem? (i := 0) rfl)))) rfl 1 (by decide) nf_X2_22 rfl rfl dX2_drawFromSubgroup_7 ?_
    refine n_icmp_ge hc 34 dX2_drawFromSubgroup_10 (by decide) (by omega) (by omega) (fun h1 => ?_) (fun h1 => ?_)
    · rw [← hQ]
      exact r_vret hc hr hlk τ ((show i = ns by omega) ▸ hK) rfl dX2_drawFromSubgroup_34
    · refine r_aload_n hc dX2_drawFromSubgroup_13 rfl 1 rfl ?_
      refine r_aload_n hc dX2_drawFromSubgroup_14 rfl 1 rfl ?_
      refine r_getR hc inlX2 (hro _ (List.mem_of_getElem? (i := 0) rfl)) rfl 2 (by decide) fl_X2_19 rfl rfl dX2_drawFromSubgroup_15 ?_
      refine r_getRN hc inlX4 (hro _ (List.mem_cons_of_mem _ (List.mem_append_right _ (List.mem_of_getElem? (i := 0) rfl)))) rfl 0 (by decide) nf_X2_34 rfl rfl dX2_drawFromSubgroup_18 ?_
      refine r_iload_n hc dX2_drawFromSubgroup_21 rfl 0 rfl ?_
      refine r_aldR hc (hro _ (List.mem_cons_of_mem _ (List.mem_append_right _ (List.mem_of_getElem? (i := 1) rfl)))) (by omega) (by decide) rfl dX2_drawFromSubgroup_22 ?_
      refine r_iconst (v := (nI 0)) hc dX2_drawFromSubgroup_23 rfl ?_
      refine r_iconst (v := (nI 0)) hc dX2_drawFromSubgroup_24 rfl ?_
      obtain ⟨hPC, h0M⟩ := hpre i τ h1 hK
      obtain ⟨l1, l2, l3⟩ := hsl i h1
      refine r_callV (As := [.ref (swa i), .int (nI 0), .int (nI 0)]) (n := 3) (wr := []) hc (c_close l D cI cZ cW h aE aL aF aR aS τ hi hr1 hs1 (swa i) (sca i) (scol i) (slen i) 0 0 l2 l1 l3 h0M hPC) co_yX2_close in_X2 ml_X2_38 (by decide +kernel) rfl ⟨by decide, by decide⟩ ⟨by decide, by decide⟩ im_yX2_close se_yX2_close rfl (Or.inr ⟨_, (hro _ (List.mem_of_getElem? (i := 0) rfl))⟩) rfl (Nat.le_of_ble_eq_true rfl) [0, 1, 2, 3, 4, 5] [] rfl rfl rfl rfl (by decide) (fun q hq => Or.inr ((List.mem_cons.mp hq).elim (fun z => z ▸ hro _ (List.mem_of_getElem? (i := 0) rfl)) (fun hq => hro q (List.mem_cons_of_mem _ (List.mem_append_right _ (wL_word (by omega) hq)))))) dX2_drawFromSubgroup_25 (fun u e2 => ?_)
      show V p l e (RM 4 101 0 0) s m args below meth c D A 2 0 0 Q (wS cI cZ h aE aL aF aR aS u) 28 [(1, .int (nI i)), (0, .ref hi)] []
      refine r_iinc (k := 0) (v := (nI (i + 1))) (lv' := [(1, .int (nI (i + 1))), (0, .ref hi)]) hc dX2_drawFromSubgroup_28 rfl (nI_add _ _) (by decide) rfl ?_
      refine r_goto hc 2 dX2_drawFromSubgroup_31 (by decide) ?_
      refine r_lv [0, 1] rfl ?_
      exact ih2 _ (by omega) u (i + 1) rfl (by omega) (hstep i τ u h1 hK e2)
  refine r_lv [0, 1] rfl ?_
  exact lp2 _ σ 0 rfl (Nat.zero_le _) hK0
end
section
set_option maxHeartbeats 4000000 in
set_option maxRecDepth 100000 in
/-- drawFrom(c0) -/
theorem c_drawFrom (l : Launch) (D : va_G) (cI cZ cW : ClassId) (h aE aL aF aR aS : Nat) (σ : CS) (hi hr1 hs1 ar as : Nat) (rwa rca : Nat → Nat) (rcol : Nat → Nat → Nat) (rlen : Nat → Nat) (nr : Nat) (swa sca : Nat → Nat) (scol : Nat → Nat → Nat) (slen : Nat → Nat) (ns : Nat) (hrl : ∀ i, i < nr → 1 ≤ rlen i ∧ rlen i ≤ 24 ∧ ∀ j, rcol i j < 6) (hnr : nr ≤ 10) (hsl : ∀ i, i < ns → 1 ≤ slen i ∧ slen i ≤ 24 ∧ ∀ j, scol i j < 6) (hns : ns ≤ 5) (c0 : Nat) (hc0 : c0 < 200) (K1 K2 : Nat → CS → Prop) (M : CS → Prop) (μ : CS → Nat) (J : CS → Nat → Nat → CS → Prop) (K3 : CS → Nat → CS → Prop)
  (hK1 : K1 0 σ) (hK1q : ∀ i τ, i < nr → K1 i τ → PreC τ ∧ c0 < sM τ)
  (hK1s : ∀ i τ u, i < nr → K1 i τ → liv τ c0 = true → CloseR τ (rcol i) (rlen i) 0 c0 u → K1 (i + 1) u)
  (hK12 : ∀ i τ, i ≤ nr → K1 i τ → (i = nr ∨ liv τ c0 = false) → K2 0 τ)
  (hK2p : ∀ i τ, i < ns → K2 i τ → PreC τ ∧ 0 < sM τ)
  (hK2s : ∀ i τ u, i < ns → K2 i τ → CloseR τ (scol i) (slen i) 0 0 u → K2 (i + 1) u)
  (hK2e : ∀ τ, K2 ns τ → M τ ∧ μ τ < 1000000) (hM : ∀ τ, M τ → BD τ ∧ sRc τ ≤ μ τ)
  (hJ0 : ∀ τ, M τ → 0 < sRc τ → J τ 0 0 (fTake τ))
  (hJB : ∀ τ ρ, M τ → J τ nr 0 ρ → BD ρ)
  (hJp : ∀ τ i n ρ, M τ → i < nr → n < rlen i → J τ i n ρ → PreC ρ ∧ sR τ (sRc τ - 1) / 6 < sM ρ)
  (hJ1 : ∀ τ i n ρ d u, M τ → i < nr → n < rlen i → J τ i n ρ → sE ρ (sR τ (sRc τ - 1) / 6 * 6 + sR τ (sRc τ - 1) % 6) = some d → rcol i n = sR τ (sRc τ - 1) % 6 → CloseR ρ (rcol i) (rlen i) n (sR τ (sRc τ - 1) / 6) u → J τ i (n + 1) u)
  (hJ2 : ∀ τ i n ρ d u, M τ → i < nr → n < rlen i → J τ i n ρ → sE ρ (sR τ (sRc τ - 1) / 6 * 6 + sR τ (sRc τ - 1) % 6) = some d → rcol i n ≠ sR τ (sRc τ - 1) % 6 → rcol i n = sR τ (sRc τ - 1) % 6 ^^^ 1 → CloseR ρ (rcol i) (rlen i) n d u → J τ i (n + 1) u)
  (hJ3 : ∀ τ i n ρ d, M τ → i < nr → n < rlen i → J τ i n ρ → sE ρ (sR τ (sRc τ - 1) / 6 * 6 + sR τ (sRc τ - 1) % 6) = some d → rcol i n ≠ sR τ (sRc τ - 1) % 6 → rcol i n ≠ sR τ (sRc τ - 1) % 6 ^^^ 1 → J τ i (n + 1) ρ)
  (hJn : ∀ τ i n ρ, M τ → i < nr → n ≤ rlen i → J τ i n ρ → (n = rlen i ∨ sE ρ (sR τ (sRc τ - 1) / 6 * 6 + sR τ (sRc τ - 1) % 6) = none) → J τ (i + 1) 0 ρ)
  (hJe : ∀ τ ρ, M τ → J τ nr 0 ρ → 0 < sRc ρ → M ρ ∧ μ ρ < μ τ)
  (hJ4 : ∀ τ ρ, M τ → J τ nr 0 ρ → sRc ρ = 0 → K3 τ 0 ρ)
  (hK3p : ∀ τ i ρ, M τ → i < ns → K3 τ i ρ → PreC ρ ∧ 0 < sM ρ)
  (hK3s : ∀ τ i ρ u, M τ → i < ns → K3 τ i ρ → CloseR ρ (scol i) (slen i) 0 0 u → K3 τ (i + 1) u)
  (hK3e : ∀ τ u, M τ → K3 τ ns u → M u ∧ μ u < μ τ) : CtV l yX2_drawFrom cX2_drawFrom 5 none 5 126 0 0 D cI cZ cW [.ref hi, .int (nI c0)] (wS cI cZ h aE aL aF aR aS σ) ((hi, .inr (2, [.ref h, .ref hr1, .ref hs1])) :: (wL cI cW hr1 ar 10 rwa rca rcol rlen nr ++ wL cI cW hs1 as 5 swa sca scol slen ns)) (S := CS) (fun u => M u ∧ sRc u = 0) (fun u => wS cI cZ h aE aL aF aR aS u) := by
  refine CtV.mk (by decide) (Nat.le_of_ble_eq_true rfl) ?_
  intro p e s m args below meth c A hc hr hlk hnm hro
  generalize hQ : MQ below _ args s 0 0 A = Q
  show V p l e (RM 5 126 0 0) s m args below meth c D A 5 0 0 Q (wS cI cZ h aE aL aF aR aS σ) 0 [(0, .ref hi), (1, .int (nI c0))] []
  have lp45 : ∀ (τ : CS), K2 0 τ → V p l e (RM 5 126 0 0) s m args below meth c D A 5 0 0 Q (wS cI cZ h aE aL aF aR aS τ) 45 [(0, .ref hi), (1, .int (nI c0))] [] := by
    intro τ hK
    refine r_aload_n hc dX2_drawFrom_45 rfl 0 rfl ?_
    refine r_callV (As := []) (n := 0) (wr := []) hc (c_drawSub l D cI cZ cW h aE aL aF aR aS τ hi hr1 hs1 ar as rwa rca rcol rlen nr swa sca scol slen ns hrl hnr hsl hns K2 hK hK2p hK2s) co_yX2_drawFromSubgroup in_X2 ml_X2_42 (by decide +kernel) rfl ⟨by decide, by decide⟩ ⟨by decide, by decide⟩ im_yX2_drawFromSubgroup se_yX2_drawFromSubgroup rfl (Or.inr ⟨_, (hro _ (List.mem_of_getElem? (i := 0) rfl))⟩) rfl (Nat.le_of_ble_eq_true rfl) [0, 1, 2, 3, 4, 5] [] rfl rfl rfl rfl (by decide) (fun q hq => Or.inr (hro q hq)) dX2_drawFrom_46 (fun u e1 => ?_)
    show V p l e (RM 5 126 0 0) s m args below meth c D A 5 0 0 Q (wS cI cZ h aE aL aF aR aS u) 49 [(0, .ref hi), (1, .int (nI c0))] []
    obtain ⟨hMu, hmu⟩ := hK2e u e1
    refine r_iconst (v := (nI 0)) hc dX2_drawFrom_49 rfl ?_
    refine r_istore_n (lv' := [(2, .int (nI 0)), (0, .ref hi), (1, .int (nI c0))]) hc dX2_drawFrom_50 rfl (by decide) rfl ?_
    have lp51 : ∀ (n : Nat) (τ : CS) (i : Nat), 1000000 - i = n → (M τ) → (i + μ τ < 1000000) → V p l e (RM 5 126 0 0) s m args below meth c D A 5 0 0 Q (wS cI cZ h aE aL aF aR aS τ) 51 [(2, .int (nI i)), (0, .ref hi), (1, .int (nI c0))] [] := by
      intro n
      induction n using Nat.strongRecOn with
      | _ n ih51 =>
      intro τ i hm51 hMt hiμ
      obtain ⟨hBt, hrt⟩ := hM τ hMt
      obtain ⟨tM, tC, tL, tF, tR, tE, tRc, tFc, tV, tO⟩ := id hBt
      refine r_iload_n hc dX2_drawFrom_51 rfl 0 rfl ?_
      refine r_ldc hc cn_X2_45 dX2_drawFrom_52 ?_
      rw [show (1000000 : Int32) = nI 1000000 from rfl]
      refine n_icmp_ge hc 138 dX2_drawFrom_54 (by decide) (by omega) (by omega) (fun h2 => ?_) (fun h2 => ?_)
      · exact absurd h2 (by omega)
      · refine r_aload_n hc dX2_drawFrom_57 rfl 1 rfl ?_
        refine r_getR hc inlX2 (hro _ (List.mem_of_getElem? (i := 0) rfl)) rfl 0 (by decide) fl_X2_9 rfl rfl dX2_drawFrom_58 ?_
        refine r_getN hc inlX1 0 rfl rfl 6 (by decide) nf_X2_46 rfl rfl dX2_drawFrom_61 ?_
        refine n_if_le hc 138 dX2_drawFrom_64 (by decide) (by omega) (fun h3 => ?_) (fun h3 => ?_)
        · rw [← hQ]
          exact r_vret hc hr hlk τ ⟨hMt, h3⟩ rfl dX2_drawFrom_138
        · refine r_aload_n hc dX2_drawFrom_67 rfl 1 rfl ?_
          refine r_getR hc inlX2 (hro _ (List.mem_of_getElem? (i := 0) rfl)) rfl 0 (by decide) fl_X2_9 rfl rfl dX2_drawFrom_68 ?_
          refine r_callI (As := []) (n := 0) (wr := []) hc (c_takeFresh l D cI cZ cW h aE aL aF aR aS τ h3 hBt) co_yX1_takeFresh in_X1 ml_X2_49 (by decide +kernel) rfl ⟨by decide, by decide⟩ ⟨by decide, by decide⟩ im_yX1_takeFresh se_yX1_takeFresh rfl (Or.inl ⟨0, _, rfl⟩) rfl (Nat.le_of_ble_eq_true rfl) [0, 1, 2, 3, 4, 5] [] rfl rfl rfl rfl (by decide) (fun q hq => absurd hq List.not_mem_nil) dX2_drawFrom_71 (fun r u1 e4 => ?_)
          show V p l e (RM 5 126 0 0) s m args below meth c D A 5 0 0 Q (wS cI cZ h aE aL aF aR aS u1) 74 [(2, .int (nI i)), (0, .ref hi), (1, .int (nI c0))] [.int r]
          obtain ⟨rfl, rfl⟩ := e4
          show V p l e (RM 5 126 0 0) s m args below meth c D A 5 0 0 Q (wS cI cZ h aE aL aF aR aS (fTake τ)) 74 [(2, .int (nI i)), (0, .ref hi), (1, .int (nI c0))] [.int (nI (sR τ (sRc τ - 1)))]
          have hPb := tR (sRc τ - 1)
          refine r_istore_n (lv' := [(3, .int (nI (sR τ (sRc τ - 1)))), (2, .int (nI i)), (0, .ref hi), (1, .int (nI c0))]) hc dX2_drawFrom_74 rfl (by decide) rfl ?_
          refine r_iconst (v := (nI 0)) hc dX2_drawFrom_75 rfl ?_
          refine r_istore (lv' := [(4, .int (nI 0)), (3, .int (nI (sR τ (sRc τ - 1)))), (2, .int (nI i)), (0, .ref hi), (1, .int (nI c0))]) hc dX2_drawFrom_76 (by decide) rfl ?_
          have lp78 : ∀ (n : Nat) (ρ : CS) (k : Nat), nr - k = n → (k ≤ nr) → (J τ k 0 ρ) → V p l e (RM 5 126 0 0) s m args below meth c D A 5 0 0 Q (wS cI cZ h aE aL aF aR aS ρ) 78 [(4, .int (nI k)), (3, .int (nI (sR τ (sRc τ - 1)))), (2, .int (nI i)), (0, .ref hi), (1, .int (nI c0))] [] := by
            intro n
            induction n using Nat.strongRecOn with
            | _ n ih78 =>
            intro ρ k hm78 hk1 hJk
            refine r_iload hc dX2_drawFrom_78 0 rfl ?_
            refine r_aload_n hc dX2_drawFrom_80 rfl 3 rfl ?_
            refine r_getR hc inlX2 (hro _ (List.mem_of_getElem? (i := 0) rfl)) rfl 1 (by decide) fl_X2_15 rfl rfl dX2_drawFrom_81 ?_
            refine r_getRN hc inlX4 (hro _ (List.mem_of_getElem? (i := 1) rfl)) rfl 1 (by decide) nf_X2_22 rfl rfl dX2_drawFrom_84 ?_
            refine n_icmp_ge hc 118 dX2_drawFrom_87 (by decide) (by omega) (by omega) (fun h5 => ?_) (fun h5 => ?_)
            · have hJr : J τ nr 0 ρ := (show k = nr by omega) ▸ hJk
              have hBr := hJB τ ρ hMt hJr
              obtain ⟨pM, pC, pL, pF, pR, pE, pRc, pFc, pV, pO⟩ := id hBr
              refine r_aload_n hc dX2_drawFrom_118 rfl 3 rfl ?_
              refine r_getR hc inlX2 (hro _ (List.mem_of_getElem? (i := 0) rfl)) rfl 0 (by decide) fl_X2_9 rfl rfl dX2_drawFrom_119 ?_
              refine r_getN hc inlX1 0 rfl rfl 6 (by decide) nf_X2_46 rfl rfl dX2_drawFrom_122 ?_
              refine n_if_ne hc 132 dX2_drawFrom_125 (by decide) (by omega) (fun h6 => ?_) (fun h6 => ?_)
              · have hN := hJe τ ρ hMt hJr (by omega)
                refine r_iinc (k := 2) (v := (nI (i + 1))) (lv' := [(2, .int (nI (i + 1))), (4, .int (nI k)), (3, .int (nI (sR τ (sRc τ - 1)))), (0, .ref hi), (1, .int (nI c0))]) hc dX2_drawFrom_132 rfl (nI_add _ _) (by decide) rfl ?_
                refine r_goto hc 51 dX2_drawFrom_135 (by decide) ?_
                refine r_lv [0, 3, 4] rfl ?_
                exact ih51 _ (by omega) ρ (i + 1) rfl hN.1 (by have := hN.2; omega)
              · refine r_aload_n hc dX2_drawFrom_128 rfl 3 rfl ?_
                refine r_callV (As := []) (n := 0) (wr := []) hc (c_drawSub l D cI cZ cW h aE aL aF aR aS ρ hi hr1 hs1 ar as rwa rca rcol rlen nr swa sca scol slen ns hrl hnr hsl hns (fun i ρ => K3 τ i ρ) (hJ4 τ ρ hMt hJr h6) (fun i ρ q => hK3p τ i ρ hMt q) (fun i ρ u q => hK3s τ i ρ u hMt q)) co_yX2_drawFromSubgroup in_X2 ml_X2_42 (by decide +kernel) rfl ⟨by decide, by decide⟩ ⟨by decide, by decide⟩ im_yX2_drawFromSubgroup se_yX2_drawFromSubgroup rfl (Or.inr ⟨_, (hro _ (List.mem_of_getElem? (i := 0) rfl))⟩) rfl (Nat.le_of_ble_eq_true rfl) [0, 1, 2, 3, 4, 5] [] rfl rfl rfl rfl (by decide) (fun q hq => Or.inr (hro q hq)) dX2_drawFrom_129 (fun u3 e7 => ?_)
                show V p l e (RM 5 126 0 0) s m args below meth c D A 5 0 0 Q (wS cI cZ h aE aL aF aR aS u3) 132 [(4, .int (nI k)), (3, .int (nI (sR τ (sRc τ - 1)))), (2, .int (nI i)), (0, .ref hi), (1, .int (nI c0))] []
                have hN := hK3e τ u3 hMt e7
                refine r_iinc (k := 2) (v := (nI (i + 1))) (lv' := [(2, .int (nI (i + 1))), (4, .int (nI k)), (3, .int (nI (sR τ (sRc τ - 1)))), (0, .ref hi), (1, .int (nI c0))]) hc dX2_drawFrom_132 rfl (nI_add _ _) (by decide) rfl ?_
                refine r_goto hc 51 dX2_drawFrom_135 (by decide) ?_
                refine r_lv [0, 3, 4] rfl ?_
                exact ih51 _ (by omega) u3 (i + 1) rfl hN.1 (by have := hN.2; omega)
            · refine r_aload_n hc dX2_drawFrom_90 rfl 3 rfl ?_
              refine r_iload_n hc dX2_drawFrom_91 rfl 1 rfl ?_
              refine r_bipush (v := (nI 6)) hc dX2_drawFrom_92 rfl ?_
              refine n_div hc dX2_drawFrom_94 (by omega) (by decide) (by decide) ?_
              refine r_iload_n hc dX2_drawFrom_95 rfl 1 rfl ?_
              refine r_bipush (v := (nI 6)) hc dX2_drawFrom_96 rfl ?_
              refine n_rem hc dX2_drawFrom_98 (by omega) (by decide) (by decide) ?_
              refine r_aload_n hc dX2_drawFrom_99 rfl 3 rfl ?_
              refine r_getR hc inlX2 (hro _ (List.mem_of_getElem? (i := 0) rfl)) rfl 1 (by decide) fl_X2_15 rfl rfl dX2_drawFrom_100 ?_
              refine r_getRN hc inlX4 (hro _ (List.mem_of_getElem? (i := 1) rfl)) rfl 0 (by decide) nf_X2_34 rfl rfl dX2_drawFrom_103 ?_
              refine r_iload hc dX2_drawFrom_106 0 rfl ?_
              refine r_aldR hc (hro _ (List.mem_of_getElem? (i := 2) rfl)) (by omega) (by decide) rfl dX2_drawFrom_108 ?_
              obtain ⟨l1, l2, l3⟩ := hrl k h5
              refine r_callV (As := [.int (nI ((sR τ (sRc τ - 1)) / 6)), .int (nI ((sR τ (sRc τ - 1)) % 6)), .ref (rwa k)]) (n := 3) (wr := []) hc (c_drawThrough l D cI cZ cW h aE aL aF aR aS ρ hi hr1 hs1 (rwa k) (rca k) (rcol k) (rlen k) (sR τ (sRc τ - 1) / 6) (sR τ (sRc τ - 1) % 6) (by omega) l2 l3 (fun n ρ => J τ k n ρ) hJk (fun n ρ q => hJp τ k n ρ hMt h5 q) (fun n ρ d u q => hJ1 τ k n ρ d u hMt h5 q) (fun n ρ d u q => hJ2 τ k n ρ d u hMt h5 q) (fun n ρ d q => hJ3 τ k n ρ d hMt h5 q)) co_yX2_drawThrough in_X2 ml_X2_53 (by decide +kernel) rfl ⟨by decide, by decide⟩ ⟨by decide, by decide⟩ im_yX2_drawThrough se_yX2_drawThrough rfl (Or.inr ⟨_, (hro _ (List.mem_of_getElem? (i := 0) rfl))⟩) rfl (Nat.le_of_ble_eq_true rfl) [0, 1, 2, 3, 4, 5] [] rfl rfl rfl rfl (by decide) (fun q hq => Or.inr ((List.mem_cons.mp hq).elim (fun z => z ▸ hro _ (List.mem_of_getElem? (i := 0) rfl)) (fun hq => hro q (List.mem_cons_of_mem _ (List.mem_append_left _ (wL_word (by omega) hq)))))) dX2_drawFrom_109 (fun u2 e8 => ?_)
              show V p l e (RM 5 126 0 0) s m args below meth c D A 5 0 0 Q (wS cI cZ h aE aL aF aR aS u2) 112 [(4, .int (nI k)), (3, .int (nI (sR τ (sRc τ - 1)))), (2, .int (nI i)), (0, .ref hi), (1, .int (nI c0))] []
              have hJu : J τ (k + 1) 0 u2 := e8.elim (fun q => hJn τ k _ u2 hMt h5 (Nat.le_refl _) q (Or.inl rfl)) (fun ⟨n, q1, q2, q3⟩ => hJn τ k n u2 hMt h5 (Nat.le_of_lt q1) q2 (Or.inr q3))
              refine r_iinc (k := 0) (v := (nI (k + 1))) (lv' := [(4, .int (nI (k + 1))), (3, .int (nI (sR τ (sRc τ - 1)))), (2, .int (nI i)), (0, .ref hi), (1, .int (nI c0))]) hc dX2_drawFrom_112 rfl (nI_add _ _) (by decide) rfl ?_
              refine r_goto hc 78 dX2_drawFrom_115 (by decide) ?_
              refine r_lv [0, 1, 2, 3, 4] rfl ?_
              exact ih78 _ (by omega) u2 (k + 1) rfl (by omega) hJu
          refine r_lv [0, 1, 2, 3, 4] rfl ?_
          exact lp78 _ (fTake τ) 0 rfl (Nat.zero_le _) (hJ0 τ hMt h3)
    refine r_lv [0, 1, 2] rfl ?_
    exact lp51 _ u 0 rfl hMu (by omega)
  refine r_iconst (v := (nI 0)) hc dX2_drawFrom_0 rfl ?_
  refine r_istore_n (lv' := [(2, .int (nI 0)), (0, .ref hi), (1, .int (nI c0))]) hc dX2_drawFrom_1 rfl (by decide) rfl ?_
  have lp2 : ∀ (n : Nat) (τ : CS) (i : Nat), nr - i = n → (i ≤ nr) → (K1 i τ) → V p l e (RM 5 126 0 0) s m args below meth c D A 5 0 0 Q (wS cI cZ h aE aL aF aR aS τ) 2 [(2, .int (nI i)), (0, .ref hi), (1, .int (nI c0))] [] := by
    intro n
    induction n using Nat.strongRecOn with
    | _ n ih2 =>
    intro τ i hm2 hi1 hK
    refine r_iload_n hc dX2_drawFrom_2 rfl 0 rfl ?_
    refine r_aload_n hc dX2_drawFrom_3 rfl 1 rfl ?_
    refine r_getR hc inlX2 (hro _ (List.mem_of_getElem? (i := 0) rfl)) rfl 1 (by decide) fl_X2_15 rfl rfl dX2_drawFrom_4 ?_
    refine r_getRN hc inlX4 (hro _ (List.mem_of_getElem? (i := 1) rfl)) rfl 1 (by decide) nf_X2_22 rfl rfl dX2_drawFrom_7 ?_
    refine n_icmp_ge hc 45 dX2_drawFrom_10 (by decide) (by omega) (by omega) (fun h9 => ?_) (fun h9 => ?_)
    · refine r_lv [1, 2] rfl ?_
      exact lp45 τ (hK12 i τ hi1 hK (Or.inl (by omega)))
    · obtain ⟨hPC, hcM⟩ := hK1q i τ h9 hK
      refine r_aload_n hc dX2_drawFrom_13 rfl 1 rfl ?_
      refine r_getR hc inlX2 (hro _ (List.mem_of_getElem? (i := 0) rfl)) rfl 0 (by decide) fl_X2_9 rfl rfl dX2_drawFrom_14 ?_
      refine r_iload_n hc dX2_drawFrom_17 rfl 2 rfl ?_
      refine r_callI (As := [.int (nI c0)]) (n := 1) (wr := wS cI cZ h aE aL aF aR aS τ) hc (c_lives l D cI cZ cW h aE aL aF aR aS τ (nI c0) hPC.1) co_yX1_lives in_X1 ml_X2_28 (by decide +kernel) rfl ⟨by decide, by decide⟩ ⟨by decide, by decide⟩ im_yX1_lives se_yX1_lives rfl (Or.inl ⟨0, _, rfl⟩) rfl (Nat.le_of_ble_eq_true rfl) [] [0, 1, 2, 3, 4, 5] rfl rfl rfl rfl (by decide) (fun q hq => Or.inl ((List.getElem?_of_mem hq).elim fun k hk => ⟨k, hk, List.not_mem_nil⟩)) dX2_drawFrom_18 (fun r10 u11 e12 => ?_)
      subst e12
      rw [livI_n _ (by omega)]
      refine z_if_eq hc 45 dX2_drawFrom_21 (by decide) (fun h13 => ?_) (fun h13 => ?_)
      · refine r_lv [1, 2] rfl ?_
        exact lp45 τ (hK12 i τ hi1 hK (Or.inr h13))
      · refine r_aload_n hc dX2_drawFrom_24 rfl 1 rfl ?_
        refine r_aload_n hc dX2_drawFrom_25 rfl 1 rfl ?_
        refine r_getR hc inlX2 (hro _ (List.mem_of_getElem? (i := 0) rfl)) rfl 1 (by decide) fl_X2_15 rfl rfl dX2_drawFrom_26 ?_
        refine r_getRN hc inlX4 (hro _ (List.mem_of_getElem? (i := 1) rfl)) rfl 0 (by decide) nf_X2_34 rfl rfl dX2_drawFrom_29 ?_
        refine r_iload_n hc dX2_drawFrom_32 rfl 0 rfl ?_
        refine r_aldR hc (hro _ (List.mem_of_getElem? (i := 2) rfl)) (by omega) (by decide) rfl dX2_drawFrom_33 ?_
        refine r_iconst (v := (nI 0)) hc dX2_drawFrom_34 rfl ?_
        refine r_iload_n hc dX2_drawFrom_35 rfl 2 rfl ?_
        obtain ⟨l1, l2, l3⟩ := hrl i h9
        refine r_callV (As := [.ref (rwa i), .int (nI 0), .int (nI c0)]) (n := 3) (wr := []) hc (c_close l D cI cZ cW h aE aL aF aR aS τ hi hr1 hs1 (rwa i) (rca i) (rcol i) (rlen i) 0 c0 l2 l1 l3 hcM hPC) co_yX2_close in_X2 ml_X2_38 (by decide +kernel) rfl ⟨by decide, by decide⟩ ⟨by decide, by decide⟩ im_yX2_close se_yX2_close rfl (Or.inr ⟨_, (hro _ (List.mem_of_getElem? (i := 0) rfl))⟩) rfl (Nat.le_of_ble_eq_true rfl) [0, 1, 2, 3, 4, 5] [] rfl rfl rfl rfl (by decide) (fun q hq => Or.inr ((List.mem_cons.mp hq).elim (fun z => z ▸ hro _ (List.mem_of_getElem? (i := 0) rfl)) (fun hq => hro q (List.mem_cons_of_mem _ (List.mem_append_left _ (wL_word (by omega) hq)))))) dX2_drawFrom_36 (fun u e14 => ?_)
        show V p l e (RM 5 126 0 0) s m args below meth c D A 5 0 0 Q (wS cI cZ h aE aL aF aR aS u) 39 [(2, .int (nI i)), (0, .ref hi), (1, .int (nI c0))] []
        refine r_iinc (k := 0) (v := (nI (i + 1))) (lv' := [(2, .int (nI (i + 1))), (0, .ref hi), (1, .int (nI c0))]) hc dX2_drawFrom_39 rfl (nI_add _ _) (by decide) rfl ?_
        refine r_goto hc 2 dX2_drawFrom_42 (by decide) ?_
        refine r_lv [0, 1, 2] rfl ?_
        exact ih2 _ (by omega) u (i + 1) rfl (by omega) (hK1s i τ u h9 hK h13 e14)
  refine r_lv [0, 1, 2] rfl ?_
  exact lp2 _ σ 0 rfl (Nat.zero_le _) hK1
end
section
/-! Action: numbers, names, seen, reached, size -/
abbrev AS : Type := (Nat → Option Nat) × (Nat → Nat) × (Nat → Bool) × (Nat → Nat) × Nat
def tU (α : AS) : Nat → Option Nat := α.1
def tN (α : AS) : Nat → Nat := α.2.1
def tS (α : AS) : Nat → Bool := α.2.2.1
def tR (α : AS) : Nat → Nat := α.2.2.2.1
def tZ (α : AS) : Nat := α.2.2.2.2
abbrev wB (cI cZ : ClassId) (ha h hs1 aU aN aT aG : Nat) (nu : Nat → Option Nat) (na : Nat → Nat) (se : Nat → Bool) (re : Nat → Nat) (z : Nat) : va_W := [(ha, .inr (0, [.ref h, .ref hs1, .ref aU, .ref aN, .ref aT, .ref aG, .int (nI z)])), (aU, .inl (cI, 200, .inl (fun j => eI (nu j)))), (aN, .inl (cI, 200, .inl (fun j => nI (na j)))), (aT, .inl (cZ, 200, .inl (fun j => zI (se j)))), (aG, .inl (cI, 200, .inl (fun j => nI (re j))))]
abbrev wA (cI cZ : ClassId) (ha h hs1 aU aN aT aG : Nat) (α : AS) : va_W := wB cI cZ ha h hs1 aU aN aT aG (tU α) (tN α) (tS α) (tR α) (tZ α)
def BA (α : AS) : Prop := tZ α ≤ 200 ∧ (∀ i, tN α i < 200) ∧ (∀ i d, tU α i = some d → d < 200) ∧ ∀ i, tR α i < 200
/-- where a word leads, by numbers -/
def Img (e : Nat → Option Nat) (nu : Nat → Option Nat) (na : Nat → Nat) (col : Nat → Nat) (len c d : Nat) : Prop := (∀ i, i ≤ len → ∃ p, p < 200 ∧ pth e col (na c) i = some p) ∧ ∃ p, pth e col (na c) len = some p ∧ nu p = some d
set_option maxHeartbeats 4000000 in
set_option maxRecDepth 100000 in
/-- isReady() -/
theorem c_isReady (l : Launch) (D : va_G) (cI cZ cW : ClassId) (ha h hs1 aU aN aT aG : Nat) (α : AS) (hB : BA α) : CtI l yX0_isReady cX0_isReady 1 (some .boolean) 0 0 0 0 D cI cZ cW [.ref ha] ([]) (wA cI cZ ha h hs1 aU aN aT aG α) (S := Unit) (fun r _ => r = zI (decide (0 < tZ α))) (fun _ => []) := by
  refine CtI.mk (by decide) (Nat.le_of_ble_eq_true rfl) ?_
  intro p e s m args below meth c A hc hr hlk hnm hro
  generalize hQ : MQ below _ args s 0 0 A = Q
  have hB0 := hB
  obtain ⟨bZ, bN, bU, bG⟩ := hB
  show V p l e (RM 0 0 0 0) s m args below meth c D A 1 0 0 Q ([]) 0 [(0, .ref ha)] []
  refine r_aload_n hc dX0_isReady_0 rfl 0 rfl ?_
  refine r_getR hc inlX0 (hro _ (List.mem_of_getElem? (i := 0) rfl)) rfl 6 (by decide) fl_X0_33 rfl rfl dX0_isReady_1 ?_
  refine n_if_le hc 11 dX0_isReady_4 (by decide) (by omega) (fun h1 => ?_) (fun h1 => ?_)
  · refine r_iconst (v := (nI 0)) hc dX0_isReady_11 rfl ?_
    rw [← hQ]
    refine r_zret (b := false) hc hr hlk () (congrArg zI ?_) rfl dX0_isReady_12
    simp; omega
  · refine r_iconst (v := (nI 1)) hc dX0_isReady_7 rfl ?_
    refine r_goto hc 12 dX0_isReady_8 (by decide) ?_
    rw [← hQ]
    refine r_zret (b := true) hc hr hlk () (congrArg zI ?_) rfl dX0_isReady_12
    simp; omega
def inN (z : Nat) (v : Int32) : Bool := if v < 0 then false else decide (v.toNatClampNeg < z)
theorem inN_n {z k : Nat} (hk : k < 2 ^ 31) : inN z (nI k) = decide (k < z) := by rw [inN, if_neg (nI_pos hk), nI_clamp hk]
set_option maxHeartbeats 4000000 in
set_option maxRecDepth 100000 in
/-- hasNumber(v) -/
theorem c_hasNumber (l : Launch) (D : va_G) (cI cZ cW : ClassId) (ha h hs1 aU aN aT aG : Nat) (α : AS) (v : Int32) (hB : BA α) : CtI l yX0_hasNumber cX0_hasNumber 2 (some .boolean) 0 0 0 0 D cI cZ cW [.ref ha, .int v] ([]) (wA cI cZ ha h hs1 aU aN aT aG α) (S := Unit) (fun r _ => r = zI (inN (tZ α) v)) (fun _ => []) := by
  refine CtI.mk (by decide) (Nat.le_of_ble_eq_true rfl) ?_
  intro p e s m args below meth c A hc hr hlk hnm hro
  generalize hQ : MQ below _ args s 0 0 A = Q
  have hB0 := hB
  obtain ⟨bZ, bN, bU, bG⟩ := hB
  show V p l e (RM 0 0 0 0) s m args below meth c D A 2 0 0 Q ([]) 0 [(0, .ref ha), (1, .int v)] []
  refine r_iload_n hc dX0_hasNumber_0 rfl 1 rfl ?_
  refine r_if_lt hc 16 dX0_hasNumber_1 (by decide) (fun h1 => ?_) (fun h1 => ?_)
  · refine r_iconst (v := (nI 0)) hc dX0_hasNumber_16 rfl ?_
    rw [← hQ]
    refine r_zret (b := false) hc hr hlk () (congrArg zI ?_) rfl dX0_hasNumber_17
    first | (simp [inN, *]; done) | (rw [inN_n hk]; simp; omega)
  · obtain ⟨k, hk, rfl⟩ := nI_of h1
    show V p l e (RM 0 0 0 0) s m args below meth c D A 2 0 0 Q ([]) 4 [(0, .ref ha), (1, .int (nI k))] []
    refine r_iload_n hc dX0_hasNumber_4 rfl 1 rfl ?_
    refine r_aload_n hc dX0_hasNumber_5 rfl 0 rfl ?_
    refine r_getR hc inlX0 (hro _ (List.mem_of_getElem? (i := 0) rfl)) rfl 6 (by decide) fl_X0_33 rfl rfl dX0_hasNumber_6 ?_
    refine n_icmp_ge hc 16 dX0_hasNumber_9 (by decide) (by omega) (by omega) (fun h2 => ?_) (fun h2 => ?_)
    · refine r_iconst (v := (nI 0)) hc dX0_hasNumber_16 rfl ?_
      rw [← hQ]
      refine r_zret (b := false) hc hr hlk () (congrArg zI ?_) rfl dX0_hasNumber_17
      first | (simp [inN, *]; done) | (rw [inN_n hk]; simp; omega)
    · refine r_iconst (v := (nI 1)) hc dX0_hasNumber_12 rfl ?_
      refine r_goto hc 17 dX0_hasNumber_13 (by decide) ?_
      rw [← hQ]
      refine r_zret (b := true) hc hr hlk () (congrArg zI ?_) rfl dX0_hasNumber_17
      first | (simp [inN, *]; done) | (rw [inN_n hk]; simp; omega)
set_option maxHeartbeats 4000000 in
set_option maxRecDepth 100000 in
/-- letterImage(k, x0) -/
theorem c_letterImage (l : Launch) (D : va_G) (cI cZ cW : ClassId) (ha h hs1 aU aN aT aG : Nat) (α : AS) (aE aL aF aR aS : Nat) (σ : CS) (k x0 d1 d2 : Nat) (hk : k < 200) (hx : x0 < 6) (hd1 : sE σ (tN α k * 6 + x0) = some d1) (hd1b : d1 < 200) (hd2 : tU α d1 = some d2) (hB : BA α) : CtI l yX0_letterImage cX0_letterImage 3 (some .int) 1 22 0 0 D cI cZ cW [.ref ha, .int (nI k), .int (nI x0)] ([]) (wA cI cZ ha h hs1 aU aN aT aG α ++ wS cI cZ h aE aL aF aR aS σ) (S := Unit) (fun r _ => r = nI d2) (fun _ => []) := by
  refine CtI.mk (by decide) (Nat.le_of_ble_eq_true rfl) ?_
  intro p e s m args below meth c A hc hr hlk hnm hro
  generalize hQ : MQ below _ args s 0 0 A = Q
  have hB0 := hB
  obtain ⟨bZ, bN, bU, bG⟩ := hB
  show V p l e (RM 1 22 0 0) s m args below meth c D A 3 0 0 Q ([]) 0 [(0, .ref ha), (1, .int (nI k)), (2, .int (nI x0))] []
  refine r_aload_n hc dX0_letterImage_0 rfl 0 rfl ?_
  refine r_getR hc inlX0 (hro _ (List.mem_of_getElem? (i := 0) rfl)) rfl 2 (by decide) fl_X0_9 rfl rfl dX0_letterImage_1 ?_
  refine r_aload_n hc dX0_letterImage_4 rfl 0 rfl ?_
  refine r_getR hc inlX0 (hro _ (List.mem_of_getElem? (i := 0) rfl)) rfl 0 (by decide) fl_X0_25 rfl rfl dX0_letterImage_5 ?_
  refine r_aload_n hc dX0_letterImage_8 rfl 0 rfl ?_
  refine r_getR hc inlX0 (hro _ (List.mem_of_getElem? (i := 0) rfl)) rfl 3 (by decide) fl_X0_15 rfl rfl dX0_letterImage_9 ?_
  refine r_iload_n hc dX0_letterImage_12 rfl 1 rfl ?_
  have b1 := bN k
  refine r_ialdR hc nI (hro _ (List.mem_of_getElem? (i := 2) rfl)) (by omega) (by decide) dX0_letterImage_13 ?_
  refine r_iload_n hc dX0_letterImage_14 rfl 2 rfl ?_
  refine r_callI (As := [.int (nI ((tN α) k)), .int (nI x0)]) (n := 2) (wr := []) hc (c_at l D cI cZ cW h aE aL aF aR aS σ ((tN α) k) x0 (by omega) (by omega)) co_yX1_at in_X1 ml_X0_52 (by decide +kernel) rfl ⟨by decide, by decide⟩ ⟨by decide, by decide⟩ im_yX1_at se_yX1_at rfl (Or.inr ⟨_, (hro _ (List.mem_of_getElem? (i := 5) rfl))⟩) rfl (Nat.le_of_ble_eq_true rfl) [] [] rfl rfl rfl rfl (by decide) (fun q hq => Or.inr (hro q (List.mem_append_right _ hq))) dX0_letterImage_15 (fun r2 u3 e4 => ?_)
  subst e4
  rw [hd1]
  show V p l e (RM 1 22 0 0) s m args below meth c D A 3 0 0 Q ([]) 18 [(0, .ref ha), (1, .int (nI k)), (2, .int (nI x0))] [.int (nI d1), .ref aU]
  refine r_ialdR hc eI (hro _ (List.mem_of_getElem? (i := 1) rfl)) (by omega) (by decide) dX0_letterImage_18 ?_
  rw [← hQ]
  exact r_iret hc hr hlk () (by rw [hd2]; rfl) rfl dX0_letterImage_19
set_option maxHeartbeats 4000000 in
set_option maxRecDepth 100000 in
/-- image(k, word) -/
theorem c_image (l : Launch) (D : va_G) (cI cZ cW : ClassId) (ha h hs1 aU aN aT aG : Nat) (α : AS) (aE aL aF aR aS : Nat) (σ : CS) (hw aw : Nat) (col : Nat → Nat) (len : Nat) (k d : Nat) (hk : k < 200) (hl : len ≤ 24) (hcol : ∀ j, col j < 6) (hI : Img (sE σ) (tU α) (tN α) col len k d) (hB : BA α) : CtI l yX0_image cX0_image 5 (some .int) 1 22 0 0 D cI cZ cW [.ref ha, .int (nI k), .ref hw] ([]) (wA cI cZ ha h hs1 aU aN aT aG α ++ (wS cI cZ h aE aL aF aR aS σ ++ wW cI hw aw col len)) (S := Unit) (fun r _ => r = nI d) (fun _ => []) := by
  refine CtI.mk (by decide) (Nat.le_of_ble_eq_true rfl) ?_
  intro p e s m args below meth c A hc hr hlk hnm hro
  generalize hQ : MQ below _ args s 0 0 A = Q
  have hB0 := hB
  obtain ⟨bZ, bN, bU, bG⟩ := hB
  show V p l e (RM 1 22 0 0) s m args below meth c D A 5 0 0 Q ([]) 0 [(0, .ref ha), (1, .int (nI k)), (2, .ref hw)] []
  refine r_aload_n hc dX0_image_0 rfl 0 rfl ?_
  refine r_getR hc inlX0 (hro _ (List.mem_of_getElem? (i := 0) rfl)) rfl 3 (by decide) fl_X0_15 rfl rfl dX0_image_1 ?_
  refine r_iload_n hc dX0_image_4 rfl 1 rfl ?_
  have b1 := bN k
  refine r_ialdR hc nI (hro _ (List.mem_of_getElem? (i := 2) rfl)) (by omega) (by decide) dX0_image_5 ?_
  refine r_istore_n (lv' := [(3, .int (nI ((tN α) k))), (0, .ref ha), (1, .int (nI k)), (2, .ref hw)]) hc dX0_image_6 rfl (by decide) rfl ?_
  refine r_iconst (v := (nI 0)) hc dX0_image_7 rfl ?_
  refine r_istore (lv' := [(4, .int (nI 0)), (3, .int (nI ((tN α) k))), (0, .ref ha), (1, .int (nI k)), (2, .ref hw)]) hc dX0_image_8 (by decide) rfl ?_
  have lp10 : ∀ (n : Nat) (p0 i : Nat), len - i = n → (i ≤ len) → (pth (sE σ) col (tN α k) i = some p0) → V p l e (RM 1 22 0 0) s m args below meth c D A 5 0 0 Q ([]) 10 [(4, .int (nI i)), (3, .int (nI p0)), (0, .ref ha), (1, .int (nI k)), (2, .ref hw)] [] := by
    intro n
    induction n using Nat.strongRecOn with
    | _ n ih10 =>
    intro p0 i hm10 hi hp
    refine r_iload hc dX0_image_10 0 rfl ?_
    refine r_aload_n hc dX0_image_12 rfl 4 rfl ?_
    refine r_getRN hc inlX3 (hro _ (List.mem_of_getElem? (i := 11) rfl)) rfl 1 (by decide) nf_X0_56 rfl rfl dX0_image_13 ?_
    refine n_icmp_ge hc 41 dX0_image_16 (by decide) (by omega) (by omega) (fun h2 => ?_) (fun h2 => ?_)
    · have hil : i = len := by omega
      obtain ⟨p9, hp9, hnu⟩ := hI.2
      obtain ⟨p8, hb8, hp8⟩ := hI.1 len (Nat.le_refl _)
      obtain rfl : p9 = p8 := by rw [hp9] at hp8; exact Option.some.inj hp8
      obtain rfl : p0 = p9 := by rw [hil, hp9] at hp; exact (Option.some.inj hp).symm
      refine r_aload_n hc dX0_image_41 rfl 2 rfl ?_
      refine r_getR hc inlX0 (hro _ (List.mem_of_getElem? (i := 0) rfl)) rfl 2 (by decide) fl_X0_9 rfl rfl dX0_image_42 ?_
      refine r_iload_n hc dX0_image_45 rfl 1 rfl ?_
      refine r_ialdR hc eI (hro _ (List.mem_of_getElem? (i := 1) rfl)) (by omega) (by decide) dX0_image_46 ?_
      rw [← hQ]
      exact r_iret hc hr hlk () (by rw [hnu]; rfl) rfl dX0_image_47
    · obtain ⟨p1, hp1b, hp1⟩ := hI.1 (i + 1) (by omega)
      have hpb : p0 < 200 := by
        obtain ⟨p, hb, hp2⟩ := hI.1 i (by omega)
        rw [hp] at hp2; cases hp2; exact hb
      have he : sE σ (p0 * 6 + col i) = some p1 := by
        have z := hp1; rw [pth, hp] at z; exact z
      have hcb := hcol i
      refine r_aload_n hc dX0_image_19 rfl 2 rfl ?_
      refine r_getR hc inlX0 (hro _ (List.mem_of_getElem? (i := 0) rfl)) rfl 0 (by decide) fl_X0_25 rfl rfl dX0_image_20 ?_
      refine r_iload_n hc dX0_image_23 rfl 1 rfl ?_
      refine r_aload_n hc dX0_image_24 rfl 4 rfl ?_
      refine r_getRN hc inlX3 (hro _ (List.mem_of_getElem? (i := 11) rfl)) rfl 0 (by decide) nf_X0_61 rfl rfl dX0_image_25 ?_
      refine r_iload hc dX0_image_28 0 rfl ?_
      refine r_ialdR hc nI (hro _ (List.mem_of_getElem? (i := 12) rfl)) (by omega) (by decide) dX0_image_30 ?_
      refine r_callI (As := [.int (nI p0), .int (nI (col i))]) (n := 2) (wr := []) hc (c_at l D cI cZ cW h aE aL aF aR aS σ p0 (col i) (by omega) (by omega)) co_yX1_at in_X1 ml_X0_52 (by decide +kernel) rfl ⟨by decide, by decide⟩ ⟨by decide, by decide⟩ im_yX1_at se_yX1_at rfl (Or.inr ⟨_, (hro _ (List.mem_of_getElem? (i := 5) rfl))⟩) rfl (Nat.le_of_ble_eq_true rfl) [] [] rfl rfl rfl rfl (by decide) (fun q hq => Or.inr (hro q (List.mem_append_right _ (List.mem_append_left _ hq)))) dX0_image_31 (fun r3 u4 e5 => ?_)
      subst e5
      show V p l e (RM 1 22 0 0) s m args below meth c D A 5 0 0 Q ([]) 34 [(4, .int (nI i)), (3, .int (nI p0)), (0, .ref ha), (1, .int (nI k)), (2, .ref hw)] [.int (eI (sE σ (p0 * 6 + (col i))))]
      rw [he]
      show V p l e (RM 1 22 0 0) s m args below meth c D A 5 0 0 Q ([]) 34 [(4, .int (nI i)), (3, .int (nI p0)), (0, .ref ha), (1, .int (nI k)), (2, .ref hw)] [.int (nI p1)]
      refine r_istore_n (lv' := [(3, .int (nI p1)), (4, .int (nI i)), (0, .ref ha), (1, .int (nI k)), (2, .ref hw)]) hc dX0_image_34 rfl (by decide) rfl ?_
      refine r_iinc (k := 1) (v := (nI (i + 1))) (lv' := [(4, .int (nI (i + 1))), (3, .int (nI p1)), (0, .ref ha), (1, .int (nI k)), (2, .ref hw)]) hc dX0_image_35 rfl (nI_add _ _) (by decide) rfl ?_
      refine r_goto hc 10 dX0_image_38 (by decide) ?_
      refine r_lv [0, 1, 2, 3, 4] rfl ?_
      exact ih10 _ (by omega) p1 (i + 1) rfl (by omega) hp1
  refine r_lv [0, 1, 2, 3, 4] rfl ?_
  exact lp10 _ (tN α k) 0 rfl (Nat.zero_le _) rfl
end
section
def frgI (se : Nat → Bool) (k : Nat) : Nat → Bool := match k with | 0 => se | k + 1 => va_up (frgI se k) k false
def cyc (f : Nat → Nat) (fu : Nat) (se : Nat → Bool) (d n : Nat) : (Nat → Bool) × Nat := match fu with | 0 => (se, n) | fu + 1 => if se d = true then (se, n) else cyc f fu (va_up se d true) (f d) (n + 1)
theorem cyc_stop {f : Nat → Nat} {fu : Nat} {se : Nat → Bool} {d n : Nat} (h : se d = true) : cyc f fu se d n = (se, n) := by
  cases fu with
  | zero => rfl
  | succ k => rw [cyc, if_pos h]
theorem cyc_step {f : Nat → Nat} {fu : Nat} {se : Nat → Bool} {d n : Nat} (h : se d = false) : cyc f (fu + 1) se d n = cyc f fu (va_up se d true) (f d) (n + 1) := by rw [cyc, if_neg (by rw [h]; decide)]
theorem cyc_le {f : Nat → Nat} {fu : Nat} : ∀ {se : Nat → Bool} {d n : Nat}, (cyc f fu se d n).2 ≤ n + fu := by
  induction fu with
  | zero => intro se d n; exact Nat.le_refl _
  | succ k ih =>
    intro se d n
    rw [cyc]
    split
    · show n ≤ _; omega
    · have := ih (se := va_up se d true) (d := f d) (n := n + 1); omega
def ccC (fx : Bool) (r : Nat) : Bool := (fx && decide (r = 1)) || (!fx && decide (0 < r))
def ccI (f : Nat → Nat) (z : Nat) (fx : Bool) (se0 : Nat → Bool) (k : Nat) : (Nat → Bool) × Nat := match k with
  | 0 => (se0, 0)
  | k + 1 => ((cyc f z (ccI f z fx se0 k).1 k 0).1, (ccI f z fx se0 k).2 + (if ccC fx (cyc f z (ccI f z fx se0 k).1 k 0).2 = true then 1 else 0))
theorem ccI_p {f : Nat → Nat} {z : Nat} {fx : Bool} {se0 se : Nat → Bool} {k n : Nat} (h : ccI f z fx se0 k = (se, n)) (hC : ccC fx (cyc f z se k 0).2 = true) : ccI f z fx se0 (k + 1) = ((cyc f z se k 0).1, n + 1) := by
  rw [ccI, h]; simp only; rw [if_pos hC]
theorem ccI_n {f : Nat → Nat} {z : Nat} {fx : Bool} {se0 se : Nat → Bool} {k n : Nat} (h : ccI f z fx se0 k = (se, n)) (hC : ccC fx (cyc f z se k 0).2 = false) : ccI f z fx se0 (k + 1) = ((cyc f z se k 0).1, n) := by
  rw [ccI, h]; simp only; rw [if_neg (by rw [hC]; decide)]; rfl
/-- what the word's images are -/
def ImF (e : Nat → Option Nat) (nu : Nat → Option Nat) (na : Nat → Nat) (z : Nat) (col : Nat → Nat) (len : Nat) (f : Nat → Nat) : Prop := ∀ c, c < z → f c < z ∧ Img e nu na col len c (f c)
def rst (fs : Nat → Nat → Nat) (n c : Nat) : Bool := match n with | 0 => true | n + 1 => rst fs n c && decide (fs n c = c)
theorem rst_false {fs : Nat → Nat → Nat} {n i c : Nat} (hi : i < n) (h : fs i c ≠ c) : rst fs n c = false := by
  induction n with
  | zero => omega
  | succ n ih =>
    rw [rst]
    by_cases hn : i = n
    · subst hn; simp [h]
    · rw [ih (by omega)]; rfl
def crI (fs : Nat → Nat → Nat) (ns : Nat) (k : Nat) : Nat := match k with | 0 => 0 | k + 1 => crI fs ns k + (if rst fs ns k = true then 1 else 0)
theorem crI_le (fs : Nat → Nat → Nat) (ns k : Nat) : crI fs ns k ≤ k := by
  induction k with
  | zero => exact Nat.le_refl _
  | succ n ih => rw [crI]; split <;> omega
set_option maxHeartbeats 4000000 in
set_option maxRecDepth 100000 in
/-- forgetSeen() -/
theorem c_forgetSeen (l : Launch) (D : va_G) (cI cZ cW : ClassId) (ha h hs1 aU aN aT aG : Nat) (α : AS) (hB : BA α) : CtV l yX0_forgetSeen cX0_forgetSeen 2 none 0 0 0 0 D cI cZ cW [.ref ha] (wA cI cZ ha h hs1 aU aN aT aG α) ([]) (S := AS) (fun u => u = (tU α, tN α, frgI (tS α) (tZ α), tR α, tZ α)) (fun u => wA cI cZ ha h hs1 aU aN aT aG u) := by
  refine CtV.mk (by decide) (Nat.le_of_ble_eq_true rfl) ?_
  intro p e s m args below meth c A hc hr hlk hnm hro
  generalize hQ : MQ below _ args s 0 0 A = Q
  have hB0 := hB
  obtain ⟨bZ, bN, bU, bG⟩ := hB
  show V p l e (RM 0 0 0 0) s m args below meth c D A 2 0 0 Q (wA cI cZ ha h hs1 aU aN aT aG α) 0 [(0, .ref ha)] []
  refine r_iconst (v := (nI 0)) hc dX0_forgetSeen_0 rfl ?_
  refine r_istore_n (lv' := [(1, .int (nI 0)), (0, .ref ha)]) hc dX0_forgetSeen_1 rfl (by decide) rfl ?_
  have lp2 : ∀ (n : Nat) (k : Nat), tZ α - k = n → (k ≤ tZ α) → V p l e (RM 0 0 0 0) s m args below meth c D A 2 0 0 Q (wB cI cZ ha h hs1 aU aN aT aG (tU α) (tN α) (frgI (tS α) k) (tR α) (tZ α)) 2 [(1, .int (nI k)), (0, .ref ha)] [] := by
    intro n
    induction n using Nat.strongRecOn with
    | _ n ih2 =>
    intro k hm2 hk
    refine r_iload_n hc dX0_forgetSeen_2 rfl 0 rfl ?_
    refine r_aload_n hc dX0_forgetSeen_3 rfl 1 rfl ?_
    refine r_get hc inlX0 0 rfl rfl 6 (by decide) fl_X0_33 rfl rfl dX0_forgetSeen_4 ?_
    refine n_icmp_ge hc 23 dX0_forgetSeen_7 (by decide) (by omega) (by omega) (fun h1 => ?_) (fun h1 => ?_)
    · obtain rfl : k = tZ α := by omega
      show V p l e (RM 0 0 0 0) s m args below meth c D A 2 0 0 Q (wB cI cZ ha h hs1 aU aN aT aG (tU α) (tN α) (frgI (tS α) (tZ α)) (tR α) (tZ α)) 23 [(1, .int (nI (tZ α))), (0, .ref ha)] []
      rw [← hQ]
      exact r_vret hc hr hlk (tU α, tN α, frgI (tS α) (tZ α), tR α, tZ α) (rfl) rfl dX0_forgetSeen_23
    · refine r_aload_n hc dX0_forgetSeen_10 rfl 1 rfl ?_
      refine r_get hc inlX0 0 rfl rfl 4 (by decide) fl_X0_18 rfl rfl dX0_forgetSeen_11 ?_
      refine r_iload_n hc dX0_forgetSeen_14 rfl 0 rfl ?_
      refine r_iconst (v := (nI 0)) hc dX0_forgetSeen_15 rfl ?_
      refine r_zast (ws' := wB cI cZ ha h hs1 aU aN aT aG (tU α) (tN α) (va_up (frgI (tS α) k) k false) (tR α) (tZ α)) hc false 3 rfl (by omega) (by decide) rfl dX0_forgetSeen_16 ?_
      refine r_iinc (k := 0) (v := (nI (k + 1))) (lv' := [(1, .int (nI (k + 1))), (0, .ref ha)]) hc dX0_forgetSeen_17 rfl (nI_add _ _) (by decide) rfl ?_
      refine r_goto hc 2 dX0_forgetSeen_20 (by decide) ?_
      refine r_lv [0, 1] rfl ?_
      exact ih2 _ (by omega) (k + 1) rfl (by omega)
  refine r_lv [0, 1] rfl ?_
  exact lp2 _ 0 rfl (Nat.zero_le _)
set_option maxHeartbeats 4000000 in
set_option maxRecDepth 100000 in
/-- seeCycle(word, c0) -/
theorem c_seeCycle (l : Launch) (D : va_G) (cI cZ cW : ClassId) (ha h hs1 aU aN aT aG : Nat) (α : AS) (aE aL aF aR aS : Nat) (σ : CS) (hw aw : Nat) (col : Nat → Nat) (len : Nat) (c0 : Nat) (hc0 : c0 < tZ α) (hl : len ≤ 24) (hcol : ∀ j, col j < 6) (f : Nat → Nat) (hf : ImF (sE σ) (tU α) (tN α) (tZ α) col len f) (hB : BA α) : CtI l yX0_seeCycle cX0_seeCycle 5 (some .int) 2 46 0 0 D cI cZ cW [.ref ha, .ref hw, .int (nI c0)] (wA cI cZ ha h hs1 aU aN aT aG α) (wS cI cZ h aE aL aF aR aS σ ++ wW cI hw aw col len) (S := AS) (fun r u => r = nI (cyc f (tZ α) (tS α) c0 0).2 ∧ u = (tU α, tN α, (cyc f (tZ α) (tS α) c0 0).1, tR α, tZ α)) (fun u => wA cI cZ ha h hs1 aU aN aT aG u) := by
  refine CtI.mk (by decide) (Nat.le_of_ble_eq_true rfl) ?_
  intro p e s m args below meth c A hc hr hlk hnm hro
  generalize hQ : MQ below _ args s 0 0 A = Q
  have hB0 := hB
  obtain ⟨bZ, bN, bU, bG⟩ := hB
  show V p l e (RM 2 46 0 0) s m args below meth c D A 5 0 0 Q (wA cI cZ ha h hs1 aU aN aT aG α) 0 [(0, .ref ha), (1, .ref hw), (2, .int (nI c0))] []
  refine r_iconst (v := (nI 0)) hc dX0_seeCycle_0 rfl ?_
  refine r_istore_n (lv' := [(3, .int (nI 0)), (0, .ref ha), (1, .ref hw), (2, .int (nI c0))]) hc dX0_seeCycle_1 rfl (by decide) rfl ?_
  refine r_iload_n hc dX0_seeCycle_2 rfl 3 rfl ?_
  refine r_istore (lv' := [(4, .int (nI c0)), (3, .int (nI 0)), (0, .ref ha), (1, .ref hw), (2, .int (nI c0))]) hc dX0_seeCycle_3 (by decide) rfl ?_
  have lp5 : ∀ (n : Nat) (se : Nat → Bool) (d n0 : Nat), tZ α - n0 = n → (n0 ≤ tZ α) → (d < tZ α) → (cyc f (tZ α - n0) se d n0 = cyc f (tZ α) (tS α) c0 0) → V p l e (RM 2 46 0 0) s m args below meth c D A 5 0 0 Q (wB cI cZ ha h hs1 aU aN aT aG (tU α) (tN α) se (tR α) (tZ α)) 5 [(4, .int (nI d)), (3, .int (nI n0)), (0, .ref ha), (1, .ref hw), (2, .int (nI c0))] [] := by
    intro n
    induction n using Nat.strongRecOn with
    | _ n ih5 =>
    intro se d n0 hm5 hn hd hcy
    refine r_iload_n hc dX0_seeCycle_5 rfl 1 rfl ?_
    refine r_aload_n hc dX0_seeCycle_6 rfl 2 rfl ?_
    refine r_get hc inlX0 0 rfl rfl 6 (by decide) fl_X0_33 rfl rfl dX0_seeCycle_7 ?_
    refine n_icmp_ge hc 46 dX0_seeCycle_10 (by decide) (by omega) (by omega) (fun h1 => ?_) (fun h1 => ?_)
    · refine r_iload_n hc dX0_seeCycle_46 rfl 1 rfl ?_
      rw [← hQ]
      have hz : cyc f (tZ α) (tS α) c0 0 = (se, n0) := by rw [← hcy, show tZ α - n0 = 0 by omega]; rfl
      exact r_iret hc hr hlk (tU α, tN α, se, tR α, tZ α) ⟨by rw [hz], by rw [hz]⟩ rfl dX0_seeCycle_47
    · refine r_aload_n hc dX0_seeCycle_13 rfl 2 rfl ?_
      refine r_get hc inlX0 0 rfl rfl 4 (by decide) fl_X0_18 rfl rfl dX0_seeCycle_14 ?_
      refine r_iload hc dX0_seeCycle_17 0 rfl ?_
      refine r_zald hc zI 3 rfl (by omega) (by decide) dX0_seeCycle_19 ?_
      refine z_if_ne hc 46 dX0_seeCycle_20 (by decide) (fun h2 => ?_) (fun h2 => ?_)
      · refine r_iload_n hc dX0_seeCycle_46 rfl 1 rfl ?_
        rw [← hQ]
        have hz : cyc f (tZ α) (tS α) c0 0 = (se, n0) := by rw [← hcy]; exact cyc_stop h2
        exact r_iret hc hr hlk (tU α, tN α, se, tR α, tZ α) ⟨by rw [hz], by rw [hz]⟩ rfl dX0_seeCycle_47
      · refine r_aload_n hc dX0_seeCycle_23 rfl 2 rfl ?_
        refine r_get hc inlX0 0 rfl rfl 4 (by decide) fl_X0_18 rfl rfl dX0_seeCycle_24 ?_
        refine r_iload hc dX0_seeCycle_27 0 rfl ?_
        refine r_iconst (v := (nI 1)) hc dX0_seeCycle_29 rfl ?_
        refine r_zast (ws' := wB cI cZ ha h hs1 aU aN aT aG (tU α) (tN α) (va_up se d true) (tR α) (tZ α)) hc true 3 rfl (by omega) (by decide) rfl dX0_seeCycle_30 ?_
        refine r_iinc (k := 1) (v := (nI (n0 + 1))) (lv' := [(3, .int (nI (n0 + 1))), (4, .int (nI d)), (0, .ref ha), (1, .ref hw), (2, .int (nI c0))]) hc dX0_seeCycle_31 rfl (nI_add _ _) (by decide) rfl ?_
        refine r_aload_n hc dX0_seeCycle_34 rfl 2 rfl ?_
        refine r_iload hc dX0_seeCycle_35 1 rfl ?_
        refine r_aload_n hc dX0_seeCycle_37 rfl 3 rfl ?_
        refine r_callI (As := [.int (nI d), .ref hw]) (n := 2) (wr := wB cI cZ ha h hs1 aU aN aT aG (tU α) (tN α) (va_up se d true) (tR α) (tZ α)) hc (c_image l D cI cZ cW ha h hs1 aU aN aT aG (tU α, tN α, va_up se d true, tR α, tZ α) aE aL aF aR aS σ hw aw col len d (f d) (by omega) hl hcol (hf d hd).2 (show BA (tU α, tN α, va_up se d true, tR α, tZ α) from ⟨bZ, bN, bU, bG⟩)) co_yX0_image in_X0 ml_X0_74 (by decide +kernel) rfl ⟨by decide, by decide⟩ ⟨by decide, by decide⟩ im_yX0_image se_yX0_image rfl (Or.inl ⟨0, _, rfl⟩) rfl (Nat.le_of_ble_eq_true rfl) [] [0, 1, 2, 3, 4] rfl rfl rfl rfl (by decide) (fun q hq => (List.mem_append.mp hq).elim (fun hq => Or.inl ((List.getElem?_of_mem hq).elim fun k hk => ⟨k, hk, List.not_mem_nil⟩)) (fun hq => Or.inr (hro q hq))) dX0_seeCycle_38 (fun r3 u4 e5 => ?_)
        subst e5
        show V p l e (RM 2 46 0 0) s m args below meth c D A 5 0 0 Q (wB cI cZ ha h hs1 aU aN aT aG (tU α) (tN α) (va_up se d true) (tR α) (tZ α)) 41 [(3, .int (nI (n0 + 1))), (4, .int (nI d)), (0, .ref ha), (1, .ref hw), (2, .int (nI c0))] [.int (nI (f d))]
        refine r_istore (lv' := [(4, .int (nI (f d))), (3, .int (nI (n0 + 1))), (0, .ref ha), (1, .ref hw), (2, .int (nI c0))]) hc dX0_seeCycle_41 (by decide) rfl ?_
        refine r_goto hc 5 dX0_seeCycle_43 (by decide) ?_
        refine r_lv [0, 1, 2, 3, 4] rfl ?_
        exact ih5 _ (by omega) (va_up se d true) (f d) (n0 + 1) rfl (by omega) (hf d hd).1 (by rw [← hcy, show tZ α - n0 = tZ α - (n0 + 1) + 1 by omega, cyc_step h2])
  refine r_lv [0, 1, 2, 3, 4] rfl ?_
  exact lp5 _ (tS α) c0 0 rfl (Nat.zero_le _) hc0 rfl
set_option maxHeartbeats 4000000 in
set_option maxRecDepth 100000 in
/-- countCycles(word, fx) -/
theorem c_countCycles (l : Launch) (D : va_G) (cI cZ cW : ClassId) (ha h hs1 aU aN aT aG : Nat) (α : AS) (aE aL aF aR aS : Nat) (σ : CS) (hw aw : Nat) (col : Nat → Nat) (len : Nat) (fx : Bool) (hl : len ≤ 24) (hcol : ∀ j, col j < 6) (f : Nat → Nat) (hf : ImF (sE σ) (tU α) (tN α) (tZ α) col len f) (hB : BA α) : CtI l yX0_countCycles cX0_countCycles 6 (some .int) 3 70 0 0 D cI cZ cW [.ref ha, .ref hw, .int (zI fx)] (wA cI cZ ha h hs1 aU aN aT aG α) (wS cI cZ h aE aL aF aR aS σ ++ wW cI hw aw col len) (S := AS) (fun r u => r = nI (ccI f (tZ α) fx (frgI (tS α) (tZ α)) (tZ α)).2 ∧ ∃ se, u = (tU α, tN α, se, tR α, tZ α)) (fun u => wA cI cZ ha h hs1 aU aN aT aG u) := by
  refine CtI.mk (by decide) (Nat.le_of_ble_eq_true rfl) ?_
  intro p e s m args below meth c A hc hr hlk hnm hro
  generalize hQ : MQ below _ args s 0 0 A = Q
  have hB0 := hB
  obtain ⟨bZ, bN, bU, bG⟩ := hB
  show V p l e (RM 3 70 0 0) s m args below meth c D A 6 0 0 Q (wA cI cZ ha h hs1 aU aN aT aG α) 0 [(0, .ref ha), (1, .ref hw), (2, .int (zI fx))] []
  refine r_aload_n hc dX0_countCycles_0 rfl 0 rfl ?_
  refine r_callV (As := []) (n := 0) (wr := []) hc (c_forgetSeen l D cI cZ cW ha h hs1 aU aN aT aG α hB0) co_yX0_forgetSeen in_X0 ml_X0_63 (by decide +kernel) rfl ⟨by decide, by decide⟩ ⟨by decide, by decide⟩ im_yX0_forgetSeen se_yX0_forgetSeen rfl (Or.inl ⟨0, _, rfl⟩) rfl (Nat.le_of_ble_eq_true rfl) [0, 1, 2, 3, 4] [] rfl rfl rfl rfl (by decide) (fun q hq => absurd hq List.not_mem_nil) dX0_countCycles_1 (fun u e1 => ?_)
  show V p l e (RM 3 70 0 0) s m args below meth c D A 6 0 0 Q (wA cI cZ ha h hs1 aU aN aT aG u) 4 [(0, .ref ha), (1, .ref hw), (2, .int (zI fx))] []
  subst e1
  show V p l e (RM 3 70 0 0) s m args below meth c D A 6 0 0 Q (wB cI cZ ha h hs1 aU aN aT aG (tU α) (tN α) (frgI (tS α) (tZ α)) (tR α) (tZ α)) 4 [(0, .ref ha), (1, .ref hw), (2, .int (zI fx))] []
  refine r_iconst (v := (nI 0)) hc dX0_countCycles_4 rfl ?_
  refine r_istore_n (lv' := [(3, .int (nI 0)), (0, .ref ha), (1, .ref hw), (2, .int (zI fx))]) hc dX0_countCycles_5 rfl (by decide) rfl ?_
  refine r_iconst (v := (nI 0)) hc dX0_countCycles_6 rfl ?_
  refine r_istore (lv' := [(4, .int (nI 0)), (3, .int (nI 0)), (0, .ref ha), (1, .ref hw), (2, .int (zI fx))]) hc dX0_countCycles_7 (by decide) rfl ?_
  have lp9 : ∀ (n : Nat) (se : Nat → Bool) (n0 k : Nat), tZ α - k = n → (k ≤ tZ α) → (n0 ≤ k) → (ccI f (tZ α) fx (frgI (tS α) (tZ α)) k = (se, n0)) → V p l e (RM 3 70 0 0) s m args below meth c D A 6 0 0 Q (wB cI cZ ha h hs1 aU aN aT aG (tU α) (tN α) se (tR α) (tZ α)) 9 [(4, .int (nI k)), (3, .int (nI n0)), (0, .ref ha), (1, .ref hw), (2, .int (zI fx))] [] := by
    intro n
    induction n using Nat.strongRecOn with
    | _ n ih9 =>
    intro se n0 k hm9 hk hn hcc
    refine r_iload hc dX0_countCycles_9 0 rfl ?_
    refine r_aload_n hc dX0_countCycles_11 rfl 2 rfl ?_
    refine r_get hc inlX0 0 rfl rfl 6 (by decide) fl_X0_33 rfl rfl dX0_countCycles_12 ?_
    refine n_icmp_ge hc 54 dX0_countCycles_15 (by decide) (by omega) (by omega) (fun h2 => ?_) (fun h2 => ?_)
    · refine r_iload_n hc dX0_countCycles_54 rfl 1 rfl ?_
      rw [← hQ]
      have hz : ccI f (tZ α) fx (frgI (tS α) (tZ α)) (tZ α) = (se, n0) := by rw [← hcc, show k = tZ α by omega]
      exact r_iret hc hr hlk (tU α, tN α, se, tR α, tZ α) ⟨by rw [hz], ⟨se, rfl⟩⟩ rfl dX0_countCycles_55
    · refine r_aload_n hc dX0_countCycles_18 rfl 2 rfl ?_
      refine r_aload_n hc dX0_countCycles_19 rfl 3 rfl ?_
      refine r_iload hc dX0_countCycles_20 0 rfl ?_
      refine r_callI (As := [.ref hw, .int (nI k)]) (n := 2) (wr := []) hc (c_seeCycle l D cI cZ cW ha h hs1 aU aN aT aG (tU α, tN α, se, tR α, tZ α) aE aL aF aR aS σ hw aw col len k (by show k < tZ α; omega) hl hcol f hf (show BA (tU α, tN α, se, tR α, tZ α) from ⟨bZ, bN, bU, bG⟩)) co_yX0_seeCycle in_X0 ml_X0_66 (by decide +kernel) rfl ⟨by decide, by decide⟩ ⟨by decide, by decide⟩ im_yX0_seeCycle se_yX0_seeCycle rfl (Or.inl ⟨0, _, rfl⟩) rfl (Nat.le_of_ble_eq_true rfl) [0, 1, 2, 3, 4] [] rfl rfl rfl rfl (by decide) (fun q hq => Or.inr (hro q hq)) dX0_countCycles_22 (fun r0 u e3 => ?_)
      show V p l e (RM 3 70 0 0) s m args below meth c D A 6 0 0 Q (wA cI cZ ha h hs1 aU aN aT aG u) 25 [(4, .int (nI k)), (3, .int (nI n0)), (0, .ref ha), (1, .ref hw), (2, .int (zI fx))] [.int r0]
      obtain ⟨rfl, rfl⟩ := e3
      show V p l e (RM 3 70 0 0) s m args below meth c D A 6 0 0 Q (wB cI cZ ha h hs1 aU aN aT aG (tU α) (tN α) ((cyc f (tZ α) se k 0).1) (tR α) (tZ α)) 25 [(4, .int (nI k)), (3, .int (nI n0)), (0, .ref ha), (1, .ref hw), (2, .int (zI fx))] [.int (nI ((cyc f (tZ α) se k 0).2))]
      have hle : (cyc f (tZ α) se k 0).2 ≤ 0 + tZ α := cyc_le
      refine r_istore (lv' := [(5, .int (nI ((cyc f (tZ α) se k 0).2))), (4, .int (nI k)), (3, .int (nI n0)), (0, .ref ha), (1, .ref hw), (2, .int (zI fx))]) hc dX0_countCycles_25 (by decide) rfl ?_
      refine r_iload_n hc dX0_countCycles_27 rfl 5 rfl ?_
      refine z_if_eq hc 40 dX0_countCycles_28 (by decide) (fun h4 => ?_) (fun h4 => ?_)
      · refine r_iload hc dX0_countCycles_40 0 rfl ?_
        refine n_if_le hc 48 dX0_countCycles_42 (by decide) (by omega) (fun h5 => ?_) (fun h5 => ?_)
        · refine r_iinc (k := 1) (v := (nI (k + 1))) (lv' := [(4, .int (nI (k + 1))), (5, .int (nI ((cyc f (tZ α) se k 0).2))), (3, .int (nI n0)), (0, .ref ha), (1, .ref hw), (2, .int (zI fx))]) hc dX0_countCycles_48 rfl (nI_add _ _) (by decide) rfl ?_
          refine r_goto hc 9 dX0_countCycles_51 (by decide) ?_
          refine r_lv [0, 2, 3, 4, 5] rfl ?_
          exact ih9 _ (by omega) _ n0 (k + 1) rfl (by omega) (by omega) (ccI_n hcc (by simp [ccC, h4, h5]))
        · refine r_iinc (k := 2) (v := (nI (n0 + 1))) (lv' := [(3, .int (nI (n0 + 1))), (5, .int (nI ((cyc f (tZ α) se k 0).2))), (4, .int (nI k)), (0, .ref ha), (1, .ref hw), (2, .int (zI fx))]) hc dX0_countCycles_45 rfl (nI_add _ _) (by decide) rfl ?_
          refine r_iinc (k := 2) (v := (nI (k + 1))) (lv' := [(4, .int (nI (k + 1))), (3, .int (nI (n0 + 1))), (5, .int (nI ((cyc f (tZ α) se k 0).2))), (0, .ref ha), (1, .ref hw), (2, .int (zI fx))]) hc dX0_countCycles_48 rfl (nI_add _ _) (by decide) rfl ?_
          refine r_goto hc 9 dX0_countCycles_51 (by decide) ?_
          refine r_lv [0, 1, 3, 4, 5] rfl ?_
          exact ih9 _ (by omega) _ (n0 + 1) (k + 1) rfl (by omega) (by omega) (ccI_p hcc (by simp [ccC, h4]; omega))
      · refine r_iload hc dX0_countCycles_31 0 rfl ?_
        refine r_iconst (v := (nI 1)) hc dX0_countCycles_33 rfl ?_
        refine n_icmp_ne hc 48 dX0_countCycles_34 (by decide) (by omega) (by omega) (fun h6 => ?_) (fun h6 => ?_)
        · refine r_iinc (k := 1) (v := (nI (k + 1))) (lv' := [(4, .int (nI (k + 1))), (5, .int (nI ((cyc f (tZ α) se k 0).2))), (3, .int (nI n0)), (0, .ref ha), (1, .ref hw), (2, .int (zI fx))]) hc dX0_countCycles_48 rfl (nI_add _ _) (by decide) rfl ?_
          refine r_goto hc 9 dX0_countCycles_51 (by decide) ?_
          refine r_lv [0, 2, 3, 4, 5] rfl ?_
          exact ih9 _ (by omega) _ n0 (k + 1) rfl (by omega) (by omega) (ccI_n hcc (by simp [ccC, h4, h6]))
        · refine r_goto hc 45 dX0_countCycles_37 (by decide) ?_
          refine r_iinc (k := 2) (v := (nI (n0 + 1))) (lv' := [(3, .int (nI (n0 + 1))), (5, .int (nI ((cyc f (tZ α) se k 0).2))), (4, .int (nI k)), (0, .ref ha), (1, .ref hw), (2, .int (zI fx))]) hc dX0_countCycles_45 rfl (nI_add _ _) (by decide) rfl ?_
          refine r_iinc (k := 2) (v := (nI (k + 1))) (lv' := [(4, .int (nI (k + 1))), (3, .int (nI (n0 + 1))), (5, .int (nI ((cyc f (tZ α) se k 0).2))), (0, .ref ha), (1, .ref hw), (2, .int (zI fx))]) hc dX0_countCycles_48 rfl (nI_add _ _) (by decide) rfl ?_
          refine r_goto hc 9 dX0_countCycles_51 (by decide) ?_
          refine r_lv [0, 1, 3, 4, 5] rfl ?_
          exact ih9 _ (by omega) _ (n0 + 1) (k + 1) rfl (by omega) (by omega) (ccI_p hcc (by simp [ccC, h4, h6]))
  refine r_lv [0, 1, 2, 3, 4] rfl ?_
  exact lp9 _ (frgI (tS α) (tZ α)) 0 0 rfl (Nat.zero_le _) (Nat.zero_le _) rfl
end
section
theorem r_perm {p : Program} {l : Launch} {e : Env} {R : Room} {s : State} {m : MethodId} {args : Array Value} {below : List Frame} {meth : Method} {c : Code} {D : va_G} {A : Nat → Prop} {nL cells slots : Nat} {Q : State → Prop} {ws ws' : va_W} {pc : Nat} {lv : List (Nat × Value)} {st : List Value} (is : List Nat) (hn : va_nd is = true) (h : is.map (fun i => ws[i]?) = ws'.map some) (kk : V p l e R s m args below meth c D A nL cells slots Q ws' pc lv st) : V p l e R s m args below meth c D A nL cells slots Q ws pc lv st :=
  fun H locs ls hP hD hS hL => kk H locs ls (va_P.places is h hP) (hD.sub is hn h) hS hL
def filI (f : Nat → Option Nat) (k : Nat) : Nat → Option Nat := match k with | 0 => f | k + 1 => va_up (filI f k) k none
def gnn (c : Nat) (α : AS) : AS := match tU α c with | some _ => α | none => (va_up (tU α) c (some (tZ α)), va_up (tN α) (tZ α) c, tS α, tR α, tZ α + 1)
/-! how many are marked -/
def cntT (f : Nat → Bool) (n : Nat) : Nat := match n with | 0 => 0 | n + 1 => cntT f n + (if f n = true then 1 else 0)
theorem cntT_le (f : Nat → Bool) (n : Nat) : cntT f n ≤ n := by
  induction n with
  | zero => exact Nat.le_refl _
  | succ n ih => rw [cntT]; split <;> omega
theorem cntT_lt {f : Nat → Bool} {n d : Nat} (hd : d < n) (h : f d = false) : cntT f n < n := by
  induction n with
  | zero => omega
  | succ n ih =>
    rw [cntT]
    by_cases hn : d = n
    · subst hn; rw [h]; have := cntT_le f d; simp; omega
    · have := ih (by omega); split <;> omega
theorem cntT_up {f : Nat → Bool} {n d : Nat} (hd : d < n) (h : f d = false) : cntT (va_up f d true) n = cntT f n + 1 := by
  induction n with
  | zero => omega
  | succ n ih =>
    rw [cntT, cntT]
    by_cases hn : d = n
    · subst hn
      have : ∀ k, k ≤ d → cntT (va_up f d true) k = cntT f k := by
        intro k
        induction k with
        | zero => intro _; rfl
        | succ k ihk => intro hk; rw [cntT, cntT, ihk (by omega)]; simp [va_up, show ¬ k = d by omega]
      rw [this d (Nat.le_refl _), h]; simp [va_up]
    · rw [ih (by omega)]; simp [va_up, show ¬ n = d by omega]; omega
theorem cntT_dn {f : Nat → Bool} {n d : Nat} (hd : d < n) (h : f d = true) : cntT (va_up f d false) n + 1 = cntT f n := by
  have h2 : va_up (va_up f d false) d true = f := by
    funext j; by_cases hj : j = d
    · subst hj; simp [va_up, h]
    · simp [va_up, hj]
  have := cntT_up (f := va_up f d false) hd (by simp [va_up])
  rw [h2] at this; omega
theorem cntT_0 {f : Nat → Bool} {n : Nat} (h : ∀ i, i < n → f i = false) : cntT f n = 0 := by
  induction n with
  | zero => rfl
  | succ n ih => rw [cntT, ih (fun i hi => h i (by omega)), h n (by omega)]; rfl
set_option maxHeartbeats 4000000 in
set_option maxRecDepth 100000 in
/-- rests(c0) -/
theorem c_rests (l : Launch) (D : va_G) (cI cZ cW : ClassId) (ha h hs1 aU aN aT aG : Nat) (α : AS) (aE aL aF aR aS : Nat) (σ : CS) (as : Nat) (swa sca : Nat → Nat) (scol : Nat → Nat → Nat) (slen : Nat → Nat) (ns : Nat) (c0 : Nat) (hc0 : c0 < tZ α) (hsl : ∀ i, i < ns → 1 ≤ slen i ∧ slen i ≤ 24 ∧ ∀ j, scol i j < 6) (hns : ns ≤ 5) (fs : Nat → Nat → Nat) (hfs : ∀ i, i < ns → ImF (sE σ) (tU α) (tN α) (tZ α) (scol i) (slen i) (fs i)) (hB : BA α) : CtI l yX0_rests cX0_rests 3 (some .boolean) 2 46 0 0 D cI cZ cW [.ref ha, .int (nI c0)] ([]) (wA cI cZ ha h hs1 aU aN aT aG α ++ (wS cI cZ h aE aL aF aR aS σ ++ wL cI cW hs1 as 5 swa sca scol slen ns)) (S := Unit) (fun r _ => r = zI (rst fs ns c0)) (fun _ => []) := by
  refine CtI.mk (by decide) (Nat.le_of_ble_eq_true rfl) ?_
  intro p e s m args below meth c A hc hr hlk hnm hro
  generalize hQ : MQ below _ args s 0 0 A = Q
  have hB0 := hB
  obtain ⟨bZ, bN, bU, bG⟩ := hB
  show V p l e (RM 2 46 0 0) s m args below meth c D A 3 0 0 Q ([]) 0 [(0, .ref ha), (1, .int (nI c0))] []
  refine r_iconst (v := (nI 0)) hc dX0_rests_0 rfl ?_
  refine r_istore_n (lv' := [(2, .int (nI 0)), (0, .ref ha), (1, .int (nI c0))]) hc dX0_rests_1 rfl (by decide) rfl ?_
  have lp2 : ∀ (n : Nat) (i : Nat), ns - i = n → (i ≤ ns) → (rst fs i c0 = true) → V p l e (RM 2 46 0 0) s m args below meth c D A 3 0 0 Q ([]) 2 [(2, .int (nI i)), (0, .ref ha), (1, .int (nI c0))] [] := by
    intro n
    induction n using Nat.strongRecOn with
    | _ n ih2 =>
    intro i hm2 hi hrs
    refine r_iload_n hc dX0_rests_2 rfl 0 rfl ?_
    refine r_aload_n hc dX0_rests_3 rfl 1 rfl ?_
    refine r_getR hc inlX0 (hro _ (List.mem_of_getElem? (i := 0) rfl)) rfl 1 (by decide) fl_X0_29 rfl rfl dX0_rests_4 ?_
    refine r_getRN hc inlX4 (hro _ (List.mem_of_getElem? (i := 11) rfl)) rfl 1 (by decide) nf_X0_82 rfl rfl dX0_rests_7 ?_
    refine n_icmp_ge hc 39 dX0_rests_10 (by decide) (by omega) (by omega) (fun h1 => ?_) (fun h1 => ?_)
    · refine r_iconst (v := (nI 1)) hc dX0_rests_39 rfl ?_
      rw [← hQ]
      exact r_zret (b := true) hc hr hlk () (congrArg zI (by rw [← hrs, show i = ns by omega])) rfl dX0_rests_40
    · refine r_aload_n hc dX0_rests_13 rfl 1 rfl ?_
      refine r_iload_n hc dX0_rests_14 rfl 2 rfl ?_
      refine r_aload_n hc dX0_rests_15 rfl 1 rfl ?_
      refine r_getR hc inlX0 (hro _ (List.mem_of_getElem? (i := 0) rfl)) rfl 1 (by decide) fl_X0_29 rfl rfl dX0_rests_16 ?_
      refine r_getRN hc inlX4 (hro _ (List.mem_of_getElem? (i := 11) rfl)) rfl 0 (by decide) nf_X0_85 rfl rfl dX0_rests_19 ?_
      refine r_iload_n hc dX0_rests_22 rfl 0 rfl ?_
      refine r_aldR hc (hro _ (List.mem_of_getElem? (i := 12) rfl)) (by omega) (by decide) rfl dX0_rests_23 ?_
      obtain ⟨l1, l2, l3⟩ := hsl i h1
      obtain ⟨f1, f2⟩ := hfs i h1 c0 hc0
      refine r_callI (As := [.int (nI c0), .ref (swa i)]) (n := 2) (wr := []) hc (c_image l D cI cZ cW ha h hs1 aU aN aT aG α aE aL aF aR aS σ (swa i) (sca i) (scol i) (slen i) c0 (fs i c0) (by omega) l2 l3 f2 hB0) co_yX0_image in_X0 ml_X0_74 (by decide +kernel) rfl ⟨by decide, by decide⟩ ⟨by decide, by decide⟩ im_yX0_image se_yX0_image rfl (Or.inr ⟨_, (hro _ (List.mem_of_getElem? (i := 0) rfl))⟩) rfl (Nat.le_of_ble_eq_true rfl) [] [] rfl rfl rfl rfl (by decide) (fun q hq => (List.mem_append.mp hq).elim (fun z => Or.inr (hro q (List.mem_append_left _ z))) (fun z => Or.inr (hro q (List.mem_append_right _ ((List.mem_append.mp z).elim (fun z => List.mem_append_left _ z) (fun z => List.mem_append_right _ (wL_word (by omega) z))))))) dX0_rests_24 (fun r2 u3 e4 => ?_)
      subst e4
      show V p l e (RM 2 46 0 0) s m args below meth c D A 3 0 0 Q ([]) 27 [(2, .int (nI i)), (0, .ref ha), (1, .int (nI c0))] [.int (nI (fs i c0))]
      refine r_iload_n hc dX0_rests_27 rfl 2 rfl ?_
      refine n_icmp_eq hc 33 dX0_rests_28 (by decide) (by omega) (by omega) (fun h5 => ?_) (fun h5 => ?_)
      · refine r_iinc (k := 0) (v := (nI (i + 1))) (lv' := [(2, .int (nI (i + 1))), (0, .ref ha), (1, .int (nI c0))]) hc dX0_rests_33 rfl (nI_add _ _) (by decide) rfl ?_
        refine r_goto hc 2 dX0_rests_36 (by decide) ?_
        refine r_lv [0, 1, 2] rfl ?_
        exact ih2 _ (by omega) (i + 1) rfl (by omega) (by rw [rst, hrs, h5]; simp)
      · refine r_iconst (v := (nI 0)) hc dX0_rests_31 rfl ?_
        rw [← hQ]
        exact r_zret (b := false) hc hr hlk () (congrArg zI (rst_false h1 h5).symm) rfl dX0_rests_32
  refine r_lv [0, 1, 2] rfl ?_
  exact lp2 _ 0 rfl (Nat.zero_le _) rfl
set_option maxHeartbeats 4000000 in
set_option maxRecDepth 100000 in
/-- countResting() -/
theorem c_countResting (l : Launch) (D : va_G) (cI cZ cW : ClassId) (ha h hs1 aU aN aT aG : Nat) (α : AS) (aE aL aF aR aS : Nat) (σ : CS) (as : Nat) (swa sca : Nat → Nat) (scol : Nat → Nat → Nat) (slen : Nat → Nat) (ns : Nat) (hsl : ∀ i, i < ns → 1 ≤ slen i ∧ slen i ≤ 24 ∧ ∀ j, scol i j < 6) (hns : ns ≤ 5) (fs : Nat → Nat → Nat) (hfs : ∀ i, i < ns → ImF (sE σ) (tU α) (tN α) (tZ α) (scol i) (slen i) (fs i)) (hB : BA α) : CtI l yX0_countResting cX0_countResting 3 (some .int) 3 68 0 0 D cI cZ cW [.ref ha] ([]) (wA cI cZ ha h hs1 aU aN aT aG α ++ (wS cI cZ h aE aL aF aR aS σ ++ wL cI cW hs1 as 5 swa sca scol slen ns)) (S := Unit) (fun r _ => r = nI (crI fs ns (tZ α))) (fun _ => []) := by
  refine CtI.mk (by decide) (Nat.le_of_ble_eq_true rfl) ?_
  intro p e s m args below meth c A hc hr hlk hnm hro
  generalize hQ : MQ below _ args s 0 0 A = Q
  have hB0 := hB
  obtain ⟨bZ, bN, bU, bG⟩ := hB
  show V p l e (RM 3 68 0 0) s m args below meth c D A 3 0 0 Q ([]) 0 [(0, .ref ha)] []
  refine r_iconst (v := (nI 0)) hc dX0_countResting_0 rfl ?_
  refine r_istore_n (lv' := [(1, .int (nI 0)), (0, .ref ha)]) hc dX0_countResting_1 rfl (by decide) rfl ?_
  refine r_iconst (v := (nI 0)) hc dX0_countResting_2 rfl ?_
  refine r_istore_n (lv' := [(2, .int (nI 0)), (1, .int (nI 0)), (0, .ref ha)]) hc dX0_countResting_3 rfl (by decide) rfl ?_
  have lp4 : ∀ (n : Nat) (k : Nat), tZ α - k = n → (k ≤ tZ α) → V p l e (RM 3 68 0 0) s m args below meth c D A 3 0 0 Q ([]) 4 [(2, .int (nI k)), (1, .int (nI (crI fs ns k))), (0, .ref ha)] [] := by
    intro n
    induction n using Nat.strongRecOn with
    | _ n ih4 =>
    intro k hm4 hk
    refine r_iload_n hc dX0_countResting_4 rfl 0 rfl ?_
    refine r_aload_n hc dX0_countResting_5 rfl 2 rfl ?_
    refine r_getR hc inlX0 (hro _ (List.mem_of_getElem? (i := 0) rfl)) rfl 6 (by decide) fl_X0_33 rfl rfl dX0_countResting_6 ?_
    refine n_icmp_ge hc 29 dX0_countResting_9 (by decide) (by omega) (by omega) (fun h1 => ?_) (fun h1 => ?_)
    · obtain rfl : k = tZ α := by omega
      show V p l e (RM 3 68 0 0) s m args below meth c D A 3 0 0 Q ([]) 29 [(2, .int (nI (tZ α))), (1, .int (nI (crI fs ns (tZ α)))), (0, .ref ha)] []
      refine r_iload_n hc dX0_countResting_29 rfl 1 rfl ?_
      rw [← hQ]
      exact r_iret hc hr hlk () (rfl) rfl dX0_countResting_30
    · refine r_aload_n hc dX0_countResting_12 rfl 2 rfl ?_
      refine r_iload_n hc dX0_countResting_13 rfl 0 rfl ?_
      refine r_callI (As := [.int (nI k)]) (n := 1) (wr := []) hc (c_rests l D cI cZ cW ha h hs1 aU aN aT aG α aE aL aF aR aS σ as swa sca scol slen ns k (by omega) hsl hns fs hfs hB0) co_yX0_rests in_X0 ml_X0_78 (by decide +kernel) rfl ⟨by decide, by decide⟩ ⟨by decide, by decide⟩ im_yX0_rests se_yX0_rests rfl (Or.inr ⟨_, (hro _ (List.mem_of_getElem? (i := 0) rfl))⟩) rfl (Nat.le_of_ble_eq_true rfl) [] [] rfl rfl rfl rfl (by decide) (fun q hq => Or.inr (hro q hq)) dX0_countResting_14 (fun r2 u3 e4 => ?_)
      subst e4
      refine z_if_eq hc 23 dX0_countResting_17 (by decide) (fun h5 => ?_) (fun h5 => ?_)
      · have hcn : crI fs ns k = crI fs ns (k + 1) := by rw [crI, if_neg (by rw [h5]; decide)]; rfl
        rw [hcn]
        show V p l e (RM 3 68 0 0) s m args below meth c D A 3 0 0 Q ([]) 23 [(2, .int (nI k)), (1, .int (nI (crI fs ns (k + 1)))), (0, .ref ha)] []
        refine r_iinc (k := 0) (v := (nI (k + 1))) (lv' := [(2, .int (nI (k + 1))), (1, .int (nI (crI fs ns (k + 1)))), (0, .ref ha)]) hc dX0_countResting_23 rfl (nI_add _ _) (by decide) rfl ?_
        refine r_goto hc 4 dX0_countResting_26 (by decide) ?_
        refine r_lv [0, 1, 2] rfl ?_
        exact ih4 _ (by omega) (k + 1) rfl (by omega)
      · refine r_iinc (k := 1) (v := (nI (crI fs ns k + 1))) (lv' := [(1, .int (nI (crI fs ns k + 1))), (2, .int (nI k)), (0, .ref ha)]) hc dX0_countResting_20 rfl (nI_add _ _) (by decide) rfl ?_
        have hcn : crI fs ns k + 1 = crI fs ns (k + 1) := by rw [crI, if_pos h5]
        rw [hcn]
        show V p l e (RM 3 68 0 0) s m args below meth c D A 3 0 0 Q ([]) 23 [(1, .int (nI (crI fs ns (k + 1)))), (2, .int (nI k)), (0, .ref ha)] []
        refine r_iinc (k := 1) (v := (nI (k + 1))) (lv' := [(2, .int (nI (k + 1))), (1, .int (nI (crI fs ns (k + 1)))), (0, .ref ha)]) hc dX0_countResting_23 rfl (nI_add _ _) (by decide) rfl ?_
        refine r_goto hc 4 dX0_countResting_26 (by decide) ?_
        refine r_lv [0, 1, 2] rfl ?_
        exact ih4 _ (by omega) (k + 1) rfl (by omega)
  refine r_lv [0, 1, 2] rfl ?_
  exact lp4 _ 0 rfl (Nat.zero_le _)
set_option maxHeartbeats 4000000 in
set_option maxRecDepth 100000 in
/-- giveNextNumber(c0) -/
theorem c_gnn (l : Launch) (D : va_G) (cI cZ cW : ClassId) (ha h hs1 aU aN aT aG : Nat) (α : AS) (c0 : Nat) (hc0 : c0 < 200) (hz : tU α c0 = none → tZ α < 200) (hB : BA α) : CtV l yX0_giveNextNumber cX0_giveNextNumber 2 none 0 0 0 0 D cI cZ cW [.ref ha, .int (nI c0)] (wA cI cZ ha h hs1 aU aN aT aG α) ([]) (S := AS) (fun u => u = gnn c0 α) (fun u => wA cI cZ ha h hs1 aU aN aT aG u) := by
  refine CtV.mk (by decide) (Nat.le_of_ble_eq_true rfl) ?_
  intro p e s m args below meth c A hc hr hlk hnm hro
  generalize hQ : MQ below _ args s 0 0 A = Q
  have hB0 := hB
  obtain ⟨bZ, bN, bU, bG⟩ := hB
  show V p l e (RM 0 0 0 0) s m args below meth c D A 2 0 0 Q (wA cI cZ ha h hs1 aU aN aT aG α) 0 [(0, .ref ha), (1, .int (nI c0))] []
  refine r_aload_n hc dX0_giveNextNumber_0 rfl 0 rfl ?_
  refine r_get hc inlX0 0 rfl rfl 2 (by decide) fl_X0_9 rfl rfl dX0_giveNextNumber_1 ?_
  refine r_iload_n hc dX0_giveNextNumber_4 rfl 1 rfl ?_
  refine r_iald hc eI 1 rfl (by omega) (by decide) dX0_giveNextNumber_5 ?_
  refine r_iconst (v := (-1)) hc dX0_giveNextNumber_6 rfl ?_
  refine e_icmp_ne hc 40 dX0_giveNextNumber_7 (by decide) (fun d h => Nat.lt_trans (bU _ d h) (by decide)) (fun d2 h1 => ?_) (fun h1 => ?_)
  · rw [← hQ]
    exact r_vret hc hr hlk α (by unfold gnn; rw [h1]) rfl dX0_giveNextNumber_40
  · have hz1 := hz h1
    refine r_aload_n hc dX0_giveNextNumber_10 rfl 0 rfl ?_
    refine r_get hc inlX0 0 rfl rfl 2 (by decide) fl_X0_9 rfl rfl dX0_giveNextNumber_11 ?_
    refine r_iload_n hc dX0_giveNextNumber_14 rfl 1 rfl ?_
    refine r_aload_n hc dX0_giveNextNumber_15 rfl 0 rfl ?_
    refine r_get hc inlX0 0 rfl rfl 6 (by decide) fl_X0_33 rfl rfl dX0_giveNextNumber_16 ?_
    refine r_iast (ws' := wB cI cZ ha h hs1 aU aN aT aG (va_up (tU α) c0 (some (tZ α))) (tN α) (tS α) (tR α) (tZ α)) hc eI (some (tZ α)) 1 rfl (by omega) (by decide) rfl dX0_giveNextNumber_19 ?_
    refine r_aload_n hc dX0_giveNextNumber_20 rfl 0 rfl ?_
    refine r_get hc inlX0 0 rfl rfl 3 (by decide) fl_X0_15 rfl rfl dX0_giveNextNumber_21 ?_
    refine r_aload_n hc dX0_giveNextNumber_24 rfl 0 rfl ?_
    refine r_get hc inlX0 0 rfl rfl 6 (by decide) fl_X0_33 rfl rfl dX0_giveNextNumber_25 ?_
    refine r_iload_n hc dX0_giveNextNumber_28 rfl 1 rfl ?_
    refine r_iast (ws' := wB cI cZ ha h hs1 aU aN aT aG (va_up (tU α) c0 (some (tZ α))) (va_up (tN α) (tZ α) c0) (tS α) (tR α) (tZ α)) hc nI c0 2 rfl (by omega) (by decide) rfl dX0_giveNextNumber_29 ?_
    refine r_aload_n hc dX0_giveNextNumber_30 rfl 0 rfl ?_
    refine r_dup hc dX0_giveNextNumber_31 rfl ?_
    refine r_get hc inlX0 0 rfl rfl 6 (by decide) fl_X0_33 rfl rfl dX0_giveNextNumber_32 ?_
    refine r_iconst (v := (nI 1)) hc dX0_giveNextNumber_35 rfl ?_
    refine n_add hc dX0_giveNextNumber_36 ?_
    refine r_put (ws' := wB cI cZ ha h hs1 aU aN aT aG (va_up (tU α) c0 (some (tZ α))) (va_up (tN α) (tZ α) c0) (tS α) (tR α) ((tZ α) + 1)) hc inlX0 tyX0 tyX0_ok nmX0 0 rfl rfl 6 (by decide) fl_X0_33 rfl rfl rfl rfl (Nat.le_of_ble_eq_true rfl) rfl dX0_giveNextNumber_37 ?_
    rw [← hQ]
    exact r_vret hc hr hlk (va_up (tU α) c0 (some (tZ α)), va_up (tN α) (tZ α) c0, tS α, tR α, (tZ α) + 1) (by unfold gnn; rw [h1]) rfl dX0_giveNextNumber_40
abbrev wF (cI : ClassId) (aU : Nat) (f : Nat → Option Nat) : va_W := [(aU, .inl (cI, 200, .inl (fun j => eI (f j))))]
set_option maxHeartbeats 4000000 in
set_option maxRecDepth 100000 in
/-- Arrays.fill(a, -1) -/
theorem c_fill (l : Launch) (D : va_G) (cI cZ cW : ClassId) (aU : Nat) (f : Nat → Option Nat)  : CtV l yJ7_fill_53178 cJ7_fill_53178 4 none 0 0 0 0 D cI cZ cW [.ref aU, .int (-1)] (wF cI aU f) ([]) (S := Nat → Option Nat) (fun u => u = filI f 200) (fun u => wF cI aU u) := by
  refine CtV.mk (by decide) (Nat.le_of_ble_eq_true rfl) ?_
  intro p e s m args below meth c A hc hr hlk hnm hro
  generalize hQ : MQ below _ args s 0 0 A = Q
  show V p l e (RM 0 0 0 0) s m args below meth c D A 4 0 0 Q (wF cI aU f) 0 [(0, .ref aU), (1, .int (-1))] []
  refine r_iconst (v := (nI 0)) hc dJ7_fill_53178_0 rfl ?_
  refine r_istore_n (lv' := [(2, .int (nI 0)), (0, .ref aU), (1, .int (-1))]) hc dJ7_fill_53178_1 rfl (by decide) rfl ?_
  refine r_aload_n hc dJ7_fill_53178_2 rfl 1 rfl ?_
  refine r_alen (v := nI 200) hc 0 0 rfl rfl rfl dJ7_fill_53178_3 ?_
  refine r_istore_n (lv' := [(3, .int (nI 200)), (2, .int (nI 0)), (0, .ref aU), (1, .int (-1))]) hc dJ7_fill_53178_4 rfl (by decide) rfl ?_
  have lp5 : ∀ (n : Nat) (k : Nat), 200 - k = n → (k ≤ 200) → V p l e (RM 0 0 0 0) s m args below meth c D A 4 0 0 Q (wF cI aU (filI f k)) 5 [(3, .int (nI 200)), (2, .int (nI k)), (0, .ref aU), (1, .int (-1))] [] := by
    intro n
    induction n using Nat.strongRecOn with
    | _ n ih5 =>
    intro k hm5 hk
    refine r_iload_n hc dJ7_fill_53178_5 rfl 1 rfl ?_
    refine r_iload_n hc dJ7_fill_53178_6 rfl 0 rfl ?_
    refine n_icmp_ge hc 20 dJ7_fill_53178_7 (by decide) (by omega) (by omega) (fun h1 => ?_) (fun h1 => ?_)
    · obtain rfl : k = 200 := by omega
      show V p l e (RM 0 0 0 0) s m args below meth c D A 4 0 0 Q (wF cI aU (filI f 200)) 20 [(3, .int (nI 200)), (2, .int (nI 200)), (0, .ref aU), (1, .int (-1))] []
      rw [← hQ]
      exact r_vret hc hr hlk (filI f 200) rfl rfl dJ7_fill_53178_20
    · refine r_aload_n hc dJ7_fill_53178_10 rfl 2 rfl ?_
      refine r_iload_n hc dJ7_fill_53178_11 rfl 1 rfl ?_
      refine r_iload_n hc dJ7_fill_53178_12 rfl 3 rfl ?_
      refine r_iast (ws' := wF cI aU (va_up (filI f k) k none)) hc eI none 0 rfl (by omega) (by decide) rfl dJ7_fill_53178_13 ?_
      refine r_iinc (k := 1) (v := (nI (k + 1))) (lv' := [(2, .int (nI (k + 1))), (3, .int (nI 200)), (0, .ref aU), (1, .int (-1))]) hc dJ7_fill_53178_14 rfl (nI_add _ _) (by decide) rfl ?_
      refine r_goto hc 5 dJ7_fill_53178_17 (by decide) ?_
      refine r_lv [1, 0, 2, 3] rfl ?_
      exact ih5 _ (by omega) (k + 1) rfl (by omega)
  refine r_lv [0, 1, 2, 3] rfl ?_
  exact lp5 _ 0 rfl (Nat.zero_le _)
end
section
theorem gnn_z (c : Nat) (α : AS) : tZ α ≤ tZ (gnn c α) := by unfold gnn; split; exact Nat.le_refl _; show tZ α ≤ tZ α + 1; omega
set_option maxHeartbeats 4000000 in
set_option maxRecDepth 100000 in
/-- giveNumbers() -/
theorem c_giveNumbers (l : Launch) (D : va_G) (cI cZ cW : ClassId) (ha h hs1 aU aN aT aG : Nat) (α : AS) (aE aL aF aR aS : Nat) (σ : CS) (hC6 : sC σ ≤ 6) (N : Nat → Nat → AS → Prop) (hBG : BA (filI (tU α) 200, tN α, tS α, tR α, 0)) (h0 : N 0 0 (gnn 0 (filI (tU α) 200, tN α, tS α, tR α, 0))) (hBN : ∀ k x β, N k x β → BA β) (hN : ∀ k x β, N k x β → k < tZ β → x < sC σ → ∃ d, sE σ (tN β k * 6 + x) = some d ∧ d < 200 ∧ (tU β d = none → tZ β < 200) ∧ N k (x + 1) (gnn d β)) (hO : ∀ k β, N k (sC σ) β → k < tZ β → N (k + 1) 0 β) (hB : BA α) : CtV l yX0_giveNumbers cX0_giveNumbers 3 none 1 23 0 0 D cI cZ cW [.ref ha] (wA cI cZ ha h hs1 aU aN aT aG α) (wS cI cZ h aE aL aF aR aS σ) (S := AS) (fun u => ∃ k, N k 0 u ∧ (tZ u ≤ k ∨ 200 ≤ k)) (fun u => wA cI cZ ha h hs1 aU aN aT aG u) := by
  refine CtV.mk (by decide) (Nat.le_of_ble_eq_true rfl) ?_
  intro p e s m args below meth c A hc hr hlk hnm hro
  generalize hQ : MQ below _ args s 0 0 A = Q
  have hB0 := hB
  obtain ⟨bZ, bN, bU, bG⟩ := hB
  show V p l e (RM 1 23 0 0) s m args below meth c D A 3 0 0 Q (wA cI cZ ha h hs1 aU aN aT aG α) 0 [(0, .ref ha)] []
  refine r_aload_n hc dX0_giveNumbers_0 rfl 0 rfl ?_
  refine r_get hc inlX0 0 rfl rfl 2 (by decide) fl_X0_9 rfl rfl dX0_giveNumbers_1 ?_
  refine r_iconst (v := (-1)) hc dX0_giveNumbers_4 rfl ?_
  refine r_callsV (As := [.ref aU, .int (-1)]) (n := 2) (wr := [(ha, .inr (0, [.ref h, .ref hs1, .ref aU, .ref aN, .ref aT, .ref aG, .int (nI (tZ α))])), (aN, .inl (cI, 200, .inl (fun j => nI (tN α j)))), (aT, .inl (cZ, 200, .inl (fun j => zI (tS α j)))), (aG, .inl (cI, 200, .inl (fun j => nI (tR α j))))]) hc (c_fill l D cI cZ cW aU (tU α)) co_yJ7_fill_53178 in_J7 ml_X0_37 (by decide +kernel) rfl ⟨by decide, by decide⟩ ⟨by decide, by decide⟩ st_yJ7_fill_53178 rfl (Nat.le_of_ble_eq_true rfl) [1] [0, 2, 3, 4] rfl rfl rfl rfl (by decide) (fun q hq => absurd hq List.not_mem_nil) dX0_giveNumbers_5 (fun u0 e0 => ?_)
  subst e0
  refine r_perm (ws' := wB cI cZ ha h hs1 aU aN aT aG (filI (tU α) 200) (tN α) (tS α) (tR α) (tZ α)) [0, 4, 1, 2, 3] rfl rfl ?_
  refine r_aload_n hc dX0_giveNumbers_8 rfl 0 rfl ?_
  refine r_iconst (v := (nI 0)) hc dX0_giveNumbers_9 rfl ?_
  refine r_put (ws' := wB cI cZ ha h hs1 aU aN aT aG (filI (tU α) 200) (tN α) (tS α) (tR α) 0) hc inlX0 tyX0 tyX0_ok nmX0 0 rfl rfl 6 (by decide) fl_X0_33 rfl rfl rfl rfl (Nat.le_of_ble_eq_true rfl) rfl dX0_giveNumbers_10 ?_
  refine r_aload_n hc dX0_giveNumbers_13 rfl 0 rfl ?_
  refine r_iconst (v := (nI 0)) hc dX0_giveNumbers_14 rfl ?_
  show V p l e (RM 1 23 0 0) s m args below meth c D A 3 0 0 Q (wA cI cZ ha h hs1 aU aN aT aG (filI (tU α) 200, tN α, tS α, tR α, 0)) 15 [(0, .ref ha)] [.int (nI 0), .ref ha]
  refine r_callV (As := [.int (nI 0)]) (n := 1) (wr := []) hc (c_gnn l D cI cZ cW ha h hs1 aU aN aT aG (filI (tU α) 200, tN α, tS α, tR α, 0) 0 (by decide) (fun _ => by show 0 < 200; decide) hBG) co_yX0_giveNextNumber in_X0 ml_X0_43 (by decide +kernel) rfl ⟨by decide, by decide⟩ ⟨by decide, by decide⟩ im_yX0_giveNextNumber se_yX0_giveNextNumber rfl (Or.inl ⟨0, _, rfl⟩) rfl (Nat.le_of_ble_eq_true rfl) [0, 1, 2, 3, 4] [] rfl rfl rfl rfl (by decide) (fun q hq => absurd hq List.not_mem_nil) dX0_giveNumbers_15 (fun u e1 => ?_)
  show V p l e (RM 1 23 0 0) s m args below meth c D A 3 0 0 Q (wA cI cZ ha h hs1 aU aN aT aG u) 18 [(0, .ref ha)] []
  subst e1
  refine r_iconst (v := (nI 0)) hc dX0_giveNumbers_18 rfl ?_
  refine r_istore_n (lv' := [(1, .int (nI 0)), (0, .ref ha)]) hc dX0_giveNumbers_19 rfl (by decide) rfl ?_
  have lp20 : ∀ (n : Nat) (β : AS) (k : Nat), 200 - k = n → (k ≤ 200) → (N k 0 β) → V p l e (RM 1 23 0 0) s m args below meth c D A 3 0 0 Q (wA cI cZ ha h hs1 aU aN aT aG β) 20 [(1, .int (nI k)), (0, .ref ha)] [] := by
    intro n
    induction n using Nat.strongRecOn with
    | _ n ih20 =>
    intro β k hm20 hk hN0
    obtain ⟨cZ1, cN1, cU1, cG1⟩ := hBN _ _ _ hN0
    refine r_iload_n hc dX0_giveNumbers_20 rfl 0 rfl ?_
    refine r_aload_n hc dX0_giveNumbers_21 rfl 1 rfl ?_
    refine r_get hc inlX0 0 rfl rfl 6 (by decide) fl_X0_33 rfl rfl dX0_giveNumbers_22 ?_
    refine n_icmp_ge hc 78 dX0_giveNumbers_25 (by decide) (by omega) (by omega) (fun h2 => ?_) (fun h2 => ?_)
    · rw [← hQ]
      exact r_vret hc hr hlk β ⟨k, hN0, Or.inl h2⟩ rfl dX0_giveNumbers_78
    · refine r_iload_n hc dX0_giveNumbers_28 rfl 0 rfl ?_
      refine r_sipush (v := (nI 200)) hc dX0_giveNumbers_29 rfl ?_
      refine n_icmp_ge hc 78 dX0_giveNumbers_32 (by decide) (by omega) (by omega) (fun h3 => ?_) (fun h3 => ?_)
      · rw [← hQ]
        exact r_vret hc hr hlk β ⟨k, hN0, Or.inr h3⟩ rfl dX0_giveNumbers_78
      · refine r_iconst (v := (nI 0)) hc dX0_giveNumbers_35 rfl ?_
        refine r_istore_n (lv' := [(2, .int (nI 0)), (1, .int (nI k)), (0, .ref ha)]) hc dX0_giveNumbers_36 rfl (by decide) rfl ?_
        have lp37 : ∀ (n : Nat) (β : AS) (x0 : Nat), sC σ - x0 = n → (x0 ≤ sC σ) → (N k x0 β) → (k < tZ β) → V p l e (RM 1 23 0 0) s m args below meth c D A 3 0 0 Q (wA cI cZ ha h hs1 aU aN aT aG β) 37 [(2, .int (nI x0)), (1, .int (nI k)), (0, .ref ha)] [] := by
          intro n
          induction n using Nat.strongRecOn with
          | _ n ih37 =>
          intro β x0 hm37 hx hNx hkz
          have hBb := hBN _ _ _ hNx
          obtain ⟨dZ1, dN1, dU1, dG1⟩ := id hBb
          refine r_iload_n hc dX0_giveNumbers_37 rfl 0 rfl ?_
          refine r_aload_n hc dX0_giveNumbers_38 rfl 2 rfl ?_
          refine r_get hc inlX0 0 rfl rfl 0 (by decide) fl_X0_25 rfl rfl dX0_giveNumbers_39 ?_
          refine r_getRN hc inlX1 (hro _ (List.mem_of_getElem? (i := 0) rfl)) rfl 8 (by decide) nf_X0_47 rfl rfl dX0_giveNumbers_42 ?_
          refine n_icmp_ge hc 72 dX0_giveNumbers_45 (by decide) (by omega) (by omega) (fun h4 => ?_) (fun h4 => ?_)
          · obtain ⟨β2, hb2⟩ : ∃ q, q = β := ⟨_, rfl⟩
            have hN2 : N (k + 1) 0 β2 := by rw [hb2]; exact hO k β ((show x0 = sC σ by omega) ▸ hNx) hkz
            rw [← hb2]
            refine r_iinc (k := 1) (v := (nI (k + 1))) (lv' := [(1, .int (nI (k + 1))), (2, .int (nI x0)), (0, .ref ha)]) hc dX0_giveNumbers_72 rfl (nI_add _ _) (by decide) rfl ?_
            refine r_goto hc 20 dX0_giveNumbers_75 (by decide) ?_
            refine r_lv [0, 2] rfl ?_
            exact ih20 _ (by omega) β2 (k + 1) rfl (by omega) hN2
          · obtain ⟨d1, hd1, hd1b, hz1, hN1⟩ := hN k x0 β hNx hkz h4
            have hnk := dN1 k
            refine r_aload_n hc dX0_giveNumbers_48 rfl 2 rfl ?_
            refine r_aload_n hc dX0_giveNumbers_49 rfl 2 rfl ?_
            refine r_get hc inlX0 0 rfl rfl 0 (by decide) fl_X0_25 rfl rfl dX0_giveNumbers_50 ?_
            refine r_aload_n hc dX0_giveNumbers_53 rfl 2 rfl ?_
            refine r_get hc inlX0 0 rfl rfl 3 (by decide) fl_X0_15 rfl rfl dX0_giveNumbers_54 ?_
            refine r_iload_n hc dX0_giveNumbers_57 rfl 1 rfl ?_
            have b5 := dN1 k
            refine r_iald hc nI 2 rfl (by omega) (by decide) dX0_giveNumbers_58 ?_
            refine r_iload_n hc dX0_giveNumbers_59 rfl 0 rfl ?_
            refine r_callI (As := [.int (nI ((tN β) k)), .int (nI x0)]) (n := 2) (wr := wA cI cZ ha h hs1 aU aN aT aG β) hc (c_at l D cI cZ cW h aE aL aF aR aS σ ((tN β) k) x0 (by omega) (by omega)) co_yX1_at in_X1 ml_X0_52 (by decide +kernel) rfl ⟨by decide, by decide⟩ ⟨by decide, by decide⟩ im_yX1_at se_yX1_at rfl (Or.inr ⟨_, (hro _ (List.mem_of_getElem? (i := 0) rfl))⟩) rfl (Nat.le_of_ble_eq_true rfl) [] [0, 1, 2, 3, 4] rfl rfl rfl rfl (by decide) (fun q hq => Or.inr (hro q hq)) dX0_giveNumbers_60 (fun r6 u7 e8 => ?_)
            subst e8
            rw [hd1]
            show V p l e (RM 1 23 0 0) s m args below meth c D A 3 0 0 Q (wA cI cZ ha h hs1 aU aN aT aG β) 63 [(2, .int (nI x0)), (1, .int (nI k)), (0, .ref ha)] [.int (nI d1), .ref ha]
            refine r_callV (As := [.int (nI d1)]) (n := 1) (wr := []) hc (c_gnn l D cI cZ cW ha h hs1 aU aN aT aG β d1 hd1b hz1 hBb) co_yX0_giveNextNumber in_X0 ml_X0_43 (by decide +kernel) rfl ⟨by decide, by decide⟩ ⟨by decide, by decide⟩ im_yX0_giveNextNumber se_yX0_giveNextNumber rfl (Or.inl ⟨0, _, rfl⟩) rfl (Nat.le_of_ble_eq_true rfl) [0, 1, 2, 3, 4] [] rfl rfl rfl rfl (by decide) (fun q hq => absurd hq List.not_mem_nil) dX0_giveNumbers_63 (fun u e9 => ?_)
            show V p l e (RM 1 23 0 0) s m args below meth c D A 3 0 0 Q (wA cI cZ ha h hs1 aU aN aT aG u) 66 [(2, .int (nI x0)), (1, .int (nI k)), (0, .ref ha)] []
            subst e9
            refine r_iinc (k := 0) (v := (nI (x0 + 1))) (lv' := [(2, .int (nI (x0 + 1))), (1, .int (nI k)), (0, .ref ha)]) hc dX0_giveNumbers_66 rfl (nI_add _ _) (by decide) rfl ?_
            refine r_goto hc 37 dX0_giveNumbers_69 (by decide) ?_
            refine r_lv [0, 1, 2] rfl ?_
            exact ih37 _ (by omega) (gnn d1 β) (x0 + 1) rfl (by omega) hN1 (Nat.lt_of_lt_of_le hkz (gnn_z d1 β))
        refine r_lv [0, 1, 2] rfl ?_
        exact lp37 _ β 0 rfl (Nat.zero_le _) hN0 h2
  refine r_lv [0, 1] rfl ?_
  exact lp20 _ (gnn 0 (filI (tU α) 200, tN α, tS α, tR α, 0)) 0 rfl (by decide) h0
/-- the state of the search: marked, reached, how many, the lowest; k of them are through, the next up to word w -/
def LJ (fs : Nat → Nat → Nat) (z ns c0 : Nat) (se : Nat → Bool) (re : Nat → Nat) (cnt low k w : Nat) : Prop :=
  cntT se z = cnt ∧ (∀ j, j < cnt → re j < z ∧ se (re j) = true) ∧ (∀ d, d < z → se d = true → ∃ j, j < cnt ∧ re j = d) ∧ se c0 = true ∧ low < z ∧ se low = true ∧ (∀ d, d < z → se d = true → low ≤ d) ∧
  (∀ j v, j < k → v < ns → se (fs v (re j)) = true) ∧ (∀ v, v < w → se (fs v (re k)) = true) ∧ (∀ P : Nat → Prop, P c0 → (∀ d i, d < z → i < ns → P d → P (fs i d)) → ∀ d, d < z → se d = true → P d) ∧ (∀ j, re j < 200)
theorem LJ_start {fs : Nat → Nat → Nat} {z ns c0 : Nat} {se : Nat → Bool} {re : Nat → Nat} (hc : c0 < z) (hre : ∀ j, re j < 200) (hz : z ≤ 200) (h0 : ∀ i, i < z → se i = false) : LJ fs z ns c0 (va_up se c0 true) (va_up re 0 c0) 1 c0 0 0 := by
  refine ⟨?_, ?_, ?_, ?_, hc, ?_, ?_, ?_, ?_, ?_, ?_⟩
  · rw [cntT_up hc (h0 c0 hc), cntT_0 h0]
  · intro j hj
    obtain rfl : j = 0 := by omega
    simp [va_up, hc]
  · intro d hd h
    refine ⟨0, by decide, ?_⟩
    by_cases hdc : d = c0
    · simp [va_up, hdc]
    · simp [va_up, hdc, h0 d hd] at h
  · simp [va_up]
  · simp [va_up]
  · intro d hd h
    by_cases hdc : d = c0
    · omega
    · simp [va_up, hdc, h0 d hd] at h
  · intro j v hj; omega
  · intro v hv; omega
  · intro P hP _ d hd h
    by_cases hdc : d = c0
    · rw [hdc]; exact hP
    · simp [va_up, hdc, h0 d hd] at h
  · intro j
    by_cases hj : j = 0
    · simp [va_up, hj]; omega
    · simp [va_up, hj]; exact hre j
theorem LJ_seen {fs : Nat → Nat → Nat} {z ns c0 : Nat} {se : Nat → Bool} {re : Nat → Nat} {cnt low k w : Nat} (h : LJ fs z ns c0 se re cnt low k w) (hs : se (fs w (re k)) = true) : LJ fs z ns c0 se re cnt low k (w + 1) := by
  obtain ⟨h1, h2, h3, h4, h5, h6, h7, h8, h9, h10, h11⟩ := h
  refine ⟨h1, h2, h3, h4, h5, h6, h7, h8, fun v hv => ?_, h10, h11⟩
  by_cases hvw : v = w
  · rw [hvw]; exact hs
  · exact h9 v (by omega)
theorem LJ_new {fs : Nat → Nat → Nat} {z ns c0 : Nat} {se : Nat → Bool} {re : Nat → Nat} {cnt low k w : Nat} (h : LJ fs z ns c0 se re cnt low k w) (hk : k < cnt) (hw : w < ns) (hz : z ≤ 200) (hd : fs w (re k) < z) (hs : se (fs w (re k)) = false) :
    cnt < z ∧ LJ fs z ns c0 (va_up se (fs w (re k)) true) (va_up re cnt (fs w (re k))) (cnt + 1) (if fs w (re k) < low then fs w (re k) else low) k (w + 1) := by
  obtain ⟨h1, h2, h3, h4, h5, h6, h7, h8, h9, h10, h11⟩ := h
  have hlt : cnt < z := by rw [← h1]; exact cntT_lt hd hs
  have hup : ∀ i, se i = true → va_up se (fs w (re k)) true i = true := by
    intro i hi; by_cases q : i = fs w (re k)
    · simp [va_up, q]
    · simp [va_up, q, hi]
  have hre : ∀ j, j < cnt → va_up re cnt (fs w (re k)) j = re j := by intro j hj; simp [va_up, show ¬ j = cnt by omega]
  refine ⟨hlt, ?_, ?_, ?_, hup _ h4, ?_, ?_, ?_, ?_, ?_, ?_, ?_⟩
  · rw [cntT_up hd hs, h1]
  · intro j hj
    by_cases q : j = cnt
    · subst q; simp [va_up, hd]
    · rw [hre j (by omega)]; exact ⟨(h2 j (by omega)).1, hup _ (h2 j (by omega)).2⟩
  · intro d hd2 hs2
    by_cases q : d = fs w (re k)
    · exact ⟨cnt, by omega, by simp [va_up, q]⟩
    · have : se d = true := by simpa [va_up, q] using hs2
      obtain ⟨j, hj, e⟩ := h3 d hd2 this
      exact ⟨j, by omega, by rw [hre j hj]; exact e⟩
  · split <;> assumption
  · split
    · simp [va_up]
    · exact hup _ h6
  · intro d hd2 hs2
    by_cases q : d = fs w (re k)
    · subst q; split <;> omega
    · have : se d = true := by simpa [va_up, q] using hs2
      have := h7 d hd2 this
      split <;> omega
  · intro j v hj hv
    rw [hre j (by omega)]; exact hup _ (h8 j v hj hv)
  · intro v hv
    rw [hre k hk]
    by_cases q : v = w
    · subst q; simp [va_up]
    · exact hup _ (h9 v (by omega))
  · intro P hP hcl d hd2 hs2
    by_cases q : d = fs w (re k)
    · subst q; exact hcl _ _ (h2 k hk).1 hw (h10 P hP hcl _ (h2 k hk).1 (h2 k hk).2)
    · exact h10 P hP hcl d hd2 (by simpa [va_up, q] using hs2)
  · intro j
    by_cases q : j = cnt
    · simp [va_up, q]; omega
    · simp [va_up, q]; exact h11 j
theorem LJ_next {fs : Nat → Nat → Nat} {z ns c0 : Nat} {se : Nat → Bool} {re : Nat → Nat} {cnt low k : Nat} (h : LJ fs z ns c0 se re cnt low k ns) : LJ fs z ns c0 se re cnt low (k + 1) 0 := by
  obtain ⟨h1, h2, h3, h4, h5, h6, h7, h8, h9, h10, h11⟩ := h
  refine ⟨h1, h2, h3, h4, h5, h6, h7, fun j v hj hv => ?_, fun v hv => by omega, h10, h11⟩
  by_cases q : j = k
  · rw [q]; exact h9 v hv
  · exact h8 j v (by omega) hv
/-- the answer of lowestJoined -/
def LowR (fs : Nat → Nat → Nat) (z ns c0 low : Nat) : Prop := ∃ se : Nat → Bool, se c0 = true ∧ (∀ d i, d < z → i < ns → se d = true → se (fs i d) = true) ∧ (∀ P : Nat → Prop, P c0 → (∀ d i, d < z → i < ns → P d → P (fs i d)) → ∀ d, d < z → se d = true → P d) ∧ low < z ∧ se low = true ∧ ∀ d, d < z → se d = true → low ≤ d
theorem LJ_end {fs : Nat → Nat → Nat} {z ns c0 : Nat} {se : Nat → Bool} {re : Nat → Nat} {cnt low k : Nat} (h : LJ fs z ns c0 se re cnt low k 0) (hk : cnt ≤ k) : LowR fs z ns c0 low := by
  obtain ⟨h1, h2, h3, h4, h5, h6, h7, h8, h9, h10, h11⟩ := h
  refine ⟨se, h4, fun d i hd hi hs => ?_, h10, h5, h6, h7⟩
  obtain ⟨j, hj, e⟩ := h3 d hd hs
  rw [← e]; exact h8 j i (by omega) hi
theorem frgI_f {se : Nat → Bool} {n i : Nat} (h : i < n) : frgI se n i = false := by
  induction n with
  | zero => omega
  | succ n ih =>
    rw [frgI]
    by_cases q : i = n
    · simp [va_up, q]
    · simp [va_up, q]; exact ih (by omega)
theorem n_min {a b : Nat} (ha : a < 2 ^ 31) (hb : b < 2 ^ 31) : (if nI b < nI a then nI b else nI a) = nI (if b < a then b else a) := by
  by_cases h : b < a
  · rw [if_pos h, if_pos ((nI_ltI hb ha).mpr h)]
  · rw [if_neg h, if_neg (fun q => h ((nI_ltI hb ha).mp q))]
end
section
section RULES4
variable {p : Program} {l : Launch} {e : Env} {R : Room} {s : State} {m : MethodId} {args : Array Value} {below : List Frame} {meth : Method} {c : Code} {D : va_G} {A : Nat → Prop} {nL cells slots : Nat} {Q : State → Prop} {ws : va_W} {pc : Nat} {lv : List (Nat × Value)} {st : List Value}
variable {cc : ByteArray} {own : String} {cI cZ cW : ClassId}
theorem r_lcmp (hc : CX p s m args c cc nL own D cI cZ cW A) {x y : Int64} (hdg : decode cc pc = .ok (.lcmp, 1)) (kk : V p l e R s m args below meth c D A nL cells slots Q ws (pc + 1) lv (.int (lg_cmp x y) :: st)) : V p l e R s m args below meth c D A nL cells slots Q ws pc lv (.long y :: .long x :: st) := fun H locs ls hP hD hS hL => W.lcmp hc.1 hc.2.1 hdg (kk H locs ls hP hD hS hL)
theorem r_i2l (hc : CX p s m args c cc nL own D cI cZ cW A) {x : Int32} {v : Int64} (hdg : decode cc pc = .ok (.i2l, 1)) (hv : x.toInt64 = v) (kk : V p l e R s m args below meth c D A nL cells slots Q ws (pc + 1) lv (.long v :: st)) : V p l e R s m args below meth c D A nL cells slots Q ws pc lv (.int x :: st) := fun H locs ls hP hD hS hL => lv_i2l hc.1 hc.2.1 hdg hv (kk H locs ls hP hD hS hL)
theorem r_lrem (hc : CX p s m args c cc nL own D cI cZ cW A) {x y : Int64} (hdg : decode cc pc = .ok (.lrem, 1)) (hne : ¬ y = 0) (kk : V p l e R s m args below meth c D A nL cells slots Q ws (pc + 1) lv (.long (x - x / y * y) :: st)) : V p l e R s m args below meth c D A nL cells slots Q ws pc lv (.long y :: .long x :: st) := fun H locs ls hP hD hS hL => lv_lrem hc.1 hc.2.1 hdg hne (kk H locs ls hP hD hS hL)
theorem r_ldiv (hc : CX p s m args c cc nL own D cI cZ cW A) {x y : Int64} (hdg : decode cc pc = .ok (.ldiv, 1)) (hne : ¬ y = 0) (kk : V p l e R s m args below meth c D A nL cells slots Q ws (pc + 1) lv (.long (x / y) :: st)) : V p l e R s m args below meth c D A nL cells slots Q ws pc lv (.long y :: .long x :: st) := fun H locs ls hP hD hS hL => lv_ldiv hc.1 hc.2.1 hdg hne (kk H locs ls hP hD hS hL)
theorem r_lmul (hc : CX p s m args c cc nL own D cI cZ cW A) {x y : Int64} (hdg : decode cc pc = .ok (.lmul, 1)) (kk : V p l e R s m args below meth c D A nL cells slots Q ws (pc + 1) lv (.long (x * y) :: st)) : V p l e R s m args below meth c D A nL cells slots Q ws pc lv (.long y :: .long x :: st) := fun H locs ls hP hD hS hL => lv_lmul hc.1 hc.2.1 hdg (kk H locs ls hP hD hS hL)
theorem r_ldc2 (hc : CX p s m args c cc nL own D cI cZ cW A) {index : Nat} {v : Int64} (hcn : Cond.constantLong own index v ∈ wsL_law) (hdg : decode cc pc = .ok (.ldc2_w index, 3)) (kk : V p l e R s m args below meth c D A nL cells slots Q ws (pc + 3) lv (.long v :: st)) : V p l e R s m args below meth c D A nL cells slots Q ws pc lv st := fun H locs ls hP hD hS hL => lv_ldc2 hc.1 hc.2.1 hc.2.2.2.1 (hc.2.2.2.2.1 _ hcn) hdg (kk H locs ls hP hD hS hL)
theorem cmp_le (x y : Int64) : lg_cmp x y ≤ 0 ↔ ¬ y < x := by
  unfold lg_cmp
  by_cases h : x > y
  · rw [if_pos h]; exact ⟨fun q => absurd q (by decide), fun q => absurd h q⟩
  · rw [if_neg h]
    refine ⟨fun _ => h, fun _ => ?_⟩
    split <;> decide
theorem c_if_le (hc : CX p s m args c cc nL own D cI cZ cW A) {x y : Int64} {off : Int} (tgt : Nat) (hdg : decode cc pc = .ok (.ifCond .le off, 3)) (ht : (pc : Int) + off = (tgt : Int)) (kt : ¬ y < x → V p l e R s m args below meth c D A nL cells slots Q ws tgt lv st) (kf : y < x → V p l e R s m args below meth c D A nL cells slots Q ws (pc + 3) lv st) : V p l e R s m args below meth c D A nL cells slots Q ws pc lv (.int (lg_cmp x y) :: st) := r_if_le hc tgt hdg ht (fun h => kt ((cmp_le x y).mp h)) (fun h => kf (Decidable.byContradiction fun q => h ((cmp_le x y).mpr q)))
theorem r_mmin (hc : CX p s m args c cc nL own D cI cZ cW A) {index a b : Nat} (hml : Cond.methodLink own index Lib.Math.min.name ∈ wsL_law) (ha : a < 2 ^ 31) (hb : b < 2 ^ 31) (hfr : 1 ≤ R.frames) (hlo : (st.map fun v => v.category).sum + 13 ≤ R.locals) (hce : cells ≤ R.cells ∧ slots ≤ R.slots) (hdg : decode cc pc = .ok (.invokestatic index, 3)) (kk : V p l e R s m args below meth c D A nL cells slots Q ws (pc + 3) lv (.int (nI (if b < a then b else a)) :: st)) : V p l e R s m args below meth c D A nL cells slots Q ws pc lv (.int (nI b) :: .int (nI a) :: st) :=
  fun H locs ls hP hD hS hL => va_mmin hc.1 hc.2.1 (hc.2.2.1.trans hL.1.symm) hc.2.2.2.1 (hc.2.2.2.2.1 _ hml) (hc.2.2.2.2.1 _ st_Math_min) (hc.2.2.2.2.1 _ in_java_lang_Math) (hc.2.2.2.2.1 _ co_Math_min) hfr hlo hce.1 hce.2 hdg (by rw [n_min ha hb]; exact kk H locs ls hP hD hS hL)
end RULES4
theorem lrem_toInt (a b : Int64) (hb : 0 < b) : (a - a / b * b).toInt = a.toInt.tmod b.toInt := by
  have h : a - a / b * b = Int64.ofInt (a.toInt - a.toInt.tdiv b.toInt * b.toInt) := by
    rw [Int64.ofInt_sub, Int64.ofInt_mul, Int64.ofInt_tdiv (Int64.minValue_le_toInt a) (Int64.toInt_le a) (Int64.minValue_le_toInt b) (Int64.toInt_le b), Int64.ofInt_toInt, Int64.ofInt_toInt]
  have hb2 : 0 < b.toInt := by simpa using (Int64.lt_iff_toInt_lt.mp hb)
  have e : a.toInt - a.toInt.tdiv b.toInt * b.toInt = a.toInt.tmod b.toInt := by rw [Int.tmod_def, Int.mul_comm]
  have h1 := Int.tmod_lt_of_pos a.toInt hb2
  have h2 : -b.toInt < a.toInt.tmod b.toInt := Int.lt_tmod_of_pos _ hb2
  have h3 := Int64.toInt_lt b
  rw [h, e, Int64.toInt_ofInt_of_le (by omega) (by omega)]
def gl (fu : Nat) (a b : Int64) : Int64 := match fu with | 0 => a | fu + 1 => if 0 < b then gl fu b (a - a / b * b) else a
def gcL (a b : Int64) : Int64 := gl (b.toInt.toNat + 1) a b
theorem rem_lt (a b : Int64) (hb : 0 < b) : (a - a / b * b).toInt.toNat < b.toInt.toNat := by
  have hb2 : 0 < b.toInt := by simpa using (Int64.lt_iff_toInt_lt.mp hb)
  have h1 := Int.tmod_lt_of_pos a.toInt hb2
  rw [lrem_toInt a b hb]; omega
theorem gl_fuel (n : Nat) : ∀ (a b : Int64), b.toInt.toNat ≤ n → ∀ k, b.toInt.toNat + 1 ≤ k → gl k a b = gl (b.toInt.toNat + 1) a b := by
  induction n with
  | zero =>
    intro a b hb k hk
    obtain ⟨j, rfl⟩ : ∃ j, k = j + 1 := ⟨k - 1, by omega⟩
    have : ¬ 0 < b := fun q => by
      have hb2 : 0 < b.toInt := by simpa using (Int64.lt_iff_toInt_lt.mp q)
      omega
    rw [gl, gl, if_neg this, if_neg this]
  | succ n ih =>
    intro a b hb k hk
    obtain ⟨j, rfl⟩ : ∃ j, k = j + 1 := ⟨k - 1, by omega⟩
    rw [gl, gl]
    split
    · rename_i h
      have := rem_lt a b h
      rw [ih b _ (by omega) j (by omega), ih b _ (by omega) b.toInt.toNat (by omega)]
    · rfl
theorem gcL_step {a b : Int64} (hb : 0 < b) : gcL a b = gcL b (a - a / b * b) := by
  have := rem_lt a b hb
  rw [gcL, gl, if_pos hb, gcL, gl_fuel _ b _ (Nat.le_refl _) b.toInt.toNat (by omega)]
theorem gcL_stop {a b : Int64} (hb : ¬ 0 < b) : gcL a b = a := by rw [gcL, gl, if_neg hb]
def lcL (a b : Int64) : Int64 := a / gcL a b * b
def ooI (f : Nat → Nat) (z : Nat) (se0 : Nat → Bool) (k : Nat) : (Nat → Bool) × Int64 := match k with
  | 0 => (se0, 1)
  | k + 1 => ((cyc f z (ooI f z se0 k).1 k 0).1, if 0 < (cyc f z (ooI f z se0 k).1 k 0).2 then lcL (ooI f z se0 k).2 (lN (cyc f z (ooI f z se0 k).1 k 0).2) else (ooI f z se0 k).2)
theorem ooI_p {f : Nat → Nat} {z : Nat} {se0 se : Nat → Bool} {k : Nat} {n : Int64} (h : ooI f z se0 k = (se, n)) (hC : 0 < (cyc f z se k 0).2) : ooI f z se0 (k + 1) = ((cyc f z se k 0).1, lcL n (lN (cyc f z se k 0).2)) := by
  rw [ooI, h]; simp only; rw [if_pos hC]
theorem ooI_n {f : Nat → Nat} {z : Nat} {se0 se : Nat → Bool} {k : Nat} {n : Int64} (h : ooI f z se0 k = (se, n)) (hC : (cyc f z se k 0).2 = 0) : ooI f z se0 (k + 1) = ((cyc f z se k 0).1, n) := by
  rw [ooI, h]; simp only; rw [if_neg (by omega)]
set_option maxHeartbeats 4000000 in
set_option maxRecDepth 100000 in
/-- leastCommonMultiple(a0, b0) -/
theorem c_lcm (l : Launch) (D : va_G) (cI cZ cW : ClassId) (a0 b0 : Int64) (hb0 : 0 < b0) (hbn : b0.toInt.toNat ≤ 200) : CtL l yX0_leastCommonMultiple cX0_leastCommonMultiple 11 (some .long) 0 0 0 0 D cI cZ cW [.long a0, .long b0] ([]) ([]) (S := Unit) (fun r _ => r = lcL a0 b0) (fun _ => []) := by
  refine CtL.mk (by decide) (Nat.le_of_ble_eq_true rfl) ?_
  intro p e s m args below meth c A hc hr hlk hnm hro
  generalize hQ : MQ below _ args s 0 0 A = Q
  show V p l e (RM 0 0 0 0) s m args below meth c D A 11 0 0 Q ([]) 0 [(0, .long a0), (2, .long b0)] []
  refine r_lload_n hc dX0_leastCommonMultiple_0 rfl 0 rfl ?_
  refine r_lstore (lv' := [(4, .long a0), (0, .long a0), (2, .long b0)]) hc dX0_leastCommonMultiple_1 (by decide) rfl ?_
  refine r_lload_n hc dX0_leastCommonMultiple_3 rfl 2 rfl ?_
  refine r_lstore (lv' := [(6, .long b0), (4, .long a0), (0, .long a0), (2, .long b0)]) hc dX0_leastCommonMultiple_4 (by decide) rfl ?_
  refine r_iconst (v := (nI 0)) hc dX0_leastCommonMultiple_6 rfl ?_
  refine r_istore (lv' := [(8, .int (nI 0)), (6, .long b0), (4, .long a0), (0, .long a0), (2, .long b0)]) hc dX0_leastCommonMultiple_7 (by decide) rfl ?_
  have lp9 : ∀ (n : Nat) (x1 y1 : Int64) (i : Nat), y1.toInt.toNat = n → (gcL x1 y1 = gcL a0 b0) → (0 < y1 ∨ 0 < x1) → (i + y1.toInt.toNat ≤ 200) → V p l e (RM 0 0 0 0) s m args below meth c D A 11 0 0 Q ([]) 9 [(8, .int (nI i)), (6, .long y1), (4, .long x1), (0, .long a0), (2, .long b0)] [] := by
    intro n
    induction n using Nat.strongRecOn with
    | _ n ih9 =>
    intro x1 y1 i hm9 hg hxy hiy
    refine r_iload hc dX0_leastCommonMultiple_9 0 rfl ?_
    refine r_ldc hc cn_X0_94 dX0_leastCommonMultiple_11 ?_
    rw [show (1000000 : Int32) = nI 1000000 from rfl]
    refine n_icmp_ge hc 44 dX0_leastCommonMultiple_13 (by decide) (by omega) (by omega) (fun h1 => ?_) (fun h1 => ?_)
    · exact absurd h1 (by omega)
    · refine r_lload hc dX0_leastCommonMultiple_16 1 rfl ?_
      refine r_lconst (v := 0) hc dX0_leastCommonMultiple_18 rfl ?_
      refine r_lcmp hc dX0_leastCommonMultiple_19 ?_
      refine c_if_le hc 44 dX0_leastCommonMultiple_20 (by decide) (fun h2 => ?_) (fun h2 => ?_)
      · have hx0 : 0 < x1 := hxy.resolve_left h2
        have hx1 : ¬ x1 = 0 := fun q => by rw [q] at hx0; exact absurd hx0 (by decide)
        refine r_lload hc dX0_leastCommonMultiple_44 2 rfl ?_
        refine r_lconst (v := 0) hc dX0_leastCommonMultiple_46 rfl ?_
        refine r_lcmp hc dX0_leastCommonMultiple_47 ?_
        refine c_if_le hc 60 dX0_leastCommonMultiple_48 (by decide) (fun h3 => ?_) (fun h3 => ?_)
        · exact absurd hx0 h3
        · refine r_lload_n hc dX0_leastCommonMultiple_51 rfl 3 rfl ?_
          refine r_lload hc dX0_leastCommonMultiple_52 2 rfl ?_
          refine r_ldiv hc dX0_leastCommonMultiple_54 hx1 ?_
          refine r_lload_n hc dX0_leastCommonMultiple_55 rfl 4 rfl ?_
          refine r_lmul hc dX0_leastCommonMultiple_56 ?_
          refine r_goto hc 61 dX0_leastCommonMultiple_57 (by decide) ?_
          rw [← hQ]
          exact r_lret hc hr hlk () (by show _ = lcL a0 b0; rw [lcL, ← hg, gcL_stop h2]) rfl dX0_leastCommonMultiple_61
      · have hy0 : ¬ y1 = 0 := fun q => by rw [q] at h2; exact absurd h2 (by decide)
        refine r_lload hc dX0_leastCommonMultiple_23 2 rfl ?_
        refine r_lload hc dX0_leastCommonMultiple_25 1 rfl ?_
        refine r_lrem hc dX0_leastCommonMultiple_27 hy0 ?_
        refine r_lstore (lv' := [(9, .long (x1 - x1 / y1 * y1)), (8, .int (nI i)), (6, .long y1), (4, .long x1), (0, .long a0), (2, .long b0)]) hc dX0_leastCommonMultiple_28 (by decide) rfl ?_
        refine r_lload hc dX0_leastCommonMultiple_30 2 rfl ?_
        refine r_lstore (lv' := [(4, .long y1), (9, .long (x1 - x1 / y1 * y1)), (8, .int (nI i)), (6, .long y1), (0, .long a0), (2, .long b0)]) hc dX0_leastCommonMultiple_32 (by decide) rfl ?_
        refine r_lload hc dX0_leastCommonMultiple_34 1 rfl ?_
        refine r_lstore (lv' := [(6, .long (x1 - x1 / y1 * y1)), (4, .long y1), (9, .long (x1 - x1 / y1 * y1)), (8, .int (nI i)), (0, .long a0), (2, .long b0)]) hc dX0_leastCommonMultiple_36 (by decide) rfl ?_
        refine r_iinc (k := 3) (v := (nI (i + 1))) (lv' := [(8, .int (nI (i + 1))), (6, .long (x1 - x1 / y1 * y1)), (4, .long y1), (9, .long (x1 - x1 / y1 * y1)), (0, .long a0), (2, .long b0)]) hc dX0_leastCommonMultiple_38 rfl (nI_add _ _) (by decide) rfl ?_
        refine r_goto hc 9 dX0_leastCommonMultiple_41 (by decide) ?_
        refine r_lv [0, 1, 2, 4, 5] rfl ?_
        exact ih9 _ (by rw [← hm9]; exact rem_lt x1 y1 h2) y1 (x1 - x1 / y1 * y1) (i + 1) rfl (by rw [← hg]; exact (gcL_step h2).symm) (Or.inr h2) (by have := rem_lt x1 y1 h2; omega)
  refine r_lv [0, 1, 2, 3, 4] rfl ?_
  exact lp9 _ a0 b0 0 rfl rfl (Or.inl hb0) (by omega)
set_option maxHeartbeats 4000000 in
set_option maxRecDepth 100000 in
/-- orderOf(word) -/
theorem c_orderOf (l : Launch) (D : va_G) (cI cZ cW : ClassId) (ha h hs1 aU aN aT aG : Nat) (α : AS) (aE aL aF aR aS : Nat) (σ : CS) (hw aw : Nat) (col : Nat → Nat) (len : Nat) (hl : len ≤ 24) (hcol : ∀ j, col j < 6) (f : Nat → Nat) (hf : ImF (sE σ) (tU α) (tN α) (tZ α) col len f) (hB : BA α) : CtL l yX0_orderOf cX0_orderOf 6 (some .long) 3 70 0 0 D cI cZ cW [.ref ha, .ref hw] (wA cI cZ ha h hs1 aU aN aT aG α) (wS cI cZ h aE aL aF aR aS σ ++ wW cI hw aw col len) (S := AS) (fun r u => r = (ooI f (tZ α) (frgI (tS α) (tZ α)) (tZ α)).2 ∧ ∃ se, u = (tU α, tN α, se, tR α, tZ α)) (fun u => wA cI cZ ha h hs1 aU aN aT aG u) := by
  refine CtL.mk (by decide) (Nat.le_of_ble_eq_true rfl) ?_
  intro p e s m args below meth c A hc hr hlk hnm hro
  generalize hQ : MQ below _ args s 0 0 A = Q
  have hB0 := hB
  obtain ⟨bZ, bN, bU, bG⟩ := hB
  show V p l e (RM 3 70 0 0) s m args below meth c D A 6 0 0 Q (wA cI cZ ha h hs1 aU aN aT aG α) 0 [(0, .ref ha), (1, .ref hw)] []
  refine r_aload_n hc dX0_orderOf_0 rfl 0 rfl ?_
  refine r_callV (As := []) (n := 0) (wr := []) hc (c_forgetSeen l D cI cZ cW ha h hs1 aU aN aT aG α hB0) co_yX0_forgetSeen in_X0 ml_X0_63 (by decide +kernel) rfl ⟨by decide, by decide⟩ ⟨by decide, by decide⟩ im_yX0_forgetSeen se_yX0_forgetSeen rfl (Or.inl ⟨0, _, rfl⟩) rfl (Nat.le_of_ble_eq_true rfl) [0, 1, 2, 3, 4] [] rfl rfl rfl rfl (by decide) (fun q hq => absurd hq List.not_mem_nil) dX0_orderOf_1 (fun u e1 => ?_)
  show V p l e (RM 3 70 0 0) s m args below meth c D A 6 0 0 Q (wA cI cZ ha h hs1 aU aN aT aG u) 4 [(0, .ref ha), (1, .ref hw)] []
  subst e1
  show V p l e (RM 3 70 0 0) s m args below meth c D A 6 0 0 Q (wB cI cZ ha h hs1 aU aN aT aG (tU α) (tN α) (frgI (tS α) (tZ α)) (tR α) (tZ α)) 4 [(0, .ref ha), (1, .ref hw)] []
  refine r_lconst (v := 1) hc dX0_orderOf_4 rfl ?_
  refine r_lstore_n (lv' := [(2, .long 1), (0, .ref ha), (1, .ref hw)]) hc dX0_orderOf_5 rfl (by decide) rfl ?_
  refine r_iconst (v := (nI 0)) hc dX0_orderOf_6 rfl ?_
  refine r_istore (lv' := [(4, .int (nI 0)), (2, .long 1), (0, .ref ha), (1, .ref hw)]) hc dX0_orderOf_7 (by decide) rfl ?_
  have lp9 : ∀ (n : Nat) (se : Nat → Bool) (n0 : Int64) (k : Nat), tZ α - k = n → (k ≤ tZ α) → (ooI f (tZ α) (frgI (tS α) (tZ α)) k = (se, n0)) → V p l e (RM 3 70 0 0) s m args below meth c D A 6 0 0 Q (wB cI cZ ha h hs1 aU aN aT aG (tU α) (tN α) se (tR α) (tZ α)) 9 [(4, .int (nI k)), (2, .long n0), (0, .ref ha), (1, .ref hw)] [] := by
    intro n
    induction n using Nat.strongRecOn with
    | _ n ih9 =>
    intro se n0 k hm9 hk hcc
    refine r_iload hc dX0_orderOf_9 0 rfl ?_
    refine r_aload_n hc dX0_orderOf_11 rfl 2 rfl ?_
    refine r_get hc inlX0 0 rfl rfl 6 (by decide) fl_X0_33 rfl rfl dX0_orderOf_12 ?_
    refine n_icmp_ge hc 46 dX0_orderOf_15 (by decide) (by omega) (by omega) (fun h2 => ?_) (fun h2 => ?_)
    · refine r_lload_n hc dX0_orderOf_46 rfl 1 rfl ?_
      rw [← hQ]
      have hz : ooI f (tZ α) (frgI (tS α) (tZ α)) (tZ α) = (se, n0) := by rw [← hcc, show k = tZ α by omega]
      exact r_lret hc hr hlk (tU α, tN α, se, tR α, tZ α) ⟨by rw [hz], ⟨se, rfl⟩⟩ rfl dX0_orderOf_47
    · refine r_aload_n hc dX0_orderOf_18 rfl 2 rfl ?_
      refine r_aload_n hc dX0_orderOf_19 rfl 3 rfl ?_
      refine r_iload hc dX0_orderOf_20 0 rfl ?_
      refine r_callI (As := [.ref hw, .int (nI k)]) (n := 2) (wr := []) hc (c_seeCycle l D cI cZ cW ha h hs1 aU aN aT aG (tU α, tN α, se, tR α, tZ α) aE aL aF aR aS σ hw aw col len k (by show k < tZ α; omega) hl hcol f hf (show BA (tU α, tN α, se, tR α, tZ α) from ⟨bZ, bN, bU, bG⟩)) co_yX0_seeCycle in_X0 ml_X0_66 (by decide +kernel) rfl ⟨by decide, by decide⟩ ⟨by decide, by decide⟩ im_yX0_seeCycle se_yX0_seeCycle rfl (Or.inl ⟨0, _, rfl⟩) rfl (Nat.le_of_ble_eq_true rfl) [0, 1, 2, 3, 4] [] rfl rfl rfl rfl (by decide) (fun q hq => Or.inr (hro q hq)) dX0_orderOf_22 (fun r0 u e3 => ?_)
      show V p l e (RM 3 70 0 0) s m args below meth c D A 6 0 0 Q (wA cI cZ ha h hs1 aU aN aT aG u) 25 [(4, .int (nI k)), (2, .long n0), (0, .ref ha), (1, .ref hw)] [.int r0]
      obtain ⟨rfl, rfl⟩ := e3
      show V p l e (RM 3 70 0 0) s m args below meth c D A 6 0 0 Q (wB cI cZ ha h hs1 aU aN aT aG (tU α) (tN α) ((cyc f (tZ α) se k 0).1) (tR α) (tZ α)) 25 [(4, .int (nI k)), (2, .long n0), (0, .ref ha), (1, .ref hw)] [.int (nI ((cyc f (tZ α) se k 0).2))]
      have hle : (cyc f (tZ α) se k 0).2 ≤ 0 + tZ α := cyc_le
      refine r_istore (lv' := [(5, .int (nI ((cyc f (tZ α) se k 0).2))), (4, .int (nI k)), (2, .long n0), (0, .ref ha), (1, .ref hw)]) hc dX0_orderOf_25 (by decide) rfl ?_
      refine r_iload hc dX0_orderOf_27 0 rfl ?_
      refine n_if_le hc 40 dX0_orderOf_29 (by decide) (by omega) (fun h4 => ?_) (fun h4 => ?_)
      · refine r_iinc (k := 1) (v := (nI (k + 1))) (lv' := [(4, .int (nI (k + 1))), (5, .int (nI ((cyc f (tZ α) se k 0).2))), (2, .long n0), (0, .ref ha), (1, .ref hw)]) hc dX0_orderOf_40 rfl (nI_add _ _) (by decide) rfl ?_
        refine r_goto hc 9 dX0_orderOf_43 (by decide) ?_
        refine r_lv [0, 2, 3, 4] rfl ?_
        exact ih9 _ (by omega) _ n0 (k + 1) rfl (by omega) (ooI_n hcc h4)
      · refine r_lload_n hc dX0_orderOf_32 rfl 2 rfl ?_
        refine r_iload hc dX0_orderOf_33 0 rfl ?_
        refine r_i2l (v := lN ((cyc f (tZ α) se k 0).2)) hc dX0_orderOf_35 (nI_l (by omega)) ?_
        have hLp : (0 : Int64) < lN (cyc f (tZ α) se k 0).2 := by rw [← show lN 0 = (0 : Int64) from rfl]; exact (pk_lLT (by decide) (by omega)).mpr h4
        have hLn : (lN (cyc f (tZ α) se k 0).2).toInt.toNat ≤ 200 := by rw [pk_lT (by omega)]; omega
        refine r_callsL (As := [.long n0, .long (lN ((cyc f (tZ α) se k 0).2))]) (n := 2) (wr := wB cI cZ ha h hs1 aU aN aT aG (tU α) (tN α) ((cyc f (tZ α) se k 0).1) (tR α) (tZ α)) hc (c_lcm l D cI cZ cW n0 (lN (cyc f (tZ α) se k 0).2) hLp hLn) co_yX0_leastCommonMultiple in_X0 ml_X0_70 (by decide +kernel) rfl ⟨by decide, by decide⟩ ⟨by decide, by decide⟩ st_yX0_leastCommonMultiple rfl (Nat.le_of_ble_eq_true rfl) [] [0, 1, 2, 3, 4] rfl rfl rfl rfl (by decide) (fun q hq => absurd hq List.not_mem_nil) dX0_orderOf_36 (fun r5 u6 e7 => ?_)
        subst e7
        show V p l e (RM 3 70 0 0) s m args below meth c D A 6 0 0 Q (wB cI cZ ha h hs1 aU aN aT aG (tU α) (tN α) ((cyc f (tZ α) se k 0).1) (tR α) (tZ α)) 39 [(5, .int (nI ((cyc f (tZ α) se k 0).2))), (4, .int (nI k)), (2, .long n0), (0, .ref ha), (1, .ref hw)] [.long (lcL n0 (lN (cyc f (tZ α) se k 0).2))]
        refine r_lstore_n (lv' := [(2, .long (lcL n0 (lN (cyc f (tZ α) se k 0).2))), (5, .int (nI ((cyc f (tZ α) se k 0).2))), (4, .int (nI k)), (0, .ref ha), (1, .ref hw)]) hc dX0_orderOf_39 rfl (by decide) rfl ?_
        refine r_iinc (k := 2) (v := (nI (k + 1))) (lv' := [(4, .int (nI (k + 1))), (2, .long (lcL n0 (lN (cyc f (tZ α) se k 0).2))), (5, .int (nI ((cyc f (tZ α) se k 0).2))), (0, .ref ha), (1, .ref hw)]) hc dX0_orderOf_40 rfl (nI_add _ _) (by decide) rfl ?_
        refine r_goto hc 9 dX0_orderOf_43 (by decide) ?_
        refine r_lv [0, 1, 3, 4] rfl ?_
        exact ih9 _ (by omega) _ _ (k + 1) rfl (by omega) (ooI_p hcc h4)
  refine r_lv [0, 1, 2, 3] rfl ?_
  exact lp9 _ (frgI (tS α) (tZ α)) 1 0 rfl (Nat.zero_le _) rfl
end
section
set_option maxHeartbeats 4000000 in
set_option maxRecDepth 100000 in
/-- lowestJoined(c0) -/
theorem c_lowestJoined (l : Launch) (D : va_G) (cI cZ cW : ClassId) (ha h hs1 aU aN aT aG : Nat) (α : AS) (aE aL aF aR aS : Nat) (σ : CS) (as : Nat) (swa sca : Nat → Nat) (scol : Nat → Nat → Nat) (slen : Nat → Nat) (ns : Nat) (c0 : Nat) (hc0 : c0 < tZ α) (hsl : ∀ i, i < ns → 1 ≤ slen i ∧ slen i ≤ 24 ∧ ∀ j, scol i j < 6) (hns : ns ≤ 5) (fs : Nat → Nat → Nat) (hfs : ∀ i, i < ns → ImF (sE σ) (tU α) (tN α) (tZ α) (scol i) (slen i) (fs i)) (hB : BA α) : CtI l yX0_lowestJoined cX0_lowestJoined 7 (some .int) 2 46 0 0 D cI cZ cW [.ref ha, .int (nI c0)] (wA cI cZ ha h hs1 aU aN aT aG α) (wS cI cZ h aE aL aF aR aS σ ++ wL cI cW hs1 as 5 swa sca scol slen ns) (S := AS) (fun r u => (∃ low, r = nI low ∧ LowR fs (tZ α) ns c0 low) ∧ ∃ se re, u = (tU α, tN α, se, re, tZ α) ∧ ∀ j, re j < 200) (fun u => wA cI cZ ha h hs1 aU aN aT aG u) := by
  refine CtI.mk (by decide) (Nat.le_of_ble_eq_true rfl) ?_
  intro p e s m args below meth c A hc hr hlk hnm hro
  generalize hQ : MQ below _ args s 0 0 A = Q
  have hB0 := hB
  obtain ⟨bZ, bN, bU, bG⟩ := hB
  show V p l e (RM 2 46 0 0) s m args below meth c D A 7 0 0 Q (wA cI cZ ha h hs1 aU aN aT aG α) 0 [(0, .ref ha), (1, .int (nI c0))] []
  refine r_aload_n hc dX0_lowestJoined_0 rfl 0 rfl ?_
  refine r_callV (As := []) (n := 0) (wr := []) hc (c_forgetSeen l D cI cZ cW ha h hs1 aU aN aT aG α hB0) co_yX0_forgetSeen in_X0 ml_X0_63 (by decide +kernel) rfl ⟨by decide, by decide⟩ ⟨by decide, by decide⟩ im_yX0_forgetSeen se_yX0_forgetSeen rfl (Or.inl ⟨0, _, rfl⟩) rfl (Nat.le_of_ble_eq_true rfl) [0, 1, 2, 3, 4] [] rfl rfl rfl rfl (by decide) (fun q hq => absurd hq List.not_mem_nil) dX0_lowestJoined_1 (fun u e1 => ?_)
  show V p l e (RM 2 46 0 0) s m args below meth c D A 7 0 0 Q (wA cI cZ ha h hs1 aU aN aT aG u) 4 [(0, .ref ha), (1, .int (nI c0))] []
  subst e1
  show V p l e (RM 2 46 0 0) s m args below meth c D A 7 0 0 Q (wB cI cZ ha h hs1 aU aN aT aG (tU α) (tN α) (frgI (tS α) (tZ α)) (tR α) (tZ α)) 4 [(0, .ref ha), (1, .int (nI c0))] []
  refine r_aload_n hc dX0_lowestJoined_4 rfl 0 rfl ?_
  refine r_get hc inlX0 0 rfl rfl 4 (by decide) fl_X0_18 rfl rfl dX0_lowestJoined_5 ?_
  refine r_iload_n hc dX0_lowestJoined_8 rfl 1 rfl ?_
  refine r_iconst (v := (nI 1)) hc dX0_lowestJoined_9 rfl ?_
  refine r_zast (ws' := wB cI cZ ha h hs1 aU aN aT aG (tU α) (tN α) (va_up (frgI (tS α) (tZ α)) c0 true) (tR α) (tZ α)) hc true 3 rfl (by omega) (by decide) rfl dX0_lowestJoined_10 ?_
  refine r_aload_n hc dX0_lowestJoined_11 rfl 0 rfl ?_
  refine r_get hc inlX0 0 rfl rfl 5 (by decide) fl_X0_22 rfl rfl dX0_lowestJoined_12 ?_
  refine r_iconst (v := (nI 0)) hc dX0_lowestJoined_15 rfl ?_
  refine r_iload_n hc dX0_lowestJoined_16 rfl 1 rfl ?_
  refine r_iast (ws' := wB cI cZ ha h hs1 aU aN aT aG (tU α) (tN α) (va_up (frgI (tS α) (tZ α)) c0 true) (va_up (tR α) 0 c0) (tZ α)) hc nI c0 4 rfl (by omega) (by decide) rfl dX0_lowestJoined_17 ?_
  refine r_iconst (v := (nI 1)) hc dX0_lowestJoined_18 rfl ?_
  refine r_istore_n (lv' := [(2, .int (nI 1)), (0, .ref ha), (1, .int (nI c0))]) hc dX0_lowestJoined_19 rfl (by decide) rfl ?_
  refine r_iload_n hc dX0_lowestJoined_20 rfl 2 rfl ?_
  refine r_istore_n (lv' := [(3, .int (nI c0)), (2, .int (nI 1)), (0, .ref ha), (1, .int (nI c0))]) hc dX0_lowestJoined_21 rfl (by decide) rfl ?_
  refine r_iconst (v := (nI 0)) hc dX0_lowestJoined_22 rfl ?_
  refine r_istore (lv' := [(4, .int (nI 0)), (3, .int (nI c0)), (2, .int (nI 1)), (0, .ref ha), (1, .int (nI c0))]) hc dX0_lowestJoined_23 (by decide) rfl ?_
  have lp25 : ∀ (n : Nat) (se : Nat → Bool) (re : Nat → Nat) (cnt low k : Nat), tZ α - k = n → (LJ fs (tZ α) ns c0 se re cnt low k 0) → (k ≤ tZ α) → V p l e (RM 2 46 0 0) s m args below meth c D A 7 0 0 Q (wB cI cZ ha h hs1 aU aN aT aG (tU α) (tN α) se re (tZ α)) 25 [(4, .int (nI k)), (3, .int (nI low)), (2, .int (nI cnt)), (0, .ref ha), (1, .int (nI c0))] [] := by
    intro n
    induction n using Nat.strongRecOn with
    | _ n ih25 =>
    intro se re cnt low k hm25 hL hkz
    have hcnt : cnt ≤ tZ α := by rw [← hL.1]; exact cntT_le _ _
    have hlow := hL.2.2.2.2.1
    refine r_iload hc dX0_lowestJoined_25 0 rfl ?_
    refine r_iload_n hc dX0_lowestJoined_27 rfl 2 rfl ?_
    refine n_icmp_ge hc 126 dX0_lowestJoined_28 (by decide) (by omega) (by omega) (fun h2 => ?_) (fun h2 => ?_)
    · refine r_iload_n hc dX0_lowestJoined_126 rfl 1 rfl ?_
      rw [← hQ]
      exact r_iret hc hr hlk (tU α, tN α, se, re, tZ α) ⟨⟨low, rfl, LJ_end hL (by omega)⟩, ⟨se, re, rfl, hL.2.2.2.2.2.2.2.2.2.2⟩⟩ rfl dX0_lowestJoined_127
    · refine r_iload hc dX0_lowestJoined_31 0 rfl ?_
      refine r_aload_n hc dX0_lowestJoined_33 rfl 3 rfl ?_
      refine r_get hc inlX0 0 rfl rfl 6 (by decide) fl_X0_33 rfl rfl dX0_lowestJoined_34 ?_
      refine n_icmp_ge hc 126 dX0_lowestJoined_37 (by decide) (by omega) (by omega) (fun h3 => ?_) (fun h3 => ?_)
      · refine r_iload_n hc dX0_lowestJoined_126 rfl 1 rfl ?_
        rw [← hQ]
        exact r_iret hc hr hlk (tU α, tN α, se, re, tZ α) ⟨⟨low, rfl, LJ_end hL (by omega)⟩, ⟨se, re, rfl, hL.2.2.2.2.2.2.2.2.2.2⟩⟩ rfl dX0_lowestJoined_127
      · refine r_iconst (v := (nI 0)) hc dX0_lowestJoined_40 rfl ?_
        refine r_istore (lv' := [(5, .int (nI 0)), (4, .int (nI k)), (3, .int (nI low)), (2, .int (nI cnt)), (0, .ref ha), (1, .int (nI c0))]) hc dX0_lowestJoined_41 (by decide) rfl ?_
        have lp43 : ∀ (n : Nat) (se2 : Nat → Bool) (re2 : Nat → Nat) (cnt2 low2 w : Nat), ns - w = n → (LJ fs (tZ α) ns c0 se2 re2 cnt2 low2 k w) → (k < cnt2) → (w ≤ ns) → V p l e (RM 2 46 0 0) s m args below meth c D A 7 0 0 Q (wB cI cZ ha h hs1 aU aN aT aG (tU α) (tN α) se2 re2 (tZ α)) 43 [(5, .int (nI w)), (4, .int (nI k)), (3, .int (nI low2)), (2, .int (nI cnt2)), (0, .ref ha), (1, .int (nI c0))] [] := by
          intro n
          induction n using Nat.strongRecOn with
          | _ n ih43 =>
          intro se2 re2 cnt2 low2 w hm43 hL2 hkc hw
          have hcnt2 : cnt2 ≤ tZ α := by rw [← hL2.1]; exact cntT_le _ _
          have hlow2 := hL2.2.2.2.2.1
          have hrk := (hL2.2.1 k hkc).1
          refine r_iload hc dX0_lowestJoined_43 0 rfl ?_
          refine r_aload_n hc dX0_lowestJoined_45 rfl 4 rfl ?_
          refine r_get hc inlX0 0 rfl rfl 1 (by decide) fl_X0_29 rfl rfl dX0_lowestJoined_46 ?_
          refine r_getRN hc inlX4 (hro _ (List.mem_of_getElem? (i := 6) rfl)) rfl 1 (by decide) nf_X0_82 rfl rfl dX0_lowestJoined_49 ?_
          refine n_icmp_ge hc 120 dX0_lowestJoined_52 (by decide) (by omega) (by omega) (fun h4 => ?_) (fun h4 => ?_)
          · have hw2 : w = ns := by omega
            refine r_iinc (k := 1) (v := (nI (k + 1))) (lv' := [(4, .int (nI (k + 1))), (5, .int (nI w)), (3, .int (nI low2)), (2, .int (nI cnt2)), (0, .ref ha), (1, .int (nI c0))]) hc dX0_lowestJoined_120 rfl (nI_add _ _) (by decide) rfl ?_
            refine r_goto hc 25 dX0_lowestJoined_123 (by decide) ?_
            refine r_lv [0, 2, 3, 4, 5] rfl ?_
            exact ih25 _ (by omega) se2 re2 cnt2 low2 (k + 1) rfl (LJ_next (hw2 ▸ hL2)) (by omega)
          · refine r_aload_n hc dX0_lowestJoined_55 rfl 4 rfl ?_
            refine r_aload_n hc dX0_lowestJoined_56 rfl 4 rfl ?_
            refine r_get hc inlX0 0 rfl rfl 5 (by decide) fl_X0_22 rfl rfl dX0_lowestJoined_57 ?_
            refine r_iload hc dX0_lowestJoined_60 1 rfl ?_
            refine r_iald hc nI 4 rfl (by omega) (by decide) dX0_lowestJoined_62 ?_
            refine r_aload_n hc dX0_lowestJoined_63 rfl 4 rfl ?_
            refine r_get hc inlX0 0 rfl rfl 1 (by decide) fl_X0_29 rfl rfl dX0_lowestJoined_64 ?_
            refine r_getRN hc inlX4 (hro _ (List.mem_of_getElem? (i := 6) rfl)) rfl 0 (by decide) nf_X0_85 rfl rfl dX0_lowestJoined_67 ?_
            refine r_iload hc dX0_lowestJoined_70 0 rfl ?_
            refine r_aldR hc (hro _ (List.mem_of_getElem? (i := 7) rfl)) (by omega) (by decide) rfl dX0_lowestJoined_72 ?_
            obtain ⟨q1, q2, q3⟩ := hsl w h4
            obtain ⟨f1, f2⟩ := hfs w h4 (re2 k) hrk
            refine r_callI (As := [.int (nI (re2 k)), .ref (swa w)]) (n := 2) (wr := wB cI cZ ha h hs1 aU aN aT aG (tU α) (tN α) se2 re2 (tZ α)) hc (c_image l D cI cZ cW ha h hs1 aU aN aT aG (tU α, tN α, se2, re2, tZ α) aE aL aF aR aS σ (swa w) (sca w) (scol w) (slen w) (re2 k) (fs w (re2 k)) (by omega) q2 q3 f2 (show BA (tU α, tN α, se2, re2, tZ α) from ⟨bZ, bN, bU, hL2.2.2.2.2.2.2.2.2.2.2⟩)) co_yX0_image in_X0 ml_X0_74 (by decide +kernel) rfl ⟨by decide, by decide⟩ ⟨by decide, by decide⟩ im_yX0_image se_yX0_image rfl (Or.inl ⟨0, _, rfl⟩) rfl (Nat.le_of_ble_eq_true rfl) [] [0, 1, 2, 3, 4] rfl rfl rfl rfl (by decide) (fun q hq => (List.mem_append.mp hq).elim (fun hq => Or.inl ((List.getElem?_of_mem hq).elim fun k hk => ⟨k, hk, List.not_mem_nil⟩)) (fun hq => Or.inr ((List.mem_append.mp hq).elim (fun z => hro q (List.mem_append_left _ z)) (fun z => hro q (List.mem_append_right _ (wL_word (by omega) z)))))) dX0_lowestJoined_73 (fun r5 u6 e7 => ?_)
            subst e7
            show V p l e (RM 2 46 0 0) s m args below meth c D A 7 0 0 Q (wB cI cZ ha h hs1 aU aN aT aG (tU α) (tN α) se2 re2 (tZ α)) 76 [(5, .int (nI w)), (4, .int (nI k)), (3, .int (nI low2)), (2, .int (nI cnt2)), (0, .ref ha), (1, .int (nI c0))] [.int (nI (fs w (re2 k)))]
            refine r_istore (lv' := [(6, .int (nI (fs w (re2 k)))), (5, .int (nI w)), (4, .int (nI k)), (3, .int (nI low2)), (2, .int (nI cnt2)), (0, .ref ha), (1, .int (nI c0))]) hc dX0_lowestJoined_76 (by decide) rfl ?_
            refine r_aload_n hc dX0_lowestJoined_78 rfl 5 rfl ?_
            refine r_get hc inlX0 0 rfl rfl 4 (by decide) fl_X0_18 rfl rfl dX0_lowestJoined_79 ?_
            refine r_iload hc dX0_lowestJoined_82 0 rfl ?_
            refine r_zald hc zI 3 rfl (by omega) (by decide) dX0_lowestJoined_84 ?_
            refine z_if_ne hc 114 dX0_lowestJoined_85 (by decide) (fun h8 => ?_) (fun h8 => ?_)
            · refine r_iinc (k := 1) (v := (nI (w + 1))) (lv' := [(5, .int (nI (w + 1))), (6, .int (nI (fs w (re2 k)))), (4, .int (nI k)), (3, .int (nI low2)), (2, .int (nI cnt2)), (0, .ref ha), (1, .int (nI c0))]) hc dX0_lowestJoined_114 rfl (nI_add _ _) (by decide) rfl ?_
              refine r_goto hc 43 dX0_lowestJoined_117 (by decide) ?_
              refine r_lv [0, 2, 3, 4, 5, 6] rfl ?_
              exact ih43 _ (by omega) se2 re2 cnt2 low2 (w + 1) rfl (LJ_seen hL2 h8) hkc (by omega)
            · have hN := LJ_new hL2 hkc h4 bZ f1 h8
              have hN1 := hN.1
              refine r_aload_n hc dX0_lowestJoined_88 rfl 5 rfl ?_
              refine r_get hc inlX0 0 rfl rfl 4 (by decide) fl_X0_18 rfl rfl dX0_lowestJoined_89 ?_
              refine r_iload hc dX0_lowestJoined_92 0 rfl ?_
              refine r_iconst (v := (nI 1)) hc dX0_lowestJoined_94 rfl ?_
              refine r_zast (ws' := wB cI cZ ha h hs1 aU aN aT aG (tU α) (tN α) (va_up se2 (fs w (re2 k)) true) re2 (tZ α)) hc true 3 rfl (by omega) (by decide) rfl dX0_lowestJoined_95 ?_
              refine r_aload_n hc dX0_lowestJoined_96 rfl 5 rfl ?_
              refine r_get hc inlX0 0 rfl rfl 5 (by decide) fl_X0_22 rfl rfl dX0_lowestJoined_97 ?_
              refine r_iload_n hc dX0_lowestJoined_100 rfl 4 rfl ?_
              refine r_iload hc dX0_lowestJoined_101 0 rfl ?_
              refine r_iast (ws' := wB cI cZ ha h hs1 aU aN aT aG (tU α) (tN α) (va_up se2 (fs w (re2 k)) true) (va_up re2 cnt2 (fs w (re2 k))) (tZ α)) hc nI (fs w (re2 k)) 4 rfl (by omega) (by decide) rfl dX0_lowestJoined_103 ?_
              refine r_iinc (k := 4) (v := (nI (cnt2 + 1))) (lv' := [(2, .int (nI (cnt2 + 1))), (6, .int (nI (fs w (re2 k)))), (5, .int (nI w)), (4, .int (nI k)), (3, .int (nI low2)), (0, .ref ha), (1, .int (nI c0))]) hc dX0_lowestJoined_104 rfl (nI_add _ _) (by decide) rfl ?_
              refine r_iload_n hc dX0_lowestJoined_107 rfl 4 rfl ?_
              refine r_iload hc dX0_lowestJoined_108 1 rfl ?_
              refine r_mmin hc ml_X0_89 (by omega) (by omega) (by decide) (Nat.le_of_ble_eq_true rfl) ⟨by decide, by decide⟩ dX0_lowestJoined_110 ?_
              refine r_istore_n (lv' := [(3, .int (nI (if fs w (re2 k) < low2 then fs w (re2 k) else low2))), (2, .int (nI (cnt2 + 1))), (6, .int (nI (fs w (re2 k)))), (5, .int (nI w)), (4, .int (nI k)), (0, .ref ha), (1, .int (nI c0))]) hc dX0_lowestJoined_113 rfl (by decide) rfl ?_
              refine r_iinc (k := 3) (v := (nI (w + 1))) (lv' := [(5, .int (nI (w + 1))), (3, .int (nI (if fs w (re2 k) < low2 then fs w (re2 k) else low2))), (2, .int (nI (cnt2 + 1))), (6, .int (nI (fs w (re2 k)))), (4, .int (nI k)), (0, .ref ha), (1, .int (nI c0))]) hc dX0_lowestJoined_114 rfl (nI_add _ _) (by decide) rfl ?_
              refine r_goto hc 43 dX0_lowestJoined_117 (by decide) ?_
              refine r_lv [0, 4, 1, 2, 5, 6] rfl ?_
              exact ih43 _ (by omega) _ _ _ _ (w + 1) rfl hN.2 (by omega) (by omega)
        refine r_lv [0, 1, 2, 3, 4, 5] rfl ?_
        exact lp43 _ se re cnt low 0 rfl hL h2 (Nat.zero_le _)
  refine r_lv [0, 1, 2, 3, 4] rfl ?_
  exact lp25 _ _ _ 1 c0 0 rfl (LJ_start hc0 bG bZ (fun i hi => frgI_f hi)) (by omega)
end
section
section RULES5
variable {p : Program} {l : Launch} {e : Env} {R : Room} {s : State} {m : MethodId} {args : Array Value} {below : List Frame} {meth : Method} {c : Code} {D : va_G} {A : Nat → Prop} {nL cells slots : Nat} {Q : State → Prop} {ws : va_W} {pc : Nat} {lv : List (Nat × Value)} {st : List Value}
variable {cc : ByteArray} {own : String} {cI cZ cW : ClassId}
def cpN (f g : Nat → Nat) (n : Nat) : Nat → Nat := fun j => if j < n then f j else g j
theorem r_copy (hc : CX p s m args c cc nL own D cI cZ cW A) {index a0 a n0 n1 n : Nat} {f g : Nat → Nat} {ws' : va_W} (hml : Cond.methodLink own index arraycopyName ∈ wsL_law) (q0 q1 : Nat) (ha0 : ws[q0]? = some (a0, .inl (cI, n0, .inl (fun j => nI (f j))))) (ha1 : ws[q1]? = some (a, .inl (cI, n1, .inl (fun j => nI (g j))))) (hn : n < 2 ^ 31) (h4 : n ≤ n0) (h5 : n ≤ n1) (hfr : 1 ≤ R.frames) (hlo : (st.map fun v => v.category).sum + (nativeFrameWords "java/lang/System" "arraycopy" 5 + 11) ≤ R.locals) (hw : ws.set q1 (a, .inl (cI, n1, .inl (fun j => nI (cpN f g n j)))) = ws') (hdg : decode cc pc = .ok (.invokestatic index, 3)) (kk : V p l e R s m args below meth c D A nL cells slots Q ws' (pc + 3) lv st) : V p l e R s m args below meth c D A nL cells slots Q ws pc lv (.int (nI n) :: .int (nI 0) :: .ref a :: .int (nI 0) :: .ref a0 :: st) :=
  fun H locs ls hP hD hS hL => va_copyi hc.1 hc.2.1 (hc.2.2.1.trans hL.1.symm) hc.2.2.2.1 (hc.2.2.2.2.1 _ hml) (hc.2.2.2.2.1 _ na_arraycopyName) (hc.2.2.2.2.1 _ st_arraycopyName) (hc.2.2.2.2.1 _ in_java_lang_System) hc.2.2.2.2.2.1.1 hP hD hS q0 q1 0 0 ha0 ha1 rfl rfl rfl (nI_pos (by decide)) (nI_pos (by decide)) (nI_pos hn) (by rw [nI_clamp (by decide), nI_clamp hn]; omega) (by rw [nI_clamp (by decide), nI_clamp hn]; omega) (fun _ _ => rfl) hfr hlo hdg (fun H1 locs1 hP1 hD1 hS1 => by
    have e : va_cpy (fun j => nI (f j)) (fun j => nI (g j)) (nI 0).toNatClampNeg (nI 0).toNatClampNeg (nI n).toNatClampNeg = fun j => nI (cpN f g n j) := by
      funext j
      rw [nI_clamp (show 0 < 2 ^ 31 by decide), nI_clamp hn]
      simp only [va_cpy, cpN, Nat.zero_le, Nat.zero_add, Nat.sub_zero, true_and]
      split <;> rfl
    rw [e] at hP1 hD1
    exact kk H1 locs1 ls (hw ▸ hP1) (hw ▸ hD1) hS1 hL)
theorem ro_of_wr {ws wr : va_W} {isC : List Nat} (isR : List Nat) (hRR : isR.map (fun i => ws[i]?) = wr.map some) (hdis : ∀ i ∈ isR, i ∉ isC) {q : Nat × va_E} (h : q ∈ wr) : ∃ k : Nat, ws[k]? = some q ∧ k ∉ isC := by
  obtain ⟨k, hk⟩ := List.getElem?_of_mem h
  have h1 : (isR.map (fun i => ws[i]?))[k]? = some (some q) := by rw [hRR, List.getElem?_map, hk]; rfl
  rw [List.getElem?_map] at h1
  cases hi : isR[k]? with
  | none => rw [hi] at h1; cases h1
  | some i => rw [hi] at h1; exact ⟨i, Option.some.inj h1, hdis i (List.mem_of_getElem? hi)⟩
end RULES5
theorem r_ald {p : Program} {l : Launch} {e : Env} {R : Room} {s : State} {m : MethodId} {args : Array Value} {below : List Frame} {meth : Method} {c : Code} {D : va_G} {A : Nat → Prop} {nL cells slots : Nat} {Q : State → Prop} {ws : va_W} {pc : Nat} {lv : List (Nat × Value)} {st : List Value} {cc : ByteArray} {own : String} {cI cZ cW : ClassId} (hc : CX p s m args c cc nL own D cI cZ cW A) {f : Nat → Option Nat} {n a i x : Nat} (q0 : Nat) (ha : ws[q0]? = some (a, .inl (cW, n, .inr (.inr (.inr (.inr f)))))) (hi : i < n) (hn : n < 2 ^ 31) (hx : f i = some x) (hdg : decode cc pc = .ok (.aaload, 1)) (kk : V p l e R s m args below meth c D A nL cells slots Q ws (pc + 1) lv (.ref x :: st)) : V p l e R s m args below meth c D A nL cells slots Q ws pc lv (.int (nI i) :: .ref a :: st) :=
  fun H locs ls hP hD hS hL => va_aldq hc.1 hc.2.1 hc.2.2.2.2.2.1.1 hP q0 2 ha rfl (vp_in_nI hi hn) hdg (by rw [nI_clamp (Nat.lt_trans hi hn), hx]; exact kk H locs ls hP hD hS hL)
set_option maxHeartbeats 4000000 in
set_option maxRecDepth 100000 in
/-- copyFrom(other) -/
theorem c_copyFrom (l : Launch) (D : va_G) (cI cZ cW : ClassId) (hw aw hh ah : Nat) (col : Nat → Nat) (len : Nat) (hcol : Nat → Nat) (hlen : Nat) (hl : hlen ≤ 24) : CtV l yX3_copyFrom cX3_copyFrom 2 none 1 26 0 0 D cI cZ cW [.ref hw, .ref hh] (wW cI hw aw col len ++ wW cI hh ah hcol hlen) ([]) (S := WS) (fun u => u = (cpN hcol col hlen, hlen)) (fun u => wW cI hw aw u.1 u.2 ++ wW cI hh ah hcol hlen) := by
  refine CtV.mk (by decide) (Nat.le_of_ble_eq_true rfl) ?_
  intro p e s m args below meth c A hc hr hlk hnm hro
  generalize hQ : MQ below _ args s 0 0 A = Q
  show V p l e (RM 1 26 0 0) s m args below meth c D A 2 0 0 Q (wW cI hw aw col len ++ (wW cI hh ah hcol hlen)) 0 [(0, .ref hw), (1, .ref hh)] []
  refine r_aload_n hc dX3_copyFrom_0 rfl 1 rfl ?_
  refine r_get hc inlX3 2 rfl rfl 0 (by decide) fl_X3_9 rfl rfl dX3_copyFrom_1 ?_
  refine r_iconst (v := (nI 0)) hc dX3_copyFrom_4 rfl ?_
  refine r_aload_n hc dX3_copyFrom_5 rfl 0 rfl ?_
  refine r_get hc inlX3 0 rfl rfl 0 (by decide) fl_X3_9 rfl rfl dX3_copyFrom_6 ?_
  refine r_iconst (v := (nI 0)) hc dX3_copyFrom_9 rfl ?_
  refine r_aload_n hc dX3_copyFrom_10 rfl 1 rfl ?_
  refine r_get hc inlX3 2 rfl rfl 1 (by decide) fl_X3_15 rfl rfl dX3_copyFrom_11 ?_
  refine r_copy (ws' := wW cI hw aw (cpN hcol col hlen) len ++ (wW cI hh ah hcol hlen)) hc ml_X3_19 3 1 rfl rfl (by omega) hl hl (by decide) (Nat.le_of_ble_eq_true rfl) rfl dX3_copyFrom_14 ?_
  refine r_aload_n hc dX3_copyFrom_17 rfl 0 rfl ?_
  refine r_aload_n hc dX3_copyFrom_18 rfl 1 rfl ?_
  refine r_get hc inlX3 2 rfl rfl 1 (by decide) fl_X3_15 rfl rfl dX3_copyFrom_19 ?_
  refine r_put (ws' := wW cI hw aw (cpN hcol col hlen) hlen ++ (wW cI hh ah hcol hlen)) hc inlX3 tyX3 tyX3_ok nmX3 0 rfl rfl 1 (by decide) fl_X3_15 rfl rfl rfl rfl (Nat.le_of_ble_eq_true rfl) rfl dX3_copyFrom_22 ?_
  rw [← hQ]
  exact r_vret hc hr hlk (cpN hcol col hlen, hlen) rfl rfl dX3_copyFrom_25
set_option maxHeartbeats 4000000 in
set_option maxRecDepth 100000 in
/-- isFull(), 10 -/
theorem c_isFull10 (l : Launch) (D : va_G) (cI cZ cW : ClassId) (hl al : Nat) (wa ca : Nat → Nat) (col : Nat → Nat → Nat) (len : Nat → Nat) (sz : Nat) (hsz : sz ≤ 10) : CtI l yX4_isFull cX4_isFull 1 (some .boolean) 0 0 0 0 D cI cZ cW [.ref hl] ([]) (wL cI cW hl al 10 wa ca col len sz) (S := Unit) (fun r _ => r = zI (decide (sz = 10))) (fun _ => []) := by
  refine CtI.mk (by decide) (Nat.le_of_ble_eq_true rfl) ?_
  intro p e s m args below meth c A hc hr hlk hnm hro
  generalize hQ : MQ below _ args s 0 0 A = Q
  show V p l e (RM 0 0 0 0) s m args below meth c D A 1 0 0 Q ([]) 0 [(0, .ref hl)] []
  refine r_aload_n hc dX4_isFull_0 rfl 0 rfl ?_
  refine r_getR hc inlX4 (hro _ (List.mem_of_getElem? (i := 0) rfl)) rfl 1 (by decide) fl_X4_16 rfl rfl dX4_isFull_1 ?_
  refine r_aload_n hc dX4_isFull_4 rfl 0 rfl ?_
  refine r_getR hc inlX4 (hro _ (List.mem_of_getElem? (i := 0) rfl)) rfl 0 (by decide) fl_X4_9 rfl rfl dX4_isFull_5 ?_
  refine r_alenR (v := nI 10) hc 2 (hro _ (List.mem_of_getElem? (i := 1) rfl)) rfl rfl dX4_isFull_8 ?_
  refine n_icmp_ne hc 16 dX4_isFull_9 (by decide) (by omega) (by omega) (fun h1 => ?_) (fun h1 => ?_)
  · refine r_iconst (v := (nI 0)) hc dX4_isFull_16 rfl ?_
    rw [← hQ]
    exact r_zret (b := false) hc hr hlk () (congrArg zI (by simp; omega)) rfl dX4_isFull_17
  · refine r_iconst (v := (nI 1)) hc dX4_isFull_12 rfl ?_
    refine r_goto hc 17 dX4_isFull_13 (by decide) ?_
    rw [← hQ]
    exact r_zret (b := true) hc hr hlk () (congrArg zI (by simp; omega)) rfl dX4_isFull_17
set_option maxHeartbeats 4000000 in
set_option maxRecDepth 100000 in
/-- isFull(), 5 -/
theorem c_isFull5 (l : Launch) (D : va_G) (cI cZ cW : ClassId) (hl al : Nat) (wa ca : Nat → Nat) (col : Nat → Nat → Nat) (len : Nat → Nat) (sz : Nat) (hsz : sz ≤ 5) : CtI l yX4_isFull cX4_isFull 1 (some .boolean) 0 0 0 0 D cI cZ cW [.ref hl] ([]) (wL cI cW hl al 5 wa ca col len sz) (S := Unit) (fun r _ => r = zI (decide (sz = 5))) (fun _ => []) := by
  refine CtI.mk (by decide) (Nat.le_of_ble_eq_true rfl) ?_
  intro p e s m args below meth c A hc hr hlk hnm hro
  generalize hQ : MQ below _ args s 0 0 A = Q
  show V p l e (RM 0 0 0 0) s m args below meth c D A 1 0 0 Q ([]) 0 [(0, .ref hl)] []
  refine r_aload_n hc dX4_isFull_0 rfl 0 rfl ?_
  refine r_getR hc inlX4 (hro _ (List.mem_of_getElem? (i := 0) rfl)) rfl 1 (by decide) fl_X4_16 rfl rfl dX4_isFull_1 ?_
  refine r_aload_n hc dX4_isFull_4 rfl 0 rfl ?_
  refine r_getR hc inlX4 (hro _ (List.mem_of_getElem? (i := 0) rfl)) rfl 0 (by decide) fl_X4_9 rfl rfl dX4_isFull_5 ?_
  refine r_alenR (v := nI 5) hc 2 (hro _ (List.mem_of_getElem? (i := 1) rfl)) rfl rfl dX4_isFull_8 ?_
  refine n_icmp_ne hc 16 dX4_isFull_9 (by decide) (by omega) (by omega) (fun h1 => ?_) (fun h1 => ?_)
  · refine r_iconst (v := (nI 0)) hc dX4_isFull_16 rfl ?_
    rw [← hQ]
    exact r_zret (b := false) hc hr hlk () (congrArg zI (by simp; omega)) rfl dX4_isFull_17
  · refine r_iconst (v := (nI 1)) hc dX4_isFull_12 rfl ?_
    refine r_goto hc 17 dX4_isFull_13 (by decide) ?_
    rw [← hQ]
    exact r_zret (b := true) hc hr hlk () (congrArg zI (by simp; omega)) rfl dX4_isFull_17
set_option maxHeartbeats 4000000 in
set_option maxRecDepth 100000 in
/-- add, the list of 10, 0 there -/
theorem c_add10_0 (l : Launch) (D : va_G) (cI cZ cW : ClassId) (hl al : Nat) (wa ca : Nat → Nat) (col : Nat → Nat → Nat) (len : Nat → Nat) (hh ah : Nat) (hcol : Nat → Nat) (hlen : Nat) (hl24 : hlen ≤ 24) : CtV l yX4_add cX4_add 2 none 2 47 0 0 D cI cZ cW [.ref hl, .ref hh] (wL cI cW hl al 10 wa ca col len 0 ++ wW cI hh ah hcol hlen) ([]) (S := (Nat → Nat → Nat) × (Nat → Nat) × Nat) (fun u => u = (va_up col 0 (cpN hcol (col 0) hlen), va_up len 0 hlen, 1)) (fun u => wL cI cW hl al 10 wa ca u.1 u.2.1 u.2.2 ++ wW cI hh ah hcol hlen) := by
  refine CtV.mk (by decide) (Nat.le_of_ble_eq_true rfl) ?_
  intro p e s m args below meth c A hc hr hlk hnm hro
  generalize hQ : MQ below _ args s 0 0 A = Q
  show V p l e (RM 2 47 0 0) s m args below meth c D A 2 0 0 Q (wL cI cW hl al 10 wa ca col len 0 ++ (wW cI hh ah hcol hlen)) 0 [(0, .ref hl), (1, .ref hh)] []
  refine r_aload_n hc dX4_add_0 rfl 0 rfl ?_
  refine r_get hc inlX4 0 rfl rfl 0 (by decide) fl_X4_9 rfl rfl dX4_add_1 ?_
  refine r_aload_n hc dX4_add_4 rfl 0 rfl ?_
  refine r_get hc inlX4 0 rfl rfl 1 (by decide) fl_X4_16 rfl rfl dX4_add_5 ?_
  refine r_ald hc 1 rfl (by decide) (by decide) rfl dX4_add_8 ?_
  refine r_aload_n hc dX4_add_9 rfl 1 rfl ?_
  refine r_callV (As := [.ref hh]) (n := 1) (wr := [(hl, .inr (4, [.ref al, .int (nI 0)])), (al, .inl (cW, 10, .inr (.inr (.inr (.inr (fun j => some (wa j))))))), (wa 1, .inr (3, [.ref (ca 1), .int (nI (len 1))])), (ca 1, .inl (cI, 24, .inl (fun j => nI (col 1 j)))), (wa 2, .inr (3, [.ref (ca 2), .int (nI (len 2))])), (ca 2, .inl (cI, 24, .inl (fun j => nI (col 2 j)))), (wa 3, .inr (3, [.ref (ca 3), .int (nI (len 3))])), (ca 3, .inl (cI, 24, .inl (fun j => nI (col 3 j)))), (wa 4, .inr (3, [.ref (ca 4), .int (nI (len 4))])), (ca 4, .inl (cI, 24, .inl (fun j => nI (col 4 j)))), (wa 5, .inr (3, [.ref (ca 5), .int (nI (len 5))])), (ca 5, .inl (cI, 24, .inl (fun j => nI (col 5 j)))), (wa 6, .inr (3, [.ref (ca 6), .int (nI (len 6))])), (ca 6, .inl (cI, 24, .inl (fun j => nI (col 6 j)))), (wa 7, .inr (3, [.ref (ca 7), .int (nI (len 7))])), (ca 7, .inl (cI, 24, .inl (fun j => nI (col 7 j)))), (wa 8, .inr (3, [.ref (ca 8), .int (nI (len 8))])), (ca 8, .inl (cI, 24, .inl (fun j => nI (col 8 j)))), (wa 9, .inr (3, [.ref (ca 9), .int (nI (len 9))])), (ca 9, .inl (cI, 24, .inl (fun j => nI (col 9 j))))]) hc (c_copyFrom l D cI cZ cW (wa 0) (ca 0) hh ah (col 0) (len 0) hcol hlen hl24) co_yX3_copyFrom in_X3 ml_X4_20 (by decide +kernel) rfl ⟨by decide, by decide⟩ ⟨by decide, by decide⟩ im_yX3_copyFrom se_yX3_copyFrom rfl (Or.inl ⟨2, _, rfl⟩) rfl (Nat.le_of_ble_eq_true rfl) [2, 3, 22, 23] [0, 1, 4, 5, 6, 7, 8, 9, 10, 11, 12, 13, 14, 15, 16, 17, 18, 19, 20, 21] rfl rfl rfl rfl (by decide) (fun q hq => absurd hq List.not_mem_nil) dX4_add_10 (fun u0 e0 => ?_)
  subst e0
  refine r_perm (ws' := wL cI cW hl al 10 wa ca (va_up col 0 (cpN hcol (col 0) hlen)) (va_up len 0 hlen) 0 ++ (wW cI hh ah hcol hlen)) [0, 1, 20, 21, 2, 3, 4, 5, 6, 7, 8, 9, 10, 11, 12, 13, 14, 15, 16, 17, 18, 19, 22, 23] rfl rfl ?_
  refine r_aload_n hc dX4_add_13 rfl 0 rfl ?_
  refine r_dup hc dX4_add_14 rfl ?_
  refine r_get hc inlX4 0 rfl rfl 1 (by decide) fl_X4_16 rfl rfl dX4_add_15 ?_
  refine r_iconst (v := (nI 1)) hc dX4_add_18 rfl ?_
  refine n_add hc dX4_add_19 ?_
  refine r_put (ws' := wL cI cW hl al 10 wa ca (va_up col 0 (cpN hcol (col 0) hlen)) (va_up len 0 hlen) (0 + 1) ++ (wW cI hh ah hcol hlen)) hc inlX4 tyX4 tyX4_ok nmX4 0 rfl rfl 1 (by decide) fl_X4_16 rfl rfl rfl rfl (Nat.le_of_ble_eq_true rfl) rfl dX4_add_20 ?_
  rw [← hQ]
  exact r_vret hc hr hlk (va_up col 0 (cpN hcol (col 0) hlen), va_up len 0 hlen, 1) rfl rfl dX4_add_23
set_option maxHeartbeats 4000000 in
set_option maxRecDepth 100000 in
/-- add, the list of 10, 1 there -/
theorem c_add10_1 (l : Launch) (D : va_G) (cI cZ cW : ClassId) (hl al : Nat) (wa ca : Nat → Nat) (col : Nat → Nat → Nat) (len : Nat → Nat) (hh ah : Nat) (hcol : Nat → Nat) (hlen : Nat) (hl24 : hlen ≤ 24) : CtV l yX4_add cX4_add 2 none 2 47 0 0 D cI cZ cW [.ref hl, .ref hh] (wL cI cW hl al 10 wa ca col len 1 ++ wW cI hh ah hcol hlen) ([]) (S := (Nat → Nat → Nat) × (Nat → Nat) × Nat) (fun u => u = (va_up col 1 (cpN hcol (col 1) hlen), va_up len 1 hlen, 2)) (fun u => wL cI cW hl al 10 wa ca u.1 u.2.1 u.2.2 ++ wW cI hh ah hcol hlen) := by
  refine CtV.mk (by decide) (Nat.le_of_ble_eq_true rfl) ?_
  intro p e s m args below meth c A hc hr hlk hnm hro
  generalize hQ : MQ below _ args s 0 0 A = Q
  show V p l e (RM 2 47 0 0) s m args below meth c D A 2 0 0 Q (wL cI cW hl al 10 wa ca col len 1 ++ (wW cI hh ah hcol hlen)) 0 [(0, .ref hl), (1, .ref hh)] []
  refine r_aload_n hc dX4_add_0 rfl 0 rfl ?_
  refine r_get hc inlX4 0 rfl rfl 0 (by decide) fl_X4_9 rfl rfl dX4_add_1 ?_
  refine r_aload_n hc dX4_add_4 rfl 0 rfl ?_
  refine r_get hc inlX4 0 rfl rfl 1 (by decide) fl_X4_16 rfl rfl dX4_add_5 ?_
  refine r_ald hc 1 rfl (by decide) (by decide) rfl dX4_add_8 ?_
  refine r_aload_n hc dX4_add_9 rfl 1 rfl ?_
  refine r_callV (As := [.ref hh]) (n := 1) (wr := [(hl, .inr (4, [.ref al, .int (nI 1)])), (al, .inl (cW, 10, .inr (.inr (.inr (.inr (fun j => some (wa j))))))), (wa 0, .inr (3, [.ref (ca 0), .int (nI (len 0))])), (ca 0, .inl (cI, 24, .inl (fun j => nI (col 0 j)))), (wa 2, .inr (3, [.ref (ca 2), .int (nI (len 2))])), (ca 2, .inl (cI, 24, .inl (fun j => nI (col 2 j)))), (wa 3, .inr (3, [.ref (ca 3), .int (nI (len 3))])), (ca 3, .inl (cI, 24, .inl (fun j => nI (col 3 j)))), (wa 4, .inr (3, [.ref (ca 4), .int (nI (len 4))])), (ca 4, .inl (cI, 24, .inl (fun j => nI (col 4 j)))), (wa 5, .inr (3, [.ref (ca 5), .int (nI (len 5))])), (ca 5, .inl (cI, 24, .inl (fun j => nI (col 5 j)))), (wa 6, .inr (3, [.ref (ca 6), .int (nI (len 6))])), (ca 6, .inl (cI, 24, .inl (fun j => nI (col 6 j)))), (wa 7, .inr (3, [.ref (ca 7), .int (nI (len 7))])), (ca 7, .inl (cI, 24, .inl (fun j => nI (col 7 j)))), (wa 8, .inr (3, [.ref (ca 8), .int (nI (len 8))])), (ca 8, .inl (cI, 24, .inl (fun j => nI (col 8 j)))), (wa 9, .inr (3, [.ref (ca 9), .int (nI (len 9))])), (ca 9, .inl (cI, 24, .inl (fun j => nI (col 9 j))))]) hc (c_copyFrom l D cI cZ cW (wa 1) (ca 1) hh ah (col 1) (len 1) hcol hlen hl24) co_yX3_copyFrom in_X3 ml_X4_20 (by decide +kernel) rfl ⟨by decide, by decide⟩ ⟨by decide, by decide⟩ im_yX3_copyFrom se_yX3_copyFrom rfl (Or.inl ⟨4, _, rfl⟩) rfl (Nat.le_of_ble_eq_true rfl) [4, 5, 22, 23] [0, 1, 2, 3, 6, 7, 8, 9, 10, 11, 12, 13, 14, 15, 16, 17, 18, 19, 20, 21] rfl rfl rfl rfl (by decide) (fun q hq => absurd hq List.not_mem_nil) dX4_add_10 (fun u0 e0 => ?_)
  subst e0
  refine r_perm (ws' := wL cI cW hl al 10 wa ca (va_up col 1 (cpN hcol (col 1) hlen)) (va_up len 1 hlen) 1 ++ (wW cI hh ah hcol hlen)) [0, 1, 2, 3, 20, 21, 4, 5, 6, 7, 8, 9, 10, 11, 12, 13, 14, 15, 16, 17, 18, 19, 22, 23] rfl rfl ?_
  refine r_aload_n hc dX4_add_13 rfl 0 rfl ?_
  refine r_dup hc dX4_add_14 rfl ?_
  refine r_get hc inlX4 0 rfl rfl 1 (by decide) fl_X4_16 rfl rfl dX4_add_15 ?_
  refine r_iconst (v := (nI 1)) hc dX4_add_18 rfl ?_
  refine n_add hc dX4_add_19 ?_
  refine r_put (ws' := wL cI cW hl al 10 wa ca (va_up col 1 (cpN hcol (col 1) hlen)) (va_up len 1 hlen) (1 + 1) ++ (wW cI hh ah hcol hlen)) hc inlX4 tyX4 tyX4_ok nmX4 0 rfl rfl 1 (by decide) fl_X4_16 rfl rfl rfl rfl (Nat.le_of_ble_eq_true rfl) rfl dX4_add_20 ?_
  rw [← hQ]
  exact r_vret hc hr hlk (va_up col 1 (cpN hcol (col 1) hlen), va_up len 1 hlen, 2) rfl rfl dX4_add_23
set_option maxHeartbeats 4000000 in
set_option maxRecDepth 100000 in
/-- add, the list of 10, 2 there -/
theorem c_add10_2 (l : Launch) (D : va_G) (cI cZ cW : ClassId) (hl al : Nat) (wa ca : Nat → Nat) (col : Nat → Nat → Nat) (len : Nat → Nat) (hh ah : Nat) (hcol : Nat → Nat) (hlen : Nat) (hl24 : hlen ≤ 24) : CtV l yX4_add cX4_add 2 none 2 47 0 0 D cI cZ cW [.ref hl, .ref hh] (wL cI cW hl al 10 wa ca col len 2 ++ wW cI hh ah hcol hlen) ([]) (S := (Nat → Nat → Nat) × (Nat → Nat) × Nat) (fun u => u = (va_up col 2 (cpN hcol (col 2) hlen), va_up len 2 hlen, 3)) (fun u => wL cI cW hl al 10 wa ca u.1 u.2.1 u.2.2 ++ wW cI hh ah hcol hlen) := by
  refine CtV.mk (by decide) (Nat.le_of_ble_eq_true rfl) ?_
  intro p e s m args below meth c A hc hr hlk hnm hro
  generalize hQ : MQ below _ args s 0 0 A = Q
  show V p l e (RM 2 47 0 0) s m args below meth c D A 2 0 0 Q (wL cI cW hl al 10 wa ca col len 2 ++ (wW cI hh ah hcol hlen)) 0 [(0, .ref hl), (1, .ref hh)] []
  refine r_aload_n hc dX4_add_0 rfl 0 rfl ?_
  refine r_get hc inlX4 0 rfl rfl 0 (by decide) fl_X4_9 rfl rfl dX4_add_1 ?_
  refine r_aload_n hc dX4_add_4 rfl 0 rfl ?_
  refine r_get hc inlX4 0 rfl rfl 1 (by decide) fl_X4_16 rfl rfl dX4_add_5 ?_
  refine r_ald hc 1 rfl (by decide) (by decide) rfl dX4_add_8 ?_
  refine r_aload_n hc dX4_add_9 rfl 1 rfl ?_
  refine r_callV (As := [.ref hh]) (n := 1) (wr := [(hl, .inr (4, [.ref al, .int (nI 2)])), (al, .inl (cW, 10, .inr (.inr (.inr (.inr (fun j => some (wa j))))))), (wa 0, .inr (3, [.ref (ca 0), .int (nI (len 0))])), (ca 0, .inl (cI, 24, .inl (fun j => nI (col 0 j)))), (wa 1, .inr (3, [.ref (ca 1), .int (nI (len 1))])), (ca 1, .inl (cI, 24, .inl (fun j => nI (col 1 j)))), (wa 3, .inr (3, [.ref (ca 3), .int (nI (len 3))])), (ca 3, .inl (cI, 24, .inl (fun j => nI (col 3 j)))), (wa 4, .inr (3, [.ref (ca 4), .int (nI (len 4))])), (ca 4, .inl (cI, 24, .inl (fun j => nI (col 4 j)))), (wa 5, .inr (3, [.ref (ca 5), .int (nI (len 5))])), (ca 5, .inl (cI, 24, .inl (fun j => nI (col 5 j)))), (wa 6, .inr (3, [.ref (ca 6), .int (nI (len 6))])), (ca 6, .inl (cI, 24, .inl (fun j => nI (col 6 j)))), (wa 7, .inr (3, [.ref (ca 7), .int (nI (len 7))])), (ca 7, .inl (cI, 24, .inl (fun j => nI (col 7 j)))), (wa 8, .inr (3, [.ref (ca 8), .int (nI (len 8))])), (ca 8, .inl (cI, 24, .inl (fun j => nI (col 8 j)))), (wa 9, .inr (3, [.ref (ca 9), .int (nI (len 9))])), (ca 9, .inl (cI, 24, .inl (fun j => nI (col 9 j))))]) hc (c_copyFrom l D cI cZ cW (wa 2) (ca 2) hh ah (col 2) (len 2) hcol hlen hl24) co_yX3_copyFrom in_X3 ml_X4_20 (by decide +kernel) rfl ⟨by decide, by decide⟩ ⟨by decide, by decide⟩ im_yX3_copyFrom se_yX3_copyFrom rfl (Or.inl ⟨6, _, rfl⟩) rfl (Nat.le_of_ble_eq_true rfl) [6, 7, 22, 23] [0, 1, 2, 3, 4, 5, 8, 9, 10, 11, 12, 13, 14, 15, 16, 17, 18, 19, 20, 21] rfl rfl rfl rfl (by decide) (fun q hq => absurd hq List.not_mem_nil) dX4_add_10 (fun u0 e0 => ?_)
  subst e0
  refine r_perm (ws' := wL cI cW hl al 10 wa ca (va_up col 2 (cpN hcol (col 2) hlen)) (va_up len 2 hlen) 2 ++ (wW cI hh ah hcol hlen)) [0, 1, 2, 3, 4, 5, 20, 21, 6, 7, 8, 9, 10, 11, 12, 13, 14, 15, 16, 17, 18, 19, 22, 23] rfl rfl ?_
  refine r_aload_n hc dX4_add_13 rfl 0 rfl ?_
  refine r_dup hc dX4_add_14 rfl ?_
  refine r_get hc inlX4 0 rfl rfl 1 (by decide) fl_X4_16 rfl rfl dX4_add_15 ?_
  refine r_iconst (v := (nI 1)) hc dX4_add_18 rfl ?_
  refine n_add hc dX4_add_19 ?_
  refine r_put (ws' := wL cI cW hl al 10 wa ca (va_up col 2 (cpN hcol (col 2) hlen)) (va_up len 2 hlen) (2 + 1) ++ (wW cI hh ah hcol hlen)) hc inlX4 tyX4 tyX4_ok nmX4 0 rfl rfl 1 (by decide) fl_X4_16 rfl rfl rfl rfl (Nat.le_of_ble_eq_true rfl) rfl dX4_add_20 ?_
  rw [← hQ]
  exact r_vret hc hr hlk (va_up col 2 (cpN hcol (col 2) hlen), va_up len 2 hlen, 3) rfl rfl dX4_add_23
set_option maxHeartbeats 4000000 in
set_option maxRecDepth 100000 in
/-- add, the list of 10, 3 there -/
theorem c_add10_3 (l : Launch) (D : va_G) (cI cZ cW : ClassId) (hl al : Nat) (wa ca : Nat → Nat) (col : Nat → Nat → Nat) (len : Nat → Nat) (hh ah : Nat) (hcol : Nat → Nat) (hlen : Nat) (hl24 : hlen ≤ 24) : CtV l yX4_add cX4_add 2 none 2 47 0 0 D cI cZ cW [.ref hl, .ref hh] (wL cI cW hl al 10 wa ca col len 3 ++ wW cI hh ah hcol hlen) ([]) (S := (Nat → Nat → Nat) × (Nat → Nat) × Nat) (fun u => u = (va_up col 3 (cpN hcol (col 3) hlen), va_up len 3 hlen, 4)) (fun u => wL cI cW hl al 10 wa ca u.1 u.2.1 u.2.2 ++ wW cI hh ah hcol hlen) := by
  refine CtV.mk (by decide) (Nat.le_of_ble_eq_true rfl) ?_
  intro p e s m args below meth c A hc hr hlk hnm hro
  generalize hQ : MQ below _ args s 0 0 A = Q
  show V p l e (RM 2 47 0 0) s m args below meth c D A 2 0 0 Q (wL cI cW hl al 10 wa ca col len 3 ++ (wW cI hh ah hcol hlen)) 0 [(0, .ref hl), (1, .ref hh)] []
  refine r_aload_n hc dX4_add_0 rfl 0 rfl ?_
  refine r_get hc inlX4 0 rfl rfl 0 (by decide) fl_X4_9 rfl rfl dX4_add_1 ?_
  refine r_aload_n hc dX4_add_4 rfl 0 rfl ?_
  refine r_get hc inlX4 0 rfl rfl 1 (by decide) fl_X4_16 rfl rfl dX4_add_5 ?_
  refine r_ald hc 1 rfl (by decide) (by decide) rfl dX4_add_8 ?_
  refine r_aload_n hc dX4_add_9 rfl 1 rfl ?_
  refine r_callV (As := [.ref hh]) (n := 1) (wr := [(hl, .inr (4, [.ref al, .int (nI 3)])), (al, .inl (cW, 10, .inr (.inr (.inr (.inr (fun j => some (wa j))))))), (wa 0, .inr (3, [.ref (ca 0), .int (nI (len 0))])), (ca 0, .inl (cI, 24, .inl (fun j => nI (col 0 j)))), (wa 1, .inr (3, [.ref (ca 1), .int (nI (len 1))])), (ca 1, .inl (cI, 24, .inl (fun j => nI (col 1 j)))), (wa 2, .inr (3, [.ref (ca 2), .int (nI (len 2))])), (ca 2, .inl (cI, 24, .inl (fun j => nI (col 2 j)))), (wa 4, .inr (3, [.ref (ca 4), .int (nI (len 4))])), (ca 4, .inl (cI, 24, .inl (fun j => nI (col 4 j)))), (wa 5, .inr (3, [.ref (ca 5), .int (nI (len 5))])), (ca 5, .inl (cI, 24, .inl (fun j => nI (col 5 j)))), (wa 6, .inr (3, [.ref (ca 6), .int (nI (len 6))])), (ca 6, .inl (cI, 24, .inl (fun j => nI (col 6 j)))), (wa 7, .inr (3, [.ref (ca 7), .int (nI (len 7))])), (ca 7, .inl (cI, 24, .inl (fun j => nI (col 7 j)))), (wa 8, .inr (3, [.ref (ca 8), .int (nI (len 8))])), (ca 8, .inl (cI, 24, .inl (fun j => nI (col 8 j)))), (wa 9, .inr (3, [.ref (ca 9), .int (nI (len 9))])), (ca 9, .inl (cI, 24, .inl (fun j => nI (col 9 j))))]) hc (c_copyFrom l D cI cZ cW (wa 3) (ca 3) hh ah (col 3) (len 3) hcol hlen hl24) co_yX3_copyFrom in_X3 ml_X4_20 (by decide +kernel) rfl ⟨by decide, by decide⟩ ⟨by decide, by decide⟩ im_yX3_copyFrom se_yX3_copyFrom rfl (Or.inl ⟨8, _, rfl⟩) rfl (Nat.le_of_ble_eq_true rfl) [8, 9, 22, 23] [0, 1, 2, 3, 4, 5, 6, 7, 10, 11, 12, 13, 14, 15, 16, 17, 18, 19, 20, 21] rfl rfl rfl rfl (by decide) (fun q hq => absurd hq List.not_mem_nil) dX4_add_10 (fun u0 e0 => ?_)
  subst e0
  refine r_perm (ws' := wL cI cW hl al 10 wa ca (va_up col 3 (cpN hcol (col 3) hlen)) (va_up len 3 hlen) 3 ++ (wW cI hh ah hcol hlen)) [0, 1, 2, 3, 4, 5, 6, 7, 20, 21, 8, 9, 10, 11, 12, 13, 14, 15, 16, 17, 18, 19, 22, 23] rfl rfl ?_
  refine r_aload_n hc dX4_add_13 rfl 0 rfl ?_
  refine r_dup hc dX4_add_14 rfl ?_
  refine r_get hc inlX4 0 rfl rfl 1 (by decide) fl_X4_16 rfl rfl dX4_add_15 ?_
  refine r_iconst (v := (nI 1)) hc dX4_add_18 rfl ?_
  refine n_add hc dX4_add_19 ?_
  refine r_put (ws' := wL cI cW hl al 10 wa ca (va_up col 3 (cpN hcol (col 3) hlen)) (va_up len 3 hlen) (3 + 1) ++ (wW cI hh ah hcol hlen)) hc inlX4 tyX4 tyX4_ok nmX4 0 rfl rfl 1 (by decide) fl_X4_16 rfl rfl rfl rfl (Nat.le_of_ble_eq_true rfl) rfl dX4_add_20 ?_
  rw [← hQ]
  exact r_vret hc hr hlk (va_up col 3 (cpN hcol (col 3) hlen), va_up len 3 hlen, 4) rfl rfl dX4_add_23
set_option maxHeartbeats 4000000 in
set_option maxRecDepth 100000 in
/-- add, the list of 10, 4 there -/
theorem c_add10_4 (l : Launch) (D : va_G) (cI cZ cW : ClassId) (hl al : Nat) (wa ca : Nat → Nat) (col : Nat → Nat → Nat) (len : Nat → Nat) (hh ah : Nat) (hcol : Nat → Nat) (hlen : Nat) (hl24 : hlen ≤ 24) : CtV l yX4_add cX4_add 2 none 2 47 0 0 D cI cZ cW [.ref hl, .ref hh] (wL cI cW hl al 10 wa ca col len 4 ++ wW cI hh ah hcol hlen) ([]) (S := (Nat → Nat → Nat) × (Nat → Nat) × Nat) (fun u => u = (va_up col 4 (cpN hcol (col 4) hlen), va_up len 4 hlen, 5)) (fun u => wL cI cW hl al 10 wa ca u.1 u.2.1 u.2.2 ++ wW cI hh ah hcol hlen) := by
  refine CtV.mk (by decide) (Nat.le_of_ble_eq_true rfl) ?_
  intro p e s m args below meth c A hc hr hlk hnm hro
  generalize hQ : MQ below _ args s 0 0 A = Q
  show V p l e (RM 2 47 0 0) s m args below meth c D A 2 0 0 Q (wL cI cW hl al 10 wa ca col len 4 ++ (wW cI hh ah hcol hlen)) 0 [(0, .ref hl), (1, .ref hh)] []
  refine r_aload_n hc dX4_add_0 rfl 0 rfl ?_
  refine r_get hc inlX4 0 rfl rfl 0 (by decide) fl_X4_9 rfl rfl dX4_add_1 ?_
  refine r_aload_n hc dX4_add_4 rfl 0 rfl ?_
  refine r_get hc inlX4 0 rfl rfl 1 (by decide) fl_X4_16 rfl rfl dX4_add_5 ?_
  refine r_ald hc 1 rfl (by decide) (by decide) rfl dX4_add_8 ?_
  refine r_aload_n hc dX4_add_9 rfl 1 rfl ?_
  refine r_callV (As := [.ref hh]) (n := 1) (wr := [(hl, .inr (4, [.ref al, .int (nI 4)])), (al, .inl (cW, 10, .inr (.inr (.inr (.inr (fun j => some (wa j))))))), (wa 0, .inr (3, [.ref (ca 0), .int (nI (len 0))])), (ca 0, .inl (cI, 24, .inl (fun j => nI (col 0 j)))), (wa 1, .inr (3, [.ref (ca 1), .int (nI (len 1))])), (ca 1, .inl (cI, 24, .inl (fun j => nI (col 1 j)))), (wa 2, .inr (3, [.ref (ca 2), .int (nI (len 2))])), (ca 2, .inl (cI, 24, .inl (fun j => nI (col 2 j)))), (wa 3, .inr (3, [.ref (ca 3), .int (nI (len 3))])), (ca 3, .inl (cI, 24, .inl (fun j => nI (col 3 j)))), (wa 5, .inr (3, [.ref (ca 5), .int (nI (len 5))])), (ca 5, .inl (cI, 24, .inl (fun j => nI (col 5 j)))), (wa 6, .inr (3, [.ref (ca 6), .int (nI (len 6))])), (ca 6, .inl (cI, 24, .inl (fun j => nI (col 6 j)))), (wa 7, .inr (3, [.ref (ca 7), .int (nI (len 7))])), (ca 7, .inl (cI, 24, .inl (fun j => nI (col 7 j)))), (wa 8, .inr (3, [.ref (ca 8), .int (nI (len 8))])), (ca 8, .inl (cI, 24, .inl (fun j => nI (col 8 j)))), (wa 9, .inr (3, [.ref (ca 9), .int (nI (len 9))])), (ca 9, .inl (cI, 24, .inl (fun j => nI (col 9 j))))]) hc (c_copyFrom l D cI cZ cW (wa 4) (ca 4) hh ah (col 4) (len 4) hcol hlen hl24) co_yX3_copyFrom in_X3 ml_X4_20 (by decide +kernel) rfl ⟨by decide, by decide⟩ ⟨by decide, by decide⟩ im_yX3_copyFrom se_yX3_copyFrom rfl (Or.inl ⟨10, _, rfl⟩) rfl (Nat.le_of_ble_eq_true rfl) [10, 11, 22, 23] [0, 1, 2, 3, 4, 5, 6, 7, 8, 9, 12, 13, 14, 15, 16, 17, 18, 19, 20, 21] rfl rfl rfl rfl (by decide) (fun q hq => absurd hq List.not_mem_nil) dX4_add_10 (fun u0 e0 => ?_)
  subst e0
  refine r_perm (ws' := wL cI cW hl al 10 wa ca (va_up col 4 (cpN hcol (col 4) hlen)) (va_up len 4 hlen) 4 ++ (wW cI hh ah hcol hlen)) [0, 1, 2, 3, 4, 5, 6, 7, 8, 9, 20, 21, 10, 11, 12, 13, 14, 15, 16, 17, 18, 19, 22, 23] rfl rfl ?_
  refine r_aload_n hc dX4_add_13 rfl 0 rfl ?_
  refine r_dup hc dX4_add_14 rfl ?_
  refine r_get hc inlX4 0 rfl rfl 1 (by decide) fl_X4_16 rfl rfl dX4_add_15 ?_
  refine r_iconst (v := (nI 1)) hc dX4_add_18 rfl ?_
  refine n_add hc dX4_add_19 ?_
  refine r_put (ws' := wL cI cW hl al 10 wa ca (va_up col 4 (cpN hcol (col 4) hlen)) (va_up len 4 hlen) (4 + 1) ++ (wW cI hh ah hcol hlen)) hc inlX4 tyX4 tyX4_ok nmX4 0 rfl rfl 1 (by decide) fl_X4_16 rfl rfl rfl rfl (Nat.le_of_ble_eq_true rfl) rfl dX4_add_20 ?_
  rw [← hQ]
  exact r_vret hc hr hlk (va_up col 4 (cpN hcol (col 4) hlen), va_up len 4 hlen, 5) rfl rfl dX4_add_23
set_option maxHeartbeats 4000000 in
set_option maxRecDepth 100000 in
/-- add, the list of 10, 5 there -/
theorem c_add10_5 (l : Launch) (D : va_G) (cI cZ cW : ClassId) (hl al : Nat) (wa ca : Nat → Nat) (col : Nat → Nat → Nat) (len : Nat → Nat) (hh ah : Nat) (hcol : Nat → Nat) (hlen : Nat) (hl24 : hlen ≤ 24) : CtV l yX4_add cX4_add 2 none 2 47 0 0 D cI cZ cW [.ref hl, .ref hh] (wL cI cW hl al 10 wa ca col len 5 ++ wW cI hh ah hcol hlen) ([]) (S := (Nat → Nat → Nat) × (Nat → Nat) × Nat) (fun u => u = (va_up col 5 (cpN hcol (col 5) hlen), va_up len 5 hlen, 6)) (fun u => wL cI cW hl al 10 wa ca u.1 u.2.1 u.2.2 ++ wW cI hh ah hcol hlen) := by
  refine CtV.mk (by decide) (Nat.le_of_ble_eq_true rfl) ?_
  intro p e s m args below meth c A hc hr hlk hnm hro
  generalize hQ : MQ below _ args s 0 0 A = Q
  show V p l e (RM 2 47 0 0) s m args below meth c D A 2 0 0 Q (wL cI cW hl al 10 wa ca col len 5 ++ (wW cI hh ah hcol hlen)) 0 [(0, .ref hl), (1, .ref hh)] []
  refine r_aload_n hc dX4_add_0 rfl 0 rfl ?_
  refine r_get hc inlX4 0 rfl rfl 0 (by decide) fl_X4_9 rfl rfl dX4_add_1 ?_
  refine r_aload_n hc dX4_add_4 rfl 0 rfl ?_
  refine r_get hc inlX4 0 rfl rfl 1 (by decide) fl_X4_16 rfl rfl dX4_add_5 ?_
  refine r_ald hc 1 rfl (by decide) (by decide) rfl dX4_add_8 ?_
  refine r_aload_n hc dX4_add_9 rfl 1 rfl ?_
  refine r_callV (As := [.ref hh]) (n := 1) (wr := [(hl, .inr (4, [.ref al, .int (nI 5)])), (al, .inl (cW, 10, .inr (.inr (.inr (.inr (fun j => some (wa j))))))), (wa 0, .inr (3, [.ref (ca 0), .int (nI (len 0))])), (ca 0, .inl (cI, 24, .inl (fun j => nI (col 0 j)))), (wa 1, .inr (3, [.ref (ca 1), .int (nI (len 1))])), (ca 1, .inl (cI, 24, .inl (fun j => nI (col 1 j)))), (wa 2, .inr (3, [.ref (ca 2), .int (nI (len 2))])), (ca 2, .inl (cI, 24, .inl (fun j => nI (col 2 j)))), (wa 3, .inr (3, [.ref (ca 3), .int (nI (len 3))])), (ca 3, .inl (cI, 24, .inl (fun j => nI (col 3 j)))), (wa 4, .inr (3, [.ref (ca 4), .int (nI (len 4))])), (ca 4, .inl (cI, 24, .inl (fun j => nI (col 4 j)))), (wa 6, .inr (3, [.ref (ca 6), .int (nI (len 6))])), (ca 6, .inl (cI, 24, .inl (fun j => nI (col 6 j)))), (wa 7, .inr (3, [.ref (ca 7), .int (nI (len 7))])), (ca 7, .inl (cI, 24, .inl (fun j => nI (col 7 j)))), (wa 8, .inr (3, [.ref (ca 8), .int (nI (len 8))])), (ca 8, .inl (cI, 24, .inl (fun j => nI (col 8 j)))), (wa 9, .inr (3, [.ref (ca 9), .int (nI (len 9))])), (ca 9, .inl (cI, 24, .inl (fun j => nI (col 9 j))))]) hc (c_copyFrom l D cI cZ cW (wa 5) (ca 5) hh ah (col 5) (len 5) hcol hlen hl24) co_yX3_copyFrom in_X3 ml_X4_20 (by decide +kernel) rfl ⟨by decide, by decide⟩ ⟨by decide, by decide⟩ im_yX3_copyFrom se_yX3_copyFrom rfl (Or.inl ⟨12, _, rfl⟩) rfl (Nat.le_of_ble_eq_true rfl) [12, 13, 22, 23] [0, 1, 2, 3, 4, 5, 6, 7, 8, 9, 10, 11, 14, 15, 16, 17, 18, 19, 20, 21] rfl rfl rfl rfl (by decide) (fun q hq => absurd hq List.not_mem_nil) dX4_add_10 (fun u0 e0 => ?_)
  subst e0
  refine r_perm (ws' := wL cI cW hl al 10 wa ca (va_up col 5 (cpN hcol (col 5) hlen)) (va_up len 5 hlen) 5 ++ (wW cI hh ah hcol hlen)) [0, 1, 2, 3, 4, 5, 6, 7, 8, 9, 10, 11, 20, 21, 12, 13, 14, 15, 16, 17, 18, 19, 22, 23] rfl rfl ?_
  refine r_aload_n hc dX4_add_13 rfl 0 rfl ?_
  refine r_dup hc dX4_add_14 rfl ?_
  refine r_get hc inlX4 0 rfl rfl 1 (by decide) fl_X4_16 rfl rfl dX4_add_15 ?_
  refine r_iconst (v := (nI 1)) hc dX4_add_18 rfl ?_
  refine n_add hc dX4_add_19 ?_
  refine r_put (ws' := wL cI cW hl al 10 wa ca (va_up col 5 (cpN hcol (col 5) hlen)) (va_up len 5 hlen) (5 + 1) ++ (wW cI hh ah hcol hlen)) hc inlX4 tyX4 tyX4_ok nmX4 0 rfl rfl 1 (by decide) fl_X4_16 rfl rfl rfl rfl (Nat.le_of_ble_eq_true rfl) rfl dX4_add_20 ?_
  rw [← hQ]
  exact r_vret hc hr hlk (va_up col 5 (cpN hcol (col 5) hlen), va_up len 5 hlen, 6) rfl rfl dX4_add_23
set_option maxHeartbeats 4000000 in
set_option maxRecDepth 100000 in
/-- add, the list of 10, 6 there -/
theorem c_add10_6 (l : Launch) (D : va_G) (cI cZ cW : ClassId) (hl al : Nat) (wa ca : Nat → Nat) (col : Nat → Nat → Nat) (len : Nat → Nat) (hh ah : Nat) (hcol : Nat → Nat) (hlen : Nat) (hl24 : hlen ≤ 24) : CtV l yX4_add cX4_add 2 none 2 47 0 0 D cI cZ cW [.ref hl, .ref hh] (wL cI cW hl al 10 wa ca col len 6 ++ wW cI hh ah hcol hlen) ([]) (S := (Nat → Nat → Nat) × (Nat → Nat) × Nat) (fun u => u = (va_up col 6 (cpN hcol (col 6) hlen), va_up len 6 hlen, 7)) (fun u => wL cI cW hl al 10 wa ca u.1 u.2.1 u.2.2 ++ wW cI hh ah hcol hlen) := by
  refine CtV.mk (by decide) (Nat.le_of_ble_eq_true rfl) ?_
  intro p e s m args below meth c A hc hr hlk hnm hro
  generalize hQ : MQ below _ args s 0 0 A = Q
  show V p l e (RM 2 47 0 0) s m args below meth c D A 2 0 0 Q (wL cI cW hl al 10 wa ca col len 6 ++ (wW cI hh ah hcol hlen)) 0 [(0, .ref hl), (1, .ref hh)] []
  refine r_aload_n hc dX4_add_0 rfl 0 rfl ?_
  refine r_get hc inlX4 0 rfl rfl 0 (by decide) fl_X4_9 rfl rfl dX4_add_1 ?_
  refine r_aload_n hc dX4_add_4 rfl 0 rfl ?_
  refine r_get hc inlX4 0 rfl rfl 1 (by decide) fl_X4_16 rfl rfl dX4_add_5 ?_
  refine r_ald hc 1 rfl (by decide) (by decide) rfl dX4_add_8 ?_
  refine r_aload_n hc dX4_add_9 rfl 1 rfl ?_
  refine r_callV (As := [.ref hh]) (n := 1) (wr := [(hl, .inr (4, [.ref al, .int (nI 6)])), (al, .inl (cW, 10, .inr (.inr (.inr (.inr (fun j => some (wa j))))))), (wa 0, .inr (3, [.ref (ca 0), .int (nI (len 0))])), (ca 0, .inl (cI, 24, .inl (fun j => nI (col 0 j)))), (wa 1, .inr (3, [.ref (ca 1), .int (nI (len 1))])), (ca 1, .inl (cI, 24, .inl (fun j => nI (col 1 j)))), (wa 2, .inr (3, [.ref (ca 2), .int (nI (len 2))])), (ca 2, .inl (cI, 24, .inl (fun j => nI (col 2 j)))), (wa 3, .inr (3, [.ref (ca 3), .int (nI (len 3))])), (ca 3, .inl (cI, 24, .inl (fun j => nI (col 3 j)))), (wa 4, .inr (3, [.ref (ca 4), .int (nI (len 4))])), (ca 4, .inl (cI, 24, .inl (fun j => nI (col 4 j)))), (wa 5, .inr (3, [.ref (ca 5), .int (nI (len 5))])), (ca 5, .inl (cI, 24, .inl (fun j => nI (col 5 j)))), (wa 7, .inr (3, [.ref (ca 7), .int (nI (len 7))])), (ca 7, .inl (cI, 24, .inl (fun j => nI (col 7 j)))), (wa 8, .inr (3, [.ref (ca 8), .int (nI (len 8))])), (ca 8, .inl (cI, 24, .inl (fun j => nI (col 8 j)))), (wa 9, .inr (3, [.ref (ca 9), .int (nI (len 9))])), (ca 9, .inl (cI, 24, .inl (fun j => nI (col 9 j))))]) hc (c_copyFrom l D cI cZ cW (wa 6) (ca 6) hh ah (col 6) (len 6) hcol hlen hl24) co_yX3_copyFrom in_X3 ml_X4_20 (by decide +kernel) rfl ⟨by decide, by decide⟩ ⟨by decide, by decide⟩ im_yX3_copyFrom se_yX3_copyFrom rfl (Or.inl ⟨14, _, rfl⟩) rfl (Nat.le_of_ble_eq_true rfl) [14, 15, 22, 23] [0, 1, 2, 3, 4, 5, 6, 7, 8, 9, 10, 11, 12, 13, 16, 17, 18, 19, 20, 21] rfl rfl rfl rfl (by decide) (fun q hq => absurd hq List.not_mem_nil) dX4_add_10 (fun u0 e0 => ?_)
  subst e0
  refine r_perm (ws' := wL cI cW hl al 10 wa ca (va_up col 6 (cpN hcol (col 6) hlen)) (va_up len 6 hlen) 6 ++ (wW cI hh ah hcol hlen)) [0, 1, 2, 3, 4, 5, 6, 7, 8, 9, 10, 11, 12, 13, 20, 21, 14, 15, 16, 17, 18, 19, 22, 23] rfl rfl ?_
  refine r_aload_n hc dX4_add_13 rfl 0 rfl ?_
  refine r_dup hc dX4_add_14 rfl ?_
  refine r_get hc inlX4 0 rfl rfl 1 (by decide) fl_X4_16 rfl rfl dX4_add_15 ?_
  refine r_iconst (v := (nI 1)) hc dX4_add_18 rfl ?_
  refine n_add hc dX4_add_19 ?_
  refine r_put (ws' := wL cI cW hl al 10 wa ca (va_up col 6 (cpN hcol (col 6) hlen)) (va_up len 6 hlen) (6 + 1) ++ (wW cI hh ah hcol hlen)) hc inlX4 tyX4 tyX4_ok nmX4 0 rfl rfl 1 (by decide) fl_X4_16 rfl rfl rfl rfl (Nat.le_of_ble_eq_true rfl) rfl dX4_add_20 ?_
  rw [← hQ]
  exact r_vret hc hr hlk (va_up col 6 (cpN hcol (col 6) hlen), va_up len 6 hlen, 7) rfl rfl dX4_add_23
set_option maxHeartbeats 4000000 in
set_option maxRecDepth 100000 in
/-- add, the list of 10, 7 there -/
theorem c_add10_7 (l : Launch) (D : va_G) (cI cZ cW : ClassId) (hl al : Nat) (wa ca : Nat → Nat) (col : Nat → Nat → Nat) (len : Nat → Nat) (hh ah : Nat) (hcol : Nat → Nat) (hlen : Nat) (hl24 : hlen ≤ 24) : CtV l yX4_add cX4_add 2 none 2 47 0 0 D cI cZ cW [.ref hl, .ref hh] (wL cI cW hl al 10 wa ca col len 7 ++ wW cI hh ah hcol hlen) ([]) (S := (Nat → Nat → Nat) × (Nat → Nat) × Nat) (fun u => u = (va_up col 7 (cpN hcol (col 7) hlen), va_up len 7 hlen, 8)) (fun u => wL cI cW hl al 10 wa ca u.1 u.2.1 u.2.2 ++ wW cI hh ah hcol hlen) := by
  refine CtV.mk (by decide) (Nat.le_of_ble_eq_true rfl) ?_
  intro p e s m args below meth c A hc hr hlk hnm hro
  generalize hQ : MQ below _ args s 0 0 A = Q
  show V p l e (RM 2 47 0 0) s m args below meth c D A 2 0 0 Q (wL cI cW hl al 10 wa ca col len 7 ++ (wW cI hh ah hcol hlen)) 0 [(0, .ref hl), (1, .ref hh)] []
  refine r_aload_n hc dX4_add_0 rfl 0 rfl ?_
  refine r_get hc inlX4 0 rfl rfl 0 (by decide) fl_X4_9 rfl rfl dX4_add_1 ?_
  refine r_aload_n hc dX4_add_4 rfl 0 rfl ?_
  refine r_get hc inlX4 0 rfl rfl 1 (by decide) fl_X4_16 rfl rfl dX4_add_5 ?_
  refine r_ald hc 1 rfl (by decide) (by decide) rfl dX4_add_8 ?_
  refine r_aload_n hc dX4_add_9 rfl 1 rfl ?_
  refine r_callV (As := [.ref hh]) (n := 1) (wr := [(hl, .inr (4, [.ref al, .int (nI 7)])), (al, .inl (cW, 10, .inr (.inr (.inr (.inr (fun j => some (wa j))))))), (wa 0, .inr (3, [.ref (ca 0), .int (nI (len 0))])), (ca 0, .inl (cI, 24, .inl (fun j => nI (col 0 j)))), (wa 1, .inr (3, [.ref (ca 1), .int (nI (len 1))])), (ca 1, .inl (cI, 24, .inl (fun j => nI (col 1 j)))), (wa 2, .inr (3, [.ref (ca 2), .int (nI (len 2))])), (ca 2, .inl (cI, 24, .inl (fun j => nI (col 2 j)))), (wa 3, .inr (3, [.ref (ca 3), .int (nI (len 3))])), (ca 3, .inl (cI, 24, .inl (fun j => nI (col 3 j)))), (wa 4, .inr (3, [.ref (ca 4), .int (nI (len 4))])), (ca 4, .inl (cI, 24, .inl (fun j => nI (col 4 j)))), (wa 5, .inr (3, [.ref (ca 5), .int (nI (len 5))])), (ca 5, .inl (cI, 24, .inl (fun j => nI (col 5 j)))), (wa 6, .inr (3, [.ref (ca 6), .int (nI (len 6))])), (ca 6, .inl (cI, 24, .inl (fun j => nI (col 6 j)))), (wa 8, .inr (3, [.ref (ca 8), .int (nI (len 8))])), (ca 8, .inl (cI, 24, .inl (fun j => nI (col 8 j)))), (wa 9, .inr (3, [.ref (ca 9), .int (nI (len 9))])), (ca 9, .inl (cI, 24, .inl (fun j => nI (col 9 j))))]) hc (c_copyFrom l D cI cZ cW (wa 7) (ca 7) hh ah (col 7) (len 7) hcol hlen hl24) co_yX3_copyFrom in_X3 ml_X4_20 (by decide +kernel) rfl ⟨by decide, by decide⟩ ⟨by decide, by decide⟩ im_yX3_copyFrom se_yX3_copyFrom rfl (Or.inl ⟨16, _, rfl⟩) rfl (Nat.le_of_ble_eq_true rfl) [16, 17, 22, 23] [0, 1, 2, 3, 4, 5, 6, 7, 8, 9, 10, 11, 12, 13, 14, 15, 18, 19, 20, 21] rfl rfl rfl rfl (by decide) (fun q hq => absurd hq List.not_mem_nil) dX4_add_10 (fun u0 e0 => ?_)
  subst e0
  refine r_perm (ws' := wL cI cW hl al 10 wa ca (va_up col 7 (cpN hcol (col 7) hlen)) (va_up len 7 hlen) 7 ++ (wW cI hh ah hcol hlen)) [0, 1, 2, 3, 4, 5, 6, 7, 8, 9, 10, 11, 12, 13, 14, 15, 20, 21, 16, 17, 18, 19, 22, 23] rfl rfl ?_
  refine r_aload_n hc dX4_add_13 rfl 0 rfl ?_
  refine r_dup hc dX4_add_14 rfl ?_
  refine r_get hc inlX4 0 rfl rfl 1 (by decide) fl_X4_16 rfl rfl dX4_add_15 ?_
  refine r_iconst (v := (nI 1)) hc dX4_add_18 rfl ?_
  refine n_add hc dX4_add_19 ?_
  refine r_put (ws' := wL cI cW hl al 10 wa ca (va_up col 7 (cpN hcol (col 7) hlen)) (va_up len 7 hlen) (7 + 1) ++ (wW cI hh ah hcol hlen)) hc inlX4 tyX4 tyX4_ok nmX4 0 rfl rfl 1 (by decide) fl_X4_16 rfl rfl rfl rfl (Nat.le_of_ble_eq_true rfl) rfl dX4_add_20 ?_
  rw [← hQ]
  exact r_vret hc hr hlk (va_up col 7 (cpN hcol (col 7) hlen), va_up len 7 hlen, 8) rfl rfl dX4_add_23
set_option maxHeartbeats 4000000 in
set_option maxRecDepth 100000 in
/-- add, the list of 10, 8 there -/
theorem c_add10_8 (l : Launch) (D : va_G) (cI cZ cW : ClassId) (hl al : Nat) (wa ca : Nat → Nat) (col : Nat → Nat → Nat) (len : Nat → Nat) (hh ah : Nat) (hcol : Nat → Nat) (hlen : Nat) (hl24 : hlen ≤ 24) : CtV l yX4_add cX4_add 2 none 2 47 0 0 D cI cZ cW [.ref hl, .ref hh] (wL cI cW hl al 10 wa ca col len 8 ++ wW cI hh ah hcol hlen) ([]) (S := (Nat → Nat → Nat) × (Nat → Nat) × Nat) (fun u => u = (va_up col 8 (cpN hcol (col 8) hlen), va_up len 8 hlen, 9)) (fun u => wL cI cW hl al 10 wa ca u.1 u.2.1 u.2.2 ++ wW cI hh ah hcol hlen) := by
  refine CtV.mk (by decide) (Nat.le_of_ble_eq_true rfl) ?_
  intro p e s m args below meth c A hc hr hlk hnm hro
  generalize hQ : MQ below _ args s 0 0 A = Q
  show V p l e (RM 2 47 0 0) s m args below meth c D A 2 0 0 Q (wL cI cW hl al 10 wa ca col len 8 ++ (wW cI hh ah hcol hlen)) 0 [(0, .ref hl), (1, .ref hh)] []
  refine r_aload_n hc dX4_add_0 rfl 0 rfl ?_
  refine r_get hc inlX4 0 rfl rfl 0 (by decide) fl_X4_9 rfl rfl dX4_add_1 ?_
  refine r_aload_n hc dX4_add_4 rfl 0 rfl ?_
  refine r_get hc inlX4 0 rfl rfl 1 (by decide) fl_X4_16 rfl rfl dX4_add_5 ?_
  refine r_ald hc 1 rfl (by decide) (by decide) rfl dX4_add_8 ?_
  refine r_aload_n hc dX4_add_9 rfl 1 rfl ?_
  refine r_callV (As := [.ref hh]) (n := 1) (wr := [(hl, .inr (4, [.ref al, .int (nI 8)])), (al, .inl (cW, 10, .inr (.inr (.inr (.inr (fun j => some (wa j))))))), (wa 0, .inr (3, [.ref (ca 0), .int (nI (len 0))])), (ca 0, .inl (cI, 24, .inl (fun j => nI (col 0 j)))), (wa 1, .inr (3, [.ref (ca 1), .int (nI (len 1))])), (ca 1, .inl (cI, 24, .inl (fun j => nI (col 1 j)))), (wa 2, .inr (3, [.ref (ca 2), .int (nI (len 2))])), (ca 2, .inl (cI, 24, .inl (fun j => nI (col 2 j)))), (wa 3, .inr (3, [.ref (ca 3), .int (nI (len 3))])), (ca 3, .inl (cI, 24, .inl (fun j => nI (col 3 j)))), (wa 4, .inr (3, [.ref (ca 4), .int (nI (len 4))])), (ca 4, .inl (cI, 24, .inl (fun j => nI (col 4 j)))), (wa 5, .inr (3, [.ref (ca 5), .int (nI (len 5))])), (ca 5, .inl (cI, 24, .inl (fun j => nI (col 5 j)))), (wa 6, .inr (3, [.ref (ca 6), .int (nI (len 6))])), (ca 6, .inl (cI, 24, .inl (fun j => nI (col 6 j)))), (wa 7, .inr (3, [.ref (ca 7), .int (nI (len 7))])), (ca 7, .inl (cI, 24, .inl (fun j => nI (col 7 j)))), (wa 9, .inr (3, [.ref (ca 9), .int (nI (len 9))])), (ca 9, .inl (cI, 24, .inl (fun j => nI (col 9 j))))]) hc (c_copyFrom l D cI cZ cW (wa 8) (ca 8) hh ah (col 8) (len 8) hcol hlen hl24) co_yX3_copyFrom in_X3 ml_X4_20 (by decide +kernel) rfl ⟨by decide, by decide⟩ ⟨by decide, by decide⟩ im_yX3_copyFrom se_yX3_copyFrom rfl (Or.inl ⟨18, _, rfl⟩) rfl (Nat.le_of_ble_eq_true rfl) [18, 19, 22, 23] [0, 1, 2, 3, 4, 5, 6, 7, 8, 9, 10, 11, 12, 13, 14, 15, 16, 17, 20, 21] rfl rfl rfl rfl (by decide) (fun q hq => absurd hq List.not_mem_nil) dX4_add_10 (fun u0 e0 => ?_)
  subst e0
  refine r_perm (ws' := wL cI cW hl al 10 wa ca (va_up col 8 (cpN hcol (col 8) hlen)) (va_up len 8 hlen) 8 ++ (wW cI hh ah hcol hlen)) [0, 1, 2, 3, 4, 5, 6, 7, 8, 9, 10, 11, 12, 13, 14, 15, 16, 17, 20, 21, 18, 19, 22, 23] rfl rfl ?_
  refine r_aload_n hc dX4_add_13 rfl 0 rfl ?_
  refine r_dup hc dX4_add_14 rfl ?_
  refine r_get hc inlX4 0 rfl rfl 1 (by decide) fl_X4_16 rfl rfl dX4_add_15 ?_
  refine r_iconst (v := (nI 1)) hc dX4_add_18 rfl ?_
  refine n_add hc dX4_add_19 ?_
  refine r_put (ws' := wL cI cW hl al 10 wa ca (va_up col 8 (cpN hcol (col 8) hlen)) (va_up len 8 hlen) (8 + 1) ++ (wW cI hh ah hcol hlen)) hc inlX4 tyX4 tyX4_ok nmX4 0 rfl rfl 1 (by decide) fl_X4_16 rfl rfl rfl rfl (Nat.le_of_ble_eq_true rfl) rfl dX4_add_20 ?_
  rw [← hQ]
  exact r_vret hc hr hlk (va_up col 8 (cpN hcol (col 8) hlen), va_up len 8 hlen, 9) rfl rfl dX4_add_23
set_option maxHeartbeats 4000000 in
set_option maxRecDepth 100000 in
/-- add, the list of 10, 9 there -/
theorem c_add10_9 (l : Launch) (D : va_G) (cI cZ cW : ClassId) (hl al : Nat) (wa ca : Nat → Nat) (col : Nat → Nat → Nat) (len : Nat → Nat) (hh ah : Nat) (hcol : Nat → Nat) (hlen : Nat) (hl24 : hlen ≤ 24) : CtV l yX4_add cX4_add 2 none 2 47 0 0 D cI cZ cW [.ref hl, .ref hh] (wL cI cW hl al 10 wa ca col len 9 ++ wW cI hh ah hcol hlen) ([]) (S := (Nat → Nat → Nat) × (Nat → Nat) × Nat) (fun u => u = (va_up col 9 (cpN hcol (col 9) hlen), va_up len 9 hlen, 10)) (fun u => wL cI cW hl al 10 wa ca u.1 u.2.1 u.2.2 ++ wW cI hh ah hcol hlen) := by
  refine CtV.mk (by decide) (Nat.le_of_ble_eq_true rfl) ?_
  intro p e s m args below meth c A hc hr hlk hnm hro
  generalize hQ : MQ below _ args s 0 0 A = Q
  show V p l e (RM 2 47 0 0) s m args below meth c D A 2 0 0 Q (wL cI cW hl al 10 wa ca col len 9 ++ (wW cI hh ah hcol hlen)) 0 [(0, .ref hl), (1, .ref hh)] []
  refine r_aload_n hc dX4_add_0 rfl 0 rfl ?_
  refine r_get hc inlX4 0 rfl rfl 0 (by decide) fl_X4_9 rfl rfl dX4_add_1 ?_
  refine r_aload_n hc dX4_add_4 rfl 0 rfl ?_
  refine r_get hc inlX4 0 rfl rfl 1 (by decide) fl_X4_16 rfl rfl dX4_add_5 ?_
  refine r_ald hc 1 rfl (by decide) (by decide) rfl dX4_add_8 ?_
  refine r_aload_n hc dX4_add_9 rfl 1 rfl ?_
  refine r_callV (As := [.ref hh]) (n := 1) (wr := [(hl, .inr (4, [.ref al, .int (nI 9)])), (al, .inl (cW, 10, .inr (.inr (.inr (.inr (fun j => some (wa j))))))), (wa 0, .inr (3, [.ref (ca 0), .int (nI (len 0))])), (ca 0, .inl (cI, 24, .inl (fun j => nI (col 0 j)))), (wa 1, .inr (3, [.ref (ca 1), .int (nI (len 1))])), (ca 1, .inl (cI, 24, .inl (fun j => nI (col 1 j)))), (wa 2, .inr (3, [.ref (ca 2), .int (nI (len 2))])), (ca 2, .inl (cI, 24, .inl (fun j => nI (col 2 j)))), (wa 3, .inr (3, [.ref (ca 3), .int (nI (len 3))])), (ca 3, .inl (cI, 24, .inl (fun j => nI (col 3 j)))), (wa 4, .inr (3, [.ref (ca 4), .int (nI (len 4))])), (ca 4, .inl (cI, 24, .inl (fun j => nI (col 4 j)))), (wa 5, .inr (3, [.ref (ca 5), .int (nI (len 5))])), (ca 5, .inl (cI, 24, .inl (fun j => nI (col 5 j)))), (wa 6, .inr (3, [.ref (ca 6), .int (nI (len 6))])), (ca 6, .inl (cI, 24, .inl (fun j => nI (col 6 j)))), (wa 7, .inr (3, [.ref (ca 7), .int (nI (len 7))])), (ca 7, .inl (cI, 24, .inl (fun j => nI (col 7 j)))), (wa 8, .inr (3, [.ref (ca 8), .int (nI (len 8))])), (ca 8, .inl (cI, 24, .inl (fun j => nI (col 8 j))))]) hc (c_copyFrom l D cI cZ cW (wa 9) (ca 9) hh ah (col 9) (len 9) hcol hlen hl24) co_yX3_copyFrom in_X3 ml_X4_20 (by decide +kernel) rfl ⟨by decide, by decide⟩ ⟨by decide, by decide⟩ im_yX3_copyFrom se_yX3_copyFrom rfl (Or.inl ⟨20, _, rfl⟩) rfl (Nat.le_of_ble_eq_true rfl) [20, 21, 22, 23] [0, 1, 2, 3, 4, 5, 6, 7, 8, 9, 10, 11, 12, 13, 14, 15, 16, 17, 18, 19] rfl rfl rfl rfl (by decide) (fun q hq => absurd hq List.not_mem_nil) dX4_add_10 (fun u0 e0 => ?_)
  subst e0
  refine r_perm (ws' := wL cI cW hl al 10 wa ca (va_up col 9 (cpN hcol (col 9) hlen)) (va_up len 9 hlen) 9 ++ (wW cI hh ah hcol hlen)) [0, 1, 2, 3, 4, 5, 6, 7, 8, 9, 10, 11, 12, 13, 14, 15, 16, 17, 18, 19, 20, 21, 22, 23] rfl rfl ?_
  refine r_aload_n hc dX4_add_13 rfl 0 rfl ?_
  refine r_dup hc dX4_add_14 rfl ?_
  refine r_get hc inlX4 0 rfl rfl 1 (by decide) fl_X4_16 rfl rfl dX4_add_15 ?_
  refine r_iconst (v := (nI 1)) hc dX4_add_18 rfl ?_
  refine n_add hc dX4_add_19 ?_
  refine r_put (ws' := wL cI cW hl al 10 wa ca (va_up col 9 (cpN hcol (col 9) hlen)) (va_up len 9 hlen) (9 + 1) ++ (wW cI hh ah hcol hlen)) hc inlX4 tyX4 tyX4_ok nmX4 0 rfl rfl 1 (by decide) fl_X4_16 rfl rfl rfl rfl (Nat.le_of_ble_eq_true rfl) rfl dX4_add_20 ?_
  rw [← hQ]
  exact r_vret hc hr hlk (va_up col 9 (cpN hcol (col 9) hlen), va_up len 9 hlen, 10) rfl rfl dX4_add_23
theorem c_add10 (l : Launch) (D : va_G) (cI cZ cW : ClassId) (hl al : Nat) (wa ca : Nat → Nat) (col : Nat → Nat → Nat) (len : Nat → Nat) (hh ah : Nat) (hcol : Nat → Nat) (hlen : Nat) (hl24 : hlen ≤ 24) (sz : Nat) (hsz : sz < 10) : CtV l yX4_add cX4_add 2 none 2 47 0 0 D cI cZ cW [.ref hl, .ref hh] (wL cI cW hl al 10 wa ca col len sz ++ wW cI hh ah hcol hlen) ([]) (S := (Nat → Nat → Nat) × (Nat → Nat) × Nat) (fun u => u = (va_up col sz (cpN hcol (col sz) hlen), va_up len sz hlen, sz + 1)) (fun u => wL cI cW hl al 10 wa ca u.1 u.2.1 u.2.2 ++ wW cI hh ah hcol hlen) :=
  match sz, hsz with
  | 0, _ => c_add10_0 l D cI cZ cW hl al wa ca col len hh ah hcol hlen hl24
  | 1, _ => c_add10_1 l D cI cZ cW hl al wa ca col len hh ah hcol hlen hl24
  | 2, _ => c_add10_2 l D cI cZ cW hl al wa ca col len hh ah hcol hlen hl24
  | 3, _ => c_add10_3 l D cI cZ cW hl al wa ca col len hh ah hcol hlen hl24
  | 4, _ => c_add10_4 l D cI cZ cW hl al wa ca col len hh ah hcol hlen hl24
  | 5, _ => c_add10_5 l D cI cZ cW hl al wa ca col len hh ah hcol hlen hl24
  | 6, _ => c_add10_6 l D cI cZ cW hl al wa ca col len hh ah hcol hlen hl24
  | 7, _ => c_add10_7 l D cI cZ cW hl al wa ca col len hh ah hcol hlen hl24
  | 8, _ => c_add10_8 l D cI cZ cW hl al wa ca col len hh ah hcol hlen hl24
  | 9, _ => c_add10_9 l D cI cZ cW hl al wa ca col len hh ah hcol hlen hl24
  | z + 10, hz => absurd hz (by omega)
set_option maxHeartbeats 4000000 in
set_option maxRecDepth 100000 in
/-- add, the list of 5, 0 there -/
theorem c_add5_0 (l : Launch) (D : va_G) (cI cZ cW : ClassId) (hl al : Nat) (wa ca : Nat → Nat) (col : Nat → Nat → Nat) (len : Nat → Nat) (hh ah : Nat) (hcol : Nat → Nat) (hlen : Nat) (hl24 : hlen ≤ 24) : CtV l yX4_add cX4_add 2 none 2 47 0 0 D cI cZ cW [.ref hl, .ref hh] (wL cI cW hl al 5 wa ca col len 0 ++ wW cI hh ah hcol hlen) ([]) (S := (Nat → Nat → Nat) × (Nat → Nat) × Nat) (fun u => u = (va_up col 0 (cpN hcol (col 0) hlen), va_up len 0 hlen, 1)) (fun u => wL cI cW hl al 5 wa ca u.1 u.2.1 u.2.2 ++ wW cI hh ah hcol hlen) := by
  refine CtV.mk (by decide) (Nat.le_of_ble_eq_true rfl) ?_
  intro p e s m args below meth c A hc hr hlk hnm hro
  generalize hQ : MQ below _ args s 0 0 A = Q
  show V p l e (RM 2 47 0 0) s m args below meth c D A 2 0 0 Q (wL cI cW hl al 5 wa ca col len 0 ++ (wW cI hh ah hcol hlen)) 0 [(0, .ref hl), (1, .ref hh)] []
  refine r_aload_n hc dX4_add_0 rfl 0 rfl ?_
  refine r_get hc inlX4 0 rfl rfl 0 (by decide) fl_X4_9 rfl rfl dX4_add_1 ?_
  refine r_aload_n hc dX4_add_4 rfl 0 rfl ?_
  refine r_get hc inlX4 0 rfl rfl 1 (by decide) fl_X4_16 rfl rfl dX4_add_5 ?_
  refine r_ald hc 1 rfl (by decide) (by decide) rfl dX4_add_8 ?_
  refine r_aload_n hc dX4_add_9 rfl 1 rfl ?_
  refine r_callV (As := [.ref hh]) (n := 1) (wr := [(hl, .inr (4, [.ref al, .int (nI 0)])), (al, .inl (cW, 5, .inr (.inr (.inr (.inr (fun j => some (wa j))))))), (wa 1, .inr (3, [.ref (ca 1), .int (nI (len 1))])), (ca 1, .inl (cI, 24, .inl (fun j => nI (col 1 j)))), (wa 2, .inr (3, [.ref (ca 2), .int (nI (len 2))])), (ca 2, .inl (cI, 24, .inl (fun j => nI (col 2 j)))), (wa 3, .inr (3, [.ref (ca 3), .int (nI (len 3))])), (ca 3, .inl (cI, 24, .inl (fun j => nI (col 3 j)))), (wa 4, .inr (3, [.ref (ca 4), .int (nI (len 4))])), (ca 4, .inl (cI, 24, .inl (fun j => nI (col 4 j))))]) hc (c_copyFrom l D cI cZ cW (wa 0) (ca 0) hh ah (col 0) (len 0) hcol hlen hl24) co_yX3_copyFrom in_X3 ml_X4_20 (by decide +kernel) rfl ⟨by decide, by decide⟩ ⟨by decide, by decide⟩ im_yX3_copyFrom se_yX3_copyFrom rfl (Or.inl ⟨2, _, rfl⟩) rfl (Nat.le_of_ble_eq_true rfl) [2, 3, 12, 13] [0, 1, 4, 5, 6, 7, 8, 9, 10, 11] rfl rfl rfl rfl (by decide) (fun q hq => absurd hq List.not_mem_nil) dX4_add_10 (fun u0 e0 => ?_)
  subst e0
  refine r_perm (ws' := wL cI cW hl al 5 wa ca (va_up col 0 (cpN hcol (col 0) hlen)) (va_up len 0 hlen) 0 ++ (wW cI hh ah hcol hlen)) [0, 1, 10, 11, 2, 3, 4, 5, 6, 7, 8, 9, 12, 13] rfl rfl ?_
  refine r_aload_n hc dX4_add_13 rfl 0 rfl ?_
  refine r_dup hc dX4_add_14 rfl ?_
  refine r_get hc inlX4 0 rfl rfl 1 (by decide) fl_X4_16 rfl rfl dX4_add_15 ?_
  refine r_iconst (v := (nI 1)) hc dX4_add_18 rfl ?_
  refine n_add hc dX4_add_19 ?_
  refine r_put (ws' := wL cI cW hl al 5 wa ca (va_up col 0 (cpN hcol (col 0) hlen)) (va_up len 0 hlen) (0 + 1) ++ (wW cI hh ah hcol hlen)) hc inlX4 tyX4 tyX4_ok nmX4 0 rfl rfl 1 (by decide) fl_X4_16 rfl rfl rfl rfl (Nat.le_of_ble_eq_true rfl) rfl dX4_add_20 ?_
  rw [← hQ]
  exact r_vret hc hr hlk (va_up col 0 (cpN hcol (col 0) hlen), va_up len 0 hlen, 1) rfl rfl dX4_add_23
set_option maxHeartbeats 4000000 in
set_option maxRecDepth 100000 in
/-- add, the list of 5, 1 there -/
theorem c_add5_1 (l : Launch) (D : va_G) (cI cZ cW : ClassId) (hl al : Nat) (wa ca : Nat → Nat) (col : Nat → Nat → Nat) (len : Nat → Nat) (hh ah : Nat) (hcol : Nat → Nat) (hlen : Nat) (hl24 : hlen ≤ 24) : CtV l yX4_add cX4_add 2 none 2 47 0 0 D cI cZ cW [.ref hl, .ref hh] (wL cI cW hl al 5 wa ca col len 1 ++ wW cI hh ah hcol hlen) ([]) (S := (Nat → Nat → Nat) × (Nat → Nat) × Nat) (fun u => u = (va_up col 1 (cpN hcol (col 1) hlen), va_up len 1 hlen, 2)) (fun u => wL cI cW hl al 5 wa ca u.1 u.2.1 u.2.2 ++ wW cI hh ah hcol hlen) := by
  refine CtV.mk (by decide) (Nat.le_of_ble_eq_true rfl) ?_
  intro p e s m args below meth c A hc hr hlk hnm hro
  generalize hQ : MQ below _ args s 0 0 A = Q
  show V p l e (RM 2 47 0 0) s m args below meth c D A 2 0 0 Q (wL cI cW hl al 5 wa ca col len 1 ++ (wW cI hh ah hcol hlen)) 0 [(0, .ref hl), (1, .ref hh)] []
  refine r_aload_n hc dX4_add_0 rfl 0 rfl ?_
  refine r_get hc inlX4 0 rfl rfl 0 (by decide) fl_X4_9 rfl rfl dX4_add_1 ?_
  refine r_aload_n hc dX4_add_4 rfl 0 rfl ?_
  refine r_get hc inlX4 0 rfl rfl 1 (by decide) fl_X4_16 rfl rfl dX4_add_5 ?_
  refine r_ald hc 1 rfl (by decide) (by decide) rfl dX4_add_8 ?_
  refine r_aload_n hc dX4_add_9 rfl 1 rfl ?_
  refine r_callV (As := [.ref hh]) (n := 1) (wr := [(hl, .inr (4, [.ref al, .int (nI 1)])), (al, .inl (cW, 5, .inr (.inr (.inr (.inr (fun j => some (wa j))))))), (wa 0, .inr (3, [.ref (ca 0), .int (nI (len 0))])), (ca 0, .inl (cI, 24, .inl (fun j => nI (col 0 j)))), (wa 2, .inr (3, [.ref (ca 2), .int (nI (len 2))])), (ca 2, .inl (cI, 24, .inl (fun j => nI (col 2 j)))), (wa 3, .inr (3, [.ref (ca 3), .int (nI (len 3))])), (ca 3, .inl (cI, 24, .inl (fun j => nI (col 3 j)))), (wa 4, .inr (3, [.ref (ca 4), .int (nI (len 4))])), (ca 4, .inl (cI, 24, .inl (fun j => nI (col 4 j))))]) hc (c_copyFrom l D cI cZ cW (wa 1) (ca 1) hh ah (col 1) (len 1) hcol hlen hl24) co_yX3_copyFrom in_X3 ml_X4_20 (by decide +kernel) rfl ⟨by decide, by decide⟩ ⟨by decide, by decide⟩ im_yX3_copyFrom se_yX3_copyFrom rfl (Or.inl ⟨4, _, rfl⟩) rfl (Nat.le_of_ble_eq_true rfl) [4, 5, 12, 13] [0, 1, 2, 3, 6, 7, 8, 9, 10, 11] rfl rfl rfl rfl (by decide) (fun q hq => absurd hq List.not_mem_nil) dX4_add_10 (fun u0 e0 => ?_)
  subst e0
  refine r_perm (ws' := wL cI cW hl al 5 wa ca (va_up col 1 (cpN hcol (col 1) hlen)) (va_up len 1 hlen) 1 ++ (wW cI hh ah hcol hlen)) [0, 1, 2, 3, 10, 11, 4, 5, 6, 7, 8, 9, 12, 13] rfl rfl ?_
  refine r_aload_n hc dX4_add_13 rfl 0 rfl ?_
  refine r_dup hc dX4_add_14 rfl ?_
  refine r_get hc inlX4 0 rfl rfl 1 (by decide) fl_X4_16 rfl rfl dX4_add_15 ?_
  refine r_iconst (v := (nI 1)) hc dX4_add_18 rfl ?_
  refine n_add hc dX4_add_19 ?_
  refine r_put (ws' := wL cI cW hl al 5 wa ca (va_up col 1 (cpN hcol (col 1) hlen)) (va_up len 1 hlen) (1 + 1) ++ (wW cI hh ah hcol hlen)) hc inlX4 tyX4 tyX4_ok nmX4 0 rfl rfl 1 (by decide) fl_X4_16 rfl rfl rfl rfl (Nat.le_of_ble_eq_true rfl) rfl dX4_add_20 ?_
  rw [← hQ]
  exact r_vret hc hr hlk (va_up col 1 (cpN hcol (col 1) hlen), va_up len 1 hlen, 2) rfl rfl dX4_add_23
set_option maxHeartbeats 4000000 in
set_option maxRecDepth 100000 in
/-- add, the list of 5, 2 there -/
theorem c_add5_2 (l : Launch) (D : va_G) (cI cZ cW : ClassId) (hl al : Nat) (wa ca : Nat → Nat) (col : Nat → Nat → Nat) (len : Nat → Nat) (hh ah : Nat) (hcol : Nat → Nat) (hlen : Nat) (hl24 : hlen ≤ 24) : CtV l yX4_add cX4_add 2 none 2 47 0 0 D cI cZ cW [.ref hl, .ref hh] (wL cI cW hl al 5 wa ca col len 2 ++ wW cI hh ah hcol hlen) ([]) (S := (Nat → Nat → Nat) × (Nat → Nat) × Nat) (fun u => u = (va_up col 2 (cpN hcol (col 2) hlen), va_up len 2 hlen, 3)) (fun u => wL cI cW hl al 5 wa ca u.1 u.2.1 u.2.2 ++ wW cI hh ah hcol hlen) := by
  refine CtV.mk (by decide) (Nat.le_of_ble_eq_true rfl) ?_
  intro p e s m args below meth c A hc hr hlk hnm hro
  generalize hQ : MQ below _ args s 0 0 A = Q
  show V p l e (RM 2 47 0 0) s m args below meth c D A 2 0 0 Q (wL cI cW hl al 5 wa ca col len 2 ++ (wW cI hh ah hcol hlen)) 0 [(0, .ref hl), (1, .ref hh)] []
  refine r_aload_n hc dX4_add_0 rfl 0 rfl ?_
  refine r_get hc inlX4 0 rfl rfl 0 (by decide) fl_X4_9 rfl rfl dX4_add_1 ?_
  refine r_aload_n hc dX4_add_4 rfl 0 rfl ?_
  refine r_get hc inlX4 0 rfl rfl 1 (by decide) fl_X4_16 rfl rfl dX4_add_5 ?_
  refine r_ald hc 1 rfl (by decide) (by decide) rfl dX4_add_8 ?_
  refine r_aload_n hc dX4_add_9 rfl 1 rfl ?_
  refine r_callV (As := [.ref hh]) (n := 1) (wr := [(hl, .inr (4, [.ref al, .int (nI 2)])), (al, .inl (cW, 5, .inr (.inr (.inr (.inr (fun j => some (wa j))))))), (wa 0, .inr (3, [.ref (ca 0), .int (nI (len 0))])), (ca 0, .inl (cI, 24, .inl (fun j => nI (col 0 j)))), (wa 1, .inr (3, [.ref (ca 1), .int (nI (len 1))])), (ca 1, .inl (cI, 24, .inl (fun j => nI (col 1 j)))), (wa 3, .inr (3, [.ref (ca 3), .int (nI (len 3))])), (ca 3, .inl (cI, 24, .inl (fun j => nI (col 3 j)))), (wa 4, .inr (3, [.ref (ca 4), .int (nI (len 4))])), (ca 4, .inl (cI, 24, .inl (fun j => nI (col 4 j))))]) hc (c_copyFrom l D cI cZ cW (wa 2) (ca 2) hh ah (col 2) (len 2) hcol hlen hl24) co_yX3_copyFrom in_X3 ml_X4_20 (by decide +kernel) rfl ⟨by decide, by decide⟩ ⟨by decide, by decide⟩ im_yX3_copyFrom se_yX3_copyFrom rfl (Or.inl ⟨6, _, rfl⟩) rfl (Nat.le_of_ble_eq_true rfl) [6, 7, 12, 13] [0, 1, 2, 3, 4, 5, 8, 9, 10, 11] rfl rfl rfl rfl (by decide) (fun q hq => absurd hq List.not_mem_nil) dX4_add_10 (fun u0 e0 => ?_)
  subst e0
  refine r_perm (ws' := wL cI cW hl al 5 wa ca (va_up col 2 (cpN hcol (col 2) hlen)) (va_up len 2 hlen) 2 ++ (wW cI hh ah hcol hlen)) [0, 1, 2, 3, 4, 5, 10, 11, 6, 7, 8, 9, 12, 13] rfl rfl ?_
  refine r_aload_n hc dX4_add_13 rfl 0 rfl ?_
  refine r_dup hc dX4_add_14 rfl ?_
  refine r_get hc inlX4 0 rfl rfl 1 (by decide) fl_X4_16 rfl rfl dX4_add_15 ?_
  refine r_iconst (v := (nI 1)) hc dX4_add_18 rfl ?_
  refine n_add hc dX4_add_19 ?_
  refine r_put (ws' := wL cI cW hl al 5 wa ca (va_up col 2 (cpN hcol (col 2) hlen)) (va_up len 2 hlen) (2 + 1) ++ (wW cI hh ah hcol hlen)) hc inlX4 tyX4 tyX4_ok nmX4 0 rfl rfl 1 (by decide) fl_X4_16 rfl rfl rfl rfl (Nat.le_of_ble_eq_true rfl) rfl dX4_add_20 ?_
  rw [← hQ]
  exact r_vret hc hr hlk (va_up col 2 (cpN hcol (col 2) hlen), va_up len 2 hlen, 3) rfl rfl dX4_add_23
set_option maxHeartbeats 4000000 in
set_option maxRecDepth 100000 in
/-- add, the list of 5, 3 there -/
theorem c_add5_3 (l : Launch) (D : va_G) (cI cZ cW : ClassId) (hl al : Nat) (wa ca : Nat → Nat) (col : Nat → Nat → Nat) (len : Nat → Nat) (hh ah : Nat) (hcol : Nat → Nat) (hlen : Nat) (hl24 : hlen ≤ 24) : CtV l yX4_add cX4_add 2 none 2 47 0 0 D cI cZ cW [.ref hl, .ref hh] (wL cI cW hl al 5 wa ca col len 3 ++ wW cI hh ah hcol hlen) ([]) (S := (Nat → Nat → Nat) × (Nat → Nat) × Nat) (fun u => u = (va_up col 3 (cpN hcol (col 3) hlen), va_up len 3 hlen, 4)) (fun u => wL cI cW hl al 5 wa ca u.1 u.2.1 u.2.2 ++ wW cI hh ah hcol hlen) := by
  refine CtV.mk (by decide) (Nat.le_of_ble_eq_true rfl) ?_
  intro p e s m args below meth c A hc hr hlk hnm hro
  generalize hQ : MQ below _ args s 0 0 A = Q
  show V p l e (RM 2 47 0 0) s m args below meth c D A 2 0 0 Q (wL cI cW hl al 5 wa ca col len 3 ++ (wW cI hh ah hcol hlen)) 0 [(0, .ref hl), (1, .ref hh)] []
  refine r_aload_n hc dX4_add_0 rfl 0 rfl ?_
  refine r_get hc inlX4 0 rfl rfl 0 (by decide) fl_X4_9 rfl rfl dX4_add_1 ?_
  refine r_aload_n hc dX4_add_4 rfl 0 rfl ?_
  refine r_get hc inlX4 0 rfl rfl 1 (by decide) fl_X4_16 rfl rfl dX4_add_5 ?_
  refine r_ald hc 1 rfl (by decide) (by decide) rfl dX4_add_8 ?_
  refine r_aload_n hc dX4_add_9 rfl 1 rfl ?_
  refine r_callV (As := [.ref hh]) (n := 1) (wr := [(hl, .inr (4, [.ref al, .int (nI 3)])), (al, .inl (cW, 5, .inr (.inr (.inr (.inr (fun j => some (wa j))))))), (wa 0, .inr (3, [.ref (ca 0), .int (nI (len 0))])), (ca 0, .inl (cI, 24, .inl (fun j => nI (col 0 j)))), (wa 1, .inr (3, [.ref (ca 1), .int (nI (len 1))])), (ca 1, .inl (cI, 24, .inl (fun j => nI (col 1 j)))), (wa 2, .inr (3, [.ref (ca 2), .int (nI (len 2))])), (ca 2, .inl (cI, 24, .inl (fun j => nI (col 2 j)))), (wa 4, .inr (3, [.ref (ca 4), .int (nI (len 4))])), (ca 4, .inl (cI, 24, .inl (fun j => nI (col 4 j))))]) hc (c_copyFrom l D cI cZ cW (wa 3) (ca 3) hh ah (col 3) (len 3) hcol hlen hl24) co_yX3_copyFrom in_X3 ml_X4_20 (by decide +kernel) rfl ⟨by decide, by decide⟩ ⟨by decide, by decide⟩ im_yX3_copyFrom se_yX3_copyFrom rfl (Or.inl ⟨8, _, rfl⟩) rfl (Nat.le_of_ble_eq_true rfl) [8, 9, 12, 13] [0, 1, 2, 3, 4, 5, 6, 7, 10, 11] rfl rfl rfl rfl (by decide) (fun q hq => absurd hq List.not_mem_nil) dX4_add_10 (fun u0 e0 => ?_)
  subst e0
  refine r_perm (ws' := wL cI cW hl al 5 wa ca (va_up col 3 (cpN hcol (col 3) hlen)) (va_up len 3 hlen) 3 ++ (wW cI hh ah hcol hlen)) [0, 1, 2, 3, 4, 5, 6, 7, 10, 11, 8, 9, 12, 13] rfl rfl ?_
  refine r_aload_n hc dX4_add_13 rfl 0 rfl ?_
  refine r_dup hc dX4_add_14 rfl ?_
  refine r_get hc inlX4 0 rfl rfl 1 (by decide) fl_X4_16 rfl rfl dX4_add_15 ?_
  refine r_iconst (v := (nI 1)) hc dX4_add_18 rfl ?_
  refine n_add hc dX4_add_19 ?_
  refine r_put (ws' := wL cI cW hl al 5 wa ca (va_up col 3 (cpN hcol (col 3) hlen)) (va_up len 3 hlen) (3 + 1) ++ (wW cI hh ah hcol hlen)) hc inlX4 tyX4 tyX4_ok nmX4 0 rfl rfl 1 (by decide) fl_X4_16 rfl rfl rfl rfl (Nat.le_of_ble_eq_true rfl) rfl dX4_add_20 ?_
  rw [← hQ]
  exact r_vret hc hr hlk (va_up col 3 (cpN hcol (col 3) hlen), va_up len 3 hlen, 4) rfl rfl dX4_add_23
set_option maxHeartbeats 4000000 in
set_option maxRecDepth 100000 in
/-- add, the list of 5, 4 there -/
theorem c_add5_4 (l : Launch) (D : va_G) (cI cZ cW : ClassId) (hl al : Nat) (wa ca : Nat → Nat) (col : Nat → Nat → Nat) (len : Nat → Nat) (hh ah : Nat) (hcol : Nat → Nat) (hlen : Nat) (hl24 : hlen ≤ 24) : CtV l yX4_add cX4_add 2 none 2 47 0 0 D cI cZ cW [.ref hl, .ref hh] (wL cI cW hl al 5 wa ca col len 4 ++ wW cI hh ah hcol hlen) ([]) (S := (Nat → Nat → Nat) × (Nat → Nat) × Nat) (fun u => u = (va_up col 4 (cpN hcol (col 4) hlen), va_up len 4 hlen, 5)) (fun u => wL cI cW hl al 5 wa ca u.1 u.2.1 u.2.2 ++ wW cI hh ah hcol hlen) := by
  refine CtV.mk (by decide) (Nat.le_of_ble_eq_true rfl) ?_
  intro p e s m args below meth c A hc hr hlk hnm hro
  generalize hQ : MQ below _ args s 0 0 A = Q
  show V p l e (RM 2 47 0 0) s m args below meth c D A 2 0 0 Q (wL cI cW hl al 5 wa ca col len 4 ++ (wW cI hh ah hcol hlen)) 0 [(0, .ref hl), (1, .ref hh)] []
  refine r_aload_n hc dX4_add_0 rfl 0 rfl ?_
  refine r_get hc inlX4 0 rfl rfl 0 (by decide) fl_X4_9 rfl rfl dX4_add_1 ?_
  refine r_aload_n hc dX4_add_4 rfl 0 rfl ?_
  refine r_get hc inlX4 0 rfl rfl 1 (by decide) fl_X4_16 rfl rfl dX4_add_5 ?_
  refine r_ald hc 1 rfl (by decide) (by decide) rfl dX4_add_8 ?_
  refine r_aload_n hc dX4_add_9 rfl 1 rfl ?_
  refine r_callV (As := [.ref hh]) (n := 1) (wr := [(hl, .inr (4, [.ref al, .int (nI 4)])), (al, .inl (cW, 5, .inr (.inr (.inr (.inr (fun j => some (wa j))))))), (wa 0, .inr (3, [.ref (ca 0), .int (nI (len 0))])), (ca 0, .inl (cI, 24, .inl (fun j => nI (col 0 j)))), (wa 1, .inr (3, [.ref (ca 1), .int (nI (len 1))])), (ca 1, .inl (cI, 24, .inl (fun j => nI (col 1 j)))), (wa 2, .inr (3, [.ref (ca 2), .int (nI (len 2))])), (ca 2, .inl (cI, 24, .inl (fun j => nI (col 2 j)))), (wa 3, .inr (3, [.ref (ca 3), .int (nI (len 3))])), (ca 3, .inl (cI, 24, .inl (fun j => nI (col 3 j))))]) hc (c_copyFrom l D cI cZ cW (wa 4) (ca 4) hh ah (col 4) (len 4) hcol hlen hl24) co_yX3_copyFrom in_X3 ml_X4_20 (by decide +kernel) rfl ⟨by decide, by decide⟩ ⟨by decide, by decide⟩ im_yX3_copyFrom se_yX3_copyFrom rfl (Or.inl ⟨10, _, rfl⟩) rfl (Nat.le_of_ble_eq_true rfl) [10, 11, 12, 13] [0, 1, 2, 3, 4, 5, 6, 7, 8, 9] rfl rfl rfl rfl (by decide) (fun q hq => absurd hq List.not_mem_nil) dX4_add_10 (fun u0 e0 => ?_)
  subst e0
  refine r_perm (ws' := wL cI cW hl al 5 wa ca (va_up col 4 (cpN hcol (col 4) hlen)) (va_up len 4 hlen) 4 ++ (wW cI hh ah hcol hlen)) [0, 1, 2, 3, 4, 5, 6, 7, 8, 9, 10, 11, 12, 13] rfl rfl ?_
  refine r_aload_n hc dX4_add_13 rfl 0 rfl ?_
  refine r_dup hc dX4_add_14 rfl ?_
  refine r_get hc inlX4 0 rfl rfl 1 (by decide) fl_X4_16 rfl rfl dX4_add_15 ?_
  refine r_iconst (v := (nI 1)) hc dX4_add_18 rfl ?_
  refine n_add hc dX4_add_19 ?_
  refine r_put (ws' := wL cI cW hl al 5 wa ca (va_up col 4 (cpN hcol (col 4) hlen)) (va_up len 4 hlen) (4 + 1) ++ (wW cI hh ah hcol hlen)) hc inlX4 tyX4 tyX4_ok nmX4 0 rfl rfl 1 (by decide) fl_X4_16 rfl rfl rfl rfl (Nat.le_of_ble_eq_true rfl) rfl dX4_add_20 ?_
  rw [← hQ]
  exact r_vret hc hr hlk (va_up col 4 (cpN hcol (col 4) hlen), va_up len 4 hlen, 5) rfl rfl dX4_add_23
theorem c_add5 (l : Launch) (D : va_G) (cI cZ cW : ClassId) (hl al : Nat) (wa ca : Nat → Nat) (col : Nat → Nat → Nat) (len : Nat → Nat) (hh ah : Nat) (hcol : Nat → Nat) (hlen : Nat) (hl24 : hlen ≤ 24) (sz : Nat) (hsz : sz < 5) : CtV l yX4_add cX4_add 2 none 2 47 0 0 D cI cZ cW [.ref hl, .ref hh] (wL cI cW hl al 5 wa ca col len sz ++ wW cI hh ah hcol hlen) ([]) (S := (Nat → Nat → Nat) × (Nat → Nat) × Nat) (fun u => u = (va_up col sz (cpN hcol (col sz) hlen), va_up len sz hlen, sz + 1)) (fun u => wL cI cW hl al 5 wa ca u.1 u.2.1 u.2.2 ++ wW cI hh ah hcol hlen) :=
  match sz, hsz with
  | 0, _ => c_add5_0 l D cI cZ cW hl al wa ca col len hh ah hcol hlen hl24
  | 1, _ => c_add5_1 l D cI cZ cW hl al wa ca col len hh ah hcol hlen hl24
  | 2, _ => c_add5_2 l D cI cZ cW hl al wa ca col len hh ah hcol hlen hl24
  | 3, _ => c_add5_3 l D cI cZ cW hl al wa ca col len hh ah hcol hlen hl24
  | 4, _ => c_add5_4 l D cI cZ cW hl al wa ca col len hh ah hcol hlen hl24
  | z + 5, hz => absurd hz (by omega)
end
section
theorem i_vc : Claimed_1_1 ∧ Claimed_1_2 := sorry
end
