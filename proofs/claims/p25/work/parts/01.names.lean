-- ===== PART A: goes FIRST, ahead of the names: the tables' words, and 'selects' of the private methods out of them =====
/-- a private method of a class that the tables say can be made, by its rows of tables_1 -/
def lw_okq (q : MethodName × Nat) : Prop := (q.1.cls ≠ "java/lang/invoke/MethodHandle" ∧ q.1.cls ≠ "java/lang/invoke/VarHandle") ∧ Cond.instantiable q.1.cls q.2 ∈ tables_1 ∧ Cond.privateMethod q.1 ∈ tables_1 ∧ Cond.instanceMethod q.1 ∈ tables_1
theorem lw_p0 : lw_okq (⟨"java/lang/Throwable", "fillInStackTrace", "(I)Ljava/lang/Throwable;"⟩, 6) := ⟨⟨by decide +kernel, by decide +kernel⟩, List.mem_of_getElem? (i := 186) (by decide +kernel), List.mem_of_getElem? (i := 184) (by decide +kernel), List.mem_of_getElem? (i := 185) (by decide +kernel)⟩
theorem lw_p1 : lw_okq (⟨"java/util/ArrayList", "add", "(Ljava/lang/Object;[Ljava/lang/Object;I)V"⟩, 3) := ⟨⟨by decide +kernel, by decide +kernel⟩, List.mem_of_getElem? (i := 33) (by decide +kernel), List.mem_of_getElem? (i := 237) (by decide +kernel), List.mem_of_getElem? (i := 238) (by decide +kernel)⟩
theorem lw_p2 : lw_okq (⟨"java/util/ArrayList", "grow", "()[Ljava/lang/Object;"⟩, 3) := ⟨⟨by decide +kernel, by decide +kernel⟩, List.mem_of_getElem? (i := 33) (by decide +kernel), List.mem_of_getElem? (i := 241) (by decide +kernel), List.mem_of_getElem? (i := 242) (by decide +kernel)⟩
theorem lw_p3 : lw_okq (⟨"java/util/ArrayList", "grow", "(I)[Ljava/lang/Object;"⟩, 3) := ⟨⟨by decide +kernel, by decide +kernel⟩, List.mem_of_getElem? (i := 33) (by decide +kernel), List.mem_of_getElem? (i := 245) (by decide +kernel), List.mem_of_getElem? (i := 246) (by decide +kernel)⟩
theorem lw_p4 : lw_okq (⟨"SplitGate", "levelOf", "(I)LSplitGate$Level;"⟩, 9) := ⟨⟨by decide +kernel, by decide +kernel⟩, List.mem_of_getElem? (i := 25) (by decide +kernel), List.mem_of_getElem? (i := 296) (by decide +kernel), List.mem_of_getElem? (i := 297) (by decide +kernel)⟩
theorem lw_p5 : lw_okq (⟨"SplitGate", "replayOf", "(I)LSplitGate$Replay;"⟩, 9) := ⟨⟨by decide +kernel, by decide +kernel⟩, List.mem_of_getElem? (i := 25) (by decide +kernel), List.mem_of_getElem? (i := 380) (by decide +kernel), List.mem_of_getElem? (i := 381) (by decide +kernel)⟩
theorem lw_p6 : lw_okq (⟨"SplitGate", "runOf", "(I)LSplitGate$Run;"⟩, 9) := ⟨⟨by decide +kernel, by decide +kernel⟩, List.mem_of_getElem? (i := 25) (by decide +kernel), List.mem_of_getElem? (i := 411) (by decide +kernel), List.mem_of_getElem? (i := 412) (by decide +kernel)⟩
theorem lw_p7 : lw_okq (⟨"SplitGate$Replay", "runPiece", "(LSplitGate$Hero;II)V"⟩, 7) := ⟨⟨by decide +kernel, by decide +kernel⟩, List.mem_of_getElem? (i := 334) (by decide +kernel), List.mem_of_getElem? (i := 481) (by decide +kernel), List.mem_of_getElem? (i := 482) (by decide +kernel)⟩
theorem lw_p8 : lw_okq (⟨"SplitGate$Hero", "choose", "(IZ)I"⟩, 12) := ⟨⟨by decide +kernel, by decide +kernel⟩, List.mem_of_getElem? (i := 59) (by decide +kernel), List.mem_of_getElem? (i := 493) (by decide +kernel), List.mem_of_getElem? (i := 494) (by decide +kernel)⟩
theorem lw_p9 : lw_okq (⟨"SplitGate$Hero", "go", "(LSplitGate$Level;I)V"⟩, 12) := ⟨⟨by decide +kernel, by decide +kernel⟩, List.mem_of_getElem? (i := 59) (by decide +kernel), List.mem_of_getElem? (i := 497) (by decide +kernel), List.mem_of_getElem? (i := 498) (by decide +kernel)⟩
theorem lw_p10 : lw_okq (⟨"SplitGate$Hero", "columnHere", "()I"⟩, 12) := ⟨⟨by decide +kernel, by decide +kernel⟩, List.mem_of_getElem? (i := 59) (by decide +kernel), List.mem_of_getElem? (i := 503) (by decide +kernel), List.mem_of_getElem? (i := 504) (by decide +kernel)⟩
theorem lw_p11 : lw_okq (⟨"SplitGate$Hero", "fall", "(LSplitGate$Level;)V"⟩, 12) := ⟨⟨by decide +kernel, by decide +kernel⟩, List.mem_of_getElem? (i := 59) (by decide +kernel), List.mem_of_getElem? (i := 511) (by decide +kernel), List.mem_of_getElem? (i := 512) (by decide +kernel)⟩
theorem lw_p12 : lw_okq (⟨"SplitGate$Hero", "takeCoin", "(LSplitGate$Level;)V"⟩, 12) := ⟨⟨by decide +kernel, by decide +kernel⟩, List.mem_of_getElem? (i := 59) (by decide +kernel), List.mem_of_getElem? (i := 519) (by decide +kernel), List.mem_of_getElem? (i := 520) (by decide +kernel)⟩
theorem lw_p13 : lw_okq (⟨"SplitGate$Hero", "finish", "(LSplitGate$Level;)V"⟩, 12) := ⟨⟨by decide +kernel, by decide +kernel⟩, List.mem_of_getElem? (i := 59) (by decide +kernel), List.mem_of_getElem? (i := 527) (by decide +kernel), List.mem_of_getElem? (i := 528) (by decide +kernel)⟩
theorem lw_p14 : lw_okq (⟨"SplitGate", "hasReplay", "(LSplitGate$Level;)Z"⟩, 9) := ⟨⟨by decide +kernel, by decide +kernel⟩, List.mem_of_getElem? (i := 25) (by decide +kernel), List.mem_of_getElem? (i := 539) (by decide +kernel), List.mem_of_getElem? (i := 540) (by decide +kernel)⟩
theorem lw_p15 : lw_okq (⟨"SplitGate", "categoryOf", "(I)LSplitGate$Category;"⟩, 9) := ⟨⟨by decide +kernel, by decide +kernel⟩, List.mem_of_getElem? (i := 25) (by decide +kernel), List.mem_of_getElem? (i := 559) (by decide +kernel), List.mem_of_getElem? (i := 560) (by decide +kernel)⟩
def lw_privs_1 : List (MethodName × Nat) := [(⟨"java/lang/Throwable", "fillInStackTrace", "(I)Ljava/lang/Throwable;"⟩, 6), (⟨"java/util/ArrayList", "add", "(Ljava/lang/Object;[Ljava/lang/Object;I)V"⟩, 3), (⟨"java/util/ArrayList", "grow", "()[Ljava/lang/Object;"⟩, 3), (⟨"java/util/ArrayList", "grow", "(I)[Ljava/lang/Object;"⟩, 3), (⟨"SplitGate", "levelOf", "(I)LSplitGate$Level;"⟩, 9), (⟨"SplitGate", "replayOf", "(I)LSplitGate$Replay;"⟩, 9), (⟨"SplitGate", "runOf", "(I)LSplitGate$Run;"⟩, 9), (⟨"SplitGate$Replay", "runPiece", "(LSplitGate$Hero;II)V"⟩, 7), (⟨"SplitGate$Hero", "choose", "(IZ)I"⟩, 12), (⟨"SplitGate$Hero", "go", "(LSplitGate$Level;I)V"⟩, 12), (⟨"SplitGate$Hero", "columnHere", "()I"⟩, 12), (⟨"SplitGate$Hero", "fall", "(LSplitGate$Level;)V"⟩, 12), (⟨"SplitGate$Hero", "takeCoin", "(LSplitGate$Level;)V"⟩, 12), (⟨"SplitGate$Hero", "finish", "(LSplitGate$Level;)V"⟩, 12), (⟨"SplitGate", "hasReplay", "(LSplitGate$Level;)Z"⟩, 9), (⟨"SplitGate", "categoryOf", "(I)LSplitGate$Category;"⟩, 9)]
theorem lw_r1 : ∀ q ∈ lw_privs_1, lw_okq q := List.forall_mem_cons.mpr ⟨lw_p0, List.forall_mem_cons.mpr ⟨lw_p1, List.forall_mem_cons.mpr ⟨lw_p2, List.forall_mem_cons.mpr ⟨lw_p3, List.forall_mem_cons.mpr ⟨lw_p4, List.forall_mem_cons.mpr ⟨lw_p5, List.forall_mem_cons.mpr ⟨lw_p6, List.forall_mem_cons.mpr ⟨lw_p7, List.forall_mem_cons.mpr ⟨lw_p8, List.forall_mem_cons.mpr ⟨lw_p9, List.forall_mem_cons.mpr ⟨lw_p10, List.forall_mem_cons.mpr ⟨lw_p11, List.forall_mem_cons.mpr ⟨lw_p12, List.forall_mem_cons.mpr ⟨lw_p13, List.forall_mem_cons.mpr ⟨lw_p14, List.forall_mem_cons.mpr ⟨lw_p15, fun _ h => absurd h List.not_mem_nil⟩⟩⟩⟩⟩⟩⟩⟩⟩⟩⟩⟩⟩⟩⟩⟩
theorem lw_p16 : lw_okq (⟨"SplitGate", "countRefused", "(LSplitGate$Category;)I"⟩, 9) := ⟨⟨by decide +kernel, by decide +kernel⟩, List.mem_of_getElem? (i := 25) (by decide +kernel), List.mem_of_getElem? (i := 631) (by decide +kernel), List.mem_of_getElem? (i := 632) (by decide +kernel)⟩
theorem lw_p17 : lw_okq (⟨"SplitGate", "fillSets", "()I"⟩, 9) := ⟨⟨by decide +kernel, by decide +kernel⟩, List.mem_of_getElem? (i := 25) (by decide +kernel), List.mem_of_getElem? (i := 653) (by decide +kernel), List.mem_of_getElem? (i := 654) (by decide +kernel)⟩
theorem lw_p18 : lw_okq (⟨"SplitGate", "costOf", "(LSplitGate$Offer;)I"⟩, 9) := ⟨⟨by decide +kernel, by decide +kernel⟩, List.mem_of_getElem? (i := 25) (by decide +kernel), List.mem_of_getElem? (i := 658) (by decide +kernel), List.mem_of_getElem? (i := 659) (by decide +kernel)⟩
theorem lw_p19 : lw_okq (⟨"SplitGate", "estimateFor", "(LSplitGate$Category;I)I"⟩, 9) := ⟨⟨by decide +kernel, by decide +kernel⟩, List.mem_of_getElem? (i := 25) (by decide +kernel), List.mem_of_getElem? (i := 662) (by decide +kernel), List.mem_of_getElem? (i := 663) (by decide +kernel)⟩
theorem lw_p20 : lw_okq (⟨"SplitGate", "bestRun", "(LSplitGate$Category;ILSplitGate$Run;)LSplitGate$Run;"⟩, 9) := ⟨⟨by decide +kernel, by decide +kernel⟩, List.mem_of_getElem? (i := 25) (by decide +kernel), List.mem_of_getElem? (i := 680) (by decide +kernel), List.mem_of_getElem? (i := 681) (by decide +kernel)⟩
theorem lw_p21 : lw_okq (⟨"SplitGate", "placeFor", "(LSplitGate$Category;ILSplitGate$Run;)I"⟩, 9) := ⟨⟨by decide +kernel, by decide +kernel⟩, List.mem_of_getElem? (i := 25) (by decide +kernel), List.mem_of_getElem? (i := 692) (by decide +kernel), List.mem_of_getElem? (i := 693) (by decide +kernel)⟩
theorem lw_p22 : lw_okq (⟨"SplitGate", "countsAnew", "(LSplitGate$Run;)Z"⟩, 9) := ⟨⟨by decide +kernel, by decide +kernel⟩, List.mem_of_getElem? (i := 25) (by decide +kernel), List.mem_of_getElem? (i := 725) (by decide +kernel), List.mem_of_getElem? (i := 726) (by decide +kernel)⟩
theorem lw_p23 : lw_okq (⟨"SplitGate", "countAhead", "(LSplitGate$Run;)I"⟩, 9) := ⟨⟨by decide +kernel, by decide +kernel⟩, List.mem_of_getElem? (i := 25) (by decide +kernel), List.mem_of_getElem? (i := 744) (by decide +kernel), List.mem_of_getElem? (i := 745) (by decide +kernel)⟩
theorem lw_p24 : lw_okq (⟨"SplitGate", "hasOffered", "(LSplitGate$Category;I)Z"⟩, 9) := ⟨⟨by decide +kernel, by decide +kernel⟩, List.mem_of_getElem? (i := 25) (by decide +kernel), List.mem_of_getElem? (i := 759) (by decide +kernel), List.mem_of_getElem? (i := 760) (by decide +kernel)⟩
def lw_privs_2 : List (MethodName × Nat) := [(⟨"SplitGate", "countRefused", "(LSplitGate$Category;)I"⟩, 9), (⟨"SplitGate", "fillSets", "()I"⟩, 9), (⟨"SplitGate", "costOf", "(LSplitGate$Offer;)I"⟩, 9), (⟨"SplitGate", "estimateFor", "(LSplitGate$Category;I)I"⟩, 9), (⟨"SplitGate", "bestRun", "(LSplitGate$Category;ILSplitGate$Run;)LSplitGate$Run;"⟩, 9), (⟨"SplitGate", "placeFor", "(LSplitGate$Category;ILSplitGate$Run;)I"⟩, 9), (⟨"SplitGate", "countsAnew", "(LSplitGate$Run;)Z"⟩, 9), (⟨"SplitGate", "countAhead", "(LSplitGate$Run;)I"⟩, 9), (⟨"SplitGate", "hasOffered", "(LSplitGate$Category;I)Z"⟩, 9)]
theorem lw_r2 : ∀ q ∈ lw_privs_2, lw_okq q := List.forall_mem_cons.mpr ⟨lw_p16, List.forall_mem_cons.mpr ⟨lw_p17, List.forall_mem_cons.mpr ⟨lw_p18, List.forall_mem_cons.mpr ⟨lw_p19, List.forall_mem_cons.mpr ⟨lw_p20, List.forall_mem_cons.mpr ⟨lw_p21, List.forall_mem_cons.mpr ⟨lw_p22, List.forall_mem_cons.mpr ⟨lw_p23, List.forall_mem_cons.mpr ⟨lw_p24, fun _ h => absurd h List.not_mem_nil⟩⟩⟩⟩⟩⟩⟩⟩⟩
def lw_privs : List (MethodName × Nat) := lw_privs_1 ++ (lw_privs_2)
def lw_tbl : List Cond := k2_sels lw_privs ++ tables_1
theorem lw_privs_ok : ∀ q ∈ lw_privs, lw_okq q := by
  show ∀ q ∈ lw_privs_1 ++ (lw_privs_2), lw_okq q
  exact List.forall_mem_append.mpr ⟨lw_r1, lw_r2⟩
-- ===== end of PART A; then your names; then what follows =====
def RX0 : String := "SplitGate$Category"
def TX0 : u_T := fun k => match k with
  | 0 => ("SplitGate$Category", "level", "LSplitGate$Level;", true)
  | _ => ("SplitGate$Category", "rules", "Ljava/util/ArrayList;", true)
def tyX0 : Nat → FieldType := fun k => match k with
  | 0 => .object "SplitGate$Level"
  | _ => .object "java/util/ArrayList"
theorem nmX0 : ∀ a, a < 2 → ∀ b, b < 2 → a ≠ b → (TX0 a).2.1 ≠ (TX0 b).2.1 := by decide +kernel
theorem tyX0_ok : ∀ k, k < 2 → parseFieldDescriptor (TX0 k).2.2.1 = some (tyX0 k) := by decide +kernel
abbrev cX0_init : ByteArray := prog_2_method_1_code
def yX0_init : MethodName := ⟨RX0, "<init>", "(LSplitGate$Level;)V"⟩
abbrev cX0_refuses : ByteArray := prog_2_method_2_code
def yX0_refuses : MethodName := ⟨RX0, "refuses", "(ILSplitGate$Hero;)Z"⟩
def RX1 : String := "SplitGate$Hero"
def TX1 : u_T := fun k => match k with
  | 0 => ("SplitGate$Hero", "spot", "I", false)
  | 1 => ("SplitGate$Hero", "height", "I", false)
  | 2 => ("SplitGate$Hero", "speed", "I", false)
  | 3 => ("SplitGate$Hero", "stands", "Z", false)
  | 4 => ("SplitGate$Hero", "canDash", "Z", false)
  | 5 => ("SplitGate$Hero", "buttonsBefore", "I", false)
  | 6 => ("SplitGate$Hero", "coins", "I", false)
  | 7 => ("SplitGate$Hero", "coinCount", "I", false)
  | 8 => ("SplitGate$Hero", "jumps", "I", false)
  | 9 => ("SplitGate$Hero", "deeds", "I", false)
  | 10 => ("SplitGate$Hero", "ticks", "I", false)
  | _ => ("SplitGate$Hero", "end", "I", false)
def tyX1 : Nat → FieldType := fun k => match k with
  | 0 => .int
  | 1 => .int
  | 2 => .int
  | 3 => .boolean
  | 4 => .boolean
  | 5 => .int
  | 6 => .int
  | 7 => .int
  | 8 => .int
  | 9 => .int
  | 10 => .int
  | _ => .int
theorem nmX1 : ∀ a, a < 12 → ∀ b, b < 12 → a ≠ b → (TX1 a).2.1 ≠ (TX1 b).2.1 := by decide +kernel
theorem tyX1_ok : ∀ k, k < 12 → parseFieldDescriptor (TX1 k).2.2.1 = some (tyX1 k) := by decide +kernel
abbrev cX1_init : ByteArray := prog_3_method_1_code
def yX1_init : MethodName := ⟨RX1, "<init>", "()V"⟩
abbrev cX1_start : ByteArray := prog_3_method_2_code
def yX1_start : MethodName := ⟨RX1, "start", "(LSplitGate$Level;)V"⟩
abbrev cX1_isOver : ByteArray := prog_3_method_3_code
def yX1_isOver : MethodName := ⟨RX1, "isOver", "()Z"⟩
abbrev cX1_isHome : ByteArray := prog_3_method_4_code
def yX1_isHome : MethodName := ⟨RX1, "isHome", "()Z"⟩
abbrev cX1_tick : ByteArray := prog_3_method_5_code
def yX1_tick : MethodName := ⟨RX1, "tick", "(LSplitGate$Level;I)V"⟩
abbrev cX1_columnHere : ByteArray := prog_3_method_6_code
def yX1_columnHere : MethodName := ⟨RX1, "columnHere", "()I"⟩
abbrev cX1_choose : ByteArray := prog_3_method_7_code
def yX1_choose : MethodName := ⟨RX1, "choose", "(IZ)I"⟩
abbrev cX1_go : ByteArray := prog_3_method_8_code
def yX1_go : MethodName := ⟨RX1, "go", "(LSplitGate$Level;I)V"⟩
abbrev cX1_fall : ByteArray := prog_3_method_9_code
def yX1_fall : MethodName := ⟨RX1, "fall", "(LSplitGate$Level;)V"⟩
abbrev cX1_takeCoin : ByteArray := prog_3_method_10_code
def yX1_takeCoin : MethodName := ⟨RX1, "takeCoin", "(LSplitGate$Level;)V"⟩
abbrev cX1_finish : ByteArray := prog_3_method_11_code
def yX1_finish : MethodName := ⟨RX1, "finish", "(LSplitGate$Level;)V"⟩
def RX2 : String := "SplitGate$Level"
def TX2 : u_T := fun k => match k with
  | 0 => ("SplitGate$Level", "gaps", "[Z", true)
  | 1 => ("SplitGate$Level", "floors", "[I", true)
  | _ => ("SplitGate$Level", "items", "[I", true)
def tyX2 : Nat → FieldType := fun k => match k with
  | 0 => .array .boolean
  | 1 => .array .int
  | _ => .array .int
theorem nmX2 : ∀ a, a < 3 → ∀ b, b < 3 → a ≠ b → (TX2 a).2.1 ≠ (TX2 b).2.1 := by decide +kernel
theorem tyX2_ok : ∀ k, k < 3 → parseFieldDescriptor (TX2 k).2.2.1 = some (tyX2 k) := by decide +kernel
abbrev cX2_init : ByteArray := prog_4_method_1_code
def yX2_init : MethodName := ⟨RX2, "<init>", "()V"⟩
abbrev cX2_change : ByteArray := prog_4_method_2_code
def yX2_change : MethodName := ⟨RX2, "change", "(III)V"⟩
abbrev cX2_isGap : ByteArray := prog_4_method_3_code
def yX2_isGap : MethodName := ⟨RX2, "isGap", "(I)Z"⟩
abbrev cX2_base : ByteArray := prog_4_method_4_code
def yX2_base : MethodName := ⟨RX2, "base", "(I)I"⟩
abbrev cX2_isFloorAbove : ByteArray := prog_4_method_5_code
def yX2_isFloorAbove : MethodName := ⟨RX2, "isFloorAbove", "(II)Z"⟩
abbrev cX2_hasItem : ByteArray := prog_4_method_6_code
def yX2_hasItem : MethodName := ⟨RX2, "hasItem", "(II)Z"⟩
def RX3 : String := "SplitGate$Offer"
def TX3 : u_T := fun k => match k with
  | 0 => ("SplitGate$Offer", "category", "LSplitGate$Category;", true)
  | 1 => ("SplitGate$Offer", "runner", "I", true)
  | _ => ("SplitGate$Offer", "gifts", "I", false)
def tyX3 : Nat → FieldType := fun k => match k with
  | 0 => .object "SplitGate$Category"
  | 1 => .int
  | _ => .int
theorem nmX3 : ∀ a, a < 3 → ∀ b, b < 3 → a ≠ b → (TX3 a).2.1 ≠ (TX3 b).2.1 := by decide +kernel
theorem tyX3_ok : ∀ k, k < 3 → parseFieldDescriptor (TX3 k).2.2.1 = some (tyX3 k) := by decide +kernel
abbrev cX3_init : ByteArray := prog_5_method_1_code
def yX3_init : MethodName := ⟨RX3, "<init>", "(LSplitGate$Category;I)V"⟩
def RX4 : String := "SplitGate$Replay"
def TX4 : u_T := fun k => match k with
  | 0 => ("SplitGate$Replay", "level", "LSplitGate$Level;", true)
  | 1 => ("SplitGate$Replay", "buttons", "[I", true)
  | 2 => ("SplitGate$Replay", "ticks", "[I", true)
  | 3 => ("SplitGate$Replay", "hero", "LSplitGate$Hero;", true)
  | 4 => ("SplitGate$Replay", "pieces", "I", false)
  | 5 => ("SplitGate$Replay", "length", "I", false)
  | _ => ("SplitGate$Replay", "submitted", "Z", false)
def tyX4 : Nat → FieldType := fun k => match k with
  | 0 => .object "SplitGate$Level"
  | 1 => .array .int
  | 2 => .array .int
  | 3 => .object "SplitGate$Hero"
  | 4 => .int
  | 5 => .int
  | _ => .boolean
theorem nmX4 : ∀ a, a < 7 → ∀ b, b < 7 → a ≠ b → (TX4 a).2.1 ≠ (TX4 b).2.1 := by decide +kernel
theorem tyX4_ok : ∀ k, k < 7 → parseFieldDescriptor (TX4 k).2.2.1 = some (tyX4 k) := by decide +kernel
abbrev cX4_init : ByteArray := prog_6_method_1_code
def yX4_init : MethodName := ⟨RX4, "<init>", "(LSplitGate$Level;)V"⟩
abbrev cX4_hasRoomFor : ByteArray := prog_6_method_2_code
def yX4_hasRoomFor : MethodName := ⟨RX4, "hasRoomFor", "(I)Z"⟩
abbrev cX4_addPiece : ByteArray := prog_6_method_3_code
def yX4_addPiece : MethodName := ⟨RX4, "addPiece", "(II)V"⟩
abbrev cX4_runAgain : ByteArray := prog_6_method_4_code
def yX4_runAgain : MethodName := ⟨RX4, "runAgain", "(LSplitGate$Hero;I)V"⟩
abbrev cX4_runPiece : ByteArray := prog_6_method_5_code
def yX4_runPiece : MethodName := ⟨RX4, "runPiece", "(LSplitGate$Hero;II)V"⟩
def RX5 : String := "SplitGate$Rule"
def TX5 : u_T := fun k => match k with
  | 0 => ("SplitGate$Rule", "day", "I", true)
  | 1 => ("SplitGate$Rule", "forbidden", "I", true)
  | 2 => ("SplitGate$Rule", "coins", "I", true)
  | _ => ("SplitGate$Rule", "jumps", "I", true)
def tyX5 : Nat → FieldType := fun k => match k with
  | 0 => .int
  | 1 => .int
  | 2 => .int
  | _ => .int
theorem nmX5 : ∀ a, a < 4 → ∀ b, b < 4 → a ≠ b → (TX5 a).2.1 ≠ (TX5 b).2.1 := by decide +kernel
theorem tyX5_ok : ∀ k, k < 4 → parseFieldDescriptor (TX5 k).2.2.1 = some (tyX5 k) := by decide +kernel
abbrev cX5_init : ByteArray := prog_7_method_1_code
def yX5_init : MethodName := ⟨RX5, "<init>", "(IIII)V"⟩
abbrev cX5_refuses : ByteArray := prog_7_method_2_code
def yX5_refuses : MethodName := ⟨RX5, "refuses", "(LSplitGate$Hero;)Z"⟩
def RX6 : String := "SplitGate$Run"
def TX6 : u_T := fun k => match k with
  | 0 => ("SplitGate$Run", "number", "I", true)
  | 1 => ("SplitGate$Run", "runner", "I", true)
  | 2 => ("SplitGate$Run", "replay", "LSplitGate$Replay;", true)
  | 3 => ("SplitGate$Run", "category", "LSplitGate$Category;", true)
  | 4 => ("SplitGate$Run", "day", "I", true)
  | 5 => ("SplitGate$Run", "ticks", "I", true)
  | _ => ("SplitGate$Run", "struck", "Z", false)
def tyX6 : Nat → FieldType := fun k => match k with
  | 0 => .int
  | 1 => .int
  | 2 => .object "SplitGate$Replay"
  | 3 => .object "SplitGate$Category"
  | 4 => .int
  | 5 => .int
  | _ => .boolean
theorem nmX6 : ∀ a, a < 7 → ∀ b, b < 7 → a ≠ b → (TX6 a).2.1 ≠ (TX6 b).2.1 := by decide +kernel
theorem tyX6_ok : ∀ k, k < 7 → parseFieldDescriptor (TX6 k).2.2.1 = some (tyX6 k) := by decide +kernel
abbrev cX6_init : ByteArray := prog_8_method_1_code
def yX6_init : MethodName := ⟨RX6, "<init>", "(IILSplitGate$Replay;LSplitGate$Category;I)V"⟩
abbrev cX6_isFor : ByteArray := prog_8_method_2_code
def yX6_isFor : MethodName := ⟨RX6, "isFor", "(LSplitGate$Category;I)Z"⟩
abbrev cX6_isAheadOf : ByteArray := prog_8_method_3_code
def yX6_isAheadOf : MethodName := ⟨RX6, "isAheadOf", "(LSplitGate$Run;)Z"⟩
def RX7 : String := "SplitGate"
def TX7 : u_T := fun k => match k with
  | 0 => ("SplitGate", "levels", "Ljava/util/ArrayList;", true)
  | 1 => ("SplitGate", "replays", "Ljava/util/ArrayList;", true)
  | 2 => ("SplitGate", "categories", "Ljava/util/ArrayList;", true)
  | 3 => ("SplitGate", "runs", "Ljava/util/ArrayList;", true)
  | 4 => ("SplitGate", "offers", "Ljava/util/ArrayList;", true)
  | 5 => ("SplitGate", "day", "I", false)
  | 6 => ("SplitGate", "heroAgain", "LSplitGate$Hero;", true)
  | 7 => ("SplitGate", "costs", "[I", true)
  | _ => ("SplitGate", "gains", "[I", true)
def tyX7 : Nat → FieldType := fun k => match k with
  | 0 => .object "java/util/ArrayList"
  | 1 => .object "java/util/ArrayList"
  | 2 => .object "java/util/ArrayList"
  | 3 => .object "java/util/ArrayList"
  | 4 => .object "java/util/ArrayList"
  | 5 => .int
  | 6 => .object "SplitGate$Hero"
  | 7 => .array .int
  | _ => .array .int
theorem nmX7 : ∀ a, a < 9 → ∀ b, b < 9 → a ≠ b → (TX7 a).2.1 ≠ (TX7 b).2.1 := by decide +kernel
theorem tyX7_ok : ∀ k, k < 9 → parseFieldDescriptor (TX7 k).2.2.1 = some (tyX7 k) := by decide +kernel
abbrev cX7_init : ByteArray := prog_1_method_1_code
def yX7_init : MethodName := ⟨RX7, "<init>", "()V"⟩
abbrev cX7_level : ByteArray := prog_1_method_2_code
def yX7_level : MethodName := ⟨RX7, "level", "()I"⟩
abbrev cX7_column : ByteArray := prog_1_method_3_code
def yX7_column : MethodName := ⟨RX7, "column", "(IIII)V"⟩
abbrev cX7_replay : ByteArray := prog_1_method_4_code
def yX7_replay : MethodName := ⟨RX7, "replay", "(I)I"⟩
abbrev cX7_input : ByteArray := prog_1_method_5_code
def yX7_input : MethodName := ⟨RX7, "input", "(III)I"⟩
abbrev cX7_result : ByteArray := prog_1_method_6_code
def yX7_result : MethodName := ⟨RX7, "result", "(I)I"⟩
abbrev cX7_where : ByteArray := prog_1_method_8_code
def yX7_where : MethodName := ⟨RX7, "where", "(II)I"⟩
abbrev cX7_isWithin : ByteArray := prog_1_method_9_code
def yX7_isWithin : MethodName := ⟨RX7, "isWithin", "(III)Z"⟩
abbrev cX7_requireArgument : ByteArray := prog_1_method_10_code
def yX7_requireArgument : MethodName := ⟨RX7, "requireArgument", "(Z)V"⟩
abbrev cX7_levelOf : ByteArray := prog_1_method_11_code
def yX7_levelOf : MethodName := ⟨RX7, "levelOf", "(I)LSplitGate$Level;"⟩
abbrev cX7_replayOf : ByteArray := prog_1_method_12_code
def yX7_replayOf : MethodName := ⟨RX7, "replayOf", "(I)LSplitGate$Replay;"⟩
abbrev cX7_hasReplay : ByteArray := prog_1_method_13_code
def yX7_hasReplay : MethodName := ⟨RX7, "hasReplay", "(LSplitGate$Level;)Z"⟩
abbrev cX7_category : ByteArray := prog_1_method_14_code
def yX7_category : MethodName := ⟨RX7, "category", "(I)I"⟩
abbrev cX7_rule : ByteArray := prog_1_method_15_code
def yX7_rule : MethodName := ⟨RX7, "rule", "(IIIII)I"⟩
abbrev cX7_pass : ByteArray := prog_1_method_16_code
def yX7_pass : MethodName := ⟨RX7, "pass", "(I)I"⟩
abbrev cX7_submit : ByteArray := prog_1_method_17_code
def yX7_submit : MethodName := ⟨RX7, "submit", "(III)I"⟩
abbrev cX7_judged : ByteArray := prog_1_method_18_code
def yX7_judged : MethodName := ⟨RX7, "judged", "(I)I"⟩
abbrev cX7_strike : ByteArray := prog_1_method_19_code
def yX7_strike : MethodName := ⟨RX7, "strike", "(I)Z"⟩
abbrev cX7_categoryOf : ByteArray := prog_1_method_20_code
def yX7_categoryOf : MethodName := ⟨RX7, "categoryOf", "(I)LSplitGate$Category;"⟩
abbrev cX7_runOf : ByteArray := prog_1_method_21_code
def yX7_runOf : MethodName := ⟨RX7, "runOf", "(I)LSplitGate$Run;"⟩
abbrev cX7_requireRunner : ByteArray := prog_1_method_22_code
def yX7_requireRunner : MethodName := ⟨RX7, "requireRunner", "(I)V"⟩
abbrev cX7_isRefused : ByteArray := prog_1_method_23_code
def yX7_isRefused : MethodName := ⟨RX7, "isRefused", "(LSplitGate$Run;)Z"⟩
abbrev cX7_counts : ByteArray := prog_1_method_24_code
def yX7_counts : MethodName := ⟨RX7, "counts", "(LSplitGate$Run;)Z"⟩
abbrev cX7_countRefused : ByteArray := prog_1_method_25_code
def yX7_countRefused : MethodName := ⟨RX7, "countRefused", "(LSplitGate$Category;)I"⟩
abbrev cX7_best : ByteArray := prog_1_method_26_code
def yX7_best : MethodName := ⟨RX7, "best", "(II)I"⟩
abbrev cX7_bestAnew : ByteArray := prog_1_method_27_code
def yX7_bestAnew : MethodName := ⟨RX7, "bestAnew", "(II)I"⟩
abbrev cX7_place : ByteArray := prog_1_method_28_code
def yX7_place : MethodName := ⟨RX7, "place", "(II)I"⟩
abbrev cX7_at : ByteArray := prog_1_method_29_code
def yX7_at : MethodName := ⟨RX7, "at", "(II)I"⟩
abbrev cX7_placeWithout : ByteArray := prog_1_method_30_code
def yX7_placeWithout : MethodName := ⟨RX7, "placeWithout", "(I)I"⟩
abbrev cX7_bestRun : ByteArray := prog_1_method_31_code
def yX7_bestRun : MethodName := ⟨RX7, "bestRun", "(LSplitGate$Category;ILSplitGate$Run;)LSplitGate$Run;"⟩
abbrev cX7_countsAnew : ByteArray := prog_1_method_32_code
def yX7_countsAnew : MethodName := ⟨RX7, "countsAnew", "(LSplitGate$Run;)Z"⟩
abbrev cX7_placeFor : ByteArray := prog_1_method_33_code
def yX7_placeFor : MethodName := ⟨RX7, "placeFor", "(LSplitGate$Category;ILSplitGate$Run;)I"⟩
abbrev cX7_countAhead : ByteArray := prog_1_method_34_code
def yX7_countAhead : MethodName := ⟨RX7, "countAhead", "(LSplitGate$Run;)I"⟩
abbrev cX7_estimate : ByteArray := prog_1_method_35_code
def yX7_estimate : MethodName := ⟨RX7, "estimate", "(II)I"⟩
abbrev cX7_offer : ByteArray := prog_1_method_36_code
def yX7_offer : MethodName := ⟨RX7, "offer", "(II)I"⟩
abbrev cX7_gift : ByteArray := prog_1_method_37_code
def yX7_gift : MethodName := ⟨RX7, "gift", "(II)I"⟩
abbrev cX7_plan : ByteArray := prog_1_method_38_code
def yX7_plan : MethodName := ⟨RX7, "plan", "(I)I"⟩
abbrev cX7_estimateFor : ByteArray := prog_1_method_39_code
def yX7_estimateFor : MethodName := ⟨RX7, "estimateFor", "(LSplitGate$Category;I)I"⟩
abbrev cX7_hasOffered : ByteArray := prog_1_method_40_code
def yX7_hasOffered : MethodName := ⟨RX7, "hasOffered", "(LSplitGate$Category;I)Z"⟩
abbrev cX7_fillSets : ByteArray := prog_1_method_41_code
def yX7_fillSets : MethodName := ⟨RX7, "fillSets", "()I"⟩
abbrev cX7_costOf : ByteArray := prog_1_method_42_code
def yX7_costOf : MethodName := ⟨RX7, "costOf", "(LSplitGate$Offer;)I"⟩
def RX8 : String := "SplitGateModel"
def TX8 : u_T := fun k => match k with
  | _ => ("", "", "", false)
def tyX8 : Nat → FieldType := fun k => match k with
  | _ => .int
theorem nmX8 : ∀ a, a < 0 → ∀ b, b < 0 → a ≠ b → (TX8 a).2.1 ≠ (TX8 b).2.1 := by decide +kernel
theorem tyX8_ok : ∀ k, k < 0 → parseFieldDescriptor (TX8 k).2.2.1 = some (tyX8 k) := by decide +kernel
def RJx145de : String := "java/io/Serializable"
def TJx145de : u_T := fun k => match k with
  | _ => ("", "", "", false)
def tyJx145de : Nat → FieldType := fun k => match k with
  | _ => .int
theorem nmJx145de : ∀ a, a < 0 → ∀ b, b < 0 → a ≠ b → (TJx145de a).2.1 ≠ (TJx145de b).2.1 := by decide +kernel
theorem tyJx145de_ok : ∀ k, k < 0 → parseFieldDescriptor (TJx145de k).2.2.1 = some (tyJx145de k) := by decide +kernel
def RJx8e188 : String := "java/lang/Cloneable"
def TJx8e188 : u_T := fun k => match k with
  | _ => ("", "", "", false)
def tyJx8e188 : Nat → FieldType := fun k => match k with
  | _ => .int
theorem nmJx8e188 : ∀ a, a < 0 → ∀ b, b < 0 → a ≠ b → (TJx8e188 a).2.1 ≠ (TJx8e188 b).2.1 := by decide +kernel
theorem tyJx8e188_ok : ∀ k, k < 0 → parseFieldDescriptor (TJx8e188 k).2.2.1 = some (tyJx8e188 k) := by decide +kernel
def RJxab1ab : String := "java/lang/Iterable"
def TJxab1ab : u_T := fun k => match k with
  | _ => ("", "", "", false)
def tyJxab1ab : Nat → FieldType := fun k => match k with
  | _ => .int
theorem nmJxab1ab : ∀ a, a < 0 → ∀ b, b < 0 → a ≠ b → (TJxab1ab a).2.1 ≠ (TJxab1ab b).2.1 := by decide +kernel
theorem tyJxab1ab_ok : ∀ k, k < 0 → parseFieldDescriptor (TJxab1ab k).2.2.1 = some (tyJxab1ab k) := by decide +kernel
def RJ9 : String := "java/lang/Math"
def TJ9 : u_T := fun k => match k with
  | _ => ("", "", "", false)
def tyJ9 : Nat → FieldType := fun k => match k with
  | _ => .int
theorem nmJ9 : ∀ a, a < 0 → ∀ b, b < 0 → a ≠ b → (TJ9 a).2.1 ≠ (TJ9 b).2.1 := by decide +kernel
theorem tyJ9_ok : ∀ k, k < 0 → parseFieldDescriptor (TJ9 k).2.2.1 = some (tyJ9 k) := by decide +kernel
abbrev cJ9_max_7cf53 : ByteArray := prog_18_method_65_code
def yJ9_max_7cf53 : MethodName := ⟨RJ9, "max", "(II)I"⟩
abbrev cJ9_min_7cf53 : ByteArray := prog_18_method_69_code
def yJ9_min_7cf53 : MethodName := ⟨RJ9, "min", "(II)I"⟩
def RJ0 : String := "java/lang/String"
def TJ0 : u_T := fun k => match k with
  | _ => ("", "", "", false)
def tyJ0 : Nat → FieldType := fun k => match k with
  | _ => .int
theorem nmJ0 : ∀ a, a < 0 → ∀ b, b < 0 → a ≠ b → (TJ0 a).2.1 ≠ (TJ0 b).2.1 := by decide +kernel
theorem tyJ0_ok : ∀ k, k < 0 → parseFieldDescriptor (TJ0 k).2.2.1 = some (tyJ0 k) := by decide +kernel
def RJ10 : String := "java/lang/System"
def TJ10 : u_T := fun k => match k with
  | _ => ("", "", "", false)
def tyJ10 : Nat → FieldType := fun k => match k with
  | _ => .int
theorem nmJ10 : ∀ a, a < 0 → ∀ b, b < 0 → a ≠ b → (TJ10 a).2.1 ≠ (TJ10 b).2.1 := by decide +kernel
theorem tyJ10_ok : ∀ k, k < 0 → parseFieldDescriptor (TJ10 k).2.2.1 = some (tyJ10 k) := by decide +kernel
def RJxa1e45 : String := "java/util/AbstractCollection"
def TJxa1e45 : u_T := fun k => match k with
  | _ => ("", "", "", false)
def tyJxa1e45 : Nat → FieldType := fun k => match k with
  | _ => .int
theorem nmJxa1e45 : ∀ a, a < 0 → ∀ b, b < 0 → a ≠ b → (TJxa1e45 a).2.1 ≠ (TJxa1e45 b).2.1 := by decide +kernel
theorem tyJxa1e45_ok : ∀ k, k < 0 → parseFieldDescriptor (TJxa1e45 k).2.2.1 = some (tyJxa1e45 k) := by decide +kernel
abbrev cJxa1e45_init_da8c8 : ByteArray := prog_23_method_1_code
def yJxa1e45_init_da8c8 : MethodName := ⟨RJxa1e45, "<init>", "()V"⟩
def RJxc12de : String := "java/util/AbstractList"
def TJxc12de : u_T := fun k => match k with
  | _ => ("", "", "", false)
def tyJxc12de : Nat → FieldType := fun k => match k with
  | _ => .int
theorem nmJxc12de : ∀ a, a < 0 → ∀ b, b < 0 → a ≠ b → (TJxc12de a).2.1 ≠ (TJxc12de b).2.1 := by decide +kernel
theorem tyJxc12de_ok : ∀ k, k < 0 → parseFieldDescriptor (TJxc12de k).2.2.1 = some (tyJxc12de k) := by decide +kernel
abbrev cJxc12de_init_da8c8 : ByteArray := prog_24_method_1_code
def yJxc12de_init_da8c8 : MethodName := ⟨RJxc12de, "<init>", "()V"⟩
def RJx4a65c : String := "java/util/ArrayList"
def TJx4a65c : u_T := fun k => match k with
  | 0 => ("java/util/AbstractList", "modCount", "I", false)
  | 1 => ("java/util/ArrayList", "elementData", "[Ljava/lang/Object;", false)
  | _ => ("java/util/ArrayList", "size", "I", false)
def tyJx4a65c : Nat → FieldType := fun k => match k with
  | 0 => .int
  | 1 => .array (.object "java/lang/Object")
  | _ => .int
theorem nmJx4a65c : ∀ a, a < 3 → ∀ b, b < 3 → a ≠ b → (TJx4a65c a).2.1 ≠ (TJx4a65c b).2.1 := by decide +kernel
theorem tyJx4a65c_ok : ∀ k, k < 3 → parseFieldDescriptor (TJx4a65c k).2.2.1 = some (tyJx4a65c k) := by decide +kernel
abbrev cJx4a65c_init_da8c8 : ByteArray := prog_25_method_2_code
def yJx4a65c_init_da8c8 : MethodName := ⟨RJx4a65c, "<init>", "()V"⟩
abbrev cJx4a65c_grow_92f84 : ByteArray := prog_25_method_6_code
def yJx4a65c_grow_92f84 : MethodName := ⟨RJx4a65c, "grow", "(I)[Ljava/lang/Object;"⟩
abbrev cJx4a65c_grow_d5877 : ByteArray := prog_25_method_7_code
def yJx4a65c_grow_d5877 : MethodName := ⟨RJx4a65c, "grow", "()[Ljava/lang/Object;"⟩
abbrev cJx4a65c_size_8abf5 : ByteArray := prog_25_method_8_code
def yJx4a65c_size_8abf5 : MethodName := ⟨RJx4a65c, "size", "()I"⟩
abbrev cJx4a65c_elementData_915e3 : ByteArray := prog_25_method_18_code
def yJx4a65c_elementData_915e3 : MethodName := ⟨RJx4a65c, "elementData", "(I)Ljava/lang/Object;"⟩
abbrev cJx4a65c_get_915e3 : ByteArray := prog_25_method_20_code
def yJx4a65c_get_915e3 : MethodName := ⟨RJx4a65c, "get", "(I)Ljava/lang/Object;"⟩
abbrev cJx4a65c_add_72be8 : ByteArray := prog_25_method_24_code
def yJx4a65c_add_72be8 : MethodName := ⟨RJx4a65c, "add", "(Ljava/lang/Object;[Ljava/lang/Object;I)V"⟩
abbrev cJx4a65c_add_9ea2d : ByteArray := prog_25_method_25_code
def yJx4a65c_add_9ea2d : MethodName := ⟨RJx4a65c, "add", "(Ljava/lang/Object;)Z"⟩
def RJ7 : String := "java/util/Arrays"
def TJ7 : u_T := fun k => match k with
  | _ => ("", "", "", false)
def tyJ7 : Nat → FieldType := fun k => match k with
  | _ => .int
theorem nmJ7 : ∀ a, a < 0 → ∀ b, b < 0 → a ≠ b → (TJ7 a).2.1 ≠ (TJ7 b).2.1 := by decide +kernel
theorem tyJ7_ok : ∀ k, k < 0 → parseFieldDescriptor (TJ7 k).2.2.1 = some (tyJ7 k) := by decide +kernel
abbrev cJ7_copyOf_1904c : ByteArray := prog_26_method_119_code
def yJ7_copyOf_1904c : MethodName := ⟨RJ7, "copyOf", "([Ljava/lang/Object;I)[Ljava/lang/Object;"⟩
abbrev cJ7_copyOf_6403c : ByteArray := prog_26_method_120_code
def yJ7_copyOf_6403c : MethodName := ⟨RJ7, "copyOf", "([Ljava/lang/Object;ILjava/lang/Class;)[Ljava/lang/Object;"⟩
def RJx5ef63 : String := "java/util/Collection"
def TJx5ef63 : u_T := fun k => match k with
  | _ => ("", "", "", false)
def tyJx5ef63 : Nat → FieldType := fun k => match k with
  | _ => .int
theorem nmJx5ef63 : ∀ a, a < 0 → ∀ b, b < 0 → a ≠ b → (TJx5ef63 a).2.1 ≠ (TJx5ef63 b).2.1 := by decide +kernel
theorem tyJx5ef63_ok : ∀ k, k < 0 → parseFieldDescriptor (TJx5ef63 k).2.2.1 = some (tyJx5ef63 k) := by decide +kernel
def RJxbd725 : String := "java/util/List"
def TJxbd725 : u_T := fun k => match k with
  | _ => ("", "", "", false)
def tyJxbd725 : Nat → FieldType := fun k => match k with
  | _ => .int
theorem nmJxbd725 : ∀ a, a < 0 → ∀ b, b < 0 → a ≠ b → (TJxbd725 a).2.1 ≠ (TJxbd725 b).2.1 := by decide +kernel
theorem tyJxbd725_ok : ∀ k, k < 0 → parseFieldDescriptor (TJxbd725 k).2.2.1 = some (tyJxbd725 k) := by decide +kernel
def RJ15 : String := "java/util/Objects"
def TJ15 : u_T := fun k => match k with
  | _ => ("", "", "", false)
def tyJ15 : Nat → FieldType := fun k => match k with
  | _ => .int
theorem nmJ15 : ∀ a, a < 0 → ∀ b, b < 0 → a ≠ b → (TJ15 a).2.1 ≠ (TJ15 b).2.1 := by decide +kernel
theorem tyJ15_ok : ∀ k, k < 0 → parseFieldDescriptor (TJ15 k).2.2.1 = some (tyJ15 k) := by decide +kernel
abbrev cJ15_checkIndex_7cf53 : ByteArray := prog_29_method_17_code
def yJ15_checkIndex_7cf53 : MethodName := ⟨RJ15, "checkIndex", "(II)I"⟩
def RJxf0a74 : String := "java/util/RandomAccess"
def TJxf0a74 : u_T := fun k => match k with
  | _ => ("", "", "", false)
def tyJxf0a74 : Nat → FieldType := fun k => match k with
  | _ => .int
theorem nmJxf0a74 : ∀ a, a < 0 → ∀ b, b < 0 → a ≠ b → (TJxf0a74 a).2.1 ≠ (TJxf0a74 b).2.1 := by decide +kernel
theorem tyJxf0a74_ok : ∀ k, k < 0 → parseFieldDescriptor (TJxf0a74 k).2.2.1 = some (tyJxf0a74 k) := by decide +kernel
def RJxa66e6 : String := "java/util/SequencedCollection"
def TJxa66e6 : u_T := fun k => match k with
  | _ => ("", "", "", false)
def tyJxa66e6 : Nat → FieldType := fun k => match k with
  | _ => .int
theorem nmJxa66e6 : ∀ a, a < 0 → ∀ b, b < 0 → a ≠ b → (TJxa66e6 a).2.1 ≠ (TJxa66e6 b).2.1 := by decide +kernel
theorem tyJxa66e6_ok : ∀ k, k < 0 → parseFieldDescriptor (TJxa66e6 k).2.2.1 = some (tyJxa66e6 k) := by decide +kernel
def RJ8 : String := "jdk/internal/util/ArraysSupport"
def TJ8 : u_T := fun k => match k with
  | _ => ("", "", "", false)
def tyJ8 : Nat → FieldType := fun k => match k with
  | _ => .int
theorem nmJ8 : ∀ a, a < 0 → ∀ b, b < 0 → a ≠ b → (TJ8 a).2.1 ≠ (TJ8 b).2.1 := by decide +kernel
theorem tyJ8_ok : ∀ k, k < 0 → parseFieldDescriptor (TJ8 k).2.2.1 = some (tyJ8 k) := by decide +kernel
abbrev cJ8_newLength_cabcc : ByteArray := prog_32_method_27_code
def yJ8_newLength_cabcc : MethodName := ⟨RJ8, "newLength", "(III)I"⟩
abbrev cJ8_hugeLength_7cf53 : ByteArray := prog_32_method_28_code
def yJ8_hugeLength_7cf53 : MethodName := ⟨RJ8, "hugeLength", "(II)I"⟩
def RJ3 : String := "jdk/internal/util/Preconditions"
def TJ3 : u_T := fun k => match k with
  | _ => ("", "", "", false)
def tyJ3 : Nat → FieldType := fun k => match k with
  | _ => .int
theorem nmJ3 : ∀ a, a < 0 → ∀ b, b < 0 → a ≠ b → (TJ3 a).2.1 ≠ (TJ3 b).2.1 := by decide +kernel
theorem tyJ3_ok : ∀ k, k < 0 → parseFieldDescriptor (TJ3 k).2.2.1 = some (tyJ3 k) := by decide +kernel
abbrev cJ3_checkIndex_8e157 : ByteArray := prog_33_method_11_code
def yJ3_checkIndex_8e157 : MethodName := ⟨RJ3, "checkIndex", "(IILjava/util/function/BiFunction;)I"⟩
def RL : String := "SplitGateLaw"
abbrev cL_cell : ByteArray := method_2_code
def yL_cell : MethodName := ⟨RL, "cell", "([II)I"⟩
abbrev cL_low : ByteArray := method_3_code
def yL_low : MethodName := ⟨RL, "low", "(II)I"⟩
abbrev cL_input : ByteArray := method_4_code
def yL_input : MethodName := ⟨RL, "input", "(LSplitGate;III)I"⟩
abbrev cL_column : ByteArray := method_5_code
def yL_column : MethodName := ⟨RL, "column", "(LSplitGate;IIII)I"⟩
abbrev cL_submit : ByteArray := method_6_code
def yL_submit : MethodName := ⟨RL, "submit", "(LSplitGate;III)I"⟩
abbrev cL_rule : ByteArray := method_7_code
def yL_rule : MethodName := ⟨RL, "rule", "(LSplitGate;IIIII)I"⟩
abbrev cL_offer : ByteArray := method_8_code
def yL_offer : MethodName := ⟨RL, "offer", "(LSplitGate;II)I"⟩
abbrev cL_gift : ByteArray := method_9_code
def yL_gift : MethodName := ⟨RL, "gift", "(LSplitGate;II)I"⟩
abbrev cL_pass : ByteArray := method_10_code
def yL_pass : MethodName := ⟨RL, "pass", "(LSplitGate;I)I"⟩
abbrev cL_judged : ByteArray := method_11_code
def yL_judged : MethodName := ⟨RL, "judged", "(LSplitGate;I)I"⟩
abbrev cL_plan : ByteArray := method_12_code
def yL_plan : MethodName := ⟨RL, "plan", "(LSplitGate;I)I"⟩
abbrev cL_at : ByteArray := method_13_code
def yL_at : MethodName := ⟨RL, "at", "(LSplitGate;II)I"⟩
abbrev cL_tell : ByteArray := method_14_code
def yL_tell : MethodName := ⟨RL, "tell", "(LSplitGate;[I)[I"⟩
abbrev cL_same : ByteArray := method_15_code
def yL_same : MethodName := ⟨RL, "same", "([I[I)Z"⟩
abbrev cL_across : ByteArray := method_16_code
def yL_across : MethodName := ⟨RL, "across", "(I)I"⟩
abbrev cL_up : ByteArray := method_17_code
def yL_up : MethodName := ⟨RL, "up", "(I)I"⟩
abbrev cL_steps : ByteArray := method_18_code
def yL_steps : MethodName := ⟨RL, "steps", "(LSplitGate;I)Z"⟩
abbrev cL_boards : ByteArray := method_19_code
def yL_boards : MethodName := ⟨RL, "boards", "(LSplitGate;[I[I)Z"⟩
abbrev cL_act : ByteArray := method_20_code
def yL_act : MethodName := ⟨RL, "act", "(LSplitGate;[I[IIII)I"⟩
abbrev cL_law : ByteArray := code
def yL_law : MethodName := ⟨RL, "law", "([I)Z"⟩
abbrev vwCl : List vw_C := [(RJx4a65c, TJx4a65c, 3), (RX0, TX0, 2), (RX1, TX1, 12), (RX2, TX2, 3), (RX3, TX3, 3), (RX4, TX4, 7), (RX5, TX5, 4), (RX6, TX6, 7), (RX7, TX7, 9)]
