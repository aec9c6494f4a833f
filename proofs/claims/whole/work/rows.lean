section
-- ===== PART A: goes FIRST, ahead of the names: the tables' words, and 'selects' of the private methods out of them =====
/-- a private method of a class that the tables say can be made, by its rows of tables_1 -/
def lw_okq (q : MethodName × Nat) : Prop := (q.1.cls ≠ "java/lang/invoke/MethodHandle" ∧ q.1.cls ≠ "java/lang/invoke/VarHandle") ∧ Cond.instantiable q.1.cls q.2 ∈ tables_1 ∧ Cond.privateMethod q.1 ∈ tables_1 ∧ Cond.instanceMethod q.1 ∈ tables_1
theorem lw_p0 : lw_okq (⟨"java/lang/Throwable", "fillInStackTrace", "(I)Ljava/lang/Throwable;"⟩, 6) := ⟨⟨by decide +kernel, by decide +kernel⟩, List.mem_of_getElem? (i := 194) (by decide +kernel), List.mem_of_getElem? (i := 192) (by decide +kernel), List.mem_of_getElem? (i := 193) (by decide +kernel)⟩
theorem lw_p1 : lw_okq (⟨"java/util/ArrayList", "add", "(Ljava/lang/Object;[Ljava/lang/Object;I)V"⟩, 3) := ⟨⟨by decide +kernel, by decide +kernel⟩, List.mem_of_getElem? (i := 34) (by decide +kernel), List.mem_of_getElem? (i := 245) (by decide +kernel), List.mem_of_getElem? (i := 246) (by decide +kernel)⟩
theorem lw_p2 : lw_okq (⟨"java/util/ArrayList", "grow", "()[Ljava/lang/Object;"⟩, 3) := ⟨⟨by decide +kernel, by decide +kernel⟩, List.mem_of_getElem? (i := 34) (by decide +kernel), List.mem_of_getElem? (i := 249) (by decide +kernel), List.mem_of_getElem? (i := 250) (by decide +kernel)⟩
theorem lw_p3 : lw_okq (⟨"java/util/ArrayList", "grow", "(I)[Ljava/lang/Object;"⟩, 3) := ⟨⟨by decide +kernel, by decide +kernel⟩, List.mem_of_getElem? (i := 34) (by decide +kernel), List.mem_of_getElem? (i := 253) (by decide +kernel), List.mem_of_getElem? (i := 254) (by decide +kernel)⟩
theorem lw_p4 : lw_okq (⟨"SplitGate", "levelOf", "(I)LSplitGate$Level;"⟩, 9) := ⟨⟨by decide +kernel, by decide +kernel⟩, List.mem_of_getElem? (i := 26) (by decide +kernel), List.mem_of_getElem? (i := 310) (by decide +kernel), List.mem_of_getElem? (i := 311) (by decide +kernel)⟩
theorem lw_p5 : lw_okq (⟨"SplitGate", "hasReplay", "(LSplitGate$Level;)Z"⟩, 9) := ⟨⟨by decide +kernel, by decide +kernel⟩, List.mem_of_getElem? (i := 26) (by decide +kernel), List.mem_of_getElem? (i := 367) (by decide +kernel), List.mem_of_getElem? (i := 368) (by decide +kernel)⟩
theorem lw_p6 : lw_okq (⟨"SplitGate", "replayOf", "(I)LSplitGate$Replay;"⟩, 9) := ⟨⟨by decide +kernel, by decide +kernel⟩, List.mem_of_getElem? (i := 26) (by decide +kernel), List.mem_of_getElem? (i := 433) (by decide +kernel), List.mem_of_getElem? (i := 434) (by decide +kernel)⟩
theorem lw_p7 : lw_okq (⟨"SplitGate$Replay", "runPiece", "(LSplitGate$Hero;II)V"⟩, 7) := ⟨⟨by decide +kernel, by decide +kernel⟩, List.mem_of_getElem? (i := 384) (by decide +kernel), List.mem_of_getElem? (i := 447) (by decide +kernel), List.mem_of_getElem? (i := 448) (by decide +kernel)⟩
theorem lw_p8 : lw_okq (⟨"SplitGate$Hero", "choose", "(IZ)I"⟩, 12) := ⟨⟨by decide +kernel, by decide +kernel⟩, List.mem_of_getElem? (i := 60) (by decide +kernel), List.mem_of_getElem? (i := 459) (by decide +kernel), List.mem_of_getElem? (i := 460) (by decide +kernel)⟩
theorem lw_p9 : lw_okq (⟨"SplitGate$Hero", "go", "(LSplitGate$Level;I)V"⟩, 12) := ⟨⟨by decide +kernel, by decide +kernel⟩, List.mem_of_getElem? (i := 60) (by decide +kernel), List.mem_of_getElem? (i := 463) (by decide +kernel), List.mem_of_getElem? (i := 464) (by decide +kernel)⟩
theorem lw_p10 : lw_okq (⟨"SplitGate$Hero", "columnHere", "()I"⟩, 12) := ⟨⟨by decide +kernel, by decide +kernel⟩, List.mem_of_getElem? (i := 60) (by decide +kernel), List.mem_of_getElem? (i := 469) (by decide +kernel), List.mem_of_getElem? (i := 470) (by decide +kernel)⟩
theorem lw_p11 : lw_okq (⟨"SplitGate$Hero", "fall", "(LSplitGate$Level;)V"⟩, 12) := ⟨⟨by decide +kernel, by decide +kernel⟩, List.mem_of_getElem? (i := 60) (by decide +kernel), List.mem_of_getElem? (i := 477) (by decide +kernel), List.mem_of_getElem? (i := 478) (by decide +kernel)⟩
theorem lw_p12 : lw_okq (⟨"SplitGate$Hero", "takeCoin", "(LSplitGate$Level;)V"⟩, 12) := ⟨⟨by decide +kernel, by decide +kernel⟩, List.mem_of_getElem? (i := 60) (by decide +kernel), List.mem_of_getElem? (i := 485) (by decide +kernel), List.mem_of_getElem? (i := 486) (by decide +kernel)⟩
theorem lw_p13 : lw_okq (⟨"SplitGate$Hero", "finish", "(LSplitGate$Level;)V"⟩, 12) := ⟨⟨by decide +kernel, by decide +kernel⟩, List.mem_of_getElem? (i := 60) (by decide +kernel), List.mem_of_getElem? (i := 493) (by decide +kernel), List.mem_of_getElem? (i := 494) (by decide +kernel)⟩
theorem lw_p14 : lw_okq (⟨"SplitGate", "categoryOf", "(I)LSplitGate$Category;"⟩, 9) := ⟨⟨by decide +kernel, by decide +kernel⟩, List.mem_of_getElem? (i := 26) (by decide +kernel), List.mem_of_getElem? (i := 556) (by decide +kernel), List.mem_of_getElem? (i := 557) (by decide +kernel)⟩
theorem lw_p15 : lw_okq (⟨"SplitGate", "countRefused", "(LSplitGate$Category;)I"⟩, 9) := ⟨⟨by decide +kernel, by decide +kernel⟩, List.mem_of_getElem? (i := 26) (by decide +kernel), List.mem_of_getElem? (i := 582) (by decide +kernel), List.mem_of_getElem? (i := 583) (by decide +kernel)⟩
def lw_privs_1 : List (MethodName × Nat) := [(⟨"java/lang/Throwable", "fillInStackTrace", "(I)Ljava/lang/Throwable;"⟩, 6), (⟨"java/util/ArrayList", "add", "(Ljava/lang/Object;[Ljava/lang/Object;I)V"⟩, 3), (⟨"java/util/ArrayList", "grow", "()[Ljava/lang/Object;"⟩, 3), (⟨"java/util/ArrayList", "grow", "(I)[Ljava/lang/Object;"⟩, 3), (⟨"SplitGate", "levelOf", "(I)LSplitGate$Level;"⟩, 9), (⟨"SplitGate", "hasReplay", "(LSplitGate$Level;)Z"⟩, 9), (⟨"SplitGate", "replayOf", "(I)LSplitGate$Replay;"⟩, 9), (⟨"SplitGate$Replay", "runPiece", "(LSplitGate$Hero;II)V"⟩, 7), (⟨"SplitGate$Hero", "choose", "(IZ)I"⟩, 12), (⟨"SplitGate$Hero", "go", "(LSplitGate$Level;I)V"⟩, 12), (⟨"SplitGate$Hero", "columnHere", "()I"⟩, 12), (⟨"SplitGate$Hero", "fall", "(LSplitGate$Level;)V"⟩, 12), (⟨"SplitGate$Hero", "takeCoin", "(LSplitGate$Level;)V"⟩, 12), (⟨"SplitGate$Hero", "finish", "(LSplitGate$Level;)V"⟩, 12), (⟨"SplitGate", "categoryOf", "(I)LSplitGate$Category;"⟩, 9), (⟨"SplitGate", "countRefused", "(LSplitGate$Category;)I"⟩, 9)]
theorem lw_r1 : ∀ q ∈ lw_privs_1, lw_okq q := List.forall_mem_cons.mpr ⟨lw_p0, List.forall_mem_cons.mpr ⟨lw_p1, List.forall_mem_cons.mpr ⟨lw_p2, List.forall_mem_cons.mpr ⟨lw_p3, List.forall_mem_cons.mpr ⟨lw_p4, List.forall_mem_cons.mpr ⟨lw_p5, List.forall_mem_cons.mpr ⟨lw_p6, List.forall_mem_cons.mpr ⟨lw_p7, List.forall_mem_cons.mpr ⟨lw_p8, List.forall_mem_cons.mpr ⟨lw_p9, List.forall_mem_cons.mpr ⟨lw_p10, List.forall_mem_cons.mpr ⟨lw_p11, List.forall_mem_cons.mpr ⟨lw_p12, List.forall_mem_cons.mpr ⟨lw_p13, List.forall_mem_cons.mpr ⟨lw_p14, List.forall_mem_cons.mpr ⟨lw_p15, fun _ h => absurd h List.not_mem_nil⟩⟩⟩⟩⟩⟩⟩⟩⟩⟩⟩⟩⟩⟩⟩⟩
theorem lw_p16 : lw_okq (⟨"SplitGate", "runOf", "(I)LSplitGate$Run;"⟩, 9) := ⟨⟨by decide +kernel, by decide +kernel⟩, List.mem_of_getElem? (i := 26) (by decide +kernel), List.mem_of_getElem? (i := 666) (by decide +kernel), List.mem_of_getElem? (i := 667) (by decide +kernel)⟩
theorem lw_p17 : lw_okq (⟨"SplitGate", "bestRun", "(LSplitGate$Category;ILSplitGate$Run;)LSplitGate$Run;"⟩, 9) := ⟨⟨by decide +kernel, by decide +kernel⟩, List.mem_of_getElem? (i := 26) (by decide +kernel), List.mem_of_getElem? (i := 685) (by decide +kernel), List.mem_of_getElem? (i := 686) (by decide +kernel)⟩
theorem lw_p18 : lw_okq (⟨"SplitGate", "countsAnew", "(LSplitGate$Run;)Z"⟩, 9) := ⟨⟨by decide +kernel, by decide +kernel⟩, List.mem_of_getElem? (i := 26) (by decide +kernel), List.mem_of_getElem? (i := 707) (by decide +kernel), List.mem_of_getElem? (i := 708) (by decide +kernel)⟩
theorem lw_p19 : lw_okq (⟨"SplitGate", "placeFor", "(LSplitGate$Category;ILSplitGate$Run;)I"⟩, 9) := ⟨⟨by decide +kernel, by decide +kernel⟩, List.mem_of_getElem? (i := 26) (by decide +kernel), List.mem_of_getElem? (i := 718) (by decide +kernel), List.mem_of_getElem? (i := 719) (by decide +kernel)⟩
theorem lw_p20 : lw_okq (⟨"SplitGate", "countAhead", "(LSplitGate$Run;)I"⟩, 9) := ⟨⟨by decide +kernel, by decide +kernel⟩, List.mem_of_getElem? (i := 26) (by decide +kernel), List.mem_of_getElem? (i := 729) (by decide +kernel), List.mem_of_getElem? (i := 730) (by decide +kernel)⟩
theorem lw_p21 : lw_okq (⟨"SplitGate", "estimateFor", "(LSplitGate$Category;I)I"⟩, 9) := ⟨⟨by decide +kernel, by decide +kernel⟩, List.mem_of_getElem? (i := 26) (by decide +kernel), List.mem_of_getElem? (i := 748) (by decide +kernel), List.mem_of_getElem? (i := 749) (by decide +kernel)⟩
theorem lw_p22 : lw_okq (⟨"SplitGate", "hasOffered", "(LSplitGate$Category;I)Z"⟩, 9) := ⟨⟨by decide +kernel, by decide +kernel⟩, List.mem_of_getElem? (i := 26) (by decide +kernel), List.mem_of_getElem? (i := 759) (by decide +kernel), List.mem_of_getElem? (i := 760) (by decide +kernel)⟩
theorem lw_p23 : lw_okq (⟨"SplitGate", "fillSets", "()I"⟩, 9) := ⟨⟨by decide +kernel, by decide +kernel⟩, List.mem_of_getElem? (i := 26) (by decide +kernel), List.mem_of_getElem? (i := 798) (by decide +kernel), List.mem_of_getElem? (i := 799) (by decide +kernel)⟩
theorem lw_p24 : lw_okq (⟨"SplitGate", "costOf", "(LSplitGate$Offer;)I"⟩, 9) := ⟨⟨by decide +kernel, by decide +kernel⟩, List.mem_of_getElem? (i := 26) (by decide +kernel), List.mem_of_getElem? (i := 802) (by decide +kernel), List.mem_of_getElem? (i := 803) (by decide +kernel)⟩
theorem lw_p25 : lw_okq (⟨"SplitGateModel", "holds", "(I)Z"⟩, 43) := ⟨⟨by decide +kernel, by decide +kernel⟩, List.mem_of_getElem? (i := 806) (by decide +kernel), List.mem_of_getElem? (i := 950) (by decide +kernel), List.mem_of_getElem? (i := 951) (by decide +kernel)⟩
theorem lw_p26 : lw_okq (⟨"SplitGateModel", "between", "(III)Z"⟩, 43) := ⟨⟨by decide +kernel, by decide +kernel⟩, List.mem_of_getElem? (i := 806) (by decide +kernel), List.mem_of_getElem? (i := 958) (by decide +kernel), List.mem_of_getElem? (i := 959) (by decide +kernel)⟩
theorem lw_p27 : lw_okq (⟨"SplitGateModel", "isLevel", "(I)Z"⟩, 43) := ⟨⟨by decide +kernel, by decide +kernel⟩, List.mem_of_getElem? (i := 806) (by decide +kernel), List.mem_of_getElem? (i := 962) (by decide +kernel), List.mem_of_getElem? (i := 963) (by decide +kernel)⟩
theorem lw_p28 : lw_okq (⟨"SplitGateModel", "isUsed", "(I)Z"⟩, 43) := ⟨⟨by decide +kernel, by decide +kernel⟩, List.mem_of_getElem? (i := 806) (by decide +kernel), List.mem_of_getElem? (i := 966) (by decide +kernel), List.mem_of_getElem? (i := 967) (by decide +kernel)⟩
theorem lw_p29 : lw_okq (⟨"SplitGateModel", "isReplay", "(I)Z"⟩, 43) := ⟨⟨by decide +kernel, by decide +kernel⟩, List.mem_of_getElem? (i := 806) (by decide +kernel), List.mem_of_getElem? (i := 978) (by decide +kernel), List.mem_of_getElem? (i := 979) (by decide +kernel)⟩
theorem lw_p30 : lw_okq (⟨"SplitGateModel", "run", "(II)V"⟩, 43) := ⟨⟨by decide +kernel, by decide +kernel⟩, List.mem_of_getElem? (i := 806) (by decide +kernel), List.mem_of_getElem? (i := 986) (by decide +kernel), List.mem_of_getElem? (i := 987) (by decide +kernel)⟩
theorem lw_p31 : lw_okq (⟨"SplitGateModel", "start", "(I)V"⟩, 43) := ⟨⟨by decide +kernel, by decide +kernel⟩, List.mem_of_getElem? (i := 806) (by decide +kernel), List.mem_of_getElem? (i := 990) (by decide +kernel), List.mem_of_getElem? (i := 991) (by decide +kernel)⟩
def lw_privs_2 : List (MethodName × Nat) := [(⟨"SplitGate", "runOf", "(I)LSplitGate$Run;"⟩, 9), (⟨"SplitGate", "bestRun", "(LSplitGate$Category;ILSplitGate$Run;)LSplitGate$Run;"⟩, 9), (⟨"SplitGate", "countsAnew", "(LSplitGate$Run;)Z"⟩, 9), (⟨"SplitGate", "placeFor", "(LSplitGate$Category;ILSplitGate$Run;)I"⟩, 9), (⟨"SplitGate", "countAhead", "(LSplitGate$Run;)I"⟩, 9), (⟨"SplitGate", "estimateFor", "(LSplitGate$Category;I)I"⟩, 9), (⟨"SplitGate", "hasOffered", "(LSplitGate$Category;I)Z"⟩, 9), (⟨"SplitGate", "fillSets", "()I"⟩, 9), (⟨"SplitGate", "costOf", "(LSplitGate$Offer;)I"⟩, 9), (⟨"SplitGateModel", "holds", "(I)Z"⟩, 43), (⟨"SplitGateModel", "between", "(III)Z"⟩, 43), (⟨"SplitGateModel", "isLevel", "(I)Z"⟩, 43), (⟨"SplitGateModel", "isUsed", "(I)Z"⟩, 43), (⟨"SplitGateModel", "isReplay", "(I)Z"⟩, 43), (⟨"SplitGateModel", "run", "(II)V"⟩, 43), (⟨"SplitGateModel", "start", "(I)V"⟩, 43)]
theorem lw_r2 : ∀ q ∈ lw_privs_2, lw_okq q := List.forall_mem_cons.mpr ⟨lw_p16, List.forall_mem_cons.mpr ⟨lw_p17, List.forall_mem_cons.mpr ⟨lw_p18, List.forall_mem_cons.mpr ⟨lw_p19, List.forall_mem_cons.mpr ⟨lw_p20, List.forall_mem_cons.mpr ⟨lw_p21, List.forall_mem_cons.mpr ⟨lw_p22, List.forall_mem_cons.mpr ⟨lw_p23, List.forall_mem_cons.mpr ⟨lw_p24, List.forall_mem_cons.mpr ⟨lw_p25, List.forall_mem_cons.mpr ⟨lw_p26, List.forall_mem_cons.mpr ⟨lw_p27, List.forall_mem_cons.mpr ⟨lw_p28, List.forall_mem_cons.mpr ⟨lw_p29, List.forall_mem_cons.mpr ⟨lw_p30, List.forall_mem_cons.mpr ⟨lw_p31, fun _ h => absurd h List.not_mem_nil⟩⟩⟩⟩⟩⟩⟩⟩⟩⟩⟩⟩⟩⟩⟩⟩
theorem lw_p32 : lw_okq (⟨"SplitGateModel", "gap", "(II)Z"⟩, 43) := ⟨⟨by decide +kernel, by decide +kernel⟩, List.mem_of_getElem? (i := 806) (by decide +kernel), List.mem_of_getElem? (i := 994) (by decide +kernel), List.mem_of_getElem? (i := 995) (by decide +kernel)⟩
theorem lw_p33 : lw_okq (⟨"SplitGateModel", "ground", "(II)I"⟩, 43) := ⟨⟨by decide +kernel, by decide +kernel⟩, List.mem_of_getElem? (i := 806) (by decide +kernel), List.mem_of_getElem? (i := 998) (by decide +kernel), List.mem_of_getElem? (i := 999) (by decide +kernel)⟩
theorem lw_p34 : lw_okq (⟨"SplitGateModel", "tick", "(III)V"⟩, 43) := ⟨⟨by decide +kernel, by decide +kernel⟩, List.mem_of_getElem? (i := 806) (by decide +kernel), List.mem_of_getElem? (i := 1002) (by decide +kernel), List.mem_of_getElem? (i := 1003) (by decide +kernel)⟩
theorem lw_p35 : lw_okq (⟨"SplitGateModel", "way", "(II)I"⟩, 43) := ⟨⟨by decide +kernel, by decide +kernel⟩, List.mem_of_getElem? (i := 806) (by decide +kernel), List.mem_of_getElem? (i := 1006) (by decide +kernel), List.mem_of_getElem? (i := 1007) (by decide +kernel)⟩
theorem lw_p36 : lw_okq (⟨"SplitGateModel", "go", "(II)V"⟩, 43) := ⟨⟨by decide +kernel, by decide +kernel⟩, List.mem_of_getElem? (i := 806) (by decide +kernel), List.mem_of_getElem? (i := 1010) (by decide +kernel), List.mem_of_getElem? (i := 1011) (by decide +kernel)⟩
theorem lw_p37 : lw_okq (⟨"SplitGateModel", "wall", "(II)Z"⟩, 43) := ⟨⟨by decide +kernel, by decide +kernel⟩, List.mem_of_getElem? (i := 806) (by decide +kernel), List.mem_of_getElem? (i := 1014) (by decide +kernel), List.mem_of_getElem? (i := 1015) (by decide +kernel)⟩
theorem lw_p38 : lw_okq (⟨"SplitGateModel", "fall", "(I)V"⟩, 43) := ⟨⟨by decide +kernel, by decide +kernel⟩, List.mem_of_getElem? (i := 806) (by decide +kernel), List.mem_of_getElem? (i := 1018) (by decide +kernel), List.mem_of_getElem? (i := 1019) (by decide +kernel)⟩
theorem lw_p39 : lw_okq (⟨"SplitGateModel", "meet", "(I)V"⟩, 43) := ⟨⟨by decide +kernel, by decide +kernel⟩, List.mem_of_getElem? (i := 806) (by decide +kernel), List.mem_of_getElem? (i := 1022) (by decide +kernel), List.mem_of_getElem? (i := 1023) (by decide +kernel)⟩
theorem lw_p40 : lw_okq (⟨"SplitGateModel", "purse", "()I"⟩, 43) := ⟨⟨by decide +kernel, by decide +kernel⟩, List.mem_of_getElem? (i := 806) (by decide +kernel), List.mem_of_getElem? (i := 1030) (by decide +kernel), List.mem_of_getElem? (i := 1031) (by decide +kernel)⟩
theorem lw_p41 : lw_okq (⟨"SplitGateModel", "isCategory", "(I)Z"⟩, 43) := ⟨⟨by decide +kernel, by decide +kernel⟩, List.mem_of_getElem? (i := 806) (by decide +kernel), List.mem_of_getElem? (i := 1046) (by decide +kernel), List.mem_of_getElem? (i := 1047) (by decide +kernel)⟩
theorem lw_p42 : lw_okq (⟨"SplitGateModel", "refused", "(I)Z"⟩, 43) := ⟨⟨by decide +kernel, by decide +kernel⟩, List.mem_of_getElem? (i := 806) (by decide +kernel), List.mem_of_getElem? (i := 1050) (by decide +kernel), List.mem_of_getElem? (i := 1051) (by decide +kernel)⟩
theorem lw_p43 : lw_okq (⟨"SplitGateModel", "law", "(II)I"⟩, 43) := ⟨⟨by decide +kernel, by decide +kernel⟩, List.mem_of_getElem? (i := 806) (by decide +kernel), List.mem_of_getElem? (i := 1054) (by decide +kernel), List.mem_of_getElem? (i := 1055) (by decide +kernel)⟩
theorem lw_p44 : lw_okq (⟨"SplitGateModel", "isRunner", "(I)Z"⟩, 43) := ⟨⟨by decide +kernel, by decide +kernel⟩, List.mem_of_getElem? (i := 806) (by decide +kernel), List.mem_of_getElem? (i := 1066) (by decide +kernel), List.mem_of_getElem? (i := 1067) (by decide +kernel)⟩
theorem lw_p45 : lw_okq (⟨"SplitGateModel", "isRun", "(I)Z"⟩, 43) := ⟨⟨by decide +kernel, by decide +kernel⟩, List.mem_of_getElem? (i := 806) (by decide +kernel), List.mem_of_getElem? (i := 1074) (by decide +kernel), List.mem_of_getElem? (i := 1075) (by decide +kernel)⟩
theorem lw_p46 : lw_okq (⟨"SplitGateModel", "isPair", "(II)Z"⟩, 43) := ⟨⟨by decide +kernel, by decide +kernel⟩, List.mem_of_getElem? (i := 806) (by decide +kernel), List.mem_of_getElem? (i := 1086) (by decide +kernel), List.mem_of_getElem? (i := 1087) (by decide +kernel)⟩
theorem lw_p47 : lw_okq (⟨"SplitGateModel", "top", "(III)I"⟩, 43) := ⟨⟨by decide +kernel, by decide +kernel⟩, List.mem_of_getElem? (i := 806) (by decide +kernel), List.mem_of_getElem? (i := 1090) (by decide +kernel), List.mem_of_getElem? (i := 1091) (by decide +kernel)⟩
def lw_privs_3 : List (MethodName × Nat) := [(⟨"SplitGateModel", "gap", "(II)Z"⟩, 43), (⟨"SplitGateModel", "ground", "(II)I"⟩, 43), (⟨"SplitGateModel", "tick", "(III)V"⟩, 43), (⟨"SplitGateModel", "way", "(II)I"⟩, 43), (⟨"SplitGateModel", "go", "(II)V"⟩, 43), (⟨"SplitGateModel", "wall", "(II)Z"⟩, 43), (⟨"SplitGateModel", "fall", "(I)V"⟩, 43), (⟨"SplitGateModel", "meet", "(I)V"⟩, 43), (⟨"SplitGateModel", "purse", "()I"⟩, 43), (⟨"SplitGateModel", "isCategory", "(I)Z"⟩, 43), (⟨"SplitGateModel", "refused", "(I)Z"⟩, 43), (⟨"SplitGateModel", "law", "(II)I"⟩, 43), (⟨"SplitGateModel", "isRunner", "(I)Z"⟩, 43), (⟨"SplitGateModel", "isRun", "(I)Z"⟩, 43), (⟨"SplitGateModel", "isPair", "(II)Z"⟩, 43), (⟨"SplitGateModel", "top", "(III)I"⟩, 43)]
theorem lw_r3 : ∀ q ∈ lw_privs_3, lw_okq q := List.forall_mem_cons.mpr ⟨lw_p32, List.forall_mem_cons.mpr ⟨lw_p33, List.forall_mem_cons.mpr ⟨lw_p34, List.forall_mem_cons.mpr ⟨lw_p35, List.forall_mem_cons.mpr ⟨lw_p36, List.forall_mem_cons.mpr ⟨lw_p37, List.forall_mem_cons.mpr ⟨lw_p38, List.forall_mem_cons.mpr ⟨lw_p39, List.forall_mem_cons.mpr ⟨lw_p40, List.forall_mem_cons.mpr ⟨lw_p41, List.forall_mem_cons.mpr ⟨lw_p42, List.forall_mem_cons.mpr ⟨lw_p43, List.forall_mem_cons.mpr ⟨lw_p44, List.forall_mem_cons.mpr ⟨lw_p45, List.forall_mem_cons.mpr ⟨lw_p46, List.forall_mem_cons.mpr ⟨lw_p47, fun _ h => absurd h List.not_mem_nil⟩⟩⟩⟩⟩⟩⟩⟩⟩⟩⟩⟩⟩⟩⟩⟩
theorem lw_p48 : lw_okq (⟨"SplitGateModel", "counts", "(I)Z"⟩, 43) := ⟨⟨by decide +kernel, by decide +kernel⟩, List.mem_of_getElem? (i := 806) (by decide +kernel), List.mem_of_getElem? (i := 1094) (by decide +kernel), List.mem_of_getElem? (i := 1095) (by decide +kernel)⟩
theorem lw_p49 : lw_okq (⟨"SplitGateModel", "ahead", "(II)Z"⟩, 43) := ⟨⟨by decide +kernel, by decide +kernel⟩, List.mem_of_getElem? (i := 806) (by decide +kernel), List.mem_of_getElem? (i := 1098) (by decide +kernel), List.mem_of_getElem? (i := 1099) (by decide +kernel)⟩
theorem lw_p50 : lw_okq (⟨"SplitGateModel", "spot", "(III)I"⟩, 43) := ⟨⟨by decide +kernel, by decide +kernel⟩, List.mem_of_getElem? (i := 806) (by decide +kernel), List.mem_of_getElem? (i := 1110) (by decide +kernel), List.mem_of_getElem? (i := 1111) (by decide +kernel)⟩
theorem lw_p51 : lw_okq (⟨"SplitGateModel", "guess", "(II)I"⟩, 43) := ⟨⟨by decide +kernel, by decide +kernel⟩, List.mem_of_getElem? (i := 806) (by decide +kernel), List.mem_of_getElem? (i := 1126) (by decide +kernel), List.mem_of_getElem? (i := 1127) (by decide +kernel)⟩
theorem lw_p52 : lw_okq (⟨"SplitGateModel", "isOpen", "(I)Z"⟩, 43) := ⟨⟨by decide +kernel, by decide +kernel⟩, List.mem_of_getElem? (i := 806) (by decide +kernel), List.mem_of_getElem? (i := 1138) (by decide +kernel), List.mem_of_getElem? (i := 1139) (by decide +kernel)⟩
def lw_privs_4 : List (MethodName × Nat) := [(⟨"SplitGateModel", "counts", "(I)Z"⟩, 43), (⟨"SplitGateModel", "ahead", "(II)Z"⟩, 43), (⟨"SplitGateModel", "spot", "(III)I"⟩, 43), (⟨"SplitGateModel", "guess", "(II)I"⟩, 43), (⟨"SplitGateModel", "isOpen", "(I)Z"⟩, 43)]
theorem lw_r4 : ∀ q ∈ lw_privs_4, lw_okq q := List.forall_mem_cons.mpr ⟨lw_p48, List.forall_mem_cons.mpr ⟨lw_p49, List.forall_mem_cons.mpr ⟨lw_p50, List.forall_mem_cons.mpr ⟨lw_p51, List.forall_mem_cons.mpr ⟨lw_p52, fun _ h => absurd h List.not_mem_nil⟩⟩⟩⟩⟩
def lw_privs : List (MethodName × Nat) := lw_privs_1 ++ (lw_privs_2 ++ (lw_privs_3 ++ (lw_privs_4)))
def lw_tbl : List Cond := k2_sels lw_privs ++ tables_1
theorem lw_privs_ok : ∀ q ∈ lw_privs, lw_okq q := by
  show ∀ q ∈ lw_privs_1 ++ (lw_privs_2 ++ (lw_privs_3 ++ (lw_privs_4))), lw_okq q
  exact List.forall_mem_append.mpr ⟨lw_r1, List.forall_mem_append.mpr ⟨lw_r2, List.forall_mem_append.mpr ⟨lw_r3, lw_r4⟩⟩⟩
-- ===== end of PART A; then your names; then what follows =====
def RX0 : String := "SplitGate$Category"
def TX0 : u_T := fun k => match k with
  | 0 => ("SplitGate$Category", "level", "LSplitGate$Level;", true)
  | _ => ("SplitGate$Category", "rules", "Ljava/util/ArrayList;", true)
def tyX0 : Nat → FieldType := fun k => match k with
  | 0 => .object "SplitGate$Level"
  | _ => .object "java/util/ArrayList"
theorem nmX0 : ∀ a, a < 2 → ∀ b, b < 2 → a ≠ b → (TX0 a).2.1 ≠ (TX0 b).2.1 := by decide +kernel
theorem tyX0_ok : ∀ k, k < 2 → parseFieldDescriptor (TX0 k).2.2.1 = some (tyX0 k) := by decide +kernel
abbrev cX0_init : ByteArray := prog_2_method_1_code
def yX0_init : MethodName := ⟨RX0, "<init>", "(LSplitGate$Level;)V"⟩
abbrev cX0_refuses : ByteArray := prog_2_method_2_code
def yX0_refuses : MethodName := ⟨RX0, "refuses", "(ILSplitGate$Hero;)Z"⟩
def RX1 : String := "SplitGate$Hero"
def TX1 : u_T := fun k => match k with
  | 0 => ("SplitGate$Hero", "spot", "I", false)
  | 1 => ("SplitGate$Hero", "height", "I", false)
  | 2 => ("SplitGate$Hero", "speed", "I", false)
  | 3 => ("SplitGate$Hero", "stands", "Z", false)
  | 4 => ("SplitGate$Hero", "canDash", "Z", false)
  | 5 => ("SplitGate$Hero", "buttonsBefore", "I", false)
  | 6 => ("SplitGate$Hero", "coins", "I", false)
  | 7 => ("SplitGate$Hero", "coinCount", "I", false)
  | 8 => ("SplitGate$Hero", "jumps", "I", false)
  | 9 => ("SplitGate$Hero", "deeds", "I", false)
  | 10 => ("SplitGate$Hero", "ticks", "I", false)
  | _ => ("SplitGate$Hero", "end", "I", false)
def tyX1 : Nat → FieldType := fun k => match k with
  | 0 => .int
  | 1 => .int
  | 2 => .int
  | 3 => .boolean
  | 4 => .boolean
  | 5 => .int
  | 6 => .int
  | 7 => .int
  | 8 => .int
  | 9 => .int
  | 10 => .int
  | _ => .int
theorem nmX1 : ∀ a, a < 12 → ∀ b, b < 12 → a ≠ b → (TX1 a).2.1 ≠ (TX1 b).2.1 := by decide +kernel
theorem tyX1_ok : ∀ k, k < 12 → parseFieldDescriptor (TX1 k).2.2.1 = some (tyX1 k) := by decide +kernel
abbrev cX1_init : ByteArray := prog_3_method_1_code
def yX1_init : MethodName := ⟨RX1, "<init>", "()V"⟩
abbrev cX1_start : ByteArray := prog_3_method_2_code
def yX1_start : MethodName := ⟨RX1, "start", "(LSplitGate$Level;)V"⟩
abbrev cX1_isOver : ByteArray := prog_3_method_3_code
def yX1_isOver : MethodName := ⟨RX1, "isOver", "()Z"⟩
abbrev cX1_isHome : ByteArray := prog_3_method_4_code
def yX1_isHome : MethodName := ⟨RX1, "isHome", "()Z"⟩
abbrev cX1_tick : ByteArray := prog_3_method_5_code
def yX1_tick : MethodName := ⟨RX1, "tick", "(LSplitGate$Level;I)V"⟩
abbrev cX1_columnHere : ByteArray := prog_3_method_6_code
def yX1_columnHere : MethodName := ⟨RX1, "columnHere", "()I"⟩
abbrev cX1_choose : ByteArray := prog_3_method_7_code
def yX1_choose : MethodName := ⟨RX1, "choose", "(IZ)I"⟩
abbrev cX1_go : ByteArray := prog_3_method_8_code
def yX1_go : MethodName := ⟨RX1, "go", "(LSplitGate$Level;I)V"⟩
abbrev cX1_fall : ByteArray := prog_3_method_9_code
def yX1_fall : MethodName := ⟨RX1, "fall", "(LSplitGate$Level;)V"⟩
abbrev cX1_takeCoin : ByteArray := prog_3_method_10_code
def yX1_takeCoin : MethodName := ⟨RX1, "takeCoin", "(LSplitGate$Level;)V"⟩
abbrev cX1_finish : ByteArray := prog_3_method_11_code
def yX1_finish : MethodName := ⟨RX1, "finish", "(LSplitGate$Level;)V"⟩
def RX2 : String := "SplitGate$Level"
def TX2 : u_T := fun k => match k with
  | 0 => ("SplitGate$Level", "gaps", "[Z", true)
  | 1 => ("SplitGate$Level", "floors", "[I", true)
  | _ => ("SplitGate$Level", "items", "[I", true)
def tyX2 : Nat → FieldType := fun k => match k with
  | 0 => .array .boolean
  | 1 => .array .int
  | _ => .array .int
theorem nmX2 : ∀ a, a < 3 → ∀ b, b < 3 → a ≠ b → (TX2 a).2.1 ≠ (TX2 b).2.1 := by decide +kernel
theorem tyX2_ok : ∀ k, k < 3 → parseFieldDescriptor (TX2 k).2.2.1 = some (tyX2 k) := by decide +kernel
abbrev cX2_init : ByteArray := prog_4_method_1_code
def yX2_init : MethodName := ⟨RX2, "<init>", "()V"⟩
abbrev cX2_change : ByteArray := prog_4_method_2_code
def yX2_change : MethodName := ⟨RX2, "change", "(III)V"⟩
abbrev cX2_isGap : ByteArray := prog_4_method_3_code
def yX2_isGap : MethodName := ⟨RX2, "isGap", "(I)Z"⟩
abbrev cX2_base : ByteArray := prog_4_method_4_code
def yX2_base : MethodName := ⟨RX2, "base", "(I)I"⟩
abbrev cX2_isFloorAbove : ByteArray := prog_4_method_5_code
def yX2_isFloorAbove : MethodName := ⟨RX2, "isFloorAbove", "(II)Z"⟩
abbrev cX2_hasItem : ByteArray := prog_4_method_6_code
def yX2_hasItem : MethodName := ⟨RX2, "hasItem", "(II)Z"⟩
def RX3 : String := "SplitGate$Offer"
def TX3 : u_T := fun k => match k with
  | 0 => ("SplitGate$Offer", "category", "LSplitGate$Category;", true)
  | 1 => ("SplitGate$Offer", "runner", "I", true)
  | _ => ("SplitGate$Offer", "gifts", "I", false)
def tyX3 : Nat → FieldType := fun k => match k with
  | 0 => .object "SplitGate$Category"
  | 1 => .int
  | _ => .int
theorem nmX3 : ∀ a, a < 3 → ∀ b, b < 3 → a ≠ b → (TX3 a).2.1 ≠ (TX3 b).2.1 := by decide +kernel
theorem tyX3_ok : ∀ k, k < 3 → parseFieldDescriptor (TX3 k).2.2.1 = some (tyX3 k) := by decide +kernel
abbrev cX3_init : ByteArray := prog_5_method_1_code
def yX3_init : MethodName := ⟨RX3, "<init>", "(LSplitGate$Category;I)V"⟩
def RX4 : String := "SplitGate$Replay"
def TX4 : u_T := fun k => match k with
  | 0 => ("SplitGate$Replay", "level", "LSplitGate$Level;", true)
  | 1 => ("SplitGate$Replay", "buttons", "[I", true)
  | 2 => ("SplitGate$Replay", "ticks", "[I", true)
  | 3 => ("SplitGate$Replay", "hero", "LSplitGate$Hero;", true)
  | 4 => ("SplitGate$Replay", "pieces", "I", false)
  | 5 => ("SplitGate$Replay", "length", "I", false)
  | _ => ("SplitGate$Replay", "submitted", "Z", false)
def tyX4 : Nat → FieldType := fun k => match k with
  | 0 => .object "SplitGate$Level"
  | 1 => .array .int
  | 2 => .array .int
  | 3 => .object "SplitGate$Hero"
  | 4 => .int
  | 5 => .int
  | _ => .boolean
theorem nmX4 : ∀ a, a < 7 → ∀ b, b < 7 → a ≠ b → (TX4 a).2.1 ≠ (TX4 b).2.1 := by decide +kernel
theorem tyX4_ok : ∀ k, k < 7 → parseFieldDescriptor (TX4 k).2.2.1 = some (tyX4 k) := by decide +kernel
abbrev cX4_init : ByteArray := prog_6_method_1_code
def yX4_init : MethodName := ⟨RX4, "<init>", "(LSplitGate$Level;)V"⟩
abbrev cX4_hasRoomFor : ByteArray := prog_6_method_2_code
def yX4_hasRoomFor : MethodName := ⟨RX4, "hasRoomFor", "(I)Z"⟩
abbrev cX4_addPiece : ByteArray := prog_6_method_3_code
def yX4_addPiece : MethodName := ⟨RX4, "addPiece", "(II)V"⟩
abbrev cX4_runAgain : ByteArray := prog_6_method_4_code
def yX4_runAgain : MethodName := ⟨RX4, "runAgain", "(LSplitGate$Hero;I)V"⟩
abbrev cX4_runPiece : ByteArray := prog_6_method_5_code
def yX4_runPiece : MethodName := ⟨RX4, "runPiece", "(LSplitGate$Hero;II)V"⟩
def RX5 : String := "SplitGate$Rule"
def TX5 : u_T := fun k => match k with
  | 0 => ("SplitGate$Rule", "day", "I", true)
  | 1 => ("SplitGate$Rule", "forbidden", "I", true)
  | 2 => ("SplitGate$Rule", "coins", "I", true)
  | _ => ("SplitGate$Rule", "jumps", "I", true)
def tyX5 : Nat → FieldType := fun k => match k with
  | 0 => .int
  | 1 => .int
  | 2 => .int
  | _ => .int
theorem nmX5 : ∀ a, a < 4 → ∀ b, b < 4 → a ≠ b → (TX5 a).2.1 ≠ (TX5 b).2.1 := by decide +kernel
theorem tyX5_ok : ∀ k, k < 4 → parseFieldDescriptor (TX5 k).2.2.1 = some (tyX5 k) := by decide +kernel
abbrev cX5_init : ByteArray := prog_7_method_1_code
def yX5_init : MethodName := ⟨RX5, "<init>", "(IIII)V"⟩
abbrev cX5_refuses : ByteArray := prog_7_method_2_code
def yX5_refuses : MethodName := ⟨RX5, "refuses", "(LSplitGate$Hero;)Z"⟩
def RX6 : String := "SplitGate$Run"
def TX6 : u_T := fun k => match k with
  | 0 => ("SplitGate$Run", "number", "I", true)
  | 1 => ("SplitGate$Run", "runner", "I", true)
  | 2 => ("SplitGate$Run", "replay", "LSplitGate$Replay;", true)
  | 3 => ("SplitGate$Run", "category", "LSplitGate$Category;", true)
  | 4 => ("SplitGate$Run", "day", "I", true)
  | 5 => ("SplitGate$Run", "ticks", "I", true)
  | _ => ("SplitGate$Run", "struck", "Z", false)
def tyX6 : Nat → FieldType := fun k => match k with
  | 0 => .int
  | 1 => .int
  | 2 => .object "SplitGate$Replay"
  | 3 => .object "SplitGate$Category"
  | 4 => .int
  | 5 => .int
  | _ => .boolean
theorem nmX6 : ∀ a, a < 7 → ∀ b, b < 7 → a ≠ b → (TX6 a).2.1 ≠ (TX6 b).2.1 := by decide +kernel
theorem tyX6_ok : ∀ k, k < 7 → parseFieldDescriptor (TX6 k).2.2.1 = some (tyX6 k) := by decide +kernel
abbrev cX6_init : ByteArray := prog_8_method_1_code
def yX6_init : MethodName := ⟨RX6, "<init>", "(IILSplitGate$Replay;LSplitGate$Category;I)V"⟩
abbrev cX6_isFor : ByteArray := prog_8_method_2_code
def yX6_isFor : MethodName := ⟨RX6, "isFor", "(LSplitGate$Category;I)Z"⟩
abbrev cX6_isAheadOf : ByteArray := prog_8_method_3_code
def yX6_isAheadOf : MethodName := ⟨RX6, "isAheadOf", "(LSplitGate$Run;)Z"⟩
def RX7 : String := "SplitGate"
def TX7 : u_T := fun k => match k with
  | 0 => ("SplitGate", "levels", "Ljava/util/ArrayList;", true)
  | 1 => ("SplitGate", "replays", "Ljava/util/ArrayList;", true)
  | 2 => ("SplitGate", "categories", "Ljava/util/ArrayList;", true)
  | 3 => ("SplitGate", "runs", "Ljava/util/ArrayList;", true)
  | 4 => ("SplitGate", "offers", "Ljava/util/ArrayList;", true)
  | 5 => ("SplitGate", "day", "I", false)
  | 6 => ("SplitGate", "heroAgain", "LSplitGate$Hero;", true)
  | 7 => ("SplitGate", "costs", "[I", true)
  | _ => ("SplitGate", "gains", "[I", true)
def tyX7 : Nat → FieldType := fun k => match k with
  | 0 => .object "java/util/ArrayList"
  | 1 => .object "java/util/ArrayList"
  | 2 => .object "java/util/ArrayList"
  | 3 => .object "java/util/ArrayList"
  | 4 => .object "java/util/ArrayList"
  | 5 => .int
  | 6 => .object "SplitGate$Hero"
  | 7 => .array .int
  | _ => .array .int
theorem nmX7 : ∀ a, a < 9 → ∀ b, b < 9 → a ≠ b → (TX7 a).2.1 ≠ (TX7 b).2.1 := by decide +kernel
theorem tyX7_ok : ∀ k, k < 9 → parseFieldDescriptor (TX7 k).2.2.1 = some (tyX7 k) := by decide +kernel
abbrev cX7_init : ByteArray := prog_1_method_1_code
def yX7_init : MethodName := ⟨RX7, "<init>", "()V"⟩
abbrev cX7_level : ByteArray := prog_1_method_2_code
def yX7_level : MethodName := ⟨RX7, "level", "()I"⟩
abbrev cX7_column : ByteArray := prog_1_method_3_code
def yX7_column : MethodName := ⟨RX7, "column", "(IIII)V"⟩
abbrev cX7_replay : ByteArray := prog_1_method_4_code
def yX7_replay : MethodName := ⟨RX7, "replay", "(I)I"⟩
abbrev cX7_input : ByteArray := prog_1_method_5_code
def yX7_input : MethodName := ⟨RX7, "input", "(III)I"⟩
abbrev cX7_result : ByteArray := prog_1_method_6_code
def yX7_result : MethodName := ⟨RX7, "result", "(I)I"⟩
abbrev cX7_used : ByteArray := prog_1_method_7_code
def yX7_used : MethodName := ⟨RX7, "used", "(I)I"⟩
abbrev cX7_where : ByteArray := prog_1_method_8_code
def yX7_where : MethodName := ⟨RX7, "where", "(II)I"⟩
abbrev cX7_isWithin : ByteArray := prog_1_method_9_code
def yX7_isWithin : MethodName := ⟨RX7, "isWithin", "(III)Z"⟩
abbrev cX7_requireArgument : ByteArray := prog_1_method_10_code
def yX7_requireArgument : MethodName := ⟨RX7, "requireArgument", "(Z)V"⟩
abbrev cX7_levelOf : ByteArray := prog_1_method_11_code
def yX7_levelOf : MethodName := ⟨RX7, "levelOf", "(I)LSplitGate$Level;"⟩
abbrev cX7_replayOf : ByteArray := prog_1_method_12_code
def yX7_replayOf : MethodName := ⟨RX7, "replayOf", "(I)LSplitGate$Replay;"⟩
abbrev cX7_hasReplay : ByteArray := prog_1_method_13_code
def yX7_hasReplay : MethodName := ⟨RX7, "hasReplay", "(LSplitGate$Level;)Z"⟩
abbrev cX7_category : ByteArray := prog_1_method_14_code
def yX7_category : MethodName := ⟨RX7, "category", "(I)I"⟩
abbrev cX7_rule : ByteArray := prog_1_method_15_code
def yX7_rule : MethodName := ⟨RX7, "rule", "(IIIII)I"⟩
abbrev cX7_pass : ByteArray := prog_1_method_16_code
def yX7_pass : MethodName := ⟨RX7, "pass", "(I)I"⟩
abbrev cX7_submit : ByteArray := prog_1_method_17_code
def yX7_submit : MethodName := ⟨RX7, "submit", "(III)I"⟩
abbrev cX7_judged : ByteArray := prog_1_method_18_code
def yX7_judged : MethodName := ⟨RX7, "judged", "(I)I"⟩
abbrev cX7_strike : ByteArray := prog_1_method_19_code
def yX7_strike : MethodName := ⟨RX7, "strike", "(I)Z"⟩
abbrev cX7_categoryOf : ByteArray := prog_1_method_20_code
def yX7_categoryOf : MethodName := ⟨RX7, "categoryOf", "(I)LSplitGate$Category;"⟩
abbrev cX7_runOf : ByteArray := prog_1_method_21_code
def yX7_runOf : MethodName := ⟨RX7, "runOf", "(I)LSplitGate$Run;"⟩
abbrev cX7_requireRunner : ByteArray := prog_1_method_22_code
def yX7_requireRunner : MethodName := ⟨RX7, "requireRunner", "(I)V"⟩
abbrev cX7_isRefused : ByteArray := prog_1_method_23_code
def yX7_isRefused : MethodName := ⟨RX7, "isRefused", "(LSplitGate$Run;)Z"⟩
abbrev cX7_counts : ByteArray := prog_1_method_24_code
def yX7_counts : MethodName := ⟨RX7, "counts", "(LSplitGate$Run;)Z"⟩
abbrev cX7_countRefused : ByteArray := prog_1_method_25_code
def yX7_countRefused : MethodName := ⟨RX7, "countRefused", "(LSplitGate$Category;)I"⟩
abbrev cX7_best : ByteArray := prog_1_method_26_code
def yX7_best : MethodName := ⟨RX7, "best", "(II)I"⟩
abbrev cX7_bestAnew : ByteArray := prog_1_method_27_code
def yX7_bestAnew : MethodName := ⟨RX7, "bestAnew", "(II)I"⟩
abbrev cX7_place : ByteArray := prog_1_method_28_code
def yX7_place : MethodName := ⟨RX7, "place", "(II)I"⟩
abbrev cX7_at : ByteArray := prog_1_method_29_code
def yX7_at : MethodName := ⟨RX7, "at", "(II)I"⟩
abbrev cX7_placeWithout : ByteArray := prog_1_method_30_code
def yX7_placeWithout : MethodName := ⟨RX7, "placeWithout", "(I)I"⟩
abbrev cX7_bestRun : ByteArray := prog_1_method_31_code
def yX7_bestRun : MethodName := ⟨RX7, "bestRun", "(LSplitGate$Category;ILSplitGate$Run;)LSplitGate$Run;"⟩
abbrev cX7_countsAnew : ByteArray := prog_1_method_32_code
def yX7_countsAnew : MethodName := ⟨RX7, "countsAnew", "(LSplitGate$Run;)Z"⟩
abbrev cX7_placeFor : ByteArray := prog_1_method_33_code
def yX7_placeFor : MethodName := ⟨RX7, "placeFor", "(LSplitGate$Category;ILSplitGate$Run;)I"⟩
abbrev cX7_countAhead : ByteArray := prog_1_method_34_code
def yX7_countAhead : MethodName := ⟨RX7, "countAhead", "(LSplitGate$Run;)I"⟩
abbrev cX7_estimate : ByteArray := prog_1_method_35_code
def yX7_estimate : MethodName := ⟨RX7, "estimate", "(II)I"⟩
abbrev cX7_offer : ByteArray := prog_1_method_36_code
def yX7_offer : MethodName := ⟨RX7, "offer", "(II)I"⟩
abbrev cX7_gift : ByteArray := prog_1_method_37_code
def yX7_gift : MethodName := ⟨RX7, "gift", "(II)I"⟩
abbrev cX7_plan : ByteArray := prog_1_method_38_code
def yX7_plan : MethodName := ⟨RX7, "plan", "(I)I"⟩
abbrev cX7_estimateFor : ByteArray := prog_1_method_39_code
def yX7_estimateFor : MethodName := ⟨RX7, "estimateFor", "(LSplitGate$Category;I)I"⟩
abbrev cX7_hasOffered : ByteArray := prog_1_method_40_code
def yX7_hasOffered : MethodName := ⟨RX7, "hasOffered", "(LSplitGate$Category;I)Z"⟩
abbrev cX7_fillSets : ByteArray := prog_1_method_41_code
def yX7_fillSets : MethodName := ⟨RX7, "fillSets", "()I"⟩
abbrev cX7_costOf : ByteArray := prog_1_method_42_code
def yX7_costOf : MethodName := ⟨RX7, "costOf", "(LSplitGate$Offer;)I"⟩
def RX8 : String := "SplitGateModel"
def TX8 : u_T := fun k => match k with
  | 0 => ("SplitGateModel", "high", "[I", true)
  | 1 => ("SplitGateModel", "item", "[I", true)
  | 2 => ("SplitGateModel", "levels", "I", false)
  | 3 => ("SplitGateModel", "stage", "[I", true)
  | 4 => ("SplitGateModel", "pieces", "[I", true)
  | 5 => ("SplitGateModel", "length", "[I", true)
  | 6 => ("SplitGateModel", "sent", "[I", true)
  | 7 => ("SplitGateModel", "keys", "[I", true)
  | 8 => ("SplitGateModel", "spans", "[I", true)
  | 9 => ("SplitGateModel", "replays", "I", false)
  | 10 => ("SplitGateModel", "where", "[I", true)
  | 11 => ("SplitGateModel", "ruled", "[I", true)
  | 12 => ("SplitGateModel", "from", "[I", true)
  | 13 => ("SplitGateModel", "bars", "[I", true)
  | 14 => ("SplitGateModel", "least", "[I", true)
  | 15 => ("SplitGateModel", "most", "[I", true)
  | 16 => ("SplitGateModel", "categories", "I", false)
  | 17 => ("SplitGateModel", "tape", "[I", true)
  | 18 => ("SplitGateModel", "who", "[I", true)
  | 19 => ("SplitGateModel", "what", "[I", true)
  | 20 => ("SplitGateModel", "when", "[I", true)
  | 21 => ("SplitGateModel", "struck", "[I", true)
  | 22 => ("SplitGateModel", "lasted", "[I", true)
  | 23 => ("SplitGateModel", "took", "[I", true)
  | 24 => ("SplitGateModel", "leapt", "[I", true)
  | 25 => ("SplitGateModel", "did", "[I", true)
  | 26 => ("SplitGateModel", "runs", "I", false)
  | 27 => ("SplitGateModel", "show", "[I", true)
  | 28 => ("SplitGateModel", "star", "[I", true)
  | 29 => ("SplitGateModel", "given", "[I", true)
  | 30 => ("SplitGateModel", "offers", "I", false)
  | 31 => ("SplitGateModel", "today", "I", false)
  | 32 => ("SplitGateModel", "x", "I", false)
  | 33 => ("SplitGateModel", "y", "I", false)
  | 34 => ("SplitGateModel", "speed", "I", false)
  | 35 => ("SplitGateModel", "stands", "Z", false)
  | 36 => ("SplitGateModel", "dashes", "Z", false)
  | 37 => ("SplitGateModel", "coins", "I", false)
  | 38 => ("SplitGateModel", "jumps", "I", false)
  | 39 => ("SplitGateModel", "deeds", "I", false)
  | 40 => ("SplitGateModel", "ticks", "I", false)
  | 41 => ("SplitGateModel", "fate", "I", false)
  | _ => ("SplitGateModel", "thrown", "I", false)
def tyX8 : Nat → FieldType := fun k => match k with
  | 0 => .array .int
  | 1 => .array .int
  | 2 => .int
  | 3 => .array .int
  | 4 => .array .int
  | 5 => .array .int
  | 6 => .array .int
  | 7 => .array .int
  | 8 => .array .int
  | 9 => .int
  | 10 => .array .int
  | 11 => .array .int
  | 12 => .array .int
  | 13 => .array .int
  | 14 => .array .int
  | 15 => .array .int
  | 16 => .int
  | 17 => .array .int
  | 18 => .array .int
  | 19 => .array .int
  | 20 => .array .int
  | 21 => .array .int
  | 22 => .array .int
  | 23 => .array .int
  | 24 => .array .int
  | 25 => .array .int
  | 26 => .int
  | 27 => .array .int
  | 28 => .array .int
  | 29 => .array .int
  | 30 => .int
  | 31 => .int
  | 32 => .int
  | 33 => .int
  | 34 => .int
  | 35 => .boolean
  | 36 => .boolean
  | 37 => .int
  | 38 => .int
  | 39 => .int
  | 40 => .int
  | 41 => .int
  | _ => .int
theorem nmX8 : ∀ a, a < 43 → ∀ b, b < 43 → a ≠ b → (TX8 a).2.1 ≠ (TX8 b).2.1 := by decide +kernel
theorem tyX8_ok : ∀ k, k < 43 → parseFieldDescriptor (TX8 k).2.2.1 = some (tyX8 k) := by decide +kernel
abbrev cX8_init : ByteArray := prog_10_method_1_code
def yX8_init : MethodName := ⟨RX8, "<init>", "()V"⟩
abbrev cX8_thrown : ByteArray := prog_10_method_2_code
def yX8_thrown : MethodName := ⟨RX8, "thrown", "()I"⟩
abbrev cX8_holds : ByteArray := prog_10_method_3_code
def yX8_holds : MethodName := ⟨RX8, "holds", "(I)Z"⟩
abbrev cX8_between : ByteArray := prog_10_method_4_code
def yX8_between : MethodName := ⟨RX8, "between", "(III)Z"⟩
abbrev cX8_isLevel : ByteArray := prog_10_method_5_code
def yX8_isLevel : MethodName := ⟨RX8, "isLevel", "(I)Z"⟩
abbrev cX8_isReplay : ByteArray := prog_10_method_6_code
def yX8_isReplay : MethodName := ⟨RX8, "isReplay", "(I)Z"⟩
abbrev cX8_isCategory : ByteArray := prog_10_method_7_code
def yX8_isCategory : MethodName := ⟨RX8, "isCategory", "(I)Z"⟩
abbrev cX8_isRun : ByteArray := prog_10_method_8_code
def yX8_isRun : MethodName := ⟨RX8, "isRun", "(I)Z"⟩
abbrev cX8_isRunner : ByteArray := prog_10_method_9_code
def yX8_isRunner : MethodName := ⟨RX8, "isRunner", "(I)Z"⟩
abbrev cX8_gap : ByteArray := prog_10_method_10_code
def yX8_gap : MethodName := ⟨RX8, "gap", "(II)Z"⟩
abbrev cX8_ground : ByteArray := prog_10_method_11_code
def yX8_ground : MethodName := ⟨RX8, "ground", "(II)I"⟩
abbrev cX8_wall : ByteArray := prog_10_method_12_code
def yX8_wall : MethodName := ⟨RX8, "wall", "(II)Z"⟩
abbrev cX8_start : ByteArray := prog_10_method_13_code
def yX8_start : MethodName := ⟨RX8, "start", "(I)V"⟩
abbrev cX8_way : ByteArray := prog_10_method_14_code
def yX8_way : MethodName := ⟨RX8, "way", "(II)I"⟩
abbrev cX8_go : ByteArray := prog_10_method_15_code
def yX8_go : MethodName := ⟨RX8, "go", "(II)V"⟩
abbrev cX8_fall : ByteArray := prog_10_method_16_code
def yX8_fall : MethodName := ⟨RX8, "fall", "(I)V"⟩
abbrev cX8_meet : ByteArray := prog_10_method_17_code
def yX8_meet : MethodName := ⟨RX8, "meet", "(I)V"⟩
abbrev cX8_tick : ByteArray := prog_10_method_18_code
def yX8_tick : MethodName := ⟨RX8, "tick", "(III)V"⟩
abbrev cX8_run : ByteArray := prog_10_method_19_code
def yX8_run : MethodName := ⟨RX8, "run", "(II)V"⟩
abbrev cX8_purse : ByteArray := prog_10_method_20_code
def yX8_purse : MethodName := ⟨RX8, "purse", "()I"⟩
abbrev cX8_level : ByteArray := prog_10_method_21_code
def yX8_level : MethodName := ⟨RX8, "level", "()I"⟩
abbrev cX8_isUsed : ByteArray := prog_10_method_22_code
def yX8_isUsed : MethodName := ⟨RX8, "isUsed", "(I)Z"⟩
abbrev cX8_column : ByteArray := prog_10_method_23_code
def yX8_column : MethodName := ⟨RX8, "column", "(IIII)V"⟩
abbrev cX8_replay : ByteArray := prog_10_method_24_code
def yX8_replay : MethodName := ⟨RX8, "replay", "(I)I"⟩
abbrev cX8_input : ByteArray := prog_10_method_25_code
def yX8_input : MethodName := ⟨RX8, "input", "(III)I"⟩
abbrev cX8_result : ByteArray := prog_10_method_26_code
def yX8_result : MethodName := ⟨RX8, "result", "(I)I"⟩
abbrev cX8_used : ByteArray := prog_10_method_27_code
def yX8_used : MethodName := ⟨RX8, "used", "(I)I"⟩
abbrev cX8_where : ByteArray := prog_10_method_28_code
def yX8_where : MethodName := ⟨RX8, "where", "(II)I"⟩
abbrev cX8_category : ByteArray := prog_10_method_29_code
def yX8_category : MethodName := ⟨RX8, "category", "(I)I"⟩
abbrev cX8_law : ByteArray := prog_10_method_30_code
def yX8_law : MethodName := ⟨RX8, "law", "(II)I"⟩
abbrev cX8_refused : ByteArray := prog_10_method_31_code
def yX8_refused : MethodName := ⟨RX8, "refused", "(I)Z"⟩
abbrev cX8_counts : ByteArray := prog_10_method_32_code
def yX8_counts : MethodName := ⟨RX8, "counts", "(I)Z"⟩
abbrev cX8_rule : ByteArray := prog_10_method_33_code
def yX8_rule : MethodName := ⟨RX8, "rule", "(IIIII)I"⟩
abbrev cX8_pass : ByteArray := prog_10_method_34_code
def yX8_pass : MethodName := ⟨RX8, "pass", "(I)I"⟩
abbrev cX8_submit : ByteArray := prog_10_method_35_code
def yX8_submit : MethodName := ⟨RX8, "submit", "(III)I"⟩
abbrev cX8_judged : ByteArray := prog_10_method_36_code
def yX8_judged : MethodName := ⟨RX8, "judged", "(I)I"⟩
abbrev cX8_strike : ByteArray := prog_10_method_37_code
def yX8_strike : MethodName := ⟨RX8, "strike", "(I)Z"⟩
abbrev cX8_ahead : ByteArray := prog_10_method_38_code
def yX8_ahead : MethodName := ⟨RX8, "ahead", "(II)Z"⟩
abbrev cX8_top : ByteArray := prog_10_method_39_code
def yX8_top : MethodName := ⟨RX8, "top", "(III)I"⟩
abbrev cX8_isPair : ByteArray := prog_10_method_40_code
def yX8_isPair : MethodName := ⟨RX8, "isPair", "(II)Z"⟩
abbrev cX8_best : ByteArray := prog_10_method_41_code
def yX8_best : MethodName := ⟨RX8, "best", "(II)I"⟩
abbrev cX8_bestAnew : ByteArray := prog_10_method_42_code
def yX8_bestAnew : MethodName := ⟨RX8, "bestAnew", "(II)I"⟩
abbrev cX8_spot : ByteArray := prog_10_method_43_code
def yX8_spot : MethodName := ⟨RX8, "spot", "(III)I"⟩
abbrev cX8_place : ByteArray := prog_10_method_44_code
def yX8_place : MethodName := ⟨RX8, "place", "(II)I"⟩
abbrev cX8_at : ByteArray := prog_10_method_45_code
def yX8_at : MethodName := ⟨RX8, "at", "(II)I"⟩
abbrev cX8_placeWithout : ByteArray := prog_10_method_46_code
def yX8_placeWithout : MethodName := ⟨RX8, "placeWithout", "(I)I"⟩
abbrev cX8_guess : ByteArray := prog_10_method_47_code
def yX8_guess : MethodName := ⟨RX8, "guess", "(II)I"⟩
abbrev cX8_estimate : ByteArray := prog_10_method_48_code
def yX8_estimate : MethodName := ⟨RX8, "estimate", "(II)I"⟩
abbrev cX8_isOpen : ByteArray := prog_10_method_49_code
def yX8_isOpen : MethodName := ⟨RX8, "isOpen", "(I)Z"⟩
abbrev cX8_offer : ByteArray := prog_10_method_50_code
def yX8_offer : MethodName := ⟨RX8, "offer", "(II)I"⟩
abbrev cX8_gift : ByteArray := prog_10_method_51_code
def yX8_gift : MethodName := ⟨RX8, "gift", "(II)I"⟩
abbrev cX8_plan : ByteArray := prog_10_method_52_code
def yX8_plan : MethodName := ⟨RX8, "plan", "(I)I"⟩
def RJx145de : String := "java/io/Serializable"
def TJx145de : u_T := fun k => match k with
  | _ => ("", "", "", false)
def tyJx145de : Nat → FieldType := fun k => match k with
  | _ => .int
theorem nmJx145de : ∀ a, a < 0 → ∀ b, b < 0 → a ≠ b → (TJx145de a).2.1 ≠ (TJx145de b).2.1 := by decide +kernel
theorem tyJx145de_ok : ∀ k, k < 0 → parseFieldDescriptor (TJx145de k).2.2.1 = some (tyJx145de k) := by decide +kernel
def RJx8e188 : String := "java/lang/Cloneable"
def TJx8e188 : u_T := fun k => match k with
  | _ => ("", "", "", false)
def tyJx8e188 : Nat → FieldType := fun k => match k with
  | _ => .int
theorem nmJx8e188 : ∀ a, a < 0 → ∀ b, b < 0 → a ≠ b → (TJx8e188 a).2.1 ≠ (TJx8e188 b).2.1 := by decide +kernel
theorem tyJx8e188_ok : ∀ k, k < 0 → parseFieldDescriptor (TJx8e188 k).2.2.1 = some (tyJx8e188 k) := by decide +kernel
def RJxab1ab : String := "java/lang/Iterable"
def TJxab1ab : u_T := fun k => match k with
  | _ => ("", "", "", false)
def tyJxab1ab : Nat → FieldType := fun k => match k with
  | _ => .int
theorem nmJxab1ab : ∀ a, a < 0 → ∀ b, b < 0 → a ≠ b → (TJxab1ab a).2.1 ≠ (TJxab1ab b).2.1 := by decide +kernel
theorem tyJxab1ab_ok : ∀ k, k < 0 → parseFieldDescriptor (TJxab1ab k).2.2.1 = some (tyJxab1ab k) := by decide +kernel
def RJ9 : String := "java/lang/Math"
def TJ9 : u_T := fun k => match k with
  | _ => ("", "", "", false)
def tyJ9 : Nat → FieldType := fun k => match k with
  | _ => .int
theorem nmJ9 : ∀ a, a < 0 → ∀ b, b < 0 → a ≠ b → (TJ9 a).2.1 ≠ (TJ9 b).2.1 := by decide +kernel
theorem tyJ9_ok : ∀ k, k < 0 → parseFieldDescriptor (TJ9 k).2.2.1 = some (tyJ9 k) := by decide +kernel
abbrev cJ9_max_7cf53 : ByteArray := prog_18_method_65_code
def yJ9_max_7cf53 : MethodName := ⟨RJ9, "max", "(II)I"⟩
abbrev cJ9_min_7cf53 : ByteArray := prog_18_method_69_code
def yJ9_min_7cf53 : MethodName := ⟨RJ9, "min", "(II)I"⟩
def RJ0 : String := "java/lang/String"
def TJ0 : u_T := fun k => match k with
  | _ => ("", "", "", false)
def tyJ0 : Nat → FieldType := fun k => match k with
  | _ => .int
theorem nmJ0 : ∀ a, a < 0 → ∀ b, b < 0 → a ≠ b → (TJ0 a).2.1 ≠ (TJ0 b).2.1 := by decide +kernel
theorem tyJ0_ok : ∀ k, k < 0 → parseFieldDescriptor (TJ0 k).2.2.1 = some (tyJ0 k) := by decide +kernel
def RJ10 : String := "java/lang/System"
def TJ10 : u_T := fun k => match k with
  | _ => ("", "", "", false)
def tyJ10 : Nat → FieldType := fun k => match k with
  | _ => .int
theorem nmJ10 : ∀ a, a < 0 → ∀ b, b < 0 → a ≠ b → (TJ10 a).2.1 ≠ (TJ10 b).2.1 := by decide +kernel
theorem tyJ10_ok : ∀ k, k < 0 → parseFieldDescriptor (TJ10 k).2.2.1 = some (tyJ10 k) := by decide +kernel
def RJxa1e45 : String := "java/util/AbstractCollection"
def TJxa1e45 : u_T := fun k => match k with
  | _ => ("", "", "", false)
def tyJxa1e45 : Nat → FieldType := fun k => match k with
  | _ => .int
theorem nmJxa1e45 : ∀ a, a < 0 → ∀ b, b < 0 → a ≠ b → (TJxa1e45 a).2.1 ≠ (TJxa1e45 b).2.1 := by decide +kernel
theorem tyJxa1e45_ok : ∀ k, k < 0 → parseFieldDescriptor (TJxa1e45 k).2.2.1 = some (tyJxa1e45 k) := by decide +kernel
abbrev cJxa1e45_init_da8c8 : ByteArray := prog_23_method_1_code
def yJxa1e45_init_da8c8 : MethodName := ⟨RJxa1e45, "<init>", "()V"⟩
def RJxc12de : String := "java/util/AbstractList"
def TJxc12de : u_T := fun k => match k with
  | _ => ("", "", "", false)
def tyJxc12de : Nat → FieldType := fun k => match k with
  | _ => .int
theorem nmJxc12de : ∀ a, a < 0 → ∀ b, b < 0 → a ≠ b → (TJxc12de a).2.1 ≠ (TJxc12de b).2.1 := by decide +kernel
theorem tyJxc12de_ok : ∀ k, k < 0 → parseFieldDescriptor (TJxc12de k).2.2.1 = some (tyJxc12de k) := by decide +kernel
abbrev cJxc12de_init_da8c8 : ByteArray := prog_24_method_1_code
def yJxc12de_init_da8c8 : MethodName := ⟨RJxc12de, "<init>", "()V"⟩
def RJx4a65c : String := "java/util/ArrayList"
def TJx4a65c : u_T := fun k => match k with
  | 0 => ("java/util/AbstractList", "modCount", "I", false)
  | 1 => ("java/util/ArrayList", "elementData", "[Ljava/lang/Object;", false)
  | _ => ("java/util/ArrayList", "size", "I", false)
def tyJx4a65c : Nat → FieldType := fun k => match k with
  | 0 => .int
  | 1 => .array (.object "java/lang/Object")
  | _ => .int
theorem nmJx4a65c : ∀ a, a < 3 → ∀ b, b < 3 → a ≠ b → (TJx4a65c a).2.1 ≠ (TJx4a65c b).2.1 := by decide +kernel
theorem tyJx4a65c_ok : ∀ k, k < 3 → parseFieldDescriptor (TJx4a65c k).2.2.1 = some (tyJx4a65c k) := by decide +kernel
abbrev cJx4a65c_init_da8c8 : ByteArray := prog_25_method_2_code
def yJx4a65c_init_da8c8 : MethodName := ⟨RJx4a65c, "<init>", "()V"⟩
abbrev cJx4a65c_grow_92f84 : ByteArray := prog_25_method_6_code
def yJx4a65c_grow_92f84 : MethodName := ⟨RJx4a65c, "grow", "(I)[Ljava/lang/Object;"⟩
abbrev cJx4a65c_grow_d5877 : ByteArray := prog_25_method_7_code
def yJx4a65c_grow_d5877 : MethodName := ⟨RJx4a65c, "grow", "()[Ljava/lang/Object;"⟩
abbrev cJx4a65c_size_8abf5 : ByteArray := prog_25_method_8_code
def yJx4a65c_size_8abf5 : MethodName := ⟨RJx4a65c, "size", "()I"⟩
abbrev cJx4a65c_elementData_915e3 : ByteArray := prog_25_method_18_code
def yJx4a65c_elementData_915e3 : MethodName := ⟨RJx4a65c, "elementData", "(I)Ljava/lang/Object;"⟩
abbrev cJx4a65c_get_915e3 : ByteArray := prog_25_method_20_code
def yJx4a65c_get_915e3 : MethodName := ⟨RJx4a65c, "get", "(I)Ljava/lang/Object;"⟩
abbrev cJx4a65c_add_72be8 : ByteArray := prog_25_method_24_code
def yJx4a65c_add_72be8 : MethodName := ⟨RJx4a65c, "add", "(Ljava/lang/Object;[Ljava/lang/Object;I)V"⟩
abbrev cJx4a65c_add_9ea2d : ByteArray := prog_25_method_25_code
def yJx4a65c_add_9ea2d : MethodName := ⟨RJx4a65c, "add", "(Ljava/lang/Object;)Z"⟩
def RJ7 : String := "java/util/Arrays"
def TJ7 : u_T := fun k => match k with
  | _ => ("", "", "", false)
def tyJ7 : Nat → FieldType := fun k => match k with
  | _ => .int
theorem nmJ7 : ∀ a, a < 0 → ∀ b, b < 0 → a ≠ b → (TJ7 a).2.1 ≠ (TJ7 b).2.1 := by decide +kernel
theorem tyJ7_ok : ∀ k, k < 0 → parseFieldDescriptor (TJ7 k).2.2.1 = some (tyJ7 k) := by decide +kernel
abbrev cJ7_copyOf_1904c : ByteArray := prog_26_method_119_code
def yJ7_copyOf_1904c : MethodName := ⟨RJ7, "copyOf", "([Ljava/lang/Object;I)[Ljava/lang/Object;"⟩
abbrev cJ7_copyOf_6403c : ByteArray := prog_26_method_120_code
def yJ7_copyOf_6403c : MethodName := ⟨RJ7, "copyOf", "([Ljava/lang/Object;ILjava/lang/Class;)[Ljava/lang/Object;"⟩
def RJx5ef63 : String := "java/util/Collection"
def TJx5ef63 : u_T := fun k => match k with
  | _ => ("", "", "", false)
def tyJx5ef63 : Nat → FieldType := fun k => match k with
  | _ => .int
theorem nmJx5ef63 : ∀ a, a < 0 → ∀ b, b < 0 → a ≠ b → (TJx5ef63 a).2.1 ≠ (TJx5ef63 b).2.1 := by decide +kernel
theorem tyJx5ef63_ok : ∀ k, k < 0 → parseFieldDescriptor (TJx5ef63 k).2.2.1 = some (tyJx5ef63 k) := by decide +kernel
def RJxbd725 : String := "java/util/List"
def TJxbd725 : u_T := fun k => match k with
  | _ => ("", "", "", false)
def tyJxbd725 : Nat → FieldType := fun k => match k with
  | _ => .int
theorem nmJxbd725 : ∀ a, a < 0 → ∀ b, b < 0 → a ≠ b → (TJxbd725 a).2.1 ≠ (TJxbd725 b).2.1 := by decide +kernel
theorem tyJxbd725_ok : ∀ k, k < 0 → parseFieldDescriptor (TJxbd725 k).2.2.1 = some (tyJxbd725 k) := by decide +kernel
def RJ15 : String := "java/util/Objects"
def TJ15 : u_T := fun k => match k with
  | _ => ("", "", "", false)
def tyJ15 : Nat → FieldType := fun k => match k with
  | _ => .int
theorem nmJ15 : ∀ a, a < 0 → ∀ b, b < 0 → a ≠ b → (TJ15 a).2.1 ≠ (TJ15 b).2.1 := by decide +kernel
theorem tyJ15_ok : ∀ k, k < 0 → parseFieldDescriptor (TJ15 k).2.2.1 = some (tyJ15 k) := by decide +kernel
abbrev cJ15_checkIndex_7cf53 : ByteArray := prog_29_method_17_code
def yJ15_checkIndex_7cf53 : MethodName := ⟨RJ15, "checkIndex", "(II)I"⟩
def RJxf0a74 : String := "java/util/RandomAccess"
def TJxf0a74 : u_T := fun k => match k with
  | _ => ("", "", "", false)
def tyJxf0a74 : Nat → FieldType := fun k => match k with
  | _ => .int
theorem nmJxf0a74 : ∀ a, a < 0 → ∀ b, b < 0 → a ≠ b → (TJxf0a74 a).2.1 ≠ (TJxf0a74 b).2.1 := by decide +kernel
theorem tyJxf0a74_ok : ∀ k, k < 0 → parseFieldDescriptor (TJxf0a74 k).2.2.1 = some (tyJxf0a74 k) := by decide +kernel
def RJxa66e6 : String := "java/util/SequencedCollection"
def TJxa66e6 : u_T := fun k => match k with
  | _ => ("", "", "", false)
def tyJxa66e6 : Nat → FieldType := fun k => match k with
  | _ => .int
theorem nmJxa66e6 : ∀ a, a < 0 → ∀ b, b < 0 → a ≠ b → (TJxa66e6 a).2.1 ≠ (TJxa66e6 b).2.1 := by decide +kernel
theorem tyJxa66e6_ok : ∀ k, k < 0 → parseFieldDescriptor (TJxa66e6 k).2.2.1 = some (tyJxa66e6 k) := by decide +kernel
def RJ8 : String := "jdk/internal/util/ArraysSupport"
def TJ8 : u_T := fun k => match k with
  | _ => ("", "", "", false)
def tyJ8 : Nat → FieldType := fun k => match k with
  | _ => .int
theorem nmJ8 : ∀ a, a < 0 → ∀ b, b < 0 → a ≠ b → (TJ8 a).2.1 ≠ (TJ8 b).2.1 := by decide +kernel
theorem tyJ8_ok : ∀ k, k < 0 → parseFieldDescriptor (TJ8 k).2.2.1 = some (tyJ8 k) := by decide +kernel
abbrev cJ8_newLength_cabcc : ByteArray := prog_32_method_27_code
def yJ8_newLength_cabcc : MethodName := ⟨RJ8, "newLength", "(III)I"⟩
abbrev cJ8_hugeLength_7cf53 : ByteArray := prog_32_method_28_code
def yJ8_hugeLength_7cf53 : MethodName := ⟨RJ8, "hugeLength", "(II)I"⟩
def RJ3 : String := "jdk/internal/util/Preconditions"
def TJ3 : u_T := fun k => match k with
  | _ => ("", "", "", false)
def tyJ3 : Nat → FieldType := fun k => match k with
  | _ => .int
theorem nmJ3 : ∀ a, a < 0 → ∀ b, b < 0 → a ≠ b → (TJ3 a).2.1 ≠ (TJ3 b).2.1 := by decide +kernel
theorem tyJ3_ok : ∀ k, k < 0 → parseFieldDescriptor (TJ3 k).2.2.1 = some (tyJ3 k) := by decide +kernel
abbrev cJ3_checkIndex_8e157 : ByteArray := prog_33_method_11_code
def yJ3_checkIndex_8e157 : MethodName := ⟨RJ3, "checkIndex", "(IILjava/util/function/BiFunction;)I"⟩
def RL : String := "SplitGateLaw"
abbrev cL_level : ByteArray := method_3_code
def yL_level : MethodName := ⟨RL, "level", "(LSplitGate;[J)I"⟩
abbrev cL_column : ByteArray := method_4_code
def yL_column : MethodName := ⟨RL, "column", "(LSplitGate;IIII)I"⟩
abbrev cL_replay : ByteArray := method_5_code
def yL_replay : MethodName := ⟨RL, "replay", "(LSplitGate;I[J)I"⟩
abbrev cL_input : ByteArray := method_6_code
def yL_input : MethodName := ⟨RL, "input", "(LSplitGate;III[J)I"⟩
abbrev cL_result : ByteArray := method_7_code
def yL_result : MethodName := ⟨RL, "result", "(LSplitGate;I[J)I"⟩
abbrev cL_used : ByteArray := method_8_code
def yL_used : MethodName := ⟨RL, "used", "(LSplitGate;I[J)I"⟩
abbrev cL_where : ByteArray := method_9_code
def yL_where : MethodName := ⟨RL, "where", "(LSplitGate;II[J)I"⟩
abbrev cL_category : ByteArray := method_10_code
def yL_category : MethodName := ⟨RL, "category", "(LSplitGate;I[J)I"⟩
abbrev cL_rule : ByteArray := method_11_code
def yL_rule : MethodName := ⟨RL, "rule", "(LSplitGate;IIIII[J)I"⟩
abbrev cL_pass : ByteArray := method_12_code
def yL_pass : MethodName := ⟨RL, "pass", "(LSplitGate;I[J)I"⟩
abbrev cL_submit : ByteArray := method_13_code
def yL_submit : MethodName := ⟨RL, "submit", "(LSplitGate;III[J)I"⟩
abbrev cL_judged : ByteArray := method_14_code
def yL_judged : MethodName := ⟨RL, "judged", "(LSplitGate;I[J)I"⟩
abbrev cL_strike : ByteArray := method_15_code
def yL_strike : MethodName := ⟨RL, "strike", "(LSplitGate;I[J)I"⟩
abbrev cL_best : ByteArray := method_16_code
def yL_best : MethodName := ⟨RL, "best", "(LSplitGate;II[J)I"⟩
abbrev cL_bestAnew : ByteArray := method_17_code
def yL_bestAnew : MethodName := ⟨RL, "bestAnew", "(LSplitGate;II[J)I"⟩
abbrev cL_place : ByteArray := method_18_code
def yL_place : MethodName := ⟨RL, "place", "(LSplitGate;II[J)I"⟩
abbrev cL_at : ByteArray := method_19_code
def yL_at : MethodName := ⟨RL, "at", "(LSplitGate;II[J)I"⟩
abbrev cL_placeWithout : ByteArray := method_20_code
def yL_placeWithout : MethodName := ⟨RL, "placeWithout", "(LSplitGate;I[J)I"⟩
abbrev cL_estimate : ByteArray := method_21_code
def yL_estimate : MethodName := ⟨RL, "estimate", "(LSplitGate;II[J)I"⟩
abbrev cL_offer : ByteArray := method_22_code
def yL_offer : MethodName := ⟨RL, "offer", "(LSplitGate;II[J)I"⟩
abbrev cL_gift : ByteArray := method_23_code
def yL_gift : MethodName := ⟨RL, "gift", "(LSplitGate;II[J)I"⟩
abbrev cL_plan : ByteArray := method_24_code
def yL_plan : MethodName := ⟨RL, "plan", "(LSplitGate;I[J)I"⟩
abbrev cL_law : ByteArray := code
def yL_law : MethodName := ⟨RL, "law", "([I)Z"⟩
abbrev vwCl : List vw_C := [(RJx4a65c, TJx4a65c, 3), (RX0, TX0, 2), (RX1, TX1, 12), (RX2, TX2, 3), (RX3, TX3, 3), (RX4, TX4, 7), (RX5, TX5, 4), (RX6, TX6, 7), (RX7, TX7, 9), (RX8, TX8, 43)]
end
section
theorem dJ15_checkIndex_7cf53_0 : decode cJ15_checkIndex_7cf53 0 = .ok (.iload_n 0, 1) := by decide +kernel
theorem dJ15_checkIndex_7cf53_1 : decode cJ15_checkIndex_7cf53 1 = .ok (.iload_n 1, 1) := by decide +kernel
theorem dJ15_checkIndex_7cf53_2 : decode cJ15_checkIndex_7cf53 2 = .ok (.aconst_null, 1) := by decide +kernel
theorem dJ15_checkIndex_7cf53_3 : decode cJ15_checkIndex_7cf53 3 = .ok (.invokestatic 105, 3) := by decide +kernel
theorem dJ15_checkIndex_7cf53_6 : decode cJ15_checkIndex_7cf53 6 = .ok (.ireturn, 1) := by decide +kernel
theorem dJ3_checkIndex_8e157_0 : decode cJ3_checkIndex_8e157 0 = .ok (.iload_n 0, 1) := by decide +kernel
theorem dJ3_checkIndex_8e157_1 : decode cJ3_checkIndex_8e157 1 = .ok (.ifCond .lt 8, 3) := by decide +kernel
theorem dJ3_checkIndex_8e157_4 : decode cJ3_checkIndex_8e157 4 = .ok (.iload_n 0, 1) := by decide +kernel
theorem dJ3_checkIndex_8e157_5 : decode cJ3_checkIndex_8e157 5 = .ok (.iload_n 1, 1) := by decide +kernel
theorem dJ3_checkIndex_8e157_6 : decode cJ3_checkIndex_8e157 6 = .ok (.if_icmp .lt 10, 3) := by decide +kernel
theorem dJ3_checkIndex_8e157_9 : decode cJ3_checkIndex_8e157 9 = .ok (.aload_n 2, 1) := by decide +kernel
theorem dJ3_checkIndex_8e157_10 : decode cJ3_checkIndex_8e157 10 = .ok (.iload_n 0, 1) := by decide +kernel
theorem dJ3_checkIndex_8e157_11 : decode cJ3_checkIndex_8e157 11 = .ok (.iload_n 1, 1) := by decide +kernel
theorem dJ3_checkIndex_8e157_12 : decode cJ3_checkIndex_8e157 12 = .ok (.invokestatic 95, 3) := by decide +kernel
theorem dJ3_checkIndex_8e157_15 : decode cJ3_checkIndex_8e157 15 = .ok (.athrow, 1) := by decide +kernel
theorem dJ3_checkIndex_8e157_16 : decode cJ3_checkIndex_8e157 16 = .ok (.iload_n 0, 1) := by decide +kernel
theorem dJ3_checkIndex_8e157_17 : decode cJ3_checkIndex_8e157 17 = .ok (.ireturn, 1) := by decide +kernel
theorem dJ7_copyOf_1904c_0 : decode cJ7_copyOf_1904c 0 = .ok (.aload_n 0, 1) := by decide +kernel
theorem dJ7_copyOf_1904c_1 : decode cJ7_copyOf_1904c 1 = .ok (.iload_n 1, 1) := by decide +kernel
theorem dJ7_copyOf_1904c_2 : decode cJ7_copyOf_1904c 2 = .ok (.aload_n 0, 1) := by decide +kernel
theorem dJ7_copyOf_1904c_3 : decode cJ7_copyOf_1904c 3 = .ok (.invokevirtual 86, 3) := by decide +kernel
theorem dJ7_copyOf_1904c_6 : decode cJ7_copyOf_1904c 6 = .ok (.invokestatic 300, 3) := by decide +kernel
theorem dJ7_copyOf_1904c_9 : decode cJ7_copyOf_1904c 9 = .ok (.areturn, 1) := by decide +kernel
theorem dJ7_copyOf_6403c_0 : decode cJ7_copyOf_6403c 0 = .ok (.aload_n 2, 1) := by decide +kernel
theorem dJ7_copyOf_6403c_1 : decode cJ7_copyOf_6403c 1 = .ok (.ldc 110, 2) := by decide +kernel
theorem dJ7_copyOf_6403c_3 : decode cJ7_copyOf_6403c 3 = .ok (.if_acmp .ne 10, 3) := by decide +kernel
theorem dJ7_copyOf_6403c_6 : decode cJ7_copyOf_6403c 6 = .ok (.iload_n 1, 1) := by decide +kernel
theorem dJ7_copyOf_6403c_7 : decode cJ7_copyOf_6403c 7 = .ok (.anewarray 2, 3) := by decide +kernel
theorem dJ7_copyOf_6403c_10 : decode cJ7_copyOf_6403c 10 = .ok (.goto 14, 3) := by decide +kernel
theorem dJ7_copyOf_6403c_13 : decode cJ7_copyOf_6403c 13 = .ok (.aload_n 2, 1) := by decide +kernel
theorem dJ7_copyOf_6403c_14 : decode cJ7_copyOf_6403c 14 = .ok (.invokevirtual 90, 3) := by decide +kernel
theorem dJ7_copyOf_6403c_17 : decode cJ7_copyOf_6403c 17 = .ok (.iload_n 1, 1) := by decide +kernel
theorem dJ7_copyOf_6403c_18 : decode cJ7_copyOf_6403c 18 = .ok (.invokestatic 95, 3) := by decide +kernel
theorem dJ7_copyOf_6403c_21 : decode cJ7_copyOf_6403c 21 = .ok (.checkcast 110, 3) := by decide +kernel
theorem dJ7_copyOf_6403c_24 : decode cJ7_copyOf_6403c 24 = .ok (.astore_n 3, 1) := by decide +kernel
theorem dJ7_copyOf_6403c_25 : decode cJ7_copyOf_6403c 25 = .ok (.aload_n 0, 1) := by decide +kernel
theorem dJ7_copyOf_6403c_26 : decode cJ7_copyOf_6403c 26 = .ok (.iconst 0, 1) := by decide +kernel
theorem dJ7_copyOf_6403c_27 : decode cJ7_copyOf_6403c 27 = .ok (.aload_n 3, 1) := by decide +kernel
theorem dJ7_copyOf_6403c_28 : decode cJ7_copyOf_6403c 28 = .ok (.iconst 0, 1) := by decide +kernel
theorem dJ7_copyOf_6403c_29 : decode cJ7_copyOf_6403c 29 = .ok (.aload_n 0, 1) := by decide +kernel
theorem dJ7_copyOf_6403c_30 : decode cJ7_copyOf_6403c 30 = .ok (.arraylength, 1) := by decide +kernel
theorem dJ7_copyOf_6403c_31 : decode cJ7_copyOf_6403c 31 = .ok (.iload_n 1, 1) := by decide +kernel
theorem dJ7_copyOf_6403c_32 : decode cJ7_copyOf_6403c 32 = .ok (.invokestatic 304, 3) := by decide +kernel
theorem dJ7_copyOf_6403c_35 : decode cJ7_copyOf_6403c 35 = .ok (.invokestatic 150, 3) := by decide +kernel
theorem dJ7_copyOf_6403c_38 : decode cJ7_copyOf_6403c 38 = .ok (.aload_n 3, 1) := by decide +kernel
theorem dJ7_copyOf_6403c_39 : decode cJ7_copyOf_6403c 39 = .ok (.areturn, 1) := by decide +kernel
theorem dJ8_newLength_cabcc_0 : decode cJ8_newLength_cabcc 0 = .ok (.iload_n 0, 1) := by decide +kernel
theorem dJ8_newLength_cabcc_1 : decode cJ8_newLength_cabcc 1 = .ok (.iload_n 1, 1) := by decide +kernel
theorem dJ8_newLength_cabcc_2 : decode cJ8_newLength_cabcc 2 = .ok (.iload_n 2, 1) := by decide +kernel
theorem dJ8_newLength_cabcc_3 : decode cJ8_newLength_cabcc 3 = .ok (.invokestatic 194, 3) := by decide +kernel
theorem dJ8_newLength_cabcc_6 : decode cJ8_newLength_cabcc 6 = .ok (.iadd, 1) := by decide +kernel
theorem dJ8_newLength_cabcc_7 : decode cJ8_newLength_cabcc 7 = .ok (.istore_n 3, 1) := by decide +kernel
theorem dJ8_newLength_cabcc_8 : decode cJ8_newLength_cabcc 8 = .ok (.iconst 0, 1) := by decide +kernel
theorem dJ8_newLength_cabcc_9 : decode cJ8_newLength_cabcc 9 = .ok (.iload_n 3, 1) := by decide +kernel
theorem dJ8_newLength_cabcc_10 : decode cJ8_newLength_cabcc 10 = .ok (.if_icmp .ge 11, 3) := by decide +kernel
theorem dJ8_newLength_cabcc_13 : decode cJ8_newLength_cabcc 13 = .ok (.iload_n 3, 1) := by decide +kernel
theorem dJ8_newLength_cabcc_14 : decode cJ8_newLength_cabcc 14 = .ok (.ldc 200, 2) := by decide +kernel
theorem dJ8_newLength_cabcc_16 : decode cJ8_newLength_cabcc 16 = .ok (.if_icmp .gt 5, 3) := by decide +kernel
theorem dJ8_newLength_cabcc_19 : decode cJ8_newLength_cabcc 19 = .ok (.iload_n 3, 1) := by decide +kernel
theorem dJ8_newLength_cabcc_20 : decode cJ8_newLength_cabcc 20 = .ok (.ireturn, 1) := by decide +kernel
theorem dJ8_newLength_cabcc_21 : decode cJ8_newLength_cabcc 21 = .ok (.iload_n 0, 1) := by decide +kernel
theorem dJ8_newLength_cabcc_22 : decode cJ8_newLength_cabcc 22 = .ok (.iload_n 1, 1) := by decide +kernel
theorem dJ8_newLength_cabcc_23 : decode cJ8_newLength_cabcc 23 = .ok (.invokestatic 201, 3) := by decide +kernel
theorem dJ8_newLength_cabcc_26 : decode cJ8_newLength_cabcc 26 = .ok (.ireturn, 1) := by decide +kernel
theorem dJ8_hugeLength_7cf53_0 : decode cJ8_hugeLength_7cf53 0 = .ok (.iload_n 0, 1) := by decide +kernel
theorem dJ8_hugeLength_7cf53_1 : decode cJ8_hugeLength_7cf53 1 = .ok (.iload_n 1, 1) := by decide +kernel
theorem dJ8_hugeLength_7cf53_2 : decode cJ8_hugeLength_7cf53 2 = .ok (.iadd, 1) := by decide +kernel
theorem dJ8_hugeLength_7cf53_3 : decode cJ8_hugeLength_7cf53 3 = .ok (.istore_n 2, 1) := by decide +kernel
theorem dJ8_hugeLength_7cf53_4 : decode cJ8_hugeLength_7cf53 4 = .ok (.iload_n 2, 1) := by decide +kernel
theorem dJ8_hugeLength_7cf53_5 : decode cJ8_hugeLength_7cf53 5 = .ok (.ifCond .ge 44, 3) := by decide +kernel
theorem dJ8_hugeLength_7cf53_8 : decode cJ8_hugeLength_7cf53 8 = .ok (.new 204, 3) := by decide +kernel
theorem dJ8_hugeLength_7cf53_11 : decode cJ8_hugeLength_7cf53 11 = .ok (.dup, 1) := by decide +kernel
theorem dJ8_hugeLength_7cf53_12 : decode cJ8_hugeLength_7cf53 12 = .ok (.new 89, 3) := by decide +kernel
theorem dJ8_hugeLength_7cf53_15 : decode cJ8_hugeLength_7cf53 15 = .ok (.dup, 1) := by decide +kernel
theorem dJ8_hugeLength_7cf53_16 : decode cJ8_hugeLength_7cf53 16 = .ok (.invokespecial 91, 3) := by decide +kernel
theorem dJ8_hugeLength_7cf53_19 : decode cJ8_hugeLength_7cf53 19 = .ok (.ldc 206, 2) := by decide +kernel
theorem dJ8_hugeLength_7cf53_21 : decode cJ8_hugeLength_7cf53 21 = .ok (.invokevirtual 94, 3) := by decide +kernel
theorem dJ8_hugeLength_7cf53_24 : decode cJ8_hugeLength_7cf53 24 = .ok (.iload_n 0, 1) := by decide +kernel
theorem dJ8_hugeLength_7cf53_25 : decode cJ8_hugeLength_7cf53 25 = .ok (.invokevirtual 98, 3) := by decide +kernel
theorem dJ8_hugeLength_7cf53_28 : decode cJ8_hugeLength_7cf53 28 = .ok (.ldc 208, 2) := by decide +kernel
theorem dJ8_hugeLength_7cf53_30 : decode cJ8_hugeLength_7cf53 30 = .ok (.invokevirtual 94, 3) := by decide +kernel
theorem dJ8_hugeLength_7cf53_33 : decode cJ8_hugeLength_7cf53 33 = .ok (.iload_n 1, 1) := by decide +kernel
theorem dJ8_hugeLength_7cf53_34 : decode cJ8_hugeLength_7cf53 34 = .ok (.invokevirtual 98, 3) := by decide +kernel
theorem dJ8_hugeLength_7cf53_37 : decode cJ8_hugeLength_7cf53 37 = .ok (.ldc 210, 2) := by decide +kernel
theorem dJ8_hugeLength_7cf53_39 : decode cJ8_hugeLength_7cf53 39 = .ok (.invokevirtual 94, 3) := by decide +kernel
theorem dJ8_hugeLength_7cf53_42 : decode cJ8_hugeLength_7cf53 42 = .ok (.invokevirtual 101, 3) := by decide +kernel
theorem dJ8_hugeLength_7cf53_45 : decode cJ8_hugeLength_7cf53 45 = .ok (.invokespecial 212, 3) := by decide +kernel
theorem dJ8_hugeLength_7cf53_48 : decode cJ8_hugeLength_7cf53 48 = .ok (.athrow, 1) := by decide +kernel
theorem dJ8_hugeLength_7cf53_49 : decode cJ8_hugeLength_7cf53 49 = .ok (.iload_n 2, 1) := by decide +kernel
theorem dJ8_hugeLength_7cf53_50 : decode cJ8_hugeLength_7cf53 50 = .ok (.ldc 200, 2) := by decide +kernel
theorem dJ8_hugeLength_7cf53_52 : decode cJ8_hugeLength_7cf53 52 = .ok (.if_icmp .gt 6, 3) := by decide +kernel
theorem dJ8_hugeLength_7cf53_55 : decode cJ8_hugeLength_7cf53 55 = .ok (.ldc 200, 2) := by decide +kernel
theorem dJ8_hugeLength_7cf53_57 : decode cJ8_hugeLength_7cf53 57 = .ok (.ireturn, 1) := by decide +kernel
theorem dJ8_hugeLength_7cf53_58 : decode cJ8_hugeLength_7cf53 58 = .ok (.iload_n 2, 1) := by decide +kernel
theorem dJ8_hugeLength_7cf53_59 : decode cJ8_hugeLength_7cf53 59 = .ok (.ireturn, 1) := by decide +kernel
theorem dJ9_max_7cf53_0 : decode cJ9_max_7cf53 0 = .ok (.iload_n 0, 1) := by decide +kernel
theorem dJ9_max_7cf53_1 : decode cJ9_max_7cf53 1 = .ok (.iload_n 1, 1) := by decide +kernel
theorem dJ9_max_7cf53_2 : decode cJ9_max_7cf53 2 = .ok (.if_icmp .lt 7, 3) := by decide +kernel
theorem dJ9_max_7cf53_5 : decode cJ9_max_7cf53 5 = .ok (.iload_n 0, 1) := by decide +kernel
theorem dJ9_max_7cf53_6 : decode cJ9_max_7cf53 6 = .ok (.goto 4, 3) := by decide +kernel
theorem dJ9_max_7cf53_9 : decode cJ9_max_7cf53 9 = .ok (.iload_n 1, 1) := by decide +kernel
theorem dJ9_max_7cf53_10 : decode cJ9_max_7cf53 10 = .ok (.ireturn, 1) := by decide +kernel
theorem dJ9_min_7cf53_0 : decode cJ9_min_7cf53 0 = .ok (.iload_n 0, 1) := by decide +kernel
theorem dJ9_min_7cf53_1 : decode cJ9_min_7cf53 1 = .ok (.iload_n 1, 1) := by decide +kernel
theorem dJ9_min_7cf53_2 : decode cJ9_min_7cf53 2 = .ok (.if_icmp .gt 7, 3) := by decide +kernel
theorem dJ9_min_7cf53_5 : decode cJ9_min_7cf53 5 = .ok (.iload_n 0, 1) := by decide +kernel
theorem dJ9_min_7cf53_6 : decode cJ9_min_7cf53 6 = .ok (.goto 4, 3) := by decide +kernel
theorem dJ9_min_7cf53_9 : decode cJ9_min_7cf53 9 = .ok (.iload_n 1, 1) := by decide +kernel
theorem dJ9_min_7cf53_10 : decode cJ9_min_7cf53 10 = .ok (.ireturn, 1) := by decide +kernel
theorem dJx4a65c_init_da8c8_0 : decode cJx4a65c_init_da8c8 0 = .ok (.aload_n 0, 1) := by decide +kernel
theorem dJx4a65c_init_da8c8_1 : decode cJx4a65c_init_da8c8 1 = .ok (.invokespecial 1, 3) := by decide +kernel
theorem dJx4a65c_init_da8c8_4 : decode cJx4a65c_init_da8c8 4 = .ok (.aload_n 0, 1) := by decide +kernel
theorem dJx4a65c_init_da8c8_5 : decode cJx4a65c_init_da8c8 5 = .ok (.getstatic 39, 3) := by decide +kernel
theorem dJx4a65c_init_da8c8_8 : decode cJx4a65c_init_da8c8 8 = .ok (.putfield 9, 3) := by decide +kernel
theorem dJx4a65c_init_da8c8_11 : decode cJx4a65c_init_da8c8 11 = .ok (.return_, 1) := by decide +kernel
theorem dJx4a65c_grow_92f84_0 : decode cJx4a65c_grow_92f84 0 = .ok (.aload_n 0, 1) := by decide +kernel
theorem dJx4a65c_grow_92f84_1 : decode cJx4a65c_grow_92f84 1 = .ok (.getfield 9, 3) := by decide +kernel
theorem dJx4a65c_grow_92f84_4 : decode cJx4a65c_grow_92f84 4 = .ok (.arraylength, 1) := by decide +kernel
theorem dJx4a65c_grow_92f84_5 : decode cJx4a65c_grow_92f84 5 = .ok (.istore_n 2, 1) := by decide +kernel
theorem dJx4a65c_grow_92f84_6 : decode cJx4a65c_grow_92f84 6 = .ok (.iload_n 2, 1) := by decide +kernel
theorem dJx4a65c_grow_92f84_7 : decode cJx4a65c_grow_92f84 7 = .ok (.ifCond .gt 13, 3) := by decide +kernel
theorem dJx4a65c_grow_92f84_10 : decode cJx4a65c_grow_92f84 10 = .ok (.aload_n 0, 1) := by decide +kernel
theorem dJx4a65c_grow_92f84_11 : decode cJx4a65c_grow_92f84 11 = .ok (.getfield 9, 3) := by decide +kernel
theorem dJx4a65c_grow_92f84_14 : decode cJx4a65c_grow_92f84 14 = .ok (.getstatic 39, 3) := by decide +kernel
theorem dJx4a65c_grow_92f84_17 : decode cJx4a65c_grow_92f84 17 = .ok (.if_acmp .eq 28, 3) := by decide +kernel
theorem dJx4a65c_grow_92f84_20 : decode cJx4a65c_grow_92f84 20 = .ok (.iload_n 2, 1) := by decide +kernel
theorem dJx4a65c_grow_92f84_21 : decode cJx4a65c_grow_92f84 21 = .ok (.iload_n 1, 1) := by decide +kernel
theorem dJx4a65c_grow_92f84_22 : decode cJx4a65c_grow_92f84 22 = .ok (.iload_n 2, 1) := by decide +kernel
theorem dJx4a65c_grow_92f84_23 : decode cJx4a65c_grow_92f84 23 = .ok (.isub, 1) := by decide +kernel
theorem dJx4a65c_grow_92f84_24 : decode cJx4a65c_grow_92f84 24 = .ok (.iload_n 2, 1) := by decide +kernel
theorem dJx4a65c_grow_92f84_25 : decode cJx4a65c_grow_92f84 25 = .ok (.iconst 1, 1) := by decide +kernel
theorem dJx4a65c_grow_92f84_26 : decode cJx4a65c_grow_92f84 26 = .ok (.ishr, 1) := by decide +kernel
theorem dJx4a65c_grow_92f84_27 : decode cJx4a65c_grow_92f84 27 = .ok (.invokestatic 73, 3) := by decide +kernel
theorem dJx4a65c_grow_92f84_30 : decode cJx4a65c_grow_92f84 30 = .ok (.istore_n 3, 1) := by decide +kernel
theorem dJx4a65c_grow_92f84_31 : decode cJx4a65c_grow_92f84 31 = .ok (.aload_n 0, 1) := by decide +kernel
theorem dJx4a65c_grow_92f84_32 : decode cJx4a65c_grow_92f84 32 = .ok (.aload_n 0, 1) := by decide +kernel
theorem dJx4a65c_grow_92f84_33 : decode cJx4a65c_grow_92f84 33 = .ok (.getfield 9, 3) := by decide +kernel
theorem dJx4a65c_grow_92f84_36 : decode cJx4a65c_grow_92f84 36 = .ok (.iload_n 3, 1) := by decide +kernel
theorem dJx4a65c_grow_92f84_37 : decode cJx4a65c_grow_92f84 37 = .ok (.invokestatic 66, 3) := by decide +kernel
theorem dJx4a65c_grow_92f84_40 : decode cJx4a65c_grow_92f84 40 = .ok (.dup_x1, 1) := by decide +kernel
theorem dJx4a65c_grow_92f84_41 : decode cJx4a65c_grow_92f84 41 = .ok (.putfield 9, 3) := by decide +kernel
theorem dJx4a65c_grow_92f84_44 : decode cJx4a65c_grow_92f84 44 = .ok (.areturn, 1) := by decide +kernel
theorem dJx4a65c_grow_92f84_45 : decode cJx4a65c_grow_92f84 45 = .ok (.aload_n 0, 1) := by decide +kernel
theorem dJx4a65c_grow_92f84_46 : decode cJx4a65c_grow_92f84 46 = .ok (.bipush 10, 2) := by decide +kernel
theorem dJx4a65c_grow_92f84_48 : decode cJx4a65c_grow_92f84 48 = .ok (.iload_n 1, 1) := by decide +kernel
theorem dJx4a65c_grow_92f84_49 : decode cJx4a65c_grow_92f84 49 = .ok (.invokestatic 79, 3) := by decide +kernel
theorem dJx4a65c_grow_92f84_52 : decode cJx4a65c_grow_92f84 52 = .ok (.anewarray 7, 3) := by decide +kernel
theorem dJx4a65c_grow_92f84_55 : decode cJx4a65c_grow_92f84 55 = .ok (.dup_x1, 1) := by decide +kernel
theorem dJx4a65c_grow_92f84_56 : decode cJx4a65c_grow_92f84 56 = .ok (.putfield 9, 3) := by decide +kernel
theorem dJx4a65c_grow_92f84_59 : decode cJx4a65c_grow_92f84 59 = .ok (.areturn, 1) := by decide +kernel
theorem dJx4a65c_grow_d5877_0 : decode cJx4a65c_grow_d5877 0 = .ok (.aload_n 0, 1) := by decide +kernel
theorem dJx4a65c_grow_d5877_1 : decode cJx4a65c_grow_d5877 1 = .ok (.aload_n 0, 1) := by decide +kernel
theorem dJx4a65c_grow_d5877_2 : decode cJx4a65c_grow_d5877 2 = .ok (.getfield 48, 3) := by decide +kernel
theorem dJx4a65c_grow_d5877_5 : decode cJx4a65c_grow_d5877 5 = .ok (.iconst 1, 1) := by decide +kernel
theorem dJx4a65c_grow_d5877_6 : decode cJx4a65c_grow_d5877 6 = .ok (.iadd, 1) := by decide +kernel
theorem dJx4a65c_grow_d5877_7 : decode cJx4a65c_grow_d5877 7 = .ok (.invokevirtual 69, 3) := by decide +kernel
theorem dJx4a65c_grow_d5877_10 : decode cJx4a65c_grow_d5877 10 = .ok (.areturn, 1) := by decide +kernel
theorem dJx4a65c_size_8abf5_0 : decode cJx4a65c_size_8abf5 0 = .ok (.aload_n 0, 1) := by decide +kernel
theorem dJx4a65c_size_8abf5_1 : decode cJx4a65c_size_8abf5 1 = .ok (.getfield 48, 3) := by decide +kernel
theorem dJx4a65c_size_8abf5_4 : decode cJx4a65c_size_8abf5 4 = .ok (.ireturn, 1) := by decide +kernel
theorem dJx4a65c_elementData_915e3_0 : decode cJx4a65c_elementData_915e3 0 = .ok (.aload_n 0, 1) := by decide +kernel
theorem dJx4a65c_elementData_915e3_1 : decode cJx4a65c_elementData_915e3 1 = .ok (.getfield 9, 3) := by decide +kernel
theorem dJx4a65c_elementData_915e3_4 : decode cJx4a65c_elementData_915e3 4 = .ok (.iload_n 1, 1) := by decide +kernel
theorem dJx4a65c_elementData_915e3_5 : decode cJx4a65c_elementData_915e3 5 = .ok (.aaload, 1) := by decide +kernel
theorem dJx4a65c_elementData_915e3_6 : decode cJx4a65c_elementData_915e3 6 = .ok (.areturn, 1) := by decide +kernel
theorem dJx4a65c_get_915e3_0 : decode cJx4a65c_get_915e3 0 = .ok (.iload_n 1, 1) := by decide +kernel
theorem dJx4a65c_get_915e3_1 : decode cJx4a65c_get_915e3 1 = .ok (.aload_n 0, 1) := by decide +kernel
theorem dJx4a65c_get_915e3_2 : decode cJx4a65c_get_915e3 2 = .ok (.getfield 48, 3) := by decide +kernel
theorem dJx4a65c_get_915e3_5 : decode cJx4a65c_get_915e3 5 = .ok (.invokestatic 118, 3) := by decide +kernel
theorem dJx4a65c_get_915e3_8 : decode cJx4a65c_get_915e3 8 = .ok (.pop, 1) := by decide +kernel
theorem dJx4a65c_get_915e3_9 : decode cJx4a65c_get_915e3 9 = .ok (.aload_n 0, 1) := by decide +kernel
theorem dJx4a65c_get_915e3_10 : decode cJx4a65c_get_915e3 10 = .ok (.iload_n 1, 1) := by decide +kernel
theorem dJx4a65c_get_915e3_11 : decode cJx4a65c_get_915e3 11 = .ok (.invokevirtual 123, 3) := by decide +kernel
theorem dJx4a65c_get_915e3_14 : decode cJx4a65c_get_915e3 14 = .ok (.areturn, 1) := by decide +kernel
theorem dJx4a65c_add_72be8_0 : decode cJx4a65c_add_72be8 0 = .ok (.iload_n 3, 1) := by decide +kernel
theorem dJx4a65c_add_72be8_1 : decode cJx4a65c_add_72be8 1 = .ok (.aload_n 2, 1) := by decide +kernel
theorem dJx4a65c_add_72be8_2 : decode cJx4a65c_add_72be8 2 = .ok (.arraylength, 1) := by decide +kernel
theorem dJx4a65c_add_72be8_3 : decode cJx4a65c_add_72be8 3 = .ok (.if_icmp .ne 8, 3) := by decide +kernel
theorem dJx4a65c_add_72be8_6 : decode cJx4a65c_add_72be8 6 = .ok (.aload_n 0, 1) := by decide +kernel
theorem dJx4a65c_add_72be8_7 : decode cJx4a65c_add_72be8 7 = .ok (.invokevirtual 129, 3) := by decide +kernel
theorem dJx4a65c_add_72be8_10 : decode cJx4a65c_add_72be8 10 = .ok (.astore_n 2, 1) := by decide +kernel
theorem dJx4a65c_add_72be8_11 : decode cJx4a65c_add_72be8 11 = .ok (.aload_n 2, 1) := by decide +kernel
theorem dJx4a65c_add_72be8_12 : decode cJx4a65c_add_72be8 12 = .ok (.iload_n 3, 1) := by decide +kernel
theorem dJx4a65c_add_72be8_13 : decode cJx4a65c_add_72be8 13 = .ok (.aload_n 1, 1) := by decide +kernel
theorem dJx4a65c_add_72be8_14 : decode cJx4a65c_add_72be8 14 = .ok (.aastore, 1) := by decide +kernel
theorem dJx4a65c_add_72be8_15 : decode cJx4a65c_add_72be8 15 = .ok (.aload_n 0, 1) := by decide +kernel
theorem dJx4a65c_add_72be8_16 : decode cJx4a65c_add_72be8 16 = .ok (.iload_n 3, 1) := by decide +kernel
theorem dJx4a65c_add_72be8_17 : decode cJx4a65c_add_72be8 17 = .ok (.iconst 1, 1) := by decide +kernel
theorem dJx4a65c_add_72be8_18 : decode cJx4a65c_add_72be8 18 = .ok (.iadd, 1) := by decide +kernel
theorem dJx4a65c_add_72be8_19 : decode cJx4a65c_add_72be8 19 = .ok (.putfield 48, 3) := by decide +kernel
theorem dJx4a65c_add_72be8_22 : decode cJx4a65c_add_72be8 22 = .ok (.return_, 1) := by decide +kernel
theorem dJx4a65c_add_9ea2d_0 : decode cJx4a65c_add_9ea2d 0 = .ok (.aload_n 0, 1) := by decide +kernel
theorem dJx4a65c_add_9ea2d_1 : decode cJx4a65c_add_9ea2d 1 = .ok (.dup, 1) := by decide +kernel
theorem dJx4a65c_add_9ea2d_2 : decode cJx4a65c_add_9ea2d 2 = .ok (.getfield 63, 3) := by decide +kernel
theorem dJx4a65c_add_9ea2d_5 : decode cJx4a65c_add_9ea2d 5 = .ok (.iconst 1, 1) := by decide +kernel
theorem dJx4a65c_add_9ea2d_6 : decode cJx4a65c_add_9ea2d 6 = .ok (.iadd, 1) := by decide +kernel
theorem dJx4a65c_add_9ea2d_7 : decode cJx4a65c_add_9ea2d 7 = .ok (.putfield 63, 3) := by decide +kernel
theorem dJx4a65c_add_9ea2d_10 : decode cJx4a65c_add_9ea2d 10 = .ok (.aload_n 0, 1) := by decide +kernel
theorem dJx4a65c_add_9ea2d_11 : decode cJx4a65c_add_9ea2d 11 = .ok (.aload_n 1, 1) := by decide +kernel
theorem dJx4a65c_add_9ea2d_12 : decode cJx4a65c_add_9ea2d 12 = .ok (.aload_n 0, 1) := by decide +kernel
theorem dJx4a65c_add_9ea2d_13 : decode cJx4a65c_add_9ea2d 13 = .ok (.getfield 9, 3) := by decide +kernel
theorem dJx4a65c_add_9ea2d_16 : decode cJx4a65c_add_9ea2d 16 = .ok (.aload_n 0, 1) := by decide +kernel
theorem dJx4a65c_add_9ea2d_17 : decode cJx4a65c_add_9ea2d 17 = .ok (.getfield 48, 3) := by decide +kernel
theorem dJx4a65c_add_9ea2d_20 : decode cJx4a65c_add_9ea2d 20 = .ok (.invokevirtual 131, 3) := by decide +kernel
theorem dJx4a65c_add_9ea2d_23 : decode cJx4a65c_add_9ea2d 23 = .ok (.iconst 1, 1) := by decide +kernel
theorem dJx4a65c_add_9ea2d_24 : decode cJx4a65c_add_9ea2d 24 = .ok (.ireturn, 1) := by decide +kernel
theorem dJxa1e45_init_da8c8_0 : decode cJxa1e45_init_da8c8 0 = .ok (.aload_n 0, 1) := by decide +kernel
theorem dJxa1e45_init_da8c8_1 : decode cJxa1e45_init_da8c8 1 = .ok (.invokespecial 1, 3) := by decide +kernel
theorem dJxa1e45_init_da8c8_4 : decode cJxa1e45_init_da8c8 4 = .ok (.return_, 1) := by decide +kernel
theorem dJxc12de_init_da8c8_0 : decode cJxc12de_init_da8c8 0 = .ok (.aload_n 0, 1) := by decide +kernel
theorem dJxc12de_init_da8c8_1 : decode cJxc12de_init_da8c8 1 = .ok (.invokespecial 1, 3) := by decide +kernel
theorem dJxc12de_init_da8c8_4 : decode cJxc12de_init_da8c8 4 = .ok (.aload_n 0, 1) := by decide +kernel
theorem dJxc12de_init_da8c8_5 : decode cJxc12de_init_da8c8 5 = .ok (.iconst 0, 1) := by decide +kernel
theorem dJxc12de_init_da8c8_6 : decode cJxc12de_init_da8c8 6 = .ok (.putfield 7, 3) := by decide +kernel
theorem dJxc12de_init_da8c8_9 : decode cJxc12de_init_da8c8 9 = .ok (.return_, 1) := by decide +kernel
theorem dX0_init_0 : decode cX0_init 0 = .ok (.aload_n 0, 1) := by decide +kernel
theorem dX0_init_1 : decode cX0_init 1 = .ok (.invokespecial 1, 3) := by decide +kernel
theorem dX0_init_4 : decode cX0_init 4 = .ok (.aload_n 0, 1) := by decide +kernel
theorem dX0_init_5 : decode cX0_init 5 = .ok (.new 7, 3) := by decide +kernel
theorem dX0_init_8 : decode cX0_init 8 = .ok (.dup, 1) := by decide +kernel
theorem dX0_init_9 : decode cX0_init 9 = .ok (.invokespecial 9, 3) := by decide +kernel
theorem dX0_init_12 : decode cX0_init 12 = .ok (.putfield 10, 3) := by decide +kernel
theorem dX0_init_15 : decode cX0_init 15 = .ok (.aload_n 0, 1) := by decide +kernel
theorem dX0_init_16 : decode cX0_init 16 = .ok (.aload_n 1, 1) := by decide +kernel
theorem dX0_init_17 : decode cX0_init 17 = .ok (.putfield 16, 3) := by decide +kernel
theorem dX0_init_20 : decode cX0_init 20 = .ok (.return_, 1) := by decide +kernel
theorem dX0_refuses_0 : decode cX0_refuses 0 = .ok (.iconst 0, 1) := by decide +kernel
theorem dX0_refuses_1 : decode cX0_refuses 1 = .ok (.istore_n 3, 1) := by decide +kernel
theorem dX0_refuses_2 : decode cX0_refuses 2 = .ok (.iconst 0, 1) := by decide +kernel
theorem dX0_refuses_3 : decode cX0_refuses 3 = .ok (.istore 4, 2) := by decide +kernel
theorem dX0_refuses_5 : decode cX0_refuses 5 = .ok (.iconst 0, 1) := by decide +kernel
theorem dX0_refuses_6 : decode cX0_refuses 6 = .ok (.istore 5, 2) := by decide +kernel
theorem dX0_refuses_8 : decode cX0_refuses 8 = .ok (.iload 5, 2) := by decide +kernel
theorem dX0_refuses_10 : decode cX0_refuses 10 = .ok (.aload_n 0, 1) := by decide +kernel
theorem dX0_refuses_11 : decode cX0_refuses 11 = .ok (.getfield 10, 3) := by decide +kernel
theorem dX0_refuses_14 : decode cX0_refuses 14 = .ok (.invokevirtual 20, 3) := by decide +kernel
theorem dX0_refuses_17 : decode cX0_refuses 17 = .ok (.if_icmp .ge 56, 3) := by decide +kernel
theorem dX0_refuses_20 : decode cX0_refuses 20 = .ok (.aload_n 0, 1) := by decide +kernel
theorem dX0_refuses_21 : decode cX0_refuses 21 = .ok (.getfield 10, 3) := by decide +kernel
theorem dX0_refuses_24 : decode cX0_refuses 24 = .ok (.iload 5, 2) := by decide +kernel
theorem dX0_refuses_26 : decode cX0_refuses 26 = .ok (.invokevirtual 24, 3) := by decide +kernel
theorem dX0_refuses_29 : decode cX0_refuses 29 = .ok (.checkcast 28, 3) := by decide +kernel
theorem dX0_refuses_32 : decode cX0_refuses 32 = .ok (.astore 6, 2) := by decide +kernel
theorem dX0_refuses_34 : decode cX0_refuses 34 = .ok (.aload 6, 2) := by decide +kernel
theorem dX0_refuses_36 : decode cX0_refuses 36 = .ok (.getfield 30, 3) := by decide +kernel
theorem dX0_refuses_39 : decode cX0_refuses 39 = .ok (.iload_n 1, 1) := by decide +kernel
theorem dX0_refuses_40 : decode cX0_refuses 40 = .ok (.if_icmp .gt 27, 3) := by decide +kernel
theorem dX0_refuses_43 : decode cX0_refuses 43 = .ok (.aload 6, 2) := by decide +kernel
theorem dX0_refuses_45 : decode cX0_refuses 45 = .ok (.getfield 30, 3) := by decide +kernel
theorem dX0_refuses_48 : decode cX0_refuses 48 = .ok (.iload 4, 2) := by decide +kernel
theorem dX0_refuses_50 : decode cX0_refuses 50 = .ok (.if_icmp .lt 17, 3) := by decide +kernel
theorem dX0_refuses_53 : decode cX0_refuses 53 = .ok (.aload 6, 2) := by decide +kernel
theorem dX0_refuses_55 : decode cX0_refuses 55 = .ok (.getfield 30, 3) := by decide +kernel
theorem dX0_refuses_58 : decode cX0_refuses 58 = .ok (.istore 4, 2) := by decide +kernel
theorem dX0_refuses_60 : decode cX0_refuses 60 = .ok (.aload 6, 2) := by decide +kernel
theorem dX0_refuses_62 : decode cX0_refuses 62 = .ok (.aload_n 2, 1) := by decide +kernel
theorem dX0_refuses_63 : decode cX0_refuses 63 = .ok (.invokevirtual 34, 3) := by decide +kernel
theorem dX0_refuses_66 : decode cX0_refuses 66 = .ok (.istore_n 3, 1) := by decide +kernel
theorem dX0_refuses_67 : decode cX0_refuses 67 = .ok (.iinc 5 1, 3) := by decide +kernel
theorem dX0_refuses_70 : decode cX0_refuses 70 = .ok (.goto (-62), 3) := by decide +kernel
theorem dX0_refuses_73 : decode cX0_refuses 73 = .ok (.iload_n 3, 1) := by decide +kernel
theorem dX0_refuses_74 : decode cX0_refuses 74 = .ok (.ireturn, 1) := by decide +kernel
theorem dX1_init_0 : decode cX1_init 0 = .ok (.aload_n 0, 1) := by decide +kernel
theorem dX1_init_1 : decode cX1_init 1 = .ok (.invokespecial 5, 3) := by decide +kernel
theorem dX1_init_4 : decode cX1_init 4 = .ok (.return_, 1) := by decide +kernel
theorem dX1_start_0 : decode cX1_start 0 = .ok (.aload_n 0, 1) := by decide +kernel
theorem dX1_start_1 : decode cX1_start 1 = .ok (.bipush 8, 2) := by decide +kernel
theorem dX1_start_3 : decode cX1_start 3 = .ok (.putfield 11, 3) := by decide +kernel
theorem dX1_start_6 : decode cX1_start 6 = .ok (.aload_n 0, 1) := by decide +kernel
theorem dX1_start_7 : decode cX1_start 7 = .ok (.aload_n 1, 1) := by decide +kernel
theorem dX1_start_8 : decode cX1_start 8 = .ok (.iconst 0, 1) := by decide +kernel
theorem dX1_start_9 : decode cX1_start 9 = .ok (.invokevirtual 15, 3) := by decide +kernel
theorem dX1_start_12 : decode cX1_start 12 = .ok (.putfield 21, 3) := by decide +kernel
theorem dX1_start_15 : decode cX1_start 15 = .ok (.aload_n 0, 1) := by decide +kernel
theorem dX1_start_16 : decode cX1_start 16 = .ok (.iconst 0, 1) := by decide +kernel
theorem dX1_start_17 : decode cX1_start 17 = .ok (.putfield 24, 3) := by decide +kernel
theorem dX1_start_20 : decode cX1_start 20 = .ok (.aload_n 0, 1) := by decide +kernel
theorem dX1_start_21 : decode cX1_start 21 = .ok (.iconst 1, 1) := by decide +kernel
theorem dX1_start_22 : decode cX1_start 22 = .ok (.putfield 27, 3) := by decide +kernel
theorem dX1_start_25 : decode cX1_start 25 = .ok (.aload_n 0, 1) := by decide +kernel
theorem dX1_start_26 : decode cX1_start 26 = .ok (.iconst 1, 1) := by decide +kernel
theorem dX1_start_27 : decode cX1_start 27 = .ok (.putfield 31, 3) := by decide +kernel
theorem dX1_start_30 : decode cX1_start 30 = .ok (.aload_n 0, 1) := by decide +kernel
theorem dX1_start_31 : decode cX1_start 31 = .ok (.iconst 0, 1) := by decide +kernel
theorem dX1_start_32 : decode cX1_start 32 = .ok (.putfield 34, 3) := by decide +kernel
theorem dX1_start_35 : decode cX1_start 35 = .ok (.aload_n 0, 1) := by decide +kernel
theorem dX1_start_36 : decode cX1_start 36 = .ok (.iconst 0, 1) := by decide +kernel
theorem dX1_start_37 : decode cX1_start 37 = .ok (.putfield 37, 3) := by decide +kernel
theorem dX1_start_40 : decode cX1_start 40 = .ok (.aload_n 0, 1) := by decide +kernel
theorem dX1_start_41 : decode cX1_start 41 = .ok (.iconst 0, 1) := by decide +kernel
theorem dX1_start_42 : decode cX1_start 42 = .ok (.putfield 40, 3) := by decide +kernel
theorem dX1_start_45 : decode cX1_start 45 = .ok (.aload_n 0, 1) := by decide +kernel
theorem dX1_start_46 : decode cX1_start 46 = .ok (.iconst 0, 1) := by decide +kernel
theorem dX1_start_47 : decode cX1_start 47 = .ok (.putfield 43, 3) := by decide +kernel
theorem dX1_start_50 : decode cX1_start 50 = .ok (.aload_n 0, 1) := by decide +kernel
theorem dX1_start_51 : decode cX1_start 51 = .ok (.iconst 0, 1) := by decide +kernel
theorem dX1_start_52 : decode cX1_start 52 = .ok (.putfield 46, 3) := by decide +kernel
theorem dX1_start_55 : decode cX1_start 55 = .ok (.aload_n 0, 1) := by decide +kernel
theorem dX1_start_56 : decode cX1_start 56 = .ok (.iconst 0, 1) := by decide +kernel
theorem dX1_start_57 : decode cX1_start 57 = .ok (.putfield 49, 3) := by decide +kernel
theorem dX1_start_60 : decode cX1_start 60 = .ok (.aload_n 0, 1) := by decide +kernel
theorem dX1_start_61 : decode cX1_start 61 = .ok (.iconst 0, 1) := by decide +kernel
theorem dX1_start_62 : decode cX1_start 62 = .ok (.putfield 52, 3) := by decide +kernel
theorem dX1_start_65 : decode cX1_start 65 = .ok (.return_, 1) := by decide +kernel
theorem dX1_isOver_0 : decode cX1_isOver 0 = .ok (.aload_n 0, 1) := by decide +kernel
theorem dX1_isOver_1 : decode cX1_isOver 1 = .ok (.getfield 52, 3) := by decide +kernel
theorem dX1_isOver_4 : decode cX1_isOver 4 = .ok (.ifCond .eq 7, 3) := by decide +kernel
theorem dX1_isOver_7 : decode cX1_isOver 7 = .ok (.iconst 1, 1) := by decide +kernel
theorem dX1_isOver_8 : decode cX1_isOver 8 = .ok (.goto 4, 3) := by decide +kernel
theorem dX1_isOver_11 : decode cX1_isOver 11 = .ok (.iconst 0, 1) := by decide +kernel
theorem dX1_isOver_12 : decode cX1_isOver 12 = .ok (.ireturn, 1) := by decide +kernel
theorem dX1_isHome_0 : decode cX1_isHome 0 = .ok (.aload_n 0, 1) := by decide +kernel
theorem dX1_isHome_1 : decode cX1_isHome 1 = .ok (.getfield 52, 3) := by decide +kernel
theorem dX1_isHome_4 : decode cX1_isHome 4 = .ok (.iconst 1, 1) := by decide +kernel
theorem dX1_isHome_5 : decode cX1_isHome 5 = .ok (.if_icmp .ne 7, 3) := by decide +kernel
theorem dX1_isHome_8 : decode cX1_isHome 8 = .ok (.iconst 1, 1) := by decide +kernel
theorem dX1_isHome_9 : decode cX1_isHome 9 = .ok (.goto 4, 3) := by decide +kernel
theorem dX1_isHome_12 : decode cX1_isHome 12 = .ok (.iconst 0, 1) := by decide +kernel
theorem dX1_isHome_13 : decode cX1_isHome 13 = .ok (.ireturn, 1) := by decide +kernel
theorem dX1_tick_0 : decode cX1_tick 0 = .ok (.iload_n 2, 1) := by decide +kernel
theorem dX1_tick_1 : decode cX1_tick 1 = .ok (.aload_n 0, 1) := by decide +kernel
theorem dX1_tick_2 : decode cX1_tick 2 = .ok (.getfield 34, 3) := by decide +kernel
theorem dX1_tick_5 : decode cX1_tick 5 = .ok (.iconst (-1), 1) := by decide +kernel
theorem dX1_tick_6 : decode cX1_tick 6 = .ok (.ixor, 1) := by decide +kernel
theorem dX1_tick_7 : decode cX1_tick 7 = .ok (.iand, 1) := by decide +kernel
theorem dX1_tick_8 : decode cX1_tick 8 = .ok (.istore_n 3, 1) := by decide +kernel
theorem dX1_tick_9 : decode cX1_tick 9 = .ok (.aload_n 0, 1) := by decide +kernel
theorem dX1_tick_10 : decode cX1_tick 10 = .ok (.iload_n 2, 1) := by decide +kernel
theorem dX1_tick_11 : decode cX1_tick 11 = .ok (.putfield 34, 3) := by decide +kernel
theorem dX1_tick_14 : decode cX1_tick 14 = .ok (.aload_n 0, 1) := by decide +kernel
theorem dX1_tick_15 : decode cX1_tick 15 = .ok (.iload_n 2, 1) := by decide +kernel
theorem dX1_tick_16 : decode cX1_tick 16 = .ok (.iload_n 3, 1) := by decide +kernel
theorem dX1_tick_17 : decode cX1_tick 17 = .ok (.bipush 8, 2) := by decide +kernel
theorem dX1_tick_19 : decode cX1_tick 19 = .ok (.iand, 1) := by decide +kernel
theorem dX1_tick_20 : decode cX1_tick 20 = .ok (.ifCond .eq 7, 3) := by decide +kernel
theorem dX1_tick_23 : decode cX1_tick 23 = .ok (.iconst 1, 1) := by decide +kernel
theorem dX1_tick_24 : decode cX1_tick 24 = .ok (.goto 4, 3) := by decide +kernel
theorem dX1_tick_27 : decode cX1_tick 27 = .ok (.iconst 0, 1) := by decide +kernel
theorem dX1_tick_28 : decode cX1_tick 28 = .ok (.invokevirtual 55, 3) := by decide +kernel
theorem dX1_tick_31 : decode cX1_tick 31 = .ok (.istore 4, 2) := by decide +kernel
theorem dX1_tick_33 : decode cX1_tick 33 = .ok (.iload_n 3, 1) := by decide +kernel
theorem dX1_tick_34 : decode cX1_tick 34 = .ok (.iconst 4, 1) := by decide +kernel
theorem dX1_tick_35 : decode cX1_tick 35 = .ok (.iand, 1) := by decide +kernel
theorem dX1_tick_36 : decode cX1_tick 36 = .ok (.ifCond .eq 31, 3) := by decide +kernel
theorem dX1_tick_39 : decode cX1_tick 39 = .ok (.aload_n 0, 1) := by decide +kernel
theorem dX1_tick_40 : decode cX1_tick 40 = .ok (.getfield 27, 3) := by decide +kernel
theorem dX1_tick_43 : decode cX1_tick 43 = .ok (.ifCond .eq 24, 3) := by decide +kernel
theorem dX1_tick_46 : decode cX1_tick 46 = .ok (.aload_n 0, 1) := by decide +kernel
theorem dX1_tick_47 : decode cX1_tick 47 = .ok (.bipush 14, 2) := by decide +kernel
theorem dX1_tick_49 : decode cX1_tick 49 = .ok (.putfield 24, 3) := by decide +kernel
theorem dX1_tick_52 : decode cX1_tick 52 = .ok (.aload_n 0, 1) := by decide +kernel
theorem dX1_tick_53 : decode cX1_tick 53 = .ok (.iconst 0, 1) := by decide +kernel
theorem dX1_tick_54 : decode cX1_tick 54 = .ok (.putfield 27, 3) := by decide +kernel
theorem dX1_tick_57 : decode cX1_tick 57 = .ok (.aload_n 0, 1) := by decide +kernel
theorem dX1_tick_58 : decode cX1_tick 58 = .ok (.dup, 1) := by decide +kernel
theorem dX1_tick_59 : decode cX1_tick 59 = .ok (.getfield 43, 3) := by decide +kernel
theorem dX1_tick_62 : decode cX1_tick 62 = .ok (.iconst 1, 1) := by decide +kernel
theorem dX1_tick_63 : decode cX1_tick 63 = .ok (.iadd, 1) := by decide +kernel
theorem dX1_tick_64 : decode cX1_tick 64 = .ok (.putfield 43, 3) := by decide +kernel
theorem dX1_tick_67 : decode cX1_tick 67 = .ok (.aload_n 0, 1) := by decide +kernel
theorem dX1_tick_68 : decode cX1_tick 68 = .ok (.aload_n 1, 1) := by decide +kernel
theorem dX1_tick_69 : decode cX1_tick 69 = .ok (.iload 4, 2) := by decide +kernel
theorem dX1_tick_71 : decode cX1_tick 71 = .ok (.invokevirtual 59, 3) := by decide +kernel
theorem dX1_tick_74 : decode cX1_tick 74 = .ok (.aload_n 0, 1) := by decide +kernel
theorem dX1_tick_75 : decode cX1_tick 75 = .ok (.aload_n 1, 1) := by decide +kernel
theorem dX1_tick_76 : decode cX1_tick 76 = .ok (.invokevirtual 63, 3) := by decide +kernel
theorem dX1_tick_79 : decode cX1_tick 79 = .ok (.aload_n 0, 1) := by decide +kernel
theorem dX1_tick_80 : decode cX1_tick 80 = .ok (.getfield 27, 3) := by decide +kernel
theorem dX1_tick_83 : decode cX1_tick 83 = .ok (.ifCond .eq 8, 3) := by decide +kernel
theorem dX1_tick_86 : decode cX1_tick 86 = .ok (.aload_n 0, 1) := by decide +kernel
theorem dX1_tick_87 : decode cX1_tick 87 = .ok (.iconst 1, 1) := by decide +kernel
theorem dX1_tick_88 : decode cX1_tick 88 = .ok (.putfield 31, 3) := by decide +kernel
theorem dX1_tick_91 : decode cX1_tick 91 = .ok (.aload_n 0, 1) := by decide +kernel
theorem dX1_tick_92 : decode cX1_tick 92 = .ok (.aload_n 1, 1) := by decide +kernel
theorem dX1_tick_93 : decode cX1_tick 93 = .ok (.invokevirtual 67, 3) := by decide +kernel
theorem dX1_tick_96 : decode cX1_tick 96 = .ok (.aload_n 0, 1) := by decide +kernel
theorem dX1_tick_97 : decode cX1_tick 97 = .ok (.dup, 1) := by decide +kernel
theorem dX1_tick_98 : decode cX1_tick 98 = .ok (.getfield 49, 3) := by decide +kernel
theorem dX1_tick_101 : decode cX1_tick 101 = .ok (.iconst 1, 1) := by decide +kernel
theorem dX1_tick_102 : decode cX1_tick 102 = .ok (.iadd, 1) := by decide +kernel
theorem dX1_tick_103 : decode cX1_tick 103 = .ok (.putfield 49, 3) := by decide +kernel
theorem dX1_tick_106 : decode cX1_tick 106 = .ok (.aload_n 0, 1) := by decide +kernel
theorem dX1_tick_107 : decode cX1_tick 107 = .ok (.aload_n 1, 1) := by decide +kernel
theorem dX1_tick_108 : decode cX1_tick 108 = .ok (.invokevirtual 70, 3) := by decide +kernel
theorem dX1_tick_111 : decode cX1_tick 111 = .ok (.return_, 1) := by decide +kernel
theorem dX1_columnHere_0 : decode cX1_columnHere 0 = .ok (.aload_n 0, 1) := by decide +kernel
theorem dX1_columnHere_1 : decode cX1_columnHere 1 = .ok (.getfield 11, 3) := by decide +kernel
theorem dX1_columnHere_4 : decode cX1_columnHere 4 = .ok (.bipush 16, 2) := by decide +kernel
theorem dX1_columnHere_6 : decode cX1_columnHere 6 = .ok (.idiv, 1) := by decide +kernel
theorem dX1_columnHere_7 : decode cX1_columnHere 7 = .ok (.ireturn, 1) := by decide +kernel
theorem dX1_choose_0 : decode cX1_choose 0 = .ok (.iconst 0, 1) := by decide +kernel
theorem dX1_choose_1 : decode cX1_choose 1 = .ok (.istore_n 3, 1) := by decide +kernel
theorem dX1_choose_2 : decode cX1_choose 2 = .ok (.iload_n 1, 1) := by decide +kernel
theorem dX1_choose_3 : decode cX1_choose 3 = .ok (.iconst 2, 1) := by decide +kernel
theorem dX1_choose_4 : decode cX1_choose 4 = .ok (.iand, 1) := by decide +kernel
theorem dX1_choose_5 : decode cX1_choose 5 = .ok (.ifCond .eq 6, 3) := by decide +kernel
theorem dX1_choose_8 : decode cX1_choose 8 = .ok (.iinc 3 4, 3) := by decide +kernel
theorem dX1_choose_11 : decode cX1_choose 11 = .ok (.iload_n 1, 1) := by decide +kernel
theorem dX1_choose_12 : decode cX1_choose 12 = .ok (.iconst 1, 1) := by decide +kernel
theorem dX1_choose_13 : decode cX1_choose 13 = .ok (.iand, 1) := by decide +kernel
theorem dX1_choose_14 : decode cX1_choose 14 = .ok (.ifCond .eq 6, 3) := by decide +kernel
theorem dX1_choose_17 : decode cX1_choose 17 = .ok (.iinc 3 (-4), 3) := by decide +kernel
theorem dX1_choose_20 : decode cX1_choose 20 = .ok (.iload_n 2, 1) := by decide +kernel
theorem dX1_choose_21 : decode cX1_choose 21 = .ok (.ifCond .eq 33, 3) := by decide +kernel
theorem dX1_choose_24 : decode cX1_choose 24 = .ok (.iload_n 3, 1) := by decide +kernel
theorem dX1_choose_25 : decode cX1_choose 25 = .ok (.ifCond .eq 29, 3) := by decide +kernel
theorem dX1_choose_28 : decode cX1_choose 28 = .ok (.aload_n 0, 1) := by decide +kernel
theorem dX1_choose_29 : decode cX1_choose 29 = .ok (.getfield 31, 3) := by decide +kernel
theorem dX1_choose_32 : decode cX1_choose 32 = .ok (.ifCond .eq 22, 3) := by decide +kernel
theorem dX1_choose_35 : decode cX1_choose 35 = .ok (.iload_n 3, 1) := by decide +kernel
theorem dX1_choose_36 : decode cX1_choose 36 = .ok (.iconst 5, 1) := by decide +kernel
theorem dX1_choose_37 : decode cX1_choose 37 = .ok (.imul, 1) := by decide +kernel
theorem dX1_choose_38 : decode cX1_choose 38 = .ok (.istore_n 3, 1) := by decide +kernel
theorem dX1_choose_39 : decode cX1_choose 39 = .ok (.aload_n 0, 1) := by decide +kernel
theorem dX1_choose_40 : decode cX1_choose 40 = .ok (.iconst 0, 1) := by decide +kernel
theorem dX1_choose_41 : decode cX1_choose 41 = .ok (.putfield 31, 3) := by decide +kernel
theorem dX1_choose_44 : decode cX1_choose 44 = .ok (.aload_n 0, 1) := by decide +kernel
theorem dX1_choose_45 : decode cX1_choose 45 = .ok (.dup, 1) := by decide +kernel
theorem dX1_choose_46 : decode cX1_choose 46 = .ok (.getfield 46, 3) := by decide +kernel
theorem dX1_choose_49 : decode cX1_choose 49 = .ok (.iconst 2, 1) := by decide +kernel
theorem dX1_choose_50 : decode cX1_choose 50 = .ok (.ior, 1) := by decide +kernel
theorem dX1_choose_51 : decode cX1_choose 51 = .ok (.putfield 46, 3) := by decide +kernel
theorem dX1_choose_54 : decode cX1_choose 54 = .ok (.iload_n 3, 1) := by decide +kernel
theorem dX1_choose_55 : decode cX1_choose 55 = .ok (.ifCond .ge 13, 3) := by decide +kernel
theorem dX1_choose_58 : decode cX1_choose 58 = .ok (.aload_n 0, 1) := by decide +kernel
theorem dX1_choose_59 : decode cX1_choose 59 = .ok (.dup, 1) := by decide +kernel
theorem dX1_choose_60 : decode cX1_choose 60 = .ok (.getfield 46, 3) := by decide +kernel
theorem dX1_choose_63 : decode cX1_choose 63 = .ok (.iconst 1, 1) := by decide +kernel
theorem dX1_choose_64 : decode cX1_choose 64 = .ok (.ior, 1) := by decide +kernel
theorem dX1_choose_65 : decode cX1_choose 65 = .ok (.putfield 46, 3) := by decide +kernel
theorem dX1_choose_68 : decode cX1_choose 68 = .ok (.iload_n 3, 1) := by decide +kernel
theorem dX1_choose_69 : decode cX1_choose 69 = .ok (.ireturn, 1) := by decide +kernel
theorem dX1_go_0 : decode cX1_go 0 = .ok (.iconst 0, 1) := by decide +kernel
theorem dX1_go_1 : decode cX1_go 1 = .ok (.sipush 511, 3) := by decide +kernel
theorem dX1_go_4 : decode cX1_go 4 = .ok (.aload_n 0, 1) := by decide +kernel
theorem dX1_go_5 : decode cX1_go 5 = .ok (.getfield 11, 3) := by decide +kernel
theorem dX1_go_8 : decode cX1_go 8 = .ok (.iload_n 2, 1) := by decide +kernel
theorem dX1_go_9 : decode cX1_go 9 = .ok (.iadd, 1) := by decide +kernel
theorem dX1_go_10 : decode cX1_go 10 = .ok (.invokestatic 73, 3) := by decide +kernel
theorem dX1_go_13 : decode cX1_go 13 = .ok (.invokestatic 79, 3) := by decide +kernel
theorem dX1_go_16 : decode cX1_go 16 = .ok (.istore_n 3, 1) := by decide +kernel
theorem dX1_go_17 : decode cX1_go 17 = .ok (.aload_n 0, 1) := by decide +kernel
theorem dX1_go_18 : decode cX1_go 18 = .ok (.invokevirtual 82, 3) := by decide +kernel
theorem dX1_go_21 : decode cX1_go 21 = .ok (.istore 4, 2) := by decide +kernel
theorem dX1_go_23 : decode cX1_go 23 = .ok (.iload_n 3, 1) := by decide +kernel
theorem dX1_go_24 : decode cX1_go 24 = .ok (.bipush 16, 2) := by decide +kernel
theorem dX1_go_26 : decode cX1_go 26 = .ok (.idiv, 1) := by decide +kernel
theorem dX1_go_27 : decode cX1_go 27 = .ok (.istore 5, 2) := by decide +kernel
theorem dX1_go_29 : decode cX1_go 29 = .ok (.aload_n 1, 1) := by decide +kernel
theorem dX1_go_30 : decode cX1_go 30 = .ok (.iload 5, 2) := by decide +kernel
theorem dX1_go_32 : decode cX1_go 32 = .ok (.aload_n 0, 1) := by decide +kernel
theorem dX1_go_33 : decode cX1_go 33 = .ok (.getfield 21, 3) := by decide +kernel
theorem dX1_go_36 : decode cX1_go 36 = .ok (.invokevirtual 86, 3) := by decide +kernel
theorem dX1_go_39 : decode cX1_go 39 = .ok (.ifCond .eq 4, 3) := by decide +kernel
theorem dX1_go_42 : decode cX1_go 42 = .ok (.return_, 1) := by decide +kernel
theorem dX1_go_43 : decode cX1_go 43 = .ok (.aload_n 0, 1) := by decide +kernel
theorem dX1_go_44 : decode cX1_go 44 = .ok (.iload_n 3, 1) := by decide +kernel
theorem dX1_go_45 : decode cX1_go 45 = .ok (.putfield 11, 3) := by decide +kernel
theorem dX1_go_48 : decode cX1_go 48 = .ok (.iload 4, 2) := by decide +kernel
theorem dX1_go_50 : decode cX1_go 50 = .ok (.iload 5, 2) := by decide +kernel
theorem dX1_go_52 : decode cX1_go 52 = .ok (.invokestatic 73, 3) := by decide +kernel
theorem dX1_go_55 : decode cX1_go 55 = .ok (.iconst 1, 1) := by decide +kernel
theorem dX1_go_56 : decode cX1_go 56 = .ok (.iadd, 1) := by decide +kernel
theorem dX1_go_57 : decode cX1_go 57 = .ok (.istore 6, 2) := by decide +kernel
theorem dX1_go_59 : decode cX1_go 59 = .ok (.iload 6, 2) := by decide +kernel
theorem dX1_go_61 : decode cX1_go 61 = .ok (.iload 4, 2) := by decide +kernel
theorem dX1_go_63 : decode cX1_go 63 = .ok (.iload 5, 2) := by decide +kernel
theorem dX1_go_65 : decode cX1_go 65 = .ok (.invokestatic 79, 3) := by decide +kernel
theorem dX1_go_68 : decode cX1_go 68 = .ok (.if_icmp .ge 32, 3) := by decide +kernel
theorem dX1_go_71 : decode cX1_go 71 = .ok (.aload_n 1, 1) := by decide +kernel
theorem dX1_go_72 : decode cX1_go 72 = .ok (.iload 6, 2) := by decide +kernel
theorem dX1_go_74 : decode cX1_go 74 = .ok (.aload_n 0, 1) := by decide +kernel
theorem dX1_go_75 : decode cX1_go 75 = .ok (.getfield 21, 3) := by decide +kernel
theorem dX1_go_78 : decode cX1_go 78 = .ok (.invokevirtual 86, 3) := by decide +kernel
theorem dX1_go_81 : decode cX1_go 81 = .ok (.ifCond .eq 13, 3) := by decide +kernel
theorem dX1_go_84 : decode cX1_go 84 = .ok (.aload_n 0, 1) := by decide +kernel
theorem dX1_go_85 : decode cX1_go 85 = .ok (.dup, 1) := by decide +kernel
theorem dX1_go_86 : decode cX1_go 86 = .ok (.getfield 46, 3) := by decide +kernel
theorem dX1_go_89 : decode cX1_go 89 = .ok (.iconst 4, 1) := by decide +kernel
theorem dX1_go_90 : decode cX1_go 90 = .ok (.ior, 1) := by decide +kernel
theorem dX1_go_91 : decode cX1_go 91 = .ok (.putfield 46, 3) := by decide +kernel
theorem dX1_go_94 : decode cX1_go 94 = .ok (.iinc 6 1, 3) := by decide +kernel
theorem dX1_go_97 : decode cX1_go 97 = .ok (.goto (-38), 3) := by decide +kernel
theorem dX1_go_100 : decode cX1_go 100 = .ok (.return_, 1) := by decide +kernel
theorem dX1_fall_0 : decode cX1_fall 0 = .ok (.aload_n 0, 1) := by decide +kernel
theorem dX1_fall_1 : decode cX1_fall 1 = .ok (.invokevirtual 82, 3) := by decide +kernel
theorem dX1_fall_4 : decode cX1_fall 4 = .ok (.istore_n 2, 1) := by decide +kernel
theorem dX1_fall_5 : decode cX1_fall 5 = .ok (.aload_n 1, 1) := by decide +kernel
theorem dX1_fall_6 : decode cX1_fall 6 = .ok (.iload_n 2, 1) := by decide +kernel
theorem dX1_fall_7 : decode cX1_fall 7 = .ok (.invokevirtual 90, 3) := by decide +kernel
theorem dX1_fall_10 : decode cX1_fall 10 = .ok (.istore_n 3, 1) := by decide +kernel
theorem dX1_fall_11 : decode cX1_fall 11 = .ok (.aload_n 1, 1) := by decide +kernel
theorem dX1_fall_12 : decode cX1_fall 12 = .ok (.iload_n 2, 1) := by decide +kernel
theorem dX1_fall_13 : decode cX1_fall 13 = .ok (.invokevirtual 15, 3) := by decide +kernel
theorem dX1_fall_16 : decode cX1_fall 16 = .ok (.istore 4, 2) := by decide +kernel
theorem dX1_fall_18 : decode cX1_fall 18 = .ok (.aload_n 0, 1) := by decide +kernel
theorem dX1_fall_19 : decode cX1_fall 19 = .ok (.getfield 27, 3) := by decide +kernel
theorem dX1_fall_22 : decode cX1_fall 22 = .ok (.ifCond .eq 26, 3) := by decide +kernel
theorem dX1_fall_25 : decode cX1_fall 25 = .ok (.iload_n 3, 1) := by decide +kernel
theorem dX1_fall_26 : decode cX1_fall 26 = .ok (.ifCond .ne 12, 3) := by decide +kernel
theorem dX1_fall_29 : decode cX1_fall 29 = .ok (.iload 4, 2) := by decide +kernel
theorem dX1_fall_31 : decode cX1_fall 31 = .ok (.aload_n 0, 1) := by decide +kernel
theorem dX1_fall_32 : decode cX1_fall 32 = .ok (.getfield 21, 3) := by decide +kernel
theorem dX1_fall_35 : decode cX1_fall 35 = .ok (.if_icmp .ge 13, 3) := by decide +kernel
theorem dX1_fall_38 : decode cX1_fall 38 = .ok (.aload_n 0, 1) := by decide +kernel
theorem dX1_fall_39 : decode cX1_fall 39 = .ok (.iconst 0, 1) := by decide +kernel
theorem dX1_fall_40 : decode cX1_fall 40 = .ok (.putfield 27, 3) := by decide +kernel
theorem dX1_fall_43 : decode cX1_fall 43 = .ok (.aload_n 0, 1) := by decide +kernel
theorem dX1_fall_44 : decode cX1_fall 44 = .ok (.iconst 0, 1) := by decide +kernel
theorem dX1_fall_45 : decode cX1_fall 45 = .ok (.putfield 24, 3) := by decide +kernel
theorem dX1_fall_48 : decode cX1_fall 48 = .ok (.aload_n 0, 1) := by decide +kernel
theorem dX1_fall_49 : decode cX1_fall 49 = .ok (.getfield 27, 3) := by decide +kernel
theorem dX1_fall_52 : decode cX1_fall 52 = .ok (.ifCond .ne 67, 3) := by decide +kernel
theorem dX1_fall_55 : decode cX1_fall 55 = .ok (.aload_n 0, 1) := by decide +kernel
theorem dX1_fall_56 : decode cX1_fall 56 = .ok (.bipush (-14), 2) := by decide +kernel
theorem dX1_fall_58 : decode cX1_fall 58 = .ok (.aload_n 0, 1) := by decide +kernel
theorem dX1_fall_59 : decode cX1_fall 59 = .ok (.getfield 24, 3) := by decide +kernel
theorem dX1_fall_62 : decode cX1_fall 62 = .ok (.iconst 2, 1) := by decide +kernel
theorem dX1_fall_63 : decode cX1_fall 63 = .ok (.isub, 1) := by decide +kernel
theorem dX1_fall_64 : decode cX1_fall 64 = .ok (.invokestatic 79, 3) := by decide +kernel
theorem dX1_fall_67 : decode cX1_fall 67 = .ok (.putfield 24, 3) := by decide +kernel
theorem dX1_fall_70 : decode cX1_fall 70 = .ok (.aload_n 0, 1) := by decide +kernel
theorem dX1_fall_71 : decode cX1_fall 71 = .ok (.dup, 1) := by decide +kernel
theorem dX1_fall_72 : decode cX1_fall 72 = .ok (.getfield 21, 3) := by decide +kernel
theorem dX1_fall_75 : decode cX1_fall 75 = .ok (.aload_n 0, 1) := by decide +kernel
theorem dX1_fall_76 : decode cX1_fall 76 = .ok (.getfield 24, 3) := by decide +kernel
theorem dX1_fall_79 : decode cX1_fall 79 = .ok (.iadd, 1) := by decide +kernel
theorem dX1_fall_80 : decode cX1_fall 80 = .ok (.putfield 21, 3) := by decide +kernel
theorem dX1_fall_83 : decode cX1_fall 83 = .ok (.iload_n 3, 1) := by decide +kernel
theorem dX1_fall_84 : decode cX1_fall 84 = .ok (.ifCond .ne 35, 3) := by decide +kernel
theorem dX1_fall_87 : decode cX1_fall 87 = .ok (.aload_n 0, 1) := by decide +kernel
theorem dX1_fall_88 : decode cX1_fall 88 = .ok (.getfield 24, 3) := by decide +kernel
theorem dX1_fall_91 : decode cX1_fall 91 = .ok (.ifCond .gt 28, 3) := by decide +kernel
theorem dX1_fall_94 : decode cX1_fall 94 = .ok (.aload_n 0, 1) := by decide +kernel
theorem dX1_fall_95 : decode cX1_fall 95 = .ok (.getfield 21, 3) := by decide +kernel
theorem dX1_fall_98 : decode cX1_fall 98 = .ok (.iload 4, 2) := by decide +kernel
theorem dX1_fall_100 : decode cX1_fall 100 = .ok (.if_icmp .gt 19, 3) := by decide +kernel
theorem dX1_fall_103 : decode cX1_fall 103 = .ok (.aload_n 0, 1) := by decide +kernel
theorem dX1_fall_104 : decode cX1_fall 104 = .ok (.iload 4, 2) := by decide +kernel
theorem dX1_fall_106 : decode cX1_fall 106 = .ok (.putfield 21, 3) := by decide +kernel
theorem dX1_fall_109 : decode cX1_fall 109 = .ok (.aload_n 0, 1) := by decide +kernel
theorem dX1_fall_110 : decode cX1_fall 110 = .ok (.iconst 1, 1) := by decide +kernel
theorem dX1_fall_111 : decode cX1_fall 111 = .ok (.putfield 27, 3) := by decide +kernel
theorem dX1_fall_114 : decode cX1_fall 114 = .ok (.aload_n 0, 1) := by decide +kernel
theorem dX1_fall_115 : decode cX1_fall 115 = .ok (.iconst 0, 1) := by decide +kernel
theorem dX1_fall_116 : decode cX1_fall 116 = .ok (.putfield 24, 3) := by decide +kernel
theorem dX1_fall_119 : decode cX1_fall 119 = .ok (.return_, 1) := by decide +kernel
theorem dX1_takeCoin_0 : decode cX1_takeCoin 0 = .ok (.aload_n 0, 1) := by decide +kernel
theorem dX1_takeCoin_1 : decode cX1_takeCoin 1 = .ok (.invokevirtual 82, 3) := by decide +kernel
theorem dX1_takeCoin_4 : decode cX1_takeCoin 4 = .ok (.istore_n 2, 1) := by decide +kernel
theorem dX1_takeCoin_5 : decode cX1_takeCoin 5 = .ok (.aload_n 0, 1) := by decide +kernel
theorem dX1_takeCoin_6 : decode cX1_takeCoin 6 = .ok (.getfield 37, 3) := by decide +kernel
theorem dX1_takeCoin_9 : decode cX1_takeCoin 9 = .ok (.iconst 1, 1) := by decide +kernel
theorem dX1_takeCoin_10 : decode cX1_takeCoin 10 = .ok (.iload_n 2, 1) := by decide +kernel
theorem dX1_takeCoin_11 : decode cX1_takeCoin 11 = .ok (.ishl, 1) := by decide +kernel
theorem dX1_takeCoin_12 : decode cX1_takeCoin 12 = .ok (.iand, 1) := by decide +kernel
theorem dX1_takeCoin_13 : decode cX1_takeCoin 13 = .ok (.ifCond .eq 7, 3) := by decide +kernel
theorem dX1_takeCoin_16 : decode cX1_takeCoin 16 = .ok (.iconst 1, 1) := by decide +kernel
theorem dX1_takeCoin_17 : decode cX1_takeCoin 17 = .ok (.goto 4, 3) := by decide +kernel
theorem dX1_takeCoin_20 : decode cX1_takeCoin 20 = .ok (.iconst 0, 1) := by decide +kernel
theorem dX1_takeCoin_21 : decode cX1_takeCoin 21 = .ok (.istore_n 3, 1) := by decide +kernel
theorem dX1_takeCoin_22 : decode cX1_takeCoin 22 = .ok (.iload_n 3, 1) := by decide +kernel
theorem dX1_takeCoin_23 : decode cX1_takeCoin 23 = .ok (.ifCond .ne 49, 3) := by decide +kernel
theorem dX1_takeCoin_26 : decode cX1_takeCoin 26 = .ok (.aload_n 1, 1) := by decide +kernel
theorem dX1_takeCoin_27 : decode cX1_takeCoin 27 = .ok (.iload_n 2, 1) := by decide +kernel
theorem dX1_takeCoin_28 : decode cX1_takeCoin 28 = .ok (.iconst 1, 1) := by decide +kernel
theorem dX1_takeCoin_29 : decode cX1_takeCoin 29 = .ok (.invokevirtual 94, 3) := by decide +kernel
theorem dX1_takeCoin_32 : decode cX1_takeCoin 32 = .ok (.ifCond .eq 40, 3) := by decide +kernel
theorem dX1_takeCoin_35 : decode cX1_takeCoin 35 = .ok (.aload_n 0, 1) := by decide +kernel
theorem dX1_takeCoin_36 : decode cX1_takeCoin 36 = .ok (.getfield 21, 3) := by decide +kernel
theorem dX1_takeCoin_39 : decode cX1_takeCoin 39 = .ok (.aload_n 1, 1) := by decide +kernel
theorem dX1_takeCoin_40 : decode cX1_takeCoin 40 = .ok (.iload_n 2, 1) := by decide +kernel
theorem dX1_takeCoin_41 : decode cX1_takeCoin 41 = .ok (.invokevirtual 15, 3) := by decide +kernel
theorem dX1_takeCoin_44 : decode cX1_takeCoin 44 = .ok (.isub, 1) := by decide +kernel
theorem dX1_takeCoin_45 : decode cX1_takeCoin 45 = .ok (.bipush 24, 2) := by decide +kernel
theorem dX1_takeCoin_47 : decode cX1_takeCoin 47 = .ok (.if_icmp .gt 25, 3) := by decide +kernel
theorem dX1_takeCoin_50 : decode cX1_takeCoin 50 = .ok (.aload_n 0, 1) := by decide +kernel
theorem dX1_takeCoin_51 : decode cX1_takeCoin 51 = .ok (.dup, 1) := by decide +kernel
theorem dX1_takeCoin_52 : decode cX1_takeCoin 52 = .ok (.getfield 37, 3) := by decide +kernel
theorem dX1_takeCoin_55 : decode cX1_takeCoin 55 = .ok (.iconst 1, 1) := by decide +kernel
theorem dX1_takeCoin_56 : decode cX1_takeCoin 56 = .ok (.iload_n 2, 1) := by decide +kernel
theorem dX1_takeCoin_57 : decode cX1_takeCoin 57 = .ok (.ishl, 1) := by decide +kernel
theorem dX1_takeCoin_58 : decode cX1_takeCoin 58 = .ok (.ior, 1) := by decide +kernel
theorem dX1_takeCoin_59 : decode cX1_takeCoin 59 = .ok (.putfield 37, 3) := by decide +kernel
theorem dX1_takeCoin_62 : decode cX1_takeCoin 62 = .ok (.aload_n 0, 1) := by decide +kernel
theorem dX1_takeCoin_63 : decode cX1_takeCoin 63 = .ok (.dup, 1) := by decide +kernel
theorem dX1_takeCoin_64 : decode cX1_takeCoin 64 = .ok (.getfield 40, 3) := by decide +kernel
theorem dX1_takeCoin_67 : decode cX1_takeCoin 67 = .ok (.iconst 1, 1) := by decide +kernel
theorem dX1_takeCoin_68 : decode cX1_takeCoin 68 = .ok (.iadd, 1) := by decide +kernel
theorem dX1_takeCoin_69 : decode cX1_takeCoin 69 = .ok (.putfield 40, 3) := by decide +kernel
theorem dX1_takeCoin_72 : decode cX1_takeCoin 72 = .ok (.return_, 1) := by decide +kernel
theorem dX1_finish_0 : decode cX1_finish 0 = .ok (.aload_n 0, 1) := by decide +kernel
theorem dX1_finish_1 : decode cX1_finish 1 = .ok (.getfield 21, 3) := by decide +kernel
theorem dX1_finish_4 : decode cX1_finish 4 = .ok (.bipush (-32), 2) := by decide +kernel
theorem dX1_finish_6 : decode cX1_finish 6 = .ok (.if_icmp .lt 22, 3) := by decide +kernel
theorem dX1_finish_9 : decode cX1_finish 9 = .ok (.aload_n 0, 1) := by decide +kernel
theorem dX1_finish_10 : decode cX1_finish 10 = .ok (.getfield 27, 3) := by decide +kernel
theorem dX1_finish_13 : decode cX1_finish 13 = .ok (.ifCond .eq 23, 3) := by decide +kernel
theorem dX1_finish_16 : decode cX1_finish 16 = .ok (.aload_n 1, 1) := by decide +kernel
theorem dX1_finish_17 : decode cX1_finish 17 = .ok (.aload_n 0, 1) := by decide +kernel
theorem dX1_finish_18 : decode cX1_finish 18 = .ok (.invokevirtual 82, 3) := by decide +kernel
theorem dX1_finish_21 : decode cX1_finish 21 = .ok (.iconst 2, 1) := by decide +kernel
theorem dX1_finish_22 : decode cX1_finish 22 = .ok (.invokevirtual 94, 3) := by decide +kernel
theorem dX1_finish_25 : decode cX1_finish 25 = .ok (.ifCond .eq 11, 3) := by decide +kernel
theorem dX1_finish_28 : decode cX1_finish 28 = .ok (.aload_n 0, 1) := by decide +kernel
theorem dX1_finish_29 : decode cX1_finish 29 = .ok (.iconst 2, 1) := by decide +kernel
theorem dX1_finish_30 : decode cX1_finish 30 = .ok (.putfield 52, 3) := by decide +kernel
theorem dX1_finish_33 : decode cX1_finish 33 = .ok (.goto 17, 3) := by decide +kernel
theorem dX1_finish_36 : decode cX1_finish 36 = .ok (.aload_n 0, 1) := by decide +kernel
theorem dX1_finish_37 : decode cX1_finish 37 = .ok (.invokevirtual 82, 3) := by decide +kernel
theorem dX1_finish_40 : decode cX1_finish 40 = .ok (.bipush 31, 2) := by decide +kernel
theorem dX1_finish_42 : decode cX1_finish 42 = .ok (.if_icmp .ne 8, 3) := by decide +kernel
theorem dX1_finish_45 : decode cX1_finish 45 = .ok (.aload_n 0, 1) := by decide +kernel
theorem dX1_finish_46 : decode cX1_finish 46 = .ok (.iconst 1, 1) := by decide +kernel
theorem dX1_finish_47 : decode cX1_finish 47 = .ok (.putfield 52, 3) := by decide +kernel
theorem dX1_finish_50 : decode cX1_finish 50 = .ok (.return_, 1) := by decide +kernel
theorem dX2_init_0 : decode cX2_init 0 = .ok (.aload_n 0, 1) := by decide +kernel
theorem dX2_init_1 : decode cX2_init 1 = .ok (.invokespecial 3, 3) := by decide +kernel
theorem dX2_init_4 : decode cX2_init 4 = .ok (.aload_n 0, 1) := by decide +kernel
theorem dX2_init_5 : decode cX2_init 5 = .ok (.bipush 32, 2) := by decide +kernel
theorem dX2_init_7 : decode cX2_init 7 = .ok (.newarray .boolean, 2) := by decide +kernel
theorem dX2_init_9 : decode cX2_init 9 = .ok (.putfield 9, 3) := by decide +kernel
theorem dX2_init_12 : decode cX2_init 12 = .ok (.aload_n 0, 1) := by decide +kernel
theorem dX2_init_13 : decode cX2_init 13 = .ok (.bipush 32, 2) := by decide +kernel
theorem dX2_init_15 : decode cX2_init 15 = .ok (.newarray .int, 2) := by decide +kernel
theorem dX2_init_17 : decode cX2_init 17 = .ok (.putfield 15, 3) := by decide +kernel
theorem dX2_init_20 : decode cX2_init 20 = .ok (.aload_n 0, 1) := by decide +kernel
theorem dX2_init_21 : decode cX2_init 21 = .ok (.bipush 32, 2) := by decide +kernel
theorem dX2_init_23 : decode cX2_init 23 = .ok (.newarray .int, 2) := by decide +kernel
theorem dX2_init_25 : decode cX2_init 25 = .ok (.putfield 19, 3) := by decide +kernel
theorem dX2_init_28 : decode cX2_init 28 = .ok (.return_, 1) := by decide +kernel
theorem dX2_change_0 : decode cX2_change 0 = .ok (.iload_n 1, 1) := by decide +kernel
theorem dX2_change_1 : decode cX2_change 1 = .ok (.ifCond .lt 51, 3) := by decide +kernel
theorem dX2_change_4 : decode cX2_change 4 = .ok (.iload_n 1, 1) := by decide +kernel
theorem dX2_change_5 : decode cX2_change 5 = .ok (.bipush 32, 2) := by decide +kernel
theorem dX2_change_7 : decode cX2_change 7 = .ok (.if_icmp .ge 45, 3) := by decide +kernel
theorem dX2_change_10 : decode cX2_change 10 = .ok (.aload_n 0, 1) := by decide +kernel
theorem dX2_change_11 : decode cX2_change 11 = .ok (.getfield 9, 3) := by decide +kernel
theorem dX2_change_14 : decode cX2_change 14 = .ok (.iload_n 1, 1) := by decide +kernel
theorem dX2_change_15 : decode cX2_change 15 = .ok (.iload_n 2, 1) := by decide +kernel
theorem dX2_change_16 : decode cX2_change 16 = .ok (.iconst (-1), 1) := by decide +kernel
theorem dX2_change_17 : decode cX2_change 17 = .ok (.if_icmp .ne 7, 3) := by decide +kernel
theorem dX2_change_20 : decode cX2_change 20 = .ok (.iconst 1, 1) := by decide +kernel
theorem dX2_change_21 : decode cX2_change 21 = .ok (.goto 4, 3) := by decide +kernel
theorem dX2_change_24 : decode cX2_change 24 = .ok (.iconst 0, 1) := by decide +kernel
theorem dX2_change_25 : decode cX2_change 25 = .ok (.bastore, 1) := by decide +kernel
theorem dX2_change_26 : decode cX2_change 26 = .ok (.aload_n 0, 1) := by decide +kernel
theorem dX2_change_27 : decode cX2_change 27 = .ok (.getfield 15, 3) := by decide +kernel
theorem dX2_change_30 : decode cX2_change 30 = .ok (.iload_n 1, 1) := by decide +kernel
theorem dX2_change_31 : decode cX2_change 31 = .ok (.iload_n 2, 1) := by decide +kernel
theorem dX2_change_32 : decode cX2_change 32 = .ok (.iconst (-1), 1) := by decide +kernel
theorem dX2_change_33 : decode cX2_change 33 = .ok (.if_icmp .ne 7, 3) := by decide +kernel
theorem dX2_change_36 : decode cX2_change 36 = .ok (.iconst 0, 1) := by decide +kernel
theorem dX2_change_37 : decode cX2_change 37 = .ok (.goto 7, 3) := by decide +kernel
theorem dX2_change_40 : decode cX2_change 40 = .ok (.bipush 16, 2) := by decide +kernel
theorem dX2_change_42 : decode cX2_change 42 = .ok (.iload_n 2, 1) := by decide +kernel
theorem dX2_change_43 : decode cX2_change 43 = .ok (.imul, 1) := by decide +kernel
theorem dX2_change_44 : decode cX2_change 44 = .ok (.iastore, 1) := by decide +kernel
theorem dX2_change_45 : decode cX2_change 45 = .ok (.aload_n 0, 1) := by decide +kernel
theorem dX2_change_46 : decode cX2_change 46 = .ok (.getfield 19, 3) := by decide +kernel
theorem dX2_change_49 : decode cX2_change 49 = .ok (.iload_n 1, 1) := by decide +kernel
theorem dX2_change_50 : decode cX2_change 50 = .ok (.iload_n 3, 1) := by decide +kernel
theorem dX2_change_51 : decode cX2_change 51 = .ok (.iastore, 1) := by decide +kernel
theorem dX2_change_52 : decode cX2_change 52 = .ok (.return_, 1) := by decide +kernel
theorem dX2_isGap_0 : decode cX2_isGap 0 = .ok (.iload_n 1, 1) := by decide +kernel
theorem dX2_isGap_1 : decode cX2_isGap 1 = .ok (.ifCond .lt 18, 3) := by decide +kernel
theorem dX2_isGap_4 : decode cX2_isGap 4 = .ok (.iload_n 1, 1) := by decide +kernel
theorem dX2_isGap_5 : decode cX2_isGap 5 = .ok (.bipush 32, 2) := by decide +kernel
theorem dX2_isGap_7 : decode cX2_isGap 7 = .ok (.if_icmp .ge 12, 3) := by decide +kernel
theorem dX2_isGap_10 : decode cX2_isGap 10 = .ok (.aload_n 0, 1) := by decide +kernel
theorem dX2_isGap_11 : decode cX2_isGap 11 = .ok (.getfield 9, 3) := by decide +kernel
theorem dX2_isGap_14 : decode cX2_isGap 14 = .ok (.iload_n 1, 1) := by decide +kernel
theorem dX2_isGap_15 : decode cX2_isGap 15 = .ok (.baload, 1) := by decide +kernel
theorem dX2_isGap_16 : decode cX2_isGap 16 = .ok (.ifCond .eq 7, 3) := by decide +kernel
theorem dX2_isGap_19 : decode cX2_isGap 19 = .ok (.iconst 1, 1) := by decide +kernel
theorem dX2_isGap_20 : decode cX2_isGap 20 = .ok (.goto 4, 3) := by decide +kernel
theorem dX2_isGap_23 : decode cX2_isGap 23 = .ok (.iconst 0, 1) := by decide +kernel
theorem dX2_isGap_24 : decode cX2_isGap 24 = .ok (.ireturn, 1) := by decide +kernel
theorem dX2_base_0 : decode cX2_base 0 = .ok (.iload_n 1, 1) := by decide +kernel
theorem dX2_base_1 : decode cX2_base 1 = .ok (.ifCond .lt 18, 3) := by decide +kernel
theorem dX2_base_4 : decode cX2_base 4 = .ok (.iload_n 1, 1) := by decide +kernel
theorem dX2_base_5 : decode cX2_base 5 = .ok (.bipush 32, 2) := by decide +kernel
theorem dX2_base_7 : decode cX2_base 7 = .ok (.if_icmp .ge 12, 3) := by decide +kernel
theorem dX2_base_10 : decode cX2_base 10 = .ok (.aload_n 0, 1) := by decide +kernel
theorem dX2_base_11 : decode cX2_base 11 = .ok (.getfield 15, 3) := by decide +kernel
theorem dX2_base_14 : decode cX2_base 14 = .ok (.iload_n 1, 1) := by decide +kernel
theorem dX2_base_15 : decode cX2_base 15 = .ok (.iaload, 1) := by decide +kernel
theorem dX2_base_16 : decode cX2_base 16 = .ok (.goto 4, 3) := by decide +kernel
theorem dX2_base_19 : decode cX2_base 19 = .ok (.iconst 0, 1) := by decide +kernel
theorem dX2_base_20 : decode cX2_base 20 = .ok (.ireturn, 1) := by decide +kernel
theorem dX2_isFloorAbove_0 : decode cX2_isFloorAbove 0 = .ok (.iload_n 1, 1) := by decide +kernel
theorem dX2_isFloorAbove_1 : decode cX2_isFloorAbove 1 = .ok (.ifCond .lt 32, 3) := by decide +kernel
theorem dX2_isFloorAbove_4 : decode cX2_isFloorAbove 4 = .ok (.iload_n 1, 1) := by decide +kernel
theorem dX2_isFloorAbove_5 : decode cX2_isFloorAbove 5 = .ok (.bipush 32, 2) := by decide +kernel
theorem dX2_isFloorAbove_7 : decode cX2_isFloorAbove 7 = .ok (.if_icmp .ge 26, 3) := by decide +kernel
theorem dX2_isFloorAbove_10 : decode cX2_isFloorAbove 10 = .ok (.aload_n 0, 1) := by decide +kernel
theorem dX2_isFloorAbove_11 : decode cX2_isFloorAbove 11 = .ok (.getfield 9, 3) := by decide +kernel
theorem dX2_isFloorAbove_14 : decode cX2_isFloorAbove 14 = .ok (.iload_n 1, 1) := by decide +kernel
theorem dX2_isFloorAbove_15 : decode cX2_isFloorAbove 15 = .ok (.baload, 1) := by decide +kernel
theorem dX2_isFloorAbove_16 : decode cX2_isFloorAbove 16 = .ok (.ifCond .ne 17, 3) := by decide +kernel
theorem dX2_isFloorAbove_19 : decode cX2_isFloorAbove 19 = .ok (.aload_n 0, 1) := by decide +kernel
theorem dX2_isFloorAbove_20 : decode cX2_isFloorAbove 20 = .ok (.getfield 15, 3) := by decide +kernel
theorem dX2_isFloorAbove_23 : decode cX2_isFloorAbove 23 = .ok (.iload_n 1, 1) := by decide +kernel
theorem dX2_isFloorAbove_24 : decode cX2_isFloorAbove 24 = .ok (.iaload, 1) := by decide +kernel
theorem dX2_isFloorAbove_25 : decode cX2_isFloorAbove 25 = .ok (.iload_n 2, 1) := by decide +kernel
theorem dX2_isFloorAbove_26 : decode cX2_isFloorAbove 26 = .ok (.if_icmp .le 7, 3) := by decide +kernel
theorem dX2_isFloorAbove_29 : decode cX2_isFloorAbove 29 = .ok (.iconst 1, 1) := by decide +kernel
theorem dX2_isFloorAbove_30 : decode cX2_isFloorAbove 30 = .ok (.goto 4, 3) := by decide +kernel
theorem dX2_isFloorAbove_33 : decode cX2_isFloorAbove 33 = .ok (.iconst 0, 1) := by decide +kernel
theorem dX2_isFloorAbove_34 : decode cX2_isFloorAbove 34 = .ok (.ireturn, 1) := by decide +kernel
theorem dX2_hasItem_0 : decode cX2_hasItem 0 = .ok (.iload_n 1, 1) := by decide +kernel
theorem dX2_hasItem_1 : decode cX2_hasItem 1 = .ok (.ifCond .lt 23, 3) := by decide +kernel
theorem dX2_hasItem_4 : decode cX2_hasItem 4 = .ok (.iload_n 1, 1) := by decide +kernel
theorem dX2_hasItem_5 : decode cX2_hasItem 5 = .ok (.bipush 32, 2) := by decide +kernel
theorem dX2_hasItem_7 : decode cX2_hasItem 7 = .ok (.if_icmp .ge 17, 3) := by decide +kernel
theorem dX2_hasItem_10 : decode cX2_hasItem 10 = .ok (.aload_n 0, 1) := by decide +kernel
theorem dX2_hasItem_11 : decode cX2_hasItem 11 = .ok (.getfield 19, 3) := by decide +kernel
theorem dX2_hasItem_14 : decode cX2_hasItem 14 = .ok (.iload_n 1, 1) := by decide +kernel
theorem dX2_hasItem_15 : decode cX2_hasItem 15 = .ok (.iaload, 1) := by decide +kernel
theorem dX2_hasItem_16 : decode cX2_hasItem 16 = .ok (.iload_n 2, 1) := by decide +kernel
theorem dX2_hasItem_17 : decode cX2_hasItem 17 = .ok (.if_icmp .ne 7, 3) := by decide +kernel
theorem dX2_hasItem_20 : decode cX2_hasItem 20 = .ok (.iconst 1, 1) := by decide +kernel
theorem dX2_hasItem_21 : decode cX2_hasItem 21 = .ok (.goto 4, 3) := by decide +kernel
theorem dX2_hasItem_24 : decode cX2_hasItem 24 = .ok (.iconst 0, 1) := by decide +kernel
theorem dX2_hasItem_25 : decode cX2_hasItem 25 = .ok (.ireturn, 1) := by decide +kernel
theorem dX3_init_0 : decode cX3_init 0 = .ok (.aload_n 0, 1) := by decide +kernel
theorem dX3_init_1 : decode cX3_init 1 = .ok (.invokespecial 1, 3) := by decide +kernel
theorem dX3_init_4 : decode cX3_init 4 = .ok (.aload_n 0, 1) := by decide +kernel
theorem dX3_init_5 : decode cX3_init 5 = .ok (.aload_n 1, 1) := by decide +kernel
theorem dX3_init_6 : decode cX3_init 6 = .ok (.putfield 7, 3) := by decide +kernel
theorem dX3_init_9 : decode cX3_init 9 = .ok (.aload_n 0, 1) := by decide +kernel
theorem dX3_init_10 : decode cX3_init 10 = .ok (.iload_n 2, 1) := by decide +kernel
theorem dX3_init_11 : decode cX3_init 11 = .ok (.putfield 13, 3) := by decide +kernel
theorem dX3_init_14 : decode cX3_init 14 = .ok (.return_, 1) := by decide +kernel
theorem dX4_init_0 : decode cX4_init 0 = .ok (.aload_n 0, 1) := by decide +kernel
theorem dX4_init_1 : decode cX4_init 1 = .ok (.invokespecial 3, 3) := by decide +kernel
theorem dX4_init_4 : decode cX4_init 4 = .ok (.aload_n 0, 1) := by decide +kernel
theorem dX4_init_5 : decode cX4_init 5 = .ok (.bipush 20, 2) := by decide +kernel
theorem dX4_init_7 : decode cX4_init 7 = .ok (.newarray .int, 2) := by decide +kernel
theorem dX4_init_9 : decode cX4_init 9 = .ok (.putfield 9, 3) := by decide +kernel
theorem dX4_init_12 : decode cX4_init 12 = .ok (.aload_n 0, 1) := by decide +kernel
theorem dX4_init_13 : decode cX4_init 13 = .ok (.bipush 20, 2) := by decide +kernel
theorem dX4_init_15 : decode cX4_init 15 = .ok (.newarray .int, 2) := by decide +kernel
theorem dX4_init_17 : decode cX4_init 17 = .ok (.putfield 15, 3) := by decide +kernel
theorem dX4_init_20 : decode cX4_init 20 = .ok (.aload_n 0, 1) := by decide +kernel
theorem dX4_init_21 : decode cX4_init 21 = .ok (.new 18, 3) := by decide +kernel
theorem dX4_init_24 : decode cX4_init 24 = .ok (.dup, 1) := by decide +kernel
theorem dX4_init_25 : decode cX4_init 25 = .ok (.invokespecial 20, 3) := by decide +kernel
theorem dX4_init_28 : decode cX4_init 28 = .ok (.putfield 21, 3) := by decide +kernel
theorem dX4_init_31 : decode cX4_init 31 = .ok (.aload_n 0, 1) := by decide +kernel
theorem dX4_init_32 : decode cX4_init 32 = .ok (.aload_n 1, 1) := by decide +kernel
theorem dX4_init_33 : decode cX4_init 33 = .ok (.putfield 25, 3) := by decide +kernel
theorem dX4_init_36 : decode cX4_init 36 = .ok (.aload_n 0, 1) := by decide +kernel
theorem dX4_init_37 : decode cX4_init 37 = .ok (.getfield 21, 3) := by decide +kernel
theorem dX4_init_40 : decode cX4_init 40 = .ok (.aload_n 1, 1) := by decide +kernel
theorem dX4_init_41 : decode cX4_init 41 = .ok (.invokevirtual 29, 3) := by decide +kernel
theorem dX4_init_44 : decode cX4_init 44 = .ok (.return_, 1) := by decide +kernel
theorem dX4_hasRoomFor_0 : decode cX4_hasRoomFor 0 = .ok (.aload_n 0, 1) := by decide +kernel
theorem dX4_hasRoomFor_1 : decode cX4_hasRoomFor 1 = .ok (.getfield 33, 3) := by decide +kernel
theorem dX4_hasRoomFor_4 : decode cX4_hasRoomFor 4 = .ok (.bipush 20, 2) := by decide +kernel
theorem dX4_hasRoomFor_6 : decode cX4_hasRoomFor 6 = .ok (.if_icmp .ge 19, 3) := by decide +kernel
theorem dX4_hasRoomFor_9 : decode cX4_hasRoomFor 9 = .ok (.aload_n 0, 1) := by decide +kernel
theorem dX4_hasRoomFor_10 : decode cX4_hasRoomFor 10 = .ok (.getfield 37, 3) := by decide +kernel
theorem dX4_hasRoomFor_13 : decode cX4_hasRoomFor 13 = .ok (.iload_n 1, 1) := by decide +kernel
theorem dX4_hasRoomFor_14 : decode cX4_hasRoomFor 14 = .ok (.iadd, 1) := by decide +kernel
theorem dX4_hasRoomFor_15 : decode cX4_hasRoomFor 15 = .ok (.sipush 500, 3) := by decide +kernel
theorem dX4_hasRoomFor_18 : decode cX4_hasRoomFor 18 = .ok (.if_icmp .gt 7, 3) := by decide +kernel
theorem dX4_hasRoomFor_21 : decode cX4_hasRoomFor 21 = .ok (.iconst 1, 1) := by decide +kernel
theorem dX4_hasRoomFor_22 : decode cX4_hasRoomFor 22 = .ok (.goto 4, 3) := by decide +kernel
theorem dX4_hasRoomFor_25 : decode cX4_hasRoomFor 25 = .ok (.iconst 0, 1) := by decide +kernel
theorem dX4_hasRoomFor_26 : decode cX4_hasRoomFor 26 = .ok (.ireturn, 1) := by decide +kernel
theorem dX4_addPiece_0 : decode cX4_addPiece 0 = .ok (.aload_n 0, 1) := by decide +kernel
theorem dX4_addPiece_1 : decode cX4_addPiece 1 = .ok (.getfield 33, 3) := by decide +kernel
theorem dX4_addPiece_4 : decode cX4_addPiece 4 = .ok (.ifCond .lt 62, 3) := by decide +kernel
theorem dX4_addPiece_7 : decode cX4_addPiece 7 = .ok (.aload_n 0, 1) := by decide +kernel
theorem dX4_addPiece_8 : decode cX4_addPiece 8 = .ok (.getfield 33, 3) := by decide +kernel
theorem dX4_addPiece_11 : decode cX4_addPiece 11 = .ok (.bipush 20, 2) := by decide +kernel
theorem dX4_addPiece_13 : decode cX4_addPiece 13 = .ok (.if_icmp .ge 53, 3) := by decide +kernel
theorem dX4_addPiece_16 : decode cX4_addPiece 16 = .ok (.aload_n 0, 1) := by decide +kernel
theorem dX4_addPiece_17 : decode cX4_addPiece 17 = .ok (.getfield 9, 3) := by decide +kernel
theorem dX4_addPiece_20 : decode cX4_addPiece 20 = .ok (.aload_n 0, 1) := by decide +kernel
theorem dX4_addPiece_21 : decode cX4_addPiece 21 = .ok (.getfield 33, 3) := by decide +kernel
theorem dX4_addPiece_24 : decode cX4_addPiece 24 = .ok (.iload_n 1, 1) := by decide +kernel
theorem dX4_addPiece_25 : decode cX4_addPiece 25 = .ok (.iastore, 1) := by decide +kernel
theorem dX4_addPiece_26 : decode cX4_addPiece 26 = .ok (.aload_n 0, 1) := by decide +kernel
theorem dX4_addPiece_27 : decode cX4_addPiece 27 = .ok (.getfield 15, 3) := by decide +kernel
theorem dX4_addPiece_30 : decode cX4_addPiece 30 = .ok (.aload_n 0, 1) := by decide +kernel
theorem dX4_addPiece_31 : decode cX4_addPiece 31 = .ok (.getfield 33, 3) := by decide +kernel
theorem dX4_addPiece_34 : decode cX4_addPiece 34 = .ok (.iload_n 2, 1) := by decide +kernel
theorem dX4_addPiece_35 : decode cX4_addPiece 35 = .ok (.iastore, 1) := by decide +kernel
theorem dX4_addPiece_36 : decode cX4_addPiece 36 = .ok (.aload_n 0, 1) := by decide +kernel
theorem dX4_addPiece_37 : decode cX4_addPiece 37 = .ok (.dup, 1) := by decide +kernel
theorem dX4_addPiece_38 : decode cX4_addPiece 38 = .ok (.getfield 33, 3) := by decide +kernel
theorem dX4_addPiece_41 : decode cX4_addPiece 41 = .ok (.iconst 1, 1) := by decide +kernel
theorem dX4_addPiece_42 : decode cX4_addPiece 42 = .ok (.iadd, 1) := by decide +kernel
theorem dX4_addPiece_43 : decode cX4_addPiece 43 = .ok (.putfield 33, 3) := by decide +kernel
theorem dX4_addPiece_46 : decode cX4_addPiece 46 = .ok (.aload_n 0, 1) := by decide +kernel
theorem dX4_addPiece_47 : decode cX4_addPiece 47 = .ok (.dup, 1) := by decide +kernel
theorem dX4_addPiece_48 : decode cX4_addPiece 48 = .ok (.getfield 37, 3) := by decide +kernel
theorem dX4_addPiece_51 : decode cX4_addPiece 51 = .ok (.iload_n 2, 1) := by decide +kernel
theorem dX4_addPiece_52 : decode cX4_addPiece 52 = .ok (.iadd, 1) := by decide +kernel
theorem dX4_addPiece_53 : decode cX4_addPiece 53 = .ok (.putfield 37, 3) := by decide +kernel
theorem dX4_addPiece_56 : decode cX4_addPiece 56 = .ok (.aload_n 0, 1) := by decide +kernel
theorem dX4_addPiece_57 : decode cX4_addPiece 57 = .ok (.aload_n 0, 1) := by decide +kernel
theorem dX4_addPiece_58 : decode cX4_addPiece 58 = .ok (.getfield 21, 3) := by decide +kernel
theorem dX4_addPiece_61 : decode cX4_addPiece 61 = .ok (.iload_n 1, 1) := by decide +kernel
theorem dX4_addPiece_62 : decode cX4_addPiece 62 = .ok (.iload_n 2, 1) := by decide +kernel
theorem dX4_addPiece_63 : decode cX4_addPiece 63 = .ok (.invokevirtual 40, 3) := by decide +kernel
theorem dX4_addPiece_66 : decode cX4_addPiece 66 = .ok (.return_, 1) := by decide +kernel
theorem dX4_runAgain_0 : decode cX4_runAgain 0 = .ok (.aload_n 1, 1) := by decide +kernel
theorem dX4_runAgain_1 : decode cX4_runAgain 1 = .ok (.aload_n 0, 1) := by decide +kernel
theorem dX4_runAgain_2 : decode cX4_runAgain 2 = .ok (.getfield 25, 3) := by decide +kernel
theorem dX4_runAgain_5 : decode cX4_runAgain 5 = .ok (.invokevirtual 29, 3) := by decide +kernel
theorem dX4_runAgain_8 : decode cX4_runAgain 8 = .ok (.iconst 0, 1) := by decide +kernel
theorem dX4_runAgain_9 : decode cX4_runAgain 9 = .ok (.istore_n 3, 1) := by decide +kernel
theorem dX4_runAgain_10 : decode cX4_runAgain 10 = .ok (.iload_n 3, 1) := by decide +kernel
theorem dX4_runAgain_11 : decode cX4_runAgain 11 = .ok (.aload_n 0, 1) := by decide +kernel
theorem dX4_runAgain_12 : decode cX4_runAgain 12 = .ok (.getfield 33, 3) := by decide +kernel
theorem dX4_runAgain_15 : decode cX4_runAgain 15 = .ok (.if_icmp .ge 41, 3) := by decide +kernel
theorem dX4_runAgain_18 : decode cX4_runAgain 18 = .ok (.iload_n 3, 1) := by decide +kernel
theorem dX4_runAgain_19 : decode cX4_runAgain 19 = .ok (.bipush 20, 2) := by decide +kernel
theorem dX4_runAgain_21 : decode cX4_runAgain 21 = .ok (.if_icmp .ge 35, 3) := by decide +kernel
theorem dX4_runAgain_24 : decode cX4_runAgain 24 = .ok (.aload_n 0, 1) := by decide +kernel
theorem dX4_runAgain_25 : decode cX4_runAgain 25 = .ok (.aload_n 1, 1) := by decide +kernel
theorem dX4_runAgain_26 : decode cX4_runAgain 26 = .ok (.aload_n 0, 1) := by decide +kernel
theorem dX4_runAgain_27 : decode cX4_runAgain 27 = .ok (.getfield 9, 3) := by decide +kernel
theorem dX4_runAgain_30 : decode cX4_runAgain 30 = .ok (.iload_n 3, 1) := by decide +kernel
theorem dX4_runAgain_31 : decode cX4_runAgain 31 = .ok (.iaload, 1) := by decide +kernel
theorem dX4_runAgain_32 : decode cX4_runAgain 32 = .ok (.aload_n 0, 1) := by decide +kernel
theorem dX4_runAgain_33 : decode cX4_runAgain 33 = .ok (.getfield 15, 3) := by decide +kernel
theorem dX4_runAgain_36 : decode cX4_runAgain 36 = .ok (.iload_n 3, 1) := by decide +kernel
theorem dX4_runAgain_37 : decode cX4_runAgain 37 = .ok (.iaload, 1) := by decide +kernel
theorem dX4_runAgain_38 : decode cX4_runAgain 38 = .ok (.iload_n 2, 1) := by decide +kernel
theorem dX4_runAgain_39 : decode cX4_runAgain 39 = .ok (.aload_n 1, 1) := by decide +kernel
theorem dX4_runAgain_40 : decode cX4_runAgain 40 = .ok (.getfield 44, 3) := by decide +kernel
theorem dX4_runAgain_43 : decode cX4_runAgain 43 = .ok (.isub, 1) := by decide +kernel
theorem dX4_runAgain_44 : decode cX4_runAgain 44 = .ok (.invokestatic 46, 3) := by decide +kernel
theorem dX4_runAgain_47 : decode cX4_runAgain 47 = .ok (.invokevirtual 40, 3) := by decide +kernel
theorem dX4_runAgain_50 : decode cX4_runAgain 50 = .ok (.iinc 3 1, 3) := by decide +kernel
theorem dX4_runAgain_53 : decode cX4_runAgain 53 = .ok (.goto (-43), 3) := by decide +kernel
theorem dX4_runAgain_56 : decode cX4_runAgain 56 = .ok (.return_, 1) := by decide +kernel
theorem dX4_runPiece_0 : decode cX4_runPiece 0 = .ok (.iconst 0, 1) := by decide +kernel
theorem dX4_runPiece_1 : decode cX4_runPiece 1 = .ok (.istore 4, 2) := by decide +kernel
theorem dX4_runPiece_3 : decode cX4_runPiece 3 = .ok (.iload 4, 2) := by decide +kernel
theorem dX4_runPiece_5 : decode cX4_runPiece 5 = .ok (.iload_n 3, 1) := by decide +kernel
theorem dX4_runPiece_6 : decode cX4_runPiece 6 = .ok (.if_icmp .ge 25, 3) := by decide +kernel
theorem dX4_runPiece_9 : decode cX4_runPiece 9 = .ok (.aload_n 1, 1) := by decide +kernel
theorem dX4_runPiece_10 : decode cX4_runPiece 10 = .ok (.invokevirtual 52, 3) := by decide +kernel
theorem dX4_runPiece_13 : decode cX4_runPiece 13 = .ok (.ifCond .ne 18, 3) := by decide +kernel
theorem dX4_runPiece_16 : decode cX4_runPiece 16 = .ok (.aload_n 1, 1) := by decide +kernel
theorem dX4_runPiece_17 : decode cX4_runPiece 17 = .ok (.aload_n 0, 1) := by decide +kernel
theorem dX4_runPiece_18 : decode cX4_runPiece 18 = .ok (.getfield 25, 3) := by decide +kernel
theorem dX4_runPiece_21 : decode cX4_runPiece 21 = .ok (.iload_n 2, 1) := by decide +kernel
theorem dX4_runPiece_22 : decode cX4_runPiece 22 = .ok (.invokevirtual 56, 3) := by decide +kernel
theorem dX4_runPiece_25 : decode cX4_runPiece 25 = .ok (.iinc 4 1, 3) := by decide +kernel
theorem dX4_runPiece_28 : decode cX4_runPiece 28 = .ok (.goto (-25), 3) := by decide +kernel
theorem dX4_runPiece_31 : decode cX4_runPiece 31 = .ok (.return_, 1) := by decide +kernel
theorem dX5_init_0 : decode cX5_init 0 = .ok (.aload_n 0, 1) := by decide +kernel
theorem dX5_init_1 : decode cX5_init 1 = .ok (.invokespecial 1, 3) := by decide +kernel
theorem dX5_init_4 : decode cX5_init 4 = .ok (.aload_n 0, 1) := by decide +kernel
theorem dX5_init_5 : decode cX5_init 5 = .ok (.iload_n 1, 1) := by decide +kernel
theorem dX5_init_6 : decode cX5_init 6 = .ok (.putfield 7, 3) := by decide +kernel
theorem dX5_init_9 : decode cX5_init 9 = .ok (.aload_n 0, 1) := by decide +kernel
theorem dX5_init_10 : decode cX5_init 10 = .ok (.iload_n 2, 1) := by decide +kernel
theorem dX5_init_11 : decode cX5_init 11 = .ok (.putfield 13, 3) := by decide +kernel
theorem dX5_init_14 : decode cX5_init 14 = .ok (.aload_n 0, 1) := by decide +kernel
theorem dX5_init_15 : decode cX5_init 15 = .ok (.iload_n 3, 1) := by decide +kernel
theorem dX5_init_16 : decode cX5_init 16 = .ok (.putfield 16, 3) := by decide +kernel
theorem dX5_init_19 : decode cX5_init 19 = .ok (.aload_n 0, 1) := by decide +kernel
theorem dX5_init_20 : decode cX5_init 20 = .ok (.iload 4, 2) := by decide +kernel
theorem dX5_init_22 : decode cX5_init 22 = .ok (.putfield 19, 3) := by decide +kernel
theorem dX5_init_25 : decode cX5_init 25 = .ok (.return_, 1) := by decide +kernel
theorem dX5_refuses_0 : decode cX5_refuses 0 = .ok (.aload_n 1, 1) := by decide +kernel
theorem dX5_refuses_1 : decode cX5_refuses 1 = .ok (.getfield 22, 3) := by decide +kernel
theorem dX5_refuses_4 : decode cX5_refuses 4 = .ok (.aload_n 0, 1) := by decide +kernel
theorem dX5_refuses_5 : decode cX5_refuses 5 = .ok (.getfield 13, 3) := by decide +kernel
theorem dX5_refuses_8 : decode cX5_refuses 8 = .ok (.iand, 1) := by decide +kernel
theorem dX5_refuses_9 : decode cX5_refuses 9 = .ok (.ifCond .ne 25, 3) := by decide +kernel
theorem dX5_refuses_12 : decode cX5_refuses 12 = .ok (.aload_n 1, 1) := by decide +kernel
theorem dX5_refuses_13 : decode cX5_refuses 13 = .ok (.getfield 27, 3) := by decide +kernel
theorem dX5_refuses_16 : decode cX5_refuses 16 = .ok (.aload_n 0, 1) := by decide +kernel
theorem dX5_refuses_17 : decode cX5_refuses 17 = .ok (.getfield 16, 3) := by decide +kernel
theorem dX5_refuses_20 : decode cX5_refuses 20 = .ok (.if_icmp .lt 14, 3) := by decide +kernel
theorem dX5_refuses_23 : decode cX5_refuses 23 = .ok (.aload_n 1, 1) := by decide +kernel
theorem dX5_refuses_24 : decode cX5_refuses 24 = .ok (.getfield 30, 3) := by decide +kernel
theorem dX5_refuses_27 : decode cX5_refuses 27 = .ok (.aload_n 0, 1) := by decide +kernel
theorem dX5_refuses_28 : decode cX5_refuses 28 = .ok (.getfield 19, 3) := by decide +kernel
theorem dX5_refuses_31 : decode cX5_refuses 31 = .ok (.if_icmp .le 7, 3) := by decide +kernel
theorem dX5_refuses_34 : decode cX5_refuses 34 = .ok (.iconst 1, 1) := by decide +kernel
theorem dX5_refuses_35 : decode cX5_refuses 35 = .ok (.goto 4, 3) := by decide +kernel
theorem dX5_refuses_38 : decode cX5_refuses 38 = .ok (.iconst 0, 1) := by decide +kernel
theorem dX5_refuses_39 : decode cX5_refuses 39 = .ok (.ireturn, 1) := by decide +kernel
theorem dX6_init_0 : decode cX6_init 0 = .ok (.aload_n 0, 1) := by decide +kernel
theorem dX6_init_1 : decode cX6_init 1 = .ok (.invokespecial 1, 3) := by decide +kernel
theorem dX6_init_4 : decode cX6_init 4 = .ok (.aload_n 0, 1) := by decide +kernel
theorem dX6_init_5 : decode cX6_init 5 = .ok (.iload_n 1, 1) := by decide +kernel
theorem dX6_init_6 : decode cX6_init 6 = .ok (.putfield 7, 3) := by decide +kernel
theorem dX6_init_9 : decode cX6_init 9 = .ok (.aload_n 0, 1) := by decide +kernel
theorem dX6_init_10 : decode cX6_init 10 = .ok (.iload_n 2, 1) := by decide +kernel
theorem dX6_init_11 : decode cX6_init 11 = .ok (.putfield 13, 3) := by decide +kernel
theorem dX6_init_14 : decode cX6_init 14 = .ok (.aload_n 0, 1) := by decide +kernel
theorem dX6_init_15 : decode cX6_init 15 = .ok (.aload_n 3, 1) := by decide +kernel
theorem dX6_init_16 : decode cX6_init 16 = .ok (.putfield 16, 3) := by decide +kernel
theorem dX6_init_19 : decode cX6_init 19 = .ok (.aload_n 0, 1) := by decide +kernel
theorem dX6_init_20 : decode cX6_init 20 = .ok (.aload 4, 2) := by decide +kernel
theorem dX6_init_22 : decode cX6_init 22 = .ok (.putfield 20, 3) := by decide +kernel
theorem dX6_init_25 : decode cX6_init 25 = .ok (.aload_n 0, 1) := by decide +kernel
theorem dX6_init_26 : decode cX6_init 26 = .ok (.iload 5, 2) := by decide +kernel
theorem dX6_init_28 : decode cX6_init 28 = .ok (.putfield 24, 3) := by decide +kernel
theorem dX6_init_31 : decode cX6_init 31 = .ok (.aload_n 0, 1) := by decide +kernel
theorem dX6_init_32 : decode cX6_init 32 = .ok (.aload_n 3, 1) := by decide +kernel
theorem dX6_init_33 : decode cX6_init 33 = .ok (.getfield 27, 3) := by decide +kernel
theorem dX6_init_36 : decode cX6_init 36 = .ok (.getfield 33, 3) := by decide +kernel
theorem dX6_init_39 : decode cX6_init 39 = .ok (.putfield 38, 3) := by decide +kernel
theorem dX6_init_42 : decode cX6_init 42 = .ok (.return_, 1) := by decide +kernel
theorem dX6_isFor_0 : decode cX6_isFor 0 = .ok (.aload_n 0, 1) := by decide +kernel
theorem dX6_isFor_1 : decode cX6_isFor 1 = .ok (.getfield 20, 3) := by decide +kernel
theorem dX6_isFor_4 : decode cX6_isFor 4 = .ok (.aload_n 1, 1) := by decide +kernel
theorem dX6_isFor_5 : decode cX6_isFor 5 = .ok (.if_acmp .ne 15, 3) := by decide +kernel
theorem dX6_isFor_8 : decode cX6_isFor 8 = .ok (.aload_n 0, 1) := by decide +kernel
theorem dX6_isFor_9 : decode cX6_isFor 9 = .ok (.getfield 13, 3) := by decide +kernel
theorem dX6_isFor_12 : decode cX6_isFor 12 = .ok (.iload_n 2, 1) := by decide +kernel
theorem dX6_isFor_13 : decode cX6_isFor 13 = .ok (.if_icmp .ne 7, 3) := by decide +kernel
theorem dX6_isFor_16 : decode cX6_isFor 16 = .ok (.iconst 1, 1) := by decide +kernel
theorem dX6_isFor_17 : decode cX6_isFor 17 = .ok (.goto 4, 3) := by decide +kernel
theorem dX6_isFor_20 : decode cX6_isFor 20 = .ok (.iconst 0, 1) := by decide +kernel
theorem dX6_isFor_21 : decode cX6_isFor 21 = .ok (.ireturn, 1) := by decide +kernel
theorem dX6_isAheadOf_0 : decode cX6_isAheadOf 0 = .ok (.aload_n 0, 1) := by decide +kernel
theorem dX6_isAheadOf_1 : decode cX6_isAheadOf 1 = .ok (.getfield 38, 3) := by decide +kernel
theorem dX6_isAheadOf_4 : decode cX6_isAheadOf 4 = .ok (.aload_n 1, 1) := by decide +kernel
theorem dX6_isAheadOf_5 : decode cX6_isAheadOf 5 = .ok (.getfield 38, 3) := by decide +kernel
theorem dX6_isAheadOf_8 : decode cX6_isAheadOf 8 = .ok (.if_icmp .lt 25, 3) := by decide +kernel
theorem dX6_isAheadOf_11 : decode cX6_isAheadOf 11 = .ok (.aload_n 0, 1) := by decide +kernel
theorem dX6_isAheadOf_12 : decode cX6_isAheadOf 12 = .ok (.getfield 38, 3) := by decide +kernel
theorem dX6_isAheadOf_15 : decode cX6_isAheadOf 15 = .ok (.aload_n 1, 1) := by decide +kernel
theorem dX6_isAheadOf_16 : decode cX6_isAheadOf 16 = .ok (.getfield 38, 3) := by decide +kernel
theorem dX6_isAheadOf_19 : decode cX6_isAheadOf 19 = .ok (.if_icmp .ne 18, 3) := by decide +kernel
theorem dX6_isAheadOf_22 : decode cX6_isAheadOf 22 = .ok (.aload_n 0, 1) := by decide +kernel
theorem dX6_isAheadOf_23 : decode cX6_isAheadOf 23 = .ok (.getfield 7, 3) := by decide +kernel
theorem dX6_isAheadOf_26 : decode cX6_isAheadOf 26 = .ok (.aload_n 1, 1) := by decide +kernel
theorem dX6_isAheadOf_27 : decode cX6_isAheadOf 27 = .ok (.getfield 7, 3) := by decide +kernel
theorem dX6_isAheadOf_30 : decode cX6_isAheadOf 30 = .ok (.if_icmp .ge 7, 3) := by decide +kernel
theorem dX6_isAheadOf_33 : decode cX6_isAheadOf 33 = .ok (.iconst 1, 1) := by decide +kernel
theorem dX6_isAheadOf_34 : decode cX6_isAheadOf 34 = .ok (.goto 4, 3) := by decide +kernel
theorem dX6_isAheadOf_37 : decode cX6_isAheadOf 37 = .ok (.iconst 0, 1) := by decide +kernel
theorem dX6_isAheadOf_38 : decode cX6_isAheadOf 38 = .ok (.ireturn, 1) := by decide +kernel
theorem dX7_init_0 : decode cX7_init 0 = .ok (.aload_n 0, 1) := by decide +kernel
theorem dX7_init_1 : decode cX7_init 1 = .ok (.invokespecial 3, 3) := by decide +kernel
theorem dX7_init_4 : decode cX7_init 4 = .ok (.aload_n 0, 1) := by decide +kernel
theorem dX7_init_5 : decode cX7_init 5 = .ok (.new 9, 3) := by decide +kernel
theorem dX7_init_8 : decode cX7_init 8 = .ok (.dup, 1) := by decide +kernel
theorem dX7_init_9 : decode cX7_init 9 = .ok (.invokespecial 11, 3) := by decide +kernel
theorem dX7_init_12 : decode cX7_init 12 = .ok (.putfield 12, 3) := by decide +kernel
theorem dX7_init_15 : decode cX7_init 15 = .ok (.aload_n 0, 1) := by decide +kernel
theorem dX7_init_16 : decode cX7_init 16 = .ok (.new 9, 3) := by decide +kernel
theorem dX7_init_19 : decode cX7_init 19 = .ok (.dup, 1) := by decide +kernel
theorem dX7_init_20 : decode cX7_init 20 = .ok (.invokespecial 11, 3) := by decide +kernel
theorem dX7_init_23 : decode cX7_init 23 = .ok (.putfield 16, 3) := by decide +kernel
theorem dX7_init_26 : decode cX7_init 26 = .ok (.aload_n 0, 1) := by decide +kernel
theorem dX7_init_27 : decode cX7_init 27 = .ok (.new 9, 3) := by decide +kernel
theorem dX7_init_30 : decode cX7_init 30 = .ok (.dup, 1) := by decide +kernel
theorem dX7_init_31 : decode cX7_init 31 = .ok (.invokespecial 11, 3) := by decide +kernel
theorem dX7_init_34 : decode cX7_init 34 = .ok (.putfield 19, 3) := by decide +kernel
theorem dX7_init_37 : decode cX7_init 37 = .ok (.aload_n 0, 1) := by decide +kernel
theorem dX7_init_38 : decode cX7_init 38 = .ok (.new 9, 3) := by decide +kernel
theorem dX7_init_41 : decode cX7_init 41 = .ok (.dup, 1) := by decide +kernel
theorem dX7_init_42 : decode cX7_init 42 = .ok (.invokespecial 11, 3) := by decide +kernel
theorem dX7_init_45 : decode cX7_init 45 = .ok (.putfield 22, 3) := by decide +kernel
theorem dX7_init_48 : decode cX7_init 48 = .ok (.aload_n 0, 1) := by decide +kernel
theorem dX7_init_49 : decode cX7_init 49 = .ok (.new 9, 3) := by decide +kernel
theorem dX7_init_52 : decode cX7_init 52 = .ok (.dup, 1) := by decide +kernel
theorem dX7_init_53 : decode cX7_init 53 = .ok (.invokespecial 11, 3) := by decide +kernel
theorem dX7_init_56 : decode cX7_init 56 = .ok (.putfield 25, 3) := by decide +kernel
theorem dX7_init_59 : decode cX7_init 59 = .ok (.aload_n 0, 1) := by decide +kernel
theorem dX7_init_60 : decode cX7_init 60 = .ok (.new 28, 3) := by decide +kernel
theorem dX7_init_63 : decode cX7_init 63 = .ok (.dup, 1) := by decide +kernel
theorem dX7_init_64 : decode cX7_init 64 = .ok (.invokespecial 30, 3) := by decide +kernel
theorem dX7_init_67 : decode cX7_init 67 = .ok (.putfield 31, 3) := by decide +kernel
theorem dX7_init_70 : decode cX7_init 70 = .ok (.aload_n 0, 1) := by decide +kernel
theorem dX7_init_71 : decode cX7_init 71 = .ok (.sipush 1024, 3) := by decide +kernel
theorem dX7_init_74 : decode cX7_init 74 = .ok (.newarray .int, 2) := by decide +kernel
theorem dX7_init_76 : decode cX7_init 76 = .ok (.putfield 35, 3) := by decide +kernel
theorem dX7_init_79 : decode cX7_init 79 = .ok (.aload_n 0, 1) := by decide +kernel
theorem dX7_init_80 : decode cX7_init 80 = .ok (.sipush 1024, 3) := by decide +kernel
theorem dX7_init_83 : decode cX7_init 83 = .ok (.newarray .int, 2) := by decide +kernel
theorem dX7_init_85 : decode cX7_init 85 = .ok (.putfield 39, 3) := by decide +kernel
theorem dX7_init_88 : decode cX7_init 88 = .ok (.aload_n 0, 1) := by decide +kernel
theorem dX7_init_89 : decode cX7_init 89 = .ok (.iconst 0, 1) := by decide +kernel
theorem dX7_init_90 : decode cX7_init 90 = .ok (.putfield 42, 3) := by decide +kernel
theorem dX7_init_93 : decode cX7_init 93 = .ok (.return_, 1) := by decide +kernel
theorem dX7_level_0 : decode cX7_level 0 = .ok (.aload_n 0, 1) := by decide +kernel
theorem dX7_level_1 : decode cX7_level 1 = .ok (.getfield 12, 3) := by decide +kernel
theorem dX7_level_4 : decode cX7_level 4 = .ok (.invokevirtual 46, 3) := by decide +kernel
theorem dX7_level_7 : decode cX7_level 7 = .ok (.iconst 3, 1) := by decide +kernel
theorem dX7_level_8 : decode cX7_level 8 = .ok (.if_icmp .lt 13, 3) := by decide +kernel
theorem dX7_level_11 : decode cX7_level 11 = .ok (.new 50, 3) := by decide +kernel
theorem dX7_level_14 : decode cX7_level 14 = .ok (.dup, 1) := by decide +kernel
theorem dX7_level_15 : decode cX7_level 15 = .ok (.ldc 52, 2) := by decide +kernel
theorem dX7_level_17 : decode cX7_level 17 = .ok (.invokespecial 54, 3) := by decide +kernel
theorem dX7_level_20 : decode cX7_level 20 = .ok (.athrow, 1) := by decide +kernel
theorem dX7_level_21 : decode cX7_level 21 = .ok (.aload_n 0, 1) := by decide +kernel
theorem dX7_level_22 : decode cX7_level 22 = .ok (.getfield 12, 3) := by decide +kernel
theorem dX7_level_25 : decode cX7_level 25 = .ok (.new 57, 3) := by decide +kernel
theorem dX7_level_28 : decode cX7_level 28 = .ok (.dup, 1) := by decide +kernel
theorem dX7_level_29 : decode cX7_level 29 = .ok (.invokespecial 59, 3) := by decide +kernel
theorem dX7_level_32 : decode cX7_level 32 = .ok (.invokevirtual 60, 3) := by decide +kernel
theorem dX7_level_35 : decode cX7_level 35 = .ok (.pop, 1) := by decide +kernel
theorem dX7_level_36 : decode cX7_level 36 = .ok (.aload_n 0, 1) := by decide +kernel
theorem dX7_level_37 : decode cX7_level 37 = .ok (.getfield 12, 3) := by decide +kernel
theorem dX7_level_40 : decode cX7_level 40 = .ok (.invokevirtual 46, 3) := by decide +kernel
theorem dX7_level_43 : decode cX7_level 43 = .ok (.iconst 1, 1) := by decide +kernel
theorem dX7_level_44 : decode cX7_level 44 = .ok (.isub, 1) := by decide +kernel
theorem dX7_level_45 : decode cX7_level 45 = .ok (.ireturn, 1) := by decide +kernel
theorem dX7_column_0 : decode cX7_column 0 = .ok (.aload_n 0, 1) := by decide +kernel
theorem dX7_column_1 : decode cX7_column 1 = .ok (.iload_n 1, 1) := by decide +kernel
theorem dX7_column_2 : decode cX7_column 2 = .ok (.invokevirtual 64, 3) := by decide +kernel
theorem dX7_column_5 : decode cX7_column 5 = .ok (.astore 5, 2) := by decide +kernel
theorem dX7_column_7 : decode cX7_column 7 = .ok (.iload_n 2, 1) := by decide +kernel
theorem dX7_column_8 : decode cX7_column 8 = .ok (.iconst 0, 1) := by decide +kernel
theorem dX7_column_9 : decode cX7_column 9 = .ok (.bipush 31, 2) := by decide +kernel
theorem dX7_column_11 : decode cX7_column 11 = .ok (.invokestatic 68, 3) := by decide +kernel
theorem dX7_column_14 : decode cX7_column 14 = .ok (.ifCond .ne 13, 3) := by decide +kernel
theorem dX7_column_17 : decode cX7_column 17 = .ok (.new 72, 3) := by decide +kernel
theorem dX7_column_20 : decode cX7_column 20 = .ok (.dup, 1) := by decide +kernel
theorem dX7_column_21 : decode cX7_column 21 = .ok (.ldc 74, 2) := by decide +kernel
theorem dX7_column_23 : decode cX7_column 23 = .ok (.invokespecial 76, 3) := by decide +kernel
theorem dX7_column_26 : decode cX7_column 26 = .ok (.athrow, 1) := by decide +kernel
theorem dX7_column_27 : decode cX7_column 27 = .ok (.iload_n 3, 1) := by decide +kernel
theorem dX7_column_28 : decode cX7_column 28 = .ok (.iconst (-1), 1) := by decide +kernel
theorem dX7_column_29 : decode cX7_column 29 = .ok (.bipush 6, 2) := by decide +kernel
theorem dX7_column_31 : decode cX7_column 31 = .ok (.invokestatic 68, 3) := by decide +kernel
theorem dX7_column_34 : decode cX7_column 34 = .ok (.invokestatic 77, 3) := by decide +kernel
theorem dX7_column_37 : decode cX7_column 37 = .ok (.iload 4, 2) := by decide +kernel
theorem dX7_column_39 : decode cX7_column 39 = .ok (.iconst 0, 1) := by decide +kernel
theorem dX7_column_40 : decode cX7_column 40 = .ok (.iconst 2, 1) := by decide +kernel
theorem dX7_column_41 : decode cX7_column 41 = .ok (.invokestatic 68, 3) := by decide +kernel
theorem dX7_column_44 : decode cX7_column 44 = .ok (.invokestatic 77, 3) := by decide +kernel
theorem dX7_column_47 : decode cX7_column 47 = .ok (.aload_n 0, 1) := by decide +kernel
theorem dX7_column_48 : decode cX7_column 48 = .ok (.aload 5, 2) := by decide +kernel
theorem dX7_column_50 : decode cX7_column 50 = .ok (.invokevirtual 81, 3) := by decide +kernel
theorem dX7_column_53 : decode cX7_column 53 = .ok (.ifCond .eq 13, 3) := by decide +kernel
theorem dX7_column_56 : decode cX7_column 56 = .ok (.new 50, 3) := by decide +kernel
theorem dX7_column_59 : decode cX7_column 59 = .ok (.dup, 1) := by decide +kernel
theorem dX7_column_60 : decode cX7_column 60 = .ok (.ldc 85, 2) := by decide +kernel
theorem dX7_column_62 : decode cX7_column 62 = .ok (.invokespecial 54, 3) := by decide +kernel
theorem dX7_column_65 : decode cX7_column 65 = .ok (.athrow, 1) := by decide +kernel
theorem dX7_column_66 : decode cX7_column 66 = .ok (.aload 5, 2) := by decide +kernel
theorem dX7_column_68 : decode cX7_column 68 = .ok (.iload_n 2, 1) := by decide +kernel
theorem dX7_column_69 : decode cX7_column 69 = .ok (.iload_n 3, 1) := by decide +kernel
theorem dX7_column_70 : decode cX7_column 70 = .ok (.iload 4, 2) := by decide +kernel
theorem dX7_column_72 : decode cX7_column 72 = .ok (.invokevirtual 87, 3) := by decide +kernel
theorem dX7_column_75 : decode cX7_column 75 = .ok (.return_, 1) := by decide +kernel
theorem dX7_replay_0 : decode cX7_replay 0 = .ok (.aload_n 0, 1) := by decide +kernel
theorem dX7_replay_1 : decode cX7_replay 1 = .ok (.iload_n 1, 1) := by decide +kernel
theorem dX7_replay_2 : decode cX7_replay 2 = .ok (.invokevirtual 64, 3) := by decide +kernel
theorem dX7_replay_5 : decode cX7_replay 5 = .ok (.astore_n 2, 1) := by decide +kernel
theorem dX7_replay_6 : decode cX7_replay 6 = .ok (.aload_n 0, 1) := by decide +kernel
theorem dX7_replay_7 : decode cX7_replay 7 = .ok (.getfield 16, 3) := by decide +kernel
theorem dX7_replay_10 : decode cX7_replay 10 = .ok (.invokevirtual 46, 3) := by decide +kernel
theorem dX7_replay_13 : decode cX7_replay 13 = .ok (.bipush 20, 2) := by decide +kernel
theorem dX7_replay_15 : decode cX7_replay 15 = .ok (.if_icmp .lt 13, 3) := by decide +kernel
theorem dX7_replay_18 : decode cX7_replay 18 = .ok (.new 50, 3) := by decide +kernel
theorem dX7_replay_21 : decode cX7_replay 21 = .ok (.dup, 1) := by decide +kernel
theorem dX7_replay_22 : decode cX7_replay 22 = .ok (.ldc 91, 2) := by decide +kernel
theorem dX7_replay_24 : decode cX7_replay 24 = .ok (.invokespecial 54, 3) := by decide +kernel
theorem dX7_replay_27 : decode cX7_replay 27 = .ok (.athrow, 1) := by decide +kernel
theorem dX7_replay_28 : decode cX7_replay 28 = .ok (.aload_n 0, 1) := by decide +kernel
theorem dX7_replay_29 : decode cX7_replay 29 = .ok (.getfield 16, 3) := by decide +kernel
theorem dX7_replay_32 : decode cX7_replay 32 = .ok (.new 93, 3) := by decide +kernel
theorem dX7_replay_35 : decode cX7_replay 35 = .ok (.dup, 1) := by decide +kernel
theorem dX7_replay_36 : decode cX7_replay 36 = .ok (.aload_n 2, 1) := by decide +kernel
theorem dX7_replay_37 : decode cX7_replay 37 = .ok (.invokespecial 95, 3) := by decide +kernel
theorem dX7_replay_40 : decode cX7_replay 40 = .ok (.invokevirtual 60, 3) := by decide +kernel
theorem dX7_replay_43 : decode cX7_replay 43 = .ok (.pop, 1) := by decide +kernel
theorem dX7_replay_44 : decode cX7_replay 44 = .ok (.aload_n 0, 1) := by decide +kernel
theorem dX7_replay_45 : decode cX7_replay 45 = .ok (.getfield 16, 3) := by decide +kernel
theorem dX7_replay_48 : decode cX7_replay 48 = .ok (.invokevirtual 46, 3) := by decide +kernel
theorem dX7_replay_51 : decode cX7_replay 51 = .ok (.iconst 1, 1) := by decide +kernel
theorem dX7_replay_52 : decode cX7_replay 52 = .ok (.isub, 1) := by decide +kernel
theorem dX7_replay_53 : decode cX7_replay 53 = .ok (.ireturn, 1) := by decide +kernel
theorem dX7_input_0 : decode cX7_input 0 = .ok (.aload_n 0, 1) := by decide +kernel
theorem dX7_input_1 : decode cX7_input 1 = .ok (.iload_n 1, 1) := by decide +kernel
theorem dX7_input_2 : decode cX7_input 2 = .ok (.invokevirtual 98, 3) := by decide +kernel
theorem dX7_input_5 : decode cX7_input 5 = .ok (.astore 4, 2) := by decide +kernel
theorem dX7_input_7 : decode cX7_input 7 = .ok (.iload_n 2, 1) := by decide +kernel
theorem dX7_input_8 : decode cX7_input 8 = .ok (.iconst 0, 1) := by decide +kernel
theorem dX7_input_9 : decode cX7_input 9 = .ok (.bipush 15, 2) := by decide +kernel
theorem dX7_input_11 : decode cX7_input 11 = .ok (.invokestatic 68, 3) := by decide +kernel
theorem dX7_input_14 : decode cX7_input 14 = .ok (.invokestatic 77, 3) := by decide +kernel
theorem dX7_input_17 : decode cX7_input 17 = .ok (.iload_n 3, 1) := by decide +kernel
theorem dX7_input_18 : decode cX7_input 18 = .ok (.iconst 1, 1) := by decide +kernel
theorem dX7_input_19 : decode cX7_input 19 = .ok (.bipush 100, 2) := by decide +kernel
theorem dX7_input_21 : decode cX7_input 21 = .ok (.invokestatic 68, 3) := by decide +kernel
theorem dX7_input_24 : decode cX7_input 24 = .ok (.invokestatic 77, 3) := by decide +kernel
theorem dX7_input_27 : decode cX7_input 27 = .ok (.aload 4, 2) := by decide +kernel
theorem dX7_input_29 : decode cX7_input 29 = .ok (.getfield 102, 3) := by decide +kernel
theorem dX7_input_32 : decode cX7_input 32 = .ok (.ifCond .ne 12, 3) := by decide +kernel
theorem dX7_input_35 : decode cX7_input 35 = .ok (.aload 4, 2) := by decide +kernel
theorem dX7_input_37 : decode cX7_input 37 = .ok (.iload_n 3, 1) := by decide +kernel
theorem dX7_input_38 : decode cX7_input 38 = .ok (.invokevirtual 106, 3) := by decide +kernel
theorem dX7_input_41 : decode cX7_input 41 = .ok (.ifCond .ne 13, 3) := by decide +kernel
theorem dX7_input_44 : decode cX7_input 44 = .ok (.new 50, 3) := by decide +kernel
theorem dX7_input_47 : decode cX7_input 47 = .ok (.dup, 1) := by decide +kernel
theorem dX7_input_48 : decode cX7_input 48 = .ok (.ldc 110, 2) := by decide +kernel
theorem dX7_input_50 : decode cX7_input 50 = .ok (.invokespecial 54, 3) := by decide +kernel
theorem dX7_input_53 : decode cX7_input 53 = .ok (.athrow, 1) := by decide +kernel
theorem dX7_input_54 : decode cX7_input 54 = .ok (.aload 4, 2) := by decide +kernel
theorem dX7_input_56 : decode cX7_input 56 = .ok (.iload_n 2, 1) := by decide +kernel
theorem dX7_input_57 : decode cX7_input 57 = .ok (.iload_n 3, 1) := by decide +kernel
theorem dX7_input_58 : decode cX7_input 58 = .ok (.invokevirtual 112, 3) := by decide +kernel
theorem dX7_input_61 : decode cX7_input 61 = .ok (.aload 4, 2) := by decide +kernel
theorem dX7_input_63 : decode cX7_input 63 = .ok (.getfield 116, 3) := by decide +kernel
theorem dX7_input_66 : decode cX7_input 66 = .ok (.ireturn, 1) := by decide +kernel
theorem dX7_result_0 : decode cX7_result 0 = .ok (.aload_n 0, 1) := by decide +kernel
theorem dX7_result_1 : decode cX7_result 1 = .ok (.iload_n 1, 1) := by decide +kernel
theorem dX7_result_2 : decode cX7_result 2 = .ok (.invokevirtual 98, 3) := by decide +kernel
theorem dX7_result_5 : decode cX7_result 5 = .ok (.getfield 119, 3) := by decide +kernel
theorem dX7_result_8 : decode cX7_result 8 = .ok (.astore_n 2, 1) := by decide +kernel
theorem dX7_result_9 : decode cX7_result 9 = .ok (.bipush 10, 2) := by decide +kernel
theorem dX7_result_11 : decode cX7_result 11 = .ok (.aload_n 2, 1) := by decide +kernel
theorem dX7_result_12 : decode cX7_result 12 = .ok (.getfield 122, 3) := by decide +kernel
theorem dX7_result_15 : decode cX7_result 15 = .ok (.imul, 1) := by decide +kernel
theorem dX7_result_16 : decode cX7_result 16 = .ok (.aload_n 2, 1) := by decide +kernel
theorem dX7_result_17 : decode cX7_result 17 = .ok (.getfield 125, 3) := by decide +kernel
theorem dX7_result_20 : decode cX7_result 20 = .ok (.iadd, 1) := by decide +kernel
theorem dX7_result_21 : decode cX7_result 21 = .ok (.ireturn, 1) := by decide +kernel
theorem dX7_used_0 : decode cX7_used 0 = .ok (.aload_n 0, 1) := by decide +kernel
theorem dX7_used_1 : decode cX7_used 1 = .ok (.iload_n 1, 1) := by decide +kernel
theorem dX7_used_2 : decode cX7_used 2 = .ok (.invokevirtual 98, 3) := by decide +kernel
theorem dX7_used_5 : decode cX7_used 5 = .ok (.getfield 119, 3) := by decide +kernel
theorem dX7_used_8 : decode cX7_used 8 = .ok (.astore_n 2, 1) := by decide +kernel
theorem dX7_used_9 : decode cX7_used 9 = .ok (.sipush 10000, 3) := by decide +kernel
theorem dX7_used_12 : decode cX7_used 12 = .ok (.aload_n 2, 1) := by decide +kernel
theorem dX7_used_13 : decode cX7_used 13 = .ok (.getfield 128, 3) := by decide +kernel
theorem dX7_used_16 : decode cX7_used 16 = .ok (.imul, 1) := by decide +kernel
theorem dX7_used_17 : decode cX7_used 17 = .ok (.bipush 10, 2) := by decide +kernel
theorem dX7_used_19 : decode cX7_used 19 = .ok (.aload_n 2, 1) := by decide +kernel
theorem dX7_used_20 : decode cX7_used 20 = .ok (.getfield 131, 3) := by decide +kernel
theorem dX7_used_23 : decode cX7_used 23 = .ok (.imul, 1) := by decide +kernel
theorem dX7_used_24 : decode cX7_used 24 = .ok (.iadd, 1) := by decide +kernel
theorem dX7_used_25 : decode cX7_used 25 = .ok (.aload_n 2, 1) := by decide +kernel
theorem dX7_used_26 : decode cX7_used 26 = .ok (.getfield 134, 3) := by decide +kernel
theorem dX7_used_29 : decode cX7_used 29 = .ok (.iadd, 1) := by decide +kernel
theorem dX7_used_30 : decode cX7_used 30 = .ok (.ireturn, 1) := by decide +kernel
theorem dX7_where_0 : decode cX7_where 0 = .ok (.aload_n 0, 1) := by decide +kernel
theorem dX7_where_1 : decode cX7_where 1 = .ok (.iload_n 1, 1) := by decide +kernel
theorem dX7_where_2 : decode cX7_where 2 = .ok (.invokevirtual 98, 3) := by decide +kernel
theorem dX7_where_5 : decode cX7_where 5 = .ok (.astore_n 3, 1) := by decide +kernel
theorem dX7_where_6 : decode cX7_where 6 = .ok (.iload_n 2, 1) := by decide +kernel
theorem dX7_where_7 : decode cX7_where 7 = .ok (.iconst 0, 1) := by decide +kernel
theorem dX7_where_8 : decode cX7_where 8 = .ok (.aload_n 3, 1) := by decide +kernel
theorem dX7_where_9 : decode cX7_where 9 = .ok (.getfield 119, 3) := by decide +kernel
theorem dX7_where_12 : decode cX7_where 12 = .ok (.getfield 122, 3) := by decide +kernel
theorem dX7_where_15 : decode cX7_where 15 = .ok (.invokestatic 68, 3) := by decide +kernel
theorem dX7_where_18 : decode cX7_where 18 = .ok (.ifCond .ne 13, 3) := by decide +kernel
theorem dX7_where_21 : decode cX7_where 21 = .ok (.new 72, 3) := by decide +kernel
theorem dX7_where_24 : decode cX7_where 24 = .ok (.dup, 1) := by decide +kernel
theorem dX7_where_25 : decode cX7_where 25 = .ok (.ldc 137, 2) := by decide +kernel
theorem dX7_where_27 : decode cX7_where 27 = .ok (.invokespecial 76, 3) := by decide +kernel
theorem dX7_where_30 : decode cX7_where 30 = .ok (.athrow, 1) := by decide +kernel
theorem dX7_where_31 : decode cX7_where 31 = .ok (.aload_n 3, 1) := by decide +kernel
theorem dX7_where_32 : decode cX7_where 32 = .ok (.aload_n 0, 1) := by decide +kernel
theorem dX7_where_33 : decode cX7_where 33 = .ok (.getfield 31, 3) := by decide +kernel
theorem dX7_where_36 : decode cX7_where 36 = .ok (.iload_n 2, 1) := by decide +kernel
theorem dX7_where_37 : decode cX7_where 37 = .ok (.invokevirtual 139, 3) := by decide +kernel
theorem dX7_where_40 : decode cX7_where 40 = .ok (.sipush 1000, 3) := by decide +kernel
theorem dX7_where_43 : decode cX7_where 43 = .ok (.aload_n 0, 1) := by decide +kernel
theorem dX7_where_44 : decode cX7_where 44 = .ok (.getfield 31, 3) := by decide +kernel
theorem dX7_where_47 : decode cX7_where 47 = .ok (.getfield 143, 3) := by decide +kernel
theorem dX7_where_50 : decode cX7_where 50 = .ok (.imul, 1) := by decide +kernel
theorem dX7_where_51 : decode cX7_where 51 = .ok (.aload_n 0, 1) := by decide +kernel
theorem dX7_where_52 : decode cX7_where 52 = .ok (.getfield 31, 3) := by decide +kernel
theorem dX7_where_55 : decode cX7_where 55 = .ok (.getfield 146, 3) := by decide +kernel
theorem dX7_where_58 : decode cX7_where 58 = .ok (.iadd, 1) := by decide +kernel
theorem dX7_where_59 : decode cX7_where 59 = .ok (.ireturn, 1) := by decide +kernel
theorem dX7_isWithin_0 : decode cX7_isWithin 0 = .ok (.iload_n 0, 1) := by decide +kernel
theorem dX7_isWithin_1 : decode cX7_isWithin 1 = .ok (.iload_n 1, 1) := by decide +kernel
theorem dX7_isWithin_2 : decode cX7_isWithin 2 = .ok (.if_icmp .lt 12, 3) := by decide +kernel
theorem dX7_isWithin_5 : decode cX7_isWithin 5 = .ok (.iload_n 0, 1) := by decide +kernel
theorem dX7_isWithin_6 : decode cX7_isWithin 6 = .ok (.iload_n 2, 1) := by decide +kernel
theorem dX7_isWithin_7 : decode cX7_isWithin 7 = .ok (.if_icmp .gt 7, 3) := by decide +kernel
theorem dX7_isWithin_10 : decode cX7_isWithin 10 = .ok (.iconst 1, 1) := by decide +kernel
theorem dX7_isWithin_11 : decode cX7_isWithin 11 = .ok (.goto 4, 3) := by decide +kernel
theorem dX7_isWithin_14 : decode cX7_isWithin 14 = .ok (.iconst 0, 1) := by decide +kernel
theorem dX7_isWithin_15 : decode cX7_isWithin 15 = .ok (.ireturn, 1) := by decide +kernel
theorem dX7_requireArgument_0 : decode cX7_requireArgument 0 = .ok (.iload_n 0, 1) := by decide +kernel
theorem dX7_requireArgument_1 : decode cX7_requireArgument 1 = .ok (.ifCond .ne 13, 3) := by decide +kernel
theorem dX7_requireArgument_4 : decode cX7_requireArgument 4 = .ok (.new 149, 3) := by decide +kernel
theorem dX7_requireArgument_7 : decode cX7_requireArgument 7 = .ok (.dup, 1) := by decide +kernel
theorem dX7_requireArgument_8 : decode cX7_requireArgument 8 = .ok (.ldc 151, 2) := by decide +kernel
theorem dX7_requireArgument_10 : decode cX7_requireArgument 10 = .ok (.invokespecial 153, 3) := by decide +kernel
theorem dX7_requireArgument_13 : decode cX7_requireArgument 13 = .ok (.athrow, 1) := by decide +kernel
theorem dX7_requireArgument_14 : decode cX7_requireArgument 14 = .ok (.return_, 1) := by decide +kernel
theorem dX7_levelOf_0 : decode cX7_levelOf 0 = .ok (.iload_n 1, 1) := by decide +kernel
theorem dX7_levelOf_1 : decode cX7_levelOf 1 = .ok (.iconst 0, 1) := by decide +kernel
theorem dX7_levelOf_2 : decode cX7_levelOf 2 = .ok (.aload_n 0, 1) := by decide +kernel
theorem dX7_levelOf_3 : decode cX7_levelOf 3 = .ok (.getfield 12, 3) := by decide +kernel
theorem dX7_levelOf_6 : decode cX7_levelOf 6 = .ok (.invokevirtual 46, 3) := by decide +kernel
theorem dX7_levelOf_9 : decode cX7_levelOf 9 = .ok (.iconst 1, 1) := by decide +kernel
theorem dX7_levelOf_10 : decode cX7_levelOf 10 = .ok (.isub, 1) := by decide +kernel
theorem dX7_levelOf_11 : decode cX7_levelOf 11 = .ok (.invokestatic 68, 3) := by decide +kernel
theorem dX7_levelOf_14 : decode cX7_levelOf 14 = .ok (.ifCond .ne 13, 3) := by decide +kernel
theorem dX7_levelOf_17 : decode cX7_levelOf 17 = .ok (.new 72, 3) := by decide +kernel
theorem dX7_levelOf_20 : decode cX7_levelOf 20 = .ok (.dup, 1) := by decide +kernel
theorem dX7_levelOf_21 : decode cX7_levelOf 21 = .ok (.ldc 154, 2) := by decide +kernel
theorem dX7_levelOf_23 : decode cX7_levelOf 23 = .ok (.invokespecial 76, 3) := by decide +kernel
theorem dX7_levelOf_26 : decode cX7_levelOf 26 = .ok (.athrow, 1) := by decide +kernel
theorem dX7_levelOf_27 : decode cX7_levelOf 27 = .ok (.aload_n 0, 1) := by decide +kernel
theorem dX7_levelOf_28 : decode cX7_levelOf 28 = .ok (.getfield 12, 3) := by decide +kernel
theorem dX7_levelOf_31 : decode cX7_levelOf 31 = .ok (.iload_n 1, 1) := by decide +kernel
theorem dX7_levelOf_32 : decode cX7_levelOf 32 = .ok (.invokevirtual 156, 3) := by decide +kernel
theorem dX7_levelOf_35 : decode cX7_levelOf 35 = .ok (.checkcast 57, 3) := by decide +kernel
theorem dX7_levelOf_38 : decode cX7_levelOf 38 = .ok (.areturn, 1) := by decide +kernel
theorem dX7_replayOf_0 : decode cX7_replayOf 0 = .ok (.iload_n 1, 1) := by decide +kernel
theorem dX7_replayOf_1 : decode cX7_replayOf 1 = .ok (.iconst 0, 1) := by decide +kernel
theorem dX7_replayOf_2 : decode cX7_replayOf 2 = .ok (.aload_n 0, 1) := by decide +kernel
theorem dX7_replayOf_3 : decode cX7_replayOf 3 = .ok (.getfield 16, 3) := by decide +kernel
theorem dX7_replayOf_6 : decode cX7_replayOf 6 = .ok (.invokevirtual 46, 3) := by decide +kernel
theorem dX7_replayOf_9 : decode cX7_replayOf 9 = .ok (.iconst 1, 1) := by decide +kernel
theorem dX7_replayOf_10 : decode cX7_replayOf 10 = .ok (.isub, 1) := by decide +kernel
theorem dX7_replayOf_11 : decode cX7_replayOf 11 = .ok (.invokestatic 68, 3) := by decide +kernel
theorem dX7_replayOf_14 : decode cX7_replayOf 14 = .ok (.ifCond .ne 13, 3) := by decide +kernel
theorem dX7_replayOf_17 : decode cX7_replayOf 17 = .ok (.new 72, 3) := by decide +kernel
theorem dX7_replayOf_20 : decode cX7_replayOf 20 = .ok (.dup, 1) := by decide +kernel
theorem dX7_replayOf_21 : decode cX7_replayOf 21 = .ok (.ldc 160, 2) := by decide +kernel
theorem dX7_replayOf_23 : decode cX7_replayOf 23 = .ok (.invokespecial 76, 3) := by decide +kernel
theorem dX7_replayOf_26 : decode cX7_replayOf 26 = .ok (.athrow, 1) := by decide +kernel
theorem dX7_replayOf_27 : decode cX7_replayOf 27 = .ok (.aload_n 0, 1) := by decide +kernel
theorem dX7_replayOf_28 : decode cX7_replayOf 28 = .ok (.getfield 16, 3) := by decide +kernel
theorem dX7_replayOf_31 : decode cX7_replayOf 31 = .ok (.iload_n 1, 1) := by decide +kernel
theorem dX7_replayOf_32 : decode cX7_replayOf 32 = .ok (.invokevirtual 156, 3) := by decide +kernel
theorem dX7_replayOf_35 : decode cX7_replayOf 35 = .ok (.checkcast 93, 3) := by decide +kernel
theorem dX7_replayOf_38 : decode cX7_replayOf 38 = .ok (.areturn, 1) := by decide +kernel
theorem dX7_hasReplay_0 : decode cX7_hasReplay 0 = .ok (.iconst 0, 1) := by decide +kernel
theorem dX7_hasReplay_1 : decode cX7_hasReplay 1 = .ok (.istore_n 2, 1) := by decide +kernel
theorem dX7_hasReplay_2 : decode cX7_hasReplay 2 = .ok (.iload_n 2, 1) := by decide +kernel
theorem dX7_hasReplay_3 : decode cX7_hasReplay 3 = .ok (.aload_n 0, 1) := by decide +kernel
theorem dX7_hasReplay_4 : decode cX7_hasReplay 4 = .ok (.getfield 16, 3) := by decide +kernel
theorem dX7_hasReplay_7 : decode cX7_hasReplay 7 = .ok (.invokevirtual 46, 3) := by decide +kernel
theorem dX7_hasReplay_10 : decode cX7_hasReplay 10 = .ok (.if_icmp .ge 29, 3) := by decide +kernel
theorem dX7_hasReplay_13 : decode cX7_hasReplay 13 = .ok (.aload_n 0, 1) := by decide +kernel
theorem dX7_hasReplay_14 : decode cX7_hasReplay 14 = .ok (.getfield 16, 3) := by decide +kernel
theorem dX7_hasReplay_17 : decode cX7_hasReplay 17 = .ok (.iload_n 2, 1) := by decide +kernel
theorem dX7_hasReplay_18 : decode cX7_hasReplay 18 = .ok (.invokevirtual 156, 3) := by decide +kernel
theorem dX7_hasReplay_21 : decode cX7_hasReplay 21 = .ok (.checkcast 93, 3) := by decide +kernel
theorem dX7_hasReplay_24 : decode cX7_hasReplay 24 = .ok (.getfield 162, 3) := by decide +kernel
theorem dX7_hasReplay_27 : decode cX7_hasReplay 27 = .ok (.aload_n 1, 1) := by decide +kernel
theorem dX7_hasReplay_28 : decode cX7_hasReplay 28 = .ok (.if_acmp .ne 5, 3) := by decide +kernel
theorem dX7_hasReplay_31 : decode cX7_hasReplay 31 = .ok (.iconst 1, 1) := by decide +kernel
theorem dX7_hasReplay_32 : decode cX7_hasReplay 32 = .ok (.ireturn, 1) := by decide +kernel
theorem dX7_hasReplay_33 : decode cX7_hasReplay 33 = .ok (.iinc 2 1, 3) := by decide +kernel
theorem dX7_hasReplay_36 : decode cX7_hasReplay 36 = .ok (.goto (-34), 3) := by decide +kernel
theorem dX7_hasReplay_39 : decode cX7_hasReplay 39 = .ok (.iconst 0, 1) := by decide +kernel
theorem dX7_hasReplay_40 : decode cX7_hasReplay 40 = .ok (.ireturn, 1) := by decide +kernel
theorem dX7_category_0 : decode cX7_category 0 = .ok (.aload_n 0, 1) := by decide +kernel
theorem dX7_category_1 : decode cX7_category 1 = .ok (.iload_n 1, 1) := by decide +kernel
theorem dX7_category_2 : decode cX7_category 2 = .ok (.invokevirtual 64, 3) := by decide +kernel
theorem dX7_category_5 : decode cX7_category 5 = .ok (.astore_n 2, 1) := by decide +kernel
theorem dX7_category_6 : decode cX7_category 6 = .ok (.aload_n 0, 1) := by decide +kernel
theorem dX7_category_7 : decode cX7_category 7 = .ok (.getfield 19, 3) := by decide +kernel
theorem dX7_category_10 : decode cX7_category 10 = .ok (.invokevirtual 46, 3) := by decide +kernel
theorem dX7_category_13 : decode cX7_category 13 = .ok (.bipush 6, 2) := by decide +kernel
theorem dX7_category_15 : decode cX7_category 15 = .ok (.if_icmp .lt 13, 3) := by decide +kernel
theorem dX7_category_18 : decode cX7_category 18 = .ok (.new 50, 3) := by decide +kernel
theorem dX7_category_21 : decode cX7_category 21 = .ok (.dup, 1) := by decide +kernel
theorem dX7_category_22 : decode cX7_category 22 = .ok (.ldc 166, 2) := by decide +kernel
theorem dX7_category_24 : decode cX7_category 24 = .ok (.invokespecial 54, 3) := by decide +kernel
theorem dX7_category_27 : decode cX7_category 27 = .ok (.athrow, 1) := by decide +kernel
theorem dX7_category_28 : decode cX7_category 28 = .ok (.aload_n 0, 1) := by decide +kernel
theorem dX7_category_29 : decode cX7_category 29 = .ok (.getfield 19, 3) := by decide +kernel
theorem dX7_category_32 : decode cX7_category 32 = .ok (.new 168, 3) := by decide +kernel
theorem dX7_category_35 : decode cX7_category 35 = .ok (.dup, 1) := by decide +kernel
theorem dX7_category_36 : decode cX7_category 36 = .ok (.aload_n 2, 1) := by decide +kernel
theorem dX7_category_37 : decode cX7_category 37 = .ok (.invokespecial 170, 3) := by decide +kernel
theorem dX7_category_40 : decode cX7_category 40 = .ok (.invokevirtual 60, 3) := by decide +kernel
theorem dX7_category_43 : decode cX7_category 43 = .ok (.pop, 1) := by decide +kernel
theorem dX7_category_44 : decode cX7_category 44 = .ok (.aload_n 0, 1) := by decide +kernel
theorem dX7_category_45 : decode cX7_category 45 = .ok (.getfield 19, 3) := by decide +kernel
theorem dX7_category_48 : decode cX7_category 48 = .ok (.invokevirtual 46, 3) := by decide +kernel
theorem dX7_category_51 : decode cX7_category 51 = .ok (.iconst 1, 1) := by decide +kernel
theorem dX7_category_52 : decode cX7_category 52 = .ok (.isub, 1) := by decide +kernel
theorem dX7_category_53 : decode cX7_category 53 = .ok (.ireturn, 1) := by decide +kernel
theorem dX7_rule_0 : decode cX7_rule 0 = .ok (.aload_n 0, 1) := by decide +kernel
theorem dX7_rule_1 : decode cX7_rule 1 = .ok (.iload_n 1, 1) := by decide +kernel
theorem dX7_rule_2 : decode cX7_rule 2 = .ok (.invokevirtual 171, 3) := by decide +kernel
theorem dX7_rule_5 : decode cX7_rule 5 = .ok (.astore 6, 2) := by decide +kernel
theorem dX7_rule_7 : decode cX7_rule 7 = .ok (.iload_n 2, 1) := by decide +kernel
theorem dX7_rule_8 : decode cX7_rule 8 = .ok (.iconst 0, 1) := by decide +kernel
theorem dX7_rule_9 : decode cX7_rule 9 = .ok (.sipush 1000, 3) := by decide +kernel
theorem dX7_rule_12 : decode cX7_rule 12 = .ok (.invokestatic 68, 3) := by decide +kernel
theorem dX7_rule_15 : decode cX7_rule 15 = .ok (.invokestatic 77, 3) := by decide +kernel
theorem dX7_rule_18 : decode cX7_rule 18 = .ok (.iload_n 3, 1) := by decide +kernel
theorem dX7_rule_19 : decode cX7_rule 19 = .ok (.iconst 0, 1) := by decide +kernel
theorem dX7_rule_20 : decode cX7_rule 20 = .ok (.bipush 7, 2) := by decide +kernel
theorem dX7_rule_22 : decode cX7_rule 22 = .ok (.invokestatic 68, 3) := by decide +kernel
theorem dX7_rule_25 : decode cX7_rule 25 = .ok (.invokestatic 77, 3) := by decide +kernel
theorem dX7_rule_28 : decode cX7_rule 28 = .ok (.iload 4, 2) := by decide +kernel
theorem dX7_rule_30 : decode cX7_rule 30 = .ok (.iconst 0, 1) := by decide +kernel
theorem dX7_rule_31 : decode cX7_rule 31 = .ok (.bipush 32, 2) := by decide +kernel
theorem dX7_rule_33 : decode cX7_rule 33 = .ok (.invokestatic 68, 3) := by decide +kernel
theorem dX7_rule_36 : decode cX7_rule 36 = .ok (.invokestatic 77, 3) := by decide +kernel
theorem dX7_rule_39 : decode cX7_rule 39 = .ok (.iload 5, 2) := by decide +kernel
theorem dX7_rule_41 : decode cX7_rule 41 = .ok (.iconst 0, 1) := by decide +kernel
theorem dX7_rule_42 : decode cX7_rule 42 = .ok (.sipush 500, 3) := by decide +kernel
theorem dX7_rule_45 : decode cX7_rule 45 = .ok (.invokestatic 68, 3) := by decide +kernel
theorem dX7_rule_48 : decode cX7_rule 48 = .ok (.invokestatic 77, 3) := by decide +kernel
theorem dX7_rule_51 : decode cX7_rule 51 = .ok (.aload 6, 2) := by decide +kernel
theorem dX7_rule_53 : decode cX7_rule 53 = .ok (.getfield 175, 3) := by decide +kernel
theorem dX7_rule_56 : decode cX7_rule 56 = .ok (.invokevirtual 46, 3) := by decide +kernel
theorem dX7_rule_59 : decode cX7_rule 59 = .ok (.bipush 10, 2) := by decide +kernel
theorem dX7_rule_61 : decode cX7_rule 61 = .ok (.if_icmp .lt 13, 3) := by decide +kernel
theorem dX7_rule_64 : decode cX7_rule 64 = .ok (.new 50, 3) := by decide +kernel
theorem dX7_rule_67 : decode cX7_rule 67 = .ok (.dup, 1) := by decide +kernel
theorem dX7_rule_68 : decode cX7_rule 68 = .ok (.ldc 178, 2) := by decide +kernel
theorem dX7_rule_70 : decode cX7_rule 70 = .ok (.invokespecial 54, 3) := by decide +kernel
theorem dX7_rule_73 : decode cX7_rule 73 = .ok (.athrow, 1) := by decide +kernel
theorem dX7_rule_74 : decode cX7_rule 74 = .ok (.aload 6, 2) := by decide +kernel
theorem dX7_rule_76 : decode cX7_rule 76 = .ok (.getfield 175, 3) := by decide +kernel
theorem dX7_rule_79 : decode cX7_rule 79 = .ok (.new 180, 3) := by decide +kernel
theorem dX7_rule_82 : decode cX7_rule 82 = .ok (.dup, 1) := by decide +kernel
theorem dX7_rule_83 : decode cX7_rule 83 = .ok (.iload_n 2, 1) := by decide +kernel
theorem dX7_rule_84 : decode cX7_rule 84 = .ok (.iload_n 3, 1) := by decide +kernel
theorem dX7_rule_85 : decode cX7_rule 85 = .ok (.iload 4, 2) := by decide +kernel
theorem dX7_rule_87 : decode cX7_rule 87 = .ok (.iload 5, 2) := by decide +kernel
theorem dX7_rule_89 : decode cX7_rule 89 = .ok (.invokespecial 182, 3) := by decide +kernel
theorem dX7_rule_92 : decode cX7_rule 92 = .ok (.invokevirtual 60, 3) := by decide +kernel
theorem dX7_rule_95 : decode cX7_rule 95 = .ok (.pop, 1) := by decide +kernel
theorem dX7_rule_96 : decode cX7_rule 96 = .ok (.aload_n 0, 1) := by decide +kernel
theorem dX7_rule_97 : decode cX7_rule 97 = .ok (.aload 6, 2) := by decide +kernel
theorem dX7_rule_99 : decode cX7_rule 99 = .ok (.invokevirtual 185, 3) := by decide +kernel
theorem dX7_rule_102 : decode cX7_rule 102 = .ok (.ireturn, 1) := by decide +kernel
theorem dX7_pass_0 : decode cX7_pass 0 = .ok (.iload_n 1, 1) := by decide +kernel
theorem dX7_pass_1 : decode cX7_pass 1 = .ok (.iconst 1, 1) := by decide +kernel
theorem dX7_pass_2 : decode cX7_pass 2 = .ok (.bipush 100, 2) := by decide +kernel
theorem dX7_pass_4 : decode cX7_pass 4 = .ok (.invokestatic 68, 3) := by decide +kernel
theorem dX7_pass_7 : decode cX7_pass 7 = .ok (.invokestatic 77, 3) := by decide +kernel
theorem dX7_pass_10 : decode cX7_pass 10 = .ok (.aload_n 0, 1) := by decide +kernel
theorem dX7_pass_11 : decode cX7_pass 11 = .ok (.getfield 42, 3) := by decide +kernel
theorem dX7_pass_14 : decode cX7_pass 14 = .ok (.iload_n 1, 1) := by decide +kernel
theorem dX7_pass_15 : decode cX7_pass 15 = .ok (.iadd, 1) := by decide +kernel
theorem dX7_pass_16 : decode cX7_pass 16 = .ok (.sipush 1000, 3) := by decide +kernel
theorem dX7_pass_19 : decode cX7_pass 19 = .ok (.if_icmp .le 13, 3) := by decide +kernel
theorem dX7_pass_22 : decode cX7_pass 22 = .ok (.new 50, 3) := by decide +kernel
theorem dX7_pass_25 : decode cX7_pass 25 = .ok (.dup, 1) := by decide +kernel
theorem dX7_pass_26 : decode cX7_pass 26 = .ok (.ldc 189, 2) := by decide +kernel
theorem dX7_pass_28 : decode cX7_pass 28 = .ok (.invokespecial 54, 3) := by decide +kernel
theorem dX7_pass_31 : decode cX7_pass 31 = .ok (.athrow, 1) := by decide +kernel
theorem dX7_pass_32 : decode cX7_pass 32 = .ok (.aload_n 0, 1) := by decide +kernel
theorem dX7_pass_33 : decode cX7_pass 33 = .ok (.dup, 1) := by decide +kernel
theorem dX7_pass_34 : decode cX7_pass 34 = .ok (.getfield 42, 3) := by decide +kernel
theorem dX7_pass_37 : decode cX7_pass 37 = .ok (.iload_n 1, 1) := by decide +kernel
theorem dX7_pass_38 : decode cX7_pass 38 = .ok (.iadd, 1) := by decide +kernel
theorem dX7_pass_39 : decode cX7_pass 39 = .ok (.putfield 42, 3) := by decide +kernel
theorem dX7_pass_42 : decode cX7_pass 42 = .ok (.aload_n 0, 1) := by decide +kernel
theorem dX7_pass_43 : decode cX7_pass 43 = .ok (.getfield 42, 3) := by decide +kernel
theorem dX7_pass_46 : decode cX7_pass 46 = .ok (.ireturn, 1) := by decide +kernel
theorem dX7_submit_0 : decode cX7_submit 0 = .ok (.iload_n 1, 1) := by decide +kernel
theorem dX7_submit_1 : decode cX7_submit 1 = .ok (.invokestatic 191, 3) := by decide +kernel
theorem dX7_submit_4 : decode cX7_submit 4 = .ok (.aload_n 0, 1) := by decide +kernel
theorem dX7_submit_5 : decode cX7_submit 5 = .ok (.iload_n 2, 1) := by decide +kernel
theorem dX7_submit_6 : decode cX7_submit 6 = .ok (.invokevirtual 98, 3) := by decide +kernel
theorem dX7_submit_9 : decode cX7_submit 9 = .ok (.astore 4, 2) := by decide +kernel
theorem dX7_submit_11 : decode cX7_submit 11 = .ok (.aload_n 0, 1) := by decide +kernel
theorem dX7_submit_12 : decode cX7_submit 12 = .ok (.iload_n 3, 1) := by decide +kernel
theorem dX7_submit_13 : decode cX7_submit 13 = .ok (.invokevirtual 171, 3) := by decide +kernel
theorem dX7_submit_16 : decode cX7_submit 16 = .ok (.astore 5, 2) := by decide +kernel
theorem dX7_submit_18 : decode cX7_submit 18 = .ok (.aload 4, 2) := by decide +kernel
theorem dX7_submit_20 : decode cX7_submit 20 = .ok (.getfield 162, 3) := by decide +kernel
theorem dX7_submit_23 : decode cX7_submit 23 = .ok (.aload 5, 2) := by decide +kernel
theorem dX7_submit_25 : decode cX7_submit 25 = .ok (.getfield 195, 3) := by decide +kernel
theorem dX7_submit_28 : decode cX7_submit 28 = .ok (.if_acmp .eq 13, 3) := by decide +kernel
theorem dX7_submit_31 : decode cX7_submit 31 = .ok (.new 149, 3) := by decide +kernel
theorem dX7_submit_34 : decode cX7_submit 34 = .ok (.dup, 1) := by decide +kernel
theorem dX7_submit_35 : decode cX7_submit 35 = .ok (.ldc 196, 2) := by decide +kernel
theorem dX7_submit_37 : decode cX7_submit 37 = .ok (.invokespecial 153, 3) := by decide +kernel
theorem dX7_submit_40 : decode cX7_submit 40 = .ok (.athrow, 1) := by decide +kernel
theorem dX7_submit_41 : decode cX7_submit 41 = .ok (.aload 4, 2) := by decide +kernel
theorem dX7_submit_43 : decode cX7_submit 43 = .ok (.getfield 119, 3) := by decide +kernel
theorem dX7_submit_46 : decode cX7_submit 46 = .ok (.invokevirtual 198, 3) := by decide +kernel
theorem dX7_submit_49 : decode cX7_submit 49 = .ok (.ifCond .eq 15, 3) := by decide +kernel
theorem dX7_submit_52 : decode cX7_submit 52 = .ok (.aload_n 0, 1) := by decide +kernel
theorem dX7_submit_53 : decode cX7_submit 53 = .ok (.getfield 22, 3) := by decide +kernel
theorem dX7_submit_56 : decode cX7_submit 56 = .ok (.invokevirtual 46, 3) := by decide +kernel
theorem dX7_submit_59 : decode cX7_submit 59 = .ok (.bipush 40, 2) := by decide +kernel
theorem dX7_submit_61 : decode cX7_submit 61 = .ok (.if_icmp .lt 13, 3) := by decide +kernel
theorem dX7_submit_64 : decode cX7_submit 64 = .ok (.new 50, 3) := by decide +kernel
theorem dX7_submit_67 : decode cX7_submit 67 = .ok (.dup, 1) := by decide +kernel
theorem dX7_submit_68 : decode cX7_submit 68 = .ok (.ldc 202, 2) := by decide +kernel
theorem dX7_submit_70 : decode cX7_submit 70 = .ok (.invokespecial 54, 3) := by decide +kernel
theorem dX7_submit_73 : decode cX7_submit 73 = .ok (.athrow, 1) := by decide +kernel
theorem dX7_submit_74 : decode cX7_submit 74 = .ok (.aload 4, 2) := by decide +kernel
theorem dX7_submit_76 : decode cX7_submit 76 = .ok (.iconst 1, 1) := by decide +kernel
theorem dX7_submit_77 : decode cX7_submit 77 = .ok (.putfield 102, 3) := by decide +kernel
theorem dX7_submit_80 : decode cX7_submit 80 = .ok (.aload_n 0, 1) := by decide +kernel
theorem dX7_submit_81 : decode cX7_submit 81 = .ok (.getfield 22, 3) := by decide +kernel
theorem dX7_submit_84 : decode cX7_submit 84 = .ok (.invokevirtual 46, 3) := by decide +kernel
theorem dX7_submit_87 : decode cX7_submit 87 = .ok (.istore 6, 2) := by decide +kernel
theorem dX7_submit_89 : decode cX7_submit 89 = .ok (.aload_n 0, 1) := by decide +kernel
theorem dX7_submit_90 : decode cX7_submit 90 = .ok (.getfield 22, 3) := by decide +kernel
theorem dX7_submit_93 : decode cX7_submit 93 = .ok (.new 204, 3) := by decide +kernel
theorem dX7_submit_96 : decode cX7_submit 96 = .ok (.dup, 1) := by decide +kernel
theorem dX7_submit_97 : decode cX7_submit 97 = .ok (.iload 6, 2) := by decide +kernel
theorem dX7_submit_99 : decode cX7_submit 99 = .ok (.iload_n 1, 1) := by decide +kernel
theorem dX7_submit_100 : decode cX7_submit 100 = .ok (.aload 4, 2) := by decide +kernel
theorem dX7_submit_102 : decode cX7_submit 102 = .ok (.aload 5, 2) := by decide +kernel
theorem dX7_submit_104 : decode cX7_submit 104 = .ok (.aload_n 0, 1) := by decide +kernel
theorem dX7_submit_105 : decode cX7_submit 105 = .ok (.getfield 42, 3) := by decide +kernel
theorem dX7_submit_108 : decode cX7_submit 108 = .ok (.invokespecial 206, 3) := by decide +kernel
theorem dX7_submit_111 : decode cX7_submit 111 = .ok (.invokevirtual 60, 3) := by decide +kernel
theorem dX7_submit_114 : decode cX7_submit 114 = .ok (.pop, 1) := by decide +kernel
theorem dX7_submit_115 : decode cX7_submit 115 = .ok (.iload 6, 2) := by decide +kernel
theorem dX7_submit_117 : decode cX7_submit 117 = .ok (.ireturn, 1) := by decide +kernel
theorem dX7_judged_0 : decode cX7_judged 0 = .ok (.aload_n 0, 1) := by decide +kernel
theorem dX7_judged_1 : decode cX7_judged 1 = .ok (.iload_n 1, 1) := by decide +kernel
theorem dX7_judged_2 : decode cX7_judged 2 = .ok (.invokevirtual 209, 3) := by decide +kernel
theorem dX7_judged_5 : decode cX7_judged 5 = .ok (.astore_n 2, 1) := by decide +kernel
theorem dX7_judged_6 : decode cX7_judged 6 = .ok (.aload_n 2, 1) := by decide +kernel
theorem dX7_judged_7 : decode cX7_judged 7 = .ok (.invokestatic 213, 3) := by decide +kernel
theorem dX7_judged_10 : decode cX7_judged 10 = .ok (.ifCond .eq 7, 3) := by decide +kernel
theorem dX7_judged_13 : decode cX7_judged 13 = .ok (.iconst 1, 1) := by decide +kernel
theorem dX7_judged_14 : decode cX7_judged 14 = .ok (.goto 4, 3) := by decide +kernel
theorem dX7_judged_17 : decode cX7_judged 17 = .ok (.iconst 0, 1) := by decide +kernel
theorem dX7_judged_18 : decode cX7_judged 18 = .ok (.istore_n 3, 1) := by decide +kernel
theorem dX7_judged_19 : decode cX7_judged 19 = .ok (.aload_n 2, 1) := by decide +kernel
theorem dX7_judged_20 : decode cX7_judged 20 = .ok (.getfield 217, 3) := by decide +kernel
theorem dX7_judged_23 : decode cX7_judged 23 = .ok (.ifCond .eq 7, 3) := by decide +kernel
theorem dX7_judged_26 : decode cX7_judged 26 = .ok (.iconst 2, 1) := by decide +kernel
theorem dX7_judged_27 : decode cX7_judged 27 = .ok (.goto 4, 3) := by decide +kernel
theorem dX7_judged_30 : decode cX7_judged 30 = .ok (.iconst 0, 1) := by decide +kernel
theorem dX7_judged_31 : decode cX7_judged 31 = .ok (.istore 4, 2) := by decide +kernel
theorem dX7_judged_33 : decode cX7_judged 33 = .ok (.iload_n 3, 1) := by decide +kernel
theorem dX7_judged_34 : decode cX7_judged 34 = .ok (.iload 4, 2) := by decide +kernel
theorem dX7_judged_36 : decode cX7_judged 36 = .ok (.iadd, 1) := by decide +kernel
theorem dX7_judged_37 : decode cX7_judged 37 = .ok (.ireturn, 1) := by decide +kernel
theorem dX7_strike_0 : decode cX7_strike 0 = .ok (.aload_n 0, 1) := by decide +kernel
theorem dX7_strike_1 : decode cX7_strike 1 = .ok (.iload_n 1, 1) := by decide +kernel
theorem dX7_strike_2 : decode cX7_strike 2 = .ok (.invokevirtual 209, 3) := by decide +kernel
theorem dX7_strike_5 : decode cX7_strike 5 = .ok (.astore_n 2, 1) := by decide +kernel
theorem dX7_strike_6 : decode cX7_strike 6 = .ok (.aload_n 2, 1) := by decide +kernel
theorem dX7_strike_7 : decode cX7_strike 7 = .ok (.aload_n 2, 1) := by decide +kernel
theorem dX7_strike_8 : decode cX7_strike 8 = .ok (.getfield 217, 3) := by decide +kernel
theorem dX7_strike_11 : decode cX7_strike 11 = .ok (.ifCond .ne 7, 3) := by decide +kernel
theorem dX7_strike_14 : decode cX7_strike 14 = .ok (.iconst 1, 1) := by decide +kernel
theorem dX7_strike_15 : decode cX7_strike 15 = .ok (.goto 4, 3) := by decide +kernel
theorem dX7_strike_18 : decode cX7_strike 18 = .ok (.iconst 0, 1) := by decide +kernel
theorem dX7_strike_19 : decode cX7_strike 19 = .ok (.putfield 217, 3) := by decide +kernel
theorem dX7_strike_22 : decode cX7_strike 22 = .ok (.aload_n 2, 1) := by decide +kernel
theorem dX7_strike_23 : decode cX7_strike 23 = .ok (.getfield 217, 3) := by decide +kernel
theorem dX7_strike_26 : decode cX7_strike 26 = .ok (.ireturn, 1) := by decide +kernel
theorem dX7_categoryOf_0 : decode cX7_categoryOf 0 = .ok (.iload_n 1, 1) := by decide +kernel
theorem dX7_categoryOf_1 : decode cX7_categoryOf 1 = .ok (.iconst 0, 1) := by decide +kernel
theorem dX7_categoryOf_2 : decode cX7_categoryOf 2 = .ok (.aload_n 0, 1) := by decide +kernel
theorem dX7_categoryOf_3 : decode cX7_categoryOf 3 = .ok (.getfield 19, 3) := by decide +kernel
theorem dX7_categoryOf_6 : decode cX7_categoryOf 6 = .ok (.invokevirtual 46, 3) := by decide +kernel
theorem dX7_categoryOf_9 : decode cX7_categoryOf 9 = .ok (.iconst 1, 1) := by decide +kernel
theorem dX7_categoryOf_10 : decode cX7_categoryOf 10 = .ok (.isub, 1) := by decide +kernel
theorem dX7_categoryOf_11 : decode cX7_categoryOf 11 = .ok (.invokestatic 68, 3) := by decide +kernel
theorem dX7_categoryOf_14 : decode cX7_categoryOf 14 = .ok (.ifCond .ne 13, 3) := by decide +kernel
theorem dX7_categoryOf_17 : decode cX7_categoryOf 17 = .ok (.new 72, 3) := by decide +kernel
theorem dX7_categoryOf_20 : decode cX7_categoryOf 20 = .ok (.dup, 1) := by decide +kernel
theorem dX7_categoryOf_21 : decode cX7_categoryOf 21 = .ok (.ldc 220, 2) := by decide +kernel
theorem dX7_categoryOf_23 : decode cX7_categoryOf 23 = .ok (.invokespecial 76, 3) := by decide +kernel
theorem dX7_categoryOf_26 : decode cX7_categoryOf 26 = .ok (.athrow, 1) := by decide +kernel
theorem dX7_categoryOf_27 : decode cX7_categoryOf 27 = .ok (.aload_n 0, 1) := by decide +kernel
theorem dX7_categoryOf_28 : decode cX7_categoryOf 28 = .ok (.getfield 19, 3) := by decide +kernel
theorem dX7_categoryOf_31 : decode cX7_categoryOf 31 = .ok (.iload_n 1, 1) := by decide +kernel
theorem dX7_categoryOf_32 : decode cX7_categoryOf 32 = .ok (.invokevirtual 156, 3) := by decide +kernel
theorem dX7_categoryOf_35 : decode cX7_categoryOf 35 = .ok (.checkcast 168, 3) := by decide +kernel
theorem dX7_categoryOf_38 : decode cX7_categoryOf 38 = .ok (.areturn, 1) := by decide +kernel
theorem dX7_runOf_0 : decode cX7_runOf 0 = .ok (.iload_n 1, 1) := by decide +kernel
theorem dX7_runOf_1 : decode cX7_runOf 1 = .ok (.iconst 0, 1) := by decide +kernel
theorem dX7_runOf_2 : decode cX7_runOf 2 = .ok (.aload_n 0, 1) := by decide +kernel
theorem dX7_runOf_3 : decode cX7_runOf 3 = .ok (.getfield 22, 3) := by decide +kernel
theorem dX7_runOf_6 : decode cX7_runOf 6 = .ok (.invokevirtual 46, 3) := by decide +kernel
theorem dX7_runOf_9 : decode cX7_runOf 9 = .ok (.iconst 1, 1) := by decide +kernel
theorem dX7_runOf_10 : decode cX7_runOf 10 = .ok (.isub, 1) := by decide +kernel
theorem dX7_runOf_11 : decode cX7_runOf 11 = .ok (.invokestatic 68, 3) := by decide +kernel
theorem dX7_runOf_14 : decode cX7_runOf 14 = .ok (.ifCond .ne 13, 3) := by decide +kernel
theorem dX7_runOf_17 : decode cX7_runOf 17 = .ok (.new 72, 3) := by decide +kernel
theorem dX7_runOf_20 : decode cX7_runOf 20 = .ok (.dup, 1) := by decide +kernel
theorem dX7_runOf_21 : decode cX7_runOf 21 = .ok (.ldc 222, 2) := by decide +kernel
theorem dX7_runOf_23 : decode cX7_runOf 23 = .ok (.invokespecial 76, 3) := by decide +kernel
theorem dX7_runOf_26 : decode cX7_runOf 26 = .ok (.athrow, 1) := by decide +kernel
theorem dX7_runOf_27 : decode cX7_runOf 27 = .ok (.aload_n 0, 1) := by decide +kernel
theorem dX7_runOf_28 : decode cX7_runOf 28 = .ok (.getfield 22, 3) := by decide +kernel
theorem dX7_runOf_31 : decode cX7_runOf 31 = .ok (.iload_n 1, 1) := by decide +kernel
theorem dX7_runOf_32 : decode cX7_runOf 32 = .ok (.invokevirtual 156, 3) := by decide +kernel
theorem dX7_runOf_35 : decode cX7_runOf 35 = .ok (.checkcast 204, 3) := by decide +kernel
theorem dX7_runOf_38 : decode cX7_runOf 38 = .ok (.areturn, 1) := by decide +kernel
theorem dX7_requireRunner_0 : decode cX7_requireRunner 0 = .ok (.iload_n 0, 1) := by decide +kernel
theorem dX7_requireRunner_1 : decode cX7_requireRunner 1 = .ok (.iconst 0, 1) := by decide +kernel
theorem dX7_requireRunner_2 : decode cX7_requireRunner 2 = .ok (.bipush 7, 2) := by decide +kernel
theorem dX7_requireRunner_4 : decode cX7_requireRunner 4 = .ok (.invokestatic 68, 3) := by decide +kernel
theorem dX7_requireRunner_7 : decode cX7_requireRunner 7 = .ok (.ifCond .ne 13, 3) := by decide +kernel
theorem dX7_requireRunner_10 : decode cX7_requireRunner 10 = .ok (.new 72, 3) := by decide +kernel
theorem dX7_requireRunner_13 : decode cX7_requireRunner 13 = .ok (.dup, 1) := by decide +kernel
theorem dX7_requireRunner_14 : decode cX7_requireRunner 14 = .ok (.ldc 224, 2) := by decide +kernel
theorem dX7_requireRunner_16 : decode cX7_requireRunner 16 = .ok (.invokespecial 76, 3) := by decide +kernel
theorem dX7_requireRunner_19 : decode cX7_requireRunner 19 = .ok (.athrow, 1) := by decide +kernel
theorem dX7_requireRunner_20 : decode cX7_requireRunner 20 = .ok (.return_, 1) := by decide +kernel
theorem dX7_isRefused_0 : decode cX7_isRefused 0 = .ok (.aload_n 0, 1) := by decide +kernel
theorem dX7_isRefused_1 : decode cX7_isRefused 1 = .ok (.getfield 226, 3) := by decide +kernel
theorem dX7_isRefused_4 : decode cX7_isRefused 4 = .ok (.aload_n 0, 1) := by decide +kernel
theorem dX7_isRefused_5 : decode cX7_isRefused 5 = .ok (.getfield 230, 3) := by decide +kernel
theorem dX7_isRefused_8 : decode cX7_isRefused 8 = .ok (.aload_n 0, 1) := by decide +kernel
theorem dX7_isRefused_9 : decode cX7_isRefused 9 = .ok (.getfield 231, 3) := by decide +kernel
theorem dX7_isRefused_12 : decode cX7_isRefused 12 = .ok (.getfield 119, 3) := by decide +kernel
theorem dX7_isRefused_15 : decode cX7_isRefused 15 = .ok (.invokevirtual 235, 3) := by decide +kernel
theorem dX7_isRefused_18 : decode cX7_isRefused 18 = .ok (.ireturn, 1) := by decide +kernel
theorem dX7_counts_0 : decode cX7_counts 0 = .ok (.aload_n 0, 1) := by decide +kernel
theorem dX7_counts_1 : decode cX7_counts 1 = .ok (.getfield 217, 3) := by decide +kernel
theorem dX7_counts_4 : decode cX7_counts 4 = .ok (.ifCond .ne 14, 3) := by decide +kernel
theorem dX7_counts_7 : decode cX7_counts 7 = .ok (.aload_n 0, 1) := by decide +kernel
theorem dX7_counts_8 : decode cX7_counts 8 = .ok (.invokestatic 213, 3) := by decide +kernel
theorem dX7_counts_11 : decode cX7_counts 11 = .ok (.ifCond .ne 7, 3) := by decide +kernel
theorem dX7_counts_14 : decode cX7_counts 14 = .ok (.iconst 1, 1) := by decide +kernel
theorem dX7_counts_15 : decode cX7_counts 15 = .ok (.goto 4, 3) := by decide +kernel
theorem dX7_counts_18 : decode cX7_counts 18 = .ok (.iconst 0, 1) := by decide +kernel
theorem dX7_counts_19 : decode cX7_counts 19 = .ok (.ireturn, 1) := by decide +kernel
theorem dX7_countRefused_0 : decode cX7_countRefused 0 = .ok (.iconst 0, 1) := by decide +kernel
theorem dX7_countRefused_1 : decode cX7_countRefused 1 = .ok (.istore_n 2, 1) := by decide +kernel
theorem dX7_countRefused_2 : decode cX7_countRefused 2 = .ok (.iconst 0, 1) := by decide +kernel
theorem dX7_countRefused_3 : decode cX7_countRefused 3 = .ok (.istore_n 3, 1) := by decide +kernel
theorem dX7_countRefused_4 : decode cX7_countRefused 4 = .ok (.iload_n 3, 1) := by decide +kernel
theorem dX7_countRefused_5 : decode cX7_countRefused 5 = .ok (.aload_n 0, 1) := by decide +kernel
theorem dX7_countRefused_6 : decode cX7_countRefused 6 = .ok (.getfield 22, 3) := by decide +kernel
theorem dX7_countRefused_9 : decode cX7_countRefused 9 = .ok (.invokevirtual 46, 3) := by decide +kernel
theorem dX7_countRefused_12 : decode cX7_countRefused 12 = .ok (.if_icmp .ge 42, 3) := by decide +kernel
theorem dX7_countRefused_15 : decode cX7_countRefused 15 = .ok (.aload_n 0, 1) := by decide +kernel
theorem dX7_countRefused_16 : decode cX7_countRefused 16 = .ok (.getfield 22, 3) := by decide +kernel
theorem dX7_countRefused_19 : decode cX7_countRefused 19 = .ok (.iload_n 3, 1) := by decide +kernel
theorem dX7_countRefused_20 : decode cX7_countRefused 20 = .ok (.invokevirtual 156, 3) := by decide +kernel
theorem dX7_countRefused_23 : decode cX7_countRefused 23 = .ok (.checkcast 204, 3) := by decide +kernel
theorem dX7_countRefused_26 : decode cX7_countRefused 26 = .ok (.astore 4, 2) := by decide +kernel
theorem dX7_countRefused_28 : decode cX7_countRefused 28 = .ok (.aload 4, 2) := by decide +kernel
theorem dX7_countRefused_30 : decode cX7_countRefused 30 = .ok (.getfield 226, 3) := by decide +kernel
theorem dX7_countRefused_33 : decode cX7_countRefused 33 = .ok (.aload_n 1, 1) := by decide +kernel
theorem dX7_countRefused_34 : decode cX7_countRefused 34 = .ok (.if_acmp .ne 14, 3) := by decide +kernel
theorem dX7_countRefused_37 : decode cX7_countRefused 37 = .ok (.aload 4, 2) := by decide +kernel
theorem dX7_countRefused_39 : decode cX7_countRefused 39 = .ok (.invokestatic 213, 3) := by decide +kernel
theorem dX7_countRefused_42 : decode cX7_countRefused 42 = .ok (.ifCond .eq 6, 3) := by decide +kernel
theorem dX7_countRefused_45 : decode cX7_countRefused 45 = .ok (.iinc 2 1, 3) := by decide +kernel
theorem dX7_countRefused_48 : decode cX7_countRefused 48 = .ok (.iinc 3 1, 3) := by decide +kernel
theorem dX7_countRefused_51 : decode cX7_countRefused 51 = .ok (.goto (-47), 3) := by decide +kernel
theorem dX7_countRefused_54 : decode cX7_countRefused 54 = .ok (.iload_n 2, 1) := by decide +kernel
theorem dX7_countRefused_55 : decode cX7_countRefused 55 = .ok (.ireturn, 1) := by decide +kernel
theorem dX7_best_0 : decode cX7_best 0 = .ok (.aload_n 0, 1) := by decide +kernel
theorem dX7_best_1 : decode cX7_best 1 = .ok (.iload_n 1, 1) := by decide +kernel
theorem dX7_best_2 : decode cX7_best 2 = .ok (.invokevirtual 171, 3) := by decide +kernel
theorem dX7_best_5 : decode cX7_best 5 = .ok (.astore_n 3, 1) := by decide +kernel
theorem dX7_best_6 : decode cX7_best 6 = .ok (.iload_n 2, 1) := by decide +kernel
theorem dX7_best_7 : decode cX7_best 7 = .ok (.invokestatic 191, 3) := by decide +kernel
theorem dX7_best_10 : decode cX7_best 10 = .ok (.aload_n 0, 1) := by decide +kernel
theorem dX7_best_11 : decode cX7_best 11 = .ok (.aload_n 3, 1) := by decide +kernel
theorem dX7_best_12 : decode cX7_best 12 = .ok (.iload_n 2, 1) := by decide +kernel
theorem dX7_best_13 : decode cX7_best 13 = .ok (.aconst_null, 1) := by decide +kernel
theorem dX7_best_14 : decode cX7_best 14 = .ok (.invokevirtual 239, 3) := by decide +kernel
theorem dX7_best_17 : decode cX7_best 17 = .ok (.astore 4, 2) := by decide +kernel
theorem dX7_best_19 : decode cX7_best 19 = .ok (.aload 4, 2) := by decide +kernel
theorem dX7_best_21 : decode cX7_best 21 = .ok (.ifnonnull 7, 3) := by decide +kernel
theorem dX7_best_24 : decode cX7_best 24 = .ok (.iconst (-1), 1) := by decide +kernel
theorem dX7_best_25 : decode cX7_best 25 = .ok (.goto 8, 3) := by decide +kernel
theorem dX7_best_28 : decode cX7_best 28 = .ok (.aload 4, 2) := by decide +kernel
theorem dX7_best_30 : decode cX7_best 30 = .ok (.getfield 243, 3) := by decide +kernel
theorem dX7_best_33 : decode cX7_best 33 = .ok (.ireturn, 1) := by decide +kernel
theorem dX7_bestAnew_0 : decode cX7_bestAnew 0 = .ok (.aload_n 0, 1) := by decide +kernel
theorem dX7_bestAnew_1 : decode cX7_bestAnew 1 = .ok (.iload_n 1, 1) := by decide +kernel
theorem dX7_bestAnew_2 : decode cX7_bestAnew 2 = .ok (.invokevirtual 171, 3) := by decide +kernel
theorem dX7_bestAnew_5 : decode cX7_bestAnew 5 = .ok (.astore_n 3, 1) := by decide +kernel
theorem dX7_bestAnew_6 : decode cX7_bestAnew 6 = .ok (.iload_n 2, 1) := by decide +kernel
theorem dX7_bestAnew_7 : decode cX7_bestAnew 7 = .ok (.invokestatic 191, 3) := by decide +kernel
theorem dX7_bestAnew_10 : decode cX7_bestAnew 10 = .ok (.iconst (-1), 1) := by decide +kernel
theorem dX7_bestAnew_11 : decode cX7_bestAnew 11 = .ok (.istore 4, 2) := by decide +kernel
theorem dX7_bestAnew_13 : decode cX7_bestAnew 13 = .ok (.iconst 0, 1) := by decide +kernel
theorem dX7_bestAnew_14 : decode cX7_bestAnew 14 = .ok (.istore 5, 2) := by decide +kernel
theorem dX7_bestAnew_16 : decode cX7_bestAnew 16 = .ok (.iconst 0, 1) := by decide +kernel
theorem dX7_bestAnew_17 : decode cX7_bestAnew 17 = .ok (.istore 6, 2) := by decide +kernel
theorem dX7_bestAnew_19 : decode cX7_bestAnew 19 = .ok (.iload 6, 2) := by decide +kernel
theorem dX7_bestAnew_21 : decode cX7_bestAnew 21 = .ok (.aload_n 0, 1) := by decide +kernel
theorem dX7_bestAnew_22 : decode cX7_bestAnew 22 = .ok (.getfield 22, 3) := by decide +kernel
theorem dX7_bestAnew_25 : decode cX7_bestAnew 25 = .ok (.invokevirtual 46, 3) := by decide +kernel
theorem dX7_bestAnew_28 : decode cX7_bestAnew 28 = .ok (.if_icmp .ge 73, 3) := by decide +kernel
theorem dX7_bestAnew_31 : decode cX7_bestAnew 31 = .ok (.aload_n 0, 1) := by decide +kernel
theorem dX7_bestAnew_32 : decode cX7_bestAnew 32 = .ok (.getfield 22, 3) := by decide +kernel
theorem dX7_bestAnew_35 : decode cX7_bestAnew 35 = .ok (.iload 6, 2) := by decide +kernel
theorem dX7_bestAnew_37 : decode cX7_bestAnew 37 = .ok (.invokevirtual 156, 3) := by decide +kernel
theorem dX7_bestAnew_40 : decode cX7_bestAnew 40 = .ok (.checkcast 204, 3) := by decide +kernel
theorem dX7_bestAnew_43 : decode cX7_bestAnew 43 = .ok (.astore 7, 2) := by decide +kernel
theorem dX7_bestAnew_45 : decode cX7_bestAnew 45 = .ok (.aload 7, 2) := by decide +kernel
theorem dX7_bestAnew_47 : decode cX7_bestAnew 47 = .ok (.aload_n 3, 1) := by decide +kernel
theorem dX7_bestAnew_48 : decode cX7_bestAnew 48 = .ok (.iload_n 2, 1) := by decide +kernel
theorem dX7_bestAnew_49 : decode cX7_bestAnew 49 = .ok (.invokevirtual 246, 3) := by decide +kernel
theorem dX7_bestAnew_52 : decode cX7_bestAnew 52 = .ok (.ifCond .eq 43, 3) := by decide +kernel
theorem dX7_bestAnew_55 : decode cX7_bestAnew 55 = .ok (.aload_n 0, 1) := by decide +kernel
theorem dX7_bestAnew_56 : decode cX7_bestAnew 56 = .ok (.aload 7, 2) := by decide +kernel
theorem dX7_bestAnew_58 : decode cX7_bestAnew 58 = .ok (.invokevirtual 250, 3) := by decide +kernel
theorem dX7_bestAnew_61 : decode cX7_bestAnew 61 = .ok (.ifCond .eq 34, 3) := by decide +kernel
theorem dX7_bestAnew_64 : decode cX7_bestAnew 64 = .ok (.iload 4, 2) := by decide +kernel
theorem dX7_bestAnew_66 : decode cX7_bestAnew 66 = .ok (.iconst (-1), 1) := by decide +kernel
theorem dX7_bestAnew_67 : decode cX7_bestAnew 67 = .ok (.if_icmp .eq 15, 3) := by decide +kernel
theorem dX7_bestAnew_70 : decode cX7_bestAnew 70 = .ok (.aload_n 0, 1) := by decide +kernel
theorem dX7_bestAnew_71 : decode cX7_bestAnew 71 = .ok (.getfield 31, 3) := by decide +kernel
theorem dX7_bestAnew_74 : decode cX7_bestAnew 74 = .ok (.getfield 122, 3) := by decide +kernel
theorem dX7_bestAnew_77 : decode cX7_bestAnew 77 = .ok (.iload 5, 2) := by decide +kernel
theorem dX7_bestAnew_79 : decode cX7_bestAnew 79 = .ok (.if_icmp .ge 16, 3) := by decide +kernel
theorem dX7_bestAnew_82 : decode cX7_bestAnew 82 = .ok (.iload 6, 2) := by decide +kernel
theorem dX7_bestAnew_84 : decode cX7_bestAnew 84 = .ok (.istore 4, 2) := by decide +kernel
theorem dX7_bestAnew_86 : decode cX7_bestAnew 86 = .ok (.aload_n 0, 1) := by decide +kernel
theorem dX7_bestAnew_87 : decode cX7_bestAnew 87 = .ok (.getfield 31, 3) := by decide +kernel
theorem dX7_bestAnew_90 : decode cX7_bestAnew 90 = .ok (.getfield 122, 3) := by decide +kernel
theorem dX7_bestAnew_93 : decode cX7_bestAnew 93 = .ok (.istore 5, 2) := by decide +kernel
theorem dX7_bestAnew_95 : decode cX7_bestAnew 95 = .ok (.iinc 6 1, 3) := by decide +kernel
theorem dX7_bestAnew_98 : decode cX7_bestAnew 98 = .ok (.goto (-79), 3) := by decide +kernel
theorem dX7_bestAnew_101 : decode cX7_bestAnew 101 = .ok (.iload 4, 2) := by decide +kernel
theorem dX7_bestAnew_103 : decode cX7_bestAnew 103 = .ok (.ireturn, 1) := by decide +kernel
theorem dX7_place_0 : decode cX7_place 0 = .ok (.aload_n 0, 1) := by decide +kernel
theorem dX7_place_1 : decode cX7_place 1 = .ok (.iload_n 1, 1) := by decide +kernel
theorem dX7_place_2 : decode cX7_place 2 = .ok (.invokevirtual 171, 3) := by decide +kernel
theorem dX7_place_5 : decode cX7_place 5 = .ok (.astore_n 3, 1) := by decide +kernel
theorem dX7_place_6 : decode cX7_place 6 = .ok (.iload_n 2, 1) := by decide +kernel
theorem dX7_place_7 : decode cX7_place 7 = .ok (.invokestatic 191, 3) := by decide +kernel
theorem dX7_place_10 : decode cX7_place 10 = .ok (.aload_n 0, 1) := by decide +kernel
theorem dX7_place_11 : decode cX7_place 11 = .ok (.aload_n 3, 1) := by decide +kernel
theorem dX7_place_12 : decode cX7_place 12 = .ok (.iload_n 2, 1) := by decide +kernel
theorem dX7_place_13 : decode cX7_place 13 = .ok (.aconst_null, 1) := by decide +kernel
theorem dX7_place_14 : decode cX7_place 14 = .ok (.invokevirtual 253, 3) := by decide +kernel
theorem dX7_place_17 : decode cX7_place 17 = .ok (.ireturn, 1) := by decide +kernel
theorem dX7_at_0 : decode cX7_at 0 = .ok (.aload_n 0, 1) := by decide +kernel
theorem dX7_at_1 : decode cX7_at 1 = .ok (.iload_n 1, 1) := by decide +kernel
theorem dX7_at_2 : decode cX7_at 2 = .ok (.invokevirtual 171, 3) := by decide +kernel
theorem dX7_at_5 : decode cX7_at 5 = .ok (.astore_n 3, 1) := by decide +kernel
theorem dX7_at_6 : decode cX7_at 6 = .ok (.iconst 0, 1) := by decide +kernel
theorem dX7_at_7 : decode cX7_at 7 = .ok (.istore 4, 2) := by decide +kernel
theorem dX7_at_9 : decode cX7_at 9 = .ok (.iload 4, 2) := by decide +kernel
theorem dX7_at_11 : decode cX7_at 11 = .ok (.bipush 8, 2) := by decide +kernel
theorem dX7_at_13 : decode cX7_at 13 = .ok (.if_icmp .ge 40, 3) := by decide +kernel
theorem dX7_at_16 : decode cX7_at 16 = .ok (.aload_n 0, 1) := by decide +kernel
theorem dX7_at_17 : decode cX7_at 17 = .ok (.aload_n 3, 1) := by decide +kernel
theorem dX7_at_18 : decode cX7_at 18 = .ok (.iload 4, 2) := by decide +kernel
theorem dX7_at_20 : decode cX7_at 20 = .ok (.aconst_null, 1) := by decide +kernel
theorem dX7_at_21 : decode cX7_at 21 = .ok (.invokevirtual 239, 3) := by decide +kernel
theorem dX7_at_24 : decode cX7_at 24 = .ok (.astore 5, 2) := by decide +kernel
theorem dX7_at_26 : decode cX7_at 26 = .ok (.aload 5, 2) := by decide +kernel
theorem dX7_at_28 : decode cX7_at 28 = .ok (.ifnull 19, 3) := by decide +kernel
theorem dX7_at_31 : decode cX7_at 31 = .ok (.aload_n 0, 1) := by decide +kernel
theorem dX7_at_32 : decode cX7_at 32 = .ok (.aload 5, 2) := by decide +kernel
theorem dX7_at_34 : decode cX7_at 34 = .ok (.invokevirtual 257, 3) := by decide +kernel
theorem dX7_at_37 : decode cX7_at 37 = .ok (.iload_n 2, 1) := by decide +kernel
theorem dX7_at_38 : decode cX7_at 38 = .ok (.if_icmp .ne 9, 3) := by decide +kernel
theorem dX7_at_41 : decode cX7_at 41 = .ok (.aload 5, 2) := by decide +kernel
theorem dX7_at_43 : decode cX7_at 43 = .ok (.getfield 243, 3) := by decide +kernel
theorem dX7_at_46 : decode cX7_at 46 = .ok (.ireturn, 1) := by decide +kernel
theorem dX7_at_47 : decode cX7_at 47 = .ok (.iinc 4 1, 3) := by decide +kernel
theorem dX7_at_50 : decode cX7_at 50 = .ok (.goto (-41), 3) := by decide +kernel
theorem dX7_at_53 : decode cX7_at 53 = .ok (.new 72, 3) := by decide +kernel
theorem dX7_at_56 : decode cX7_at 56 = .ok (.dup, 1) := by decide +kernel
theorem dX7_at_57 : decode cX7_at 57 = .ok (.ldc_w 261, 3) := by decide +kernel
theorem dX7_at_60 : decode cX7_at 60 = .ok (.invokespecial 76, 3) := by decide +kernel
theorem dX7_at_63 : decode cX7_at 63 = .ok (.athrow, 1) := by decide +kernel
theorem dX7_placeWithout_0 : decode cX7_placeWithout 0 = .ok (.aload_n 0, 1) := by decide +kernel
theorem dX7_placeWithout_1 : decode cX7_placeWithout 1 = .ok (.iload_n 1, 1) := by decide +kernel
theorem dX7_placeWithout_2 : decode cX7_placeWithout 2 = .ok (.invokevirtual 209, 3) := by decide +kernel
theorem dX7_placeWithout_5 : decode cX7_placeWithout 5 = .ok (.astore_n 2, 1) := by decide +kernel
theorem dX7_placeWithout_6 : decode cX7_placeWithout 6 = .ok (.aload_n 0, 1) := by decide +kernel
theorem dX7_placeWithout_7 : decode cX7_placeWithout 7 = .ok (.aload_n 2, 1) := by decide +kernel
theorem dX7_placeWithout_8 : decode cX7_placeWithout 8 = .ok (.getfield 226, 3) := by decide +kernel
theorem dX7_placeWithout_11 : decode cX7_placeWithout 11 = .ok (.aload_n 2, 1) := by decide +kernel
theorem dX7_placeWithout_12 : decode cX7_placeWithout 12 = .ok (.getfield 263, 3) := by decide +kernel
theorem dX7_placeWithout_15 : decode cX7_placeWithout 15 = .ok (.aload_n 2, 1) := by decide +kernel
theorem dX7_placeWithout_16 : decode cX7_placeWithout 16 = .ok (.invokevirtual 253, 3) := by decide +kernel
theorem dX7_placeWithout_19 : decode cX7_placeWithout 19 = .ok (.ireturn, 1) := by decide +kernel
theorem dX7_bestRun_0 : decode cX7_bestRun 0 = .ok (.aconst_null, 1) := by decide +kernel
theorem dX7_bestRun_1 : decode cX7_bestRun 1 = .ok (.astore 4, 2) := by decide +kernel
theorem dX7_bestRun_3 : decode cX7_bestRun 3 = .ok (.iconst 0, 1) := by decide +kernel
theorem dX7_bestRun_4 : decode cX7_bestRun 4 = .ok (.istore 5, 2) := by decide +kernel
theorem dX7_bestRun_6 : decode cX7_bestRun 6 = .ok (.iload 5, 2) := by decide +kernel
theorem dX7_bestRun_8 : decode cX7_bestRun 8 = .ok (.aload_n 0, 1) := by decide +kernel
theorem dX7_bestRun_9 : decode cX7_bestRun 9 = .ok (.getfield 22, 3) := by decide +kernel
theorem dX7_bestRun_12 : decode cX7_bestRun 12 = .ok (.invokevirtual 46, 3) := by decide +kernel
theorem dX7_bestRun_15 : decode cX7_bestRun 15 = .ok (.if_icmp .ge 66, 3) := by decide +kernel
theorem dX7_bestRun_18 : decode cX7_bestRun 18 = .ok (.aload_n 0, 1) := by decide +kernel
theorem dX7_bestRun_19 : decode cX7_bestRun 19 = .ok (.getfield 22, 3) := by decide +kernel
theorem dX7_bestRun_22 : decode cX7_bestRun 22 = .ok (.iload 5, 2) := by decide +kernel
theorem dX7_bestRun_24 : decode cX7_bestRun 24 = .ok (.invokevirtual 156, 3) := by decide +kernel
theorem dX7_bestRun_27 : decode cX7_bestRun 27 = .ok (.checkcast 204, 3) := by decide +kernel
theorem dX7_bestRun_30 : decode cX7_bestRun 30 = .ok (.astore 6, 2) := by decide +kernel
theorem dX7_bestRun_32 : decode cX7_bestRun 32 = .ok (.aload 6, 2) := by decide +kernel
theorem dX7_bestRun_34 : decode cX7_bestRun 34 = .ok (.aload_n 3, 1) := by decide +kernel
theorem dX7_bestRun_35 : decode cX7_bestRun 35 = .ok (.if_acmp .eq 40, 3) := by decide +kernel
theorem dX7_bestRun_38 : decode cX7_bestRun 38 = .ok (.aload 6, 2) := by decide +kernel
theorem dX7_bestRun_40 : decode cX7_bestRun 40 = .ok (.aload_n 1, 1) := by decide +kernel
theorem dX7_bestRun_41 : decode cX7_bestRun 41 = .ok (.iload_n 2, 1) := by decide +kernel
theorem dX7_bestRun_42 : decode cX7_bestRun 42 = .ok (.invokevirtual 246, 3) := by decide +kernel
theorem dX7_bestRun_45 : decode cX7_bestRun 45 = .ok (.ifCond .eq 30, 3) := by decide +kernel
theorem dX7_bestRun_48 : decode cX7_bestRun 48 = .ok (.aload 6, 2) := by decide +kernel
theorem dX7_bestRun_50 : decode cX7_bestRun 50 = .ok (.invokestatic 266, 3) := by decide +kernel
theorem dX7_bestRun_53 : decode cX7_bestRun 53 = .ok (.ifCond .eq 22, 3) := by decide +kernel
theorem dX7_bestRun_56 : decode cX7_bestRun 56 = .ok (.aload 4, 2) := by decide +kernel
theorem dX7_bestRun_58 : decode cX7_bestRun 58 = .ok (.ifnull 13, 3) := by decide +kernel
theorem dX7_bestRun_61 : decode cX7_bestRun 61 = .ok (.aload 6, 2) := by decide +kernel
theorem dX7_bestRun_63 : decode cX7_bestRun 63 = .ok (.aload 4, 2) := by decide +kernel
theorem dX7_bestRun_65 : decode cX7_bestRun 65 = .ok (.invokevirtual 269, 3) := by decide +kernel
theorem dX7_bestRun_68 : decode cX7_bestRun 68 = .ok (.ifCond .eq 7, 3) := by decide +kernel
theorem dX7_bestRun_71 : decode cX7_bestRun 71 = .ok (.aload 6, 2) := by decide +kernel
theorem dX7_bestRun_73 : decode cX7_bestRun 73 = .ok (.astore 4, 2) := by decide +kernel
theorem dX7_bestRun_75 : decode cX7_bestRun 75 = .ok (.iinc 5 1, 3) := by decide +kernel
theorem dX7_bestRun_78 : decode cX7_bestRun 78 = .ok (.goto (-72), 3) := by decide +kernel
theorem dX7_bestRun_81 : decode cX7_bestRun 81 = .ok (.aload 4, 2) := by decide +kernel
theorem dX7_bestRun_83 : decode cX7_bestRun 83 = .ok (.areturn, 1) := by decide +kernel
theorem dX7_countsAnew_0 : decode cX7_countsAnew 0 = .ok (.aload_n 1, 1) := by decide +kernel
theorem dX7_countsAnew_1 : decode cX7_countsAnew 1 = .ok (.getfield 217, 3) := by decide +kernel
theorem dX7_countsAnew_4 : decode cX7_countsAnew 4 = .ok (.ifCond .eq 5, 3) := by decide +kernel
theorem dX7_countsAnew_7 : decode cX7_countsAnew 7 = .ok (.iconst 0, 1) := by decide +kernel
theorem dX7_countsAnew_8 : decode cX7_countsAnew 8 = .ok (.ireturn, 1) := by decide +kernel
theorem dX7_countsAnew_9 : decode cX7_countsAnew 9 = .ok (.aload_n 1, 1) := by decide +kernel
theorem dX7_countsAnew_10 : decode cX7_countsAnew 10 = .ok (.getfield 231, 3) := by decide +kernel
theorem dX7_countsAnew_13 : decode cX7_countsAnew 13 = .ok (.aload_n 0, 1) := by decide +kernel
theorem dX7_countsAnew_14 : decode cX7_countsAnew 14 = .ok (.getfield 31, 3) := by decide +kernel
theorem dX7_countsAnew_17 : decode cX7_countsAnew 17 = .ok (.sipush 500, 3) := by decide +kernel
theorem dX7_countsAnew_20 : decode cX7_countsAnew 20 = .ok (.invokevirtual 139, 3) := by decide +kernel
theorem dX7_countsAnew_23 : decode cX7_countsAnew 23 = .ok (.aload_n 0, 1) := by decide +kernel
theorem dX7_countsAnew_24 : decode cX7_countsAnew 24 = .ok (.getfield 31, 3) := by decide +kernel
theorem dX7_countsAnew_27 : decode cX7_countsAnew 27 = .ok (.invokevirtual 198, 3) := by decide +kernel
theorem dX7_countsAnew_30 : decode cX7_countsAnew 30 = .ok (.ifCond .eq 25, 3) := by decide +kernel
theorem dX7_countsAnew_33 : decode cX7_countsAnew 33 = .ok (.aload_n 1, 1) := by decide +kernel
theorem dX7_countsAnew_34 : decode cX7_countsAnew 34 = .ok (.getfield 226, 3) := by decide +kernel
theorem dX7_countsAnew_37 : decode cX7_countsAnew 37 = .ok (.aload_n 1, 1) := by decide +kernel
theorem dX7_countsAnew_38 : decode cX7_countsAnew 38 = .ok (.getfield 230, 3) := by decide +kernel
theorem dX7_countsAnew_41 : decode cX7_countsAnew 41 = .ok (.aload_n 0, 1) := by decide +kernel
theorem dX7_countsAnew_42 : decode cX7_countsAnew 42 = .ok (.getfield 31, 3) := by decide +kernel
theorem dX7_countsAnew_45 : decode cX7_countsAnew 45 = .ok (.invokevirtual 235, 3) := by decide +kernel
theorem dX7_countsAnew_48 : decode cX7_countsAnew 48 = .ok (.ifCond .ne 7, 3) := by decide +kernel
theorem dX7_countsAnew_51 : decode cX7_countsAnew 51 = .ok (.iconst 1, 1) := by decide +kernel
theorem dX7_countsAnew_52 : decode cX7_countsAnew 52 = .ok (.goto 4, 3) := by decide +kernel
theorem dX7_countsAnew_55 : decode cX7_countsAnew 55 = .ok (.iconst 0, 1) := by decide +kernel
theorem dX7_countsAnew_56 : decode cX7_countsAnew 56 = .ok (.ireturn, 1) := by decide +kernel
theorem dX7_placeFor_0 : decode cX7_placeFor 0 = .ok (.aload_n 0, 1) := by decide +kernel
theorem dX7_placeFor_1 : decode cX7_placeFor 1 = .ok (.aload_n 1, 1) := by decide +kernel
theorem dX7_placeFor_2 : decode cX7_placeFor 2 = .ok (.iload_n 2, 1) := by decide +kernel
theorem dX7_placeFor_3 : decode cX7_placeFor 3 = .ok (.aload_n 3, 1) := by decide +kernel
theorem dX7_placeFor_4 : decode cX7_placeFor 4 = .ok (.invokevirtual 239, 3) := by decide +kernel
theorem dX7_placeFor_7 : decode cX7_placeFor 7 = .ok (.astore 4, 2) := by decide +kernel
theorem dX7_placeFor_9 : decode cX7_placeFor 9 = .ok (.aload 4, 2) := by decide +kernel
theorem dX7_placeFor_11 : decode cX7_placeFor 11 = .ok (.ifnonnull 5, 3) := by decide +kernel
theorem dX7_placeFor_14 : decode cX7_placeFor 14 = .ok (.iconst (-1), 1) := by decide +kernel
theorem dX7_placeFor_15 : decode cX7_placeFor 15 = .ok (.ireturn, 1) := by decide +kernel
theorem dX7_placeFor_16 : decode cX7_placeFor 16 = .ok (.iconst 1, 1) := by decide +kernel
theorem dX7_placeFor_17 : decode cX7_placeFor 17 = .ok (.istore 5, 2) := by decide +kernel
theorem dX7_placeFor_19 : decode cX7_placeFor 19 = .ok (.iconst 0, 1) := by decide +kernel
theorem dX7_placeFor_20 : decode cX7_placeFor 20 = .ok (.istore 6, 2) := by decide +kernel
theorem dX7_placeFor_22 : decode cX7_placeFor 22 = .ok (.iload 6, 2) := by decide +kernel
theorem dX7_placeFor_24 : decode cX7_placeFor 24 = .ok (.bipush 8, 2) := by decide +kernel
theorem dX7_placeFor_26 : decode cX7_placeFor 26 = .ok (.if_icmp .ge 40, 3) := by decide +kernel
theorem dX7_placeFor_29 : decode cX7_placeFor 29 = .ok (.aload_n 0, 1) := by decide +kernel
theorem dX7_placeFor_30 : decode cX7_placeFor 30 = .ok (.aload_n 1, 1) := by decide +kernel
theorem dX7_placeFor_31 : decode cX7_placeFor 31 = .ok (.iload 6, 2) := by decide +kernel
theorem dX7_placeFor_33 : decode cX7_placeFor 33 = .ok (.aload_n 3, 1) := by decide +kernel
theorem dX7_placeFor_34 : decode cX7_placeFor 34 = .ok (.invokevirtual 239, 3) := by decide +kernel
theorem dX7_placeFor_37 : decode cX7_placeFor 37 = .ok (.astore 7, 2) := by decide +kernel
theorem dX7_placeFor_39 : decode cX7_placeFor 39 = .ok (.aload 7, 2) := by decide +kernel
theorem dX7_placeFor_41 : decode cX7_placeFor 41 = .ok (.ifnull 19, 3) := by decide +kernel
theorem dX7_placeFor_44 : decode cX7_placeFor 44 = .ok (.aload 7, 2) := by decide +kernel
theorem dX7_placeFor_46 : decode cX7_placeFor 46 = .ok (.getfield 272, 3) := by decide +kernel
theorem dX7_placeFor_49 : decode cX7_placeFor 49 = .ok (.aload 4, 2) := by decide +kernel
theorem dX7_placeFor_51 : decode cX7_placeFor 51 = .ok (.getfield 272, 3) := by decide +kernel
theorem dX7_placeFor_54 : decode cX7_placeFor 54 = .ok (.if_icmp .ge 6, 3) := by decide +kernel
theorem dX7_placeFor_57 : decode cX7_placeFor 57 = .ok (.iinc 5 1, 3) := by decide +kernel
theorem dX7_placeFor_60 : decode cX7_placeFor 60 = .ok (.iinc 6 1, 3) := by decide +kernel
theorem dX7_placeFor_63 : decode cX7_placeFor 63 = .ok (.goto (-41), 3) := by decide +kernel
theorem dX7_placeFor_66 : decode cX7_placeFor 66 = .ok (.iload 5, 2) := by decide +kernel
theorem dX7_placeFor_68 : decode cX7_placeFor 68 = .ok (.ireturn, 1) := by decide +kernel
theorem dX7_countAhead_0 : decode cX7_countAhead 0 = .ok (.iconst 0, 1) := by decide +kernel
theorem dX7_countAhead_1 : decode cX7_countAhead 1 = .ok (.istore_n 2, 1) := by decide +kernel
theorem dX7_countAhead_2 : decode cX7_countAhead 2 = .ok (.iconst 0, 1) := by decide +kernel
theorem dX7_countAhead_3 : decode cX7_countAhead 3 = .ok (.istore_n 3, 1) := by decide +kernel
theorem dX7_countAhead_4 : decode cX7_countAhead 4 = .ok (.iload_n 3, 1) := by decide +kernel
theorem dX7_countAhead_5 : decode cX7_countAhead 5 = .ok (.bipush 8, 2) := by decide +kernel
theorem dX7_countAhead_7 : decode cX7_countAhead 7 = .ok (.if_icmp .ge 38, 3) := by decide +kernel
theorem dX7_countAhead_10 : decode cX7_countAhead 10 = .ok (.aload_n 0, 1) := by decide +kernel
theorem dX7_countAhead_11 : decode cX7_countAhead 11 = .ok (.aload_n 1, 1) := by decide +kernel
theorem dX7_countAhead_12 : decode cX7_countAhead 12 = .ok (.getfield 226, 3) := by decide +kernel
theorem dX7_countAhead_15 : decode cX7_countAhead 15 = .ok (.iload_n 3, 1) := by decide +kernel
theorem dX7_countAhead_16 : decode cX7_countAhead 16 = .ok (.aconst_null, 1) := by decide +kernel
theorem dX7_countAhead_17 : decode cX7_countAhead 17 = .ok (.invokevirtual 239, 3) := by decide +kernel
theorem dX7_countAhead_20 : decode cX7_countAhead 20 = .ok (.astore 4, 2) := by decide +kernel
theorem dX7_countAhead_22 : decode cX7_countAhead 22 = .ok (.aload 4, 2) := by decide +kernel
theorem dX7_countAhead_24 : decode cX7_countAhead 24 = .ok (.ifnull 15, 3) := by decide +kernel
theorem dX7_countAhead_27 : decode cX7_countAhead 27 = .ok (.aload 4, 2) := by decide +kernel
theorem dX7_countAhead_29 : decode cX7_countAhead 29 = .ok (.aload_n 1, 1) := by decide +kernel
theorem dX7_countAhead_30 : decode cX7_countAhead 30 = .ok (.invokevirtual 269, 3) := by decide +kernel
theorem dX7_countAhead_33 : decode cX7_countAhead 33 = .ok (.ifCond .eq 6, 3) := by decide +kernel
theorem dX7_countAhead_36 : decode cX7_countAhead 36 = .ok (.iinc 2 1, 3) := by decide +kernel
theorem dX7_countAhead_39 : decode cX7_countAhead 39 = .ok (.iinc 3 1, 3) := by decide +kernel
theorem dX7_countAhead_42 : decode cX7_countAhead 42 = .ok (.goto (-38), 3) := by decide +kernel
theorem dX7_countAhead_45 : decode cX7_countAhead 45 = .ok (.iload_n 2, 1) := by decide +kernel
theorem dX7_countAhead_46 : decode cX7_countAhead 46 = .ok (.ireturn, 1) := by decide +kernel
theorem dX7_estimate_0 : decode cX7_estimate 0 = .ok (.aload_n 0, 1) := by decide +kernel
theorem dX7_estimate_1 : decode cX7_estimate 1 = .ok (.iload_n 1, 1) := by decide +kernel
theorem dX7_estimate_2 : decode cX7_estimate 2 = .ok (.invokevirtual 171, 3) := by decide +kernel
theorem dX7_estimate_5 : decode cX7_estimate 5 = .ok (.astore_n 3, 1) := by decide +kernel
theorem dX7_estimate_6 : decode cX7_estimate 6 = .ok (.iload_n 2, 1) := by decide +kernel
theorem dX7_estimate_7 : decode cX7_estimate 7 = .ok (.invokestatic 191, 3) := by decide +kernel
theorem dX7_estimate_10 : decode cX7_estimate 10 = .ok (.aload_n 0, 1) := by decide +kernel
theorem dX7_estimate_11 : decode cX7_estimate 11 = .ok (.aload_n 3, 1) := by decide +kernel
theorem dX7_estimate_12 : decode cX7_estimate 12 = .ok (.iload_n 2, 1) := by decide +kernel
theorem dX7_estimate_13 : decode cX7_estimate 13 = .ok (.invokevirtual 273, 3) := by decide +kernel
theorem dX7_estimate_16 : decode cX7_estimate 16 = .ok (.ireturn, 1) := by decide +kernel
theorem dX7_offer_0 : decode cX7_offer 0 = .ok (.aload_n 0, 1) := by decide +kernel
theorem dX7_offer_1 : decode cX7_offer 1 = .ok (.iload_n 1, 1) := by decide +kernel
theorem dX7_offer_2 : decode cX7_offer 2 = .ok (.invokevirtual 171, 3) := by decide +kernel
theorem dX7_offer_5 : decode cX7_offer 5 = .ok (.astore_n 3, 1) := by decide +kernel
theorem dX7_offer_6 : decode cX7_offer 6 = .ok (.iload_n 2, 1) := by decide +kernel
theorem dX7_offer_7 : decode cX7_offer 7 = .ok (.invokestatic 191, 3) := by decide +kernel
theorem dX7_offer_10 : decode cX7_offer 10 = .ok (.aload_n 0, 1) := by decide +kernel
theorem dX7_offer_11 : decode cX7_offer 11 = .ok (.aload_n 3, 1) := by decide +kernel
theorem dX7_offer_12 : decode cX7_offer 12 = .ok (.iload_n 2, 1) := by decide +kernel
theorem dX7_offer_13 : decode cX7_offer 13 = .ok (.aconst_null, 1) := by decide +kernel
theorem dX7_offer_14 : decode cX7_offer 14 = .ok (.invokevirtual 239, 3) := by decide +kernel
theorem dX7_offer_17 : decode cX7_offer 17 = .ok (.ifnull 24, 3) := by decide +kernel
theorem dX7_offer_20 : decode cX7_offer 20 = .ok (.aload_n 0, 1) := by decide +kernel
theorem dX7_offer_21 : decode cX7_offer 21 = .ok (.aload_n 3, 1) := by decide +kernel
theorem dX7_offer_22 : decode cX7_offer 22 = .ok (.iload_n 2, 1) := by decide +kernel
theorem dX7_offer_23 : decode cX7_offer 23 = .ok (.invokevirtual 277, 3) := by decide +kernel
theorem dX7_offer_26 : decode cX7_offer 26 = .ok (.ifCond .ne 15, 3) := by decide +kernel
theorem dX7_offer_29 : decode cX7_offer 29 = .ok (.aload_n 0, 1) := by decide +kernel
theorem dX7_offer_30 : decode cX7_offer 30 = .ok (.getfield 25, 3) := by decide +kernel
theorem dX7_offer_33 : decode cX7_offer 33 = .ok (.invokevirtual 46, 3) := by decide +kernel
theorem dX7_offer_36 : decode cX7_offer 36 = .ok (.bipush 10, 2) := by decide +kernel
theorem dX7_offer_38 : decode cX7_offer 38 = .ok (.if_icmp .lt 14, 3) := by decide +kernel
theorem dX7_offer_41 : decode cX7_offer 41 = .ok (.new 50, 3) := by decide +kernel
theorem dX7_offer_44 : decode cX7_offer 44 = .ok (.dup, 1) := by decide +kernel
theorem dX7_offer_45 : decode cX7_offer 45 = .ok (.ldc_w 280, 3) := by decide +kernel
theorem dX7_offer_48 : decode cX7_offer 48 = .ok (.invokespecial 54, 3) := by decide +kernel
theorem dX7_offer_51 : decode cX7_offer 51 = .ok (.athrow, 1) := by decide +kernel
theorem dX7_offer_52 : decode cX7_offer 52 = .ok (.aload_n 0, 1) := by decide +kernel
theorem dX7_offer_53 : decode cX7_offer 53 = .ok (.getfield 25, 3) := by decide +kernel
theorem dX7_offer_56 : decode cX7_offer 56 = .ok (.new 282, 3) := by decide +kernel
theorem dX7_offer_59 : decode cX7_offer 59 = .ok (.dup, 1) := by decide +kernel
theorem dX7_offer_60 : decode cX7_offer 60 = .ok (.aload_n 3, 1) := by decide +kernel
theorem dX7_offer_61 : decode cX7_offer 61 = .ok (.iload_n 2, 1) := by decide +kernel
theorem dX7_offer_62 : decode cX7_offer 62 = .ok (.invokespecial 284, 3) := by decide +kernel
theorem dX7_offer_65 : decode cX7_offer 65 = .ok (.invokevirtual 60, 3) := by decide +kernel
theorem dX7_offer_68 : decode cX7_offer 68 = .ok (.pop, 1) := by decide +kernel
theorem dX7_offer_69 : decode cX7_offer 69 = .ok (.aload_n 0, 1) := by decide +kernel
theorem dX7_offer_70 : decode cX7_offer 70 = .ok (.getfield 25, 3) := by decide +kernel
theorem dX7_offer_73 : decode cX7_offer 73 = .ok (.invokevirtual 46, 3) := by decide +kernel
theorem dX7_offer_76 : decode cX7_offer 76 = .ok (.iconst 1, 1) := by decide +kernel
theorem dX7_offer_77 : decode cX7_offer 77 = .ok (.isub, 1) := by decide +kernel
theorem dX7_offer_78 : decode cX7_offer 78 = .ok (.ireturn, 1) := by decide +kernel
theorem dX7_gift_0 : decode cX7_gift 0 = .ok (.iload_n 1, 1) := by decide +kernel
theorem dX7_gift_1 : decode cX7_gift 1 = .ok (.iconst 0, 1) := by decide +kernel
theorem dX7_gift_2 : decode cX7_gift 2 = .ok (.aload_n 0, 1) := by decide +kernel
theorem dX7_gift_3 : decode cX7_gift 3 = .ok (.getfield 25, 3) := by decide +kernel
theorem dX7_gift_6 : decode cX7_gift 6 = .ok (.invokevirtual 46, 3) := by decide +kernel
theorem dX7_gift_9 : decode cX7_gift 9 = .ok (.iconst 1, 1) := by decide +kernel
theorem dX7_gift_10 : decode cX7_gift 10 = .ok (.isub, 1) := by decide +kernel
theorem dX7_gift_11 : decode cX7_gift 11 = .ok (.invokestatic 68, 3) := by decide +kernel
theorem dX7_gift_14 : decode cX7_gift 14 = .ok (.ifCond .ne 14, 3) := by decide +kernel
theorem dX7_gift_17 : decode cX7_gift 17 = .ok (.new 72, 3) := by decide +kernel
theorem dX7_gift_20 : decode cX7_gift 20 = .ok (.dup, 1) := by decide +kernel
theorem dX7_gift_21 : decode cX7_gift 21 = .ok (.ldc_w 287, 3) := by decide +kernel
theorem dX7_gift_24 : decode cX7_gift 24 = .ok (.invokespecial 76, 3) := by decide +kernel
theorem dX7_gift_27 : decode cX7_gift 27 = .ok (.athrow, 1) := by decide +kernel
theorem dX7_gift_28 : decode cX7_gift 28 = .ok (.aload_n 0, 1) := by decide +kernel
theorem dX7_gift_29 : decode cX7_gift 29 = .ok (.getfield 25, 3) := by decide +kernel
theorem dX7_gift_32 : decode cX7_gift 32 = .ok (.iload_n 1, 1) := by decide +kernel
theorem dX7_gift_33 : decode cX7_gift 33 = .ok (.invokevirtual 156, 3) := by decide +kernel
theorem dX7_gift_36 : decode cX7_gift 36 = .ok (.checkcast 282, 3) := by decide +kernel
theorem dX7_gift_39 : decode cX7_gift 39 = .ok (.astore_n 3, 1) := by decide +kernel
theorem dX7_gift_40 : decode cX7_gift 40 = .ok (.iload_n 2, 1) := by decide +kernel
theorem dX7_gift_41 : decode cX7_gift 41 = .ok (.iconst 1, 1) := by decide +kernel
theorem dX7_gift_42 : decode cX7_gift 42 = .ok (.sipush 1000, 3) := by decide +kernel
theorem dX7_gift_45 : decode cX7_gift 45 = .ok (.invokestatic 68, 3) := by decide +kernel
theorem dX7_gift_48 : decode cX7_gift 48 = .ok (.invokestatic 77, 3) := by decide +kernel
theorem dX7_gift_51 : decode cX7_gift 51 = .ok (.aload_n 0, 1) := by decide +kernel
theorem dX7_gift_52 : decode cX7_gift 52 = .ok (.aload_n 3, 1) := by decide +kernel
theorem dX7_gift_53 : decode cX7_gift 53 = .ok (.getfield 289, 3) := by decide +kernel
theorem dX7_gift_56 : decode cX7_gift 56 = .ok (.aload_n 3, 1) := by decide +kernel
theorem dX7_gift_57 : decode cX7_gift 57 = .ok (.getfield 290, 3) := by decide +kernel
theorem dX7_gift_60 : decode cX7_gift 60 = .ok (.aconst_null, 1) := by decide +kernel
theorem dX7_gift_61 : decode cX7_gift 61 = .ok (.invokevirtual 239, 3) := by decide +kernel
theorem dX7_gift_64 : decode cX7_gift 64 = .ok (.ifnonnull 14, 3) := by decide +kernel
theorem dX7_gift_67 : decode cX7_gift 67 = .ok (.new 50, 3) := by decide +kernel
theorem dX7_gift_70 : decode cX7_gift 70 = .ok (.dup, 1) := by decide +kernel
theorem dX7_gift_71 : decode cX7_gift 71 = .ok (.ldc_w 291, 3) := by decide +kernel
theorem dX7_gift_74 : decode cX7_gift 74 = .ok (.invokespecial 54, 3) := by decide +kernel
theorem dX7_gift_77 : decode cX7_gift 77 = .ok (.athrow, 1) := by decide +kernel
theorem dX7_gift_78 : decode cX7_gift 78 = .ok (.aload_n 3, 1) := by decide +kernel
theorem dX7_gift_79 : decode cX7_gift 79 = .ok (.dup, 1) := by decide +kernel
theorem dX7_gift_80 : decode cX7_gift 80 = .ok (.getfield 293, 3) := by decide +kernel
theorem dX7_gift_83 : decode cX7_gift 83 = .ok (.iload_n 2, 1) := by decide +kernel
theorem dX7_gift_84 : decode cX7_gift 84 = .ok (.iadd, 1) := by decide +kernel
theorem dX7_gift_85 : decode cX7_gift 85 = .ok (.putfield 293, 3) := by decide +kernel
theorem dX7_gift_88 : decode cX7_gift 88 = .ok (.aload_n 3, 1) := by decide +kernel
theorem dX7_gift_89 : decode cX7_gift 89 = .ok (.getfield 293, 3) := by decide +kernel
theorem dX7_gift_92 : decode cX7_gift 92 = .ok (.ireturn, 1) := by decide +kernel
theorem dX7_plan_0 : decode cX7_plan 0 = .ok (.iload_n 1, 1) := by decide +kernel
theorem dX7_plan_1 : decode cX7_plan 1 = .ok (.iconst 0, 1) := by decide +kernel
theorem dX7_plan_2 : decode cX7_plan 2 = .ok (.sipush 10000, 3) := by decide +kernel
theorem dX7_plan_5 : decode cX7_plan 5 = .ok (.invokestatic 68, 3) := by decide +kernel
theorem dX7_plan_8 : decode cX7_plan 8 = .ok (.invokestatic 77, 3) := by decide +kernel
theorem dX7_plan_11 : decode cX7_plan 11 = .ok (.aload_n 0, 1) := by decide +kernel
theorem dX7_plan_12 : decode cX7_plan 12 = .ok (.invokevirtual 296, 3) := by decide +kernel
theorem dX7_plan_15 : decode cX7_plan 15 = .ok (.istore_n 2, 1) := by decide +kernel
theorem dX7_plan_16 : decode cX7_plan 16 = .ok (.iconst 0, 1) := by decide +kernel
theorem dX7_plan_17 : decode cX7_plan 17 = .ok (.istore_n 3, 1) := by decide +kernel
theorem dX7_plan_18 : decode cX7_plan 18 = .ok (.iconst 1, 1) := by decide +kernel
theorem dX7_plan_19 : decode cX7_plan 19 = .ok (.istore 4, 2) := by decide +kernel
theorem dX7_plan_21 : decode cX7_plan 21 = .ok (.iload 4, 2) := by decide +kernel
theorem dX7_plan_23 : decode cX7_plan 23 = .ok (.iload_n 2, 1) := by decide +kernel
theorem dX7_plan_24 : decode cX7_plan 24 = .ok (.if_icmp .ge 91, 3) := by decide +kernel
theorem dX7_plan_27 : decode cX7_plan 27 = .ok (.iload 4, 2) := by decide +kernel
theorem dX7_plan_29 : decode cX7_plan 29 = .ok (.sipush 1024, 3) := by decide +kernel
theorem dX7_plan_32 : decode cX7_plan 32 = .ok (.if_icmp .ge 83, 3) := by decide +kernel
theorem dX7_plan_35 : decode cX7_plan 35 = .ok (.aload_n 0, 1) := by decide +kernel
theorem dX7_plan_36 : decode cX7_plan 36 = .ok (.getfield 39, 3) := by decide +kernel
theorem dX7_plan_39 : decode cX7_plan 39 = .ok (.iload 4, 2) := by decide +kernel
theorem dX7_plan_41 : decode cX7_plan 41 = .ok (.iaload, 1) := by decide +kernel
theorem dX7_plan_42 : decode cX7_plan 42 = .ok (.aload_n 0, 1) := by decide +kernel
theorem dX7_plan_43 : decode cX7_plan 43 = .ok (.getfield 39, 3) := by decide +kernel
theorem dX7_plan_46 : decode cX7_plan 46 = .ok (.iload_n 3, 1) := by decide +kernel
theorem dX7_plan_47 : decode cX7_plan 47 = .ok (.iaload, 1) := by decide +kernel
theorem dX7_plan_48 : decode cX7_plan 48 = .ok (.if_icmp .gt 35, 3) := by decide +kernel
theorem dX7_plan_51 : decode cX7_plan 51 = .ok (.aload_n 0, 1) := by decide +kernel
theorem dX7_plan_52 : decode cX7_plan 52 = .ok (.getfield 39, 3) := by decide +kernel
theorem dX7_plan_55 : decode cX7_plan 55 = .ok (.iload 4, 2) := by decide +kernel
theorem dX7_plan_57 : decode cX7_plan 57 = .ok (.iaload, 1) := by decide +kernel
theorem dX7_plan_58 : decode cX7_plan 58 = .ok (.aload_n 0, 1) := by decide +kernel
theorem dX7_plan_59 : decode cX7_plan 59 = .ok (.getfield 39, 3) := by decide +kernel
theorem dX7_plan_62 : decode cX7_plan 62 = .ok (.iload_n 3, 1) := by decide +kernel
theorem dX7_plan_63 : decode cX7_plan 63 = .ok (.iaload, 1) := by decide +kernel
theorem dX7_plan_64 : decode cX7_plan 64 = .ok (.if_icmp .ne 23, 3) := by decide +kernel
theorem dX7_plan_67 : decode cX7_plan 67 = .ok (.aload_n 0, 1) := by decide +kernel
theorem dX7_plan_68 : decode cX7_plan 68 = .ok (.getfield 35, 3) := by decide +kernel
theorem dX7_plan_71 : decode cX7_plan 71 = .ok (.iload 4, 2) := by decide +kernel
theorem dX7_plan_73 : decode cX7_plan 73 = .ok (.iaload, 1) := by decide +kernel
theorem dX7_plan_74 : decode cX7_plan 74 = .ok (.aload_n 0, 1) := by decide +kernel
theorem dX7_plan_75 : decode cX7_plan 75 = .ok (.getfield 35, 3) := by decide +kernel
theorem dX7_plan_78 : decode cX7_plan 78 = .ok (.iload_n 3, 1) := by decide +kernel
theorem dX7_plan_79 : decode cX7_plan 79 = .ok (.iaload, 1) := by decide +kernel
theorem dX7_plan_80 : decode cX7_plan 80 = .ok (.if_icmp .ge 7, 3) := by decide +kernel
theorem dX7_plan_83 : decode cX7_plan 83 = .ok (.iconst 1, 1) := by decide +kernel
theorem dX7_plan_84 : decode cX7_plan 84 = .ok (.goto 4, 3) := by decide +kernel
theorem dX7_plan_87 : decode cX7_plan 87 = .ok (.iconst 0, 1) := by decide +kernel
theorem dX7_plan_88 : decode cX7_plan 88 = .ok (.istore 5, 2) := by decide +kernel
theorem dX7_plan_90 : decode cX7_plan 90 = .ok (.iload 5, 2) := by decide +kernel
theorem dX7_plan_92 : decode cX7_plan 92 = .ok (.ifCond .eq 17, 3) := by decide +kernel
theorem dX7_plan_95 : decode cX7_plan 95 = .ok (.aload_n 0, 1) := by decide +kernel
theorem dX7_plan_96 : decode cX7_plan 96 = .ok (.getfield 35, 3) := by decide +kernel
theorem dX7_plan_99 : decode cX7_plan 99 = .ok (.iload 4, 2) := by decide +kernel
theorem dX7_plan_101 : decode cX7_plan 101 = .ok (.iaload, 1) := by decide +kernel
theorem dX7_plan_102 : decode cX7_plan 102 = .ok (.iload_n 1, 1) := by decide +kernel
theorem dX7_plan_103 : decode cX7_plan 103 = .ok (.if_icmp .gt 6, 3) := by decide +kernel
theorem dX7_plan_106 : decode cX7_plan 106 = .ok (.iload 4, 2) := by decide +kernel
theorem dX7_plan_108 : decode cX7_plan 108 = .ok (.istore_n 3, 1) := by decide +kernel
theorem dX7_plan_109 : decode cX7_plan 109 = .ok (.iinc 4 1, 3) := by decide +kernel
theorem dX7_plan_112 : decode cX7_plan 112 = .ok (.goto (-91), 3) := by decide +kernel
theorem dX7_plan_115 : decode cX7_plan 115 = .ok (.iload_n 3, 1) := by decide +kernel
theorem dX7_plan_116 : decode cX7_plan 116 = .ok (.ireturn, 1) := by decide +kernel
theorem dX7_estimateFor_0 : decode cX7_estimateFor 0 = .ok (.iconst 0, 1) := by decide +kernel
theorem dX7_estimateFor_1 : decode cX7_estimateFor 1 = .ok (.istore_n 3, 1) := by decide +kernel
theorem dX7_estimateFor_2 : decode cX7_estimateFor 2 = .ok (.iconst 0, 1) := by decide +kernel
theorem dX7_estimateFor_3 : decode cX7_estimateFor 3 = .ok (.istore 4, 2) := by decide +kernel
theorem dX7_estimateFor_5 : decode cX7_estimateFor 5 = .ok (.aload_n 0, 1) := by decide +kernel
theorem dX7_estimateFor_6 : decode cX7_estimateFor 6 = .ok (.getfield 22, 3) := by decide +kernel
theorem dX7_estimateFor_9 : decode cX7_estimateFor 9 = .ok (.invokevirtual 46, 3) := by decide +kernel
theorem dX7_estimateFor_12 : decode cX7_estimateFor 12 = .ok (.iconst 1, 1) := by decide +kernel
theorem dX7_estimateFor_13 : decode cX7_estimateFor 13 = .ok (.isub, 1) := by decide +kernel
theorem dX7_estimateFor_14 : decode cX7_estimateFor 14 = .ok (.istore 5, 2) := by decide +kernel
theorem dX7_estimateFor_16 : decode cX7_estimateFor 16 = .ok (.iload 5, 2) := by decide +kernel
theorem dX7_estimateFor_18 : decode cX7_estimateFor 18 = .ok (.ifCond .lt 58, 3) := by decide +kernel
theorem dX7_estimateFor_21 : decode cX7_estimateFor 21 = .ok (.iload 4, 2) := by decide +kernel
theorem dX7_estimateFor_23 : decode cX7_estimateFor 23 = .ok (.iconst 3, 1) := by decide +kernel
theorem dX7_estimateFor_24 : decode cX7_estimateFor 24 = .ok (.if_icmp .ge 52, 3) := by decide +kernel
theorem dX7_estimateFor_27 : decode cX7_estimateFor 27 = .ok (.aload_n 0, 1) := by decide +kernel
theorem dX7_estimateFor_28 : decode cX7_estimateFor 28 = .ok (.getfield 22, 3) := by decide +kernel
theorem dX7_estimateFor_31 : decode cX7_estimateFor 31 = .ok (.iload 5, 2) := by decide +kernel
theorem dX7_estimateFor_33 : decode cX7_estimateFor 33 = .ok (.invokevirtual 156, 3) := by decide +kernel
theorem dX7_estimateFor_36 : decode cX7_estimateFor 36 = .ok (.checkcast 204, 3) := by decide +kernel
theorem dX7_estimateFor_39 : decode cX7_estimateFor 39 = .ok (.astore 6, 2) := by decide +kernel
theorem dX7_estimateFor_41 : decode cX7_estimateFor 41 = .ok (.aload 6, 2) := by decide +kernel
theorem dX7_estimateFor_43 : decode cX7_estimateFor 43 = .ok (.aload_n 1, 1) := by decide +kernel
theorem dX7_estimateFor_44 : decode cX7_estimateFor 44 = .ok (.iload_n 2, 1) := by decide +kernel
theorem dX7_estimateFor_45 : decode cX7_estimateFor 45 = .ok (.invokevirtual 246, 3) := by decide +kernel
theorem dX7_estimateFor_48 : decode cX7_estimateFor 48 = .ok (.ifCond .eq 22, 3) := by decide +kernel
theorem dX7_estimateFor_51 : decode cX7_estimateFor 51 = .ok (.aload 6, 2) := by decide +kernel
theorem dX7_estimateFor_53 : decode cX7_estimateFor 53 = .ok (.invokestatic 266, 3) := by decide +kernel
theorem dX7_estimateFor_56 : decode cX7_estimateFor 56 = .ok (.ifCond .eq 14, 3) := by decide +kernel
theorem dX7_estimateFor_59 : decode cX7_estimateFor 59 = .ok (.iload_n 3, 1) := by decide +kernel
theorem dX7_estimateFor_60 : decode cX7_estimateFor 60 = .ok (.aload 6, 2) := by decide +kernel
theorem dX7_estimateFor_62 : decode cX7_estimateFor 62 = .ok (.getfield 272, 3) := by decide +kernel
theorem dX7_estimateFor_65 : decode cX7_estimateFor 65 = .ok (.iadd, 1) := by decide +kernel
theorem dX7_estimateFor_66 : decode cX7_estimateFor 66 = .ok (.istore_n 3, 1) := by decide +kernel
theorem dX7_estimateFor_67 : decode cX7_estimateFor 67 = .ok (.iinc 4 1, 3) := by decide +kernel
theorem dX7_estimateFor_70 : decode cX7_estimateFor 70 = .ok (.iinc 5 (-1), 3) := by decide +kernel
theorem dX7_estimateFor_73 : decode cX7_estimateFor 73 = .ok (.goto (-57), 3) := by decide +kernel
theorem dX7_estimateFor_76 : decode cX7_estimateFor 76 = .ok (.iload 4, 2) := by decide +kernel
theorem dX7_estimateFor_78 : decode cX7_estimateFor 78 = .ok (.ifCond .ne 7, 3) := by decide +kernel
theorem dX7_estimateFor_81 : decode cX7_estimateFor 81 = .ok (.iconst (-1), 1) := by decide +kernel
theorem dX7_estimateFor_82 : decode cX7_estimateFor 82 = .ok (.goto 21, 3) := by decide +kernel
theorem dX7_estimateFor_85 : decode cX7_estimateFor 85 = .ok (.bipush 11, 2) := by decide +kernel
theorem dX7_estimateFor_87 : decode cX7_estimateFor 87 = .ok (.iload_n 3, 1) := by decide +kernel
theorem dX7_estimateFor_88 : decode cX7_estimateFor 88 = .ok (.imul, 1) := by decide +kernel
theorem dX7_estimateFor_89 : decode cX7_estimateFor 89 = .ok (.bipush 10, 2) := by decide +kernel
theorem dX7_estimateFor_91 : decode cX7_estimateFor 91 = .ok (.iload 4, 2) := by decide +kernel
theorem dX7_estimateFor_93 : decode cX7_estimateFor 93 = .ok (.imul, 1) := by decide +kernel
theorem dX7_estimateFor_94 : decode cX7_estimateFor 94 = .ok (.iadd, 1) := by decide +kernel
theorem dX7_estimateFor_95 : decode cX7_estimateFor 95 = .ok (.iconst 1, 1) := by decide +kernel
theorem dX7_estimateFor_96 : decode cX7_estimateFor 96 = .ok (.isub, 1) := by decide +kernel
theorem dX7_estimateFor_97 : decode cX7_estimateFor 97 = .ok (.bipush 10, 2) := by decide +kernel
theorem dX7_estimateFor_99 : decode cX7_estimateFor 99 = .ok (.iload 4, 2) := by decide +kernel
theorem dX7_estimateFor_101 : decode cX7_estimateFor 101 = .ok (.imul, 1) := by decide +kernel
theorem dX7_estimateFor_102 : decode cX7_estimateFor 102 = .ok (.idiv, 1) := by decide +kernel
theorem dX7_estimateFor_103 : decode cX7_estimateFor 103 = .ok (.ireturn, 1) := by decide +kernel
theorem dX7_hasOffered_0 : decode cX7_hasOffered 0 = .ok (.iconst 0, 1) := by decide +kernel
theorem dX7_hasOffered_1 : decode cX7_hasOffered 1 = .ok (.istore_n 3, 1) := by decide +kernel
theorem dX7_hasOffered_2 : decode cX7_hasOffered 2 = .ok (.iload_n 3, 1) := by decide +kernel
theorem dX7_hasOffered_3 : decode cX7_hasOffered 3 = .ok (.aload_n 0, 1) := by decide +kernel
theorem dX7_hasOffered_4 : decode cX7_hasOffered 4 = .ok (.getfield 25, 3) := by decide +kernel
theorem dX7_hasOffered_7 : decode cX7_hasOffered 7 = .ok (.invokevirtual 46, 3) := by decide +kernel
theorem dX7_hasOffered_10 : decode cX7_hasOffered 10 = .ok (.if_icmp .ge 42, 3) := by decide +kernel
theorem dX7_hasOffered_13 : decode cX7_hasOffered 13 = .ok (.aload_n 0, 1) := by decide +kernel
theorem dX7_hasOffered_14 : decode cX7_hasOffered 14 = .ok (.getfield 25, 3) := by decide +kernel
theorem dX7_hasOffered_17 : decode cX7_hasOffered 17 = .ok (.iload_n 3, 1) := by decide +kernel
theorem dX7_hasOffered_18 : decode cX7_hasOffered 18 = .ok (.invokevirtual 156, 3) := by decide +kernel
theorem dX7_hasOffered_21 : decode cX7_hasOffered 21 = .ok (.checkcast 282, 3) := by decide +kernel
theorem dX7_hasOffered_24 : decode cX7_hasOffered 24 = .ok (.astore 4, 2) := by decide +kernel
theorem dX7_hasOffered_26 : decode cX7_hasOffered 26 = .ok (.aload 4, 2) := by decide +kernel
theorem dX7_hasOffered_28 : decode cX7_hasOffered 28 = .ok (.getfield 289, 3) := by decide +kernel
theorem dX7_hasOffered_31 : decode cX7_hasOffered 31 = .ok (.aload_n 1, 1) := by decide +kernel
theorem dX7_hasOffered_32 : decode cX7_hasOffered 32 = .ok (.if_acmp .ne 14, 3) := by decide +kernel
theorem dX7_hasOffered_35 : decode cX7_hasOffered 35 = .ok (.aload 4, 2) := by decide +kernel
theorem dX7_hasOffered_37 : decode cX7_hasOffered 37 = .ok (.getfield 290, 3) := by decide +kernel
theorem dX7_hasOffered_40 : decode cX7_hasOffered 40 = .ok (.iload_n 2, 1) := by decide +kernel
theorem dX7_hasOffered_41 : decode cX7_hasOffered 41 = .ok (.if_icmp .ne 5, 3) := by decide +kernel
theorem dX7_hasOffered_44 : decode cX7_hasOffered 44 = .ok (.iconst 1, 1) := by decide +kernel
theorem dX7_hasOffered_45 : decode cX7_hasOffered 45 = .ok (.ireturn, 1) := by decide +kernel
theorem dX7_hasOffered_46 : decode cX7_hasOffered 46 = .ok (.iinc 3 1, 3) := by decide +kernel
theorem dX7_hasOffered_49 : decode cX7_hasOffered 49 = .ok (.goto (-47), 3) := by decide +kernel
theorem dX7_hasOffered_52 : decode cX7_hasOffered 52 = .ok (.iconst 0, 1) := by decide +kernel
theorem dX7_hasOffered_53 : decode cX7_hasOffered 53 = .ok (.ireturn, 1) := by decide +kernel
theorem dX7_fillSets_0 : decode cX7_fillSets 0 = .ok (.iconst 1, 1) := by decide +kernel
theorem dX7_fillSets_1 : decode cX7_fillSets 1 = .ok (.istore_n 1, 1) := by decide +kernel
theorem dX7_fillSets_2 : decode cX7_fillSets 2 = .ok (.iconst 0, 1) := by decide +kernel
theorem dX7_fillSets_3 : decode cX7_fillSets 3 = .ok (.istore_n 2, 1) := by decide +kernel
theorem dX7_fillSets_4 : decode cX7_fillSets 4 = .ok (.iload_n 2, 1) := by decide +kernel
theorem dX7_fillSets_5 : decode cX7_fillSets 5 = .ok (.aload_n 0, 1) := by decide +kernel
theorem dX7_fillSets_6 : decode cX7_fillSets 6 = .ok (.getfield 25, 3) := by decide +kernel
theorem dX7_fillSets_9 : decode cX7_fillSets 9 = .ok (.invokevirtual 46, 3) := by decide +kernel
theorem dX7_fillSets_12 : decode cX7_fillSets 12 = .ok (.if_icmp .ge 96, 3) := by decide +kernel
theorem dX7_fillSets_15 : decode cX7_fillSets 15 = .ok (.iconst 2, 1) := by decide +kernel
theorem dX7_fillSets_16 : decode cX7_fillSets 16 = .ok (.iload_n 1, 1) := by decide +kernel
theorem dX7_fillSets_17 : decode cX7_fillSets 17 = .ok (.imul, 1) := by decide +kernel
theorem dX7_fillSets_18 : decode cX7_fillSets 18 = .ok (.sipush 1024, 3) := by decide +kernel
theorem dX7_fillSets_21 : decode cX7_fillSets 21 = .ok (.if_icmp .gt 87, 3) := by decide +kernel
theorem dX7_fillSets_24 : decode cX7_fillSets 24 = .ok (.aload_n 0, 1) := by decide +kernel
theorem dX7_fillSets_25 : decode cX7_fillSets 25 = .ok (.getfield 25, 3) := by decide +kernel
theorem dX7_fillSets_28 : decode cX7_fillSets 28 = .ok (.iload_n 2, 1) := by decide +kernel
theorem dX7_fillSets_29 : decode cX7_fillSets 29 = .ok (.invokevirtual 156, 3) := by decide +kernel
theorem dX7_fillSets_32 : decode cX7_fillSets 32 = .ok (.checkcast 282, 3) := by decide +kernel
theorem dX7_fillSets_35 : decode cX7_fillSets 35 = .ok (.astore_n 3, 1) := by decide +kernel
theorem dX7_fillSets_36 : decode cX7_fillSets 36 = .ok (.aload_n 0, 1) := by decide +kernel
theorem dX7_fillSets_37 : decode cX7_fillSets 37 = .ok (.aload_n 3, 1) := by decide +kernel
theorem dX7_fillSets_38 : decode cX7_fillSets 38 = .ok (.invokevirtual 299, 3) := by decide +kernel
theorem dX7_fillSets_41 : decode cX7_fillSets 41 = .ok (.istore 4, 2) := by decide +kernel
theorem dX7_fillSets_43 : decode cX7_fillSets 43 = .ok (.iconst 0, 1) := by decide +kernel
theorem dX7_fillSets_44 : decode cX7_fillSets 44 = .ok (.istore 5, 2) := by decide +kernel
theorem dX7_fillSets_46 : decode cX7_fillSets 46 = .ok (.iload 5, 2) := by decide +kernel
theorem dX7_fillSets_48 : decode cX7_fillSets 48 = .ok (.iload_n 1, 1) := by decide +kernel
theorem dX7_fillSets_49 : decode cX7_fillSets 49 = .ok (.if_icmp .ge 49, 3) := by decide +kernel
theorem dX7_fillSets_52 : decode cX7_fillSets 52 = .ok (.aload_n 0, 1) := by decide +kernel
theorem dX7_fillSets_53 : decode cX7_fillSets 53 = .ok (.getfield 35, 3) := by decide +kernel
theorem dX7_fillSets_56 : decode cX7_fillSets 56 = .ok (.iload_n 1, 1) := by decide +kernel
theorem dX7_fillSets_57 : decode cX7_fillSets 57 = .ok (.iload 5, 2) := by decide +kernel
theorem dX7_fillSets_59 : decode cX7_fillSets 59 = .ok (.iadd, 1) := by decide +kernel
theorem dX7_fillSets_60 : decode cX7_fillSets 60 = .ok (.aload_n 0, 1) := by decide +kernel
theorem dX7_fillSets_61 : decode cX7_fillSets 61 = .ok (.getfield 35, 3) := by decide +kernel
theorem dX7_fillSets_64 : decode cX7_fillSets 64 = .ok (.iload 5, 2) := by decide +kernel
theorem dX7_fillSets_66 : decode cX7_fillSets 66 = .ok (.iaload, 1) := by decide +kernel
theorem dX7_fillSets_67 : decode cX7_fillSets 67 = .ok (.iload 4, 2) := by decide +kernel
theorem dX7_fillSets_69 : decode cX7_fillSets 69 = .ok (.iadd, 1) := by decide +kernel
theorem dX7_fillSets_70 : decode cX7_fillSets 70 = .ok (.iastore, 1) := by decide +kernel
theorem dX7_fillSets_71 : decode cX7_fillSets 71 = .ok (.aload_n 0, 1) := by decide +kernel
theorem dX7_fillSets_72 : decode cX7_fillSets 72 = .ok (.getfield 39, 3) := by decide +kernel
theorem dX7_fillSets_75 : decode cX7_fillSets 75 = .ok (.iload_n 1, 1) := by decide +kernel
theorem dX7_fillSets_76 : decode cX7_fillSets 76 = .ok (.iload 5, 2) := by decide +kernel
theorem dX7_fillSets_78 : decode cX7_fillSets 78 = .ok (.iadd, 1) := by decide +kernel
theorem dX7_fillSets_79 : decode cX7_fillSets 79 = .ok (.aload_n 0, 1) := by decide +kernel
theorem dX7_fillSets_80 : decode cX7_fillSets 80 = .ok (.getfield 39, 3) := by decide +kernel
theorem dX7_fillSets_83 : decode cX7_fillSets 83 = .ok (.iload 5, 2) := by decide +kernel
theorem dX7_fillSets_85 : decode cX7_fillSets 85 = .ok (.iaload, 1) := by decide +kernel
theorem dX7_fillSets_86 : decode cX7_fillSets 86 = .ok (.aload_n 3, 1) := by decide +kernel
theorem dX7_fillSets_87 : decode cX7_fillSets 87 = .ok (.getfield 293, 3) := by decide +kernel
theorem dX7_fillSets_90 : decode cX7_fillSets 90 = .ok (.iadd, 1) := by decide +kernel
theorem dX7_fillSets_91 : decode cX7_fillSets 91 = .ok (.iastore, 1) := by decide +kernel
theorem dX7_fillSets_92 : decode cX7_fillSets 92 = .ok (.iinc 5 1, 3) := by decide +kernel
theorem dX7_fillSets_95 : decode cX7_fillSets 95 = .ok (.goto (-49), 3) := by decide +kernel
theorem dX7_fillSets_98 : decode cX7_fillSets 98 = .ok (.iload_n 1, 1) := by decide +kernel
theorem dX7_fillSets_99 : decode cX7_fillSets 99 = .ok (.iconst 2, 1) := by decide +kernel
theorem dX7_fillSets_100 : decode cX7_fillSets 100 = .ok (.imul, 1) := by decide +kernel
theorem dX7_fillSets_101 : decode cX7_fillSets 101 = .ok (.istore_n 1, 1) := by decide +kernel
theorem dX7_fillSets_102 : decode cX7_fillSets 102 = .ok (.iinc 2 1, 3) := by decide +kernel
theorem dX7_fillSets_105 : decode cX7_fillSets 105 = .ok (.goto (-101), 3) := by decide +kernel
theorem dX7_fillSets_108 : decode cX7_fillSets 108 = .ok (.iload_n 1, 1) := by decide +kernel
theorem dX7_fillSets_109 : decode cX7_fillSets 109 = .ok (.ireturn, 1) := by decide +kernel
theorem dX7_costOf_0 : decode cX7_costOf 0 = .ok (.aload_n 0, 1) := by decide +kernel
theorem dX7_costOf_1 : decode cX7_costOf 1 = .ok (.aload_n 1, 1) := by decide +kernel
theorem dX7_costOf_2 : decode cX7_costOf 2 = .ok (.getfield 289, 3) := by decide +kernel
theorem dX7_costOf_5 : decode cX7_costOf 5 = .ok (.aload_n 1, 1) := by decide +kernel
theorem dX7_costOf_6 : decode cX7_costOf 6 = .ok (.getfield 290, 3) := by decide +kernel
theorem dX7_costOf_9 : decode cX7_costOf 9 = .ok (.invokevirtual 273, 3) := by decide +kernel
theorem dX7_costOf_12 : decode cX7_costOf 12 = .ok (.istore_n 2, 1) := by decide +kernel
theorem dX7_costOf_13 : decode cX7_costOf 13 = .ok (.iload_n 2, 1) := by decide +kernel
theorem dX7_costOf_14 : decode cX7_costOf 14 = .ok (.iconst (-1), 1) := by decide +kernel
theorem dX7_costOf_15 : decode cX7_costOf 15 = .ok (.if_icmp .ne 9, 3) := by decide +kernel
theorem dX7_costOf_18 : decode cX7_costOf 18 = .ok (.sipush 10001, 3) := by decide +kernel
theorem dX7_costOf_21 : decode cX7_costOf 21 = .ok (.goto 4, 3) := by decide +kernel
theorem dX7_costOf_24 : decode cX7_costOf 24 = .ok (.iload_n 2, 1) := by decide +kernel
theorem dX7_costOf_25 : decode cX7_costOf 25 = .ok (.ireturn, 1) := by decide +kernel
end
section
theorem dX8_init_0 : decode cX8_init 0 = .ok (.aload_n 0, 1) := by decide +kernel
theorem dX8_init_1 : decode cX8_init 1 = .ok (.invokespecial 1, 3) := by decide +kernel
theorem dX8_init_4 : decode cX8_init 4 = .ok (.aload_n 0, 1) := by decide +kernel
theorem dX8_init_5 : decode cX8_init 5 = .ok (.bipush 96, 2) := by decide +kernel
theorem dX8_init_7 : decode cX8_init 7 = .ok (.newarray .int, 2) := by decide +kernel
theorem dX8_init_9 : decode cX8_init 9 = .ok (.putfield 7, 3) := by decide +kernel
theorem dX8_init_12 : decode cX8_init 12 = .ok (.aload_n 0, 1) := by decide +kernel
theorem dX8_init_13 : decode cX8_init 13 = .ok (.bipush 96, 2) := by decide +kernel
theorem dX8_init_15 : decode cX8_init 15 = .ok (.newarray .int, 2) := by decide +kernel
theorem dX8_init_17 : decode cX8_init 17 = .ok (.putfield 13, 3) := by decide +kernel
theorem dX8_init_20 : decode cX8_init 20 = .ok (.aload_n 0, 1) := by decide +kernel
theorem dX8_init_21 : decode cX8_init 21 = .ok (.bipush 20, 2) := by decide +kernel
theorem dX8_init_23 : decode cX8_init 23 = .ok (.newarray .int, 2) := by decide +kernel
theorem dX8_init_25 : decode cX8_init 25 = .ok (.putfield 16, 3) := by decide +kernel
theorem dX8_init_28 : decode cX8_init 28 = .ok (.aload_n 0, 1) := by decide +kernel
theorem dX8_init_29 : decode cX8_init 29 = .ok (.bipush 20, 2) := by decide +kernel
theorem dX8_init_31 : decode cX8_init 31 = .ok (.newarray .int, 2) := by decide +kernel
theorem dX8_init_33 : decode cX8_init 33 = .ok (.putfield 19, 3) := by decide +kernel
theorem dX8_init_36 : decode cX8_init 36 = .ok (.aload_n 0, 1) := by decide +kernel
theorem dX8_init_37 : decode cX8_init 37 = .ok (.bipush 20, 2) := by decide +kernel
theorem dX8_init_39 : decode cX8_init 39 = .ok (.newarray .int, 2) := by decide +kernel
theorem dX8_init_41 : decode cX8_init 41 = .ok (.putfield 22, 3) := by decide +kernel
theorem dX8_init_44 : decode cX8_init 44 = .ok (.aload_n 0, 1) := by decide +kernel
theorem dX8_init_45 : decode cX8_init 45 = .ok (.bipush 20, 2) := by decide +kernel
theorem dX8_init_47 : decode cX8_init 47 = .ok (.newarray .int, 2) := by decide +kernel
theorem dX8_init_49 : decode cX8_init 49 = .ok (.putfield 25, 3) := by decide +kernel
theorem dX8_init_52 : decode cX8_init 52 = .ok (.aload_n 0, 1) := by decide +kernel
theorem dX8_init_53 : decode cX8_init 53 = .ok (.sipush 400, 3) := by decide +kernel
theorem dX8_init_56 : decode cX8_init 56 = .ok (.newarray .int, 2) := by decide +kernel
theorem dX8_init_58 : decode cX8_init 58 = .ok (.putfield 28, 3) := by decide +kernel
theorem dX8_init_61 : decode cX8_init 61 = .ok (.aload_n 0, 1) := by decide +kernel
theorem dX8_init_62 : decode cX8_init 62 = .ok (.sipush 400, 3) := by decide +kernel
theorem dX8_init_65 : decode cX8_init 65 = .ok (.newarray .int, 2) := by decide +kernel
theorem dX8_init_67 : decode cX8_init 67 = .ok (.putfield 31, 3) := by decide +kernel
theorem dX8_init_70 : decode cX8_init 70 = .ok (.aload_n 0, 1) := by decide +kernel
theorem dX8_init_71 : decode cX8_init 71 = .ok (.bipush 6, 2) := by decide +kernel
theorem dX8_init_73 : decode cX8_init 73 = .ok (.newarray .int, 2) := by decide +kernel
theorem dX8_init_75 : decode cX8_init 75 = .ok (.putfield 34, 3) := by decide +kernel
theorem dX8_init_78 : decode cX8_init 78 = .ok (.aload_n 0, 1) := by decide +kernel
theorem dX8_init_79 : decode cX8_init 79 = .ok (.bipush 6, 2) := by decide +kernel
theorem dX8_init_81 : decode cX8_init 81 = .ok (.newarray .int, 2) := by decide +kernel
theorem dX8_init_83 : decode cX8_init 83 = .ok (.putfield 37, 3) := by decide +kernel
theorem dX8_init_86 : decode cX8_init 86 = .ok (.aload_n 0, 1) := by decide +kernel
theorem dX8_init_87 : decode cX8_init 87 = .ok (.bipush 60, 2) := by decide +kernel
theorem dX8_init_89 : decode cX8_init 89 = .ok (.newarray .int, 2) := by decide +kernel
theorem dX8_init_91 : decode cX8_init 91 = .ok (.putfield 40, 3) := by decide +kernel
theorem dX8_init_94 : decode cX8_init 94 = .ok (.aload_n 0, 1) := by decide +kernel
theorem dX8_init_95 : decode cX8_init 95 = .ok (.bipush 60, 2) := by decide +kernel
theorem dX8_init_97 : decode cX8_init 97 = .ok (.newarray .int, 2) := by decide +kernel
theorem dX8_init_99 : decode cX8_init 99 = .ok (.putfield 43, 3) := by decide +kernel
theorem dX8_init_102 : decode cX8_init 102 = .ok (.aload_n 0, 1) := by decide +kernel
theorem dX8_init_103 : decode cX8_init 103 = .ok (.bipush 60, 2) := by decide +kernel
theorem dX8_init_105 : decode cX8_init 105 = .ok (.newarray .int, 2) := by decide +kernel
theorem dX8_init_107 : decode cX8_init 107 = .ok (.putfield 46, 3) := by decide +kernel
theorem dX8_init_110 : decode cX8_init 110 = .ok (.aload_n 0, 1) := by decide +kernel
theorem dX8_init_111 : decode cX8_init 111 = .ok (.bipush 60, 2) := by decide +kernel
theorem dX8_init_113 : decode cX8_init 113 = .ok (.newarray .int, 2) := by decide +kernel
theorem dX8_init_115 : decode cX8_init 115 = .ok (.putfield 49, 3) := by decide +kernel
theorem dX8_init_118 : decode cX8_init 118 = .ok (.aload_n 0, 1) := by decide +kernel
theorem dX8_init_119 : decode cX8_init 119 = .ok (.bipush 40, 2) := by decide +kernel
theorem dX8_init_121 : decode cX8_init 121 = .ok (.newarray .int, 2) := by decide +kernel
theorem dX8_init_123 : decode cX8_init 123 = .ok (.putfield 52, 3) := by decide +kernel
theorem dX8_init_126 : decode cX8_init 126 = .ok (.aload_n 0, 1) := by decide +kernel
theorem dX8_init_127 : decode cX8_init 127 = .ok (.bipush 40, 2) := by decide +kernel
theorem dX8_init_129 : decode cX8_init 129 = .ok (.newarray .int, 2) := by decide +kernel
theorem dX8_init_131 : decode cX8_init 131 = .ok (.putfield 55, 3) := by decide +kernel
theorem dX8_init_134 : decode cX8_init 134 = .ok (.aload_n 0, 1) := by decide +kernel
theorem dX8_init_135 : decode cX8_init 135 = .ok (.bipush 40, 2) := by decide +kernel
theorem dX8_init_137 : decode cX8_init 137 = .ok (.newarray .int, 2) := by decide +kernel
theorem dX8_init_139 : decode cX8_init 139 = .ok (.putfield 58, 3) := by decide +kernel
theorem dX8_init_142 : decode cX8_init 142 = .ok (.aload_n 0, 1) := by decide +kernel
theorem dX8_init_143 : decode cX8_init 143 = .ok (.bipush 40, 2) := by decide +kernel
theorem dX8_init_145 : decode cX8_init 145 = .ok (.newarray .int, 2) := by decide +kernel
theorem dX8_init_147 : decode cX8_init 147 = .ok (.putfield 61, 3) := by decide +kernel
theorem dX8_init_150 : decode cX8_init 150 = .ok (.aload_n 0, 1) := by decide +kernel
theorem dX8_init_151 : decode cX8_init 151 = .ok (.bipush 40, 2) := by decide +kernel
theorem dX8_init_153 : decode cX8_init 153 = .ok (.newarray .int, 2) := by decide +kernel
theorem dX8_init_155 : decode cX8_init 155 = .ok (.putfield 64, 3) := by decide +kernel
theorem dX8_init_158 : decode cX8_init 158 = .ok (.aload_n 0, 1) := by decide +kernel
theorem dX8_init_159 : decode cX8_init 159 = .ok (.bipush 40, 2) := by decide +kernel
theorem dX8_init_161 : decode cX8_init 161 = .ok (.newarray .int, 2) := by decide +kernel
theorem dX8_init_163 : decode cX8_init 163 = .ok (.putfield 67, 3) := by decide +kernel
theorem dX8_init_166 : decode cX8_init 166 = .ok (.aload_n 0, 1) := by decide +kernel
theorem dX8_init_167 : decode cX8_init 167 = .ok (.bipush 40, 2) := by decide +kernel
theorem dX8_init_169 : decode cX8_init 169 = .ok (.newarray .int, 2) := by decide +kernel
theorem dX8_init_171 : decode cX8_init 171 = .ok (.putfield 70, 3) := by decide +kernel
theorem dX8_init_174 : decode cX8_init 174 = .ok (.aload_n 0, 1) := by decide +kernel
theorem dX8_init_175 : decode cX8_init 175 = .ok (.bipush 40, 2) := by decide +kernel
theorem dX8_init_177 : decode cX8_init 177 = .ok (.newarray .int, 2) := by decide +kernel
theorem dX8_init_179 : decode cX8_init 179 = .ok (.putfield 73, 3) := by decide +kernel
theorem dX8_init_182 : decode cX8_init 182 = .ok (.aload_n 0, 1) := by decide +kernel
theorem dX8_init_183 : decode cX8_init 183 = .ok (.bipush 40, 2) := by decide +kernel
theorem dX8_init_185 : decode cX8_init 185 = .ok (.newarray .int, 2) := by decide +kernel
theorem dX8_init_187 : decode cX8_init 187 = .ok (.putfield 76, 3) := by decide +kernel
theorem dX8_init_190 : decode cX8_init 190 = .ok (.aload_n 0, 1) := by decide +kernel
theorem dX8_init_191 : decode cX8_init 191 = .ok (.bipush 10, 2) := by decide +kernel
theorem dX8_init_193 : decode cX8_init 193 = .ok (.newarray .int, 2) := by decide +kernel
theorem dX8_init_195 : decode cX8_init 195 = .ok (.putfield 79, 3) := by decide +kernel
theorem dX8_init_198 : decode cX8_init 198 = .ok (.aload_n 0, 1) := by decide +kernel
theorem dX8_init_199 : decode cX8_init 199 = .ok (.bipush 10, 2) := by decide +kernel
theorem dX8_init_201 : decode cX8_init 201 = .ok (.newarray .int, 2) := by decide +kernel
theorem dX8_init_203 : decode cX8_init 203 = .ok (.putfield 82, 3) := by decide +kernel
theorem dX8_init_206 : decode cX8_init 206 = .ok (.aload_n 0, 1) := by decide +kernel
theorem dX8_init_207 : decode cX8_init 207 = .ok (.bipush 10, 2) := by decide +kernel
theorem dX8_init_209 : decode cX8_init 209 = .ok (.newarray .int, 2) := by decide +kernel
theorem dX8_init_211 : decode cX8_init 211 = .ok (.putfield 85, 3) := by decide +kernel
theorem dX8_init_214 : decode cX8_init 214 = .ok (.return_, 1) := by decide +kernel
theorem dX8_thrown_0 : decode cX8_thrown 0 = .ok (.aload_n 0, 1) := by decide +kernel
theorem dX8_thrown_1 : decode cX8_thrown 1 = .ok (.getfield 88, 3) := by decide +kernel
theorem dX8_thrown_4 : decode cX8_thrown 4 = .ok (.ireturn, 1) := by decide +kernel
theorem dX8_holds_0 : decode cX8_holds 0 = .ok (.aload_n 0, 1) := by decide +kernel
theorem dX8_holds_1 : decode cX8_holds 1 = .ok (.iload_n 1, 1) := by decide +kernel
theorem dX8_holds_2 : decode cX8_holds 2 = .ok (.putfield 88, 3) := by decide +kernel
theorem dX8_holds_5 : decode cX8_holds 5 = .ok (.iload_n 1, 1) := by decide +kernel
theorem dX8_holds_6 : decode cX8_holds 6 = .ok (.ifCond .le 7, 3) := by decide +kernel
theorem dX8_holds_9 : decode cX8_holds 9 = .ok (.iconst 1, 1) := by decide +kernel
theorem dX8_holds_10 : decode cX8_holds 10 = .ok (.goto 4, 3) := by decide +kernel
theorem dX8_holds_13 : decode cX8_holds 13 = .ok (.iconst 0, 1) := by decide +kernel
theorem dX8_holds_14 : decode cX8_holds 14 = .ok (.ireturn, 1) := by decide +kernel
theorem dX8_between_0 : decode cX8_between 0 = .ok (.iload_n 1, 1) := by decide +kernel
theorem dX8_between_1 : decode cX8_between 1 = .ok (.iload_n 2, 1) := by decide +kernel
theorem dX8_between_2 : decode cX8_between 2 = .ok (.if_icmp .lt 12, 3) := by decide +kernel
theorem dX8_between_5 : decode cX8_between 5 = .ok (.iload_n 1, 1) := by decide +kernel
theorem dX8_between_6 : decode cX8_between 6 = .ok (.iload_n 3, 1) := by decide +kernel
theorem dX8_between_7 : decode cX8_between 7 = .ok (.if_icmp .gt 7, 3) := by decide +kernel
theorem dX8_between_10 : decode cX8_between 10 = .ok (.iconst 1, 1) := by decide +kernel
theorem dX8_between_11 : decode cX8_between 11 = .ok (.goto 4, 3) := by decide +kernel
theorem dX8_between_14 : decode cX8_between 14 = .ok (.iconst 0, 1) := by decide +kernel
theorem dX8_between_15 : decode cX8_between 15 = .ok (.ireturn, 1) := by decide +kernel
theorem dX8_isLevel_0 : decode cX8_isLevel 0 = .ok (.aload_n 0, 1) := by decide +kernel
theorem dX8_isLevel_1 : decode cX8_isLevel 1 = .ok (.iload_n 1, 1) := by decide +kernel
theorem dX8_isLevel_2 : decode cX8_isLevel 2 = .ok (.iconst 0, 1) := by decide +kernel
theorem dX8_isLevel_3 : decode cX8_isLevel 3 = .ok (.aload_n 0, 1) := by decide +kernel
theorem dX8_isLevel_4 : decode cX8_isLevel 4 = .ok (.getfield 92, 3) := by decide +kernel
theorem dX8_isLevel_7 : decode cX8_isLevel 7 = .ok (.iconst 1, 1) := by decide +kernel
theorem dX8_isLevel_8 : decode cX8_isLevel 8 = .ok (.isub, 1) := by decide +kernel
theorem dX8_isLevel_9 : decode cX8_isLevel 9 = .ok (.invokevirtual 95, 3) := by decide +kernel
theorem dX8_isLevel_12 : decode cX8_isLevel 12 = .ok (.ireturn, 1) := by decide +kernel
theorem dX8_isReplay_0 : decode cX8_isReplay 0 = .ok (.aload_n 0, 1) := by decide +kernel
theorem dX8_isReplay_1 : decode cX8_isReplay 1 = .ok (.iload_n 1, 1) := by decide +kernel
theorem dX8_isReplay_2 : decode cX8_isReplay 2 = .ok (.iconst 0, 1) := by decide +kernel
theorem dX8_isReplay_3 : decode cX8_isReplay 3 = .ok (.aload_n 0, 1) := by decide +kernel
theorem dX8_isReplay_4 : decode cX8_isReplay 4 = .ok (.getfield 99, 3) := by decide +kernel
theorem dX8_isReplay_7 : decode cX8_isReplay 7 = .ok (.iconst 1, 1) := by decide +kernel
theorem dX8_isReplay_8 : decode cX8_isReplay 8 = .ok (.isub, 1) := by decide +kernel
theorem dX8_isReplay_9 : decode cX8_isReplay 9 = .ok (.invokevirtual 95, 3) := by decide +kernel
theorem dX8_isReplay_12 : decode cX8_isReplay 12 = .ok (.ireturn, 1) := by decide +kernel
theorem dX8_isCategory_0 : decode cX8_isCategory 0 = .ok (.aload_n 0, 1) := by decide +kernel
theorem dX8_isCategory_1 : decode cX8_isCategory 1 = .ok (.iload_n 1, 1) := by decide +kernel
theorem dX8_isCategory_2 : decode cX8_isCategory 2 = .ok (.iconst 0, 1) := by decide +kernel
theorem dX8_isCategory_3 : decode cX8_isCategory 3 = .ok (.aload_n 0, 1) := by decide +kernel
theorem dX8_isCategory_4 : decode cX8_isCategory 4 = .ok (.getfield 102, 3) := by decide +kernel
theorem dX8_isCategory_7 : decode cX8_isCategory 7 = .ok (.iconst 1, 1) := by decide +kernel
theorem dX8_isCategory_8 : decode cX8_isCategory 8 = .ok (.isub, 1) := by decide +kernel
theorem dX8_isCategory_9 : decode cX8_isCategory 9 = .ok (.invokevirtual 95, 3) := by decide +kernel
theorem dX8_isCategory_12 : decode cX8_isCategory 12 = .ok (.ireturn, 1) := by decide +kernel
theorem dX8_isRun_0 : decode cX8_isRun 0 = .ok (.aload_n 0, 1) := by decide +kernel
theorem dX8_isRun_1 : decode cX8_isRun 1 = .ok (.iload_n 1, 1) := by decide +kernel
theorem dX8_isRun_2 : decode cX8_isRun 2 = .ok (.iconst 0, 1) := by decide +kernel
theorem dX8_isRun_3 : decode cX8_isRun 3 = .ok (.aload_n 0, 1) := by decide +kernel
theorem dX8_isRun_4 : decode cX8_isRun 4 = .ok (.getfield 105, 3) := by decide +kernel
theorem dX8_isRun_7 : decode cX8_isRun 7 = .ok (.iconst 1, 1) := by decide +kernel
theorem dX8_isRun_8 : decode cX8_isRun 8 = .ok (.isub, 1) := by decide +kernel
theorem dX8_isRun_9 : decode cX8_isRun 9 = .ok (.invokevirtual 95, 3) := by decide +kernel
theorem dX8_isRun_12 : decode cX8_isRun 12 = .ok (.ireturn, 1) := by decide +kernel
theorem dX8_isRunner_0 : decode cX8_isRunner 0 = .ok (.aload_n 0, 1) := by decide +kernel
theorem dX8_isRunner_1 : decode cX8_isRunner 1 = .ok (.iload_n 1, 1) := by decide +kernel
theorem dX8_isRunner_2 : decode cX8_isRunner 2 = .ok (.iconst 0, 1) := by decide +kernel
theorem dX8_isRunner_3 : decode cX8_isRunner 3 = .ok (.bipush 7, 2) := by decide +kernel
theorem dX8_isRunner_5 : decode cX8_isRunner 5 = .ok (.invokevirtual 95, 3) := by decide +kernel
theorem dX8_isRunner_8 : decode cX8_isRunner 8 = .ok (.ireturn, 1) := by decide +kernel
theorem dX8_gap_0 : decode cX8_gap 0 = .ok (.aload_n 0, 1) := by decide +kernel
theorem dX8_gap_1 : decode cX8_gap 1 = .ok (.getfield 7, 3) := by decide +kernel
theorem dX8_gap_4 : decode cX8_gap 4 = .ok (.bipush 32, 2) := by decide +kernel
theorem dX8_gap_6 : decode cX8_gap 6 = .ok (.iload_n 1, 1) := by decide +kernel
theorem dX8_gap_7 : decode cX8_gap 7 = .ok (.imul, 1) := by decide +kernel
theorem dX8_gap_8 : decode cX8_gap 8 = .ok (.iload_n 2, 1) := by decide +kernel
theorem dX8_gap_9 : decode cX8_gap 9 = .ok (.iadd, 1) := by decide +kernel
theorem dX8_gap_10 : decode cX8_gap 10 = .ok (.iaload, 1) := by decide +kernel
theorem dX8_gap_11 : decode cX8_gap 11 = .ok (.ifCond .ge 7, 3) := by decide +kernel
theorem dX8_gap_14 : decode cX8_gap 14 = .ok (.iconst 1, 1) := by decide +kernel
theorem dX8_gap_15 : decode cX8_gap 15 = .ok (.goto 4, 3) := by decide +kernel
theorem dX8_gap_18 : decode cX8_gap 18 = .ok (.iconst 0, 1) := by decide +kernel
theorem dX8_gap_19 : decode cX8_gap 19 = .ok (.ireturn, 1) := by decide +kernel
theorem dX8_ground_0 : decode cX8_ground 0 = .ok (.bipush 16, 2) := by decide +kernel
theorem dX8_ground_2 : decode cX8_ground 2 = .ok (.aload_n 0, 1) := by decide +kernel
theorem dX8_ground_3 : decode cX8_ground 3 = .ok (.getfield 7, 3) := by decide +kernel
theorem dX8_ground_6 : decode cX8_ground 6 = .ok (.bipush 32, 2) := by decide +kernel
theorem dX8_ground_8 : decode cX8_ground 8 = .ok (.iload_n 1, 1) := by decide +kernel
theorem dX8_ground_9 : decode cX8_ground 9 = .ok (.imul, 1) := by decide +kernel
theorem dX8_ground_10 : decode cX8_ground 10 = .ok (.iload_n 2, 1) := by decide +kernel
theorem dX8_ground_11 : decode cX8_ground 11 = .ok (.iadd, 1) := by decide +kernel
theorem dX8_ground_12 : decode cX8_ground 12 = .ok (.iaload, 1) := by decide +kernel
theorem dX8_ground_13 : decode cX8_ground 13 = .ok (.imul, 1) := by decide +kernel
theorem dX8_ground_14 : decode cX8_ground 14 = .ok (.ireturn, 1) := by decide +kernel
theorem dX8_wall_0 : decode cX8_wall 0 = .ok (.aload_n 0, 1) := by decide +kernel
theorem dX8_wall_1 : decode cX8_wall 1 = .ok (.iload_n 1, 1) := by decide +kernel
theorem dX8_wall_2 : decode cX8_wall 2 = .ok (.iload_n 2, 1) := by decide +kernel
theorem dX8_wall_3 : decode cX8_wall 3 = .ok (.invokevirtual 108, 3) := by decide +kernel
theorem dX8_wall_6 : decode cX8_wall 6 = .ok (.ifCond .ne 20, 3) := by decide +kernel
theorem dX8_wall_9 : decode cX8_wall 9 = .ok (.aload_n 0, 1) := by decide +kernel
theorem dX8_wall_10 : decode cX8_wall 10 = .ok (.iload_n 1, 1) := by decide +kernel
theorem dX8_wall_11 : decode cX8_wall 11 = .ok (.iload_n 2, 1) := by decide +kernel
theorem dX8_wall_12 : decode cX8_wall 12 = .ok (.invokevirtual 112, 3) := by decide +kernel
theorem dX8_wall_15 : decode cX8_wall 15 = .ok (.aload_n 0, 1) := by decide +kernel
theorem dX8_wall_16 : decode cX8_wall 16 = .ok (.getfield 116, 3) := by decide +kernel
theorem dX8_wall_19 : decode cX8_wall 19 = .ok (.if_icmp .le 7, 3) := by decide +kernel
theorem dX8_wall_22 : decode cX8_wall 22 = .ok (.iconst 1, 1) := by decide +kernel
theorem dX8_wall_23 : decode cX8_wall 23 = .ok (.goto 4, 3) := by decide +kernel
theorem dX8_wall_26 : decode cX8_wall 26 = .ok (.iconst 0, 1) := by decide +kernel
theorem dX8_wall_27 : decode cX8_wall 27 = .ok (.ireturn, 1) := by decide +kernel
theorem dX8_start_0 : decode cX8_start 0 = .ok (.aload_n 0, 1) := by decide +kernel
theorem dX8_start_1 : decode cX8_start 1 = .ok (.bipush 8, 2) := by decide +kernel
theorem dX8_start_3 : decode cX8_start 3 = .ok (.putfield 119, 3) := by decide +kernel
theorem dX8_start_6 : decode cX8_start 6 = .ok (.aload_n 0, 1) := by decide +kernel
theorem dX8_start_7 : decode cX8_start 7 = .ok (.aload_n 0, 1) := by decide +kernel
theorem dX8_start_8 : decode cX8_start 8 = .ok (.iload_n 1, 1) := by decide +kernel
theorem dX8_start_9 : decode cX8_start 9 = .ok (.iconst 0, 1) := by decide +kernel
theorem dX8_start_10 : decode cX8_start 10 = .ok (.invokevirtual 108, 3) := by decide +kernel
theorem dX8_start_13 : decode cX8_start 13 = .ok (.ifCond .eq 7, 3) := by decide +kernel
theorem dX8_start_16 : decode cX8_start 16 = .ok (.iconst 0, 1) := by decide +kernel
theorem dX8_start_17 : decode cX8_start 17 = .ok (.goto 9, 3) := by decide +kernel
theorem dX8_start_20 : decode cX8_start 20 = .ok (.aload_n 0, 1) := by decide +kernel
theorem dX8_start_21 : decode cX8_start 21 = .ok (.iload_n 1, 1) := by decide +kernel
theorem dX8_start_22 : decode cX8_start 22 = .ok (.iconst 0, 1) := by decide +kernel
theorem dX8_start_23 : decode cX8_start 23 = .ok (.invokevirtual 112, 3) := by decide +kernel
theorem dX8_start_26 : decode cX8_start 26 = .ok (.putfield 116, 3) := by decide +kernel
theorem dX8_start_29 : decode cX8_start 29 = .ok (.aload_n 0, 1) := by decide +kernel
theorem dX8_start_30 : decode cX8_start 30 = .ok (.iconst 0, 1) := by decide +kernel
theorem dX8_start_31 : decode cX8_start 31 = .ok (.putfield 122, 3) := by decide +kernel
theorem dX8_start_34 : decode cX8_start 34 = .ok (.aload_n 0, 1) := by decide +kernel
theorem dX8_start_35 : decode cX8_start 35 = .ok (.iconst 1, 1) := by decide +kernel
theorem dX8_start_36 : decode cX8_start 36 = .ok (.putfield 125, 3) := by decide +kernel
theorem dX8_start_39 : decode cX8_start 39 = .ok (.aload_n 0, 1) := by decide +kernel
theorem dX8_start_40 : decode cX8_start 40 = .ok (.iconst 1, 1) := by decide +kernel
theorem dX8_start_41 : decode cX8_start 41 = .ok (.putfield 129, 3) := by decide +kernel
theorem dX8_start_44 : decode cX8_start 44 = .ok (.aload_n 0, 1) := by decide +kernel
theorem dX8_start_45 : decode cX8_start 45 = .ok (.iconst 0, 1) := by decide +kernel
theorem dX8_start_46 : decode cX8_start 46 = .ok (.putfield 132, 3) := by decide +kernel
theorem dX8_start_49 : decode cX8_start 49 = .ok (.aload_n 0, 1) := by decide +kernel
theorem dX8_start_50 : decode cX8_start 50 = .ok (.iconst 0, 1) := by decide +kernel
theorem dX8_start_51 : decode cX8_start 51 = .ok (.putfield 135, 3) := by decide +kernel
theorem dX8_start_54 : decode cX8_start 54 = .ok (.aload_n 0, 1) := by decide +kernel
theorem dX8_start_55 : decode cX8_start 55 = .ok (.iconst 0, 1) := by decide +kernel
theorem dX8_start_56 : decode cX8_start 56 = .ok (.putfield 138, 3) := by decide +kernel
theorem dX8_start_59 : decode cX8_start 59 = .ok (.aload_n 0, 1) := by decide +kernel
theorem dX8_start_60 : decode cX8_start 60 = .ok (.iconst 0, 1) := by decide +kernel
theorem dX8_start_61 : decode cX8_start 61 = .ok (.putfield 141, 3) := by decide +kernel
theorem dX8_start_64 : decode cX8_start 64 = .ok (.aload_n 0, 1) := by decide +kernel
theorem dX8_start_65 : decode cX8_start 65 = .ok (.iconst 0, 1) := by decide +kernel
theorem dX8_start_66 : decode cX8_start 66 = .ok (.putfield 144, 3) := by decide +kernel
theorem dX8_start_69 : decode cX8_start 69 = .ok (.return_, 1) := by decide +kernel
theorem dX8_way_0 : decode cX8_way 0 = .ok (.iload_n 1, 1) := by decide +kernel
theorem dX8_way_1 : decode cX8_way 1 = .ok (.iconst 3, 1) := by decide +kernel
theorem dX8_way_2 : decode cX8_way 2 = .ok (.iand, 1) := by decide +kernel
theorem dX8_way_3 : decode cX8_way 3 = .ok (.iconst 2, 1) := by decide +kernel
theorem dX8_way_4 : decode cX8_way 4 = .ok (.if_icmp .ne 7, 3) := by decide +kernel
theorem dX8_way_7 : decode cX8_way 7 = .ok (.iconst 4, 1) := by decide +kernel
theorem dX8_way_8 : decode cX8_way 8 = .ok (.goto 16, 3) := by decide +kernel
theorem dX8_way_11 : decode cX8_way 11 = .ok (.iload_n 1, 1) := by decide +kernel
theorem dX8_way_12 : decode cX8_way 12 = .ok (.iconst 3, 1) := by decide +kernel
theorem dX8_way_13 : decode cX8_way 13 = .ok (.iand, 1) := by decide +kernel
theorem dX8_way_14 : decode cX8_way 14 = .ok (.iconst 1, 1) := by decide +kernel
theorem dX8_way_15 : decode cX8_way 15 = .ok (.if_icmp .ne 8, 3) := by decide +kernel
theorem dX8_way_18 : decode cX8_way 18 = .ok (.bipush (-4), 2) := by decide +kernel
theorem dX8_way_20 : decode cX8_way 20 = .ok (.goto 4, 3) := by decide +kernel
theorem dX8_way_23 : decode cX8_way 23 = .ok (.iconst 0, 1) := by decide +kernel
theorem dX8_way_24 : decode cX8_way 24 = .ok (.istore_n 3, 1) := by decide +kernel
theorem dX8_way_25 : decode cX8_way 25 = .ok (.iload_n 2, 1) := by decide +kernel
theorem dX8_way_26 : decode cX8_way 26 = .ok (.bipush 8, 2) := by decide +kernel
theorem dX8_way_28 : decode cX8_way 28 = .ok (.iand, 1) := by decide +kernel
theorem dX8_way_29 : decode cX8_way 29 = .ok (.ifCond .le 33, 3) := by decide +kernel
theorem dX8_way_32 : decode cX8_way 32 = .ok (.iload_n 3, 1) := by decide +kernel
theorem dX8_way_33 : decode cX8_way 33 = .ok (.ifCond .eq 29, 3) := by decide +kernel
theorem dX8_way_36 : decode cX8_way 36 = .ok (.aload_n 0, 1) := by decide +kernel
theorem dX8_way_37 : decode cX8_way 37 = .ok (.getfield 129, 3) := by decide +kernel
theorem dX8_way_40 : decode cX8_way 40 = .ok (.ifCond .eq 22, 3) := by decide +kernel
theorem dX8_way_43 : decode cX8_way 43 = .ok (.iload_n 3, 1) := by decide +kernel
theorem dX8_way_44 : decode cX8_way 44 = .ok (.iconst 5, 1) := by decide +kernel
theorem dX8_way_45 : decode cX8_way 45 = .ok (.imul, 1) := by decide +kernel
theorem dX8_way_46 : decode cX8_way 46 = .ok (.istore_n 3, 1) := by decide +kernel
theorem dX8_way_47 : decode cX8_way 47 = .ok (.aload_n 0, 1) := by decide +kernel
theorem dX8_way_48 : decode cX8_way 48 = .ok (.iconst 0, 1) := by decide +kernel
theorem dX8_way_49 : decode cX8_way 49 = .ok (.putfield 129, 3) := by decide +kernel
theorem dX8_way_52 : decode cX8_way 52 = .ok (.aload_n 0, 1) := by decide +kernel
theorem dX8_way_53 : decode cX8_way 53 = .ok (.dup, 1) := by decide +kernel
theorem dX8_way_54 : decode cX8_way 54 = .ok (.getfield 138, 3) := by decide +kernel
theorem dX8_way_57 : decode cX8_way 57 = .ok (.iconst 2, 1) := by decide +kernel
theorem dX8_way_58 : decode cX8_way 58 = .ok (.ior, 1) := by decide +kernel
theorem dX8_way_59 : decode cX8_way 59 = .ok (.putfield 138, 3) := by decide +kernel
theorem dX8_way_62 : decode cX8_way 62 = .ok (.aload_n 0, 1) := by decide +kernel
theorem dX8_way_63 : decode cX8_way 63 = .ok (.dup, 1) := by decide +kernel
theorem dX8_way_64 : decode cX8_way 64 = .ok (.getfield 138, 3) := by decide +kernel
theorem dX8_way_67 : decode cX8_way 67 = .ok (.iload_n 3, 1) := by decide +kernel
theorem dX8_way_68 : decode cX8_way 68 = .ok (.ifCond .ge 7, 3) := by decide +kernel
theorem dX8_way_71 : decode cX8_way 71 = .ok (.iconst 1, 1) := by decide +kernel
theorem dX8_way_72 : decode cX8_way 72 = .ok (.goto 4, 3) := by decide +kernel
theorem dX8_way_75 : decode cX8_way 75 = .ok (.iconst 0, 1) := by decide +kernel
theorem dX8_way_76 : decode cX8_way 76 = .ok (.ior, 1) := by decide +kernel
theorem dX8_way_77 : decode cX8_way 77 = .ok (.putfield 138, 3) := by decide +kernel
theorem dX8_way_80 : decode cX8_way 80 = .ok (.iload_n 3, 1) := by decide +kernel
theorem dX8_way_81 : decode cX8_way 81 = .ok (.ireturn, 1) := by decide +kernel
theorem dX8_go_0 : decode cX8_go 0 = .ok (.aload_n 0, 1) := by decide +kernel
theorem dX8_go_1 : decode cX8_go 1 = .ok (.getfield 119, 3) := by decide +kernel
theorem dX8_go_4 : decode cX8_go 4 = .ok (.iload_n 2, 1) := by decide +kernel
theorem dX8_go_5 : decode cX8_go 5 = .ok (.iadd, 1) := by decide +kernel
theorem dX8_go_6 : decode cX8_go 6 = .ok (.istore_n 3, 1) := by decide +kernel
theorem dX8_go_7 : decode cX8_go 7 = .ok (.iload_n 3, 1) := by decide +kernel
theorem dX8_go_8 : decode cX8_go 8 = .ok (.ifCond .ge 7, 3) := by decide +kernel
theorem dX8_go_11 : decode cX8_go 11 = .ok (.iconst 0, 1) := by decide +kernel
theorem dX8_go_12 : decode cX8_go 12 = .ok (.goto 17, 3) := by decide +kernel
theorem dX8_go_15 : decode cX8_go 15 = .ok (.iload_n 3, 1) := by decide +kernel
theorem dX8_go_16 : decode cX8_go 16 = .ok (.sipush 511, 3) := by decide +kernel
theorem dX8_go_19 : decode cX8_go 19 = .ok (.if_icmp .le 9, 3) := by decide +kernel
theorem dX8_go_22 : decode cX8_go 22 = .ok (.sipush 511, 3) := by decide +kernel
theorem dX8_go_25 : decode cX8_go 25 = .ok (.goto 4, 3) := by decide +kernel
theorem dX8_go_28 : decode cX8_go 28 = .ok (.iload_n 3, 1) := by decide +kernel
theorem dX8_go_29 : decode cX8_go 29 = .ok (.istore_n 3, 1) := by decide +kernel
theorem dX8_go_30 : decode cX8_go 30 = .ok (.aload_n 0, 1) := by decide +kernel
theorem dX8_go_31 : decode cX8_go 31 = .ok (.iload_n 1, 1) := by decide +kernel
theorem dX8_go_32 : decode cX8_go 32 = .ok (.iload_n 3, 1) := by decide +kernel
theorem dX8_go_33 : decode cX8_go 33 = .ok (.bipush 16, 2) := by decide +kernel
theorem dX8_go_35 : decode cX8_go 35 = .ok (.idiv, 1) := by decide +kernel
theorem dX8_go_36 : decode cX8_go 36 = .ok (.invokevirtual 147, 3) := by decide +kernel
theorem dX8_go_39 : decode cX8_go 39 = .ok (.ifCond .eq 4, 3) := by decide +kernel
theorem dX8_go_42 : decode cX8_go 42 = .ok (.return_, 1) := by decide +kernel
theorem dX8_go_43 : decode cX8_go 43 = .ok (.aload_n 0, 1) := by decide +kernel
theorem dX8_go_44 : decode cX8_go 44 = .ok (.getfield 119, 3) := by decide +kernel
theorem dX8_go_47 : decode cX8_go 47 = .ok (.iload_n 3, 1) := by decide +kernel
theorem dX8_go_48 : decode cX8_go 48 = .ok (.if_icmp .ge 13, 3) := by decide +kernel
theorem dX8_go_51 : decode cX8_go 51 = .ok (.aload_n 0, 1) := by decide +kernel
theorem dX8_go_52 : decode cX8_go 52 = .ok (.getfield 119, 3) := by decide +kernel
theorem dX8_go_55 : decode cX8_go 55 = .ok (.bipush 16, 2) := by decide +kernel
theorem dX8_go_57 : decode cX8_go 57 = .ok (.idiv, 1) := by decide +kernel
theorem dX8_go_58 : decode cX8_go 58 = .ok (.goto 7, 3) := by decide +kernel
theorem dX8_go_61 : decode cX8_go 61 = .ok (.iload_n 3, 1) := by decide +kernel
theorem dX8_go_62 : decode cX8_go 62 = .ok (.bipush 16, 2) := by decide +kernel
theorem dX8_go_64 : decode cX8_go 64 = .ok (.idiv, 1) := by decide +kernel
theorem dX8_go_65 : decode cX8_go 65 = .ok (.istore 4, 2) := by decide +kernel
theorem dX8_go_67 : decode cX8_go 67 = .ok (.aload_n 0, 1) := by decide +kernel
theorem dX8_go_68 : decode cX8_go 68 = .ok (.getfield 119, 3) := by decide +kernel
theorem dX8_go_71 : decode cX8_go 71 = .ok (.iload_n 3, 1) := by decide +kernel
theorem dX8_go_72 : decode cX8_go 72 = .ok (.if_icmp .ge 10, 3) := by decide +kernel
theorem dX8_go_75 : decode cX8_go 75 = .ok (.iload_n 3, 1) := by decide +kernel
theorem dX8_go_76 : decode cX8_go 76 = .ok (.bipush 16, 2) := by decide +kernel
theorem dX8_go_78 : decode cX8_go 78 = .ok (.idiv, 1) := by decide +kernel
theorem dX8_go_79 : decode cX8_go 79 = .ok (.goto 10, 3) := by decide +kernel
theorem dX8_go_82 : decode cX8_go 82 = .ok (.aload_n 0, 1) := by decide +kernel
theorem dX8_go_83 : decode cX8_go 83 = .ok (.getfield 119, 3) := by decide +kernel
theorem dX8_go_86 : decode cX8_go 86 = .ok (.bipush 16, 2) := by decide +kernel
theorem dX8_go_88 : decode cX8_go 88 = .ok (.idiv, 1) := by decide +kernel
theorem dX8_go_89 : decode cX8_go 89 = .ok (.istore 5, 2) := by decide +kernel
theorem dX8_go_91 : decode cX8_go 91 = .ok (.iload 4, 2) := by decide +kernel
theorem dX8_go_93 : decode cX8_go 93 = .ok (.iconst 1, 1) := by decide +kernel
theorem dX8_go_94 : decode cX8_go 94 = .ok (.iadd, 1) := by decide +kernel
theorem dX8_go_95 : decode cX8_go 95 = .ok (.istore 6, 2) := by decide +kernel
theorem dX8_go_97 : decode cX8_go 97 = .ok (.iload 6, 2) := by decide +kernel
theorem dX8_go_99 : decode cX8_go 99 = .ok (.iload 5, 2) := by decide +kernel
theorem dX8_go_101 : decode cX8_go 101 = .ok (.if_icmp .ge 33, 3) := by decide +kernel
theorem dX8_go_104 : decode cX8_go 104 = .ok (.aload_n 0, 1) := by decide +kernel
theorem dX8_go_105 : decode cX8_go 105 = .ok (.dup, 1) := by decide +kernel
theorem dX8_go_106 : decode cX8_go 106 = .ok (.getfield 138, 3) := by decide +kernel
theorem dX8_go_109 : decode cX8_go 109 = .ok (.aload_n 0, 1) := by decide +kernel
theorem dX8_go_110 : decode cX8_go 110 = .ok (.iload_n 1, 1) := by decide +kernel
theorem dX8_go_111 : decode cX8_go 111 = .ok (.iload 6, 2) := by decide +kernel
theorem dX8_go_113 : decode cX8_go 113 = .ok (.invokevirtual 147, 3) := by decide +kernel
theorem dX8_go_116 : decode cX8_go 116 = .ok (.ifCond .eq 7, 3) := by decide +kernel
theorem dX8_go_119 : decode cX8_go 119 = .ok (.iconst 4, 1) := by decide +kernel
theorem dX8_go_120 : decode cX8_go 120 = .ok (.goto 4, 3) := by decide +kernel
theorem dX8_go_123 : decode cX8_go 123 = .ok (.iconst 0, 1) := by decide +kernel
theorem dX8_go_124 : decode cX8_go 124 = .ok (.ior, 1) := by decide +kernel
theorem dX8_go_125 : decode cX8_go 125 = .ok (.putfield 138, 3) := by decide +kernel
theorem dX8_go_128 : decode cX8_go 128 = .ok (.iinc 6 1, 3) := by decide +kernel
theorem dX8_go_131 : decode cX8_go 131 = .ok (.goto (-34), 3) := by decide +kernel
theorem dX8_go_134 : decode cX8_go 134 = .ok (.aload_n 0, 1) := by decide +kernel
theorem dX8_go_135 : decode cX8_go 135 = .ok (.iload_n 3, 1) := by decide +kernel
theorem dX8_go_136 : decode cX8_go 136 = .ok (.putfield 119, 3) := by decide +kernel
theorem dX8_go_139 : decode cX8_go 139 = .ok (.return_, 1) := by decide +kernel
theorem dX8_fall_0 : decode cX8_fall 0 = .ok (.aload_n 0, 1) := by decide +kernel
theorem dX8_fall_1 : decode cX8_fall 1 = .ok (.getfield 119, 3) := by decide +kernel
theorem dX8_fall_4 : decode cX8_fall 4 = .ok (.bipush 16, 2) := by decide +kernel
theorem dX8_fall_6 : decode cX8_fall 6 = .ok (.idiv, 1) := by decide +kernel
theorem dX8_fall_7 : decode cX8_fall 7 = .ok (.istore_n 2, 1) := by decide +kernel
theorem dX8_fall_8 : decode cX8_fall 8 = .ok (.aload_n 0, 1) := by decide +kernel
theorem dX8_fall_9 : decode cX8_fall 9 = .ok (.getfield 125, 3) := by decide +kernel
theorem dX8_fall_12 : decode cX8_fall 12 = .ok (.ifCond .eq 35, 3) := by decide +kernel
theorem dX8_fall_15 : decode cX8_fall 15 = .ok (.aload_n 0, 1) := by decide +kernel
theorem dX8_fall_16 : decode cX8_fall 16 = .ok (.iload_n 1, 1) := by decide +kernel
theorem dX8_fall_17 : decode cX8_fall 17 = .ok (.iload_n 2, 1) := by decide +kernel
theorem dX8_fall_18 : decode cX8_fall 18 = .ok (.invokevirtual 108, 3) := by decide +kernel
theorem dX8_fall_21 : decode cX8_fall 21 = .ok (.ifCond .ne 16, 3) := by decide +kernel
theorem dX8_fall_24 : decode cX8_fall 24 = .ok (.aload_n 0, 1) := by decide +kernel
theorem dX8_fall_25 : decode cX8_fall 25 = .ok (.iload_n 1, 1) := by decide +kernel
theorem dX8_fall_26 : decode cX8_fall 26 = .ok (.iload_n 2, 1) := by decide +kernel
theorem dX8_fall_27 : decode cX8_fall 27 = .ok (.invokevirtual 112, 3) := by decide +kernel
theorem dX8_fall_30 : decode cX8_fall 30 = .ok (.aload_n 0, 1) := by decide +kernel
theorem dX8_fall_31 : decode cX8_fall 31 = .ok (.getfield 116, 3) := by decide +kernel
theorem dX8_fall_34 : decode cX8_fall 34 = .ok (.if_icmp .ge 13, 3) := by decide +kernel
theorem dX8_fall_37 : decode cX8_fall 37 = .ok (.aload_n 0, 1) := by decide +kernel
theorem dX8_fall_38 : decode cX8_fall 38 = .ok (.iconst 0, 1) := by decide +kernel
theorem dX8_fall_39 : decode cX8_fall 39 = .ok (.putfield 125, 3) := by decide +kernel
theorem dX8_fall_42 : decode cX8_fall 42 = .ok (.aload_n 0, 1) := by decide +kernel
theorem dX8_fall_43 : decode cX8_fall 43 = .ok (.iconst 0, 1) := by decide +kernel
theorem dX8_fall_44 : decode cX8_fall 44 = .ok (.putfield 122, 3) := by decide +kernel
theorem dX8_fall_47 : decode cX8_fall 47 = .ok (.aload_n 0, 1) := by decide +kernel
theorem dX8_fall_48 : decode cX8_fall 48 = .ok (.getfield 125, 3) := by decide +kernel
theorem dX8_fall_51 : decode cX8_fall 51 = .ok (.ifCond .ne 91, 3) := by decide +kernel
theorem dX8_fall_54 : decode cX8_fall 54 = .ok (.aload_n 0, 1) := by decide +kernel
theorem dX8_fall_55 : decode cX8_fall 55 = .ok (.aload_n 0, 1) := by decide +kernel
theorem dX8_fall_56 : decode cX8_fall 56 = .ok (.getfield 122, 3) := by decide +kernel
theorem dX8_fall_59 : decode cX8_fall 59 = .ok (.iconst 2, 1) := by decide +kernel
theorem dX8_fall_60 : decode cX8_fall 60 = .ok (.isub, 1) := by decide +kernel
theorem dX8_fall_61 : decode cX8_fall 61 = .ok (.bipush (-14), 2) := by decide +kernel
theorem dX8_fall_63 : decode cX8_fall 63 = .ok (.if_icmp .ge 8, 3) := by decide +kernel
theorem dX8_fall_66 : decode cX8_fall 66 = .ok (.bipush (-14), 2) := by decide +kernel
theorem dX8_fall_68 : decode cX8_fall 68 = .ok (.goto 9, 3) := by decide +kernel
theorem dX8_fall_71 : decode cX8_fall 71 = .ok (.aload_n 0, 1) := by decide +kernel
theorem dX8_fall_72 : decode cX8_fall 72 = .ok (.getfield 122, 3) := by decide +kernel
theorem dX8_fall_75 : decode cX8_fall 75 = .ok (.iconst 2, 1) := by decide +kernel
theorem dX8_fall_76 : decode cX8_fall 76 = .ok (.isub, 1) := by decide +kernel
theorem dX8_fall_77 : decode cX8_fall 77 = .ok (.putfield 122, 3) := by decide +kernel
theorem dX8_fall_80 : decode cX8_fall 80 = .ok (.aload_n 0, 1) := by decide +kernel
theorem dX8_fall_81 : decode cX8_fall 81 = .ok (.dup, 1) := by decide +kernel
theorem dX8_fall_82 : decode cX8_fall 82 = .ok (.getfield 116, 3) := by decide +kernel
theorem dX8_fall_85 : decode cX8_fall 85 = .ok (.aload_n 0, 1) := by decide +kernel
theorem dX8_fall_86 : decode cX8_fall 86 = .ok (.getfield 122, 3) := by decide +kernel
theorem dX8_fall_89 : decode cX8_fall 89 = .ok (.iadd, 1) := by decide +kernel
theorem dX8_fall_90 : decode cX8_fall 90 = .ok (.putfield 116, 3) := by decide +kernel
theorem dX8_fall_93 : decode cX8_fall 93 = .ok (.aload_n 0, 1) := by decide +kernel
theorem dX8_fall_94 : decode cX8_fall 94 = .ok (.iload_n 1, 1) := by decide +kernel
theorem dX8_fall_95 : decode cX8_fall 95 = .ok (.iload_n 2, 1) := by decide +kernel
theorem dX8_fall_96 : decode cX8_fall 96 = .ok (.invokevirtual 108, 3) := by decide +kernel
theorem dX8_fall_99 : decode cX8_fall 99 = .ok (.ifCond .ne 43, 3) := by decide +kernel
theorem dX8_fall_102 : decode cX8_fall 102 = .ok (.aload_n 0, 1) := by decide +kernel
theorem dX8_fall_103 : decode cX8_fall 103 = .ok (.getfield 122, 3) := by decide +kernel
theorem dX8_fall_106 : decode cX8_fall 106 = .ok (.ifCond .gt 36, 3) := by decide +kernel
theorem dX8_fall_109 : decode cX8_fall 109 = .ok (.aload_n 0, 1) := by decide +kernel
theorem dX8_fall_110 : decode cX8_fall 110 = .ok (.getfield 116, 3) := by decide +kernel
theorem dX8_fall_113 : decode cX8_fall 113 = .ok (.aload_n 0, 1) := by decide +kernel
theorem dX8_fall_114 : decode cX8_fall 114 = .ok (.iload_n 1, 1) := by decide +kernel
theorem dX8_fall_115 : decode cX8_fall 115 = .ok (.iload_n 2, 1) := by decide +kernel
theorem dX8_fall_116 : decode cX8_fall 116 = .ok (.invokevirtual 112, 3) := by decide +kernel
theorem dX8_fall_119 : decode cX8_fall 119 = .ok (.if_icmp .gt 23, 3) := by decide +kernel
theorem dX8_fall_122 : decode cX8_fall 122 = .ok (.aload_n 0, 1) := by decide +kernel
theorem dX8_fall_123 : decode cX8_fall 123 = .ok (.iconst 1, 1) := by decide +kernel
theorem dX8_fall_124 : decode cX8_fall 124 = .ok (.putfield 125, 3) := by decide +kernel
theorem dX8_fall_127 : decode cX8_fall 127 = .ok (.aload_n 0, 1) := by decide +kernel
theorem dX8_fall_128 : decode cX8_fall 128 = .ok (.aload_n 0, 1) := by decide +kernel
theorem dX8_fall_129 : decode cX8_fall 129 = .ok (.iload_n 1, 1) := by decide +kernel
theorem dX8_fall_130 : decode cX8_fall 130 = .ok (.iload_n 2, 1) := by decide +kernel
theorem dX8_fall_131 : decode cX8_fall 131 = .ok (.invokevirtual 112, 3) := by decide +kernel
theorem dX8_fall_134 : decode cX8_fall 134 = .ok (.putfield 116, 3) := by decide +kernel
theorem dX8_fall_137 : decode cX8_fall 137 = .ok (.aload_n 0, 1) := by decide +kernel
theorem dX8_fall_138 : decode cX8_fall 138 = .ok (.iconst 0, 1) := by decide +kernel
theorem dX8_fall_139 : decode cX8_fall 139 = .ok (.putfield 122, 3) := by decide +kernel
theorem dX8_fall_142 : decode cX8_fall 142 = .ok (.aload_n 0, 1) := by decide +kernel
theorem dX8_fall_143 : decode cX8_fall 143 = .ok (.dup, 1) := by decide +kernel
theorem dX8_fall_144 : decode cX8_fall 144 = .ok (.getfield 129, 3) := by decide +kernel
theorem dX8_fall_147 : decode cX8_fall 147 = .ok (.aload_n 0, 1) := by decide +kernel
theorem dX8_fall_148 : decode cX8_fall 148 = .ok (.getfield 125, 3) := by decide +kernel
theorem dX8_fall_151 : decode cX8_fall 151 = .ok (.ior, 1) := by decide +kernel
theorem dX8_fall_152 : decode cX8_fall 152 = .ok (.putfield 129, 3) := by decide +kernel
theorem dX8_fall_155 : decode cX8_fall 155 = .ok (.return_, 1) := by decide +kernel
theorem dX8_meet_0 : decode cX8_meet 0 = .ok (.aload_n 0, 1) := by decide +kernel
theorem dX8_meet_1 : decode cX8_meet 1 = .ok (.getfield 119, 3) := by decide +kernel
theorem dX8_meet_4 : decode cX8_meet 4 = .ok (.bipush 16, 2) := by decide +kernel
theorem dX8_meet_6 : decode cX8_meet 6 = .ok (.idiv, 1) := by decide +kernel
theorem dX8_meet_7 : decode cX8_meet 7 = .ok (.istore_n 2, 1) := by decide +kernel
theorem dX8_meet_8 : decode cX8_meet 8 = .ok (.aload_n 0, 1) := by decide +kernel
theorem dX8_meet_9 : decode cX8_meet 9 = .ok (.getfield 13, 3) := by decide +kernel
theorem dX8_meet_12 : decode cX8_meet 12 = .ok (.bipush 32, 2) := by decide +kernel
theorem dX8_meet_14 : decode cX8_meet 14 = .ok (.iload_n 1, 1) := by decide +kernel
theorem dX8_meet_15 : decode cX8_meet 15 = .ok (.imul, 1) := by decide +kernel
theorem dX8_meet_16 : decode cX8_meet 16 = .ok (.iload_n 2, 1) := by decide +kernel
theorem dX8_meet_17 : decode cX8_meet 17 = .ok (.iadd, 1) := by decide +kernel
theorem dX8_meet_18 : decode cX8_meet 18 = .ok (.iaload, 1) := by decide +kernel
theorem dX8_meet_19 : decode cX8_meet 19 = .ok (.istore_n 3, 1) := by decide +kernel
theorem dX8_meet_20 : decode cX8_meet 20 = .ok (.aload_n 0, 1) := by decide +kernel
theorem dX8_meet_21 : decode cX8_meet 21 = .ok (.iload_n 1, 1) := by decide +kernel
theorem dX8_meet_22 : decode cX8_meet 22 = .ok (.iload_n 2, 1) := by decide +kernel
theorem dX8_meet_23 : decode cX8_meet 23 = .ok (.invokevirtual 108, 3) := by decide +kernel
theorem dX8_meet_26 : decode cX8_meet 26 = .ok (.ifCond .eq 7, 3) := by decide +kernel
theorem dX8_meet_29 : decode cX8_meet 29 = .ok (.iconst 0, 1) := by decide +kernel
theorem dX8_meet_30 : decode cX8_meet 30 = .ok (.goto 9, 3) := by decide +kernel
theorem dX8_meet_33 : decode cX8_meet 33 = .ok (.aload_n 0, 1) := by decide +kernel
theorem dX8_meet_34 : decode cX8_meet 34 = .ok (.iload_n 1, 1) := by decide +kernel
theorem dX8_meet_35 : decode cX8_meet 35 = .ok (.iload_n 2, 1) := by decide +kernel
theorem dX8_meet_36 : decode cX8_meet 36 = .ok (.invokevirtual 112, 3) := by decide +kernel
theorem dX8_meet_39 : decode cX8_meet 39 = .ok (.istore 4, 2) := by decide +kernel
theorem dX8_meet_41 : decode cX8_meet 41 = .ok (.iload_n 3, 1) := by decide +kernel
theorem dX8_meet_42 : decode cX8_meet 42 = .ok (.iconst 1, 1) := by decide +kernel
theorem dX8_meet_43 : decode cX8_meet 43 = .ok (.if_icmp .ne 27, 3) := by decide +kernel
theorem dX8_meet_46 : decode cX8_meet 46 = .ok (.aload_n 0, 1) := by decide +kernel
theorem dX8_meet_47 : decode cX8_meet 47 = .ok (.getfield 116, 3) := by decide +kernel
theorem dX8_meet_50 : decode cX8_meet 50 = .ok (.iload 4, 2) := by decide +kernel
theorem dX8_meet_52 : decode cX8_meet 52 = .ok (.isub, 1) := by decide +kernel
theorem dX8_meet_53 : decode cX8_meet 53 = .ok (.bipush 24, 2) := by decide +kernel
theorem dX8_meet_55 : decode cX8_meet 55 = .ok (.if_icmp .gt 15, 3) := by decide +kernel
theorem dX8_meet_58 : decode cX8_meet 58 = .ok (.aload_n 0, 1) := by decide +kernel
theorem dX8_meet_59 : decode cX8_meet 59 = .ok (.dup, 1) := by decide +kernel
theorem dX8_meet_60 : decode cX8_meet 60 = .ok (.getfield 132, 3) := by decide +kernel
theorem dX8_meet_63 : decode cX8_meet 63 = .ok (.iconst 1, 1) := by decide +kernel
theorem dX8_meet_64 : decode cX8_meet 64 = .ok (.iload_n 2, 1) := by decide +kernel
theorem dX8_meet_65 : decode cX8_meet 65 = .ok (.ishl, 1) := by decide +kernel
theorem dX8_meet_66 : decode cX8_meet 66 = .ok (.ior, 1) := by decide +kernel
theorem dX8_meet_67 : decode cX8_meet 67 = .ok (.putfield 132, 3) := by decide +kernel
theorem dX8_meet_70 : decode cX8_meet 70 = .ok (.aload_n 0, 1) := by decide +kernel
theorem dX8_meet_71 : decode cX8_meet 71 = .ok (.aload_n 0, 1) := by decide +kernel
theorem dX8_meet_72 : decode cX8_meet 72 = .ok (.getfield 116, 3) := by decide +kernel
theorem dX8_meet_75 : decode cX8_meet 75 = .ok (.bipush (-32), 2) := by decide +kernel
theorem dX8_meet_77 : decode cX8_meet 77 = .ok (.if_icmp .lt 15, 3) := by decide +kernel
theorem dX8_meet_80 : decode cX8_meet 80 = .ok (.aload_n 0, 1) := by decide +kernel
theorem dX8_meet_81 : decode cX8_meet 81 = .ok (.getfield 125, 3) := by decide +kernel
theorem dX8_meet_84 : decode cX8_meet 84 = .ok (.ifCond .eq 12, 3) := by decide +kernel
theorem dX8_meet_87 : decode cX8_meet 87 = .ok (.iload_n 3, 1) := by decide +kernel
theorem dX8_meet_88 : decode cX8_meet 88 = .ok (.iconst 2, 1) := by decide +kernel
theorem dX8_meet_89 : decode cX8_meet 89 = .ok (.if_icmp .ne 7, 3) := by decide +kernel
theorem dX8_meet_92 : decode cX8_meet 92 = .ok (.iconst 2, 1) := by decide +kernel
theorem dX8_meet_93 : decode cX8_meet 93 = .ok (.goto 14, 3) := by decide +kernel
theorem dX8_meet_96 : decode cX8_meet 96 = .ok (.iload_n 2, 1) := by decide +kernel
theorem dX8_meet_97 : decode cX8_meet 97 = .ok (.bipush 31, 2) := by decide +kernel
theorem dX8_meet_99 : decode cX8_meet 99 = .ok (.if_icmp .ne 7, 3) := by decide +kernel
theorem dX8_meet_102 : decode cX8_meet 102 = .ok (.iconst 1, 1) := by decide +kernel
theorem dX8_meet_103 : decode cX8_meet 103 = .ok (.goto 4, 3) := by decide +kernel
theorem dX8_meet_106 : decode cX8_meet 106 = .ok (.iconst 0, 1) := by decide +kernel
theorem dX8_meet_107 : decode cX8_meet 107 = .ok (.putfield 144, 3) := by decide +kernel
theorem dX8_meet_110 : decode cX8_meet 110 = .ok (.return_, 1) := by decide +kernel
theorem dX8_tick_0 : decode cX8_tick 0 = .ok (.iload_n 2, 1) := by decide +kernel
theorem dX8_tick_1 : decode cX8_tick 1 = .ok (.iload_n 3, 1) := by decide +kernel
theorem dX8_tick_2 : decode cX8_tick 2 = .ok (.iconst (-1), 1) := by decide +kernel
theorem dX8_tick_3 : decode cX8_tick 3 = .ok (.ixor, 1) := by decide +kernel
theorem dX8_tick_4 : decode cX8_tick 4 = .ok (.iand, 1) := by decide +kernel
theorem dX8_tick_5 : decode cX8_tick 5 = .ok (.istore 4, 2) := by decide +kernel
theorem dX8_tick_7 : decode cX8_tick 7 = .ok (.aload_n 0, 1) := by decide +kernel
theorem dX8_tick_8 : decode cX8_tick 8 = .ok (.iload_n 2, 1) := by decide +kernel
theorem dX8_tick_9 : decode cX8_tick 9 = .ok (.iload 4, 2) := by decide +kernel
theorem dX8_tick_11 : decode cX8_tick 11 = .ok (.invokevirtual 150, 3) := by decide +kernel
theorem dX8_tick_14 : decode cX8_tick 14 = .ok (.istore 5, 2) := by decide +kernel
theorem dX8_tick_16 : decode cX8_tick 16 = .ok (.iload 4, 2) := by decide +kernel
theorem dX8_tick_18 : decode cX8_tick 18 = .ok (.iconst 4, 1) := by decide +kernel
theorem dX8_tick_19 : decode cX8_tick 19 = .ok (.iand, 1) := by decide +kernel
theorem dX8_tick_20 : decode cX8_tick 20 = .ok (.ifCond .le 31, 3) := by decide +kernel
theorem dX8_tick_23 : decode cX8_tick 23 = .ok (.aload_n 0, 1) := by decide +kernel
theorem dX8_tick_24 : decode cX8_tick 24 = .ok (.getfield 125, 3) := by decide +kernel
theorem dX8_tick_27 : decode cX8_tick 27 = .ok (.ifCond .eq 24, 3) := by decide +kernel
theorem dX8_tick_30 : decode cX8_tick 30 = .ok (.aload_n 0, 1) := by decide +kernel
theorem dX8_tick_31 : decode cX8_tick 31 = .ok (.bipush 14, 2) := by decide +kernel
theorem dX8_tick_33 : decode cX8_tick 33 = .ok (.putfield 122, 3) := by decide +kernel
theorem dX8_tick_36 : decode cX8_tick 36 = .ok (.aload_n 0, 1) := by decide +kernel
theorem dX8_tick_37 : decode cX8_tick 37 = .ok (.iconst 0, 1) := by decide +kernel
theorem dX8_tick_38 : decode cX8_tick 38 = .ok (.putfield 125, 3) := by decide +kernel
theorem dX8_tick_41 : decode cX8_tick 41 = .ok (.aload_n 0, 1) := by decide +kernel
theorem dX8_tick_42 : decode cX8_tick 42 = .ok (.dup, 1) := by decide +kernel
theorem dX8_tick_43 : decode cX8_tick 43 = .ok (.getfield 135, 3) := by decide +kernel
theorem dX8_tick_46 : decode cX8_tick 46 = .ok (.iconst 1, 1) := by decide +kernel
theorem dX8_tick_47 : decode cX8_tick 47 = .ok (.iadd, 1) := by decide +kernel
theorem dX8_tick_48 : decode cX8_tick 48 = .ok (.putfield 135, 3) := by decide +kernel
theorem dX8_tick_51 : decode cX8_tick 51 = .ok (.aload_n 0, 1) := by decide +kernel
theorem dX8_tick_52 : decode cX8_tick 52 = .ok (.iload_n 1, 1) := by decide +kernel
theorem dX8_tick_53 : decode cX8_tick 53 = .ok (.iload 5, 2) := by decide +kernel
theorem dX8_tick_55 : decode cX8_tick 55 = .ok (.invokevirtual 153, 3) := by decide +kernel
theorem dX8_tick_58 : decode cX8_tick 58 = .ok (.aload_n 0, 1) := by decide +kernel
theorem dX8_tick_59 : decode cX8_tick 59 = .ok (.iload_n 1, 1) := by decide +kernel
theorem dX8_tick_60 : decode cX8_tick 60 = .ok (.invokevirtual 157, 3) := by decide +kernel
theorem dX8_tick_63 : decode cX8_tick 63 = .ok (.aload_n 0, 1) := by decide +kernel
theorem dX8_tick_64 : decode cX8_tick 64 = .ok (.iload_n 1, 1) := by decide +kernel
theorem dX8_tick_65 : decode cX8_tick 65 = .ok (.invokevirtual 161, 3) := by decide +kernel
theorem dX8_tick_68 : decode cX8_tick 68 = .ok (.aload_n 0, 1) := by decide +kernel
theorem dX8_tick_69 : decode cX8_tick 69 = .ok (.dup, 1) := by decide +kernel
theorem dX8_tick_70 : decode cX8_tick 70 = .ok (.getfield 141, 3) := by decide +kernel
theorem dX8_tick_73 : decode cX8_tick 73 = .ok (.iconst 1, 1) := by decide +kernel
theorem dX8_tick_74 : decode cX8_tick 74 = .ok (.iadd, 1) := by decide +kernel
theorem dX8_tick_75 : decode cX8_tick 75 = .ok (.putfield 141, 3) := by decide +kernel
theorem dX8_tick_78 : decode cX8_tick 78 = .ok (.return_, 1) := by decide +kernel
theorem dX8_run_0 : decode cX8_run 0 = .ok (.iconst 0, 1) := by decide +kernel
theorem dX8_run_1 : decode cX8_run 1 = .ok (.istore_n 3, 1) := by decide +kernel
theorem dX8_run_2 : decode cX8_run 2 = .ok (.aload_n 0, 1) := by decide +kernel
theorem dX8_run_3 : decode cX8_run 3 = .ok (.aload_n 0, 1) := by decide +kernel
theorem dX8_run_4 : decode cX8_run 4 = .ok (.getfield 16, 3) := by decide +kernel
theorem dX8_run_7 : decode cX8_run 7 = .ok (.iload_n 1, 1) := by decide +kernel
theorem dX8_run_8 : decode cX8_run 8 = .ok (.iaload, 1) := by decide +kernel
theorem dX8_run_9 : decode cX8_run 9 = .ok (.invokevirtual 164, 3) := by decide +kernel
theorem dX8_run_12 : decode cX8_run 12 = .ok (.iconst 0, 1) := by decide +kernel
theorem dX8_run_13 : decode cX8_run 13 = .ok (.istore 4, 2) := by decide +kernel
theorem dX8_run_15 : decode cX8_run 15 = .ok (.iload 4, 2) := by decide +kernel
theorem dX8_run_17 : decode cX8_run 17 = .ok (.aload_n 0, 1) := by decide +kernel
theorem dX8_run_18 : decode cX8_run 18 = .ok (.getfield 19, 3) := by decide +kernel
theorem dX8_run_21 : decode cX8_run 21 = .ok (.iload_n 1, 1) := by decide +kernel
theorem dX8_run_22 : decode cX8_run 22 = .ok (.iaload, 1) := by decide +kernel
theorem dX8_run_23 : decode cX8_run 23 = .ok (.if_icmp .ge 86, 3) := by decide +kernel
theorem dX8_run_26 : decode cX8_run 26 = .ok (.iconst 0, 1) := by decide +kernel
theorem dX8_run_27 : decode cX8_run 27 = .ok (.istore 5, 2) := by decide +kernel
theorem dX8_run_29 : decode cX8_run 29 = .ok (.iload 5, 2) := by decide +kernel
theorem dX8_run_31 : decode cX8_run 31 = .ok (.aload_n 0, 1) := by decide +kernel
theorem dX8_run_32 : decode cX8_run 32 = .ok (.getfield 31, 3) := by decide +kernel
theorem dX8_run_35 : decode cX8_run 35 = .ok (.bipush 20, 2) := by decide +kernel
theorem dX8_run_37 : decode cX8_run 37 = .ok (.iload_n 1, 1) := by decide +kernel
theorem dX8_run_38 : decode cX8_run 38 = .ok (.imul, 1) := by decide +kernel
theorem dX8_run_39 : decode cX8_run 39 = .ok (.iload 4, 2) := by decide +kernel
theorem dX8_run_41 : decode cX8_run 41 = .ok (.iadd, 1) := by decide +kernel
theorem dX8_run_42 : decode cX8_run 42 = .ok (.iaload, 1) := by decide +kernel
theorem dX8_run_43 : decode cX8_run 43 = .ok (.if_icmp .ge 60, 3) := by decide +kernel
theorem dX8_run_46 : decode cX8_run 46 = .ok (.aload_n 0, 1) := by decide +kernel
theorem dX8_run_47 : decode cX8_run 47 = .ok (.getfield 141, 3) := by decide +kernel
theorem dX8_run_50 : decode cX8_run 50 = .ok (.iload_n 2, 1) := by decide +kernel
theorem dX8_run_51 : decode cX8_run 51 = .ok (.if_icmp .ge 52, 3) := by decide +kernel
theorem dX8_run_54 : decode cX8_run 54 = .ok (.aload_n 0, 1) := by decide +kernel
theorem dX8_run_55 : decode cX8_run 55 = .ok (.getfield 144, 3) := by decide +kernel
theorem dX8_run_58 : decode cX8_run 58 = .ok (.ifCond .ne 45, 3) := by decide +kernel
theorem dX8_run_61 : decode cX8_run 61 = .ok (.aload_n 0, 1) := by decide +kernel
theorem dX8_run_62 : decode cX8_run 62 = .ok (.aload_n 0, 1) := by decide +kernel
theorem dX8_run_63 : decode cX8_run 63 = .ok (.getfield 16, 3) := by decide +kernel
theorem dX8_run_66 : decode cX8_run 66 = .ok (.iload_n 1, 1) := by decide +kernel
theorem dX8_run_67 : decode cX8_run 67 = .ok (.iaload, 1) := by decide +kernel
theorem dX8_run_68 : decode cX8_run 68 = .ok (.aload_n 0, 1) := by decide +kernel
theorem dX8_run_69 : decode cX8_run 69 = .ok (.getfield 28, 3) := by decide +kernel
theorem dX8_run_72 : decode cX8_run 72 = .ok (.bipush 20, 2) := by decide +kernel
theorem dX8_run_74 : decode cX8_run 74 = .ok (.iload_n 1, 1) := by decide +kernel
theorem dX8_run_75 : decode cX8_run 75 = .ok (.imul, 1) := by decide +kernel
theorem dX8_run_76 : decode cX8_run 76 = .ok (.iload 4, 2) := by decide +kernel
theorem dX8_run_78 : decode cX8_run 78 = .ok (.iadd, 1) := by decide +kernel
theorem dX8_run_79 : decode cX8_run 79 = .ok (.iaload, 1) := by decide +kernel
theorem dX8_run_80 : decode cX8_run 80 = .ok (.iload_n 3, 1) := by decide +kernel
theorem dX8_run_81 : decode cX8_run 81 = .ok (.invokevirtual 167, 3) := by decide +kernel
theorem dX8_run_84 : decode cX8_run 84 = .ok (.aload_n 0, 1) := by decide +kernel
theorem dX8_run_85 : decode cX8_run 85 = .ok (.getfield 28, 3) := by decide +kernel
theorem dX8_run_88 : decode cX8_run 88 = .ok (.bipush 20, 2) := by decide +kernel
theorem dX8_run_90 : decode cX8_run 90 = .ok (.iload_n 1, 1) := by decide +kernel
theorem dX8_run_91 : decode cX8_run 91 = .ok (.imul, 1) := by decide +kernel
theorem dX8_run_92 : decode cX8_run 92 = .ok (.iload 4, 2) := by decide +kernel
theorem dX8_run_94 : decode cX8_run 94 = .ok (.iadd, 1) := by decide +kernel
theorem dX8_run_95 : decode cX8_run 95 = .ok (.iaload, 1) := by decide +kernel
theorem dX8_run_96 : decode cX8_run 96 = .ok (.istore_n 3, 1) := by decide +kernel
theorem dX8_run_97 : decode cX8_run 97 = .ok (.iinc 5 1, 3) := by decide +kernel
theorem dX8_run_100 : decode cX8_run 100 = .ok (.goto (-71), 3) := by decide +kernel
theorem dX8_run_103 : decode cX8_run 103 = .ok (.iinc 4 1, 3) := by decide +kernel
theorem dX8_run_106 : decode cX8_run 106 = .ok (.goto (-91), 3) := by decide +kernel
theorem dX8_run_109 : decode cX8_run 109 = .ok (.return_, 1) := by decide +kernel
theorem dX8_purse_0 : decode cX8_purse 0 = .ok (.iconst 0, 1) := by decide +kernel
theorem dX8_purse_1 : decode cX8_purse 1 = .ok (.istore_n 1, 1) := by decide +kernel
theorem dX8_purse_2 : decode cX8_purse 2 = .ok (.iconst 0, 1) := by decide +kernel
theorem dX8_purse_3 : decode cX8_purse 3 = .ok (.istore_n 2, 1) := by decide +kernel
theorem dX8_purse_4 : decode cX8_purse 4 = .ok (.iload_n 2, 1) := by decide +kernel
theorem dX8_purse_5 : decode cX8_purse 5 = .ok (.bipush 32, 2) := by decide +kernel
theorem dX8_purse_7 : decode cX8_purse 7 = .ok (.if_icmp .ge 20, 3) := by decide +kernel
theorem dX8_purse_10 : decode cX8_purse 10 = .ok (.iload_n 1, 1) := by decide +kernel
theorem dX8_purse_11 : decode cX8_purse 11 = .ok (.aload_n 0, 1) := by decide +kernel
theorem dX8_purse_12 : decode cX8_purse 12 = .ok (.getfield 132, 3) := by decide +kernel
theorem dX8_purse_15 : decode cX8_purse 15 = .ok (.iload_n 2, 1) := by decide +kernel
theorem dX8_purse_16 : decode cX8_purse 16 = .ok (.ishr, 1) := by decide +kernel
theorem dX8_purse_17 : decode cX8_purse 17 = .ok (.iconst 1, 1) := by decide +kernel
theorem dX8_purse_18 : decode cX8_purse 18 = .ok (.iand, 1) := by decide +kernel
theorem dX8_purse_19 : decode cX8_purse 19 = .ok (.iadd, 1) := by decide +kernel
theorem dX8_purse_20 : decode cX8_purse 20 = .ok (.istore_n 1, 1) := by decide +kernel
theorem dX8_purse_21 : decode cX8_purse 21 = .ok (.iinc 2 1, 3) := by decide +kernel
theorem dX8_purse_24 : decode cX8_purse 24 = .ok (.goto (-20), 3) := by decide +kernel
theorem dX8_purse_27 : decode cX8_purse 27 = .ok (.iload_n 1, 1) := by decide +kernel
theorem dX8_purse_28 : decode cX8_purse 28 = .ok (.ireturn, 1) := by decide +kernel
theorem dX8_level_0 : decode cX8_level 0 = .ok (.aload_n 0, 1) := by decide +kernel
theorem dX8_level_1 : decode cX8_level 1 = .ok (.aload_n 0, 1) := by decide +kernel
theorem dX8_level_2 : decode cX8_level 2 = .ok (.getfield 92, 3) := by decide +kernel
theorem dX8_level_5 : decode cX8_level 5 = .ok (.iconst 3, 1) := by decide +kernel
theorem dX8_level_6 : decode cX8_level 6 = .ok (.if_icmp .ne 7, 3) := by decide +kernel
theorem dX8_level_9 : decode cX8_level 9 = .ok (.iconst 1, 1) := by decide +kernel
theorem dX8_level_10 : decode cX8_level 10 = .ok (.goto 4, 3) := by decide +kernel
theorem dX8_level_13 : decode cX8_level 13 = .ok (.iconst 0, 1) := by decide +kernel
theorem dX8_level_14 : decode cX8_level 14 = .ok (.invokevirtual 171, 3) := by decide +kernel
theorem dX8_level_17 : decode cX8_level 17 = .ok (.ifCond .eq 5, 3) := by decide +kernel
theorem dX8_level_20 : decode cX8_level 20 = .ok (.iconst (-1), 1) := by decide +kernel
theorem dX8_level_21 : decode cX8_level 21 = .ok (.ireturn, 1) := by decide +kernel
theorem dX8_level_22 : decode cX8_level 22 = .ok (.aload_n 0, 1) := by decide +kernel
theorem dX8_level_23 : decode cX8_level 23 = .ok (.dup, 1) := by decide +kernel
theorem dX8_level_24 : decode cX8_level 24 = .ok (.getfield 92, 3) := by decide +kernel
theorem dX8_level_27 : decode cX8_level 27 = .ok (.iconst 1, 1) := by decide +kernel
theorem dX8_level_28 : decode cX8_level 28 = .ok (.iadd, 1) := by decide +kernel
theorem dX8_level_29 : decode cX8_level 29 = .ok (.putfield 92, 3) := by decide +kernel
theorem dX8_level_32 : decode cX8_level 32 = .ok (.aload_n 0, 1) := by decide +kernel
theorem dX8_level_33 : decode cX8_level 33 = .ok (.getfield 92, 3) := by decide +kernel
theorem dX8_level_36 : decode cX8_level 36 = .ok (.iconst 1, 1) := by decide +kernel
theorem dX8_level_37 : decode cX8_level 37 = .ok (.isub, 1) := by decide +kernel
theorem dX8_level_38 : decode cX8_level 38 = .ok (.ireturn, 1) := by decide +kernel
theorem dX8_isUsed_0 : decode cX8_isUsed 0 = .ok (.iconst 0, 1) := by decide +kernel
theorem dX8_isUsed_1 : decode cX8_isUsed 1 = .ok (.istore_n 2, 1) := by decide +kernel
theorem dX8_isUsed_2 : decode cX8_isUsed 2 = .ok (.iconst 0, 1) := by decide +kernel
theorem dX8_isUsed_3 : decode cX8_isUsed 3 = .ok (.istore_n 3, 1) := by decide +kernel
theorem dX8_isUsed_4 : decode cX8_isUsed 4 = .ok (.iload_n 3, 1) := by decide +kernel
theorem dX8_isUsed_5 : decode cX8_isUsed 5 = .ok (.aload_n 0, 1) := by decide +kernel
theorem dX8_isUsed_6 : decode cX8_isUsed 6 = .ok (.getfield 99, 3) := by decide +kernel
theorem dX8_isUsed_9 : decode cX8_isUsed 9 = .ok (.if_icmp .ge 27, 3) := by decide +kernel
theorem dX8_isUsed_12 : decode cX8_isUsed 12 = .ok (.iload_n 2, 1) := by decide +kernel
theorem dX8_isUsed_13 : decode cX8_isUsed 13 = .ok (.aload_n 0, 1) := by decide +kernel
theorem dX8_isUsed_14 : decode cX8_isUsed 14 = .ok (.getfield 16, 3) := by decide +kernel
theorem dX8_isUsed_17 : decode cX8_isUsed 17 = .ok (.iload_n 3, 1) := by decide +kernel
theorem dX8_isUsed_18 : decode cX8_isUsed 18 = .ok (.iaload, 1) := by decide +kernel
theorem dX8_isUsed_19 : decode cX8_isUsed 19 = .ok (.iload_n 1, 1) := by decide +kernel
theorem dX8_isUsed_20 : decode cX8_isUsed 20 = .ok (.if_icmp .ne 7, 3) := by decide +kernel
theorem dX8_isUsed_23 : decode cX8_isUsed 23 = .ok (.iconst 1, 1) := by decide +kernel
theorem dX8_isUsed_24 : decode cX8_isUsed 24 = .ok (.goto 4, 3) := by decide +kernel
theorem dX8_isUsed_27 : decode cX8_isUsed 27 = .ok (.iconst 0, 1) := by decide +kernel
theorem dX8_isUsed_28 : decode cX8_isUsed 28 = .ok (.ior, 1) := by decide +kernel
theorem dX8_isUsed_29 : decode cX8_isUsed 29 = .ok (.istore_n 2, 1) := by decide +kernel
theorem dX8_isUsed_30 : decode cX8_isUsed 30 = .ok (.iinc 3 1, 3) := by decide +kernel
theorem dX8_isUsed_33 : decode cX8_isUsed 33 = .ok (.goto (-29), 3) := by decide +kernel
theorem dX8_isUsed_36 : decode cX8_isUsed 36 = .ok (.iload_n 2, 1) := by decide +kernel
theorem dX8_isUsed_37 : decode cX8_isUsed 37 = .ok (.ireturn, 1) := by decide +kernel
theorem dX8_column_0 : decode cX8_column 0 = .ok (.aload_n 0, 1) := by decide +kernel
theorem dX8_column_1 : decode cX8_column 1 = .ok (.iload_n 3, 1) := by decide +kernel
theorem dX8_column_2 : decode cX8_column 2 = .ok (.iconst (-1), 1) := by decide +kernel
theorem dX8_column_3 : decode cX8_column 3 = .ok (.bipush 6, 2) := by decide +kernel
theorem dX8_column_5 : decode cX8_column 5 = .ok (.invokevirtual 95, 3) := by decide +kernel
theorem dX8_column_8 : decode cX8_column 8 = .ok (.ifCond .eq 18, 3) := by decide +kernel
theorem dX8_column_11 : decode cX8_column 11 = .ok (.aload_n 0, 1) := by decide +kernel
theorem dX8_column_12 : decode cX8_column 12 = .ok (.iload 4, 2) := by decide +kernel
theorem dX8_column_14 : decode cX8_column 14 = .ok (.iconst 0, 1) := by decide +kernel
theorem dX8_column_15 : decode cX8_column 15 = .ok (.iconst 2, 1) := by decide +kernel
theorem dX8_column_16 : decode cX8_column 16 = .ok (.invokevirtual 95, 3) := by decide +kernel
theorem dX8_column_19 : decode cX8_column 19 = .ok (.ifCond .eq 7, 3) := by decide +kernel
theorem dX8_column_22 : decode cX8_column 22 = .ok (.iconst 1, 1) := by decide +kernel
theorem dX8_column_23 : decode cX8_column 23 = .ok (.goto 4, 3) := by decide +kernel
theorem dX8_column_26 : decode cX8_column 26 = .ok (.iconst 0, 1) := by decide +kernel
theorem dX8_column_27 : decode cX8_column 27 = .ok (.istore 5, 2) := by decide +kernel
theorem dX8_column_29 : decode cX8_column 29 = .ok (.aload_n 0, 1) := by decide +kernel
theorem dX8_column_30 : decode cX8_column 30 = .ok (.aload_n 0, 1) := by decide +kernel
theorem dX8_column_31 : decode cX8_column 31 = .ok (.iload_n 1, 1) := by decide +kernel
theorem dX8_column_32 : decode cX8_column 32 = .ok (.invokevirtual 175, 3) := by decide +kernel
theorem dX8_column_35 : decode cX8_column 35 = .ok (.ifCond .eq 14, 3) := by decide +kernel
theorem dX8_column_38 : decode cX8_column 38 = .ok (.aload_n 0, 1) := by decide +kernel
theorem dX8_column_39 : decode cX8_column 39 = .ok (.iload_n 2, 1) := by decide +kernel
theorem dX8_column_40 : decode cX8_column 40 = .ok (.iconst 0, 1) := by decide +kernel
theorem dX8_column_41 : decode cX8_column 41 = .ok (.bipush 31, 2) := by decide +kernel
theorem dX8_column_43 : decode cX8_column 43 = .ok (.invokevirtual 95, 3) := by decide +kernel
theorem dX8_column_46 : decode cX8_column 46 = .ok (.ifCond .ne 7, 3) := by decide +kernel
theorem dX8_column_49 : decode cX8_column 49 = .ok (.iconst 1, 1) := by decide +kernel
theorem dX8_column_50 : decode cX8_column 50 = .ok (.goto 25, 3) := by decide +kernel
theorem dX8_column_53 : decode cX8_column 53 = .ok (.iload 5, 2) := by decide +kernel
theorem dX8_column_55 : decode cX8_column 55 = .ok (.ifCond .ne 7, 3) := by decide +kernel
theorem dX8_column_58 : decode cX8_column 58 = .ok (.iconst 2, 1) := by decide +kernel
theorem dX8_column_59 : decode cX8_column 59 = .ok (.goto 16, 3) := by decide +kernel
theorem dX8_column_62 : decode cX8_column 62 = .ok (.aload_n 0, 1) := by decide +kernel
theorem dX8_column_63 : decode cX8_column 63 = .ok (.iload_n 1, 1) := by decide +kernel
theorem dX8_column_64 : decode cX8_column 64 = .ok (.invokevirtual 178, 3) := by decide +kernel
theorem dX8_column_67 : decode cX8_column 67 = .ok (.ifCond .eq 7, 3) := by decide +kernel
theorem dX8_column_70 : decode cX8_column 70 = .ok (.iconst 3, 1) := by decide +kernel
theorem dX8_column_71 : decode cX8_column 71 = .ok (.goto 4, 3) := by decide +kernel
theorem dX8_column_74 : decode cX8_column 74 = .ok (.iconst 0, 1) := by decide +kernel
theorem dX8_column_75 : decode cX8_column 75 = .ok (.invokevirtual 171, 3) := by decide +kernel
theorem dX8_column_78 : decode cX8_column 78 = .ok (.ifCond .ne 28, 3) := by decide +kernel
theorem dX8_column_81 : decode cX8_column 81 = .ok (.aload_n 0, 1) := by decide +kernel
theorem dX8_column_82 : decode cX8_column 82 = .ok (.getfield 7, 3) := by decide +kernel
theorem dX8_column_85 : decode cX8_column 85 = .ok (.bipush 32, 2) := by decide +kernel
theorem dX8_column_87 : decode cX8_column 87 = .ok (.iload_n 1, 1) := by decide +kernel
theorem dX8_column_88 : decode cX8_column 88 = .ok (.imul, 1) := by decide +kernel
theorem dX8_column_89 : decode cX8_column 89 = .ok (.iload_n 2, 1) := by decide +kernel
theorem dX8_column_90 : decode cX8_column 90 = .ok (.iadd, 1) := by decide +kernel
theorem dX8_column_91 : decode cX8_column 91 = .ok (.iload_n 3, 1) := by decide +kernel
theorem dX8_column_92 : decode cX8_column 92 = .ok (.iastore, 1) := by decide +kernel
theorem dX8_column_93 : decode cX8_column 93 = .ok (.aload_n 0, 1) := by decide +kernel
theorem dX8_column_94 : decode cX8_column 94 = .ok (.getfield 13, 3) := by decide +kernel
theorem dX8_column_97 : decode cX8_column 97 = .ok (.bipush 32, 2) := by decide +kernel
theorem dX8_column_99 : decode cX8_column 99 = .ok (.iload_n 1, 1) := by decide +kernel
theorem dX8_column_100 : decode cX8_column 100 = .ok (.imul, 1) := by decide +kernel
theorem dX8_column_101 : decode cX8_column 101 = .ok (.iload_n 2, 1) := by decide +kernel
theorem dX8_column_102 : decode cX8_column 102 = .ok (.iadd, 1) := by decide +kernel
theorem dX8_column_103 : decode cX8_column 103 = .ok (.iload 4, 2) := by decide +kernel
theorem dX8_column_105 : decode cX8_column 105 = .ok (.iastore, 1) := by decide +kernel
theorem dX8_column_106 : decode cX8_column 106 = .ok (.return_, 1) := by decide +kernel
theorem dX8_replay_0 : decode cX8_replay 0 = .ok (.aload_n 0, 1) := by decide +kernel
theorem dX8_replay_1 : decode cX8_replay 1 = .ok (.aload_n 0, 1) := by decide +kernel
theorem dX8_replay_2 : decode cX8_replay 2 = .ok (.iload_n 1, 1) := by decide +kernel
theorem dX8_replay_3 : decode cX8_replay 3 = .ok (.invokevirtual 175, 3) := by decide +kernel
theorem dX8_replay_6 : decode cX8_replay 6 = .ok (.ifCond .ne 7, 3) := by decide +kernel
theorem dX8_replay_9 : decode cX8_replay 9 = .ok (.iconst 1, 1) := by decide +kernel
theorem dX8_replay_10 : decode cX8_replay 10 = .ok (.goto 17, 3) := by decide +kernel
theorem dX8_replay_13 : decode cX8_replay 13 = .ok (.aload_n 0, 1) := by decide +kernel
theorem dX8_replay_14 : decode cX8_replay 14 = .ok (.getfield 99, 3) := by decide +kernel
theorem dX8_replay_17 : decode cX8_replay 17 = .ok (.bipush 20, 2) := by decide +kernel
theorem dX8_replay_19 : decode cX8_replay 19 = .ok (.if_icmp .ne 7, 3) := by decide +kernel
theorem dX8_replay_22 : decode cX8_replay 22 = .ok (.iconst 2, 1) := by decide +kernel
theorem dX8_replay_23 : decode cX8_replay 23 = .ok (.goto 4, 3) := by decide +kernel
theorem dX8_replay_26 : decode cX8_replay 26 = .ok (.iconst 0, 1) := by decide +kernel
theorem dX8_replay_27 : decode cX8_replay 27 = .ok (.invokevirtual 171, 3) := by decide +kernel
theorem dX8_replay_30 : decode cX8_replay 30 = .ok (.ifCond .eq 5, 3) := by decide +kernel
theorem dX8_replay_33 : decode cX8_replay 33 = .ok (.iconst (-1), 1) := by decide +kernel
theorem dX8_replay_34 : decode cX8_replay 34 = .ok (.ireturn, 1) := by decide +kernel
theorem dX8_replay_35 : decode cX8_replay 35 = .ok (.aload_n 0, 1) := by decide +kernel
theorem dX8_replay_36 : decode cX8_replay 36 = .ok (.getfield 16, 3) := by decide +kernel
theorem dX8_replay_39 : decode cX8_replay 39 = .ok (.aload_n 0, 1) := by decide +kernel
theorem dX8_replay_40 : decode cX8_replay 40 = .ok (.getfield 99, 3) := by decide +kernel
theorem dX8_replay_43 : decode cX8_replay 43 = .ok (.iload_n 1, 1) := by decide +kernel
theorem dX8_replay_44 : decode cX8_replay 44 = .ok (.iastore, 1) := by decide +kernel
theorem dX8_replay_45 : decode cX8_replay 45 = .ok (.aload_n 0, 1) := by decide +kernel
theorem dX8_replay_46 : decode cX8_replay 46 = .ok (.dup, 1) := by decide +kernel
theorem dX8_replay_47 : decode cX8_replay 47 = .ok (.getfield 99, 3) := by decide +kernel
theorem dX8_replay_50 : decode cX8_replay 50 = .ok (.iconst 1, 1) := by decide +kernel
theorem dX8_replay_51 : decode cX8_replay 51 = .ok (.iadd, 1) := by decide +kernel
theorem dX8_replay_52 : decode cX8_replay 52 = .ok (.putfield 99, 3) := by decide +kernel
theorem dX8_replay_55 : decode cX8_replay 55 = .ok (.aload_n 0, 1) := by decide +kernel
theorem dX8_replay_56 : decode cX8_replay 56 = .ok (.getfield 99, 3) := by decide +kernel
theorem dX8_replay_59 : decode cX8_replay 59 = .ok (.iconst 1, 1) := by decide +kernel
theorem dX8_replay_60 : decode cX8_replay 60 = .ok (.isub, 1) := by decide +kernel
theorem dX8_replay_61 : decode cX8_replay 61 = .ok (.ireturn, 1) := by decide +kernel
theorem dX8_input_0 : decode cX8_input 0 = .ok (.aload_n 0, 1) := by decide +kernel
theorem dX8_input_1 : decode cX8_input 1 = .ok (.iload_n 2, 1) := by decide +kernel
theorem dX8_input_2 : decode cX8_input 2 = .ok (.iconst 0, 1) := by decide +kernel
theorem dX8_input_3 : decode cX8_input 3 = .ok (.bipush 15, 2) := by decide +kernel
theorem dX8_input_5 : decode cX8_input 5 = .ok (.invokevirtual 95, 3) := by decide +kernel
theorem dX8_input_8 : decode cX8_input 8 = .ok (.ifCond .eq 18, 3) := by decide +kernel
theorem dX8_input_11 : decode cX8_input 11 = .ok (.aload_n 0, 1) := by decide +kernel
theorem dX8_input_12 : decode cX8_input 12 = .ok (.iload_n 3, 1) := by decide +kernel
theorem dX8_input_13 : decode cX8_input 13 = .ok (.iconst 1, 1) := by decide +kernel
theorem dX8_input_14 : decode cX8_input 14 = .ok (.bipush 100, 2) := by decide +kernel
theorem dX8_input_16 : decode cX8_input 16 = .ok (.invokevirtual 95, 3) := by decide +kernel
theorem dX8_input_19 : decode cX8_input 19 = .ok (.ifCond .eq 7, 3) := by decide +kernel
theorem dX8_input_22 : decode cX8_input 22 = .ok (.iconst 1, 1) := by decide +kernel
theorem dX8_input_23 : decode cX8_input 23 = .ok (.goto 4, 3) := by decide +kernel
theorem dX8_input_26 : decode cX8_input 26 = .ok (.iconst 0, 1) := by decide +kernel
theorem dX8_input_27 : decode cX8_input 27 = .ok (.istore 4, 2) := by decide +kernel
theorem dX8_input_29 : decode cX8_input 29 = .ok (.aload_n 0, 1) := by decide +kernel
theorem dX8_input_30 : decode cX8_input 30 = .ok (.iload_n 1, 1) := by decide +kernel
theorem dX8_input_31 : decode cX8_input 31 = .ok (.invokevirtual 181, 3) := by decide +kernel
theorem dX8_input_34 : decode cX8_input 34 = .ok (.ifCond .eq 47, 3) := by decide +kernel
theorem dX8_input_37 : decode cX8_input 37 = .ok (.iload 4, 2) := by decide +kernel
theorem dX8_input_39 : decode cX8_input 39 = .ok (.ifCond .eq 42, 3) := by decide +kernel
theorem dX8_input_42 : decode cX8_input 42 = .ok (.aload_n 0, 1) := by decide +kernel
theorem dX8_input_43 : decode cX8_input 43 = .ok (.getfield 25, 3) := by decide +kernel
theorem dX8_input_46 : decode cX8_input 46 = .ok (.iload_n 1, 1) := by decide +kernel
theorem dX8_input_47 : decode cX8_input 47 = .ok (.iaload, 1) := by decide +kernel
theorem dX8_input_48 : decode cX8_input 48 = .ok (.iconst 1, 1) := by decide +kernel
theorem dX8_input_49 : decode cX8_input 49 = .ok (.if_icmp .eq 28, 3) := by decide +kernel
theorem dX8_input_52 : decode cX8_input 52 = .ok (.aload_n 0, 1) := by decide +kernel
theorem dX8_input_53 : decode cX8_input 53 = .ok (.getfield 19, 3) := by decide +kernel
theorem dX8_input_56 : decode cX8_input 56 = .ok (.iload_n 1, 1) := by decide +kernel
theorem dX8_input_57 : decode cX8_input 57 = .ok (.iaload, 1) := by decide +kernel
theorem dX8_input_58 : decode cX8_input 58 = .ok (.bipush 20, 2) := by decide +kernel
theorem dX8_input_60 : decode cX8_input 60 = .ok (.if_icmp .eq 17, 3) := by decide +kernel
theorem dX8_input_63 : decode cX8_input 63 = .ok (.aload_n 0, 1) := by decide +kernel
theorem dX8_input_64 : decode cX8_input 64 = .ok (.getfield 22, 3) := by decide +kernel
theorem dX8_input_67 : decode cX8_input 67 = .ok (.iload_n 1, 1) := by decide +kernel
theorem dX8_input_68 : decode cX8_input 68 = .ok (.iaload, 1) := by decide +kernel
theorem dX8_input_69 : decode cX8_input 69 = .ok (.iload_n 3, 1) := by decide +kernel
theorem dX8_input_70 : decode cX8_input 70 = .ok (.iadd, 1) := by decide +kernel
theorem dX8_input_71 : decode cX8_input 71 = .ok (.sipush 500, 3) := by decide +kernel
theorem dX8_input_74 : decode cX8_input 74 = .ok (.if_icmp .le 7, 3) := by decide +kernel
theorem dX8_input_77 : decode cX8_input 77 = .ok (.iconst 1, 1) := by decide +kernel
theorem dX8_input_78 : decode cX8_input 78 = .ok (.goto 4, 3) := by decide +kernel
theorem dX8_input_81 : decode cX8_input 81 = .ok (.iconst 0, 1) := by decide +kernel
theorem dX8_input_82 : decode cX8_input 82 = .ok (.istore 5, 2) := by decide +kernel
theorem dX8_input_84 : decode cX8_input 84 = .ok (.aload_n 0, 1) := by decide +kernel
theorem dX8_input_85 : decode cX8_input 85 = .ok (.aload_n 0, 1) := by decide +kernel
theorem dX8_input_86 : decode cX8_input 86 = .ok (.iload_n 1, 1) := by decide +kernel
theorem dX8_input_87 : decode cX8_input 87 = .ok (.invokevirtual 181, 3) := by decide +kernel
theorem dX8_input_90 : decode cX8_input 90 = .ok (.ifCond .ne 7, 3) := by decide +kernel
theorem dX8_input_93 : decode cX8_input 93 = .ok (.iconst 1, 1) := by decide +kernel
theorem dX8_input_94 : decode cX8_input 94 = .ok (.goto 22, 3) := by decide +kernel
theorem dX8_input_97 : decode cX8_input 97 = .ok (.iload 4, 2) := by decide +kernel
theorem dX8_input_99 : decode cX8_input 99 = .ok (.ifCond .ne 7, 3) := by decide +kernel
theorem dX8_input_102 : decode cX8_input 102 = .ok (.iconst 2, 1) := by decide +kernel
theorem dX8_input_103 : decode cX8_input 103 = .ok (.goto 13, 3) := by decide +kernel
theorem dX8_input_106 : decode cX8_input 106 = .ok (.iload 5, 2) := by decide +kernel
theorem dX8_input_108 : decode cX8_input 108 = .ok (.ifCond .eq 7, 3) := by decide +kernel
theorem dX8_input_111 : decode cX8_input 111 = .ok (.iconst 3, 1) := by decide +kernel
theorem dX8_input_112 : decode cX8_input 112 = .ok (.goto 4, 3) := by decide +kernel
theorem dX8_input_115 : decode cX8_input 115 = .ok (.iconst 0, 1) := by decide +kernel
theorem dX8_input_116 : decode cX8_input 116 = .ok (.invokevirtual 171, 3) := by decide +kernel
theorem dX8_input_119 : decode cX8_input 119 = .ok (.ifCond .eq 5, 3) := by decide +kernel
theorem dX8_input_122 : decode cX8_input 122 = .ok (.iconst (-1), 1) := by decide +kernel
theorem dX8_input_123 : decode cX8_input 123 = .ok (.ireturn, 1) := by decide +kernel
theorem dX8_input_124 : decode cX8_input 124 = .ok (.aload_n 0, 1) := by decide +kernel
theorem dX8_input_125 : decode cX8_input 125 = .ok (.getfield 28, 3) := by decide +kernel
theorem dX8_input_128 : decode cX8_input 128 = .ok (.bipush 20, 2) := by decide +kernel
theorem dX8_input_130 : decode cX8_input 130 = .ok (.iload_n 1, 1) := by decide +kernel
theorem dX8_input_131 : decode cX8_input 131 = .ok (.imul, 1) := by decide +kernel
theorem dX8_input_132 : decode cX8_input 132 = .ok (.aload_n 0, 1) := by decide +kernel
theorem dX8_input_133 : decode cX8_input 133 = .ok (.getfield 19, 3) := by decide +kernel
theorem dX8_input_136 : decode cX8_input 136 = .ok (.iload_n 1, 1) := by decide +kernel
theorem dX8_input_137 : decode cX8_input 137 = .ok (.iaload, 1) := by decide +kernel
theorem dX8_input_138 : decode cX8_input 138 = .ok (.iadd, 1) := by decide +kernel
theorem dX8_input_139 : decode cX8_input 139 = .ok (.iload_n 2, 1) := by decide +kernel
theorem dX8_input_140 : decode cX8_input 140 = .ok (.iastore, 1) := by decide +kernel
theorem dX8_input_141 : decode cX8_input 141 = .ok (.aload_n 0, 1) := by decide +kernel
theorem dX8_input_142 : decode cX8_input 142 = .ok (.getfield 31, 3) := by decide +kernel
theorem dX8_input_145 : decode cX8_input 145 = .ok (.bipush 20, 2) := by decide +kernel
theorem dX8_input_147 : decode cX8_input 147 = .ok (.iload_n 1, 1) := by decide +kernel
theorem dX8_input_148 : decode cX8_input 148 = .ok (.imul, 1) := by decide +kernel
theorem dX8_input_149 : decode cX8_input 149 = .ok (.aload_n 0, 1) := by decide +kernel
theorem dX8_input_150 : decode cX8_input 150 = .ok (.getfield 19, 3) := by decide +kernel
theorem dX8_input_153 : decode cX8_input 153 = .ok (.iload_n 1, 1) := by decide +kernel
theorem dX8_input_154 : decode cX8_input 154 = .ok (.iaload, 1) := by decide +kernel
theorem dX8_input_155 : decode cX8_input 155 = .ok (.iadd, 1) := by decide +kernel
theorem dX8_input_156 : decode cX8_input 156 = .ok (.iload_n 3, 1) := by decide +kernel
theorem dX8_input_157 : decode cX8_input 157 = .ok (.iastore, 1) := by decide +kernel
theorem dX8_input_158 : decode cX8_input 158 = .ok (.aload_n 0, 1) := by decide +kernel
theorem dX8_input_159 : decode cX8_input 159 = .ok (.getfield 19, 3) := by decide +kernel
theorem dX8_input_162 : decode cX8_input 162 = .ok (.iload_n 1, 1) := by decide +kernel
theorem dX8_input_163 : decode cX8_input 163 = .ok (.dup2, 1) := by decide +kernel
theorem dX8_input_164 : decode cX8_input 164 = .ok (.iaload, 1) := by decide +kernel
theorem dX8_input_165 : decode cX8_input 165 = .ok (.iconst 1, 1) := by decide +kernel
theorem dX8_input_166 : decode cX8_input 166 = .ok (.iadd, 1) := by decide +kernel
theorem dX8_input_167 : decode cX8_input 167 = .ok (.iastore, 1) := by decide +kernel
theorem dX8_input_168 : decode cX8_input 168 = .ok (.aload_n 0, 1) := by decide +kernel
theorem dX8_input_169 : decode cX8_input 169 = .ok (.getfield 22, 3) := by decide +kernel
theorem dX8_input_172 : decode cX8_input 172 = .ok (.iload_n 1, 1) := by decide +kernel
theorem dX8_input_173 : decode cX8_input 173 = .ok (.dup2, 1) := by decide +kernel
theorem dX8_input_174 : decode cX8_input 174 = .ok (.iaload, 1) := by decide +kernel
theorem dX8_input_175 : decode cX8_input 175 = .ok (.iload_n 3, 1) := by decide +kernel
theorem dX8_input_176 : decode cX8_input 176 = .ok (.iadd, 1) := by decide +kernel
theorem dX8_input_177 : decode cX8_input 177 = .ok (.iastore, 1) := by decide +kernel
theorem dX8_input_178 : decode cX8_input 178 = .ok (.aload_n 0, 1) := by decide +kernel
theorem dX8_input_179 : decode cX8_input 179 = .ok (.getfield 22, 3) := by decide +kernel
theorem dX8_input_182 : decode cX8_input 182 = .ok (.iload_n 1, 1) := by decide +kernel
theorem dX8_input_183 : decode cX8_input 183 = .ok (.iaload, 1) := by decide +kernel
theorem dX8_input_184 : decode cX8_input 184 = .ok (.ireturn, 1) := by decide +kernel
theorem dX8_result_0 : decode cX8_result 0 = .ok (.aload_n 0, 1) := by decide +kernel
theorem dX8_result_1 : decode cX8_result 1 = .ok (.aload_n 0, 1) := by decide +kernel
theorem dX8_result_2 : decode cX8_result 2 = .ok (.iload_n 1, 1) := by decide +kernel
theorem dX8_result_3 : decode cX8_result 3 = .ok (.invokevirtual 181, 3) := by decide +kernel
theorem dX8_result_6 : decode cX8_result 6 = .ok (.ifCond .eq 7, 3) := by decide +kernel
theorem dX8_result_9 : decode cX8_result 9 = .ok (.iconst 0, 1) := by decide +kernel
theorem dX8_result_10 : decode cX8_result 10 = .ok (.goto 4, 3) := by decide +kernel
theorem dX8_result_13 : decode cX8_result 13 = .ok (.iconst 1, 1) := by decide +kernel
theorem dX8_result_14 : decode cX8_result 14 = .ok (.invokevirtual 171, 3) := by decide +kernel
theorem dX8_result_17 : decode cX8_result 17 = .ok (.ifCond .eq 5, 3) := by decide +kernel
theorem dX8_result_20 : decode cX8_result 20 = .ok (.iconst (-1), 1) := by decide +kernel
theorem dX8_result_21 : decode cX8_result 21 = .ok (.ireturn, 1) := by decide +kernel
theorem dX8_result_22 : decode cX8_result 22 = .ok (.aload_n 0, 1) := by decide +kernel
theorem dX8_result_23 : decode cX8_result 23 = .ok (.iload_n 1, 1) := by decide +kernel
theorem dX8_result_24 : decode cX8_result 24 = .ok (.sipush 500, 3) := by decide +kernel
theorem dX8_result_27 : decode cX8_result 27 = .ok (.invokevirtual 184, 3) := by decide +kernel
theorem dX8_result_30 : decode cX8_result 30 = .ok (.bipush 10, 2) := by decide +kernel
theorem dX8_result_32 : decode cX8_result 32 = .ok (.aload_n 0, 1) := by decide +kernel
theorem dX8_result_33 : decode cX8_result 33 = .ok (.getfield 141, 3) := by decide +kernel
theorem dX8_result_36 : decode cX8_result 36 = .ok (.imul, 1) := by decide +kernel
theorem dX8_result_37 : decode cX8_result 37 = .ok (.aload_n 0, 1) := by decide +kernel
theorem dX8_result_38 : decode cX8_result 38 = .ok (.getfield 144, 3) := by decide +kernel
theorem dX8_result_41 : decode cX8_result 41 = .ok (.iadd, 1) := by decide +kernel
theorem dX8_result_42 : decode cX8_result 42 = .ok (.ireturn, 1) := by decide +kernel
theorem dX8_used_0 : decode cX8_used 0 = .ok (.aload_n 0, 1) := by decide +kernel
theorem dX8_used_1 : decode cX8_used 1 = .ok (.aload_n 0, 1) := by decide +kernel
theorem dX8_used_2 : decode cX8_used 2 = .ok (.iload_n 1, 1) := by decide +kernel
theorem dX8_used_3 : decode cX8_used 3 = .ok (.invokevirtual 181, 3) := by decide +kernel
theorem dX8_used_6 : decode cX8_used 6 = .ok (.ifCond .eq 7, 3) := by decide +kernel
theorem dX8_used_9 : decode cX8_used 9 = .ok (.iconst 0, 1) := by decide +kernel
theorem dX8_used_10 : decode cX8_used 10 = .ok (.goto 4, 3) := by decide +kernel
theorem dX8_used_13 : decode cX8_used 13 = .ok (.iconst 1, 1) := by decide +kernel
theorem dX8_used_14 : decode cX8_used 14 = .ok (.invokevirtual 171, 3) := by decide +kernel
theorem dX8_used_17 : decode cX8_used 17 = .ok (.ifCond .eq 5, 3) := by decide +kernel
theorem dX8_used_20 : decode cX8_used 20 = .ok (.iconst (-1), 1) := by decide +kernel
theorem dX8_used_21 : decode cX8_used 21 = .ok (.ireturn, 1) := by decide +kernel
theorem dX8_used_22 : decode cX8_used 22 = .ok (.aload_n 0, 1) := by decide +kernel
theorem dX8_used_23 : decode cX8_used 23 = .ok (.iload_n 1, 1) := by decide +kernel
theorem dX8_used_24 : decode cX8_used 24 = .ok (.sipush 500, 3) := by decide +kernel
theorem dX8_used_27 : decode cX8_used 27 = .ok (.invokevirtual 184, 3) := by decide +kernel
theorem dX8_used_30 : decode cX8_used 30 = .ok (.sipush 10000, 3) := by decide +kernel
theorem dX8_used_33 : decode cX8_used 33 = .ok (.aload_n 0, 1) := by decide +kernel
theorem dX8_used_34 : decode cX8_used 34 = .ok (.invokevirtual 187, 3) := by decide +kernel
theorem dX8_used_37 : decode cX8_used 37 = .ok (.imul, 1) := by decide +kernel
theorem dX8_used_38 : decode cX8_used 38 = .ok (.bipush 10, 2) := by decide +kernel
theorem dX8_used_40 : decode cX8_used 40 = .ok (.aload_n 0, 1) := by decide +kernel
theorem dX8_used_41 : decode cX8_used 41 = .ok (.getfield 135, 3) := by decide +kernel
theorem dX8_used_44 : decode cX8_used 44 = .ok (.imul, 1) := by decide +kernel
theorem dX8_used_45 : decode cX8_used 45 = .ok (.iadd, 1) := by decide +kernel
theorem dX8_used_46 : decode cX8_used 46 = .ok (.aload_n 0, 1) := by decide +kernel
theorem dX8_used_47 : decode cX8_used 47 = .ok (.getfield 138, 3) := by decide +kernel
theorem dX8_used_50 : decode cX8_used 50 = .ok (.iadd, 1) := by decide +kernel
theorem dX8_used_51 : decode cX8_used 51 = .ok (.ireturn, 1) := by decide +kernel
theorem dX8_where_0 : decode cX8_where 0 = .ok (.aload_n 0, 1) := by decide +kernel
theorem dX8_where_1 : decode cX8_where 1 = .ok (.iload_n 1, 1) := by decide +kernel
theorem dX8_where_2 : decode cX8_where 2 = .ok (.invokevirtual 181, 3) := by decide +kernel
theorem dX8_where_5 : decode cX8_where 5 = .ok (.ifCond .eq 11, 3) := by decide +kernel
theorem dX8_where_8 : decode cX8_where 8 = .ok (.aload_n 0, 1) := by decide +kernel
theorem dX8_where_9 : decode cX8_where 9 = .ok (.iload_n 1, 1) := by decide +kernel
theorem dX8_where_10 : decode cX8_where 10 = .ok (.sipush 500, 3) := by decide +kernel
theorem dX8_where_13 : decode cX8_where 13 = .ok (.invokevirtual 184, 3) := by decide +kernel
theorem dX8_where_16 : decode cX8_where 16 = .ok (.aload_n 0, 1) := by decide +kernel
theorem dX8_where_17 : decode cX8_where 17 = .ok (.aload_n 0, 1) := by decide +kernel
theorem dX8_where_18 : decode cX8_where 18 = .ok (.iload_n 1, 1) := by decide +kernel
theorem dX8_where_19 : decode cX8_where 19 = .ok (.invokevirtual 181, 3) := by decide +kernel
theorem dX8_where_22 : decode cX8_where 22 = .ok (.ifCond .eq 20, 3) := by decide +kernel
theorem dX8_where_25 : decode cX8_where 25 = .ok (.aload_n 0, 1) := by decide +kernel
theorem dX8_where_26 : decode cX8_where 26 = .ok (.iload_n 2, 1) := by decide +kernel
theorem dX8_where_27 : decode cX8_where 27 = .ok (.iconst 0, 1) := by decide +kernel
theorem dX8_where_28 : decode cX8_where 28 = .ok (.aload_n 0, 1) := by decide +kernel
theorem dX8_where_29 : decode cX8_where 29 = .ok (.getfield 141, 3) := by decide +kernel
theorem dX8_where_32 : decode cX8_where 32 = .ok (.invokevirtual 95, 3) := by decide +kernel
theorem dX8_where_35 : decode cX8_where 35 = .ok (.ifCond .eq 7, 3) := by decide +kernel
theorem dX8_where_38 : decode cX8_where 38 = .ok (.iconst 0, 1) := by decide +kernel
theorem dX8_where_39 : decode cX8_where 39 = .ok (.goto 4, 3) := by decide +kernel
theorem dX8_where_42 : decode cX8_where 42 = .ok (.iconst 1, 1) := by decide +kernel
theorem dX8_where_43 : decode cX8_where 43 = .ok (.invokevirtual 171, 3) := by decide +kernel
theorem dX8_where_46 : decode cX8_where 46 = .ok (.ifCond .eq 5, 3) := by decide +kernel
theorem dX8_where_49 : decode cX8_where 49 = .ok (.iconst (-1), 1) := by decide +kernel
theorem dX8_where_50 : decode cX8_where 50 = .ok (.ireturn, 1) := by decide +kernel
theorem dX8_where_51 : decode cX8_where 51 = .ok (.aload_n 0, 1) := by decide +kernel
theorem dX8_where_52 : decode cX8_where 52 = .ok (.iload_n 1, 1) := by decide +kernel
theorem dX8_where_53 : decode cX8_where 53 = .ok (.iload_n 2, 1) := by decide +kernel
theorem dX8_where_54 : decode cX8_where 54 = .ok (.invokevirtual 184, 3) := by decide +kernel
theorem dX8_where_57 : decode cX8_where 57 = .ok (.sipush 1000, 3) := by decide +kernel
theorem dX8_where_60 : decode cX8_where 60 = .ok (.aload_n 0, 1) := by decide +kernel
theorem dX8_where_61 : decode cX8_where 61 = .ok (.getfield 116, 3) := by decide +kernel
theorem dX8_where_64 : decode cX8_where 64 = .ok (.imul, 1) := by decide +kernel
theorem dX8_where_65 : decode cX8_where 65 = .ok (.aload_n 0, 1) := by decide +kernel
theorem dX8_where_66 : decode cX8_where 66 = .ok (.getfield 119, 3) := by decide +kernel
theorem dX8_where_69 : decode cX8_where 69 = .ok (.iadd, 1) := by decide +kernel
theorem dX8_where_70 : decode cX8_where 70 = .ok (.ireturn, 1) := by decide +kernel
theorem dX8_category_0 : decode cX8_category 0 = .ok (.aload_n 0, 1) := by decide +kernel
theorem dX8_category_1 : decode cX8_category 1 = .ok (.aload_n 0, 1) := by decide +kernel
theorem dX8_category_2 : decode cX8_category 2 = .ok (.iload_n 1, 1) := by decide +kernel
theorem dX8_category_3 : decode cX8_category 3 = .ok (.invokevirtual 175, 3) := by decide +kernel
theorem dX8_category_6 : decode cX8_category 6 = .ok (.ifCond .ne 7, 3) := by decide +kernel
theorem dX8_category_9 : decode cX8_category 9 = .ok (.iconst 1, 1) := by decide +kernel
theorem dX8_category_10 : decode cX8_category 10 = .ok (.goto 17, 3) := by decide +kernel
theorem dX8_category_13 : decode cX8_category 13 = .ok (.aload_n 0, 1) := by decide +kernel
theorem dX8_category_14 : decode cX8_category 14 = .ok (.getfield 102, 3) := by decide +kernel
theorem dX8_category_17 : decode cX8_category 17 = .ok (.bipush 6, 2) := by decide +kernel
theorem dX8_category_19 : decode cX8_category 19 = .ok (.if_icmp .ne 7, 3) := by decide +kernel
theorem dX8_category_22 : decode cX8_category 22 = .ok (.iconst 2, 1) := by decide +kernel
theorem dX8_category_23 : decode cX8_category 23 = .ok (.goto 4, 3) := by decide +kernel
theorem dX8_category_26 : decode cX8_category 26 = .ok (.iconst 0, 1) := by decide +kernel
theorem dX8_category_27 : decode cX8_category 27 = .ok (.invokevirtual 171, 3) := by decide +kernel
theorem dX8_category_30 : decode cX8_category 30 = .ok (.ifCond .eq 5, 3) := by decide +kernel
theorem dX8_category_33 : decode cX8_category 33 = .ok (.iconst (-1), 1) := by decide +kernel
theorem dX8_category_34 : decode cX8_category 34 = .ok (.ireturn, 1) := by decide +kernel
theorem dX8_category_35 : decode cX8_category 35 = .ok (.aload_n 0, 1) := by decide +kernel
theorem dX8_category_36 : decode cX8_category 36 = .ok (.getfield 34, 3) := by decide +kernel
theorem dX8_category_39 : decode cX8_category 39 = .ok (.aload_n 0, 1) := by decide +kernel
theorem dX8_category_40 : decode cX8_category 40 = .ok (.getfield 102, 3) := by decide +kernel
theorem dX8_category_43 : decode cX8_category 43 = .ok (.iload_n 1, 1) := by decide +kernel
theorem dX8_category_44 : decode cX8_category 44 = .ok (.iastore, 1) := by decide +kernel
theorem dX8_category_45 : decode cX8_category 45 = .ok (.aload_n 0, 1) := by decide +kernel
theorem dX8_category_46 : decode cX8_category 46 = .ok (.dup, 1) := by decide +kernel
theorem dX8_category_47 : decode cX8_category 47 = .ok (.getfield 102, 3) := by decide +kernel
theorem dX8_category_50 : decode cX8_category 50 = .ok (.iconst 1, 1) := by decide +kernel
theorem dX8_category_51 : decode cX8_category 51 = .ok (.iadd, 1) := by decide +kernel
theorem dX8_category_52 : decode cX8_category 52 = .ok (.putfield 102, 3) := by decide +kernel
theorem dX8_category_55 : decode cX8_category 55 = .ok (.aload_n 0, 1) := by decide +kernel
theorem dX8_category_56 : decode cX8_category 56 = .ok (.getfield 102, 3) := by decide +kernel
theorem dX8_category_59 : decode cX8_category 59 = .ok (.iconst 1, 1) := by decide +kernel
theorem dX8_category_60 : decode cX8_category 60 = .ok (.isub, 1) := by decide +kernel
theorem dX8_category_61 : decode cX8_category 61 = .ok (.ireturn, 1) := by decide +kernel
theorem dX8_law_0 : decode cX8_law 0 = .ok (.iconst (-1), 1) := by decide +kernel
theorem dX8_law_1 : decode cX8_law 1 = .ok (.istore_n 3, 1) := by decide +kernel
theorem dX8_law_2 : decode cX8_law 2 = .ok (.bipush 10, 2) := by decide +kernel
theorem dX8_law_4 : decode cX8_law 4 = .ok (.iload_n 1, 1) := by decide +kernel
theorem dX8_law_5 : decode cX8_law 5 = .ok (.imul, 1) := by decide +kernel
theorem dX8_law_6 : decode cX8_law 6 = .ok (.istore 4, 2) := by decide +kernel
theorem dX8_law_8 : decode cX8_law 8 = .ok (.iload 4, 2) := by decide +kernel
theorem dX8_law_10 : decode cX8_law 10 = .ok (.bipush 10, 2) := by decide +kernel
theorem dX8_law_12 : decode cX8_law 12 = .ok (.iload_n 1, 1) := by decide +kernel
theorem dX8_law_13 : decode cX8_law 13 = .ok (.imul, 1) := by decide +kernel
theorem dX8_law_14 : decode cX8_law 14 = .ok (.aload_n 0, 1) := by decide +kernel
theorem dX8_law_15 : decode cX8_law 15 = .ok (.getfield 37, 3) := by decide +kernel
theorem dX8_law_18 : decode cX8_law 18 = .ok (.iload_n 1, 1) := by decide +kernel
theorem dX8_law_19 : decode cX8_law 19 = .ok (.iaload, 1) := by decide +kernel
theorem dX8_law_20 : decode cX8_law 20 = .ok (.iadd, 1) := by decide +kernel
theorem dX8_law_21 : decode cX8_law 21 = .ok (.if_icmp .ge 47, 3) := by decide +kernel
theorem dX8_law_24 : decode cX8_law 24 = .ok (.aload_n 0, 1) := by decide +kernel
theorem dX8_law_25 : decode cX8_law 25 = .ok (.getfield 40, 3) := by decide +kernel
theorem dX8_law_28 : decode cX8_law 28 = .ok (.iload 4, 2) := by decide +kernel
theorem dX8_law_30 : decode cX8_law 30 = .ok (.iaload, 1) := by decide +kernel
theorem dX8_law_31 : decode cX8_law 31 = .ok (.iload_n 2, 1) := by decide +kernel
theorem dX8_law_32 : decode cX8_law 32 = .ok (.if_icmp .gt 28, 3) := by decide +kernel
theorem dX8_law_35 : decode cX8_law 35 = .ok (.iload_n 3, 1) := by decide +kernel
theorem dX8_law_36 : decode cX8_law 36 = .ok (.ifCond .lt 19, 3) := by decide +kernel
theorem dX8_law_39 : decode cX8_law 39 = .ok (.aload_n 0, 1) := by decide +kernel
theorem dX8_law_40 : decode cX8_law 40 = .ok (.getfield 40, 3) := by decide +kernel
theorem dX8_law_43 : decode cX8_law 43 = .ok (.iload 4, 2) := by decide +kernel
theorem dX8_law_45 : decode cX8_law 45 = .ok (.iaload, 1) := by decide +kernel
theorem dX8_law_46 : decode cX8_law 46 = .ok (.aload_n 0, 1) := by decide +kernel
theorem dX8_law_47 : decode cX8_law 47 = .ok (.getfield 40, 3) := by decide +kernel
theorem dX8_law_50 : decode cX8_law 50 = .ok (.iload_n 3, 1) := by decide +kernel
theorem dX8_law_51 : decode cX8_law 51 = .ok (.iaload, 1) := by decide +kernel
theorem dX8_law_52 : decode cX8_law 52 = .ok (.if_icmp .lt 8, 3) := by decide +kernel
theorem dX8_law_55 : decode cX8_law 55 = .ok (.iload 4, 2) := by decide +kernel
theorem dX8_law_57 : decode cX8_law 57 = .ok (.goto 4, 3) := by decide +kernel
theorem dX8_law_60 : decode cX8_law 60 = .ok (.iload_n 3, 1) := by decide +kernel
theorem dX8_law_61 : decode cX8_law 61 = .ok (.istore_n 3, 1) := by decide +kernel
theorem dX8_law_62 : decode cX8_law 62 = .ok (.iinc 4 1, 3) := by decide +kernel
end
section
theorem dX8_law_65 : decode cX8_law 65 = .ok (.goto (-57), 3) := by decide +kernel
theorem dX8_law_68 : decode cX8_law 68 = .ok (.iload_n 3, 1) := by decide +kernel
theorem dX8_law_69 : decode cX8_law 69 = .ok (.ireturn, 1) := by decide +kernel
theorem dX8_refused_0 : decode cX8_refused 0 = .ok (.aload_n 0, 1) := by decide +kernel
theorem dX8_refused_1 : decode cX8_refused 1 = .ok (.aload_n 0, 1) := by decide +kernel
theorem dX8_refused_2 : decode cX8_refused 2 = .ok (.getfield 58, 3) := by decide +kernel
theorem dX8_refused_5 : decode cX8_refused 5 = .ok (.iload_n 1, 1) := by decide +kernel
theorem dX8_refused_6 : decode cX8_refused 6 = .ok (.iaload, 1) := by decide +kernel
theorem dX8_refused_7 : decode cX8_refused 7 = .ok (.aload_n 0, 1) := by decide +kernel
theorem dX8_refused_8 : decode cX8_refused 8 = .ok (.getfield 61, 3) := by decide +kernel
theorem dX8_refused_11 : decode cX8_refused 11 = .ok (.iload_n 1, 1) := by decide +kernel
theorem dX8_refused_12 : decode cX8_refused 12 = .ok (.iaload, 1) := by decide +kernel
theorem dX8_refused_13 : decode cX8_refused 13 = .ok (.invokevirtual 191, 3) := by decide +kernel
theorem dX8_refused_16 : decode cX8_refused 16 = .ok (.istore_n 2, 1) := by decide +kernel
theorem dX8_refused_17 : decode cX8_refused 17 = .ok (.iload_n 2, 1) := by decide +kernel
theorem dX8_refused_18 : decode cX8_refused 18 = .ok (.ifCond .lt 53, 3) := by decide +kernel
theorem dX8_refused_21 : decode cX8_refused 21 = .ok (.aload_n 0, 1) := by decide +kernel
theorem dX8_refused_22 : decode cX8_refused 22 = .ok (.getfield 76, 3) := by decide +kernel
theorem dX8_refused_25 : decode cX8_refused 25 = .ok (.iload_n 1, 1) := by decide +kernel
theorem dX8_refused_26 : decode cX8_refused 26 = .ok (.iaload, 1) := by decide +kernel
theorem dX8_refused_27 : decode cX8_refused 27 = .ok (.aload_n 0, 1) := by decide +kernel
theorem dX8_refused_28 : decode cX8_refused 28 = .ok (.getfield 43, 3) := by decide +kernel
theorem dX8_refused_31 : decode cX8_refused 31 = .ok (.iload_n 2, 1) := by decide +kernel
theorem dX8_refused_32 : decode cX8_refused 32 = .ok (.iaload, 1) := by decide +kernel
theorem dX8_refused_33 : decode cX8_refused 33 = .ok (.iand, 1) := by decide +kernel
theorem dX8_refused_34 : decode cX8_refused 34 = .ok (.ifCond .gt 33, 3) := by decide +kernel
theorem dX8_refused_37 : decode cX8_refused 37 = .ok (.aload_n 0, 1) := by decide +kernel
theorem dX8_refused_38 : decode cX8_refused 38 = .ok (.getfield 70, 3) := by decide +kernel
theorem dX8_refused_41 : decode cX8_refused 41 = .ok (.iload_n 1, 1) := by decide +kernel
theorem dX8_refused_42 : decode cX8_refused 42 = .ok (.iaload, 1) := by decide +kernel
theorem dX8_refused_43 : decode cX8_refused 43 = .ok (.aload_n 0, 1) := by decide +kernel
theorem dX8_refused_44 : decode cX8_refused 44 = .ok (.getfield 46, 3) := by decide +kernel
theorem dX8_refused_47 : decode cX8_refused 47 = .ok (.iload_n 2, 1) := by decide +kernel
theorem dX8_refused_48 : decode cX8_refused 48 = .ok (.iaload, 1) := by decide +kernel
theorem dX8_refused_49 : decode cX8_refused 49 = .ok (.if_icmp .lt 18, 3) := by decide +kernel
theorem dX8_refused_52 : decode cX8_refused 52 = .ok (.aload_n 0, 1) := by decide +kernel
theorem dX8_refused_53 : decode cX8_refused 53 = .ok (.getfield 73, 3) := by decide +kernel
theorem dX8_refused_56 : decode cX8_refused 56 = .ok (.iload_n 1, 1) := by decide +kernel
theorem dX8_refused_57 : decode cX8_refused 57 = .ok (.iaload, 1) := by decide +kernel
theorem dX8_refused_58 : decode cX8_refused 58 = .ok (.aload_n 0, 1) := by decide +kernel
theorem dX8_refused_59 : decode cX8_refused 59 = .ok (.getfield 49, 3) := by decide +kernel
theorem dX8_refused_62 : decode cX8_refused 62 = .ok (.iload_n 2, 1) := by decide +kernel
theorem dX8_refused_63 : decode cX8_refused 63 = .ok (.iaload, 1) := by decide +kernel
theorem dX8_refused_64 : decode cX8_refused 64 = .ok (.if_icmp .le 7, 3) := by decide +kernel
theorem dX8_refused_67 : decode cX8_refused 67 = .ok (.iconst 1, 1) := by decide +kernel
theorem dX8_refused_68 : decode cX8_refused 68 = .ok (.goto 4, 3) := by decide +kernel
theorem dX8_refused_71 : decode cX8_refused 71 = .ok (.iconst 0, 1) := by decide +kernel
theorem dX8_refused_72 : decode cX8_refused 72 = .ok (.ireturn, 1) := by decide +kernel
theorem dX8_counts_0 : decode cX8_counts 0 = .ok (.aload_n 0, 1) := by decide +kernel
theorem dX8_counts_1 : decode cX8_counts 1 = .ok (.getfield 64, 3) := by decide +kernel
theorem dX8_counts_4 : decode cX8_counts 4 = .ok (.iload_n 1, 1) := by decide +kernel
theorem dX8_counts_5 : decode cX8_counts 5 = .ok (.iaload, 1) := by decide +kernel
theorem dX8_counts_6 : decode cX8_counts 6 = .ok (.ifCond .ne 15, 3) := by decide +kernel
theorem dX8_counts_9 : decode cX8_counts 9 = .ok (.aload_n 0, 1) := by decide +kernel
theorem dX8_counts_10 : decode cX8_counts 10 = .ok (.iload_n 1, 1) := by decide +kernel
theorem dX8_counts_11 : decode cX8_counts 11 = .ok (.invokevirtual 194, 3) := by decide +kernel
theorem dX8_counts_14 : decode cX8_counts 14 = .ok (.ifCond .ne 7, 3) := by decide +kernel
theorem dX8_counts_17 : decode cX8_counts 17 = .ok (.iconst 1, 1) := by decide +kernel
theorem dX8_counts_18 : decode cX8_counts 18 = .ok (.goto 4, 3) := by decide +kernel
theorem dX8_counts_21 : decode cX8_counts 21 = .ok (.iconst 0, 1) := by decide +kernel
theorem dX8_counts_22 : decode cX8_counts 22 = .ok (.ireturn, 1) := by decide +kernel
theorem dX8_rule_0 : decode cX8_rule 0 = .ok (.aload_n 0, 1) := by decide +kernel
theorem dX8_rule_1 : decode cX8_rule 1 = .ok (.iload_n 2, 1) := by decide +kernel
theorem dX8_rule_2 : decode cX8_rule 2 = .ok (.iconst 0, 1) := by decide +kernel
theorem dX8_rule_3 : decode cX8_rule 3 = .ok (.sipush 1000, 3) := by decide +kernel
theorem dX8_rule_6 : decode cX8_rule 6 = .ok (.invokevirtual 95, 3) := by decide +kernel
theorem dX8_rule_9 : decode cX8_rule 9 = .ok (.ifCond .eq 43, 3) := by decide +kernel
theorem dX8_rule_12 : decode cX8_rule 12 = .ok (.aload_n 0, 1) := by decide +kernel
theorem dX8_rule_13 : decode cX8_rule 13 = .ok (.iload_n 3, 1) := by decide +kernel
theorem dX8_rule_14 : decode cX8_rule 14 = .ok (.iconst 0, 1) := by decide +kernel
theorem dX8_rule_15 : decode cX8_rule 15 = .ok (.bipush 7, 2) := by decide +kernel
theorem dX8_rule_17 : decode cX8_rule 17 = .ok (.invokevirtual 95, 3) := by decide +kernel
theorem dX8_rule_20 : decode cX8_rule 20 = .ok (.ifCond .eq 32, 3) := by decide +kernel
theorem dX8_rule_23 : decode cX8_rule 23 = .ok (.aload_n 0, 1) := by decide +kernel
theorem dX8_rule_24 : decode cX8_rule 24 = .ok (.iload 4, 2) := by decide +kernel
theorem dX8_rule_26 : decode cX8_rule 26 = .ok (.iconst 0, 1) := by decide +kernel
theorem dX8_rule_27 : decode cX8_rule 27 = .ok (.bipush 32, 2) := by decide +kernel
theorem dX8_rule_29 : decode cX8_rule 29 = .ok (.invokevirtual 95, 3) := by decide +kernel
theorem dX8_rule_32 : decode cX8_rule 32 = .ok (.ifCond .eq 20, 3) := by decide +kernel
theorem dX8_rule_35 : decode cX8_rule 35 = .ok (.aload_n 0, 1) := by decide +kernel
theorem dX8_rule_36 : decode cX8_rule 36 = .ok (.iload 5, 2) := by decide +kernel
theorem dX8_rule_38 : decode cX8_rule 38 = .ok (.iconst 0, 1) := by decide +kernel
theorem dX8_rule_39 : decode cX8_rule 39 = .ok (.sipush 500, 3) := by decide +kernel
theorem dX8_rule_42 : decode cX8_rule 42 = .ok (.invokevirtual 95, 3) := by decide +kernel
theorem dX8_rule_45 : decode cX8_rule 45 = .ok (.ifCond .eq 7, 3) := by decide +kernel
theorem dX8_rule_48 : decode cX8_rule 48 = .ok (.iconst 1, 1) := by decide +kernel
theorem dX8_rule_49 : decode cX8_rule 49 = .ok (.goto 4, 3) := by decide +kernel
theorem dX8_rule_52 : decode cX8_rule 52 = .ok (.iconst 0, 1) := by decide +kernel
theorem dX8_rule_53 : decode cX8_rule 53 = .ok (.istore 6, 2) := by decide +kernel
theorem dX8_rule_55 : decode cX8_rule 55 = .ok (.aload_n 0, 1) := by decide +kernel
theorem dX8_rule_56 : decode cX8_rule 56 = .ok (.aload_n 0, 1) := by decide +kernel
theorem dX8_rule_57 : decode cX8_rule 57 = .ok (.iload_n 1, 1) := by decide +kernel
theorem dX8_rule_58 : decode cX8_rule 58 = .ok (.invokevirtual 197, 3) := by decide +kernel
theorem dX8_rule_61 : decode cX8_rule 61 = .ok (.ifCond .ne 7, 3) := by decide +kernel
theorem dX8_rule_64 : decode cX8_rule 64 = .ok (.iconst 1, 1) := by decide +kernel
theorem dX8_rule_65 : decode cX8_rule 65 = .ok (.goto 28, 3) := by decide +kernel
theorem dX8_rule_68 : decode cX8_rule 68 = .ok (.iload 6, 2) := by decide +kernel
theorem dX8_rule_70 : decode cX8_rule 70 = .ok (.ifCond .ne 7, 3) := by decide +kernel
theorem dX8_rule_73 : decode cX8_rule 73 = .ok (.iconst 2, 1) := by decide +kernel
theorem dX8_rule_74 : decode cX8_rule 74 = .ok (.goto 19, 3) := by decide +kernel
theorem dX8_rule_77 : decode cX8_rule 77 = .ok (.aload_n 0, 1) := by decide +kernel
theorem dX8_rule_78 : decode cX8_rule 78 = .ok (.getfield 37, 3) := by decide +kernel
theorem dX8_rule_81 : decode cX8_rule 81 = .ok (.iload_n 1, 1) := by decide +kernel
theorem dX8_rule_82 : decode cX8_rule 82 = .ok (.iaload, 1) := by decide +kernel
theorem dX8_rule_83 : decode cX8_rule 83 = .ok (.bipush 10, 2) := by decide +kernel
theorem dX8_rule_85 : decode cX8_rule 85 = .ok (.if_icmp .ne 7, 3) := by decide +kernel
theorem dX8_rule_88 : decode cX8_rule 88 = .ok (.iconst 3, 1) := by decide +kernel
theorem dX8_rule_89 : decode cX8_rule 89 = .ok (.goto 4, 3) := by decide +kernel
theorem dX8_rule_92 : decode cX8_rule 92 = .ok (.iconst 0, 1) := by decide +kernel
theorem dX8_rule_93 : decode cX8_rule 93 = .ok (.invokevirtual 171, 3) := by decide +kernel
theorem dX8_rule_96 : decode cX8_rule 96 = .ok (.ifCond .eq 5, 3) := by decide +kernel
theorem dX8_rule_99 : decode cX8_rule 99 = .ok (.iconst (-1), 1) := by decide +kernel
theorem dX8_rule_100 : decode cX8_rule 100 = .ok (.ireturn, 1) := by decide +kernel
theorem dX8_rule_101 : decode cX8_rule 101 = .ok (.bipush 10, 2) := by decide +kernel
theorem dX8_rule_103 : decode cX8_rule 103 = .ok (.iload_n 1, 1) := by decide +kernel
theorem dX8_rule_104 : decode cX8_rule 104 = .ok (.imul, 1) := by decide +kernel
theorem dX8_rule_105 : decode cX8_rule 105 = .ok (.aload_n 0, 1) := by decide +kernel
theorem dX8_rule_106 : decode cX8_rule 106 = .ok (.getfield 37, 3) := by decide +kernel
theorem dX8_rule_109 : decode cX8_rule 109 = .ok (.iload_n 1, 1) := by decide +kernel
theorem dX8_rule_110 : decode cX8_rule 110 = .ok (.iaload, 1) := by decide +kernel
theorem dX8_rule_111 : decode cX8_rule 111 = .ok (.iadd, 1) := by decide +kernel
theorem dX8_rule_112 : decode cX8_rule 112 = .ok (.istore 7, 2) := by decide +kernel
theorem dX8_rule_114 : decode cX8_rule 114 = .ok (.aload_n 0, 1) := by decide +kernel
theorem dX8_rule_115 : decode cX8_rule 115 = .ok (.getfield 40, 3) := by decide +kernel
theorem dX8_rule_118 : decode cX8_rule 118 = .ok (.iload 7, 2) := by decide +kernel
theorem dX8_rule_120 : decode cX8_rule 120 = .ok (.iload_n 2, 1) := by decide +kernel
theorem dX8_rule_121 : decode cX8_rule 121 = .ok (.iastore, 1) := by decide +kernel
theorem dX8_rule_122 : decode cX8_rule 122 = .ok (.aload_n 0, 1) := by decide +kernel
theorem dX8_rule_123 : decode cX8_rule 123 = .ok (.getfield 43, 3) := by decide +kernel
theorem dX8_rule_126 : decode cX8_rule 126 = .ok (.iload 7, 2) := by decide +kernel
theorem dX8_rule_128 : decode cX8_rule 128 = .ok (.iload_n 3, 1) := by decide +kernel
theorem dX8_rule_129 : decode cX8_rule 129 = .ok (.iastore, 1) := by decide +kernel
theorem dX8_rule_130 : decode cX8_rule 130 = .ok (.aload_n 0, 1) := by decide +kernel
theorem dX8_rule_131 : decode cX8_rule 131 = .ok (.getfield 46, 3) := by decide +kernel
theorem dX8_rule_134 : decode cX8_rule 134 = .ok (.iload 7, 2) := by decide +kernel
theorem dX8_rule_136 : decode cX8_rule 136 = .ok (.iload 4, 2) := by decide +kernel
theorem dX8_rule_138 : decode cX8_rule 138 = .ok (.iastore, 1) := by decide +kernel
theorem dX8_rule_139 : decode cX8_rule 139 = .ok (.aload_n 0, 1) := by decide +kernel
theorem dX8_rule_140 : decode cX8_rule 140 = .ok (.getfield 49, 3) := by decide +kernel
theorem dX8_rule_143 : decode cX8_rule 143 = .ok (.iload 7, 2) := by decide +kernel
theorem dX8_rule_145 : decode cX8_rule 145 = .ok (.iload 5, 2) := by decide +kernel
theorem dX8_rule_147 : decode cX8_rule 147 = .ok (.iastore, 1) := by decide +kernel
theorem dX8_rule_148 : decode cX8_rule 148 = .ok (.aload_n 0, 1) := by decide +kernel
theorem dX8_rule_149 : decode cX8_rule 149 = .ok (.getfield 37, 3) := by decide +kernel
theorem dX8_rule_152 : decode cX8_rule 152 = .ok (.iload_n 1, 1) := by decide +kernel
theorem dX8_rule_153 : decode cX8_rule 153 = .ok (.dup2, 1) := by decide +kernel
theorem dX8_rule_154 : decode cX8_rule 154 = .ok (.iaload, 1) := by decide +kernel
theorem dX8_rule_155 : decode cX8_rule 155 = .ok (.iconst 1, 1) := by decide +kernel
theorem dX8_rule_156 : decode cX8_rule 156 = .ok (.iadd, 1) := by decide +kernel
theorem dX8_rule_157 : decode cX8_rule 157 = .ok (.iastore, 1) := by decide +kernel
theorem dX8_rule_158 : decode cX8_rule 158 = .ok (.iconst 0, 1) := by decide +kernel
theorem dX8_rule_159 : decode cX8_rule 159 = .ok (.istore 8, 2) := by decide +kernel
theorem dX8_rule_161 : decode cX8_rule 161 = .ok (.iconst 0, 1) := by decide +kernel
theorem dX8_rule_162 : decode cX8_rule 162 = .ok (.istore 9, 2) := by decide +kernel
theorem dX8_rule_164 : decode cX8_rule 164 = .ok (.iload 9, 2) := by decide +kernel
theorem dX8_rule_166 : decode cX8_rule 166 = .ok (.aload_n 0, 1) := by decide +kernel
theorem dX8_rule_167 : decode cX8_rule 167 = .ok (.getfield 105, 3) := by decide +kernel
theorem dX8_rule_170 : decode cX8_rule 170 = .ok (.if_icmp .ge 39, 3) := by decide +kernel
theorem dX8_rule_173 : decode cX8_rule 173 = .ok (.iload 8, 2) := by decide +kernel
theorem dX8_rule_175 : decode cX8_rule 175 = .ok (.aload_n 0, 1) := by decide +kernel
theorem dX8_rule_176 : decode cX8_rule 176 = .ok (.getfield 58, 3) := by decide +kernel
theorem dX8_rule_179 : decode cX8_rule 179 = .ok (.iload 9, 2) := by decide +kernel
theorem dX8_rule_181 : decode cX8_rule 181 = .ok (.iaload, 1) := by decide +kernel
theorem dX8_rule_182 : decode cX8_rule 182 = .ok (.iload_n 1, 1) := by decide +kernel
theorem dX8_rule_183 : decode cX8_rule 183 = .ok (.if_icmp .ne 16, 3) := by decide +kernel
theorem dX8_rule_186 : decode cX8_rule 186 = .ok (.aload_n 0, 1) := by decide +kernel
theorem dX8_rule_187 : decode cX8_rule 187 = .ok (.iload 9, 2) := by decide +kernel
theorem dX8_rule_189 : decode cX8_rule 189 = .ok (.invokevirtual 194, 3) := by decide +kernel
theorem dX8_rule_192 : decode cX8_rule 192 = .ok (.ifCond .eq 7, 3) := by decide +kernel
theorem dX8_rule_195 : decode cX8_rule 195 = .ok (.iconst 1, 1) := by decide +kernel
theorem dX8_rule_196 : decode cX8_rule 196 = .ok (.goto 4, 3) := by decide +kernel
theorem dX8_rule_199 : decode cX8_rule 199 = .ok (.iconst 0, 1) := by decide +kernel
theorem dX8_rule_200 : decode cX8_rule 200 = .ok (.iadd, 1) := by decide +kernel
theorem dX8_rule_201 : decode cX8_rule 201 = .ok (.istore 8, 2) := by decide +kernel
theorem dX8_rule_203 : decode cX8_rule 203 = .ok (.iinc 9 1, 3) := by decide +kernel
theorem dX8_rule_206 : decode cX8_rule 206 = .ok (.goto (-42), 3) := by decide +kernel
theorem dX8_rule_209 : decode cX8_rule 209 = .ok (.iload 8, 2) := by decide +kernel
theorem dX8_rule_211 : decode cX8_rule 211 = .ok (.ireturn, 1) := by decide +kernel
theorem dX8_pass_0 : decode cX8_pass 0 = .ok (.aload_n 0, 1) := by decide +kernel
theorem dX8_pass_1 : decode cX8_pass 1 = .ok (.aload_n 0, 1) := by decide +kernel
theorem dX8_pass_2 : decode cX8_pass 2 = .ok (.iload_n 1, 1) := by decide +kernel
theorem dX8_pass_3 : decode cX8_pass 3 = .ok (.iconst 1, 1) := by decide +kernel
theorem dX8_pass_4 : decode cX8_pass 4 = .ok (.bipush 100, 2) := by decide +kernel
theorem dX8_pass_6 : decode cX8_pass 6 = .ok (.invokevirtual 95, 3) := by decide +kernel
theorem dX8_pass_9 : decode cX8_pass 9 = .ok (.ifCond .ne 7, 3) := by decide +kernel
theorem dX8_pass_12 : decode cX8_pass 12 = .ok (.iconst 1, 1) := by decide +kernel
theorem dX8_pass_13 : decode cX8_pass 13 = .ok (.goto 20, 3) := by decide +kernel
theorem dX8_pass_16 : decode cX8_pass 16 = .ok (.aload_n 0, 1) := by decide +kernel
theorem dX8_pass_17 : decode cX8_pass 17 = .ok (.getfield 200, 3) := by decide +kernel
theorem dX8_pass_20 : decode cX8_pass 20 = .ok (.iload_n 1, 1) := by decide +kernel
theorem dX8_pass_21 : decode cX8_pass 21 = .ok (.iadd, 1) := by decide +kernel
theorem dX8_pass_22 : decode cX8_pass 22 = .ok (.sipush 1000, 3) := by decide +kernel
theorem dX8_pass_25 : decode cX8_pass 25 = .ok (.if_icmp .le 7, 3) := by decide +kernel
theorem dX8_pass_28 : decode cX8_pass 28 = .ok (.iconst 2, 1) := by decide +kernel
theorem dX8_pass_29 : decode cX8_pass 29 = .ok (.goto 4, 3) := by decide +kernel
theorem dX8_pass_32 : decode cX8_pass 32 = .ok (.iconst 0, 1) := by decide +kernel
theorem dX8_pass_33 : decode cX8_pass 33 = .ok (.invokevirtual 171, 3) := by decide +kernel
theorem dX8_pass_36 : decode cX8_pass 36 = .ok (.ifCond .eq 5, 3) := by decide +kernel
theorem dX8_pass_39 : decode cX8_pass 39 = .ok (.iconst (-1), 1) := by decide +kernel
theorem dX8_pass_40 : decode cX8_pass 40 = .ok (.ireturn, 1) := by decide +kernel
theorem dX8_pass_41 : decode cX8_pass 41 = .ok (.aload_n 0, 1) := by decide +kernel
theorem dX8_pass_42 : decode cX8_pass 42 = .ok (.dup, 1) := by decide +kernel
theorem dX8_pass_43 : decode cX8_pass 43 = .ok (.getfield 200, 3) := by decide +kernel
theorem dX8_pass_46 : decode cX8_pass 46 = .ok (.iload_n 1, 1) := by decide +kernel
theorem dX8_pass_47 : decode cX8_pass 47 = .ok (.iadd, 1) := by decide +kernel
theorem dX8_pass_48 : decode cX8_pass 48 = .ok (.putfield 200, 3) := by decide +kernel
theorem dX8_pass_51 : decode cX8_pass 51 = .ok (.aload_n 0, 1) := by decide +kernel
theorem dX8_pass_52 : decode cX8_pass 52 = .ok (.getfield 200, 3) := by decide +kernel
theorem dX8_pass_55 : decode cX8_pass 55 = .ok (.ireturn, 1) := by decide +kernel
theorem dX8_submit_0 : decode cX8_submit 0 = .ok (.aload_n 0, 1) := by decide +kernel
theorem dX8_submit_1 : decode cX8_submit 1 = .ok (.iload_n 1, 1) := by decide +kernel
theorem dX8_submit_2 : decode cX8_submit 2 = .ok (.invokevirtual 203, 3) := by decide +kernel
theorem dX8_submit_5 : decode cX8_submit 5 = .ok (.ifCond .eq 23, 3) := by decide +kernel
theorem dX8_submit_8 : decode cX8_submit 8 = .ok (.aload_n 0, 1) := by decide +kernel
theorem dX8_submit_9 : decode cX8_submit 9 = .ok (.iload_n 2, 1) := by decide +kernel
theorem dX8_submit_10 : decode cX8_submit 10 = .ok (.invokevirtual 181, 3) := by decide +kernel
theorem dX8_submit_13 : decode cX8_submit 13 = .ok (.ifCond .eq 15, 3) := by decide +kernel
theorem dX8_submit_16 : decode cX8_submit 16 = .ok (.aload_n 0, 1) := by decide +kernel
theorem dX8_submit_17 : decode cX8_submit 17 = .ok (.iload_n 3, 1) := by decide +kernel
theorem dX8_submit_18 : decode cX8_submit 18 = .ok (.invokevirtual 197, 3) := by decide +kernel
theorem dX8_submit_21 : decode cX8_submit 21 = .ok (.ifCond .eq 7, 3) := by decide +kernel
theorem dX8_submit_24 : decode cX8_submit 24 = .ok (.iconst 1, 1) := by decide +kernel
theorem dX8_submit_25 : decode cX8_submit 25 = .ok (.goto 4, 3) := by decide +kernel
theorem dX8_submit_28 : decode cX8_submit 28 = .ok (.iconst 0, 1) := by decide +kernel
theorem dX8_submit_29 : decode cX8_submit 29 = .ok (.istore 4, 2) := by decide +kernel
theorem dX8_submit_31 : decode cX8_submit 31 = .ok (.iload 4, 2) := by decide +kernel
theorem dX8_submit_33 : decode cX8_submit 33 = .ok (.ifCond .eq 11, 3) := by decide +kernel
theorem dX8_submit_36 : decode cX8_submit 36 = .ok (.aload_n 0, 1) := by decide +kernel
theorem dX8_submit_37 : decode cX8_submit 37 = .ok (.iload_n 2, 1) := by decide +kernel
theorem dX8_submit_38 : decode cX8_submit 38 = .ok (.sipush 500, 3) := by decide +kernel
theorem dX8_submit_41 : decode cX8_submit 41 = .ok (.invokevirtual 184, 3) := by decide +kernel
theorem dX8_submit_44 : decode cX8_submit 44 = .ok (.aload_n 0, 1) := by decide +kernel
theorem dX8_submit_45 : decode cX8_submit 45 = .ok (.iload 4, 2) := by decide +kernel
theorem dX8_submit_47 : decode cX8_submit 47 = .ok (.ifCond .ne 7, 3) := by decide +kernel
theorem dX8_submit_50 : decode cX8_submit 50 = .ok (.iconst 1, 1) := by decide +kernel
theorem dX8_submit_51 : decode cX8_submit 51 = .ok (.goto 44, 3) := by decide +kernel
theorem dX8_submit_54 : decode cX8_submit 54 = .ok (.aload_n 0, 1) := by decide +kernel
theorem dX8_submit_55 : decode cX8_submit 55 = .ok (.getfield 16, 3) := by decide +kernel
theorem dX8_submit_58 : decode cX8_submit 58 = .ok (.iload_n 2, 1) := by decide +kernel
theorem dX8_submit_59 : decode cX8_submit 59 = .ok (.iaload, 1) := by decide +kernel
theorem dX8_submit_60 : decode cX8_submit 60 = .ok (.aload_n 0, 1) := by decide +kernel
theorem dX8_submit_61 : decode cX8_submit 61 = .ok (.getfield 34, 3) := by decide +kernel
theorem dX8_submit_64 : decode cX8_submit 64 = .ok (.iload_n 3, 1) := by decide +kernel
theorem dX8_submit_65 : decode cX8_submit 65 = .ok (.iaload, 1) := by decide +kernel
theorem dX8_submit_66 : decode cX8_submit 66 = .ok (.if_icmp .eq 7, 3) := by decide +kernel
theorem dX8_submit_69 : decode cX8_submit 69 = .ok (.iconst 2, 1) := by decide +kernel
theorem dX8_submit_70 : decode cX8_submit 70 = .ok (.goto 25, 3) := by decide +kernel
theorem dX8_submit_73 : decode cX8_submit 73 = .ok (.aload_n 0, 1) := by decide +kernel
theorem dX8_submit_74 : decode cX8_submit 74 = .ok (.getfield 144, 3) := by decide +kernel
theorem dX8_submit_77 : decode cX8_submit 77 = .ok (.iconst 1, 1) := by decide +kernel
theorem dX8_submit_78 : decode cX8_submit 78 = .ok (.if_icmp .ne 12, 3) := by decide +kernel
theorem dX8_submit_81 : decode cX8_submit 81 = .ok (.aload_n 0, 1) := by decide +kernel
theorem dX8_submit_82 : decode cX8_submit 82 = .ok (.getfield 105, 3) := by decide +kernel
theorem dX8_submit_85 : decode cX8_submit 85 = .ok (.bipush 40, 2) := by decide +kernel
theorem dX8_submit_87 : decode cX8_submit 87 = .ok (.if_icmp .ne 7, 3) := by decide +kernel
theorem dX8_submit_90 : decode cX8_submit 90 = .ok (.iconst 3, 1) := by decide +kernel
theorem dX8_submit_91 : decode cX8_submit 91 = .ok (.goto 4, 3) := by decide +kernel
theorem dX8_submit_94 : decode cX8_submit 94 = .ok (.iconst 0, 1) := by decide +kernel
theorem dX8_submit_95 : decode cX8_submit 95 = .ok (.invokevirtual 171, 3) := by decide +kernel
theorem dX8_submit_98 : decode cX8_submit 98 = .ok (.ifCond .eq 5, 3) := by decide +kernel
theorem dX8_submit_101 : decode cX8_submit 101 = .ok (.iconst (-1), 1) := by decide +kernel
theorem dX8_submit_102 : decode cX8_submit 102 = .ok (.ireturn, 1) := by decide +kernel
theorem dX8_submit_103 : decode cX8_submit 103 = .ok (.aload_n 0, 1) := by decide +kernel
theorem dX8_submit_104 : decode cX8_submit 104 = .ok (.getfield 25, 3) := by decide +kernel
theorem dX8_submit_107 : decode cX8_submit 107 = .ok (.iload_n 2, 1) := by decide +kernel
theorem dX8_submit_108 : decode cX8_submit 108 = .ok (.iconst 1, 1) := by decide +kernel
theorem dX8_submit_109 : decode cX8_submit 109 = .ok (.iastore, 1) := by decide +kernel
theorem dX8_submit_110 : decode cX8_submit 110 = .ok (.aload_n 0, 1) := by decide +kernel
theorem dX8_submit_111 : decode cX8_submit 111 = .ok (.getfield 52, 3) := by decide +kernel
theorem dX8_submit_114 : decode cX8_submit 114 = .ok (.aload_n 0, 1) := by decide +kernel
theorem dX8_submit_115 : decode cX8_submit 115 = .ok (.getfield 105, 3) := by decide +kernel
theorem dX8_submit_118 : decode cX8_submit 118 = .ok (.iload_n 2, 1) := by decide +kernel
theorem dX8_submit_119 : decode cX8_submit 119 = .ok (.iastore, 1) := by decide +kernel
theorem dX8_submit_120 : decode cX8_submit 120 = .ok (.aload_n 0, 1) := by decide +kernel
theorem dX8_submit_121 : decode cX8_submit 121 = .ok (.getfield 55, 3) := by decide +kernel
theorem dX8_submit_124 : decode cX8_submit 124 = .ok (.aload_n 0, 1) := by decide +kernel
theorem dX8_submit_125 : decode cX8_submit 125 = .ok (.getfield 105, 3) := by decide +kernel
theorem dX8_submit_128 : decode cX8_submit 128 = .ok (.iload_n 1, 1) := by decide +kernel
theorem dX8_submit_129 : decode cX8_submit 129 = .ok (.iastore, 1) := by decide +kernel
theorem dX8_submit_130 : decode cX8_submit 130 = .ok (.aload_n 0, 1) := by decide +kernel
theorem dX8_submit_131 : decode cX8_submit 131 = .ok (.getfield 58, 3) := by decide +kernel
theorem dX8_submit_134 : decode cX8_submit 134 = .ok (.aload_n 0, 1) := by decide +kernel
theorem dX8_submit_135 : decode cX8_submit 135 = .ok (.getfield 105, 3) := by decide +kernel
theorem dX8_submit_138 : decode cX8_submit 138 = .ok (.iload_n 3, 1) := by decide +kernel
theorem dX8_submit_139 : decode cX8_submit 139 = .ok (.iastore, 1) := by decide +kernel
theorem dX8_submit_140 : decode cX8_submit 140 = .ok (.aload_n 0, 1) := by decide +kernel
theorem dX8_submit_141 : decode cX8_submit 141 = .ok (.getfield 61, 3) := by decide +kernel
theorem dX8_submit_144 : decode cX8_submit 144 = .ok (.aload_n 0, 1) := by decide +kernel
theorem dX8_submit_145 : decode cX8_submit 145 = .ok (.getfield 105, 3) := by decide +kernel
theorem dX8_submit_148 : decode cX8_submit 148 = .ok (.aload_n 0, 1) := by decide +kernel
theorem dX8_submit_149 : decode cX8_submit 149 = .ok (.getfield 200, 3) := by decide +kernel
theorem dX8_submit_152 : decode cX8_submit 152 = .ok (.iastore, 1) := by decide +kernel
theorem dX8_submit_153 : decode cX8_submit 153 = .ok (.aload_n 0, 1) := by decide +kernel
theorem dX8_submit_154 : decode cX8_submit 154 = .ok (.getfield 67, 3) := by decide +kernel
theorem dX8_submit_157 : decode cX8_submit 157 = .ok (.aload_n 0, 1) := by decide +kernel
theorem dX8_submit_158 : decode cX8_submit 158 = .ok (.getfield 105, 3) := by decide +kernel
theorem dX8_submit_161 : decode cX8_submit 161 = .ok (.aload_n 0, 1) := by decide +kernel
theorem dX8_submit_162 : decode cX8_submit 162 = .ok (.getfield 141, 3) := by decide +kernel
theorem dX8_submit_165 : decode cX8_submit 165 = .ok (.iastore, 1) := by decide +kernel
theorem dX8_submit_166 : decode cX8_submit 166 = .ok (.aload_n 0, 1) := by decide +kernel
theorem dX8_submit_167 : decode cX8_submit 167 = .ok (.getfield 70, 3) := by decide +kernel
theorem dX8_submit_170 : decode cX8_submit 170 = .ok (.aload_n 0, 1) := by decide +kernel
theorem dX8_submit_171 : decode cX8_submit 171 = .ok (.getfield 105, 3) := by decide +kernel
theorem dX8_submit_174 : decode cX8_submit 174 = .ok (.aload_n 0, 1) := by decide +kernel
theorem dX8_submit_175 : decode cX8_submit 175 = .ok (.invokevirtual 187, 3) := by decide +kernel
theorem dX8_submit_178 : decode cX8_submit 178 = .ok (.iastore, 1) := by decide +kernel
theorem dX8_submit_179 : decode cX8_submit 179 = .ok (.aload_n 0, 1) := by decide +kernel
theorem dX8_submit_180 : decode cX8_submit 180 = .ok (.getfield 73, 3) := by decide +kernel
theorem dX8_submit_183 : decode cX8_submit 183 = .ok (.aload_n 0, 1) := by decide +kernel
theorem dX8_submit_184 : decode cX8_submit 184 = .ok (.getfield 105, 3) := by decide +kernel
theorem dX8_submit_187 : decode cX8_submit 187 = .ok (.aload_n 0, 1) := by decide +kernel
theorem dX8_submit_188 : decode cX8_submit 188 = .ok (.getfield 135, 3) := by decide +kernel
theorem dX8_submit_191 : decode cX8_submit 191 = .ok (.iastore, 1) := by decide +kernel
theorem dX8_submit_192 : decode cX8_submit 192 = .ok (.aload_n 0, 1) := by decide +kernel
theorem dX8_submit_193 : decode cX8_submit 193 = .ok (.getfield 76, 3) := by decide +kernel
theorem dX8_submit_196 : decode cX8_submit 196 = .ok (.aload_n 0, 1) := by decide +kernel
theorem dX8_submit_197 : decode cX8_submit 197 = .ok (.getfield 105, 3) := by decide +kernel
theorem dX8_submit_200 : decode cX8_submit 200 = .ok (.aload_n 0, 1) := by decide +kernel
theorem dX8_submit_201 : decode cX8_submit 201 = .ok (.getfield 138, 3) := by decide +kernel
theorem dX8_submit_204 : decode cX8_submit 204 = .ok (.iastore, 1) := by decide +kernel
theorem dX8_submit_205 : decode cX8_submit 205 = .ok (.aload_n 0, 1) := by decide +kernel
theorem dX8_submit_206 : decode cX8_submit 206 = .ok (.dup, 1) := by decide +kernel
theorem dX8_submit_207 : decode cX8_submit 207 = .ok (.getfield 105, 3) := by decide +kernel
theorem dX8_submit_210 : decode cX8_submit 210 = .ok (.iconst 1, 1) := by decide +kernel
theorem dX8_submit_211 : decode cX8_submit 211 = .ok (.iadd, 1) := by decide +kernel
theorem dX8_submit_212 : decode cX8_submit 212 = .ok (.putfield 105, 3) := by decide +kernel
theorem dX8_submit_215 : decode cX8_submit 215 = .ok (.aload_n 0, 1) := by decide +kernel
theorem dX8_submit_216 : decode cX8_submit 216 = .ok (.getfield 105, 3) := by decide +kernel
theorem dX8_submit_219 : decode cX8_submit 219 = .ok (.iconst 1, 1) := by decide +kernel
theorem dX8_submit_220 : decode cX8_submit 220 = .ok (.isub, 1) := by decide +kernel
theorem dX8_submit_221 : decode cX8_submit 221 = .ok (.ireturn, 1) := by decide +kernel
theorem dX8_judged_0 : decode cX8_judged 0 = .ok (.aload_n 0, 1) := by decide +kernel
theorem dX8_judged_1 : decode cX8_judged 1 = .ok (.aload_n 0, 1) := by decide +kernel
theorem dX8_judged_2 : decode cX8_judged 2 = .ok (.iload_n 1, 1) := by decide +kernel
theorem dX8_judged_3 : decode cX8_judged 3 = .ok (.invokevirtual 206, 3) := by decide +kernel
theorem dX8_judged_6 : decode cX8_judged 6 = .ok (.ifCond .eq 7, 3) := by decide +kernel
theorem dX8_judged_9 : decode cX8_judged 9 = .ok (.iconst 0, 1) := by decide +kernel
theorem dX8_judged_10 : decode cX8_judged 10 = .ok (.goto 4, 3) := by decide +kernel
theorem dX8_judged_13 : decode cX8_judged 13 = .ok (.iconst 1, 1) := by decide +kernel
theorem dX8_judged_14 : decode cX8_judged 14 = .ok (.invokevirtual 171, 3) := by decide +kernel
theorem dX8_judged_17 : decode cX8_judged 17 = .ok (.ifCond .eq 7, 3) := by decide +kernel
theorem dX8_judged_20 : decode cX8_judged 20 = .ok (.iconst (-1), 1) := by decide +kernel
theorem dX8_judged_21 : decode cX8_judged 21 = .ok (.goto 25, 3) := by decide +kernel
theorem dX8_judged_24 : decode cX8_judged 24 = .ok (.aload_n 0, 1) := by decide +kernel
theorem dX8_judged_25 : decode cX8_judged 25 = .ok (.iload_n 1, 1) := by decide +kernel
theorem dX8_judged_26 : decode cX8_judged 26 = .ok (.invokevirtual 194, 3) := by decide +kernel
theorem dX8_judged_29 : decode cX8_judged 29 = .ok (.ifCond .eq 7, 3) := by decide +kernel
theorem dX8_judged_32 : decode cX8_judged 32 = .ok (.iconst 1, 1) := by decide +kernel
theorem dX8_judged_33 : decode cX8_judged 33 = .ok (.goto 4, 3) := by decide +kernel
theorem dX8_judged_36 : decode cX8_judged 36 = .ok (.iconst 0, 1) := by decide +kernel
theorem dX8_judged_37 : decode cX8_judged 37 = .ok (.iconst 2, 1) := by decide +kernel
theorem dX8_judged_38 : decode cX8_judged 38 = .ok (.aload_n 0, 1) := by decide +kernel
theorem dX8_judged_39 : decode cX8_judged 39 = .ok (.getfield 64, 3) := by decide +kernel
theorem dX8_judged_42 : decode cX8_judged 42 = .ok (.iload_n 1, 1) := by decide +kernel
theorem dX8_judged_43 : decode cX8_judged 43 = .ok (.iaload, 1) := by decide +kernel
theorem dX8_judged_44 : decode cX8_judged 44 = .ok (.imul, 1) := by decide +kernel
theorem dX8_judged_45 : decode cX8_judged 45 = .ok (.iadd, 1) := by decide +kernel
theorem dX8_judged_46 : decode cX8_judged 46 = .ok (.ireturn, 1) := by decide +kernel
theorem dX8_strike_0 : decode cX8_strike 0 = .ok (.aload_n 0, 1) := by decide +kernel
theorem dX8_strike_1 : decode cX8_strike 1 = .ok (.aload_n 0, 1) := by decide +kernel
theorem dX8_strike_2 : decode cX8_strike 2 = .ok (.iload_n 1, 1) := by decide +kernel
theorem dX8_strike_3 : decode cX8_strike 3 = .ok (.invokevirtual 206, 3) := by decide +kernel
theorem dX8_strike_6 : decode cX8_strike 6 = .ok (.ifCond .eq 7, 3) := by decide +kernel
theorem dX8_strike_9 : decode cX8_strike 9 = .ok (.iconst 0, 1) := by decide +kernel
theorem dX8_strike_10 : decode cX8_strike 10 = .ok (.goto 4, 3) := by decide +kernel
theorem dX8_strike_13 : decode cX8_strike 13 = .ok (.iconst 1, 1) := by decide +kernel
theorem dX8_strike_14 : decode cX8_strike 14 = .ok (.invokevirtual 171, 3) := by decide +kernel
theorem dX8_strike_17 : decode cX8_strike 17 = .ok (.ifCond .eq 5, 3) := by decide +kernel
theorem dX8_strike_20 : decode cX8_strike 20 = .ok (.iconst 0, 1) := by decide +kernel
theorem dX8_strike_21 : decode cX8_strike 21 = .ok (.ireturn, 1) := by decide +kernel
theorem dX8_strike_22 : decode cX8_strike 22 = .ok (.aload_n 0, 1) := by decide +kernel
theorem dX8_strike_23 : decode cX8_strike 23 = .ok (.getfield 64, 3) := by decide +kernel
theorem dX8_strike_26 : decode cX8_strike 26 = .ok (.iload_n 1, 1) := by decide +kernel
theorem dX8_strike_27 : decode cX8_strike 27 = .ok (.iconst 1, 1) := by decide +kernel
theorem dX8_strike_28 : decode cX8_strike 28 = .ok (.aload_n 0, 1) := by decide +kernel
theorem dX8_strike_29 : decode cX8_strike 29 = .ok (.getfield 64, 3) := by decide +kernel
theorem dX8_strike_32 : decode cX8_strike 32 = .ok (.iload_n 1, 1) := by decide +kernel
theorem dX8_strike_33 : decode cX8_strike 33 = .ok (.iaload, 1) := by decide +kernel
theorem dX8_strike_34 : decode cX8_strike 34 = .ok (.isub, 1) := by decide +kernel
theorem dX8_strike_35 : decode cX8_strike 35 = .ok (.iastore, 1) := by decide +kernel
theorem dX8_strike_36 : decode cX8_strike 36 = .ok (.aload_n 0, 1) := by decide +kernel
theorem dX8_strike_37 : decode cX8_strike 37 = .ok (.getfield 64, 3) := by decide +kernel
theorem dX8_strike_40 : decode cX8_strike 40 = .ok (.iload_n 1, 1) := by decide +kernel
theorem dX8_strike_41 : decode cX8_strike 41 = .ok (.iaload, 1) := by decide +kernel
theorem dX8_strike_42 : decode cX8_strike 42 = .ok (.iconst 1, 1) := by decide +kernel
theorem dX8_strike_43 : decode cX8_strike 43 = .ok (.if_icmp .ne 7, 3) := by decide +kernel
theorem dX8_strike_46 : decode cX8_strike 46 = .ok (.iconst 1, 1) := by decide +kernel
theorem dX8_strike_47 : decode cX8_strike 47 = .ok (.goto 4, 3) := by decide +kernel
theorem dX8_strike_50 : decode cX8_strike 50 = .ok (.iconst 0, 1) := by decide +kernel
theorem dX8_strike_51 : decode cX8_strike 51 = .ok (.ireturn, 1) := by decide +kernel
theorem dX8_ahead_0 : decode cX8_ahead 0 = .ok (.aload_n 0, 1) := by decide +kernel
theorem dX8_ahead_1 : decode cX8_ahead 1 = .ok (.getfield 67, 3) := by decide +kernel
theorem dX8_ahead_4 : decode cX8_ahead 4 = .ok (.iload_n 1, 1) := by decide +kernel
theorem dX8_ahead_5 : decode cX8_ahead 5 = .ok (.iaload, 1) := by decide +kernel
theorem dX8_ahead_6 : decode cX8_ahead 6 = .ok (.aload_n 0, 1) := by decide +kernel
theorem dX8_ahead_7 : decode cX8_ahead 7 = .ok (.getfield 67, 3) := by decide +kernel
theorem dX8_ahead_10 : decode cX8_ahead 10 = .ok (.iload_n 2, 1) := by decide +kernel
theorem dX8_ahead_11 : decode cX8_ahead 11 = .ok (.iaload, 1) := by decide +kernel
theorem dX8_ahead_12 : decode cX8_ahead 12 = .ok (.if_icmp .eq 24, 3) := by decide +kernel
theorem dX8_ahead_15 : decode cX8_ahead 15 = .ok (.aload_n 0, 1) := by decide +kernel
theorem dX8_ahead_16 : decode cX8_ahead 16 = .ok (.getfield 67, 3) := by decide +kernel
theorem dX8_ahead_19 : decode cX8_ahead 19 = .ok (.iload_n 1, 1) := by decide +kernel
theorem dX8_ahead_20 : decode cX8_ahead 20 = .ok (.iaload, 1) := by decide +kernel
theorem dX8_ahead_21 : decode cX8_ahead 21 = .ok (.aload_n 0, 1) := by decide +kernel
theorem dX8_ahead_22 : decode cX8_ahead 22 = .ok (.getfield 67, 3) := by decide +kernel
theorem dX8_ahead_25 : decode cX8_ahead 25 = .ok (.iload_n 2, 1) := by decide +kernel
theorem dX8_ahead_26 : decode cX8_ahead 26 = .ok (.iaload, 1) := by decide +kernel
theorem dX8_ahead_27 : decode cX8_ahead 27 = .ok (.if_icmp .ge 7, 3) := by decide +kernel
theorem dX8_ahead_30 : decode cX8_ahead 30 = .ok (.iconst 1, 1) := by decide +kernel
theorem dX8_ahead_31 : decode cX8_ahead 31 = .ok (.goto 4, 3) := by decide +kernel
theorem dX8_ahead_34 : decode cX8_ahead 34 = .ok (.iconst 0, 1) := by decide +kernel
theorem dX8_ahead_35 : decode cX8_ahead 35 = .ok (.ireturn, 1) := by decide +kernel
theorem dX8_ahead_36 : decode cX8_ahead 36 = .ok (.aload_n 0, 1) := by decide +kernel
theorem dX8_ahead_37 : decode cX8_ahead 37 = .ok (.getfield 61, 3) := by decide +kernel
theorem dX8_ahead_40 : decode cX8_ahead 40 = .ok (.iload_n 1, 1) := by decide +kernel
theorem dX8_ahead_41 : decode cX8_ahead 41 = .ok (.iaload, 1) := by decide +kernel
theorem dX8_ahead_42 : decode cX8_ahead 42 = .ok (.aload_n 0, 1) := by decide +kernel
theorem dX8_ahead_43 : decode cX8_ahead 43 = .ok (.getfield 61, 3) := by decide +kernel
theorem dX8_ahead_46 : decode cX8_ahead 46 = .ok (.iload_n 2, 1) := by decide +kernel
theorem dX8_ahead_47 : decode cX8_ahead 47 = .ok (.iaload, 1) := by decide +kernel
theorem dX8_ahead_48 : decode cX8_ahead 48 = .ok (.if_icmp .ne 16, 3) := by decide +kernel
theorem dX8_ahead_51 : decode cX8_ahead 51 = .ok (.iload_n 1, 1) := by decide +kernel
theorem dX8_ahead_52 : decode cX8_ahead 52 = .ok (.iload_n 2, 1) := by decide +kernel
theorem dX8_ahead_53 : decode cX8_ahead 53 = .ok (.if_icmp .ge 7, 3) := by decide +kernel
theorem dX8_ahead_56 : decode cX8_ahead 56 = .ok (.iconst 1, 1) := by decide +kernel
theorem dX8_ahead_57 : decode cX8_ahead 57 = .ok (.goto 27, 3) := by decide +kernel
theorem dX8_ahead_60 : decode cX8_ahead 60 = .ok (.iconst 0, 1) := by decide +kernel
theorem dX8_ahead_61 : decode cX8_ahead 61 = .ok (.goto 23, 3) := by decide +kernel
theorem dX8_ahead_64 : decode cX8_ahead 64 = .ok (.aload_n 0, 1) := by decide +kernel
theorem dX8_ahead_65 : decode cX8_ahead 65 = .ok (.getfield 61, 3) := by decide +kernel
theorem dX8_ahead_68 : decode cX8_ahead 68 = .ok (.iload_n 1, 1) := by decide +kernel
theorem dX8_ahead_69 : decode cX8_ahead 69 = .ok (.iaload, 1) := by decide +kernel
theorem dX8_ahead_70 : decode cX8_ahead 70 = .ok (.aload_n 0, 1) := by decide +kernel
theorem dX8_ahead_71 : decode cX8_ahead 71 = .ok (.getfield 61, 3) := by decide +kernel
theorem dX8_ahead_74 : decode cX8_ahead 74 = .ok (.iload_n 2, 1) := by decide +kernel
theorem dX8_ahead_75 : decode cX8_ahead 75 = .ok (.iaload, 1) := by decide +kernel
theorem dX8_ahead_76 : decode cX8_ahead 76 = .ok (.if_icmp .ge 7, 3) := by decide +kernel
theorem dX8_ahead_79 : decode cX8_ahead 79 = .ok (.iconst 1, 1) := by decide +kernel
theorem dX8_ahead_80 : decode cX8_ahead 80 = .ok (.goto 4, 3) := by decide +kernel
theorem dX8_ahead_83 : decode cX8_ahead 83 = .ok (.iconst 0, 1) := by decide +kernel
theorem dX8_ahead_84 : decode cX8_ahead 84 = .ok (.ireturn, 1) := by decide +kernel
theorem dX8_top_0 : decode cX8_top 0 = .ok (.iconst (-1), 1) := by decide +kernel
theorem dX8_top_1 : decode cX8_top 1 = .ok (.istore 4, 2) := by decide +kernel
theorem dX8_top_3 : decode cX8_top 3 = .ok (.iconst 0, 1) := by decide +kernel
theorem dX8_top_4 : decode cX8_top 4 = .ok (.istore 5, 2) := by decide +kernel
theorem dX8_top_6 : decode cX8_top 6 = .ok (.iload 5, 2) := by decide +kernel
theorem dX8_top_8 : decode cX8_top 8 = .ok (.aload_n 0, 1) := by decide +kernel
theorem dX8_top_9 : decode cX8_top 9 = .ok (.getfield 105, 3) := by decide +kernel
theorem dX8_top_12 : decode cX8_top 12 = .ok (.if_icmp .ge 83, 3) := by decide +kernel
theorem dX8_top_15 : decode cX8_top 15 = .ok (.iload 5, 2) := by decide +kernel
theorem dX8_top_17 : decode cX8_top 17 = .ok (.iload_n 3, 1) := by decide +kernel
theorem dX8_top_18 : decode cX8_top 18 = .ok (.if_icmp .eq 38, 3) := by decide +kernel
theorem dX8_top_21 : decode cX8_top 21 = .ok (.aload_n 0, 1) := by decide +kernel
theorem dX8_top_22 : decode cX8_top 22 = .ok (.getfield 58, 3) := by decide +kernel
theorem dX8_top_25 : decode cX8_top 25 = .ok (.iload 5, 2) := by decide +kernel
theorem dX8_top_27 : decode cX8_top 27 = .ok (.iaload, 1) := by decide +kernel
theorem dX8_top_28 : decode cX8_top 28 = .ok (.iload_n 1, 1) := by decide +kernel
theorem dX8_top_29 : decode cX8_top 29 = .ok (.if_icmp .ne 27, 3) := by decide +kernel
theorem dX8_top_32 : decode cX8_top 32 = .ok (.aload_n 0, 1) := by decide +kernel
theorem dX8_top_33 : decode cX8_top 33 = .ok (.getfield 55, 3) := by decide +kernel
theorem dX8_top_36 : decode cX8_top 36 = .ok (.iload 5, 2) := by decide +kernel
theorem dX8_top_38 : decode cX8_top 38 = .ok (.iaload, 1) := by decide +kernel
theorem dX8_top_39 : decode cX8_top 39 = .ok (.iload_n 2, 1) := by decide +kernel
theorem dX8_top_40 : decode cX8_top 40 = .ok (.if_icmp .ne 16, 3) := by decide +kernel
theorem dX8_top_43 : decode cX8_top 43 = .ok (.aload_n 0, 1) := by decide +kernel
theorem dX8_top_44 : decode cX8_top 44 = .ok (.iload 5, 2) := by decide +kernel
theorem dX8_top_46 : decode cX8_top 46 = .ok (.invokevirtual 209, 3) := by decide +kernel
theorem dX8_top_49 : decode cX8_top 49 = .ok (.ifCond .eq 7, 3) := by decide +kernel
theorem dX8_top_52 : decode cX8_top 52 = .ok (.iconst 1, 1) := by decide +kernel
theorem dX8_top_53 : decode cX8_top 53 = .ok (.goto 4, 3) := by decide +kernel
theorem dX8_top_56 : decode cX8_top 56 = .ok (.iconst 0, 1) := by decide +kernel
theorem dX8_top_57 : decode cX8_top 57 = .ok (.istore 6, 2) := by decide +kernel
theorem dX8_top_59 : decode cX8_top 59 = .ok (.iload 6, 2) := by decide +kernel
theorem dX8_top_61 : decode cX8_top 61 = .ok (.ifCond .eq 24, 3) := by decide +kernel
theorem dX8_top_64 : decode cX8_top 64 = .ok (.iload 4, 2) := by decide +kernel
theorem dX8_top_66 : decode cX8_top 66 = .ok (.ifCond .lt 14, 3) := by decide +kernel
theorem dX8_top_69 : decode cX8_top 69 = .ok (.aload_n 0, 1) := by decide +kernel
theorem dX8_top_70 : decode cX8_top 70 = .ok (.iload 5, 2) := by decide +kernel
theorem dX8_top_72 : decode cX8_top 72 = .ok (.iload 4, 2) := by decide +kernel
theorem dX8_top_74 : decode cX8_top 74 = .ok (.invokevirtual 212, 3) := by decide +kernel
theorem dX8_top_77 : decode cX8_top 77 = .ok (.ifCond .eq 8, 3) := by decide +kernel
theorem dX8_top_80 : decode cX8_top 80 = .ok (.iload 5, 2) := by decide +kernel
theorem dX8_top_82 : decode cX8_top 82 = .ok (.goto 5, 3) := by decide +kernel
theorem dX8_top_85 : decode cX8_top 85 = .ok (.iload 4, 2) := by decide +kernel
theorem dX8_top_87 : decode cX8_top 87 = .ok (.istore 4, 2) := by decide +kernel
theorem dX8_top_89 : decode cX8_top 89 = .ok (.iinc 5 1, 3) := by decide +kernel
theorem dX8_top_92 : decode cX8_top 92 = .ok (.goto (-86), 3) := by decide +kernel
theorem dX8_top_95 : decode cX8_top 95 = .ok (.iload 4, 2) := by decide +kernel
theorem dX8_top_97 : decode cX8_top 97 = .ok (.ireturn, 1) := by decide +kernel
theorem dX8_isPair_0 : decode cX8_isPair 0 = .ok (.aload_n 0, 1) := by decide +kernel
theorem dX8_isPair_1 : decode cX8_isPair 1 = .ok (.iload_n 1, 1) := by decide +kernel
theorem dX8_isPair_2 : decode cX8_isPair 2 = .ok (.invokevirtual 197, 3) := by decide +kernel
theorem dX8_isPair_5 : decode cX8_isPair 5 = .ok (.ifCond .eq 15, 3) := by decide +kernel
theorem dX8_isPair_8 : decode cX8_isPair 8 = .ok (.aload_n 0, 1) := by decide +kernel
theorem dX8_isPair_9 : decode cX8_isPair 9 = .ok (.iload_n 2, 1) := by decide +kernel
theorem dX8_isPair_10 : decode cX8_isPair 10 = .ok (.invokevirtual 203, 3) := by decide +kernel
theorem dX8_isPair_13 : decode cX8_isPair 13 = .ok (.ifCond .eq 7, 3) := by decide +kernel
theorem dX8_isPair_16 : decode cX8_isPair 16 = .ok (.iconst 1, 1) := by decide +kernel
theorem dX8_isPair_17 : decode cX8_isPair 17 = .ok (.goto 4, 3) := by decide +kernel
theorem dX8_isPair_20 : decode cX8_isPair 20 = .ok (.iconst 0, 1) := by decide +kernel
theorem dX8_isPair_21 : decode cX8_isPair 21 = .ok (.ireturn, 1) := by decide +kernel
theorem dX8_best_0 : decode cX8_best 0 = .ok (.aload_n 0, 1) := by decide +kernel
theorem dX8_best_1 : decode cX8_best 1 = .ok (.aload_n 0, 1) := by decide +kernel
theorem dX8_best_2 : decode cX8_best 2 = .ok (.iload_n 1, 1) := by decide +kernel
theorem dX8_best_3 : decode cX8_best 3 = .ok (.iload_n 2, 1) := by decide +kernel
theorem dX8_best_4 : decode cX8_best 4 = .ok (.invokevirtual 215, 3) := by decide +kernel
theorem dX8_best_7 : decode cX8_best 7 = .ok (.ifCond .eq 7, 3) := by decide +kernel
theorem dX8_best_10 : decode cX8_best 10 = .ok (.iconst 0, 1) := by decide +kernel
theorem dX8_best_11 : decode cX8_best 11 = .ok (.goto 4, 3) := by decide +kernel
theorem dX8_best_14 : decode cX8_best 14 = .ok (.iconst 1, 1) := by decide +kernel
theorem dX8_best_15 : decode cX8_best 15 = .ok (.invokevirtual 171, 3) := by decide +kernel
theorem dX8_best_18 : decode cX8_best 18 = .ok (.ifCond .eq 7, 3) := by decide +kernel
theorem dX8_best_21 : decode cX8_best 21 = .ok (.iconst (-1), 1) := by decide +kernel
theorem dX8_best_22 : decode cX8_best 22 = .ok (.goto 10, 3) := by decide +kernel
theorem dX8_best_25 : decode cX8_best 25 = .ok (.aload_n 0, 1) := by decide +kernel
theorem dX8_best_26 : decode cX8_best 26 = .ok (.iload_n 1, 1) := by decide +kernel
theorem dX8_best_27 : decode cX8_best 27 = .ok (.iload_n 2, 1) := by decide +kernel
theorem dX8_best_28 : decode cX8_best 28 = .ok (.iconst (-1), 1) := by decide +kernel
theorem dX8_best_29 : decode cX8_best 29 = .ok (.invokevirtual 218, 3) := by decide +kernel
theorem dX8_best_32 : decode cX8_best 32 = .ok (.ireturn, 1) := by decide +kernel
theorem dX8_bestAnew_0 : decode cX8_bestAnew 0 = .ok (.aload_n 0, 1) := by decide +kernel
theorem dX8_bestAnew_1 : decode cX8_bestAnew 1 = .ok (.aload_n 0, 1) := by decide +kernel
theorem dX8_bestAnew_2 : decode cX8_bestAnew 2 = .ok (.iload_n 1, 1) := by decide +kernel
theorem dX8_bestAnew_3 : decode cX8_bestAnew 3 = .ok (.iload_n 2, 1) := by decide +kernel
theorem dX8_bestAnew_4 : decode cX8_bestAnew 4 = .ok (.invokevirtual 215, 3) := by decide +kernel
theorem dX8_bestAnew_7 : decode cX8_bestAnew 7 = .ok (.ifCond .eq 7, 3) := by decide +kernel
theorem dX8_bestAnew_10 : decode cX8_bestAnew 10 = .ok (.iconst 0, 1) := by decide +kernel
theorem dX8_bestAnew_11 : decode cX8_bestAnew 11 = .ok (.goto 4, 3) := by decide +kernel
theorem dX8_bestAnew_14 : decode cX8_bestAnew 14 = .ok (.iconst 1, 1) := by decide +kernel
theorem dX8_bestAnew_15 : decode cX8_bestAnew 15 = .ok (.invokevirtual 171, 3) := by decide +kernel
theorem dX8_bestAnew_18 : decode cX8_bestAnew 18 = .ok (.ifCond .eq 5, 3) := by decide +kernel
theorem dX8_bestAnew_21 : decode cX8_bestAnew 21 = .ok (.iconst (-1), 1) := by decide +kernel
theorem dX8_bestAnew_22 : decode cX8_bestAnew 22 = .ok (.ireturn, 1) := by decide +kernel
theorem dX8_bestAnew_23 : decode cX8_bestAnew 23 = .ok (.iconst (-1), 1) := by decide +kernel
theorem dX8_bestAnew_24 : decode cX8_bestAnew 24 = .ok (.istore_n 3, 1) := by decide +kernel
theorem dX8_bestAnew_25 : decode cX8_bestAnew 25 = .ok (.iconst 0, 1) := by decide +kernel
theorem dX8_bestAnew_26 : decode cX8_bestAnew 26 = .ok (.istore 4, 2) := by decide +kernel
theorem dX8_bestAnew_28 : decode cX8_bestAnew 28 = .ok (.iconst 0, 1) := by decide +kernel
theorem dX8_bestAnew_29 : decode cX8_bestAnew 29 = .ok (.istore 5, 2) := by decide +kernel
theorem dX8_bestAnew_31 : decode cX8_bestAnew 31 = .ok (.iload 5, 2) := by decide +kernel
theorem dX8_bestAnew_33 : decode cX8_bestAnew 33 = .ok (.aload_n 0, 1) := by decide +kernel
theorem dX8_bestAnew_34 : decode cX8_bestAnew 34 = .ok (.getfield 105, 3) := by decide +kernel
theorem dX8_bestAnew_37 : decode cX8_bestAnew 37 = .ok (.if_icmp .ge 91, 3) := by decide +kernel
theorem dX8_bestAnew_40 : decode cX8_bestAnew 40 = .ok (.aload_n 0, 1) := by decide +kernel
theorem dX8_bestAnew_41 : decode cX8_bestAnew 41 = .ok (.getfield 58, 3) := by decide +kernel
theorem dX8_bestAnew_44 : decode cX8_bestAnew 44 = .ok (.iload 5, 2) := by decide +kernel
theorem dX8_bestAnew_46 : decode cX8_bestAnew 46 = .ok (.iaload, 1) := by decide +kernel
theorem dX8_bestAnew_47 : decode cX8_bestAnew 47 = .ok (.iload_n 1, 1) := by decide +kernel
theorem dX8_bestAnew_48 : decode cX8_bestAnew 48 = .ok (.if_icmp .ne 74, 3) := by decide +kernel
theorem dX8_bestAnew_51 : decode cX8_bestAnew 51 = .ok (.aload_n 0, 1) := by decide +kernel
theorem dX8_bestAnew_52 : decode cX8_bestAnew 52 = .ok (.getfield 55, 3) := by decide +kernel
theorem dX8_bestAnew_55 : decode cX8_bestAnew 55 = .ok (.iload 5, 2) := by decide +kernel
theorem dX8_bestAnew_57 : decode cX8_bestAnew 57 = .ok (.iaload, 1) := by decide +kernel
theorem dX8_bestAnew_58 : decode cX8_bestAnew 58 = .ok (.iload_n 2, 1) := by decide +kernel
theorem dX8_bestAnew_59 : decode cX8_bestAnew 59 = .ok (.if_icmp .ne 63, 3) := by decide +kernel
theorem dX8_bestAnew_62 : decode cX8_bestAnew 62 = .ok (.aload_n 0, 1) := by decide +kernel
theorem dX8_bestAnew_63 : decode cX8_bestAnew 63 = .ok (.iload 5, 2) := by decide +kernel
theorem dX8_bestAnew_65 : decode cX8_bestAnew 65 = .ok (.invokevirtual 209, 3) := by decide +kernel
theorem dX8_bestAnew_68 : decode cX8_bestAnew 68 = .ok (.ifCond .eq 54, 3) := by decide +kernel
theorem dX8_bestAnew_71 : decode cX8_bestAnew 71 = .ok (.aload_n 0, 1) := by decide +kernel
theorem dX8_bestAnew_72 : decode cX8_bestAnew 72 = .ok (.aload_n 0, 1) := by decide +kernel
theorem dX8_bestAnew_73 : decode cX8_bestAnew 73 = .ok (.getfield 52, 3) := by decide +kernel
theorem dX8_bestAnew_76 : decode cX8_bestAnew 76 = .ok (.iload 5, 2) := by decide +kernel
theorem dX8_bestAnew_78 : decode cX8_bestAnew 78 = .ok (.iaload, 1) := by decide +kernel
theorem dX8_bestAnew_79 : decode cX8_bestAnew 79 = .ok (.sipush 500, 3) := by decide +kernel
theorem dX8_bestAnew_82 : decode cX8_bestAnew 82 = .ok (.invokevirtual 184, 3) := by decide +kernel
theorem dX8_bestAnew_85 : decode cX8_bestAnew 85 = .ok (.iload_n 3, 1) := by decide +kernel
theorem dX8_bestAnew_86 : decode cX8_bestAnew 86 = .ok (.ifCond .lt 12, 3) := by decide +kernel
theorem dX8_bestAnew_89 : decode cX8_bestAnew 89 = .ok (.aload_n 0, 1) := by decide +kernel
theorem dX8_bestAnew_90 : decode cX8_bestAnew 90 = .ok (.getfield 141, 3) := by decide +kernel
theorem dX8_bestAnew_93 : decode cX8_bestAnew 93 = .ok (.iload 4, 2) := by decide +kernel
theorem dX8_bestAnew_95 : decode cX8_bestAnew 95 = .ok (.if_icmp .ge 8, 3) := by decide +kernel
theorem dX8_bestAnew_98 : decode cX8_bestAnew 98 = .ok (.iload 5, 2) := by decide +kernel
theorem dX8_bestAnew_100 : decode cX8_bestAnew 100 = .ok (.goto 4, 3) := by decide +kernel
theorem dX8_bestAnew_103 : decode cX8_bestAnew 103 = .ok (.iload_n 3, 1) := by decide +kernel
theorem dX8_bestAnew_104 : decode cX8_bestAnew 104 = .ok (.istore_n 3, 1) := by decide +kernel
theorem dX8_bestAnew_105 : decode cX8_bestAnew 105 = .ok (.iload_n 3, 1) := by decide +kernel
theorem dX8_bestAnew_106 : decode cX8_bestAnew 106 = .ok (.iload 5, 2) := by decide +kernel
theorem dX8_bestAnew_108 : decode cX8_bestAnew 108 = .ok (.if_icmp .ne 10, 3) := by decide +kernel
theorem dX8_bestAnew_111 : decode cX8_bestAnew 111 = .ok (.aload_n 0, 1) := by decide +kernel
theorem dX8_bestAnew_112 : decode cX8_bestAnew 112 = .ok (.getfield 141, 3) := by decide +kernel
theorem dX8_bestAnew_115 : decode cX8_bestAnew 115 = .ok (.goto 5, 3) := by decide +kernel
theorem dX8_bestAnew_118 : decode cX8_bestAnew 118 = .ok (.iload 4, 2) := by decide +kernel
theorem dX8_bestAnew_120 : decode cX8_bestAnew 120 = .ok (.istore 4, 2) := by decide +kernel
theorem dX8_bestAnew_122 : decode cX8_bestAnew 122 = .ok (.iinc 5 1, 3) := by decide +kernel
theorem dX8_bestAnew_125 : decode cX8_bestAnew 125 = .ok (.goto (-94), 3) := by decide +kernel
theorem dX8_bestAnew_128 : decode cX8_bestAnew 128 = .ok (.iload_n 3, 1) := by decide +kernel
theorem dX8_bestAnew_129 : decode cX8_bestAnew 129 = .ok (.ireturn, 1) := by decide +kernel
theorem dX8_spot_0 : decode cX8_spot 0 = .ok (.aload_n 0, 1) := by decide +kernel
theorem dX8_spot_1 : decode cX8_spot 1 = .ok (.iload_n 1, 1) := by decide +kernel
theorem dX8_spot_2 : decode cX8_spot 2 = .ok (.iload_n 2, 1) := by decide +kernel
theorem dX8_spot_3 : decode cX8_spot 3 = .ok (.iload_n 3, 1) := by decide +kernel
theorem dX8_spot_4 : decode cX8_spot 4 = .ok (.invokevirtual 218, 3) := by decide +kernel
theorem dX8_spot_7 : decode cX8_spot 7 = .ok (.istore 4, 2) := by decide +kernel
theorem dX8_spot_9 : decode cX8_spot 9 = .ok (.iconst 1, 1) := by decide +kernel
theorem dX8_spot_10 : decode cX8_spot 10 = .ok (.istore 5, 2) := by decide +kernel
theorem dX8_spot_12 : decode cX8_spot 12 = .ok (.iconst 0, 1) := by decide +kernel
theorem dX8_spot_13 : decode cX8_spot 13 = .ok (.istore 6, 2) := by decide +kernel
theorem dX8_spot_15 : decode cX8_spot 15 = .ok (.iload 6, 2) := by decide +kernel
theorem dX8_spot_17 : decode cX8_spot 17 = .ok (.bipush 8, 2) := by decide +kernel
theorem dX8_spot_19 : decode cX8_spot 19 = .ok (.if_icmp .ge 56, 3) := by decide +kernel
theorem dX8_spot_22 : decode cX8_spot 22 = .ok (.aload_n 0, 1) := by decide +kernel
theorem dX8_spot_23 : decode cX8_spot 23 = .ok (.iload_n 1, 1) := by decide +kernel
theorem dX8_spot_24 : decode cX8_spot 24 = .ok (.iload 6, 2) := by decide +kernel
theorem dX8_spot_26 : decode cX8_spot 26 = .ok (.iload_n 3, 1) := by decide +kernel
theorem dX8_spot_27 : decode cX8_spot 27 = .ok (.invokevirtual 218, 3) := by decide +kernel
theorem dX8_spot_30 : decode cX8_spot 30 = .ok (.istore 7, 2) := by decide +kernel
theorem dX8_spot_32 : decode cX8_spot 32 = .ok (.iload 5, 2) := by decide +kernel
theorem dX8_spot_34 : decode cX8_spot 34 = .ok (.iload 4, 2) := by decide +kernel
theorem dX8_spot_36 : decode cX8_spot 36 = .ok (.ifCond .lt 29, 3) := by decide +kernel
theorem dX8_spot_39 : decode cX8_spot 39 = .ok (.iload 7, 2) := by decide +kernel
theorem dX8_spot_41 : decode cX8_spot 41 = .ok (.ifCond .lt 24, 3) := by decide +kernel
theorem dX8_spot_44 : decode cX8_spot 44 = .ok (.aload_n 0, 1) := by decide +kernel
theorem dX8_spot_45 : decode cX8_spot 45 = .ok (.getfield 67, 3) := by decide +kernel
theorem dX8_spot_48 : decode cX8_spot 48 = .ok (.iload 7, 2) := by decide +kernel
theorem dX8_spot_50 : decode cX8_spot 50 = .ok (.iaload, 1) := by decide +kernel
theorem dX8_spot_51 : decode cX8_spot 51 = .ok (.aload_n 0, 1) := by decide +kernel
theorem dX8_spot_52 : decode cX8_spot 52 = .ok (.getfield 67, 3) := by decide +kernel
theorem dX8_spot_55 : decode cX8_spot 55 = .ok (.iload 4, 2) := by decide +kernel
theorem dX8_spot_57 : decode cX8_spot 57 = .ok (.iaload, 1) := by decide +kernel
theorem dX8_spot_58 : decode cX8_spot 58 = .ok (.if_icmp .ge 7, 3) := by decide +kernel
theorem dX8_spot_61 : decode cX8_spot 61 = .ok (.iconst 1, 1) := by decide +kernel
theorem dX8_spot_62 : decode cX8_spot 62 = .ok (.goto 4, 3) := by decide +kernel
theorem dX8_spot_65 : decode cX8_spot 65 = .ok (.iconst 0, 1) := by decide +kernel
theorem dX8_spot_66 : decode cX8_spot 66 = .ok (.iadd, 1) := by decide +kernel
theorem dX8_spot_67 : decode cX8_spot 67 = .ok (.istore 5, 2) := by decide +kernel
theorem dX8_spot_69 : decode cX8_spot 69 = .ok (.iinc 6 1, 3) := by decide +kernel
theorem dX8_spot_72 : decode cX8_spot 72 = .ok (.goto (-57), 3) := by decide +kernel
theorem dX8_spot_75 : decode cX8_spot 75 = .ok (.iload 4, 2) := by decide +kernel
theorem dX8_spot_77 : decode cX8_spot 77 = .ok (.ifCond .ge 7, 3) := by decide +kernel
theorem dX8_spot_80 : decode cX8_spot 80 = .ok (.iconst (-1), 1) := by decide +kernel
theorem dX8_spot_81 : decode cX8_spot 81 = .ok (.goto 5, 3) := by decide +kernel
theorem dX8_spot_84 : decode cX8_spot 84 = .ok (.iload 5, 2) := by decide +kernel
theorem dX8_spot_86 : decode cX8_spot 86 = .ok (.ireturn, 1) := by decide +kernel
theorem dX8_place_0 : decode cX8_place 0 = .ok (.aload_n 0, 1) := by decide +kernel
theorem dX8_place_1 : decode cX8_place 1 = .ok (.aload_n 0, 1) := by decide +kernel
theorem dX8_place_2 : decode cX8_place 2 = .ok (.iload_n 1, 1) := by decide +kernel
theorem dX8_place_3 : decode cX8_place 3 = .ok (.iload_n 2, 1) := by decide +kernel
theorem dX8_place_4 : decode cX8_place 4 = .ok (.invokevirtual 215, 3) := by decide +kernel
theorem dX8_place_7 : decode cX8_place 7 = .ok (.ifCond .eq 7, 3) := by decide +kernel
theorem dX8_place_10 : decode cX8_place 10 = .ok (.iconst 0, 1) := by decide +kernel
theorem dX8_place_11 : decode cX8_place 11 = .ok (.goto 4, 3) := by decide +kernel
theorem dX8_place_14 : decode cX8_place 14 = .ok (.iconst 1, 1) := by decide +kernel
theorem dX8_place_15 : decode cX8_place 15 = .ok (.invokevirtual 171, 3) := by decide +kernel
theorem dX8_place_18 : decode cX8_place 18 = .ok (.ifCond .eq 7, 3) := by decide +kernel
theorem dX8_place_21 : decode cX8_place 21 = .ok (.iconst (-1), 1) := by decide +kernel
theorem dX8_place_22 : decode cX8_place 22 = .ok (.goto 10, 3) := by decide +kernel
theorem dX8_place_25 : decode cX8_place 25 = .ok (.aload_n 0, 1) := by decide +kernel
theorem dX8_place_26 : decode cX8_place 26 = .ok (.iload_n 1, 1) := by decide +kernel
theorem dX8_place_27 : decode cX8_place 27 = .ok (.iload_n 2, 1) := by decide +kernel
theorem dX8_place_28 : decode cX8_place 28 = .ok (.iconst (-1), 1) := by decide +kernel
theorem dX8_place_29 : decode cX8_place 29 = .ok (.invokevirtual 222, 3) := by decide +kernel
theorem dX8_place_32 : decode cX8_place 32 = .ok (.ireturn, 1) := by decide +kernel
theorem dX8_at_0 : decode cX8_at 0 = .ok (.iconst (-1), 1) := by decide +kernel
theorem dX8_at_1 : decode cX8_at 1 = .ok (.istore_n 3, 1) := by decide +kernel
theorem dX8_at_2 : decode cX8_at 2 = .ok (.iconst 0, 1) := by decide +kernel
theorem dX8_at_3 : decode cX8_at 3 = .ok (.istore 4, 2) := by decide +kernel
theorem dX8_at_5 : decode cX8_at 5 = .ok (.iload 4, 2) := by decide +kernel
theorem dX8_at_7 : decode cX8_at 7 = .ok (.bipush 8, 2) := by decide +kernel
theorem dX8_at_9 : decode cX8_at 9 = .ok (.if_icmp .ge 105, 3) := by decide +kernel
theorem dX8_at_12 : decode cX8_at 12 = .ok (.aload_n 0, 1) := by decide +kernel
theorem dX8_at_13 : decode cX8_at 13 = .ok (.iload_n 1, 1) := by decide +kernel
theorem dX8_at_14 : decode cX8_at 14 = .ok (.invokevirtual 197, 3) := by decide +kernel
theorem dX8_at_17 : decode cX8_at 17 = .ok (.ifCond .eq 97, 3) := by decide +kernel
theorem dX8_at_20 : decode cX8_at 20 = .ok (.aload_n 0, 1) := by decide +kernel
theorem dX8_at_21 : decode cX8_at 21 = .ok (.iload_n 1, 1) := by decide +kernel
theorem dX8_at_22 : decode cX8_at 22 = .ok (.iload 4, 2) := by decide +kernel
theorem dX8_at_24 : decode cX8_at 24 = .ok (.iconst (-1), 1) := by decide +kernel
theorem dX8_at_25 : decode cX8_at 25 = .ok (.invokevirtual 218, 3) := by decide +kernel
theorem dX8_at_28 : decode cX8_at 28 = .ok (.istore 5, 2) := by decide +kernel
theorem dX8_at_30 : decode cX8_at 30 = .ok (.iconst 0, 1) := by decide +kernel
theorem dX8_at_31 : decode cX8_at 31 = .ok (.istore 6, 2) := by decide +kernel
theorem dX8_at_33 : decode cX8_at 33 = .ok (.iconst 0, 1) := by decide +kernel
theorem dX8_at_34 : decode cX8_at 34 = .ok (.istore 7, 2) := by decide +kernel
theorem dX8_at_36 : decode cX8_at 36 = .ok (.iload 7, 2) := by decide +kernel
theorem dX8_at_38 : decode cX8_at 38 = .ok (.bipush 8, 2) := by decide +kernel
theorem dX8_at_40 : decode cX8_at 40 = .ok (.if_icmp .ge 50, 3) := by decide +kernel
theorem dX8_at_43 : decode cX8_at 43 = .ok (.iload 5, 2) := by decide +kernel
theorem dX8_at_45 : decode cX8_at 45 = .ok (.ifCond .lt 45, 3) := by decide +kernel
theorem dX8_at_48 : decode cX8_at 48 = .ok (.aload_n 0, 1) := by decide +kernel
theorem dX8_at_49 : decode cX8_at 49 = .ok (.iload_n 1, 1) := by decide +kernel
theorem dX8_at_50 : decode cX8_at 50 = .ok (.iload 7, 2) := by decide +kernel
theorem dX8_at_52 : decode cX8_at 52 = .ok (.iconst (-1), 1) := by decide +kernel
theorem dX8_at_53 : decode cX8_at 53 = .ok (.invokevirtual 218, 3) := by decide +kernel
theorem dX8_at_56 : decode cX8_at 56 = .ok (.istore 8, 2) := by decide +kernel
theorem dX8_at_58 : decode cX8_at 58 = .ok (.iload 6, 2) := by decide +kernel
theorem dX8_at_60 : decode cX8_at 60 = .ok (.iload 8, 2) := by decide +kernel
theorem dX8_at_62 : decode cX8_at 62 = .ok (.ifCond .lt 18, 3) := by decide +kernel
theorem dX8_at_65 : decode cX8_at 65 = .ok (.aload_n 0, 1) := by decide +kernel
theorem dX8_at_66 : decode cX8_at 66 = .ok (.iload 8, 2) := by decide +kernel
theorem dX8_at_68 : decode cX8_at 68 = .ok (.iload 5, 2) := by decide +kernel
theorem dX8_at_70 : decode cX8_at 70 = .ok (.invokevirtual 212, 3) := by decide +kernel
theorem dX8_at_73 : decode cX8_at 73 = .ok (.ifCond .eq 7, 3) := by decide +kernel
theorem dX8_at_76 : decode cX8_at 76 = .ok (.iconst 1, 1) := by decide +kernel
theorem dX8_at_77 : decode cX8_at 77 = .ok (.goto 4, 3) := by decide +kernel
theorem dX8_at_80 : decode cX8_at 80 = .ok (.iconst 0, 1) := by decide +kernel
theorem dX8_at_81 : decode cX8_at 81 = .ok (.iadd, 1) := by decide +kernel
theorem dX8_at_82 : decode cX8_at 82 = .ok (.istore 6, 2) := by decide +kernel
theorem dX8_at_84 : decode cX8_at 84 = .ok (.iinc 7 1, 3) := by decide +kernel
theorem dX8_at_87 : decode cX8_at 87 = .ok (.goto (-51), 3) := by decide +kernel
theorem dX8_at_90 : decode cX8_at 90 = .ok (.iload 5, 2) := by decide +kernel
theorem dX8_at_92 : decode cX8_at 92 = .ok (.ifCond .lt 14, 3) := by decide +kernel
theorem dX8_at_95 : decode cX8_at 95 = .ok (.iload 6, 2) := by decide +kernel
theorem dX8_at_97 : decode cX8_at 97 = .ok (.iload_n 2, 1) := by decide +kernel
theorem dX8_at_98 : decode cX8_at 98 = .ok (.if_icmp .ne 8, 3) := by decide +kernel
theorem dX8_at_101 : decode cX8_at 101 = .ok (.iload 5, 2) := by decide +kernel
theorem dX8_at_103 : decode cX8_at 103 = .ok (.goto 4, 3) := by decide +kernel
theorem dX8_at_106 : decode cX8_at 106 = .ok (.iload_n 3, 1) := by decide +kernel
theorem dX8_at_107 : decode cX8_at 107 = .ok (.istore_n 3, 1) := by decide +kernel
theorem dX8_at_108 : decode cX8_at 108 = .ok (.iinc 4 1, 3) := by decide +kernel
theorem dX8_at_111 : decode cX8_at 111 = .ok (.goto (-106), 3) := by decide +kernel
theorem dX8_at_114 : decode cX8_at 114 = .ok (.aload_n 0, 1) := by decide +kernel
theorem dX8_at_115 : decode cX8_at 115 = .ok (.iload_n 3, 1) := by decide +kernel
theorem dX8_at_116 : decode cX8_at 116 = .ok (.ifCond .ge 7, 3) := by decide +kernel
theorem dX8_at_119 : decode cX8_at 119 = .ok (.iconst 1, 1) := by decide +kernel
theorem dX8_at_120 : decode cX8_at 120 = .ok (.goto 4, 3) := by decide +kernel
theorem dX8_at_123 : decode cX8_at 123 = .ok (.iconst 0, 1) := by decide +kernel
theorem dX8_at_124 : decode cX8_at 124 = .ok (.invokevirtual 171, 3) := by decide +kernel
theorem dX8_at_127 : decode cX8_at 127 = .ok (.ifCond .eq 7, 3) := by decide +kernel
theorem dX8_at_130 : decode cX8_at 130 = .ok (.iconst (-1), 1) := by decide +kernel
theorem dX8_at_131 : decode cX8_at 131 = .ok (.goto 4, 3) := by decide +kernel
theorem dX8_at_134 : decode cX8_at 134 = .ok (.iload_n 3, 1) := by decide +kernel
theorem dX8_at_135 : decode cX8_at 135 = .ok (.ireturn, 1) := by decide +kernel
theorem dX8_placeWithout_0 : decode cX8_placeWithout 0 = .ok (.aload_n 0, 1) := by decide +kernel
theorem dX8_placeWithout_1 : decode cX8_placeWithout 1 = .ok (.aload_n 0, 1) := by decide +kernel
theorem dX8_placeWithout_2 : decode cX8_placeWithout 2 = .ok (.iload_n 1, 1) := by decide +kernel
theorem dX8_placeWithout_3 : decode cX8_placeWithout 3 = .ok (.invokevirtual 206, 3) := by decide +kernel
theorem dX8_placeWithout_6 : decode cX8_placeWithout 6 = .ok (.ifCond .eq 7, 3) := by decide +kernel
theorem dX8_placeWithout_9 : decode cX8_placeWithout 9 = .ok (.iconst 0, 1) := by decide +kernel
theorem dX8_placeWithout_10 : decode cX8_placeWithout 10 = .ok (.goto 4, 3) := by decide +kernel
theorem dX8_placeWithout_13 : decode cX8_placeWithout 13 = .ok (.iconst 1, 1) := by decide +kernel
theorem dX8_placeWithout_14 : decode cX8_placeWithout 14 = .ok (.invokevirtual 171, 3) := by decide +kernel
theorem dX8_placeWithout_17 : decode cX8_placeWithout 17 = .ok (.ifCond .eq 7, 3) := by decide +kernel
theorem dX8_placeWithout_20 : decode cX8_placeWithout 20 = .ok (.iconst (-1), 1) := by decide +kernel
theorem dX8_placeWithout_21 : decode cX8_placeWithout 21 = .ok (.goto 20, 3) := by decide +kernel
theorem dX8_placeWithout_24 : decode cX8_placeWithout 24 = .ok (.aload_n 0, 1) := by decide +kernel
theorem dX8_placeWithout_25 : decode cX8_placeWithout 25 = .ok (.aload_n 0, 1) := by decide +kernel
theorem dX8_placeWithout_26 : decode cX8_placeWithout 26 = .ok (.getfield 58, 3) := by decide +kernel
theorem dX8_placeWithout_29 : decode cX8_placeWithout 29 = .ok (.iload_n 1, 1) := by decide +kernel
theorem dX8_placeWithout_30 : decode cX8_placeWithout 30 = .ok (.iaload, 1) := by decide +kernel
theorem dX8_placeWithout_31 : decode cX8_placeWithout 31 = .ok (.aload_n 0, 1) := by decide +kernel
theorem dX8_placeWithout_32 : decode cX8_placeWithout 32 = .ok (.getfield 55, 3) := by decide +kernel
theorem dX8_placeWithout_35 : decode cX8_placeWithout 35 = .ok (.iload_n 1, 1) := by decide +kernel
theorem dX8_placeWithout_36 : decode cX8_placeWithout 36 = .ok (.iaload, 1) := by decide +kernel
theorem dX8_placeWithout_37 : decode cX8_placeWithout 37 = .ok (.iload_n 1, 1) := by decide +kernel
theorem dX8_placeWithout_38 : decode cX8_placeWithout 38 = .ok (.invokevirtual 222, 3) := by decide +kernel
theorem dX8_placeWithout_41 : decode cX8_placeWithout 41 = .ok (.ireturn, 1) := by decide +kernel
theorem dX8_guess_0 : decode cX8_guess 0 = .ok (.iconst 0, 1) := by decide +kernel
theorem dX8_guess_1 : decode cX8_guess 1 = .ok (.istore_n 3, 1) := by decide +kernel
theorem dX8_guess_2 : decode cX8_guess 2 = .ok (.iconst 0, 1) := by decide +kernel
theorem dX8_guess_3 : decode cX8_guess 3 = .ok (.istore 4, 2) := by decide +kernel
theorem dX8_guess_5 : decode cX8_guess 5 = .ok (.aload_n 0, 1) := by decide +kernel
theorem dX8_guess_6 : decode cX8_guess 6 = .ok (.getfield 105, 3) := by decide +kernel
theorem dX8_guess_9 : decode cX8_guess 9 = .ok (.iconst 1, 1) := by decide +kernel
theorem dX8_guess_10 : decode cX8_guess 10 = .ok (.isub, 1) := by decide +kernel
theorem dX8_guess_11 : decode cX8_guess 11 = .ok (.istore 5, 2) := by decide +kernel
theorem dX8_guess_13 : decode cX8_guess 13 = .ok (.iload 5, 2) := by decide +kernel
theorem dX8_guess_15 : decode cX8_guess 15 = .ok (.ifCond .lt 59, 3) := by decide +kernel
theorem dX8_guess_18 : decode cX8_guess 18 = .ok (.iload 4, 2) := by decide +kernel
theorem dX8_guess_20 : decode cX8_guess 20 = .ok (.iconst 3, 1) := by decide +kernel
theorem dX8_guess_21 : decode cX8_guess 21 = .ok (.if_icmp .ge 53, 3) := by decide +kernel
theorem dX8_guess_24 : decode cX8_guess 24 = .ok (.aload_n 0, 1) := by decide +kernel
theorem dX8_guess_25 : decode cX8_guess 25 = .ok (.getfield 58, 3) := by decide +kernel
theorem dX8_guess_28 : decode cX8_guess 28 = .ok (.iload 5, 2) := by decide +kernel
theorem dX8_guess_30 : decode cX8_guess 30 = .ok (.iaload, 1) := by decide +kernel
theorem dX8_guess_31 : decode cX8_guess 31 = .ok (.iload_n 1, 1) := by decide +kernel
theorem dX8_guess_32 : decode cX8_guess 32 = .ok (.if_icmp .ne 36, 3) := by decide +kernel
theorem dX8_guess_35 : decode cX8_guess 35 = .ok (.aload_n 0, 1) := by decide +kernel
theorem dX8_guess_36 : decode cX8_guess 36 = .ok (.getfield 55, 3) := by decide +kernel
theorem dX8_guess_39 : decode cX8_guess 39 = .ok (.iload 5, 2) := by decide +kernel
theorem dX8_guess_41 : decode cX8_guess 41 = .ok (.iaload, 1) := by decide +kernel
theorem dX8_guess_42 : decode cX8_guess 42 = .ok (.iload_n 2, 1) := by decide +kernel
theorem dX8_guess_43 : decode cX8_guess 43 = .ok (.if_icmp .ne 25, 3) := by decide +kernel
theorem dX8_guess_46 : decode cX8_guess 46 = .ok (.aload_n 0, 1) := by decide +kernel
theorem dX8_guess_47 : decode cX8_guess 47 = .ok (.iload 5, 2) := by decide +kernel
theorem dX8_guess_49 : decode cX8_guess 49 = .ok (.invokevirtual 209, 3) := by decide +kernel
theorem dX8_guess_52 : decode cX8_guess 52 = .ok (.ifCond .eq 16, 3) := by decide +kernel
theorem dX8_guess_55 : decode cX8_guess 55 = .ok (.iload_n 3, 1) := by decide +kernel
theorem dX8_guess_56 : decode cX8_guess 56 = .ok (.aload_n 0, 1) := by decide +kernel
theorem dX8_guess_57 : decode cX8_guess 57 = .ok (.getfield 67, 3) := by decide +kernel
theorem dX8_guess_60 : decode cX8_guess 60 = .ok (.iload 5, 2) := by decide +kernel
theorem dX8_guess_62 : decode cX8_guess 62 = .ok (.iaload, 1) := by decide +kernel
theorem dX8_guess_63 : decode cX8_guess 63 = .ok (.iadd, 1) := by decide +kernel
theorem dX8_guess_64 : decode cX8_guess 64 = .ok (.istore_n 3, 1) := by decide +kernel
theorem dX8_guess_65 : decode cX8_guess 65 = .ok (.iinc 4 1, 3) := by decide +kernel
theorem dX8_guess_68 : decode cX8_guess 68 = .ok (.iinc 5 (-1), 3) := by decide +kernel
theorem dX8_guess_71 : decode cX8_guess 71 = .ok (.goto (-58), 3) := by decide +kernel
theorem dX8_guess_74 : decode cX8_guess 74 = .ok (.iload 4, 2) := by decide +kernel
theorem dX8_guess_76 : decode cX8_guess 76 = .ok (.ifCond .ne 7, 3) := by decide +kernel
theorem dX8_guess_79 : decode cX8_guess 79 = .ok (.iconst (-1), 1) := by decide +kernel
theorem dX8_guess_80 : decode cX8_guess 80 = .ok (.goto 21, 3) := by decide +kernel
theorem dX8_guess_83 : decode cX8_guess 83 = .ok (.bipush 11, 2) := by decide +kernel
theorem dX8_guess_85 : decode cX8_guess 85 = .ok (.iload_n 3, 1) := by decide +kernel
theorem dX8_guess_86 : decode cX8_guess 86 = .ok (.imul, 1) := by decide +kernel
theorem dX8_guess_87 : decode cX8_guess 87 = .ok (.bipush 10, 2) := by decide +kernel
theorem dX8_guess_89 : decode cX8_guess 89 = .ok (.iload 4, 2) := by decide +kernel
theorem dX8_guess_91 : decode cX8_guess 91 = .ok (.imul, 1) := by decide +kernel
theorem dX8_guess_92 : decode cX8_guess 92 = .ok (.iadd, 1) := by decide +kernel
theorem dX8_guess_93 : decode cX8_guess 93 = .ok (.iconst 1, 1) := by decide +kernel
theorem dX8_guess_94 : decode cX8_guess 94 = .ok (.isub, 1) := by decide +kernel
theorem dX8_guess_95 : decode cX8_guess 95 = .ok (.bipush 10, 2) := by decide +kernel
theorem dX8_guess_97 : decode cX8_guess 97 = .ok (.iload 4, 2) := by decide +kernel
theorem dX8_guess_99 : decode cX8_guess 99 = .ok (.imul, 1) := by decide +kernel
theorem dX8_guess_100 : decode cX8_guess 100 = .ok (.idiv, 1) := by decide +kernel
theorem dX8_guess_101 : decode cX8_guess 101 = .ok (.ireturn, 1) := by decide +kernel
theorem dX8_estimate_0 : decode cX8_estimate 0 = .ok (.aload_n 0, 1) := by decide +kernel
theorem dX8_estimate_1 : decode cX8_estimate 1 = .ok (.aload_n 0, 1) := by decide +kernel
theorem dX8_estimate_2 : decode cX8_estimate 2 = .ok (.iload_n 1, 1) := by decide +kernel
theorem dX8_estimate_3 : decode cX8_estimate 3 = .ok (.iload_n 2, 1) := by decide +kernel
theorem dX8_estimate_4 : decode cX8_estimate 4 = .ok (.invokevirtual 215, 3) := by decide +kernel
theorem dX8_estimate_7 : decode cX8_estimate 7 = .ok (.ifCond .eq 7, 3) := by decide +kernel
theorem dX8_estimate_10 : decode cX8_estimate 10 = .ok (.iconst 0, 1) := by decide +kernel
theorem dX8_estimate_11 : decode cX8_estimate 11 = .ok (.goto 4, 3) := by decide +kernel
theorem dX8_estimate_14 : decode cX8_estimate 14 = .ok (.iconst 1, 1) := by decide +kernel
theorem dX8_estimate_15 : decode cX8_estimate 15 = .ok (.invokevirtual 171, 3) := by decide +kernel
theorem dX8_estimate_18 : decode cX8_estimate 18 = .ok (.ifCond .eq 7, 3) := by decide +kernel
theorem dX8_estimate_21 : decode cX8_estimate 21 = .ok (.iconst (-1), 1) := by decide +kernel
theorem dX8_estimate_22 : decode cX8_estimate 22 = .ok (.goto 9, 3) := by decide +kernel
theorem dX8_estimate_25 : decode cX8_estimate 25 = .ok (.aload_n 0, 1) := by decide +kernel
theorem dX8_estimate_26 : decode cX8_estimate 26 = .ok (.iload_n 1, 1) := by decide +kernel
theorem dX8_estimate_27 : decode cX8_estimate 27 = .ok (.iload_n 2, 1) := by decide +kernel
theorem dX8_estimate_28 : decode cX8_estimate 28 = .ok (.invokevirtual 225, 3) := by decide +kernel
theorem dX8_estimate_31 : decode cX8_estimate 31 = .ok (.ireturn, 1) := by decide +kernel
theorem dX8_isOpen_0 : decode cX8_isOpen 0 = .ok (.aload_n 0, 1) := by decide +kernel
theorem dX8_isOpen_1 : decode cX8_isOpen 1 = .ok (.aload_n 0, 1) := by decide +kernel
theorem dX8_isOpen_2 : decode cX8_isOpen 2 = .ok (.getfield 79, 3) := by decide +kernel
theorem dX8_isOpen_5 : decode cX8_isOpen 5 = .ok (.iload_n 1, 1) := by decide +kernel
theorem dX8_isOpen_6 : decode cX8_isOpen 6 = .ok (.iaload, 1) := by decide +kernel
theorem dX8_isOpen_7 : decode cX8_isOpen 7 = .ok (.aload_n 0, 1) := by decide +kernel
theorem dX8_isOpen_8 : decode cX8_isOpen 8 = .ok (.getfield 82, 3) := by decide +kernel
theorem dX8_isOpen_11 : decode cX8_isOpen 11 = .ok (.iload_n 1, 1) := by decide +kernel
theorem dX8_isOpen_12 : decode cX8_isOpen 12 = .ok (.iaload, 1) := by decide +kernel
theorem dX8_isOpen_13 : decode cX8_isOpen 13 = .ok (.iconst (-1), 1) := by decide +kernel
theorem dX8_isOpen_14 : decode cX8_isOpen 14 = .ok (.invokevirtual 218, 3) := by decide +kernel
theorem dX8_isOpen_17 : decode cX8_isOpen 17 = .ok (.ifCond .lt 7, 3) := by decide +kernel
theorem dX8_isOpen_20 : decode cX8_isOpen 20 = .ok (.iconst 1, 1) := by decide +kernel
theorem dX8_isOpen_21 : decode cX8_isOpen 21 = .ok (.goto 4, 3) := by decide +kernel
theorem dX8_isOpen_24 : decode cX8_isOpen 24 = .ok (.iconst 0, 1) := by decide +kernel
theorem dX8_isOpen_25 : decode cX8_isOpen 25 = .ok (.ireturn, 1) := by decide +kernel
theorem dX8_offer_0 : decode cX8_offer 0 = .ok (.iconst 0, 1) := by decide +kernel
theorem dX8_offer_1 : decode cX8_offer 1 = .ok (.istore_n 3, 1) := by decide +kernel
theorem dX8_offer_2 : decode cX8_offer 2 = .ok (.iconst 0, 1) := by decide +kernel
theorem dX8_offer_3 : decode cX8_offer 3 = .ok (.istore 4, 2) := by decide +kernel
theorem dX8_offer_5 : decode cX8_offer 5 = .ok (.iload 4, 2) := by decide +kernel
theorem dX8_offer_7 : decode cX8_offer 7 = .ok (.aload_n 0, 1) := by decide +kernel
theorem dX8_offer_8 : decode cX8_offer 8 = .ok (.getfield 228, 3) := by decide +kernel
theorem dX8_offer_11 : decode cX8_offer 11 = .ok (.if_icmp .ge 39, 3) := by decide +kernel
theorem dX8_offer_14 : decode cX8_offer 14 = .ok (.iload_n 3, 1) := by decide +kernel
theorem dX8_offer_15 : decode cX8_offer 15 = .ok (.aload_n 0, 1) := by decide +kernel
theorem dX8_offer_16 : decode cX8_offer 16 = .ok (.getfield 79, 3) := by decide +kernel
theorem dX8_offer_19 : decode cX8_offer 19 = .ok (.iload 4, 2) := by decide +kernel
theorem dX8_offer_21 : decode cX8_offer 21 = .ok (.iaload, 1) := by decide +kernel
theorem dX8_offer_22 : decode cX8_offer 22 = .ok (.iload_n 1, 1) := by decide +kernel
theorem dX8_offer_23 : decode cX8_offer 23 = .ok (.if_icmp .ne 18, 3) := by decide +kernel
theorem dX8_offer_26 : decode cX8_offer 26 = .ok (.aload_n 0, 1) := by decide +kernel
theorem dX8_offer_27 : decode cX8_offer 27 = .ok (.getfield 82, 3) := by decide +kernel
theorem dX8_offer_30 : decode cX8_offer 30 = .ok (.iload 4, 2) := by decide +kernel
theorem dX8_offer_32 : decode cX8_offer 32 = .ok (.iaload, 1) := by decide +kernel
theorem dX8_offer_33 : decode cX8_offer 33 = .ok (.iload_n 2, 1) := by decide +kernel
theorem dX8_offer_34 : decode cX8_offer 34 = .ok (.if_icmp .ne 7, 3) := by decide +kernel
theorem dX8_offer_37 : decode cX8_offer 37 = .ok (.iconst 1, 1) := by decide +kernel
theorem dX8_offer_38 : decode cX8_offer 38 = .ok (.goto 4, 3) := by decide +kernel
theorem dX8_offer_41 : decode cX8_offer 41 = .ok (.iconst 0, 1) := by decide +kernel
theorem dX8_offer_42 : decode cX8_offer 42 = .ok (.ior, 1) := by decide +kernel
theorem dX8_offer_43 : decode cX8_offer 43 = .ok (.istore_n 3, 1) := by decide +kernel
theorem dX8_offer_44 : decode cX8_offer 44 = .ok (.iinc 4 1, 3) := by decide +kernel
theorem dX8_offer_47 : decode cX8_offer 47 = .ok (.goto (-42), 3) := by decide +kernel
theorem dX8_offer_50 : decode cX8_offer 50 = .ok (.aload_n 0, 1) := by decide +kernel
theorem dX8_offer_51 : decode cX8_offer 51 = .ok (.iload_n 1, 1) := by decide +kernel
theorem dX8_offer_52 : decode cX8_offer 52 = .ok (.iload_n 2, 1) := by decide +kernel
theorem dX8_offer_53 : decode cX8_offer 53 = .ok (.invokevirtual 215, 3) := by decide +kernel
theorem dX8_offer_56 : decode cX8_offer 56 = .ok (.ifCond .eq 30, 3) := by decide +kernel
theorem dX8_offer_59 : decode cX8_offer 59 = .ok (.iload_n 3, 1) := by decide +kernel
theorem dX8_offer_60 : decode cX8_offer 60 = .ok (.ifCond .ne 22, 3) := by decide +kernel
theorem dX8_offer_63 : decode cX8_offer 63 = .ok (.aload_n 0, 1) := by decide +kernel
theorem dX8_offer_64 : decode cX8_offer 64 = .ok (.getfield 228, 3) := by decide +kernel
theorem dX8_offer_67 : decode cX8_offer 67 = .ok (.bipush 10, 2) := by decide +kernel
theorem dX8_offer_69 : decode cX8_offer 69 = .ok (.if_icmp .eq 13, 3) := by decide +kernel
theorem dX8_offer_72 : decode cX8_offer 72 = .ok (.aload_n 0, 1) := by decide +kernel
theorem dX8_offer_73 : decode cX8_offer 73 = .ok (.iload_n 1, 1) := by decide +kernel
theorem dX8_offer_74 : decode cX8_offer 74 = .ok (.iload_n 2, 1) := by decide +kernel
theorem dX8_offer_75 : decode cX8_offer 75 = .ok (.iconst (-1), 1) := by decide +kernel
theorem dX8_offer_76 : decode cX8_offer 76 = .ok (.invokevirtual 218, 3) := by decide +kernel
theorem dX8_offer_79 : decode cX8_offer 79 = .ok (.ifCond .ge 7, 3) := by decide +kernel
theorem dX8_offer_82 : decode cX8_offer 82 = .ok (.iconst 1, 1) := by decide +kernel
theorem dX8_offer_83 : decode cX8_offer 83 = .ok (.goto 4, 3) := by decide +kernel
theorem dX8_offer_86 : decode cX8_offer 86 = .ok (.iconst 0, 1) := by decide +kernel
theorem dX8_offer_87 : decode cX8_offer 87 = .ok (.istore 4, 2) := by decide +kernel
theorem dX8_offer_89 : decode cX8_offer 89 = .ok (.aload_n 0, 1) := by decide +kernel
theorem dX8_offer_90 : decode cX8_offer 90 = .ok (.aload_n 0, 1) := by decide +kernel
theorem dX8_offer_91 : decode cX8_offer 91 = .ok (.iload_n 1, 1) := by decide +kernel
theorem dX8_offer_92 : decode cX8_offer 92 = .ok (.iload_n 2, 1) := by decide +kernel
theorem dX8_offer_93 : decode cX8_offer 93 = .ok (.invokevirtual 215, 3) := by decide +kernel
theorem dX8_offer_96 : decode cX8_offer 96 = .ok (.ifCond .ne 7, 3) := by decide +kernel
theorem dX8_offer_99 : decode cX8_offer 99 = .ok (.iconst 1, 1) := by decide +kernel
theorem dX8_offer_100 : decode cX8_offer 100 = .ok (.goto 13, 3) := by decide +kernel
theorem dX8_offer_103 : decode cX8_offer 103 = .ok (.iload 4, 2) := by decide +kernel
theorem dX8_offer_105 : decode cX8_offer 105 = .ok (.ifCond .eq 7, 3) := by decide +kernel
theorem dX8_offer_108 : decode cX8_offer 108 = .ok (.iconst 2, 1) := by decide +kernel
theorem dX8_offer_109 : decode cX8_offer 109 = .ok (.goto 4, 3) := by decide +kernel
theorem dX8_offer_112 : decode cX8_offer 112 = .ok (.iconst 0, 1) := by decide +kernel
theorem dX8_offer_113 : decode cX8_offer 113 = .ok (.invokevirtual 171, 3) := by decide +kernel
theorem dX8_offer_116 : decode cX8_offer 116 = .ok (.ifCond .eq 5, 3) := by decide +kernel
theorem dX8_offer_119 : decode cX8_offer 119 = .ok (.iconst (-1), 1) := by decide +kernel
theorem dX8_offer_120 : decode cX8_offer 120 = .ok (.ireturn, 1) := by decide +kernel
theorem dX8_offer_121 : decode cX8_offer 121 = .ok (.aload_n 0, 1) := by decide +kernel
theorem dX8_offer_122 : decode cX8_offer 122 = .ok (.getfield 79, 3) := by decide +kernel
theorem dX8_offer_125 : decode cX8_offer 125 = .ok (.aload_n 0, 1) := by decide +kernel
theorem dX8_offer_126 : decode cX8_offer 126 = .ok (.getfield 228, 3) := by decide +kernel
theorem dX8_offer_129 : decode cX8_offer 129 = .ok (.iload_n 1, 1) := by decide +kernel
theorem dX8_offer_130 : decode cX8_offer 130 = .ok (.iastore, 1) := by decide +kernel
theorem dX8_offer_131 : decode cX8_offer 131 = .ok (.aload_n 0, 1) := by decide +kernel
theorem dX8_offer_132 : decode cX8_offer 132 = .ok (.getfield 82, 3) := by decide +kernel
theorem dX8_offer_135 : decode cX8_offer 135 = .ok (.aload_n 0, 1) := by decide +kernel
theorem dX8_offer_136 : decode cX8_offer 136 = .ok (.getfield 228, 3) := by decide +kernel
theorem dX8_offer_139 : decode cX8_offer 139 = .ok (.iload_n 2, 1) := by decide +kernel
theorem dX8_offer_140 : decode cX8_offer 140 = .ok (.iastore, 1) := by decide +kernel
theorem dX8_offer_141 : decode cX8_offer 141 = .ok (.aload_n 0, 1) := by decide +kernel
theorem dX8_offer_142 : decode cX8_offer 142 = .ok (.dup, 1) := by decide +kernel
theorem dX8_offer_143 : decode cX8_offer 143 = .ok (.getfield 228, 3) := by decide +kernel
theorem dX8_offer_146 : decode cX8_offer 146 = .ok (.iconst 1, 1) := by decide +kernel
theorem dX8_offer_147 : decode cX8_offer 147 = .ok (.iadd, 1) := by decide +kernel
theorem dX8_offer_148 : decode cX8_offer 148 = .ok (.putfield 228, 3) := by decide +kernel
theorem dX8_offer_151 : decode cX8_offer 151 = .ok (.aload_n 0, 1) := by decide +kernel
theorem dX8_offer_152 : decode cX8_offer 152 = .ok (.getfield 228, 3) := by decide +kernel
theorem dX8_offer_155 : decode cX8_offer 155 = .ok (.iconst 1, 1) := by decide +kernel
theorem dX8_offer_156 : decode cX8_offer 156 = .ok (.isub, 1) := by decide +kernel
theorem dX8_offer_157 : decode cX8_offer 157 = .ok (.ireturn, 1) := by decide +kernel
theorem dX8_gift_0 : decode cX8_gift 0 = .ok (.aload_n 0, 1) := by decide +kernel
theorem dX8_gift_1 : decode cX8_gift 1 = .ok (.iload_n 1, 1) := by decide +kernel
theorem dX8_gift_2 : decode cX8_gift 2 = .ok (.iconst 0, 1) := by decide +kernel
theorem dX8_gift_3 : decode cX8_gift 3 = .ok (.aload_n 0, 1) := by decide +kernel
theorem dX8_gift_4 : decode cX8_gift 4 = .ok (.getfield 228, 3) := by decide +kernel
theorem dX8_gift_7 : decode cX8_gift 7 = .ok (.iconst 1, 1) := by decide +kernel
theorem dX8_gift_8 : decode cX8_gift 8 = .ok (.isub, 1) := by decide +kernel
theorem dX8_gift_9 : decode cX8_gift 9 = .ok (.invokevirtual 95, 3) := by decide +kernel
theorem dX8_gift_12 : decode cX8_gift 12 = .ok (.istore_n 3, 1) := by decide +kernel
theorem dX8_gift_13 : decode cX8_gift 13 = .ok (.aload_n 0, 1) := by decide +kernel
theorem dX8_gift_14 : decode cX8_gift 14 = .ok (.iload_n 3, 1) := by decide +kernel
theorem dX8_gift_15 : decode cX8_gift 15 = .ok (.ifCond .ne 7, 3) := by decide +kernel
theorem dX8_gift_18 : decode cX8_gift 18 = .ok (.iconst 1, 1) := by decide +kernel
theorem dX8_gift_19 : decode cX8_gift 19 = .ok (.goto 32, 3) := by decide +kernel
theorem dX8_gift_22 : decode cX8_gift 22 = .ok (.aload_n 0, 1) := by decide +kernel
theorem dX8_gift_23 : decode cX8_gift 23 = .ok (.iload_n 2, 1) := by decide +kernel
theorem dX8_gift_24 : decode cX8_gift 24 = .ok (.iconst 1, 1) := by decide +kernel
theorem dX8_gift_25 : decode cX8_gift 25 = .ok (.sipush 1000, 3) := by decide +kernel
theorem dX8_gift_28 : decode cX8_gift 28 = .ok (.invokevirtual 95, 3) := by decide +kernel
theorem dX8_gift_31 : decode cX8_gift 31 = .ok (.ifCond .ne 7, 3) := by decide +kernel
theorem dX8_gift_34 : decode cX8_gift 34 = .ok (.iconst 2, 1) := by decide +kernel
theorem dX8_gift_35 : decode cX8_gift 35 = .ok (.goto 16, 3) := by decide +kernel
theorem dX8_gift_38 : decode cX8_gift 38 = .ok (.aload_n 0, 1) := by decide +kernel
theorem dX8_gift_39 : decode cX8_gift 39 = .ok (.iload_n 1, 1) := by decide +kernel
theorem dX8_gift_40 : decode cX8_gift 40 = .ok (.invokevirtual 231, 3) := by decide +kernel
theorem dX8_gift_43 : decode cX8_gift 43 = .ok (.ifCond .eq 7, 3) := by decide +kernel
theorem dX8_gift_46 : decode cX8_gift 46 = .ok (.iconst 0, 1) := by decide +kernel
theorem dX8_gift_47 : decode cX8_gift 47 = .ok (.goto 4, 3) := by decide +kernel
theorem dX8_gift_50 : decode cX8_gift 50 = .ok (.iconst 3, 1) := by decide +kernel
theorem dX8_gift_51 : decode cX8_gift 51 = .ok (.invokevirtual 171, 3) := by decide +kernel
theorem dX8_gift_54 : decode cX8_gift 54 = .ok (.ifCond .eq 5, 3) := by decide +kernel
theorem dX8_gift_57 : decode cX8_gift 57 = .ok (.iconst (-1), 1) := by decide +kernel
theorem dX8_gift_58 : decode cX8_gift 58 = .ok (.ireturn, 1) := by decide +kernel
theorem dX8_gift_59 : decode cX8_gift 59 = .ok (.aload_n 0, 1) := by decide +kernel
theorem dX8_gift_60 : decode cX8_gift 60 = .ok (.getfield 85, 3) := by decide +kernel
theorem dX8_gift_63 : decode cX8_gift 63 = .ok (.iload_n 1, 1) := by decide +kernel
theorem dX8_gift_64 : decode cX8_gift 64 = .ok (.dup2, 1) := by decide +kernel
theorem dX8_gift_65 : decode cX8_gift 65 = .ok (.iaload, 1) := by decide +kernel
theorem dX8_gift_66 : decode cX8_gift 66 = .ok (.iload_n 2, 1) := by decide +kernel
theorem dX8_gift_67 : decode cX8_gift 67 = .ok (.iadd, 1) := by decide +kernel
theorem dX8_gift_68 : decode cX8_gift 68 = .ok (.iastore, 1) := by decide +kernel
theorem dX8_gift_69 : decode cX8_gift 69 = .ok (.aload_n 0, 1) := by decide +kernel
theorem dX8_gift_70 : decode cX8_gift 70 = .ok (.getfield 85, 3) := by decide +kernel
theorem dX8_gift_73 : decode cX8_gift 73 = .ok (.iload_n 1, 1) := by decide +kernel
theorem dX8_gift_74 : decode cX8_gift 74 = .ok (.iaload, 1) := by decide +kernel
theorem dX8_gift_75 : decode cX8_gift 75 = .ok (.ireturn, 1) := by decide +kernel
theorem dX8_plan_0 : decode cX8_plan 0 = .ok (.aload_n 0, 1) := by decide +kernel
theorem dX8_plan_1 : decode cX8_plan 1 = .ok (.aload_n 0, 1) := by decide +kernel
theorem dX8_plan_2 : decode cX8_plan 2 = .ok (.iload_n 1, 1) := by decide +kernel
theorem dX8_plan_3 : decode cX8_plan 3 = .ok (.iconst 0, 1) := by decide +kernel
theorem dX8_plan_4 : decode cX8_plan 4 = .ok (.sipush 10000, 3) := by decide +kernel
theorem dX8_plan_7 : decode cX8_plan 7 = .ok (.invokevirtual 95, 3) := by decide +kernel
theorem dX8_plan_10 : decode cX8_plan 10 = .ok (.ifCond .eq 7, 3) := by decide +kernel
theorem dX8_plan_13 : decode cX8_plan 13 = .ok (.iconst 0, 1) := by decide +kernel
theorem dX8_plan_14 : decode cX8_plan 14 = .ok (.goto 4, 3) := by decide +kernel
theorem dX8_plan_17 : decode cX8_plan 17 = .ok (.iconst 1, 1) := by decide +kernel
theorem dX8_plan_18 : decode cX8_plan 18 = .ok (.invokevirtual 171, 3) := by decide +kernel
theorem dX8_plan_21 : decode cX8_plan 21 = .ok (.ifCond .eq 5, 3) := by decide +kernel
theorem dX8_plan_24 : decode cX8_plan 24 = .ok (.iconst (-1), 1) := by decide +kernel
theorem dX8_plan_25 : decode cX8_plan 25 = .ok (.ireturn, 1) := by decide +kernel
theorem dX8_plan_26 : decode cX8_plan 26 = .ok (.iconst 0, 1) := by decide +kernel
theorem dX8_plan_27 : decode cX8_plan 27 = .ok (.istore_n 2, 1) := by decide +kernel
theorem dX8_plan_28 : decode cX8_plan 28 = .ok (.iconst 0, 1) := by decide +kernel
theorem dX8_plan_29 : decode cX8_plan 29 = .ok (.istore_n 3, 1) := by decide +kernel
theorem dX8_plan_30 : decode cX8_plan 30 = .ok (.iconst 0, 1) := by decide +kernel
theorem dX8_plan_31 : decode cX8_plan 31 = .ok (.istore 4, 2) := by decide +kernel
theorem dX8_plan_33 : decode cX8_plan 33 = .ok (.iconst 0, 1) := by decide +kernel
theorem dX8_plan_34 : decode cX8_plan 34 = .ok (.istore 5, 2) := by decide +kernel
theorem dX8_plan_36 : decode cX8_plan 36 = .ok (.iload 5, 2) := by decide +kernel
theorem dX8_plan_38 : decode cX8_plan 38 = .ok (.iconst 1, 1) := by decide +kernel
theorem dX8_plan_39 : decode cX8_plan 39 = .ok (.aload_n 0, 1) := by decide +kernel
theorem dX8_plan_40 : decode cX8_plan 40 = .ok (.getfield 228, 3) := by decide +kernel
theorem dX8_plan_43 : decode cX8_plan 43 = .ok (.ishl, 1) := by decide +kernel
theorem dX8_plan_44 : decode cX8_plan 44 = .ok (.if_icmp .ge 141, 3) := by decide +kernel
theorem dX8_plan_47 : decode cX8_plan 47 = .ok (.iconst 0, 1) := by decide +kernel
theorem dX8_plan_48 : decode cX8_plan 48 = .ok (.istore 6, 2) := by decide +kernel
theorem dX8_plan_50 : decode cX8_plan 50 = .ok (.iconst 0, 1) := by decide +kernel
theorem dX8_plan_51 : decode cX8_plan 51 = .ok (.istore 7, 2) := by decide +kernel
theorem dX8_plan_53 : decode cX8_plan 53 = .ok (.iconst 1, 1) := by decide +kernel
theorem dX8_plan_54 : decode cX8_plan 54 = .ok (.istore 8, 2) := by decide +kernel
theorem dX8_plan_56 : decode cX8_plan 56 = .ok (.iconst 0, 1) := by decide +kernel
theorem dX8_plan_57 : decode cX8_plan 57 = .ok (.istore 9, 2) := by decide +kernel
theorem dX8_plan_59 : decode cX8_plan 59 = .ok (.iload 9, 2) := by decide +kernel
theorem dX8_plan_61 : decode cX8_plan 61 = .ok (.aload_n 0, 1) := by decide +kernel
theorem dX8_plan_62 : decode cX8_plan 62 = .ok (.getfield 228, 3) := by decide +kernel
theorem dX8_plan_65 : decode cX8_plan 65 = .ok (.if_icmp .ge 74, 3) := by decide +kernel
theorem dX8_plan_68 : decode cX8_plan 68 = .ok (.iload 5, 2) := by decide +kernel
theorem dX8_plan_70 : decode cX8_plan 70 = .ok (.iload 9, 2) := by decide +kernel
theorem dX8_plan_72 : decode cX8_plan 72 = .ok (.ishr, 1) := by decide +kernel
theorem dX8_plan_73 : decode cX8_plan 73 = .ok (.iconst 1, 1) := by decide +kernel
theorem dX8_plan_74 : decode cX8_plan 74 = .ok (.iand, 1) := by decide +kernel
theorem dX8_plan_75 : decode cX8_plan 75 = .ok (.iconst 1, 1) := by decide +kernel
theorem dX8_plan_76 : decode cX8_plan 76 = .ok (.if_icmp .ne 57, 3) := by decide +kernel
theorem dX8_plan_79 : decode cX8_plan 79 = .ok (.aload_n 0, 1) := by decide +kernel
theorem dX8_plan_80 : decode cX8_plan 80 = .ok (.aload_n 0, 1) := by decide +kernel
theorem dX8_plan_81 : decode cX8_plan 81 = .ok (.getfield 79, 3) := by decide +kernel
theorem dX8_plan_84 : decode cX8_plan 84 = .ok (.iload 9, 2) := by decide +kernel
theorem dX8_plan_86 : decode cX8_plan 86 = .ok (.iaload, 1) := by decide +kernel
theorem dX8_plan_87 : decode cX8_plan 87 = .ok (.aload_n 0, 1) := by decide +kernel
theorem dX8_plan_88 : decode cX8_plan 88 = .ok (.getfield 82, 3) := by decide +kernel
theorem dX8_plan_91 : decode cX8_plan 91 = .ok (.iload 9, 2) := by decide +kernel
theorem dX8_plan_93 : decode cX8_plan 93 = .ok (.iaload, 1) := by decide +kernel
theorem dX8_plan_94 : decode cX8_plan 94 = .ok (.invokevirtual 225, 3) := by decide +kernel
theorem dX8_plan_97 : decode cX8_plan 97 = .ok (.istore 10, 2) := by decide +kernel
theorem dX8_plan_99 : decode cX8_plan 99 = .ok (.iload 8, 2) := by decide +kernel
theorem dX8_plan_101 : decode cX8_plan 101 = .ok (.iload 10, 2) := by decide +kernel
theorem dX8_plan_103 : decode cX8_plan 103 = .ok (.ifCond .lt 7, 3) := by decide +kernel
theorem dX8_plan_106 : decode cX8_plan 106 = .ok (.iconst 1, 1) := by decide +kernel
theorem dX8_plan_107 : decode cX8_plan 107 = .ok (.goto 4, 3) := by decide +kernel
theorem dX8_plan_110 : decode cX8_plan 110 = .ok (.iconst 0, 1) := by decide +kernel
theorem dX8_plan_111 : decode cX8_plan 111 = .ok (.iand, 1) := by decide +kernel
theorem dX8_plan_112 : decode cX8_plan 112 = .ok (.istore 8, 2) := by decide +kernel
theorem dX8_plan_114 : decode cX8_plan 114 = .ok (.iload 6, 2) := by decide +kernel
theorem dX8_plan_116 : decode cX8_plan 116 = .ok (.aload_n 0, 1) := by decide +kernel
theorem dX8_plan_117 : decode cX8_plan 117 = .ok (.getfield 85, 3) := by decide +kernel
theorem dX8_plan_120 : decode cX8_plan 120 = .ok (.iload 9, 2) := by decide +kernel
theorem dX8_plan_122 : decode cX8_plan 122 = .ok (.iaload, 1) := by decide +kernel
theorem dX8_plan_123 : decode cX8_plan 123 = .ok (.iadd, 1) := by decide +kernel
theorem dX8_plan_124 : decode cX8_plan 124 = .ok (.istore 6, 2) := by decide +kernel
theorem dX8_plan_126 : decode cX8_plan 126 = .ok (.iload 7, 2) := by decide +kernel
theorem dX8_plan_128 : decode cX8_plan 128 = .ok (.iload 10, 2) := by decide +kernel
theorem dX8_plan_130 : decode cX8_plan 130 = .ok (.iadd, 1) := by decide +kernel
theorem dX8_plan_131 : decode cX8_plan 131 = .ok (.istore 7, 2) := by decide +kernel
theorem dX8_plan_133 : decode cX8_plan 133 = .ok (.iinc 9 1, 3) := by decide +kernel
theorem dX8_plan_136 : decode cX8_plan 136 = .ok (.goto (-77), 3) := by decide +kernel
theorem dX8_plan_139 : decode cX8_plan 139 = .ok (.iload 8, 2) := by decide +kernel
theorem dX8_plan_141 : decode cX8_plan 141 = .ok (.ifCond .eq 38, 3) := by decide +kernel
theorem dX8_plan_144 : decode cX8_plan 144 = .ok (.iload 7, 2) := by decide +kernel
theorem dX8_plan_146 : decode cX8_plan 146 = .ok (.iload_n 1, 1) := by decide +kernel
theorem dX8_plan_147 : decode cX8_plan 147 = .ok (.if_icmp .gt 32, 3) := by decide +kernel
theorem dX8_plan_150 : decode cX8_plan 150 = .ok (.iload 6, 2) := by decide +kernel
theorem dX8_plan_152 : decode cX8_plan 152 = .ok (.iload_n 3, 1) := by decide +kernel
theorem dX8_plan_153 : decode cX8_plan 153 = .ok (.if_icmp .gt 16, 3) := by decide +kernel
theorem dX8_plan_156 : decode cX8_plan 156 = .ok (.iload 6, 2) := by decide +kernel
theorem dX8_plan_158 : decode cX8_plan 158 = .ok (.iload_n 3, 1) := by decide +kernel
theorem dX8_plan_159 : decode cX8_plan 159 = .ok (.if_icmp .ne 20, 3) := by decide +kernel
theorem dX8_plan_162 : decode cX8_plan 162 = .ok (.iload 7, 2) := by decide +kernel
theorem dX8_plan_164 : decode cX8_plan 164 = .ok (.iload 4, 2) := by decide +kernel
theorem dX8_plan_166 : decode cX8_plan 166 = .ok (.if_icmp .ge 13, 3) := by decide +kernel
theorem dX8_plan_169 : decode cX8_plan 169 = .ok (.iload 5, 2) := by decide +kernel
theorem dX8_plan_171 : decode cX8_plan 171 = .ok (.istore_n 2, 1) := by decide +kernel
theorem dX8_plan_172 : decode cX8_plan 172 = .ok (.iload 6, 2) := by decide +kernel
theorem dX8_plan_174 : decode cX8_plan 174 = .ok (.istore_n 3, 1) := by decide +kernel
theorem dX8_plan_175 : decode cX8_plan 175 = .ok (.iload 7, 2) := by decide +kernel
theorem dX8_plan_177 : decode cX8_plan 177 = .ok (.istore 4, 2) := by decide +kernel
theorem dX8_plan_179 : decode cX8_plan 179 = .ok (.iinc 5 1, 3) := by decide +kernel
theorem dX8_plan_182 : decode cX8_plan 182 = .ok (.goto (-146), 3) := by decide +kernel
theorem dX8_plan_185 : decode cX8_plan 185 = .ok (.iload_n 2, 1) := by decide +kernel
theorem dX8_plan_186 : decode cX8_plan 186 = .ok (.ireturn, 1) := by decide +kernel
end
section
theorem dL_level_0 : decode cL_level 0 = .ok (.aload_n 1, 1) := by decide +kernel
theorem dL_level_1 : decode cL_level 1 = .ok (.iconst 0, 1) := by decide +kernel
theorem dL_level_2 : decode cL_level 2 = .ok (.aload_n 0, 1) := by decide +kernel
theorem dL_level_3 : decode cL_level 3 = .ok (.invokevirtual 7, 3) := by decide +kernel
theorem dL_level_6 : decode cL_level 6 = .ok (.i2l, 1) := by decide +kernel
theorem dL_level_7 : decode cL_level 7 = .ok (.lastore, 1) := by decide +kernel
theorem dL_level_8 : decode cL_level 8 = .ok (.goto 6, 3) := by decide +kernel
theorem dL_level_11 : decode cL_level 11 = .ok (.astore_n 2, 1) := by decide +kernel
theorem dL_level_12 : decode cL_level 12 = .ok (.iconst 1, 1) := by decide +kernel
theorem dL_level_13 : decode cL_level 13 = .ok (.ireturn, 1) := by decide +kernel
theorem dL_level_14 : decode cL_level 14 = .ok (.iconst 0, 1) := by decide +kernel
theorem dL_level_15 : decode cL_level 15 = .ok (.ireturn, 1) := by decide +kernel
theorem dL_column_0 : decode cL_column 0 = .ok (.aload_n 0, 1) := by decide +kernel
theorem dL_column_1 : decode cL_column 1 = .ok (.iload_n 1, 1) := by decide +kernel
theorem dL_column_2 : decode cL_column 2 = .ok (.iload_n 2, 1) := by decide +kernel
theorem dL_column_3 : decode cL_column 3 = .ok (.iload_n 3, 1) := by decide +kernel
theorem dL_column_4 : decode cL_column 4 = .ok (.iload 4, 2) := by decide +kernel
theorem dL_column_6 : decode cL_column 6 = .ok (.invokevirtual 15, 3) := by decide +kernel
theorem dL_column_9 : decode cL_column 9 = .ok (.goto 15, 3) := by decide +kernel
theorem dL_column_12 : decode cL_column 12 = .ok (.astore 5, 2) := by decide +kernel
theorem dL_column_14 : decode cL_column 14 = .ok (.iconst 1, 1) := by decide +kernel
theorem dL_column_15 : decode cL_column 15 = .ok (.ireturn, 1) := by decide +kernel
theorem dL_column_16 : decode cL_column 16 = .ok (.astore 5, 2) := by decide +kernel
theorem dL_column_18 : decode cL_column 18 = .ok (.iconst 2, 1) := by decide +kernel
theorem dL_column_19 : decode cL_column 19 = .ok (.ireturn, 1) := by decide +kernel
theorem dL_column_20 : decode cL_column 20 = .ok (.astore 5, 2) := by decide +kernel
theorem dL_column_22 : decode cL_column 22 = .ok (.iconst 3, 1) := by decide +kernel
theorem dL_column_23 : decode cL_column 23 = .ok (.ireturn, 1) := by decide +kernel
theorem dL_column_24 : decode cL_column 24 = .ok (.iconst 0, 1) := by decide +kernel
theorem dL_column_25 : decode cL_column 25 = .ok (.ireturn, 1) := by decide +kernel
theorem dL_replay_0 : decode cL_replay 0 = .ok (.aload_n 2, 1) := by decide +kernel
theorem dL_replay_1 : decode cL_replay 1 = .ok (.iconst 0, 1) := by decide +kernel
theorem dL_replay_2 : decode cL_replay 2 = .ok (.aload_n 0, 1) := by decide +kernel
theorem dL_replay_3 : decode cL_replay 3 = .ok (.iload_n 1, 1) := by decide +kernel
theorem dL_replay_4 : decode cL_replay 4 = .ok (.invokevirtual 23, 3) := by decide +kernel
theorem dL_replay_7 : decode cL_replay 7 = .ok (.i2l, 1) := by decide +kernel
theorem dL_replay_8 : decode cL_replay 8 = .ok (.lastore, 1) := by decide +kernel
theorem dL_replay_9 : decode cL_replay 9 = .ok (.goto 9, 3) := by decide +kernel
theorem dL_replay_12 : decode cL_replay 12 = .ok (.astore_n 3, 1) := by decide +kernel
theorem dL_replay_13 : decode cL_replay 13 = .ok (.iconst 1, 1) := by decide +kernel
theorem dL_replay_14 : decode cL_replay 14 = .ok (.ireturn, 1) := by decide +kernel
theorem dL_replay_15 : decode cL_replay 15 = .ok (.astore_n 3, 1) := by decide +kernel
theorem dL_replay_16 : decode cL_replay 16 = .ok (.iconst 2, 1) := by decide +kernel
theorem dL_replay_17 : decode cL_replay 17 = .ok (.ireturn, 1) := by decide +kernel
theorem dL_replay_18 : decode cL_replay 18 = .ok (.iconst 0, 1) := by decide +kernel
theorem dL_replay_19 : decode cL_replay 19 = .ok (.ireturn, 1) := by decide +kernel
theorem dL_input_0 : decode cL_input 0 = .ok (.aload 4, 2) := by decide +kernel
theorem dL_input_2 : decode cL_input 2 = .ok (.iconst 0, 1) := by decide +kernel
theorem dL_input_3 : decode cL_input 3 = .ok (.aload_n 0, 1) := by decide +kernel
theorem dL_input_4 : decode cL_input 4 = .ok (.iload_n 1, 1) := by decide +kernel
theorem dL_input_5 : decode cL_input 5 = .ok (.iload_n 2, 1) := by decide +kernel
theorem dL_input_6 : decode cL_input 6 = .ok (.iload_n 3, 1) := by decide +kernel
theorem dL_input_7 : decode cL_input 7 = .ok (.invokevirtual 27, 3) := by decide +kernel
theorem dL_input_10 : decode cL_input 10 = .ok (.i2l, 1) := by decide +kernel
theorem dL_input_11 : decode cL_input 11 = .ok (.lastore, 1) := by decide +kernel
theorem dL_input_12 : decode cL_input 12 = .ok (.goto 15, 3) := by decide +kernel
theorem dL_input_15 : decode cL_input 15 = .ok (.astore 5, 2) := by decide +kernel
theorem dL_input_17 : decode cL_input 17 = .ok (.iconst 1, 1) := by decide +kernel
theorem dL_input_18 : decode cL_input 18 = .ok (.ireturn, 1) := by decide +kernel
theorem dL_input_19 : decode cL_input 19 = .ok (.astore 5, 2) := by decide +kernel
theorem dL_input_21 : decode cL_input 21 = .ok (.iconst 2, 1) := by decide +kernel
theorem dL_input_22 : decode cL_input 22 = .ok (.ireturn, 1) := by decide +kernel
theorem dL_input_23 : decode cL_input 23 = .ok (.astore 5, 2) := by decide +kernel
theorem dL_input_25 : decode cL_input 25 = .ok (.iconst 3, 1) := by decide +kernel
theorem dL_input_26 : decode cL_input 26 = .ok (.ireturn, 1) := by decide +kernel
theorem dL_input_27 : decode cL_input 27 = .ok (.iconst 0, 1) := by decide +kernel
theorem dL_input_28 : decode cL_input 28 = .ok (.ireturn, 1) := by decide +kernel
theorem dL_result_0 : decode cL_result 0 = .ok (.aload_n 2, 1) := by decide +kernel
theorem dL_result_1 : decode cL_result 1 = .ok (.iconst 0, 1) := by decide +kernel
theorem dL_result_2 : decode cL_result 2 = .ok (.aload_n 0, 1) := by decide +kernel
theorem dL_result_3 : decode cL_result 3 = .ok (.iload_n 1, 1) := by decide +kernel
theorem dL_result_4 : decode cL_result 4 = .ok (.invokevirtual 31, 3) := by decide +kernel
theorem dL_result_7 : decode cL_result 7 = .ok (.i2l, 1) := by decide +kernel
theorem dL_result_8 : decode cL_result 8 = .ok (.lastore, 1) := by decide +kernel
theorem dL_result_9 : decode cL_result 9 = .ok (.goto 6, 3) := by decide +kernel
theorem dL_result_12 : decode cL_result 12 = .ok (.astore_n 3, 1) := by decide +kernel
theorem dL_result_13 : decode cL_result 13 = .ok (.iconst 1, 1) := by decide +kernel
theorem dL_result_14 : decode cL_result 14 = .ok (.ireturn, 1) := by decide +kernel
theorem dL_result_15 : decode cL_result 15 = .ok (.iconst 0, 1) := by decide +kernel
theorem dL_result_16 : decode cL_result 16 = .ok (.ireturn, 1) := by decide +kernel
theorem dL_used_0 : decode cL_used 0 = .ok (.aload_n 2, 1) := by decide +kernel
theorem dL_used_1 : decode cL_used 1 = .ok (.iconst 0, 1) := by decide +kernel
theorem dL_used_2 : decode cL_used 2 = .ok (.aload_n 0, 1) := by decide +kernel
theorem dL_used_3 : decode cL_used 3 = .ok (.iload_n 1, 1) := by decide +kernel
theorem dL_used_4 : decode cL_used 4 = .ok (.invokevirtual 34, 3) := by decide +kernel
theorem dL_used_7 : decode cL_used 7 = .ok (.i2l, 1) := by decide +kernel
theorem dL_used_8 : decode cL_used 8 = .ok (.lastore, 1) := by decide +kernel
theorem dL_used_9 : decode cL_used 9 = .ok (.goto 6, 3) := by decide +kernel
theorem dL_used_12 : decode cL_used 12 = .ok (.astore_n 3, 1) := by decide +kernel
theorem dL_used_13 : decode cL_used 13 = .ok (.iconst 1, 1) := by decide +kernel
theorem dL_used_14 : decode cL_used 14 = .ok (.ireturn, 1) := by decide +kernel
theorem dL_used_15 : decode cL_used 15 = .ok (.iconst 0, 1) := by decide +kernel
theorem dL_used_16 : decode cL_used 16 = .ok (.ireturn, 1) := by decide +kernel
theorem dL_where_0 : decode cL_where 0 = .ok (.aload_n 3, 1) := by decide +kernel
theorem dL_where_1 : decode cL_where 1 = .ok (.iconst 0, 1) := by decide +kernel
theorem dL_where_2 : decode cL_where 2 = .ok (.aload_n 0, 1) := by decide +kernel
theorem dL_where_3 : decode cL_where 3 = .ok (.iload_n 1, 1) := by decide +kernel
theorem dL_where_4 : decode cL_where 4 = .ok (.iload_n 2, 1) := by decide +kernel
theorem dL_where_5 : decode cL_where 5 = .ok (.invokevirtual 37, 3) := by decide +kernel
theorem dL_where_8 : decode cL_where 8 = .ok (.i2l, 1) := by decide +kernel
theorem dL_where_9 : decode cL_where 9 = .ok (.lastore, 1) := by decide +kernel
theorem dL_where_10 : decode cL_where 10 = .ok (.goto 7, 3) := by decide +kernel
theorem dL_where_13 : decode cL_where 13 = .ok (.astore 4, 2) := by decide +kernel
theorem dL_where_15 : decode cL_where 15 = .ok (.iconst 1, 1) := by decide +kernel
theorem dL_where_16 : decode cL_where 16 = .ok (.ireturn, 1) := by decide +kernel
theorem dL_where_17 : decode cL_where 17 = .ok (.iconst 0, 1) := by decide +kernel
theorem dL_where_18 : decode cL_where 18 = .ok (.ireturn, 1) := by decide +kernel
theorem dL_category_0 : decode cL_category 0 = .ok (.aload_n 2, 1) := by decide +kernel
theorem dL_category_1 : decode cL_category 1 = .ok (.iconst 0, 1) := by decide +kernel
theorem dL_category_2 : decode cL_category 2 = .ok (.aload_n 0, 1) := by decide +kernel
theorem dL_category_3 : decode cL_category 3 = .ok (.iload_n 1, 1) := by decide +kernel
theorem dL_category_4 : decode cL_category 4 = .ok (.invokevirtual 41, 3) := by decide +kernel
theorem dL_category_7 : decode cL_category 7 = .ok (.i2l, 1) := by decide +kernel
theorem dL_category_8 : decode cL_category 8 = .ok (.lastore, 1) := by decide +kernel
theorem dL_category_9 : decode cL_category 9 = .ok (.goto 9, 3) := by decide +kernel
theorem dL_category_12 : decode cL_category 12 = .ok (.astore_n 3, 1) := by decide +kernel
theorem dL_category_13 : decode cL_category 13 = .ok (.iconst 1, 1) := by decide +kernel
theorem dL_category_14 : decode cL_category 14 = .ok (.ireturn, 1) := by decide +kernel
theorem dL_category_15 : decode cL_category 15 = .ok (.astore_n 3, 1) := by decide +kernel
theorem dL_category_16 : decode cL_category 16 = .ok (.iconst 2, 1) := by decide +kernel
theorem dL_category_17 : decode cL_category 17 = .ok (.ireturn, 1) := by decide +kernel
theorem dL_category_18 : decode cL_category 18 = .ok (.iconst 0, 1) := by decide +kernel
theorem dL_category_19 : decode cL_category 19 = .ok (.ireturn, 1) := by decide +kernel
theorem dL_rule_0 : decode cL_rule 0 = .ok (.aload 6, 2) := by decide +kernel
theorem dL_rule_2 : decode cL_rule 2 = .ok (.iconst 0, 1) := by decide +kernel
theorem dL_rule_3 : decode cL_rule 3 = .ok (.aload_n 0, 1) := by decide +kernel
theorem dL_rule_4 : decode cL_rule 4 = .ok (.iload_n 1, 1) := by decide +kernel
theorem dL_rule_5 : decode cL_rule 5 = .ok (.iload_n 2, 1) := by decide +kernel
theorem dL_rule_6 : decode cL_rule 6 = .ok (.iload_n 3, 1) := by decide +kernel
theorem dL_rule_7 : decode cL_rule 7 = .ok (.iload 4, 2) := by decide +kernel
theorem dL_rule_9 : decode cL_rule 9 = .ok (.iload 5, 2) := by decide +kernel
theorem dL_rule_11 : decode cL_rule 11 = .ok (.invokevirtual 44, 3) := by decide +kernel
theorem dL_rule_14 : decode cL_rule 14 = .ok (.i2l, 1) := by decide +kernel
theorem dL_rule_15 : decode cL_rule 15 = .ok (.lastore, 1) := by decide +kernel
theorem dL_rule_16 : decode cL_rule 16 = .ok (.goto 15, 3) := by decide +kernel
theorem dL_rule_19 : decode cL_rule 19 = .ok (.astore 7, 2) := by decide +kernel
theorem dL_rule_21 : decode cL_rule 21 = .ok (.iconst 1, 1) := by decide +kernel
theorem dL_rule_22 : decode cL_rule 22 = .ok (.ireturn, 1) := by decide +kernel
theorem dL_rule_23 : decode cL_rule 23 = .ok (.astore 7, 2) := by decide +kernel
theorem dL_rule_25 : decode cL_rule 25 = .ok (.iconst 2, 1) := by decide +kernel
theorem dL_rule_26 : decode cL_rule 26 = .ok (.ireturn, 1) := by decide +kernel
theorem dL_rule_27 : decode cL_rule 27 = .ok (.astore 7, 2) := by decide +kernel
theorem dL_rule_29 : decode cL_rule 29 = .ok (.iconst 3, 1) := by decide +kernel
theorem dL_rule_30 : decode cL_rule 30 = .ok (.ireturn, 1) := by decide +kernel
theorem dL_rule_31 : decode cL_rule 31 = .ok (.iconst 0, 1) := by decide +kernel
theorem dL_rule_32 : decode cL_rule 32 = .ok (.ireturn, 1) := by decide +kernel
theorem dL_pass_0 : decode cL_pass 0 = .ok (.aload_n 2, 1) := by decide +kernel
theorem dL_pass_1 : decode cL_pass 1 = .ok (.iconst 0, 1) := by decide +kernel
theorem dL_pass_2 : decode cL_pass 2 = .ok (.aload_n 0, 1) := by decide +kernel
theorem dL_pass_3 : decode cL_pass 3 = .ok (.iload_n 1, 1) := by decide +kernel
theorem dL_pass_4 : decode cL_pass 4 = .ok (.invokevirtual 48, 3) := by decide +kernel
theorem dL_pass_7 : decode cL_pass 7 = .ok (.i2l, 1) := by decide +kernel
theorem dL_pass_8 : decode cL_pass 8 = .ok (.lastore, 1) := by decide +kernel
theorem dL_pass_9 : decode cL_pass 9 = .ok (.goto 9, 3) := by decide +kernel
theorem dL_pass_12 : decode cL_pass 12 = .ok (.astore_n 3, 1) := by decide +kernel
theorem dL_pass_13 : decode cL_pass 13 = .ok (.iconst 1, 1) := by decide +kernel
theorem dL_pass_14 : decode cL_pass 14 = .ok (.ireturn, 1) := by decide +kernel
theorem dL_pass_15 : decode cL_pass 15 = .ok (.astore_n 3, 1) := by decide +kernel
theorem dL_pass_16 : decode cL_pass 16 = .ok (.iconst 2, 1) := by decide +kernel
theorem dL_pass_17 : decode cL_pass 17 = .ok (.ireturn, 1) := by decide +kernel
theorem dL_pass_18 : decode cL_pass 18 = .ok (.iconst 0, 1) := by decide +kernel
theorem dL_pass_19 : decode cL_pass 19 = .ok (.ireturn, 1) := by decide +kernel
theorem dL_submit_0 : decode cL_submit 0 = .ok (.aload 4, 2) := by decide +kernel
theorem dL_submit_2 : decode cL_submit 2 = .ok (.iconst 0, 1) := by decide +kernel
theorem dL_submit_3 : decode cL_submit 3 = .ok (.aload_n 0, 1) := by decide +kernel
theorem dL_submit_4 : decode cL_submit 4 = .ok (.iload_n 1, 1) := by decide +kernel
theorem dL_submit_5 : decode cL_submit 5 = .ok (.iload_n 2, 1) := by decide +kernel
theorem dL_submit_6 : decode cL_submit 6 = .ok (.iload_n 3, 1) := by decide +kernel
theorem dL_submit_7 : decode cL_submit 7 = .ok (.invokevirtual 51, 3) := by decide +kernel
theorem dL_submit_10 : decode cL_submit 10 = .ok (.i2l, 1) := by decide +kernel
theorem dL_submit_11 : decode cL_submit 11 = .ok (.lastore, 1) := by decide +kernel
theorem dL_submit_12 : decode cL_submit 12 = .ok (.goto 15, 3) := by decide +kernel
theorem dL_submit_15 : decode cL_submit 15 = .ok (.astore 5, 2) := by decide +kernel
theorem dL_submit_17 : decode cL_submit 17 = .ok (.iconst 1, 1) := by decide +kernel
theorem dL_submit_18 : decode cL_submit 18 = .ok (.ireturn, 1) := by decide +kernel
theorem dL_submit_19 : decode cL_submit 19 = .ok (.astore 5, 2) := by decide +kernel
theorem dL_submit_21 : decode cL_submit 21 = .ok (.iconst 2, 1) := by decide +kernel
theorem dL_submit_22 : decode cL_submit 22 = .ok (.ireturn, 1) := by decide +kernel
theorem dL_submit_23 : decode cL_submit 23 = .ok (.astore 5, 2) := by decide +kernel
theorem dL_submit_25 : decode cL_submit 25 = .ok (.iconst 3, 1) := by decide +kernel
theorem dL_submit_26 : decode cL_submit 26 = .ok (.ireturn, 1) := by decide +kernel
theorem dL_submit_27 : decode cL_submit 27 = .ok (.iconst 0, 1) := by decide +kernel
theorem dL_submit_28 : decode cL_submit 28 = .ok (.ireturn, 1) := by decide +kernel
theorem dL_judged_0 : decode cL_judged 0 = .ok (.aload_n 2, 1) := by decide +kernel
theorem dL_judged_1 : decode cL_judged 1 = .ok (.iconst 0, 1) := by decide +kernel
theorem dL_judged_2 : decode cL_judged 2 = .ok (.aload_n 0, 1) := by decide +kernel
theorem dL_judged_3 : decode cL_judged 3 = .ok (.iload_n 1, 1) := by decide +kernel
theorem dL_judged_4 : decode cL_judged 4 = .ok (.invokevirtual 54, 3) := by decide +kernel
theorem dL_judged_7 : decode cL_judged 7 = .ok (.i2l, 1) := by decide +kernel
theorem dL_judged_8 : decode cL_judged 8 = .ok (.lastore, 1) := by decide +kernel
theorem dL_judged_9 : decode cL_judged 9 = .ok (.goto 6, 3) := by decide +kernel
theorem dL_judged_12 : decode cL_judged 12 = .ok (.astore_n 3, 1) := by decide +kernel
theorem dL_judged_13 : decode cL_judged 13 = .ok (.iconst 1, 1) := by decide +kernel
theorem dL_judged_14 : decode cL_judged 14 = .ok (.ireturn, 1) := by decide +kernel
theorem dL_judged_15 : decode cL_judged 15 = .ok (.iconst 0, 1) := by decide +kernel
theorem dL_judged_16 : decode cL_judged 16 = .ok (.ireturn, 1) := by decide +kernel
theorem dL_strike_0 : decode cL_strike 0 = .ok (.aload_n 2, 1) := by decide +kernel
theorem dL_strike_1 : decode cL_strike 1 = .ok (.iconst 0, 1) := by decide +kernel
theorem dL_strike_2 : decode cL_strike 2 = .ok (.aload_n 0, 1) := by decide +kernel
theorem dL_strike_3 : decode cL_strike 3 = .ok (.iload_n 1, 1) := by decide +kernel
theorem dL_strike_4 : decode cL_strike 4 = .ok (.invokevirtual 57, 3) := by decide +kernel
theorem dL_strike_7 : decode cL_strike 7 = .ok (.ifCond .eq 7, 3) := by decide +kernel
theorem dL_strike_10 : decode cL_strike 10 = .ok (.lconst 1, 1) := by decide +kernel
theorem dL_strike_11 : decode cL_strike 11 = .ok (.goto 4, 3) := by decide +kernel
theorem dL_strike_14 : decode cL_strike 14 = .ok (.lconst 0, 1) := by decide +kernel
theorem dL_strike_15 : decode cL_strike 15 = .ok (.lastore, 1) := by decide +kernel
theorem dL_strike_16 : decode cL_strike 16 = .ok (.goto 6, 3) := by decide +kernel
theorem dL_strike_19 : decode cL_strike 19 = .ok (.astore_n 3, 1) := by decide +kernel
theorem dL_strike_20 : decode cL_strike 20 = .ok (.iconst 1, 1) := by decide +kernel
theorem dL_strike_21 : decode cL_strike 21 = .ok (.ireturn, 1) := by decide +kernel
theorem dL_strike_22 : decode cL_strike 22 = .ok (.iconst 0, 1) := by decide +kernel
theorem dL_strike_23 : decode cL_strike 23 = .ok (.ireturn, 1) := by decide +kernel
theorem dL_best_0 : decode cL_best 0 = .ok (.aload_n 3, 1) := by decide +kernel
theorem dL_best_1 : decode cL_best 1 = .ok (.iconst 0, 1) := by decide +kernel
theorem dL_best_2 : decode cL_best 2 = .ok (.aload_n 0, 1) := by decide +kernel
theorem dL_best_3 : decode cL_best 3 = .ok (.iload_n 1, 1) := by decide +kernel
theorem dL_best_4 : decode cL_best 4 = .ok (.iload_n 2, 1) := by decide +kernel
theorem dL_best_5 : decode cL_best 5 = .ok (.invokevirtual 61, 3) := by decide +kernel
theorem dL_best_8 : decode cL_best 8 = .ok (.i2l, 1) := by decide +kernel
theorem dL_best_9 : decode cL_best 9 = .ok (.lastore, 1) := by decide +kernel
theorem dL_best_10 : decode cL_best 10 = .ok (.goto 7, 3) := by decide +kernel
theorem dL_best_13 : decode cL_best 13 = .ok (.astore 4, 2) := by decide +kernel
theorem dL_best_15 : decode cL_best 15 = .ok (.iconst 1, 1) := by decide +kernel
theorem dL_best_16 : decode cL_best 16 = .ok (.ireturn, 1) := by decide +kernel
theorem dL_best_17 : decode cL_best 17 = .ok (.iconst 0, 1) := by decide +kernel
theorem dL_best_18 : decode cL_best 18 = .ok (.ireturn, 1) := by decide +kernel
theorem dL_bestAnew_0 : decode cL_bestAnew 0 = .ok (.aload_n 3, 1) := by decide +kernel
theorem dL_bestAnew_1 : decode cL_bestAnew 1 = .ok (.iconst 0, 1) := by decide +kernel
theorem dL_bestAnew_2 : decode cL_bestAnew 2 = .ok (.aload_n 0, 1) := by decide +kernel
theorem dL_bestAnew_3 : decode cL_bestAnew 3 = .ok (.iload_n 1, 1) := by decide +kernel
theorem dL_bestAnew_4 : decode cL_bestAnew 4 = .ok (.iload_n 2, 1) := by decide +kernel
theorem dL_bestAnew_5 : decode cL_bestAnew 5 = .ok (.invokevirtual 64, 3) := by decide +kernel
theorem dL_bestAnew_8 : decode cL_bestAnew 8 = .ok (.i2l, 1) := by decide +kernel
theorem dL_bestAnew_9 : decode cL_bestAnew 9 = .ok (.lastore, 1) := by decide +kernel
theorem dL_bestAnew_10 : decode cL_bestAnew 10 = .ok (.goto 7, 3) := by decide +kernel
theorem dL_bestAnew_13 : decode cL_bestAnew 13 = .ok (.astore 4, 2) := by decide +kernel
theorem dL_bestAnew_15 : decode cL_bestAnew 15 = .ok (.iconst 1, 1) := by decide +kernel
theorem dL_bestAnew_16 : decode cL_bestAnew 16 = .ok (.ireturn, 1) := by decide +kernel
theorem dL_bestAnew_17 : decode cL_bestAnew 17 = .ok (.iconst 0, 1) := by decide +kernel
theorem dL_bestAnew_18 : decode cL_bestAnew 18 = .ok (.ireturn, 1) := by decide +kernel
theorem dL_place_0 : decode cL_place 0 = .ok (.aload_n 3, 1) := by decide +kernel
theorem dL_place_1 : decode cL_place 1 = .ok (.iconst 0, 1) := by decide +kernel
theorem dL_place_2 : decode cL_place 2 = .ok (.aload_n 0, 1) := by decide +kernel
theorem dL_place_3 : decode cL_place 3 = .ok (.iload_n 1, 1) := by decide +kernel
theorem dL_place_4 : decode cL_place 4 = .ok (.iload_n 2, 1) := by decide +kernel
theorem dL_place_5 : decode cL_place 5 = .ok (.invokevirtual 67, 3) := by decide +kernel
theorem dL_place_8 : decode cL_place 8 = .ok (.i2l, 1) := by decide +kernel
theorem dL_place_9 : decode cL_place 9 = .ok (.lastore, 1) := by decide +kernel
theorem dL_place_10 : decode cL_place 10 = .ok (.goto 7, 3) := by decide +kernel
theorem dL_place_13 : decode cL_place 13 = .ok (.astore 4, 2) := by decide +kernel
theorem dL_place_15 : decode cL_place 15 = .ok (.iconst 1, 1) := by decide +kernel
theorem dL_place_16 : decode cL_place 16 = .ok (.ireturn, 1) := by decide +kernel
theorem dL_place_17 : decode cL_place 17 = .ok (.iconst 0, 1) := by decide +kernel
theorem dL_place_18 : decode cL_place 18 = .ok (.ireturn, 1) := by decide +kernel
theorem dL_at_0 : decode cL_at 0 = .ok (.aload_n 3, 1) := by decide +kernel
theorem dL_at_1 : decode cL_at 1 = .ok (.iconst 0, 1) := by decide +kernel
theorem dL_at_2 : decode cL_at 2 = .ok (.aload_n 0, 1) := by decide +kernel
theorem dL_at_3 : decode cL_at 3 = .ok (.iload_n 1, 1) := by decide +kernel
theorem dL_at_4 : decode cL_at 4 = .ok (.iload_n 2, 1) := by decide +kernel
theorem dL_at_5 : decode cL_at 5 = .ok (.invokevirtual 70, 3) := by decide +kernel
theorem dL_at_8 : decode cL_at 8 = .ok (.i2l, 1) := by decide +kernel
theorem dL_at_9 : decode cL_at 9 = .ok (.lastore, 1) := by decide +kernel
theorem dL_at_10 : decode cL_at 10 = .ok (.goto 7, 3) := by decide +kernel
theorem dL_at_13 : decode cL_at 13 = .ok (.astore 4, 2) := by decide +kernel
theorem dL_at_15 : decode cL_at 15 = .ok (.iconst 1, 1) := by decide +kernel
theorem dL_at_16 : decode cL_at 16 = .ok (.ireturn, 1) := by decide +kernel
theorem dL_at_17 : decode cL_at 17 = .ok (.iconst 0, 1) := by decide +kernel
theorem dL_at_18 : decode cL_at 18 = .ok (.ireturn, 1) := by decide +kernel
theorem dL_placeWithout_0 : decode cL_placeWithout 0 = .ok (.aload_n 2, 1) := by decide +kernel
theorem dL_placeWithout_1 : decode cL_placeWithout 1 = .ok (.iconst 0, 1) := by decide +kernel
theorem dL_placeWithout_2 : decode cL_placeWithout 2 = .ok (.aload_n 0, 1) := by decide +kernel
theorem dL_placeWithout_3 : decode cL_placeWithout 3 = .ok (.iload_n 1, 1) := by decide +kernel
theorem dL_placeWithout_4 : decode cL_placeWithout 4 = .ok (.invokevirtual 73, 3) := by decide +kernel
theorem dL_placeWithout_7 : decode cL_placeWithout 7 = .ok (.i2l, 1) := by decide +kernel
theorem dL_placeWithout_8 : decode cL_placeWithout 8 = .ok (.lastore, 1) := by decide +kernel
theorem dL_placeWithout_9 : decode cL_placeWithout 9 = .ok (.goto 6, 3) := by decide +kernel
theorem dL_placeWithout_12 : decode cL_placeWithout 12 = .ok (.astore_n 3, 1) := by decide +kernel
theorem dL_placeWithout_13 : decode cL_placeWithout 13 = .ok (.iconst 1, 1) := by decide +kernel
theorem dL_placeWithout_14 : decode cL_placeWithout 14 = .ok (.ireturn, 1) := by decide +kernel
theorem dL_placeWithout_15 : decode cL_placeWithout 15 = .ok (.iconst 0, 1) := by decide +kernel
theorem dL_placeWithout_16 : decode cL_placeWithout 16 = .ok (.ireturn, 1) := by decide +kernel
theorem dL_estimate_0 : decode cL_estimate 0 = .ok (.aload_n 3, 1) := by decide +kernel
theorem dL_estimate_1 : decode cL_estimate 1 = .ok (.iconst 0, 1) := by decide +kernel
theorem dL_estimate_2 : decode cL_estimate 2 = .ok (.aload_n 0, 1) := by decide +kernel
theorem dL_estimate_3 : decode cL_estimate 3 = .ok (.iload_n 1, 1) := by decide +kernel
theorem dL_estimate_4 : decode cL_estimate 4 = .ok (.iload_n 2, 1) := by decide +kernel
theorem dL_estimate_5 : decode cL_estimate 5 = .ok (.invokevirtual 76, 3) := by decide +kernel
theorem dL_estimate_8 : decode cL_estimate 8 = .ok (.i2l, 1) := by decide +kernel
theorem dL_estimate_9 : decode cL_estimate 9 = .ok (.lastore, 1) := by decide +kernel
theorem dL_estimate_10 : decode cL_estimate 10 = .ok (.goto 7, 3) := by decide +kernel
theorem dL_estimate_13 : decode cL_estimate 13 = .ok (.astore 4, 2) := by decide +kernel
theorem dL_estimate_15 : decode cL_estimate 15 = .ok (.iconst 1, 1) := by decide +kernel
theorem dL_estimate_16 : decode cL_estimate 16 = .ok (.ireturn, 1) := by decide +kernel
theorem dL_estimate_17 : decode cL_estimate 17 = .ok (.iconst 0, 1) := by decide +kernel
theorem dL_estimate_18 : decode cL_estimate 18 = .ok (.ireturn, 1) := by decide +kernel
theorem dL_offer_0 : decode cL_offer 0 = .ok (.aload_n 3, 1) := by decide +kernel
theorem dL_offer_1 : decode cL_offer 1 = .ok (.iconst 0, 1) := by decide +kernel
theorem dL_offer_2 : decode cL_offer 2 = .ok (.aload_n 0, 1) := by decide +kernel
theorem dL_offer_3 : decode cL_offer 3 = .ok (.iload_n 1, 1) := by decide +kernel
theorem dL_offer_4 : decode cL_offer 4 = .ok (.iload_n 2, 1) := by decide +kernel
theorem dL_offer_5 : decode cL_offer 5 = .ok (.invokevirtual 79, 3) := by decide +kernel
theorem dL_offer_8 : decode cL_offer 8 = .ok (.i2l, 1) := by decide +kernel
theorem dL_offer_9 : decode cL_offer 9 = .ok (.lastore, 1) := by decide +kernel
theorem dL_offer_10 : decode cL_offer 10 = .ok (.goto 11, 3) := by decide +kernel
theorem dL_offer_13 : decode cL_offer 13 = .ok (.astore 4, 2) := by decide +kernel
theorem dL_offer_15 : decode cL_offer 15 = .ok (.iconst 1, 1) := by decide +kernel
theorem dL_offer_16 : decode cL_offer 16 = .ok (.ireturn, 1) := by decide +kernel
theorem dL_offer_17 : decode cL_offer 17 = .ok (.astore 4, 2) := by decide +kernel
theorem dL_offer_19 : decode cL_offer 19 = .ok (.iconst 2, 1) := by decide +kernel
theorem dL_offer_20 : decode cL_offer 20 = .ok (.ireturn, 1) := by decide +kernel
theorem dL_offer_21 : decode cL_offer 21 = .ok (.iconst 0, 1) := by decide +kernel
theorem dL_offer_22 : decode cL_offer 22 = .ok (.ireturn, 1) := by decide +kernel
theorem dL_gift_0 : decode cL_gift 0 = .ok (.aload_n 3, 1) := by decide +kernel
theorem dL_gift_1 : decode cL_gift 1 = .ok (.iconst 0, 1) := by decide +kernel
theorem dL_gift_2 : decode cL_gift 2 = .ok (.aload_n 0, 1) := by decide +kernel
theorem dL_gift_3 : decode cL_gift 3 = .ok (.iload_n 1, 1) := by decide +kernel
theorem dL_gift_4 : decode cL_gift 4 = .ok (.iload_n 2, 1) := by decide +kernel
theorem dL_gift_5 : decode cL_gift 5 = .ok (.invokevirtual 82, 3) := by decide +kernel
theorem dL_gift_8 : decode cL_gift 8 = .ok (.i2l, 1) := by decide +kernel
theorem dL_gift_9 : decode cL_gift 9 = .ok (.lastore, 1) := by decide +kernel
theorem dL_gift_10 : decode cL_gift 10 = .ok (.goto 15, 3) := by decide +kernel
theorem dL_gift_13 : decode cL_gift 13 = .ok (.astore 4, 2) := by decide +kernel
theorem dL_gift_15 : decode cL_gift 15 = .ok (.iconst 1, 1) := by decide +kernel
theorem dL_gift_16 : decode cL_gift 16 = .ok (.ireturn, 1) := by decide +kernel
theorem dL_gift_17 : decode cL_gift 17 = .ok (.astore 4, 2) := by decide +kernel
theorem dL_gift_19 : decode cL_gift 19 = .ok (.iconst 2, 1) := by decide +kernel
theorem dL_gift_20 : decode cL_gift 20 = .ok (.ireturn, 1) := by decide +kernel
theorem dL_gift_21 : decode cL_gift 21 = .ok (.astore 4, 2) := by decide +kernel
theorem dL_gift_23 : decode cL_gift 23 = .ok (.iconst 3, 1) := by decide +kernel
theorem dL_gift_24 : decode cL_gift 24 = .ok (.ireturn, 1) := by decide +kernel
theorem dL_gift_25 : decode cL_gift 25 = .ok (.iconst 0, 1) := by decide +kernel
theorem dL_gift_26 : decode cL_gift 26 = .ok (.ireturn, 1) := by decide +kernel
theorem dL_plan_0 : decode cL_plan 0 = .ok (.aload_n 2, 1) := by decide +kernel
theorem dL_plan_1 : decode cL_plan 1 = .ok (.iconst 0, 1) := by decide +kernel
theorem dL_plan_2 : decode cL_plan 2 = .ok (.aload_n 0, 1) := by decide +kernel
theorem dL_plan_3 : decode cL_plan 3 = .ok (.iload_n 1, 1) := by decide +kernel
theorem dL_plan_4 : decode cL_plan 4 = .ok (.invokevirtual 85, 3) := by decide +kernel
theorem dL_plan_7 : decode cL_plan 7 = .ok (.i2l, 1) := by decide +kernel
theorem dL_plan_8 : decode cL_plan 8 = .ok (.lastore, 1) := by decide +kernel
theorem dL_plan_9 : decode cL_plan 9 = .ok (.goto 6, 3) := by decide +kernel
theorem dL_plan_12 : decode cL_plan 12 = .ok (.astore_n 3, 1) := by decide +kernel
theorem dL_plan_13 : decode cL_plan 13 = .ok (.iconst 1, 1) := by decide +kernel
theorem dL_plan_14 : decode cL_plan 14 = .ok (.ireturn, 1) := by decide +kernel
theorem dL_plan_15 : decode cL_plan 15 = .ok (.iconst 0, 1) := by decide +kernel
theorem dL_plan_16 : decode cL_plan 16 = .ok (.ireturn, 1) := by decide +kernel
theorem dL_law_0 : decode cL_law 0 = .ok (.new 8, 3) := by decide +kernel
theorem dL_law_3 : decode cL_law 3 = .ok (.dup, 1) := by decide +kernel
theorem dL_law_4 : decode cL_law 4 = .ok (.invokespecial 88, 3) := by decide +kernel
theorem dL_law_7 : decode cL_law 7 = .ok (.astore_n 1, 1) := by decide +kernel
theorem dL_law_8 : decode cL_law 8 = .ok (.new 89, 3) := by decide +kernel
theorem dL_law_11 : decode cL_law 11 = .ok (.dup, 1) := by decide +kernel
theorem dL_law_12 : decode cL_law 12 = .ok (.invokespecial 91, 3) := by decide +kernel
theorem dL_law_15 : decode cL_law 15 = .ok (.astore_n 2, 1) := by decide +kernel
theorem dL_law_16 : decode cL_law 16 = .ok (.iconst 1, 1) := by decide +kernel
theorem dL_law_17 : decode cL_law 17 = .ok (.newarray .long, 2) := by decide +kernel
theorem dL_law_19 : decode cL_law 19 = .ok (.astore_n 3, 1) := by decide +kernel
theorem dL_law_20 : decode cL_law 20 = .ok (.iconst 0, 1) := by decide +kernel
theorem dL_law_21 : decode cL_law 21 = .ok (.istore 4, 2) := by decide +kernel
theorem dL_law_23 : decode cL_law 23 = .ok (.iload 4, 2) := by decide +kernel
theorem dL_law_25 : decode cL_law 25 = .ok (.aload_n 0, 1) := by decide +kernel
theorem dL_law_26 : decode cL_law 26 = .ok (.arraylength, 1) := by decide +kernel
theorem dL_law_27 : decode cL_law 27 = .ok (.bipush 6, 2) := by decide +kernel
theorem dL_law_29 : decode cL_law 29 = .ok (.isub, 1) := by decide +kernel
theorem dL_law_30 : decode cL_law 30 = .ok (.if_icmp .gt 1555, 3) := by decide +kernel
theorem dL_law_33 : decode cL_law 33 = .ok (.aload_n 0, 1) := by decide +kernel
theorem dL_law_34 : decode cL_law 34 = .ok (.iload 4, 2) := by decide +kernel
theorem dL_law_36 : decode cL_law 36 = .ok (.iaload, 1) := by decide +kernel
theorem dL_law_37 : decode cL_law 37 = .ok (.bipush 31, 2) := by decide +kernel
theorem dL_law_39 : decode cL_law 39 = .ok (.iand, 1) := by decide +kernel
theorem dL_law_40 : decode cL_law 40 = .ok (.tableswitch 1539 0 21 #[104, 148, 220, 276, 356, 412, 468, 536, 592, 696, 752, 832, 888, 951, 1019, 1087, 1155, 1223, 1279, 1347, 1415, 1483], 104) := by decide +kernel
theorem dL_law_144 : decode cL_law 144 = .ok (.aload_n 1, 1) := by decide +kernel
theorem dL_law_145 : decode cL_law 145 = .ok (.aload_n 3, 1) := by decide +kernel
theorem dL_law_146 : decode cL_law 146 = .ok (.invokestatic 92, 3) := by decide +kernel
theorem dL_law_149 : decode cL_law 149 = .ok (.istore 5, 2) := by decide +kernel
theorem dL_law_151 : decode cL_law 151 = .ok (.aload_n 2, 1) := by decide +kernel
theorem dL_law_152 : decode cL_law 152 = .ok (.invokevirtual 97, 3) := by decide +kernel
theorem dL_law_155 : decode cL_law 155 = .ok (.istore 6, 2) := by decide +kernel
theorem dL_law_157 : decode cL_law 157 = .ok (.aload_n 2, 1) := by decide +kernel
theorem dL_law_158 : decode cL_law 158 = .ok (.invokevirtual 98, 3) := by decide +kernel
theorem dL_law_161 : decode cL_law 161 = .ok (.iload 5, 2) := by decide +kernel
theorem dL_law_163 : decode cL_law 163 = .ok (.if_icmp .eq 5, 3) := by decide +kernel
theorem dL_law_166 : decode cL_law 166 = .ok (.iconst 0, 1) := by decide +kernel
theorem dL_law_167 : decode cL_law 167 = .ok (.ireturn, 1) := by decide +kernel
theorem dL_law_168 : decode cL_law 168 = .ok (.iload 5, 2) := by decide +kernel
theorem dL_law_170 : decode cL_law 170 = .ok (.ifCond .ne 15, 3) := by decide +kernel
theorem dL_law_173 : decode cL_law 173 = .ok (.aload_n 3, 1) := by decide +kernel
theorem dL_law_174 : decode cL_law 174 = .ok (.iconst 0, 1) := by decide +kernel
theorem dL_law_175 : decode cL_law 175 = .ok (.laload, 1) := by decide +kernel
theorem dL_law_176 : decode cL_law 176 = .ok (.iload 6, 2) := by decide +kernel
theorem dL_law_178 : decode cL_law 178 = .ok (.i2l, 1) := by decide +kernel
theorem dL_law_179 : decode cL_law 179 = .ok (.lcmp, 1) := by decide +kernel
theorem dL_law_180 : decode cL_law 180 = .ok (.ifCond .eq 5, 3) := by decide +kernel
theorem dL_law_183 : decode cL_law 183 = .ok (.iconst 0, 1) := by decide +kernel
theorem dL_law_184 : decode cL_law 184 = .ok (.ireturn, 1) := by decide +kernel
theorem dL_law_185 : decode cL_law 185 = .ok (.goto 1394, 3) := by decide +kernel
theorem dL_law_188 : decode cL_law 188 = .ok (.aload_n 1, 1) := by decide +kernel
theorem dL_law_189 : decode cL_law 189 = .ok (.aload_n 0, 1) := by decide +kernel
theorem dL_law_190 : decode cL_law 190 = .ok (.iload 4, 2) := by decide +kernel
theorem dL_law_192 : decode cL_law 192 = .ok (.iconst 1, 1) := by decide +kernel
theorem dL_law_193 : decode cL_law 193 = .ok (.iadd, 1) := by decide +kernel
theorem dL_law_194 : decode cL_law 194 = .ok (.iaload, 1) := by decide +kernel
theorem dL_law_195 : decode cL_law 195 = .ok (.aload_n 0, 1) := by decide +kernel
theorem dL_law_196 : decode cL_law 196 = .ok (.iload 4, 2) := by decide +kernel
theorem dL_law_198 : decode cL_law 198 = .ok (.iconst 2, 1) := by decide +kernel
theorem dL_law_199 : decode cL_law 199 = .ok (.iadd, 1) := by decide +kernel
theorem dL_law_200 : decode cL_law 200 = .ok (.iaload, 1) := by decide +kernel
theorem dL_law_201 : decode cL_law 201 = .ok (.aload_n 0, 1) := by decide +kernel
theorem dL_law_202 : decode cL_law 202 = .ok (.iload 4, 2) := by decide +kernel
theorem dL_law_204 : decode cL_law 204 = .ok (.iconst 3, 1) := by decide +kernel
theorem dL_law_205 : decode cL_law 205 = .ok (.iadd, 1) := by decide +kernel
theorem dL_law_206 : decode cL_law 206 = .ok (.iaload, 1) := by decide +kernel
theorem dL_law_207 : decode cL_law 207 = .ok (.aload_n 0, 1) := by decide +kernel
theorem dL_law_208 : decode cL_law 208 = .ok (.iload 4, 2) := by decide +kernel
theorem dL_law_210 : decode cL_law 210 = .ok (.iconst 4, 1) := by decide +kernel
theorem dL_law_211 : decode cL_law 211 = .ok (.iadd, 1) := by decide +kernel
theorem dL_law_212 : decode cL_law 212 = .ok (.iaload, 1) := by decide +kernel
theorem dL_law_213 : decode cL_law 213 = .ok (.invokestatic 101, 3) := by decide +kernel
theorem dL_law_216 : decode cL_law 216 = .ok (.istore 5, 2) := by decide +kernel
theorem dL_law_218 : decode cL_law 218 = .ok (.aload_n 2, 1) := by decide +kernel
theorem dL_law_219 : decode cL_law 219 = .ok (.aload_n 0, 1) := by decide +kernel
theorem dL_law_220 : decode cL_law 220 = .ok (.iload 4, 2) := by decide +kernel
theorem dL_law_222 : decode cL_law 222 = .ok (.iconst 1, 1) := by decide +kernel
theorem dL_law_223 : decode cL_law 223 = .ok (.iadd, 1) := by decide +kernel
theorem dL_law_224 : decode cL_law 224 = .ok (.iaload, 1) := by decide +kernel
theorem dL_law_225 : decode cL_law 225 = .ok (.aload_n 0, 1) := by decide +kernel
theorem dL_law_226 : decode cL_law 226 = .ok (.iload 4, 2) := by decide +kernel
theorem dL_law_228 : decode cL_law 228 = .ok (.iconst 2, 1) := by decide +kernel
theorem dL_law_229 : decode cL_law 229 = .ok (.iadd, 1) := by decide +kernel
theorem dL_law_230 : decode cL_law 230 = .ok (.iaload, 1) := by decide +kernel
theorem dL_law_231 : decode cL_law 231 = .ok (.aload_n 0, 1) := by decide +kernel
theorem dL_law_232 : decode cL_law 232 = .ok (.iload 4, 2) := by decide +kernel
theorem dL_law_234 : decode cL_law 234 = .ok (.iconst 3, 1) := by decide +kernel
theorem dL_law_235 : decode cL_law 235 = .ok (.iadd, 1) := by decide +kernel
theorem dL_law_236 : decode cL_law 236 = .ok (.iaload, 1) := by decide +kernel
theorem dL_law_237 : decode cL_law 237 = .ok (.aload_n 0, 1) := by decide +kernel
theorem dL_law_238 : decode cL_law 238 = .ok (.iload 4, 2) := by decide +kernel
theorem dL_law_240 : decode cL_law 240 = .ok (.iconst 4, 1) := by decide +kernel
theorem dL_law_241 : decode cL_law 241 = .ok (.iadd, 1) := by decide +kernel
theorem dL_law_242 : decode cL_law 242 = .ok (.iaload, 1) := by decide +kernel
theorem dL_law_243 : decode cL_law 243 = .ok (.invokevirtual 104, 3) := by decide +kernel
theorem dL_law_246 : decode cL_law 246 = .ok (.aload_n 2, 1) := by decide +kernel
theorem dL_law_247 : decode cL_law 247 = .ok (.invokevirtual 98, 3) := by decide +kernel
theorem dL_law_250 : decode cL_law 250 = .ok (.iload 5, 2) := by decide +kernel
theorem dL_law_252 : decode cL_law 252 = .ok (.if_icmp .eq 5, 3) := by decide +kernel
theorem dL_law_255 : decode cL_law 255 = .ok (.iconst 0, 1) := by decide +kernel
theorem dL_law_256 : decode cL_law 256 = .ok (.ireturn, 1) := by decide +kernel
theorem dL_law_257 : decode cL_law 257 = .ok (.goto 1322, 3) := by decide +kernel
theorem dL_law_260 : decode cL_law 260 = .ok (.aload_n 1, 1) := by decide +kernel
theorem dL_law_261 : decode cL_law 261 = .ok (.aload_n 0, 1) := by decide +kernel
theorem dL_law_262 : decode cL_law 262 = .ok (.iload 4, 2) := by decide +kernel
theorem dL_law_264 : decode cL_law 264 = .ok (.iconst 1, 1) := by decide +kernel
theorem dL_law_265 : decode cL_law 265 = .ok (.iadd, 1) := by decide +kernel
theorem dL_law_266 : decode cL_law 266 = .ok (.iaload, 1) := by decide +kernel
theorem dL_law_267 : decode cL_law 267 = .ok (.aload_n 3, 1) := by decide +kernel
theorem dL_law_268 : decode cL_law 268 = .ok (.invokestatic 105, 3) := by decide +kernel
theorem dL_law_271 : decode cL_law 271 = .ok (.istore 5, 2) := by decide +kernel
theorem dL_law_273 : decode cL_law 273 = .ok (.aload_n 2, 1) := by decide +kernel
theorem dL_law_274 : decode cL_law 274 = .ok (.aload_n 0, 1) := by decide +kernel
theorem dL_law_275 : decode cL_law 275 = .ok (.iload 4, 2) := by decide +kernel
theorem dL_law_277 : decode cL_law 277 = .ok (.iconst 1, 1) := by decide +kernel
theorem dL_law_278 : decode cL_law 278 = .ok (.iadd, 1) := by decide +kernel
theorem dL_law_279 : decode cL_law 279 = .ok (.iaload, 1) := by decide +kernel
theorem dL_law_280 : decode cL_law 280 = .ok (.invokevirtual 108, 3) := by decide +kernel
theorem dL_law_283 : decode cL_law 283 = .ok (.istore 6, 2) := by decide +kernel
theorem dL_law_285 : decode cL_law 285 = .ok (.aload_n 2, 1) := by decide +kernel
theorem dL_law_286 : decode cL_law 286 = .ok (.invokevirtual 98, 3) := by decide +kernel
theorem dL_law_289 : decode cL_law 289 = .ok (.iload 5, 2) := by decide +kernel
theorem dL_law_291 : decode cL_law 291 = .ok (.if_icmp .eq 5, 3) := by decide +kernel
theorem dL_law_294 : decode cL_law 294 = .ok (.iconst 0, 1) := by decide +kernel
theorem dL_law_295 : decode cL_law 295 = .ok (.ireturn, 1) := by decide +kernel
theorem dL_law_296 : decode cL_law 296 = .ok (.iload 5, 2) := by decide +kernel
theorem dL_law_298 : decode cL_law 298 = .ok (.ifCond .ne 15, 3) := by decide +kernel
theorem dL_law_301 : decode cL_law 301 = .ok (.aload_n 3, 1) := by decide +kernel
theorem dL_law_302 : decode cL_law 302 = .ok (.iconst 0, 1) := by decide +kernel
theorem dL_law_303 : decode cL_law 303 = .ok (.laload, 1) := by decide +kernel
theorem dL_law_304 : decode cL_law 304 = .ok (.iload 6, 2) := by decide +kernel
theorem dL_law_306 : decode cL_law 306 = .ok (.i2l, 1) := by decide +kernel
theorem dL_law_307 : decode cL_law 307 = .ok (.lcmp, 1) := by decide +kernel
theorem dL_law_308 : decode cL_law 308 = .ok (.ifCond .eq 5, 3) := by decide +kernel
theorem dL_law_311 : decode cL_law 311 = .ok (.iconst 0, 1) := by decide +kernel
theorem dL_law_312 : decode cL_law 312 = .ok (.ireturn, 1) := by decide +kernel
theorem dL_law_313 : decode cL_law 313 = .ok (.goto 1266, 3) := by decide +kernel
theorem dL_law_316 : decode cL_law 316 = .ok (.aload_n 1, 1) := by decide +kernel
theorem dL_law_317 : decode cL_law 317 = .ok (.aload_n 0, 1) := by decide +kernel
theorem dL_law_318 : decode cL_law 318 = .ok (.iload 4, 2) := by decide +kernel
theorem dL_law_320 : decode cL_law 320 = .ok (.iconst 1, 1) := by decide +kernel
theorem dL_law_321 : decode cL_law 321 = .ok (.iadd, 1) := by decide +kernel
theorem dL_law_322 : decode cL_law 322 = .ok (.iaload, 1) := by decide +kernel
theorem dL_law_323 : decode cL_law 323 = .ok (.aload_n 0, 1) := by decide +kernel
theorem dL_law_324 : decode cL_law 324 = .ok (.iload 4, 2) := by decide +kernel
theorem dL_law_326 : decode cL_law 326 = .ok (.iconst 2, 1) := by decide +kernel
theorem dL_law_327 : decode cL_law 327 = .ok (.iadd, 1) := by decide +kernel
theorem dL_law_328 : decode cL_law 328 = .ok (.iaload, 1) := by decide +kernel
theorem dL_law_329 : decode cL_law 329 = .ok (.aload_n 0, 1) := by decide +kernel
theorem dL_law_330 : decode cL_law 330 = .ok (.iload 4, 2) := by decide +kernel
theorem dL_law_332 : decode cL_law 332 = .ok (.iconst 3, 1) := by decide +kernel
theorem dL_law_333 : decode cL_law 333 = .ok (.iadd, 1) := by decide +kernel
theorem dL_law_334 : decode cL_law 334 = .ok (.iaload, 1) := by decide +kernel
theorem dL_law_335 : decode cL_law 335 = .ok (.aload_n 3, 1) := by decide +kernel
theorem dL_law_336 : decode cL_law 336 = .ok (.invokestatic 109, 3) := by decide +kernel
theorem dL_law_339 : decode cL_law 339 = .ok (.istore 5, 2) := by decide +kernel
theorem dL_law_341 : decode cL_law 341 = .ok (.aload_n 2, 1) := by decide +kernel
theorem dL_law_342 : decode cL_law 342 = .ok (.aload_n 0, 1) := by decide +kernel
theorem dL_law_343 : decode cL_law 343 = .ok (.iload 4, 2) := by decide +kernel
theorem dL_law_345 : decode cL_law 345 = .ok (.iconst 1, 1) := by decide +kernel
theorem dL_law_346 : decode cL_law 346 = .ok (.iadd, 1) := by decide +kernel
theorem dL_law_347 : decode cL_law 347 = .ok (.iaload, 1) := by decide +kernel
theorem dL_law_348 : decode cL_law 348 = .ok (.aload_n 0, 1) := by decide +kernel
theorem dL_law_349 : decode cL_law 349 = .ok (.iload 4, 2) := by decide +kernel
theorem dL_law_351 : decode cL_law 351 = .ok (.iconst 2, 1) := by decide +kernel
theorem dL_law_352 : decode cL_law 352 = .ok (.iadd, 1) := by decide +kernel
theorem dL_law_353 : decode cL_law 353 = .ok (.iaload, 1) := by decide +kernel
theorem dL_law_354 : decode cL_law 354 = .ok (.aload_n 0, 1) := by decide +kernel
theorem dL_law_355 : decode cL_law 355 = .ok (.iload 4, 2) := by decide +kernel
theorem dL_law_357 : decode cL_law 357 = .ok (.iconst 3, 1) := by decide +kernel
theorem dL_law_358 : decode cL_law 358 = .ok (.iadd, 1) := by decide +kernel
theorem dL_law_359 : decode cL_law 359 = .ok (.iaload, 1) := by decide +kernel
theorem dL_law_360 : decode cL_law 360 = .ok (.invokevirtual 112, 3) := by decide +kernel
theorem dL_law_363 : decode cL_law 363 = .ok (.istore 6, 2) := by decide +kernel
theorem dL_law_365 : decode cL_law 365 = .ok (.aload_n 2, 1) := by decide +kernel
theorem dL_law_366 : decode cL_law 366 = .ok (.invokevirtual 98, 3) := by decide +kernel
theorem dL_law_369 : decode cL_law 369 = .ok (.iload 5, 2) := by decide +kernel
theorem dL_law_371 : decode cL_law 371 = .ok (.if_icmp .eq 5, 3) := by decide +kernel
theorem dL_law_374 : decode cL_law 374 = .ok (.iconst 0, 1) := by decide +kernel
theorem dL_law_375 : decode cL_law 375 = .ok (.ireturn, 1) := by decide +kernel
theorem dL_law_376 : decode cL_law 376 = .ok (.iload 5, 2) := by decide +kernel
theorem dL_law_378 : decode cL_law 378 = .ok (.ifCond .ne 15, 3) := by decide +kernel
theorem dL_law_381 : decode cL_law 381 = .ok (.aload_n 3, 1) := by decide +kernel
theorem dL_law_382 : decode cL_law 382 = .ok (.iconst 0, 1) := by decide +kernel
theorem dL_law_383 : decode cL_law 383 = .ok (.laload, 1) := by decide +kernel
theorem dL_law_384 : decode cL_law 384 = .ok (.iload 6, 2) := by decide +kernel
theorem dL_law_386 : decode cL_law 386 = .ok (.i2l, 1) := by decide +kernel
theorem dL_law_387 : decode cL_law 387 = .ok (.lcmp, 1) := by decide +kernel
theorem dL_law_388 : decode cL_law 388 = .ok (.ifCond .eq 5, 3) := by decide +kernel
theorem dL_law_391 : decode cL_law 391 = .ok (.iconst 0, 1) := by decide +kernel
theorem dL_law_392 : decode cL_law 392 = .ok (.ireturn, 1) := by decide +kernel
theorem dL_law_393 : decode cL_law 393 = .ok (.goto 1186, 3) := by decide +kernel
theorem dL_law_396 : decode cL_law 396 = .ok (.aload_n 1, 1) := by decide +kernel
theorem dL_law_397 : decode cL_law 397 = .ok (.aload_n 0, 1) := by decide +kernel
theorem dL_law_398 : decode cL_law 398 = .ok (.iload 4, 2) := by decide +kernel
theorem dL_law_400 : decode cL_law 400 = .ok (.iconst 1, 1) := by decide +kernel
theorem dL_law_401 : decode cL_law 401 = .ok (.iadd, 1) := by decide +kernel
theorem dL_law_402 : decode cL_law 402 = .ok (.iaload, 1) := by decide +kernel
theorem dL_law_403 : decode cL_law 403 = .ok (.aload_n 3, 1) := by decide +kernel
theorem dL_law_404 : decode cL_law 404 = .ok (.invokestatic 113, 3) := by decide +kernel
theorem dL_law_407 : decode cL_law 407 = .ok (.istore 5, 2) := by decide +kernel
theorem dL_law_409 : decode cL_law 409 = .ok (.aload_n 2, 1) := by decide +kernel
theorem dL_law_410 : decode cL_law 410 = .ok (.aload_n 0, 1) := by decide +kernel
theorem dL_law_411 : decode cL_law 411 = .ok (.iload 4, 2) := by decide +kernel
theorem dL_law_413 : decode cL_law 413 = .ok (.iconst 1, 1) := by decide +kernel
theorem dL_law_414 : decode cL_law 414 = .ok (.iadd, 1) := by decide +kernel
theorem dL_law_415 : decode cL_law 415 = .ok (.iaload, 1) := by decide +kernel
theorem dL_law_416 : decode cL_law 416 = .ok (.invokevirtual 115, 3) := by decide +kernel
theorem dL_law_419 : decode cL_law 419 = .ok (.istore 6, 2) := by decide +kernel
theorem dL_law_421 : decode cL_law 421 = .ok (.aload_n 2, 1) := by decide +kernel
theorem dL_law_422 : decode cL_law 422 = .ok (.invokevirtual 98, 3) := by decide +kernel
theorem dL_law_425 : decode cL_law 425 = .ok (.iload 5, 2) := by decide +kernel
theorem dL_law_427 : decode cL_law 427 = .ok (.if_icmp .eq 5, 3) := by decide +kernel
theorem dL_law_430 : decode cL_law 430 = .ok (.iconst 0, 1) := by decide +kernel
theorem dL_law_431 : decode cL_law 431 = .ok (.ireturn, 1) := by decide +kernel
theorem dL_law_432 : decode cL_law 432 = .ok (.iload 5, 2) := by decide +kernel
theorem dL_law_434 : decode cL_law 434 = .ok (.ifCond .ne 15, 3) := by decide +kernel
theorem dL_law_437 : decode cL_law 437 = .ok (.aload_n 3, 1) := by decide +kernel
theorem dL_law_438 : decode cL_law 438 = .ok (.iconst 0, 1) := by decide +kernel
theorem dL_law_439 : decode cL_law 439 = .ok (.laload, 1) := by decide +kernel
theorem dL_law_440 : decode cL_law 440 = .ok (.iload 6, 2) := by decide +kernel
theorem dL_law_442 : decode cL_law 442 = .ok (.i2l, 1) := by decide +kernel
theorem dL_law_443 : decode cL_law 443 = .ok (.lcmp, 1) := by decide +kernel
theorem dL_law_444 : decode cL_law 444 = .ok (.ifCond .eq 5, 3) := by decide +kernel
theorem dL_law_447 : decode cL_law 447 = .ok (.iconst 0, 1) := by decide +kernel
theorem dL_law_448 : decode cL_law 448 = .ok (.ireturn, 1) := by decide +kernel
theorem dL_law_449 : decode cL_law 449 = .ok (.goto 1130, 3) := by decide +kernel
theorem dL_law_452 : decode cL_law 452 = .ok (.aload_n 1, 1) := by decide +kernel
theorem dL_law_453 : decode cL_law 453 = .ok (.aload_n 0, 1) := by decide +kernel
theorem dL_law_454 : decode cL_law 454 = .ok (.iload 4, 2) := by decide +kernel
theorem dL_law_456 : decode cL_law 456 = .ok (.iconst 1, 1) := by decide +kernel
theorem dL_law_457 : decode cL_law 457 = .ok (.iadd, 1) := by decide +kernel
theorem dL_law_458 : decode cL_law 458 = .ok (.iaload, 1) := by decide +kernel
theorem dL_law_459 : decode cL_law 459 = .ok (.aload_n 3, 1) := by decide +kernel
theorem dL_law_460 : decode cL_law 460 = .ok (.invokestatic 116, 3) := by decide +kernel
theorem dL_law_463 : decode cL_law 463 = .ok (.istore 5, 2) := by decide +kernel
theorem dL_law_465 : decode cL_law 465 = .ok (.aload_n 2, 1) := by decide +kernel
theorem dL_law_466 : decode cL_law 466 = .ok (.aload_n 0, 1) := by decide +kernel
theorem dL_law_467 : decode cL_law 467 = .ok (.iload 4, 2) := by decide +kernel
theorem dL_law_469 : decode cL_law 469 = .ok (.iconst 1, 1) := by decide +kernel
theorem dL_law_470 : decode cL_law 470 = .ok (.iadd, 1) := by decide +kernel
theorem dL_law_471 : decode cL_law 471 = .ok (.iaload, 1) := by decide +kernel
theorem dL_law_472 : decode cL_law 472 = .ok (.invokevirtual 118, 3) := by decide +kernel
theorem dL_law_475 : decode cL_law 475 = .ok (.istore 6, 2) := by decide +kernel
theorem dL_law_477 : decode cL_law 477 = .ok (.aload_n 2, 1) := by decide +kernel
theorem dL_law_478 : decode cL_law 478 = .ok (.invokevirtual 98, 3) := by decide +kernel
theorem dL_law_481 : decode cL_law 481 = .ok (.iload 5, 2) := by decide +kernel
theorem dL_law_483 : decode cL_law 483 = .ok (.if_icmp .eq 5, 3) := by decide +kernel
theorem dL_law_486 : decode cL_law 486 = .ok (.iconst 0, 1) := by decide +kernel
theorem dL_law_487 : decode cL_law 487 = .ok (.ireturn, 1) := by decide +kernel
theorem dL_law_488 : decode cL_law 488 = .ok (.iload 5, 2) := by decide +kernel
theorem dL_law_490 : decode cL_law 490 = .ok (.ifCond .ne 15, 3) := by decide +kernel
theorem dL_law_493 : decode cL_law 493 = .ok (.aload_n 3, 1) := by decide +kernel
theorem dL_law_494 : decode cL_law 494 = .ok (.iconst 0, 1) := by decide +kernel
theorem dL_law_495 : decode cL_law 495 = .ok (.laload, 1) := by decide +kernel
theorem dL_law_496 : decode cL_law 496 = .ok (.iload 6, 2) := by decide +kernel
theorem dL_law_498 : decode cL_law 498 = .ok (.i2l, 1) := by decide +kernel
theorem dL_law_499 : decode cL_law 499 = .ok (.lcmp, 1) := by decide +kernel
theorem dL_law_500 : decode cL_law 500 = .ok (.ifCond .eq 5, 3) := by decide +kernel
theorem dL_law_503 : decode cL_law 503 = .ok (.iconst 0, 1) := by decide +kernel
theorem dL_law_504 : decode cL_law 504 = .ok (.ireturn, 1) := by decide +kernel
theorem dL_law_505 : decode cL_law 505 = .ok (.goto 1074, 3) := by decide +kernel
theorem dL_law_508 : decode cL_law 508 = .ok (.aload_n 1, 1) := by decide +kernel
theorem dL_law_509 : decode cL_law 509 = .ok (.aload_n 0, 1) := by decide +kernel
theorem dL_law_510 : decode cL_law 510 = .ok (.iload 4, 2) := by decide +kernel
theorem dL_law_512 : decode cL_law 512 = .ok (.iconst 1, 1) := by decide +kernel
theorem dL_law_513 : decode cL_law 513 = .ok (.iadd, 1) := by decide +kernel
theorem dL_law_514 : decode cL_law 514 = .ok (.iaload, 1) := by decide +kernel
theorem dL_law_515 : decode cL_law 515 = .ok (.aload_n 0, 1) := by decide +kernel
theorem dL_law_516 : decode cL_law 516 = .ok (.iload 4, 2) := by decide +kernel
theorem dL_law_518 : decode cL_law 518 = .ok (.iconst 2, 1) := by decide +kernel
theorem dL_law_519 : decode cL_law 519 = .ok (.iadd, 1) := by decide +kernel
theorem dL_law_520 : decode cL_law 520 = .ok (.iaload, 1) := by decide +kernel
theorem dL_law_521 : decode cL_law 521 = .ok (.aload_n 3, 1) := by decide +kernel
theorem dL_law_522 : decode cL_law 522 = .ok (.invokestatic 119, 3) := by decide +kernel
theorem dL_law_525 : decode cL_law 525 = .ok (.istore 5, 2) := by decide +kernel
theorem dL_law_527 : decode cL_law 527 = .ok (.aload_n 2, 1) := by decide +kernel
theorem dL_law_528 : decode cL_law 528 = .ok (.aload_n 0, 1) := by decide +kernel
theorem dL_law_529 : decode cL_law 529 = .ok (.iload 4, 2) := by decide +kernel
theorem dL_law_531 : decode cL_law 531 = .ok (.iconst 1, 1) := by decide +kernel
theorem dL_law_532 : decode cL_law 532 = .ok (.iadd, 1) := by decide +kernel
theorem dL_law_533 : decode cL_law 533 = .ok (.iaload, 1) := by decide +kernel
theorem dL_law_534 : decode cL_law 534 = .ok (.aload_n 0, 1) := by decide +kernel
theorem dL_law_535 : decode cL_law 535 = .ok (.iload 4, 2) := by decide +kernel
theorem dL_law_537 : decode cL_law 537 = .ok (.iconst 2, 1) := by decide +kernel
theorem dL_law_538 : decode cL_law 538 = .ok (.iadd, 1) := by decide +kernel
theorem dL_law_539 : decode cL_law 539 = .ok (.iaload, 1) := by decide +kernel
theorem dL_law_540 : decode cL_law 540 = .ok (.invokevirtual 122, 3) := by decide +kernel
theorem dL_law_543 : decode cL_law 543 = .ok (.istore 6, 2) := by decide +kernel
theorem dL_law_545 : decode cL_law 545 = .ok (.aload_n 2, 1) := by decide +kernel
theorem dL_law_546 : decode cL_law 546 = .ok (.invokevirtual 98, 3) := by decide +kernel
theorem dL_law_549 : decode cL_law 549 = .ok (.iload 5, 2) := by decide +kernel
theorem dL_law_551 : decode cL_law 551 = .ok (.if_icmp .eq 5, 3) := by decide +kernel
theorem dL_law_554 : decode cL_law 554 = .ok (.iconst 0, 1) := by decide +kernel
theorem dL_law_555 : decode cL_law 555 = .ok (.ireturn, 1) := by decide +kernel
theorem dL_law_556 : decode cL_law 556 = .ok (.iload 5, 2) := by decide +kernel
theorem dL_law_558 : decode cL_law 558 = .ok (.ifCond .ne 15, 3) := by decide +kernel
theorem dL_law_561 : decode cL_law 561 = .ok (.aload_n 3, 1) := by decide +kernel
theorem dL_law_562 : decode cL_law 562 = .ok (.iconst 0, 1) := by decide +kernel
theorem dL_law_563 : decode cL_law 563 = .ok (.laload, 1) := by decide +kernel
theorem dL_law_564 : decode cL_law 564 = .ok (.iload 6, 2) := by decide +kernel
theorem dL_law_566 : decode cL_law 566 = .ok (.i2l, 1) := by decide +kernel
theorem dL_law_567 : decode cL_law 567 = .ok (.lcmp, 1) := by decide +kernel
theorem dL_law_568 : decode cL_law 568 = .ok (.ifCond .eq 5, 3) := by decide +kernel
theorem dL_law_571 : decode cL_law 571 = .ok (.iconst 0, 1) := by decide +kernel
theorem dL_law_572 : decode cL_law 572 = .ok (.ireturn, 1) := by decide +kernel
theorem dL_law_573 : decode cL_law 573 = .ok (.goto 1006, 3) := by decide +kernel
theorem dL_law_576 : decode cL_law 576 = .ok (.aload_n 1, 1) := by decide +kernel
theorem dL_law_577 : decode cL_law 577 = .ok (.aload_n 0, 1) := by decide +kernel
theorem dL_law_578 : decode cL_law 578 = .ok (.iload 4, 2) := by decide +kernel
theorem dL_law_580 : decode cL_law 580 = .ok (.iconst 1, 1) := by decide +kernel
theorem dL_law_581 : decode cL_law 581 = .ok (.iadd, 1) := by decide +kernel
end
section
theorem dL_law_582 : decode cL_law 582 = .ok (.iaload, 1) := by decide +kernel
theorem dL_law_583 : decode cL_law 583 = .ok (.aload_n 3, 1) := by decide +kernel
theorem dL_law_584 : decode cL_law 584 = .ok (.invokestatic 123, 3) := by decide +kernel
theorem dL_law_587 : decode cL_law 587 = .ok (.istore 5, 2) := by decide +kernel
theorem dL_law_589 : decode cL_law 589 = .ok (.aload_n 2, 1) := by decide +kernel
theorem dL_law_590 : decode cL_law 590 = .ok (.aload_n 0, 1) := by decide +kernel
theorem dL_law_591 : decode cL_law 591 = .ok (.iload 4, 2) := by decide +kernel
theorem dL_law_593 : decode cL_law 593 = .ok (.iconst 1, 1) := by decide +kernel
theorem dL_law_594 : decode cL_law 594 = .ok (.iadd, 1) := by decide +kernel
theorem dL_law_595 : decode cL_law 595 = .ok (.iaload, 1) := by decide +kernel
theorem dL_law_596 : decode cL_law 596 = .ok (.invokevirtual 125, 3) := by decide +kernel
theorem dL_law_599 : decode cL_law 599 = .ok (.istore 6, 2) := by decide +kernel
theorem dL_law_601 : decode cL_law 601 = .ok (.aload_n 2, 1) := by decide +kernel
theorem dL_law_602 : decode cL_law 602 = .ok (.invokevirtual 98, 3) := by decide +kernel
theorem dL_law_605 : decode cL_law 605 = .ok (.iload 5, 2) := by decide +kernel
theorem dL_law_607 : decode cL_law 607 = .ok (.if_icmp .eq 5, 3) := by decide +kernel
theorem dL_law_610 : decode cL_law 610 = .ok (.iconst 0, 1) := by decide +kernel
theorem dL_law_611 : decode cL_law 611 = .ok (.ireturn, 1) := by decide +kernel
theorem dL_law_612 : decode cL_law 612 = .ok (.iload 5, 2) := by decide +kernel
theorem dL_law_614 : decode cL_law 614 = .ok (.ifCond .ne 15, 3) := by decide +kernel
theorem dL_law_617 : decode cL_law 617 = .ok (.aload_n 3, 1) := by decide +kernel
theorem dL_law_618 : decode cL_law 618 = .ok (.iconst 0, 1) := by decide +kernel
theorem dL_law_619 : decode cL_law 619 = .ok (.laload, 1) := by decide +kernel
theorem dL_law_620 : decode cL_law 620 = .ok (.iload 6, 2) := by decide +kernel
theorem dL_law_622 : decode cL_law 622 = .ok (.i2l, 1) := by decide +kernel
theorem dL_law_623 : decode cL_law 623 = .ok (.lcmp, 1) := by decide +kernel
theorem dL_law_624 : decode cL_law 624 = .ok (.ifCond .eq 5, 3) := by decide +kernel
theorem dL_law_627 : decode cL_law 627 = .ok (.iconst 0, 1) := by decide +kernel
theorem dL_law_628 : decode cL_law 628 = .ok (.ireturn, 1) := by decide +kernel
theorem dL_law_629 : decode cL_law 629 = .ok (.goto 950, 3) := by decide +kernel
theorem dL_law_632 : decode cL_law 632 = .ok (.aload_n 1, 1) := by decide +kernel
theorem dL_law_633 : decode cL_law 633 = .ok (.aload_n 0, 1) := by decide +kernel
theorem dL_law_634 : decode cL_law 634 = .ok (.iload 4, 2) := by decide +kernel
theorem dL_law_636 : decode cL_law 636 = .ok (.iconst 1, 1) := by decide +kernel
theorem dL_law_637 : decode cL_law 637 = .ok (.iadd, 1) := by decide +kernel
theorem dL_law_638 : decode cL_law 638 = .ok (.iaload, 1) := by decide +kernel
theorem dL_law_639 : decode cL_law 639 = .ok (.aload_n 0, 1) := by decide +kernel
theorem dL_law_640 : decode cL_law 640 = .ok (.iload 4, 2) := by decide +kernel
theorem dL_law_642 : decode cL_law 642 = .ok (.iconst 2, 1) := by decide +kernel
theorem dL_law_643 : decode cL_law 643 = .ok (.iadd, 1) := by decide +kernel
theorem dL_law_644 : decode cL_law 644 = .ok (.iaload, 1) := by decide +kernel
theorem dL_law_645 : decode cL_law 645 = .ok (.aload_n 0, 1) := by decide +kernel
theorem dL_law_646 : decode cL_law 646 = .ok (.iload 4, 2) := by decide +kernel
theorem dL_law_648 : decode cL_law 648 = .ok (.iconst 3, 1) := by decide +kernel
theorem dL_law_649 : decode cL_law 649 = .ok (.iadd, 1) := by decide +kernel
theorem dL_law_650 : decode cL_law 650 = .ok (.iaload, 1) := by decide +kernel
theorem dL_law_651 : decode cL_law 651 = .ok (.aload_n 0, 1) := by decide +kernel
theorem dL_law_652 : decode cL_law 652 = .ok (.iload 4, 2) := by decide +kernel
theorem dL_law_654 : decode cL_law 654 = .ok (.iconst 4, 1) := by decide +kernel
theorem dL_law_655 : decode cL_law 655 = .ok (.iadd, 1) := by decide +kernel
theorem dL_law_656 : decode cL_law 656 = .ok (.iaload, 1) := by decide +kernel
theorem dL_law_657 : decode cL_law 657 = .ok (.aload_n 0, 1) := by decide +kernel
theorem dL_law_658 : decode cL_law 658 = .ok (.iload 4, 2) := by decide +kernel
theorem dL_law_660 : decode cL_law 660 = .ok (.iconst 5, 1) := by decide +kernel
theorem dL_law_661 : decode cL_law 661 = .ok (.iadd, 1) := by decide +kernel
theorem dL_law_662 : decode cL_law 662 = .ok (.iaload, 1) := by decide +kernel
theorem dL_law_663 : decode cL_law 663 = .ok (.aload_n 3, 1) := by decide +kernel
theorem dL_law_664 : decode cL_law 664 = .ok (.invokestatic 126, 3) := by decide +kernel
theorem dL_law_667 : decode cL_law 667 = .ok (.istore 5, 2) := by decide +kernel
theorem dL_law_669 : decode cL_law 669 = .ok (.aload_n 2, 1) := by decide +kernel
theorem dL_law_670 : decode cL_law 670 = .ok (.aload_n 0, 1) := by decide +kernel
theorem dL_law_671 : decode cL_law 671 = .ok (.iload 4, 2) := by decide +kernel
theorem dL_law_673 : decode cL_law 673 = .ok (.iconst 1, 1) := by decide +kernel
theorem dL_law_674 : decode cL_law 674 = .ok (.iadd, 1) := by decide +kernel
theorem dL_law_675 : decode cL_law 675 = .ok (.iaload, 1) := by decide +kernel
theorem dL_law_676 : decode cL_law 676 = .ok (.aload_n 0, 1) := by decide +kernel
theorem dL_law_677 : decode cL_law 677 = .ok (.iload 4, 2) := by decide +kernel
theorem dL_law_679 : decode cL_law 679 = .ok (.iconst 2, 1) := by decide +kernel
theorem dL_law_680 : decode cL_law 680 = .ok (.iadd, 1) := by decide +kernel
theorem dL_law_681 : decode cL_law 681 = .ok (.iaload, 1) := by decide +kernel
theorem dL_law_682 : decode cL_law 682 = .ok (.aload_n 0, 1) := by decide +kernel
theorem dL_law_683 : decode cL_law 683 = .ok (.iload 4, 2) := by decide +kernel
theorem dL_law_685 : decode cL_law 685 = .ok (.iconst 3, 1) := by decide +kernel
theorem dL_law_686 : decode cL_law 686 = .ok (.iadd, 1) := by decide +kernel
theorem dL_law_687 : decode cL_law 687 = .ok (.iaload, 1) := by decide +kernel
theorem dL_law_688 : decode cL_law 688 = .ok (.aload_n 0, 1) := by decide +kernel
theorem dL_law_689 : decode cL_law 689 = .ok (.iload 4, 2) := by decide +kernel
theorem dL_law_691 : decode cL_law 691 = .ok (.iconst 4, 1) := by decide +kernel
theorem dL_law_692 : decode cL_law 692 = .ok (.iadd, 1) := by decide +kernel
theorem dL_law_693 : decode cL_law 693 = .ok (.iaload, 1) := by decide +kernel
theorem dL_law_694 : decode cL_law 694 = .ok (.aload_n 0, 1) := by decide +kernel
theorem dL_law_695 : decode cL_law 695 = .ok (.iload 4, 2) := by decide +kernel
theorem dL_law_697 : decode cL_law 697 = .ok (.iconst 5, 1) := by decide +kernel
theorem dL_law_698 : decode cL_law 698 = .ok (.iadd, 1) := by decide +kernel
theorem dL_law_699 : decode cL_law 699 = .ok (.iaload, 1) := by decide +kernel
theorem dL_law_700 : decode cL_law 700 = .ok (.invokevirtual 129, 3) := by decide +kernel
theorem dL_law_703 : decode cL_law 703 = .ok (.istore 6, 2) := by decide +kernel
theorem dL_law_705 : decode cL_law 705 = .ok (.aload_n 2, 1) := by decide +kernel
theorem dL_law_706 : decode cL_law 706 = .ok (.invokevirtual 98, 3) := by decide +kernel
theorem dL_law_709 : decode cL_law 709 = .ok (.iload 5, 2) := by decide +kernel
theorem dL_law_711 : decode cL_law 711 = .ok (.if_icmp .eq 5, 3) := by decide +kernel
theorem dL_law_714 : decode cL_law 714 = .ok (.iconst 0, 1) := by decide +kernel
theorem dL_law_715 : decode cL_law 715 = .ok (.ireturn, 1) := by decide +kernel
theorem dL_law_716 : decode cL_law 716 = .ok (.iload 5, 2) := by decide +kernel
theorem dL_law_718 : decode cL_law 718 = .ok (.ifCond .ne 15, 3) := by decide +kernel
theorem dL_law_721 : decode cL_law 721 = .ok (.aload_n 3, 1) := by decide +kernel
theorem dL_law_722 : decode cL_law 722 = .ok (.iconst 0, 1) := by decide +kernel
theorem dL_law_723 : decode cL_law 723 = .ok (.laload, 1) := by decide +kernel
theorem dL_law_724 : decode cL_law 724 = .ok (.iload 6, 2) := by decide +kernel
theorem dL_law_726 : decode cL_law 726 = .ok (.i2l, 1) := by decide +kernel
theorem dL_law_727 : decode cL_law 727 = .ok (.lcmp, 1) := by decide +kernel
theorem dL_law_728 : decode cL_law 728 = .ok (.ifCond .eq 5, 3) := by decide +kernel
theorem dL_law_731 : decode cL_law 731 = .ok (.iconst 0, 1) := by decide +kernel
theorem dL_law_732 : decode cL_law 732 = .ok (.ireturn, 1) := by decide +kernel
theorem dL_law_733 : decode cL_law 733 = .ok (.goto 846, 3) := by decide +kernel
theorem dL_law_736 : decode cL_law 736 = .ok (.aload_n 1, 1) := by decide +kernel
theorem dL_law_737 : decode cL_law 737 = .ok (.aload_n 0, 1) := by decide +kernel
theorem dL_law_738 : decode cL_law 738 = .ok (.iload 4, 2) := by decide +kernel
theorem dL_law_740 : decode cL_law 740 = .ok (.iconst 1, 1) := by decide +kernel
theorem dL_law_741 : decode cL_law 741 = .ok (.iadd, 1) := by decide +kernel
theorem dL_law_742 : decode cL_law 742 = .ok (.iaload, 1) := by decide +kernel
theorem dL_law_743 : decode cL_law 743 = .ok (.aload_n 3, 1) := by decide +kernel
theorem dL_law_744 : decode cL_law 744 = .ok (.invokestatic 130, 3) := by decide +kernel
theorem dL_law_747 : decode cL_law 747 = .ok (.istore 5, 2) := by decide +kernel
theorem dL_law_749 : decode cL_law 749 = .ok (.aload_n 2, 1) := by decide +kernel
theorem dL_law_750 : decode cL_law 750 = .ok (.aload_n 0, 1) := by decide +kernel
theorem dL_law_751 : decode cL_law 751 = .ok (.iload 4, 2) := by decide +kernel
theorem dL_law_753 : decode cL_law 753 = .ok (.iconst 1, 1) := by decide +kernel
theorem dL_law_754 : decode cL_law 754 = .ok (.iadd, 1) := by decide +kernel
theorem dL_law_755 : decode cL_law 755 = .ok (.iaload, 1) := by decide +kernel
theorem dL_law_756 : decode cL_law 756 = .ok (.invokevirtual 132, 3) := by decide +kernel
theorem dL_law_759 : decode cL_law 759 = .ok (.istore 6, 2) := by decide +kernel
theorem dL_law_761 : decode cL_law 761 = .ok (.aload_n 2, 1) := by decide +kernel
theorem dL_law_762 : decode cL_law 762 = .ok (.invokevirtual 98, 3) := by decide +kernel
theorem dL_law_765 : decode cL_law 765 = .ok (.iload 5, 2) := by decide +kernel
theorem dL_law_767 : decode cL_law 767 = .ok (.if_icmp .eq 5, 3) := by decide +kernel
theorem dL_law_770 : decode cL_law 770 = .ok (.iconst 0, 1) := by decide +kernel
theorem dL_law_771 : decode cL_law 771 = .ok (.ireturn, 1) := by decide +kernel
theorem dL_law_772 : decode cL_law 772 = .ok (.iload 5, 2) := by decide +kernel
theorem dL_law_774 : decode cL_law 774 = .ok (.ifCond .ne 15, 3) := by decide +kernel
theorem dL_law_777 : decode cL_law 777 = .ok (.aload_n 3, 1) := by decide +kernel
theorem dL_law_778 : decode cL_law 778 = .ok (.iconst 0, 1) := by decide +kernel
theorem dL_law_779 : decode cL_law 779 = .ok (.laload, 1) := by decide +kernel
theorem dL_law_780 : decode cL_law 780 = .ok (.iload 6, 2) := by decide +kernel
theorem dL_law_782 : decode cL_law 782 = .ok (.i2l, 1) := by decide +kernel
theorem dL_law_783 : decode cL_law 783 = .ok (.lcmp, 1) := by decide +kernel
theorem dL_law_784 : decode cL_law 784 = .ok (.ifCond .eq 5, 3) := by decide +kernel
theorem dL_law_787 : decode cL_law 787 = .ok (.iconst 0, 1) := by decide +kernel
theorem dL_law_788 : decode cL_law 788 = .ok (.ireturn, 1) := by decide +kernel
theorem dL_law_789 : decode cL_law 789 = .ok (.goto 790, 3) := by decide +kernel
theorem dL_law_792 : decode cL_law 792 = .ok (.aload_n 1, 1) := by decide +kernel
theorem dL_law_793 : decode cL_law 793 = .ok (.aload_n 0, 1) := by decide +kernel
theorem dL_law_794 : decode cL_law 794 = .ok (.iload 4, 2) := by decide +kernel
theorem dL_law_796 : decode cL_law 796 = .ok (.iconst 1, 1) := by decide +kernel
theorem dL_law_797 : decode cL_law 797 = .ok (.iadd, 1) := by decide +kernel
theorem dL_law_798 : decode cL_law 798 = .ok (.iaload, 1) := by decide +kernel
theorem dL_law_799 : decode cL_law 799 = .ok (.aload_n 0, 1) := by decide +kernel
theorem dL_law_800 : decode cL_law 800 = .ok (.iload 4, 2) := by decide +kernel
theorem dL_law_802 : decode cL_law 802 = .ok (.iconst 2, 1) := by decide +kernel
theorem dL_law_803 : decode cL_law 803 = .ok (.iadd, 1) := by decide +kernel
theorem dL_law_804 : decode cL_law 804 = .ok (.iaload, 1) := by decide +kernel
theorem dL_law_805 : decode cL_law 805 = .ok (.aload_n 0, 1) := by decide +kernel
theorem dL_law_806 : decode cL_law 806 = .ok (.iload 4, 2) := by decide +kernel
theorem dL_law_808 : decode cL_law 808 = .ok (.iconst 3, 1) := by decide +kernel
theorem dL_law_809 : decode cL_law 809 = .ok (.iadd, 1) := by decide +kernel
theorem dL_law_810 : decode cL_law 810 = .ok (.iaload, 1) := by decide +kernel
theorem dL_law_811 : decode cL_law 811 = .ok (.aload_n 3, 1) := by decide +kernel
theorem dL_law_812 : decode cL_law 812 = .ok (.invokestatic 133, 3) := by decide +kernel
theorem dL_law_815 : decode cL_law 815 = .ok (.istore 5, 2) := by decide +kernel
theorem dL_law_817 : decode cL_law 817 = .ok (.aload_n 2, 1) := by decide +kernel
theorem dL_law_818 : decode cL_law 818 = .ok (.aload_n 0, 1) := by decide +kernel
theorem dL_law_819 : decode cL_law 819 = .ok (.iload 4, 2) := by decide +kernel
theorem dL_law_821 : decode cL_law 821 = .ok (.iconst 1, 1) := by decide +kernel
theorem dL_law_822 : decode cL_law 822 = .ok (.iadd, 1) := by decide +kernel
theorem dL_law_823 : decode cL_law 823 = .ok (.iaload, 1) := by decide +kernel
theorem dL_law_824 : decode cL_law 824 = .ok (.aload_n 0, 1) := by decide +kernel
theorem dL_law_825 : decode cL_law 825 = .ok (.iload 4, 2) := by decide +kernel
theorem dL_law_827 : decode cL_law 827 = .ok (.iconst 2, 1) := by decide +kernel
theorem dL_law_828 : decode cL_law 828 = .ok (.iadd, 1) := by decide +kernel
theorem dL_law_829 : decode cL_law 829 = .ok (.iaload, 1) := by decide +kernel
theorem dL_law_830 : decode cL_law 830 = .ok (.aload_n 0, 1) := by decide +kernel
theorem dL_law_831 : decode cL_law 831 = .ok (.iload 4, 2) := by decide +kernel
theorem dL_law_833 : decode cL_law 833 = .ok (.iconst 3, 1) := by decide +kernel
theorem dL_law_834 : decode cL_law 834 = .ok (.iadd, 1) := by decide +kernel
theorem dL_law_835 : decode cL_law 835 = .ok (.iaload, 1) := by decide +kernel
theorem dL_law_836 : decode cL_law 836 = .ok (.invokevirtual 135, 3) := by decide +kernel
theorem dL_law_839 : decode cL_law 839 = .ok (.istore 6, 2) := by decide +kernel
theorem dL_law_841 : decode cL_law 841 = .ok (.aload_n 2, 1) := by decide +kernel
theorem dL_law_842 : decode cL_law 842 = .ok (.invokevirtual 98, 3) := by decide +kernel
theorem dL_law_845 : decode cL_law 845 = .ok (.iload 5, 2) := by decide +kernel
theorem dL_law_847 : decode cL_law 847 = .ok (.if_icmp .eq 5, 3) := by decide +kernel
theorem dL_law_850 : decode cL_law 850 = .ok (.iconst 0, 1) := by decide +kernel
theorem dL_law_851 : decode cL_law 851 = .ok (.ireturn, 1) := by decide +kernel
theorem dL_law_852 : decode cL_law 852 = .ok (.iload 5, 2) := by decide +kernel
theorem dL_law_854 : decode cL_law 854 = .ok (.ifCond .ne 15, 3) := by decide +kernel
theorem dL_law_857 : decode cL_law 857 = .ok (.aload_n 3, 1) := by decide +kernel
theorem dL_law_858 : decode cL_law 858 = .ok (.iconst 0, 1) := by decide +kernel
theorem dL_law_859 : decode cL_law 859 = .ok (.laload, 1) := by decide +kernel
theorem dL_law_860 : decode cL_law 860 = .ok (.iload 6, 2) := by decide +kernel
theorem dL_law_862 : decode cL_law 862 = .ok (.i2l, 1) := by decide +kernel
theorem dL_law_863 : decode cL_law 863 = .ok (.lcmp, 1) := by decide +kernel
theorem dL_law_864 : decode cL_law 864 = .ok (.ifCond .eq 5, 3) := by decide +kernel
theorem dL_law_867 : decode cL_law 867 = .ok (.iconst 0, 1) := by decide +kernel
theorem dL_law_868 : decode cL_law 868 = .ok (.ireturn, 1) := by decide +kernel
theorem dL_law_869 : decode cL_law 869 = .ok (.goto 710, 3) := by decide +kernel
theorem dL_law_872 : decode cL_law 872 = .ok (.aload_n 1, 1) := by decide +kernel
theorem dL_law_873 : decode cL_law 873 = .ok (.aload_n 0, 1) := by decide +kernel
theorem dL_law_874 : decode cL_law 874 = .ok (.iload 4, 2) := by decide +kernel
theorem dL_law_876 : decode cL_law 876 = .ok (.iconst 1, 1) := by decide +kernel
theorem dL_law_877 : decode cL_law 877 = .ok (.iadd, 1) := by decide +kernel
theorem dL_law_878 : decode cL_law 878 = .ok (.iaload, 1) := by decide +kernel
theorem dL_law_879 : decode cL_law 879 = .ok (.aload_n 3, 1) := by decide +kernel
theorem dL_law_880 : decode cL_law 880 = .ok (.invokestatic 136, 3) := by decide +kernel
theorem dL_law_883 : decode cL_law 883 = .ok (.istore 5, 2) := by decide +kernel
theorem dL_law_885 : decode cL_law 885 = .ok (.aload_n 2, 1) := by decide +kernel
theorem dL_law_886 : decode cL_law 886 = .ok (.aload_n 0, 1) := by decide +kernel
theorem dL_law_887 : decode cL_law 887 = .ok (.iload 4, 2) := by decide +kernel
theorem dL_law_889 : decode cL_law 889 = .ok (.iconst 1, 1) := by decide +kernel
theorem dL_law_890 : decode cL_law 890 = .ok (.iadd, 1) := by decide +kernel
theorem dL_law_891 : decode cL_law 891 = .ok (.iaload, 1) := by decide +kernel
theorem dL_law_892 : decode cL_law 892 = .ok (.invokevirtual 138, 3) := by decide +kernel
theorem dL_law_895 : decode cL_law 895 = .ok (.istore 6, 2) := by decide +kernel
theorem dL_law_897 : decode cL_law 897 = .ok (.aload_n 2, 1) := by decide +kernel
theorem dL_law_898 : decode cL_law 898 = .ok (.invokevirtual 98, 3) := by decide +kernel
theorem dL_law_901 : decode cL_law 901 = .ok (.iload 5, 2) := by decide +kernel
theorem dL_law_903 : decode cL_law 903 = .ok (.if_icmp .eq 5, 3) := by decide +kernel
theorem dL_law_906 : decode cL_law 906 = .ok (.iconst 0, 1) := by decide +kernel
theorem dL_law_907 : decode cL_law 907 = .ok (.ireturn, 1) := by decide +kernel
theorem dL_law_908 : decode cL_law 908 = .ok (.iload 5, 2) := by decide +kernel
theorem dL_law_910 : decode cL_law 910 = .ok (.ifCond .ne 15, 3) := by decide +kernel
theorem dL_law_913 : decode cL_law 913 = .ok (.aload_n 3, 1) := by decide +kernel
theorem dL_law_914 : decode cL_law 914 = .ok (.iconst 0, 1) := by decide +kernel
theorem dL_law_915 : decode cL_law 915 = .ok (.laload, 1) := by decide +kernel
theorem dL_law_916 : decode cL_law 916 = .ok (.iload 6, 2) := by decide +kernel
theorem dL_law_918 : decode cL_law 918 = .ok (.i2l, 1) := by decide +kernel
theorem dL_law_919 : decode cL_law 919 = .ok (.lcmp, 1) := by decide +kernel
theorem dL_law_920 : decode cL_law 920 = .ok (.ifCond .eq 5, 3) := by decide +kernel
theorem dL_law_923 : decode cL_law 923 = .ok (.iconst 0, 1) := by decide +kernel
theorem dL_law_924 : decode cL_law 924 = .ok (.ireturn, 1) := by decide +kernel
theorem dL_law_925 : decode cL_law 925 = .ok (.goto 654, 3) := by decide +kernel
theorem dL_law_928 : decode cL_law 928 = .ok (.aload_n 1, 1) := by decide +kernel
theorem dL_law_929 : decode cL_law 929 = .ok (.aload_n 0, 1) := by decide +kernel
theorem dL_law_930 : decode cL_law 930 = .ok (.iload 4, 2) := by decide +kernel
theorem dL_law_932 : decode cL_law 932 = .ok (.iconst 1, 1) := by decide +kernel
theorem dL_law_933 : decode cL_law 933 = .ok (.iadd, 1) := by decide +kernel
theorem dL_law_934 : decode cL_law 934 = .ok (.iaload, 1) := by decide +kernel
theorem dL_law_935 : decode cL_law 935 = .ok (.aload_n 3, 1) := by decide +kernel
theorem dL_law_936 : decode cL_law 936 = .ok (.invokestatic 139, 3) := by decide +kernel
theorem dL_law_939 : decode cL_law 939 = .ok (.istore 5, 2) := by decide +kernel
theorem dL_law_941 : decode cL_law 941 = .ok (.aload_n 2, 1) := by decide +kernel
theorem dL_law_942 : decode cL_law 942 = .ok (.aload_n 0, 1) := by decide +kernel
theorem dL_law_943 : decode cL_law 943 = .ok (.iload 4, 2) := by decide +kernel
theorem dL_law_945 : decode cL_law 945 = .ok (.iconst 1, 1) := by decide +kernel
theorem dL_law_946 : decode cL_law 946 = .ok (.iadd, 1) := by decide +kernel
theorem dL_law_947 : decode cL_law 947 = .ok (.iaload, 1) := by decide +kernel
theorem dL_law_948 : decode cL_law 948 = .ok (.invokevirtual 141, 3) := by decide +kernel
theorem dL_law_951 : decode cL_law 951 = .ok (.istore 6, 2) := by decide +kernel
theorem dL_law_953 : decode cL_law 953 = .ok (.aload_n 2, 1) := by decide +kernel
theorem dL_law_954 : decode cL_law 954 = .ok (.invokevirtual 98, 3) := by decide +kernel
theorem dL_law_957 : decode cL_law 957 = .ok (.iload 5, 2) := by decide +kernel
theorem dL_law_959 : decode cL_law 959 = .ok (.if_icmp .eq 5, 3) := by decide +kernel
theorem dL_law_962 : decode cL_law 962 = .ok (.iconst 0, 1) := by decide +kernel
theorem dL_law_963 : decode cL_law 963 = .ok (.ireturn, 1) := by decide +kernel
theorem dL_law_964 : decode cL_law 964 = .ok (.iload 5, 2) := by decide +kernel
theorem dL_law_966 : decode cL_law 966 = .ok (.ifCond .ne 22, 3) := by decide +kernel
theorem dL_law_969 : decode cL_law 969 = .ok (.aload_n 3, 1) := by decide +kernel
theorem dL_law_970 : decode cL_law 970 = .ok (.iconst 0, 1) := by decide +kernel
theorem dL_law_971 : decode cL_law 971 = .ok (.laload, 1) := by decide +kernel
theorem dL_law_972 : decode cL_law 972 = .ok (.iload 6, 2) := by decide +kernel
theorem dL_law_974 : decode cL_law 974 = .ok (.ifCond .eq 7, 3) := by decide +kernel
theorem dL_law_977 : decode cL_law 977 = .ok (.lconst 1, 1) := by decide +kernel
theorem dL_law_978 : decode cL_law 978 = .ok (.goto 4, 3) := by decide +kernel
theorem dL_law_981 : decode cL_law 981 = .ok (.lconst 0, 1) := by decide +kernel
theorem dL_law_982 : decode cL_law 982 = .ok (.lcmp, 1) := by decide +kernel
theorem dL_law_983 : decode cL_law 983 = .ok (.ifCond .eq 5, 3) := by decide +kernel
theorem dL_law_986 : decode cL_law 986 = .ok (.iconst 0, 1) := by decide +kernel
theorem dL_law_987 : decode cL_law 987 = .ok (.ireturn, 1) := by decide +kernel
theorem dL_law_988 : decode cL_law 988 = .ok (.goto 591, 3) := by decide +kernel
theorem dL_law_991 : decode cL_law 991 = .ok (.aload_n 1, 1) := by decide +kernel
theorem dL_law_992 : decode cL_law 992 = .ok (.aload_n 0, 1) := by decide +kernel
theorem dL_law_993 : decode cL_law 993 = .ok (.iload 4, 2) := by decide +kernel
theorem dL_law_995 : decode cL_law 995 = .ok (.iconst 1, 1) := by decide +kernel
theorem dL_law_996 : decode cL_law 996 = .ok (.iadd, 1) := by decide +kernel
theorem dL_law_997 : decode cL_law 997 = .ok (.iaload, 1) := by decide +kernel
theorem dL_law_998 : decode cL_law 998 = .ok (.aload_n 0, 1) := by decide +kernel
theorem dL_law_999 : decode cL_law 999 = .ok (.iload 4, 2) := by decide +kernel
theorem dL_law_1001 : decode cL_law 1001 = .ok (.iconst 2, 1) := by decide +kernel
theorem dL_law_1002 : decode cL_law 1002 = .ok (.iadd, 1) := by decide +kernel
theorem dL_law_1003 : decode cL_law 1003 = .ok (.iaload, 1) := by decide +kernel
theorem dL_law_1004 : decode cL_law 1004 = .ok (.aload_n 3, 1) := by decide +kernel
theorem dL_law_1005 : decode cL_law 1005 = .ok (.invokestatic 142, 3) := by decide +kernel
theorem dL_law_1008 : decode cL_law 1008 = .ok (.istore 5, 2) := by decide +kernel
theorem dL_law_1010 : decode cL_law 1010 = .ok (.aload_n 2, 1) := by decide +kernel
theorem dL_law_1011 : decode cL_law 1011 = .ok (.aload_n 0, 1) := by decide +kernel
theorem dL_law_1012 : decode cL_law 1012 = .ok (.iload 4, 2) := by decide +kernel
theorem dL_law_1014 : decode cL_law 1014 = .ok (.iconst 1, 1) := by decide +kernel
theorem dL_law_1015 : decode cL_law 1015 = .ok (.iadd, 1) := by decide +kernel
theorem dL_law_1016 : decode cL_law 1016 = .ok (.iaload, 1) := by decide +kernel
theorem dL_law_1017 : decode cL_law 1017 = .ok (.aload_n 0, 1) := by decide +kernel
theorem dL_law_1018 : decode cL_law 1018 = .ok (.iload 4, 2) := by decide +kernel
theorem dL_law_1020 : decode cL_law 1020 = .ok (.iconst 2, 1) := by decide +kernel
theorem dL_law_1021 : decode cL_law 1021 = .ok (.iadd, 1) := by decide +kernel
theorem dL_law_1022 : decode cL_law 1022 = .ok (.iaload, 1) := by decide +kernel
theorem dL_law_1023 : decode cL_law 1023 = .ok (.invokevirtual 144, 3) := by decide +kernel
theorem dL_law_1026 : decode cL_law 1026 = .ok (.istore 6, 2) := by decide +kernel
theorem dL_law_1028 : decode cL_law 1028 = .ok (.aload_n 2, 1) := by decide +kernel
theorem dL_law_1029 : decode cL_law 1029 = .ok (.invokevirtual 98, 3) := by decide +kernel
theorem dL_law_1032 : decode cL_law 1032 = .ok (.iload 5, 2) := by decide +kernel
theorem dL_law_1034 : decode cL_law 1034 = .ok (.if_icmp .eq 5, 3) := by decide +kernel
theorem dL_law_1037 : decode cL_law 1037 = .ok (.iconst 0, 1) := by decide +kernel
theorem dL_law_1038 : decode cL_law 1038 = .ok (.ireturn, 1) := by decide +kernel
theorem dL_law_1039 : decode cL_law 1039 = .ok (.iload 5, 2) := by decide +kernel
theorem dL_law_1041 : decode cL_law 1041 = .ok (.ifCond .ne 15, 3) := by decide +kernel
theorem dL_law_1044 : decode cL_law 1044 = .ok (.aload_n 3, 1) := by decide +kernel
theorem dL_law_1045 : decode cL_law 1045 = .ok (.iconst 0, 1) := by decide +kernel
theorem dL_law_1046 : decode cL_law 1046 = .ok (.laload, 1) := by decide +kernel
theorem dL_law_1047 : decode cL_law 1047 = .ok (.iload 6, 2) := by decide +kernel
theorem dL_law_1049 : decode cL_law 1049 = .ok (.i2l, 1) := by decide +kernel
theorem dL_law_1050 : decode cL_law 1050 = .ok (.lcmp, 1) := by decide +kernel
theorem dL_law_1051 : decode cL_law 1051 = .ok (.ifCond .eq 5, 3) := by decide +kernel
theorem dL_law_1054 : decode cL_law 1054 = .ok (.iconst 0, 1) := by decide +kernel
theorem dL_law_1055 : decode cL_law 1055 = .ok (.ireturn, 1) := by decide +kernel
theorem dL_law_1056 : decode cL_law 1056 = .ok (.goto 523, 3) := by decide +kernel
theorem dL_law_1059 : decode cL_law 1059 = .ok (.aload_n 1, 1) := by decide +kernel
theorem dL_law_1060 : decode cL_law 1060 = .ok (.aload_n 0, 1) := by decide +kernel
theorem dL_law_1061 : decode cL_law 1061 = .ok (.iload 4, 2) := by decide +kernel
theorem dL_law_1063 : decode cL_law 1063 = .ok (.iconst 1, 1) := by decide +kernel
theorem dL_law_1064 : decode cL_law 1064 = .ok (.iadd, 1) := by decide +kernel
theorem dL_law_1065 : decode cL_law 1065 = .ok (.iaload, 1) := by decide +kernel
theorem dL_law_1066 : decode cL_law 1066 = .ok (.aload_n 0, 1) := by decide +kernel
theorem dL_law_1067 : decode cL_law 1067 = .ok (.iload 4, 2) := by decide +kernel
theorem dL_law_1069 : decode cL_law 1069 = .ok (.iconst 2, 1) := by decide +kernel
theorem dL_law_1070 : decode cL_law 1070 = .ok (.iadd, 1) := by decide +kernel
theorem dL_law_1071 : decode cL_law 1071 = .ok (.iaload, 1) := by decide +kernel
theorem dL_law_1072 : decode cL_law 1072 = .ok (.aload_n 3, 1) := by decide +kernel
theorem dL_law_1073 : decode cL_law 1073 = .ok (.invokestatic 145, 3) := by decide +kernel
theorem dL_law_1076 : decode cL_law 1076 = .ok (.istore 5, 2) := by decide +kernel
theorem dL_law_1078 : decode cL_law 1078 = .ok (.aload_n 2, 1) := by decide +kernel
theorem dL_law_1079 : decode cL_law 1079 = .ok (.aload_n 0, 1) := by decide +kernel
theorem dL_law_1080 : decode cL_law 1080 = .ok (.iload 4, 2) := by decide +kernel
theorem dL_law_1082 : decode cL_law 1082 = .ok (.iconst 1, 1) := by decide +kernel
theorem dL_law_1083 : decode cL_law 1083 = .ok (.iadd, 1) := by decide +kernel
theorem dL_law_1084 : decode cL_law 1084 = .ok (.iaload, 1) := by decide +kernel
theorem dL_law_1085 : decode cL_law 1085 = .ok (.aload_n 0, 1) := by decide +kernel
theorem dL_law_1086 : decode cL_law 1086 = .ok (.iload 4, 2) := by decide +kernel
theorem dL_law_1088 : decode cL_law 1088 = .ok (.iconst 2, 1) := by decide +kernel
theorem dL_law_1089 : decode cL_law 1089 = .ok (.iadd, 1) := by decide +kernel
theorem dL_law_1090 : decode cL_law 1090 = .ok (.iaload, 1) := by decide +kernel
theorem dL_law_1091 : decode cL_law 1091 = .ok (.invokevirtual 147, 3) := by decide +kernel
theorem dL_law_1094 : decode cL_law 1094 = .ok (.istore 6, 2) := by decide +kernel
theorem dL_law_1096 : decode cL_law 1096 = .ok (.aload_n 2, 1) := by decide +kernel
theorem dL_law_1097 : decode cL_law 1097 = .ok (.invokevirtual 98, 3) := by decide +kernel
theorem dL_law_1100 : decode cL_law 1100 = .ok (.iload 5, 2) := by decide +kernel
theorem dL_law_1102 : decode cL_law 1102 = .ok (.if_icmp .eq 5, 3) := by decide +kernel
theorem dL_law_1105 : decode cL_law 1105 = .ok (.iconst 0, 1) := by decide +kernel
theorem dL_law_1106 : decode cL_law 1106 = .ok (.ireturn, 1) := by decide +kernel
theorem dL_law_1107 : decode cL_law 1107 = .ok (.iload 5, 2) := by decide +kernel
theorem dL_law_1109 : decode cL_law 1109 = .ok (.ifCond .ne 15, 3) := by decide +kernel
theorem dL_law_1112 : decode cL_law 1112 = .ok (.aload_n 3, 1) := by decide +kernel
theorem dL_law_1113 : decode cL_law 1113 = .ok (.iconst 0, 1) := by decide +kernel
theorem dL_law_1114 : decode cL_law 1114 = .ok (.laload, 1) := by decide +kernel
theorem dL_law_1115 : decode cL_law 1115 = .ok (.iload 6, 2) := by decide +kernel
theorem dL_law_1117 : decode cL_law 1117 = .ok (.i2l, 1) := by decide +kernel
theorem dL_law_1118 : decode cL_law 1118 = .ok (.lcmp, 1) := by decide +kernel
theorem dL_law_1119 : decode cL_law 1119 = .ok (.ifCond .eq 5, 3) := by decide +kernel
theorem dL_law_1122 : decode cL_law 1122 = .ok (.iconst 0, 1) := by decide +kernel
theorem dL_law_1123 : decode cL_law 1123 = .ok (.ireturn, 1) := by decide +kernel
theorem dL_law_1124 : decode cL_law 1124 = .ok (.goto 455, 3) := by decide +kernel
theorem dL_law_1127 : decode cL_law 1127 = .ok (.aload_n 1, 1) := by decide +kernel
theorem dL_law_1128 : decode cL_law 1128 = .ok (.aload_n 0, 1) := by decide +kernel
theorem dL_law_1129 : decode cL_law 1129 = .ok (.iload 4, 2) := by decide +kernel
theorem dL_law_1131 : decode cL_law 1131 = .ok (.iconst 1, 1) := by decide +kernel
theorem dL_law_1132 : decode cL_law 1132 = .ok (.iadd, 1) := by decide +kernel
theorem dL_law_1133 : decode cL_law 1133 = .ok (.iaload, 1) := by decide +kernel
theorem dL_law_1134 : decode cL_law 1134 = .ok (.aload_n 0, 1) := by decide +kernel
theorem dL_law_1135 : decode cL_law 1135 = .ok (.iload 4, 2) := by decide +kernel
theorem dL_law_1137 : decode cL_law 1137 = .ok (.iconst 2, 1) := by decide +kernel
theorem dL_law_1138 : decode cL_law 1138 = .ok (.iadd, 1) := by decide +kernel
theorem dL_law_1139 : decode cL_law 1139 = .ok (.iaload, 1) := by decide +kernel
theorem dL_law_1140 : decode cL_law 1140 = .ok (.aload_n 3, 1) := by decide +kernel
theorem dL_law_1141 : decode cL_law 1141 = .ok (.invokestatic 148, 3) := by decide +kernel
theorem dL_law_1144 : decode cL_law 1144 = .ok (.istore 5, 2) := by decide +kernel
theorem dL_law_1146 : decode cL_law 1146 = .ok (.aload_n 2, 1) := by decide +kernel
theorem dL_law_1147 : decode cL_law 1147 = .ok (.aload_n 0, 1) := by decide +kernel
theorem dL_law_1148 : decode cL_law 1148 = .ok (.iload 4, 2) := by decide +kernel
theorem dL_law_1150 : decode cL_law 1150 = .ok (.iconst 1, 1) := by decide +kernel
theorem dL_law_1151 : decode cL_law 1151 = .ok (.iadd, 1) := by decide +kernel
theorem dL_law_1152 : decode cL_law 1152 = .ok (.iaload, 1) := by decide +kernel
theorem dL_law_1153 : decode cL_law 1153 = .ok (.aload_n 0, 1) := by decide +kernel
theorem dL_law_1154 : decode cL_law 1154 = .ok (.iload 4, 2) := by decide +kernel
theorem dL_law_1156 : decode cL_law 1156 = .ok (.iconst 2, 1) := by decide +kernel
theorem dL_law_1157 : decode cL_law 1157 = .ok (.iadd, 1) := by decide +kernel
theorem dL_law_1158 : decode cL_law 1158 = .ok (.iaload, 1) := by decide +kernel
theorem dL_law_1159 : decode cL_law 1159 = .ok (.invokevirtual 150, 3) := by decide +kernel
theorem dL_law_1162 : decode cL_law 1162 = .ok (.istore 6, 2) := by decide +kernel
theorem dL_law_1164 : decode cL_law 1164 = .ok (.aload_n 2, 1) := by decide +kernel
theorem dL_law_1165 : decode cL_law 1165 = .ok (.invokevirtual 98, 3) := by decide +kernel
theorem dL_law_1168 : decode cL_law 1168 = .ok (.iload 5, 2) := by decide +kernel
theorem dL_law_1170 : decode cL_law 1170 = .ok (.if_icmp .eq 5, 3) := by decide +kernel
theorem dL_law_1173 : decode cL_law 1173 = .ok (.iconst 0, 1) := by decide +kernel
theorem dL_law_1174 : decode cL_law 1174 = .ok (.ireturn, 1) := by decide +kernel
theorem dL_law_1175 : decode cL_law 1175 = .ok (.iload 5, 2) := by decide +kernel
theorem dL_law_1177 : decode cL_law 1177 = .ok (.ifCond .ne 15, 3) := by decide +kernel
theorem dL_law_1180 : decode cL_law 1180 = .ok (.aload_n 3, 1) := by decide +kernel
theorem dL_law_1181 : decode cL_law 1181 = .ok (.iconst 0, 1) := by decide +kernel
theorem dL_law_1182 : decode cL_law 1182 = .ok (.laload, 1) := by decide +kernel
theorem dL_law_1183 : decode cL_law 1183 = .ok (.iload 6, 2) := by decide +kernel
theorem dL_law_1185 : decode cL_law 1185 = .ok (.i2l, 1) := by decide +kernel
theorem dL_law_1186 : decode cL_law 1186 = .ok (.lcmp, 1) := by decide +kernel
theorem dL_law_1187 : decode cL_law 1187 = .ok (.ifCond .eq 5, 3) := by decide +kernel
theorem dL_law_1190 : decode cL_law 1190 = .ok (.iconst 0, 1) := by decide +kernel
theorem dL_law_1191 : decode cL_law 1191 = .ok (.ireturn, 1) := by decide +kernel
theorem dL_law_1192 : decode cL_law 1192 = .ok (.goto 387, 3) := by decide +kernel
theorem dL_law_1195 : decode cL_law 1195 = .ok (.aload_n 1, 1) := by decide +kernel
theorem dL_law_1196 : decode cL_law 1196 = .ok (.aload_n 0, 1) := by decide +kernel
theorem dL_law_1197 : decode cL_law 1197 = .ok (.iload 4, 2) := by decide +kernel
theorem dL_law_1199 : decode cL_law 1199 = .ok (.iconst 1, 1) := by decide +kernel
theorem dL_law_1200 : decode cL_law 1200 = .ok (.iadd, 1) := by decide +kernel
theorem dL_law_1201 : decode cL_law 1201 = .ok (.iaload, 1) := by decide +kernel
theorem dL_law_1202 : decode cL_law 1202 = .ok (.aload_n 0, 1) := by decide +kernel
theorem dL_law_1203 : decode cL_law 1203 = .ok (.iload 4, 2) := by decide +kernel
theorem dL_law_1205 : decode cL_law 1205 = .ok (.iconst 2, 1) := by decide +kernel
theorem dL_law_1206 : decode cL_law 1206 = .ok (.iadd, 1) := by decide +kernel
theorem dL_law_1207 : decode cL_law 1207 = .ok (.iaload, 1) := by decide +kernel
theorem dL_law_1208 : decode cL_law 1208 = .ok (.aload_n 3, 1) := by decide +kernel
theorem dL_law_1209 : decode cL_law 1209 = .ok (.invokestatic 151, 3) := by decide +kernel
theorem dL_law_1212 : decode cL_law 1212 = .ok (.istore 5, 2) := by decide +kernel
theorem dL_law_1214 : decode cL_law 1214 = .ok (.aload_n 2, 1) := by decide +kernel
theorem dL_law_1215 : decode cL_law 1215 = .ok (.aload_n 0, 1) := by decide +kernel
theorem dL_law_1216 : decode cL_law 1216 = .ok (.iload 4, 2) := by decide +kernel
theorem dL_law_1218 : decode cL_law 1218 = .ok (.iconst 1, 1) := by decide +kernel
theorem dL_law_1219 : decode cL_law 1219 = .ok (.iadd, 1) := by decide +kernel
theorem dL_law_1220 : decode cL_law 1220 = .ok (.iaload, 1) := by decide +kernel
theorem dL_law_1221 : decode cL_law 1221 = .ok (.aload_n 0, 1) := by decide +kernel
theorem dL_law_1222 : decode cL_law 1222 = .ok (.iload 4, 2) := by decide +kernel
theorem dL_law_1224 : decode cL_law 1224 = .ok (.iconst 2, 1) := by decide +kernel
theorem dL_law_1225 : decode cL_law 1225 = .ok (.iadd, 1) := by decide +kernel
theorem dL_law_1226 : decode cL_law 1226 = .ok (.iaload, 1) := by decide +kernel
theorem dL_law_1227 : decode cL_law 1227 = .ok (.invokevirtual 153, 3) := by decide +kernel
theorem dL_law_1230 : decode cL_law 1230 = .ok (.istore 6, 2) := by decide +kernel
theorem dL_law_1232 : decode cL_law 1232 = .ok (.aload_n 2, 1) := by decide +kernel
theorem dL_law_1233 : decode cL_law 1233 = .ok (.invokevirtual 98, 3) := by decide +kernel
theorem dL_law_1236 : decode cL_law 1236 = .ok (.iload 5, 2) := by decide +kernel
theorem dL_law_1238 : decode cL_law 1238 = .ok (.if_icmp .eq 5, 3) := by decide +kernel
theorem dL_law_1241 : decode cL_law 1241 = .ok (.iconst 0, 1) := by decide +kernel
theorem dL_law_1242 : decode cL_law 1242 = .ok (.ireturn, 1) := by decide +kernel
theorem dL_law_1243 : decode cL_law 1243 = .ok (.iload 5, 2) := by decide +kernel
theorem dL_law_1245 : decode cL_law 1245 = .ok (.ifCond .ne 15, 3) := by decide +kernel
theorem dL_law_1248 : decode cL_law 1248 = .ok (.aload_n 3, 1) := by decide +kernel
theorem dL_law_1249 : decode cL_law 1249 = .ok (.iconst 0, 1) := by decide +kernel
theorem dL_law_1250 : decode cL_law 1250 = .ok (.laload, 1) := by decide +kernel
theorem dL_law_1251 : decode cL_law 1251 = .ok (.iload 6, 2) := by decide +kernel
theorem dL_law_1253 : decode cL_law 1253 = .ok (.i2l, 1) := by decide +kernel
theorem dL_law_1254 : decode cL_law 1254 = .ok (.lcmp, 1) := by decide +kernel
theorem dL_law_1255 : decode cL_law 1255 = .ok (.ifCond .eq 5, 3) := by decide +kernel
theorem dL_law_1258 : decode cL_law 1258 = .ok (.iconst 0, 1) := by decide +kernel
theorem dL_law_1259 : decode cL_law 1259 = .ok (.ireturn, 1) := by decide +kernel
theorem dL_law_1260 : decode cL_law 1260 = .ok (.goto 319, 3) := by decide +kernel
theorem dL_law_1263 : decode cL_law 1263 = .ok (.aload_n 1, 1) := by decide +kernel
theorem dL_law_1264 : decode cL_law 1264 = .ok (.aload_n 0, 1) := by decide +kernel
theorem dL_law_1265 : decode cL_law 1265 = .ok (.iload 4, 2) := by decide +kernel
theorem dL_law_1267 : decode cL_law 1267 = .ok (.iconst 1, 1) := by decide +kernel
theorem dL_law_1268 : decode cL_law 1268 = .ok (.iadd, 1) := by decide +kernel
theorem dL_law_1269 : decode cL_law 1269 = .ok (.iaload, 1) := by decide +kernel
theorem dL_law_1270 : decode cL_law 1270 = .ok (.aload_n 3, 1) := by decide +kernel
theorem dL_law_1271 : decode cL_law 1271 = .ok (.invokestatic 154, 3) := by decide +kernel
theorem dL_law_1274 : decode cL_law 1274 = .ok (.istore 5, 2) := by decide +kernel
theorem dL_law_1276 : decode cL_law 1276 = .ok (.aload_n 2, 1) := by decide +kernel
theorem dL_law_1277 : decode cL_law 1277 = .ok (.aload_n 0, 1) := by decide +kernel
theorem dL_law_1278 : decode cL_law 1278 = .ok (.iload 4, 2) := by decide +kernel
theorem dL_law_1280 : decode cL_law 1280 = .ok (.iconst 1, 1) := by decide +kernel
theorem dL_law_1281 : decode cL_law 1281 = .ok (.iadd, 1) := by decide +kernel
theorem dL_law_1282 : decode cL_law 1282 = .ok (.iaload, 1) := by decide +kernel
theorem dL_law_1283 : decode cL_law 1283 = .ok (.invokevirtual 156, 3) := by decide +kernel
theorem dL_law_1286 : decode cL_law 1286 = .ok (.istore 6, 2) := by decide +kernel
theorem dL_law_1288 : decode cL_law 1288 = .ok (.aload_n 2, 1) := by decide +kernel
theorem dL_law_1289 : decode cL_law 1289 = .ok (.invokevirtual 98, 3) := by decide +kernel
theorem dL_law_1292 : decode cL_law 1292 = .ok (.iload 5, 2) := by decide +kernel
theorem dL_law_1294 : decode cL_law 1294 = .ok (.if_icmp .eq 5, 3) := by decide +kernel
theorem dL_law_1297 : decode cL_law 1297 = .ok (.iconst 0, 1) := by decide +kernel
theorem dL_law_1298 : decode cL_law 1298 = .ok (.ireturn, 1) := by decide +kernel
theorem dL_law_1299 : decode cL_law 1299 = .ok (.iload 5, 2) := by decide +kernel
theorem dL_law_1301 : decode cL_law 1301 = .ok (.ifCond .ne 15, 3) := by decide +kernel
theorem dL_law_1304 : decode cL_law 1304 = .ok (.aload_n 3, 1) := by decide +kernel
theorem dL_law_1305 : decode cL_law 1305 = .ok (.iconst 0, 1) := by decide +kernel
theorem dL_law_1306 : decode cL_law 1306 = .ok (.laload, 1) := by decide +kernel
theorem dL_law_1307 : decode cL_law 1307 = .ok (.iload 6, 2) := by decide +kernel
theorem dL_law_1309 : decode cL_law 1309 = .ok (.i2l, 1) := by decide +kernel
theorem dL_law_1310 : decode cL_law 1310 = .ok (.lcmp, 1) := by decide +kernel
theorem dL_law_1311 : decode cL_law 1311 = .ok (.ifCond .eq 5, 3) := by decide +kernel
theorem dL_law_1314 : decode cL_law 1314 = .ok (.iconst 0, 1) := by decide +kernel
theorem dL_law_1315 : decode cL_law 1315 = .ok (.ireturn, 1) := by decide +kernel
theorem dL_law_1316 : decode cL_law 1316 = .ok (.goto 263, 3) := by decide +kernel
theorem dL_law_1319 : decode cL_law 1319 = .ok (.aload_n 1, 1) := by decide +kernel
theorem dL_law_1320 : decode cL_law 1320 = .ok (.aload_n 0, 1) := by decide +kernel
theorem dL_law_1321 : decode cL_law 1321 = .ok (.iload 4, 2) := by decide +kernel
theorem dL_law_1323 : decode cL_law 1323 = .ok (.iconst 1, 1) := by decide +kernel
theorem dL_law_1324 : decode cL_law 1324 = .ok (.iadd, 1) := by decide +kernel
theorem dL_law_1325 : decode cL_law 1325 = .ok (.iaload, 1) := by decide +kernel
theorem dL_law_1326 : decode cL_law 1326 = .ok (.aload_n 0, 1) := by decide +kernel
theorem dL_law_1327 : decode cL_law 1327 = .ok (.iload 4, 2) := by decide +kernel
theorem dL_law_1329 : decode cL_law 1329 = .ok (.iconst 2, 1) := by decide +kernel
theorem dL_law_1330 : decode cL_law 1330 = .ok (.iadd, 1) := by decide +kernel
theorem dL_law_1331 : decode cL_law 1331 = .ok (.iaload, 1) := by decide +kernel
theorem dL_law_1332 : decode cL_law 1332 = .ok (.aload_n 3, 1) := by decide +kernel
theorem dL_law_1333 : decode cL_law 1333 = .ok (.invokestatic 157, 3) := by decide +kernel
theorem dL_law_1336 : decode cL_law 1336 = .ok (.istore 5, 2) := by decide +kernel
theorem dL_law_1338 : decode cL_law 1338 = .ok (.aload_n 2, 1) := by decide +kernel
theorem dL_law_1339 : decode cL_law 1339 = .ok (.aload_n 0, 1) := by decide +kernel
theorem dL_law_1340 : decode cL_law 1340 = .ok (.iload 4, 2) := by decide +kernel
theorem dL_law_1342 : decode cL_law 1342 = .ok (.iconst 1, 1) := by decide +kernel
theorem dL_law_1343 : decode cL_law 1343 = .ok (.iadd, 1) := by decide +kernel
theorem dL_law_1344 : decode cL_law 1344 = .ok (.iaload, 1) := by decide +kernel
theorem dL_law_1345 : decode cL_law 1345 = .ok (.aload_n 0, 1) := by decide +kernel
theorem dL_law_1346 : decode cL_law 1346 = .ok (.iload 4, 2) := by decide +kernel
theorem dL_law_1348 : decode cL_law 1348 = .ok (.iconst 2, 1) := by decide +kernel
theorem dL_law_1349 : decode cL_law 1349 = .ok (.iadd, 1) := by decide +kernel
theorem dL_law_1350 : decode cL_law 1350 = .ok (.iaload, 1) := by decide +kernel
theorem dL_law_1351 : decode cL_law 1351 = .ok (.invokevirtual 159, 3) := by decide +kernel
theorem dL_law_1354 : decode cL_law 1354 = .ok (.istore 6, 2) := by decide +kernel
theorem dL_law_1356 : decode cL_law 1356 = .ok (.aload_n 2, 1) := by decide +kernel
theorem dL_law_1357 : decode cL_law 1357 = .ok (.invokevirtual 98, 3) := by decide +kernel
theorem dL_law_1360 : decode cL_law 1360 = .ok (.iload 5, 2) := by decide +kernel
theorem dL_law_1362 : decode cL_law 1362 = .ok (.if_icmp .eq 5, 3) := by decide +kernel
theorem dL_law_1365 : decode cL_law 1365 = .ok (.iconst 0, 1) := by decide +kernel
theorem dL_law_1366 : decode cL_law 1366 = .ok (.ireturn, 1) := by decide +kernel
theorem dL_law_1367 : decode cL_law 1367 = .ok (.iload 5, 2) := by decide +kernel
theorem dL_law_1369 : decode cL_law 1369 = .ok (.ifCond .ne 15, 3) := by decide +kernel
theorem dL_law_1372 : decode cL_law 1372 = .ok (.aload_n 3, 1) := by decide +kernel
theorem dL_law_1373 : decode cL_law 1373 = .ok (.iconst 0, 1) := by decide +kernel
theorem dL_law_1374 : decode cL_law 1374 = .ok (.laload, 1) := by decide +kernel
theorem dL_law_1375 : decode cL_law 1375 = .ok (.iload 6, 2) := by decide +kernel
theorem dL_law_1377 : decode cL_law 1377 = .ok (.i2l, 1) := by decide +kernel
theorem dL_law_1378 : decode cL_law 1378 = .ok (.lcmp, 1) := by decide +kernel
theorem dL_law_1379 : decode cL_law 1379 = .ok (.ifCond .eq 5, 3) := by decide +kernel
theorem dL_law_1382 : decode cL_law 1382 = .ok (.iconst 0, 1) := by decide +kernel
theorem dL_law_1383 : decode cL_law 1383 = .ok (.ireturn, 1) := by decide +kernel
theorem dL_law_1384 : decode cL_law 1384 = .ok (.goto 195, 3) := by decide +kernel
theorem dL_law_1387 : decode cL_law 1387 = .ok (.aload_n 1, 1) := by decide +kernel
theorem dL_law_1388 : decode cL_law 1388 = .ok (.aload_n 0, 1) := by decide +kernel
theorem dL_law_1389 : decode cL_law 1389 = .ok (.iload 4, 2) := by decide +kernel
theorem dL_law_1391 : decode cL_law 1391 = .ok (.iconst 1, 1) := by decide +kernel
theorem dL_law_1392 : decode cL_law 1392 = .ok (.iadd, 1) := by decide +kernel
theorem dL_law_1393 : decode cL_law 1393 = .ok (.iaload, 1) := by decide +kernel
theorem dL_law_1394 : decode cL_law 1394 = .ok (.aload_n 0, 1) := by decide +kernel
theorem dL_law_1395 : decode cL_law 1395 = .ok (.iload 4, 2) := by decide +kernel
theorem dL_law_1397 : decode cL_law 1397 = .ok (.iconst 2, 1) := by decide +kernel
theorem dL_law_1398 : decode cL_law 1398 = .ok (.iadd, 1) := by decide +kernel
theorem dL_law_1399 : decode cL_law 1399 = .ok (.iaload, 1) := by decide +kernel
theorem dL_law_1400 : decode cL_law 1400 = .ok (.aload_n 3, 1) := by decide +kernel
theorem dL_law_1401 : decode cL_law 1401 = .ok (.invokestatic 160, 3) := by decide +kernel
theorem dL_law_1404 : decode cL_law 1404 = .ok (.istore 5, 2) := by decide +kernel
theorem dL_law_1406 : decode cL_law 1406 = .ok (.aload_n 2, 1) := by decide +kernel
theorem dL_law_1407 : decode cL_law 1407 = .ok (.aload_n 0, 1) := by decide +kernel
theorem dL_law_1408 : decode cL_law 1408 = .ok (.iload 4, 2) := by decide +kernel
theorem dL_law_1410 : decode cL_law 1410 = .ok (.iconst 1, 1) := by decide +kernel
theorem dL_law_1411 : decode cL_law 1411 = .ok (.iadd, 1) := by decide +kernel
theorem dL_law_1412 : decode cL_law 1412 = .ok (.iaload, 1) := by decide +kernel
theorem dL_law_1413 : decode cL_law 1413 = .ok (.aload_n 0, 1) := by decide +kernel
theorem dL_law_1414 : decode cL_law 1414 = .ok (.iload 4, 2) := by decide +kernel
theorem dL_law_1416 : decode cL_law 1416 = .ok (.iconst 2, 1) := by decide +kernel
theorem dL_law_1417 : decode cL_law 1417 = .ok (.iadd, 1) := by decide +kernel
theorem dL_law_1418 : decode cL_law 1418 = .ok (.iaload, 1) := by decide +kernel
theorem dL_law_1419 : decode cL_law 1419 = .ok (.invokevirtual 162, 3) := by decide +kernel
theorem dL_law_1422 : decode cL_law 1422 = .ok (.istore 6, 2) := by decide +kernel
theorem dL_law_1424 : decode cL_law 1424 = .ok (.aload_n 2, 1) := by decide +kernel
theorem dL_law_1425 : decode cL_law 1425 = .ok (.invokevirtual 98, 3) := by decide +kernel
theorem dL_law_1428 : decode cL_law 1428 = .ok (.iload 5, 2) := by decide +kernel
theorem dL_law_1430 : decode cL_law 1430 = .ok (.if_icmp .eq 5, 3) := by decide +kernel
theorem dL_law_1433 : decode cL_law 1433 = .ok (.iconst 0, 1) := by decide +kernel
theorem dL_law_1434 : decode cL_law 1434 = .ok (.ireturn, 1) := by decide +kernel
theorem dL_law_1435 : decode cL_law 1435 = .ok (.iload 5, 2) := by decide +kernel
theorem dL_law_1437 : decode cL_law 1437 = .ok (.ifCond .ne 15, 3) := by decide +kernel
theorem dL_law_1440 : decode cL_law 1440 = .ok (.aload_n 3, 1) := by decide +kernel
theorem dL_law_1441 : decode cL_law 1441 = .ok (.iconst 0, 1) := by decide +kernel
theorem dL_law_1442 : decode cL_law 1442 = .ok (.laload, 1) := by decide +kernel
theorem dL_law_1443 : decode cL_law 1443 = .ok (.iload 6, 2) := by decide +kernel
theorem dL_law_1445 : decode cL_law 1445 = .ok (.i2l, 1) := by decide +kernel
theorem dL_law_1446 : decode cL_law 1446 = .ok (.lcmp, 1) := by decide +kernel
theorem dL_law_1447 : decode cL_law 1447 = .ok (.ifCond .eq 5, 3) := by decide +kernel
theorem dL_law_1450 : decode cL_law 1450 = .ok (.iconst 0, 1) := by decide +kernel
theorem dL_law_1451 : decode cL_law 1451 = .ok (.ireturn, 1) := by decide +kernel
theorem dL_law_1452 : decode cL_law 1452 = .ok (.goto 127, 3) := by decide +kernel
theorem dL_law_1455 : decode cL_law 1455 = .ok (.aload_n 1, 1) := by decide +kernel
theorem dL_law_1456 : decode cL_law 1456 = .ok (.aload_n 0, 1) := by decide +kernel
theorem dL_law_1457 : decode cL_law 1457 = .ok (.iload 4, 2) := by decide +kernel
theorem dL_law_1459 : decode cL_law 1459 = .ok (.iconst 1, 1) := by decide +kernel
theorem dL_law_1460 : decode cL_law 1460 = .ok (.iadd, 1) := by decide +kernel
theorem dL_law_1461 : decode cL_law 1461 = .ok (.iaload, 1) := by decide +kernel
theorem dL_law_1462 : decode cL_law 1462 = .ok (.aload_n 0, 1) := by decide +kernel
theorem dL_law_1463 : decode cL_law 1463 = .ok (.iload 4, 2) := by decide +kernel
theorem dL_law_1465 : decode cL_law 1465 = .ok (.iconst 2, 1) := by decide +kernel
theorem dL_law_1466 : decode cL_law 1466 = .ok (.iadd, 1) := by decide +kernel
theorem dL_law_1467 : decode cL_law 1467 = .ok (.iaload, 1) := by decide +kernel
theorem dL_law_1468 : decode cL_law 1468 = .ok (.aload_n 3, 1) := by decide +kernel
theorem dL_law_1469 : decode cL_law 1469 = .ok (.invokestatic 163, 3) := by decide +kernel
theorem dL_law_1472 : decode cL_law 1472 = .ok (.istore 5, 2) := by decide +kernel
theorem dL_law_1474 : decode cL_law 1474 = .ok (.aload_n 2, 1) := by decide +kernel
theorem dL_law_1475 : decode cL_law 1475 = .ok (.aload_n 0, 1) := by decide +kernel
theorem dL_law_1476 : decode cL_law 1476 = .ok (.iload 4, 2) := by decide +kernel
theorem dL_law_1478 : decode cL_law 1478 = .ok (.iconst 1, 1) := by decide +kernel
theorem dL_law_1479 : decode cL_law 1479 = .ok (.iadd, 1) := by decide +kernel
theorem dL_law_1480 : decode cL_law 1480 = .ok (.iaload, 1) := by decide +kernel
theorem dL_law_1481 : decode cL_law 1481 = .ok (.aload_n 0, 1) := by decide +kernel
theorem dL_law_1482 : decode cL_law 1482 = .ok (.iload 4, 2) := by decide +kernel
theorem dL_law_1484 : decode cL_law 1484 = .ok (.iconst 2, 1) := by decide +kernel
theorem dL_law_1485 : decode cL_law 1485 = .ok (.iadd, 1) := by decide +kernel
theorem dL_law_1486 : decode cL_law 1486 = .ok (.iaload, 1) := by decide +kernel
theorem dL_law_1487 : decode cL_law 1487 = .ok (.invokevirtual 165, 3) := by decide +kernel
theorem dL_law_1490 : decode cL_law 1490 = .ok (.istore 6, 2) := by decide +kernel
theorem dL_law_1492 : decode cL_law 1492 = .ok (.aload_n 2, 1) := by decide +kernel
theorem dL_law_1493 : decode cL_law 1493 = .ok (.invokevirtual 98, 3) := by decide +kernel
theorem dL_law_1496 : decode cL_law 1496 = .ok (.iload 5, 2) := by decide +kernel
theorem dL_law_1498 : decode cL_law 1498 = .ok (.if_icmp .eq 5, 3) := by decide +kernel
theorem dL_law_1501 : decode cL_law 1501 = .ok (.iconst 0, 1) := by decide +kernel
theorem dL_law_1502 : decode cL_law 1502 = .ok (.ireturn, 1) := by decide +kernel
theorem dL_law_1503 : decode cL_law 1503 = .ok (.iload 5, 2) := by decide +kernel
theorem dL_law_1505 : decode cL_law 1505 = .ok (.ifCond .ne 15, 3) := by decide +kernel
theorem dL_law_1508 : decode cL_law 1508 = .ok (.aload_n 3, 1) := by decide +kernel
theorem dL_law_1509 : decode cL_law 1509 = .ok (.iconst 0, 1) := by decide +kernel
theorem dL_law_1510 : decode cL_law 1510 = .ok (.laload, 1) := by decide +kernel
theorem dL_law_1511 : decode cL_law 1511 = .ok (.iload 6, 2) := by decide +kernel
theorem dL_law_1513 : decode cL_law 1513 = .ok (.i2l, 1) := by decide +kernel
theorem dL_law_1514 : decode cL_law 1514 = .ok (.lcmp, 1) := by decide +kernel
theorem dL_law_1515 : decode cL_law 1515 = .ok (.ifCond .eq 5, 3) := by decide +kernel
theorem dL_law_1518 : decode cL_law 1518 = .ok (.iconst 0, 1) := by decide +kernel
theorem dL_law_1519 : decode cL_law 1519 = .ok (.ireturn, 1) := by decide +kernel
theorem dL_law_1520 : decode cL_law 1520 = .ok (.goto 59, 3) := by decide +kernel
theorem dL_law_1523 : decode cL_law 1523 = .ok (.aload_n 1, 1) := by decide +kernel
theorem dL_law_1524 : decode cL_law 1524 = .ok (.aload_n 0, 1) := by decide +kernel
theorem dL_law_1525 : decode cL_law 1525 = .ok (.iload 4, 2) := by decide +kernel
theorem dL_law_1527 : decode cL_law 1527 = .ok (.iconst 1, 1) := by decide +kernel
theorem dL_law_1528 : decode cL_law 1528 = .ok (.iadd, 1) := by decide +kernel
theorem dL_law_1529 : decode cL_law 1529 = .ok (.iaload, 1) := by decide +kernel
theorem dL_law_1530 : decode cL_law 1530 = .ok (.aload_n 3, 1) := by decide +kernel
theorem dL_law_1531 : decode cL_law 1531 = .ok (.invokestatic 166, 3) := by decide +kernel
theorem dL_law_1534 : decode cL_law 1534 = .ok (.istore 5, 2) := by decide +kernel
theorem dL_law_1536 : decode cL_law 1536 = .ok (.aload_n 2, 1) := by decide +kernel
theorem dL_law_1537 : decode cL_law 1537 = .ok (.aload_n 0, 1) := by decide +kernel
theorem dL_law_1538 : decode cL_law 1538 = .ok (.iload 4, 2) := by decide +kernel
theorem dL_law_1540 : decode cL_law 1540 = .ok (.iconst 1, 1) := by decide +kernel
theorem dL_law_1541 : decode cL_law 1541 = .ok (.iadd, 1) := by decide +kernel
theorem dL_law_1542 : decode cL_law 1542 = .ok (.iaload, 1) := by decide +kernel
theorem dL_law_1543 : decode cL_law 1543 = .ok (.invokevirtual 168, 3) := by decide +kernel
theorem dL_law_1546 : decode cL_law 1546 = .ok (.istore 6, 2) := by decide +kernel
theorem dL_law_1548 : decode cL_law 1548 = .ok (.aload_n 2, 1) := by decide +kernel
theorem dL_law_1549 : decode cL_law 1549 = .ok (.invokevirtual 98, 3) := by decide +kernel
theorem dL_law_1552 : decode cL_law 1552 = .ok (.iload 5, 2) := by decide +kernel
theorem dL_law_1554 : decode cL_law 1554 = .ok (.if_icmp .eq 5, 3) := by decide +kernel
theorem dL_law_1557 : decode cL_law 1557 = .ok (.iconst 0, 1) := by decide +kernel
theorem dL_law_1558 : decode cL_law 1558 = .ok (.ireturn, 1) := by decide +kernel
theorem dL_law_1559 : decode cL_law 1559 = .ok (.iload 5, 2) := by decide +kernel
theorem dL_law_1561 : decode cL_law 1561 = .ok (.ifCond .ne 15, 3) := by decide +kernel
theorem dL_law_1564 : decode cL_law 1564 = .ok (.aload_n 3, 1) := by decide +kernel
theorem dL_law_1565 : decode cL_law 1565 = .ok (.iconst 0, 1) := by decide +kernel
theorem dL_law_1566 : decode cL_law 1566 = .ok (.laload, 1) := by decide +kernel
theorem dL_law_1567 : decode cL_law 1567 = .ok (.iload 6, 2) := by decide +kernel
theorem dL_law_1569 : decode cL_law 1569 = .ok (.i2l, 1) := by decide +kernel
theorem dL_law_1570 : decode cL_law 1570 = .ok (.lcmp, 1) := by decide +kernel
theorem dL_law_1571 : decode cL_law 1571 = .ok (.ifCond .eq 5, 3) := by decide +kernel
theorem dL_law_1574 : decode cL_law 1574 = .ok (.iconst 0, 1) := by decide +kernel
theorem dL_law_1575 : decode cL_law 1575 = .ok (.ireturn, 1) := by decide +kernel
theorem dL_law_1576 : decode cL_law 1576 = .ok (.goto 3, 3) := by decide +kernel
theorem dL_law_1579 : decode cL_law 1579 = .ok (.iinc 4 6, 3) := by decide +kernel
theorem dL_law_1582 : decode cL_law 1582 = .ok (.goto (-1559), 3) := by decide +kernel
theorem dL_law_1585 : decode cL_law 1585 = .ok (.iconst 1, 1) := by decide +kernel
theorem dL_law_1586 : decode cL_law 1586 = .ok (.ireturn, 1) := by decide +kernel
end
section
/-! ===== BEGIN words of one list among another's, by their places ===== -/
theorem goodIn_r {big : List Cond} (ws : List Cond) (ps : List Nat) (hp : ws = ps.filterMap (fun i => big[i]?)) (h : ws.all goodWord = true) : GoodIn big ws := by
  intro w hw
  have h1 := List.all_eq_true.mp h w hw
  rw [hp] at hw
  obtain ⟨i, -, hi⟩ := List.mem_filterMap.mp hw
  have hm : w ∈ big := by first | exact List.mem_of_getElem? hi | exact List.getElem?_mem hi
  exact ⟨hm, good_of_word h1⟩
theorem goodIn_app {big a b : List Cond} (ha : GoodIn big a) (hb : GoodIn big b) : GoodIn big (a ++ b) := fun w h => (List.mem_append.mp h).elim (ha w) (hb w)
theorem goodIn_ca {big a b : List Cond} {c : Cond} (ha : GoodIn big (c :: a)) (hb : GoodIn big b) : GoodIn big (c :: (a ++ b)) := fun w h => (List.mem_cons.mp h).elim (fun e => ha w (List.mem_cons.mpr (Or.inl e))) (fun h => (List.mem_append.mp h).elim (fun h => ha w (List.mem_cons.mpr (Or.inr h))) (hb w))
theorem goodIn_sub {big ws : List Cond} (hm : ∀ w ∈ ws, w ∈ big) (h : ws.all goodWord = true) : GoodIn big ws := fun w hw => ⟨hm w hw, good_of_word (List.all_eq_true.mp h w hw)⟩
/-! ===== END ===== -/
/-! ===== BEGIN exceptions that leave a method, and their catching by the caller (launches without stack traces) ===== -/
section VXA
/-! The laws vx_back, vx_callV, vx_callS, vx_callSW, vx_throw0, vx_throwS follow proofs of the library, with one case more: JvmDerived/Free/Laws.lean (Back.of_free), Shelf42/LK1.lean (callV, callS), Shelf/KitTraced.lean (throwNew0V, throwNewS). -/
/-- where a method has thrown q: the class by its name, the cell, what was written, the world -/
def vx_T (XC : String → State → State → Prop) (st : State) (q : Addr) (t : State) (mc ms : Nat) (free : Addr → Prop) : Prop :=
  ∃ (E : String) (ce : Cell) (L : List Loc), XC E st t ∧ t.heap[q]? = some ce ∧ ce.vm = .none ∧ st.vm.findClass E = some ce.cls ∧ st.WarmedH t.vm ∧ st.sameButNew ({ t with vm := st.vm } : State) L mc ms ∧ ∀ z ∈ L, free z.base
def vx_Q (Qc : Array Value → State → Outcome → State → Prop) (XC : String → State → State → Prop) (mc ms : Nat) (free : Addr → Prop) : Array Value → State → Outcome → State → Prop := fun a st o t =>
  (Qc a st o t ∧ ∃ L, FrameEnd st o t L mc ms ∧ ∀ q ∈ L, free q.base) ∨ ∃ q, o = .threw q ∧ vx_T XC st q t mc ms free
/-- a callee that returns or throws -/
def vx_Met (l : Launch) (y : MethodName) (ws : List Cond) (rm : Room) (Pc : Array Value → State → Prop) (Qc : Array Value → State → Outcome → State → Prop) (XC : String → State → State → Prop) (mc ms : Nat) (free : Addr → Prop) : Prop :=
  MetFree l y (headSpec ws rm) Pc (fun _ _ _ _ _ => True) (vx_Q Qc XC mc ms free)
def vx_Post (XC : String → State → State → Prop) (mc ms : Nat) (free : Addr → Prop) : Pt → Array Value → Addr → Pt → Prop := fun A a q B =>
  ∃ (g : JFrame) (mk : MethodId) (t : State) (L : List Loc) (E : String) (ce : Cell), B.U.heap = t.heap ∧ B.U.vm = t.vm ∧ XC E (A.U.calling g mk a) t ∧ t.heap[q]? = some ce ∧ ce.vm = .none ∧ A.U.vm.findClass E = some ce.cls ∧ B.locs = A.locs ++ L ∧ (∀ z ∈ L, free z.base) ∧ B.cells = A.cells + mc ∧ B.slots = A.slots + ms
def vx_Back (l : Launch) (R : Room) (p : Program) (e : Env) (below : List Frame) (s : State) (sargs : Array Value) (y : MethodName) (len W9 : Nat)
    (Pre : Pt → Array Value → Prop) (Post : Pt → Array Value → Option Value → Pt → Prop) (PostX : Pt → Array Value → Addr → Pt → Prop) : Prop :=
  ∀ (m : MethodId) (meth : Method) (c : Code) (A : Pt) (g : JFrame) (ig : Instr) (mk : MethodId) (a : Array Value),
    Stand p l e R s m sargs below meth c A.U A.locs A.cells A.slots → g.method = m → g.locals.size = c.maxLocals → decode c.code g.pc = .ok (ig, len) →
    2 * g.monitorRoom + (g.stack.map fun v => v.category).sum ≤ W9 → A.U.methodNamed? y = some mk → Pre A a →
    (∃ (v : Option Value) (B : Pt), Stand p l e R s m sargs below meth c B.U B.locs B.cells B.slots ∧ Post A a v B ∧
      Steps p.tables e below (doInvoke e (A.U.setTop g) [] mk a).1 (B.U.setTop { g with pc := g.pc + len, stack := v.toList ++ g.stack })) ∨
    (∃ (q : Addr) (B : Pt), Stand p l e R s m sargs below meth c B.U B.locs B.cells B.slots ∧ PostX A a q B ∧
      Steps p.tables e below (doInvoke e (A.U.setTop g) [] mk a).1 ((B.U.setTop g).pushFrame (.throwing q)))
section Payer
variable {l : Launch} {R : Room} {p : Program} {e : Env} {below : List Frame} {s : State} {sargs : Array Value} {y : MethodName} {len W9 : Nat}
theorem vx_back {ws : List Cond} {rm : Room} {Pc : Array Value → State → Prop} {Qc : Array Value → State → Outcome → State → Prop} {XC : String → State → State → Prop} {mc ms : Nat} {free : Addr → Prop} {bytes : ByteArray} {maxL : Nat} {ret : Option FieldType}
    (hM : vx_Met l y ws rm Pc Qc XC mc ms free) (hblind : FrameBlind Pc) (hrc : rm.cells = mc) (hrs : rm.slots = ms)
    (hframes : rm.frames + 1 ≤ R.frames) (hlocals : W9 + (maxL + 11) + rm.locals ≤ R.locals)
    (hws : ∀ w ∈ ws, ∀ a' U, s.WarmedH U.vm → w.before a' U = true) (hcode : Cond.code y bytes maxL ret ∈ ws) (hinit : ∀ a' U, s.WarmedH U.vm → (Cond.initialized y.cls).before a' U = true) :
    vx_Back l R p e below s sargs y len W9 (PreOf R mc ms Pc) (PostOf Qc mc ms free) (vx_Post XC mc ms free) := by
  intro m meth c A g ig mk a X hg hsize hdg hW hn hp
  have h1 : (headSpec ws rm).pre.before a A.U = true := atoms_intro fun w hw => hws w hw _ _ X.warmed
  have h2 : (Cond.code y bytes maxL ret).before a A.U = true := hws _ hcode _ _ X.warmed
  have h3 : (Cond.initialized y.cls).before a A.U = true := hinit _ _ X.warmed
  have h4 : A.cells + (headSpec ws rm).room.cells ≤ R.cells := by rw [show (headSpec ws rm).room.cells = mc from hrc]; exact hp.1
  have h5 : A.slots + (headSpec ws rm).room.slots ≤ R.slots := by rw [show (headSpec ws rm).room.slots = ms from hrs]; exact hp.2.1
  have hPc : Pc a (A.U.calling g mk a) := hblind _ _ _ _ hp.2.2
  obtain ⟨U, Ls, c0, s0⟩ := A
  dsimp only [Pt.U, Pt.locs, Pt.cells, Pt.slots] at h1 h2 h3 h4 h5 X hn hPc ⊢
  obtain ⟨methY, cY, hmY, hcY, -, hlY, -, -, -, -⟩ := Cond.code_spec hn h2
  obtain ⟨kY, hkY, -⟩ := className_of_methodNamed hn
  have hinitY : kY.init = .initialized := Cond.initialized_spec (findClass_of_methodNamed hn) hkY h3
  have h : At U g.method c below := by rw [hg]; exact X.here
  have hlocals9 : W9 + (maxL + 11) + (headSpec ws rm).room.locals ≤ R.locals := hlocals
  have happ : (headSpec ws rm).appliesLoose y e.platform (U.calling g mk a) = true :=
    Spec.appliesLoose_calling (g := g) h hdg hn hkY hinitY
      (X.room_calling (g := g) (R' := (headSpec ws rm).room) hsize hmY hcY hframes (by rw [hlY]; omega) h4 h5) h1
  obtain ⟨mid, hmid⟩ := h.above
  have hfr : (U.setTop g).frames = (.java g :: mid) ++ below := by rw [State.frames_setTop' g h.top, hmid]; rfl
  obtain ⟨o, s₂, hsteps, -, hend, hq⟩ := Steps.callFree hM p X.admits X.cas X.clock (acts := []) hfr happ hPc trivial
  have hq' : vx_Q Qc XC mc ms free a (U.calling g mk a) o s₂ := hq
  rw [State.frames_setTop' g h.top] at hend
  obtain ⟨g₀, hg0⟩ := Option.isSome_iff_exists.mp h.top
  obtain ⟨r, hr⟩ := State.topJava?_eq_some.mp hg0
  have hr' : (({ U with heap := s₂.heap, slotsUsed := s₂.slotsUsed } : State).setVm s₂.vm).frames = .java g₀ :: r := hr
  rcases hq' with ⟨hqc, L, hfe, hL⟩ | ⟨q, rfl, E, ce, L, hx, hce, hcv, hcl, hW₂, hsm, hL⟩
  · obtain ⟨⟨v, rfl⟩, hW₂, e2, q2, q3, q4, q5, q6⟩ := id hfe
    have e3 : s₂ = ({ (U.calling g mk a).setFrames s₂.frames with heap := s₂.heap, slotsUsed := s₂.slotsUsed } : State).setVm s₂.vm := by
      have : s₂ = ({ s₂ with vm := (U.calling g mk a).vm } : State).setVm s₂.vm := rfl
      rw [e2] at this
      exact this
    obtain ⟨c₂, i₂, len₂, hc₂, hd₂, hf₂⟩ := hend
    have hW' : U.WarmedH s₂.vm := hW₂
    have hcc : c₂ = c := by
      have h1 : s₂.code? g.method = U.code? g.method := by
        rw [State.code?_eq, State.code?_eq, hW'.alike.method?]
      exact Option.some.inj (hc₂.symm.trans (h1.trans h.code))
    subst hcc
    have hlen : len₂ = len := by rw [hdg] at hd₂; cases hd₂; rfl
    subst hlen
    have hs₂ : s₂ = (({ U with heap := s₂.heap, slotsUsed := s₂.slotsUsed } : State).setVm s₂.vm).setTop { g with pc := g.pc + len₂, stack := v.toList ++ g.stack } := by
      refine e3.trans ?_
      rw [hf₂, State.calling_eq h.top, State.setFrames_setFrames, State.setTop_of_frames _ hr', hr]
      rfl
    have hsame : U.sameButNew ({ U with heap := s₂.heap, slotsUsed := s₂.slotsUsed } : State) L mc ms := by
      refine ⟨?_, q2, q3, q4, q5, q6⟩
      obtain ⟨t, ht, -⟩ := State.frames_cons hr
      show ({ U with heap := s₂.heap, slotsUsed := s₂.slotsUsed } : State) = { U.setFrames U.frames with heap := s₂.heap, slotsUsed := s₂.slotsUsed }
      rw [State.setFrames_self ht]
    subst hg
    refine Or.inl ⟨v, ⟨(({ U with heap := s₂.heap, slotsUsed := s₂.slotsUsed } : State).setVm s₂.vm), Ls ++ L, c0 + mc, s0 + ms⟩,
      ⟨X.admits, X.cas, X.clock, X.frames, X.room, X.hears, X.method, X.code, (X.here.setHeapUsed s₂.heap s₂.slotsUsed).setVm hW'.alike, X.tail, State.WarmedH.trans X.warmed hW', X.limits, X.bytes, X.same.trans (hsame.setVm s.vm)⟩,
      ⟨g, mk, s₂, L, rfl, rfl, hqc, rfl, hL, rfl, rfl⟩, ?_⟩
    show Steps p.tables e below _ ((({ U with heap := s₂.heap, slotsUsed := s₂.slotsUsed } : State).setVm s₂.vm).setTop { g with pc := g.pc + len₂, stack := v.toList ++ g.stack })
    rw [← hs₂]
    exact hsteps
  · obtain ⟨e2, q2, q3, q4, q5, q6⟩ := id hsm
    have e3 : s₂ = ({ (U.calling g mk a).setFrames s₂.frames with heap := s₂.heap, slotsUsed := s₂.slotsUsed } : State).setVm s₂.vm := by
      have : s₂ = ({ s₂ with vm := (U.calling g mk a).vm } : State).setVm s₂.vm := rfl
      rw [e2] at this
      exact this
    have hf₂ : s₂.frames = .throwing q :: .java g :: U.frames.tail := hend
    have hW' : U.WarmedH s₂.vm := hW₂
    have hs₂ : s₂ = ((({ U with heap := s₂.heap, slotsUsed := s₂.slotsUsed } : State).setVm s₂.vm).setTop g).pushFrame (.throwing q) := by
      refine e3.trans ?_
      rw [hf₂, State.calling_eq h.top, State.setFrames_setFrames, State.pushFrame, State.frames_setTop _ hr', State.setTop_of_frames _ hr', State.setFrames_setFrames, hr]
      rfl
    have hsame : U.sameButNew ({ U with heap := s₂.heap, slotsUsed := s₂.slotsUsed } : State) L mc ms := by
      refine ⟨?_, q2, q3, q4, q5, q6⟩
      obtain ⟨t, ht, -⟩ := State.frames_cons hr
      show ({ U with heap := s₂.heap, slotsUsed := s₂.slotsUsed } : State) = { U.setFrames U.frames with heap := s₂.heap, slotsUsed := s₂.slotsUsed }
      rw [State.setFrames_self ht]
    subst hg
    refine Or.inr ⟨q, ⟨(({ U with heap := s₂.heap, slotsUsed := s₂.slotsUsed } : State).setVm s₂.vm), Ls ++ L, c0 + mc, s0 + ms⟩,
      ⟨X.admits, X.cas, X.clock, X.frames, X.room, X.hears, X.method, X.code, (X.here.setHeapUsed s₂.heap s₂.slotsUsed).setVm hW'.alike, X.tail, State.WarmedH.trans X.warmed hW', X.limits, X.bytes, X.same.trans (hsame.setVm s.vm)⟩,
      ⟨g, mk, s₂, L, E, ce, rfl, rfl, hx, hce, hcv, hcl, rfl, hL, rfl, rfl⟩, ?_⟩
    show Steps p.tables e below _ (((({ U with heap := s₂.heap, slotsUsed := s₂.slotsUsed } : State).setVm s₂.vm).setTop g).pushFrame (.throwing q))
    rw [← hs₂]
    exact hsteps
end Payer
section Calls
variable {p : Program} {l : Launch} {e : Env} {R : Room} {s : State} {m : MethodId} {args : Array Value} {below : List Frame} {meth : Method} {c : Code} {T : State} {locs : List Loc} {cells slots : Nat}
theorem vx_callV (X : Stand p l e R s m args below meth c T locs cells slots) (hexec : p.tables.exec = Jvm.exec) {own C : String} {index : Nat} {y : MethodName} {bytes : ByteArray} {maxL : Nat} {ret : Option FieldType}
    (hown : s.vm.findClass own = some m.cls) (hlink : (Cond.methodLink own index y).before args s = true) (hinst : (Cond.instanceMethod y).before args s = true) (hsel : (Cond.selects C y y).before args s = true)
    (hcode : (Cond.code y bytes maxL ret).before args s = true) (hy : y.cls ≠ "java/lang/invoke/MethodHandle" ∧ y.cls ≠ "java/lang/invoke/VarHandle")
    {W9 : Nat} {Pre : Pt → Array Value → Prop} {Post : Pt → Array Value → Option Value → Pt → Prop} {PostX : Pt → Array Value → Addr → Pt → Prop} (hK : vx_Back l R p e below s args y 3 W9 Pre Post PostX)
    {b : Addr} {cellB : Cell} (hcell : T.heap[b]? = some cellB) (hobj : cellB.vm.isStatics = false) (hcls : s.vm.findClass C = some cellB.cls)
    {g : JFrame} (hg : g.method = m) (hsize : g.locals.size = c.maxLocals) {argsL rest : List Value} (hlen : ∀ sig, parseMethodDescriptor y.desc = some sig → argsL.length = sig.parameters.length)
    (hstack : g.stack = argsL.reverse ++ .ref b :: rest) (hW : 2 * g.monitorRoom + (rest.map fun v => v.category).sum ≤ W9) (hdg : decode c.code g.pc = .ok (.invokevirtual index, 3))
    (hpre : ∀ vm₁, s.WarmedH vm₁ → Pre ⟨T.setVm vm₁, locs, cells, slots⟩ (Value.ref b :: argsL).toArray) :
    (∃ (v : Option Value) (vm₁ : Vm) (B : Pt), s.WarmedH vm₁ ∧ Stand p l e R s m args below meth c B.U B.locs B.cells B.slots ∧ Post ⟨T.setVm vm₁, locs, cells, slots⟩ (Value.ref b :: argsL).toArray v B ∧
      ∀ target, Steps p.tables e below (B.U.setTop { g with pc := g.pc + 3, stack := v.toList ++ rest }) target → Steps p.tables e below (T.setTop g) target) ∨
    (∃ (q : Addr) (vm₁ : Vm) (B : Pt), s.WarmedH vm₁ ∧ Stand p l e R s m args below meth c B.U B.locs B.cells B.slots ∧ PostX ⟨T.setVm vm₁, locs, cells, slots⟩ (Value.ref b :: argsL).toArray q B ∧
      Steps p.tables e below (T.setTop g) ((B.U.setTop { g with stack := rest }).pushFrame (.throwing q))) := by
  obtain ⟨mk, methM, hnamed, hmethM, hstM, habM⟩ := Cond.instanceMethod_spec hinst
  obtain ⟨methM', cM, hmethM', -, -, -, -, -, -, hsigM⟩ := Cond.code_spec hnamed hcode
  cases hmethM.symm.trans hmethM'
  obtain ⟨c2, r2, m2, q1, q2, q3, q4, kP, hkP, hkPi⟩ := Cond.selects_spec hsel
  cases hcls.symm.trans q1
  cases (State.methodFound?_of_named hnamed hy).symm.trans q2
  cases hnamed.symm.trans q3
  have hselP : selectMethod e.platform s.vm cellB.cls mk = .method mk := by rw [Launch.admits_selectMethod X.admits]; exact q4
  obtain ⟨vm₁, X₁, hstep₁⟩ := X.invokevirtual hexec hown hlink hnamed hmethM hstM hkP hkPi hy (a := b) (cell := cellB) hcell
    (fun z h => by rw [h] at hobj; cases hobj) hselP hmethM habM hkP hkPi (g := g) hg (argsL := argsL) (rest := rest) (hlen _ hsigM) hstack hdg
  rcases hK m meth c ⟨T.setVm vm₁, locs, cells, slots⟩ { g with stack := rest } (.invokevirtual index) mk (Value.ref b :: argsL).toArray X₁ hg hsize hdg hW (X₁.named hnamed) (hpre vm₁ X₁.warmed) with ⟨v, B, X', hpost, hsteps⟩ | ⟨q, B, X', hpost, hsteps⟩
  · exact Or.inl ⟨v, vm₁, B, X₁.warmed, X', hpost, fun target h => hstep₁ _ fun acts => by rw [doInvoke_state]; exact hsteps.trans h⟩
  · exact Or.inr ⟨q, vm₁, B, X₁.warmed, X', hpost, hstep₁ _ fun acts => by rw [doInvoke_state]; exact hsteps⟩
theorem vx_callS (X : Stand p l e R s m args below meth c T locs cells slots) (hexec : p.tables.exec = Jvm.exec) {own : String} {index : Nat} {y : MethodName} {bytes : ByteArray} {maxL : Nat} {ret : Option FieldType}
    (hown : s.vm.findClass own = some m.cls) (hlink : (Cond.methodLink own index y).before args s = true) (hstat : (Cond.static y).before args s = true) (hinit : (Cond.initialized y.cls).before args s = true)
    (hcode : (Cond.code y bytes maxL ret).before args s = true) (hy : y.cls ≠ "java/lang/invoke/MethodHandle" ∧ y.cls ≠ "java/lang/invoke/VarHandle")
    {W9 : Nat} {Pre : Pt → Array Value → Prop} {Post : Pt → Array Value → Option Value → Pt → Prop} {PostX : Pt → Array Value → Addr → Pt → Prop} (hK : vx_Back l R p e below s args y 3 W9 Pre Post PostX)
    {g : JFrame} (hg : g.method = m) (hsize : g.locals.size = c.maxLocals) {argsL rest : List Value} (hlen : ∀ sig, parseMethodDescriptor y.desc = some sig → argsL.length = sig.parameters.length)
    (hstack : g.stack = argsL.reverse ++ rest) (hW : 2 * g.monitorRoom + (rest.map fun v => v.category).sum ≤ W9) (hdg : decode c.code g.pc = .ok (.invokestatic index, 3))
    (hpre : ∀ vm₁, s.WarmedH vm₁ → Pre ⟨T.setVm vm₁, locs, cells, slots⟩ argsL.toArray) :
    (∃ (v : Option Value) (vm₁ : Vm) (B : Pt), s.WarmedH vm₁ ∧ Stand p l e R s m args below meth c B.U B.locs B.cells B.slots ∧ Post ⟨T.setVm vm₁, locs, cells, slots⟩ argsL.toArray v B ∧
      ∀ target, Steps p.tables e below (B.U.setTop { g with pc := g.pc + 3, stack := v.toList ++ rest }) target → Steps p.tables e below (T.setTop g) target) ∨
    (∃ (q : Addr) (vm₁ : Vm) (B : Pt), s.WarmedH vm₁ ∧ Stand p l e R s m args below meth c B.U B.locs B.cells B.slots ∧ PostX ⟨T.setVm vm₁, locs, cells, slots⟩ argsL.toArray q B ∧
      Steps p.tables e below (T.setTop g) ((B.U.setTop { g with stack := rest }).pushFrame (.throwing q))) := by
  obtain ⟨mk, hnamed⟩ := Cond.code_named hcode
  obtain ⟨methM, cM, hmethM, -, -, -, -, -, -, hsigM⟩ := Cond.code_spec hnamed hcode
  have hstatic : methM.isStatic = true := Cond.static_spec hnamed hmethM hstat
  obtain ⟨kP, hkP, -⟩ := className_of_methodNamed hnamed
  have hinitP : kP.init = .initialized := Cond.initialized_spec (findClass_of_methodNamed hnamed) hkP hinit
  obtain ⟨vm₁, X₁, hstep₁⟩ := X.invokestatic hexec hown hlink hnamed hmethM hstatic hkP hinitP hy (g := g) hg (argsL := argsL) (rest := rest) (hlen _ hsigM) hstack hdg
  rcases hK m meth c ⟨T.setVm vm₁, locs, cells, slots⟩ { g with stack := rest } (.invokestatic index) mk argsL.toArray X₁ hg hsize hdg hW (X₁.named hnamed) (hpre vm₁ X₁.warmed) with ⟨v, B, X', hpost, hsteps⟩ | ⟨q, B, X', hpost, hsteps⟩
  · exact Or.inl ⟨v, vm₁, B, X₁.warmed, X', hpost, fun target h => hstep₁ _ fun acts => by rw [doInvoke_state]; exact hsteps.trans h⟩
  · exact Or.inr ⟨q, vm₁, B, X₁.warmed, X', hpost, hstep₁ _ fun acts => by rw [doInvoke_state]; exact hsteps⟩
end Calls
theorem vx_cls {s : State} {T : State} {vm₁ : Vm} {E : String} {k : ClassId} (hW : s.WarmedH vm₁) (h : (T.setVm vm₁).vm.findClass E = some k) : s.vm.findClass E = some k := by
  have h1 : vm₁.findClass E = some k := h
  rw [hW.alike.findClass] at h1
  exact h1
/-- the method's frame g, with q thrown over it -/
def vx_W (p : Program) (l : Launch) (e : Env) (R : Room) (s : State) (m : MethodId) (args : Array Value) (below : List Frame) (meth : Method) (c : Code) (H : Heap) (locs : List Loc) (cells slots : Nat) (Q : State → Prop) (g : JFrame) (q : Addr) : Prop :=
  ∀ T : State, T.heap = H → Stand p l e R s m args below meth c T locs cells slots → ∃ t, Steps p.tables e below ((T.setTop g).pushFrame (.throwing q)) t ∧ Q t
def vx_Run (p : Program) (l : Launch) (e : Env) (R : Room) (s : State) (m : MethodId) (args : Array Value) (below : List Frame) (meth : Method) (c : Code) (H : Heap) (locs : List Loc) (cells slots mc ms : Nat) (g : JFrame) (rest : List Value) (Qa : State → Outcome → State → Prop) (XC : String → State → State → Prop) (free : Addr → Prop) : Prop :=
  ∀ T : State, T.heap = H → Stand p l e R s m args below meth c T locs cells slots →
    (∃ (v : Option Value) (st₀ t T' : State) (L : List Loc), st₀.heap = H ∧ Stand p l e R s m args below meth c T' (locs ++ L) (cells + mc) (slots + ms) ∧ (∀ q ∈ L, free q.base) ∧ T'.heap = t.heap ∧ T'.vm = t.vm ∧ Qa st₀ (.returned v) t ∧
      Goes p e below T g T' { g with pc := g.pc + 3, stack := v.toList ++ rest }) ∨
    (∃ (q : Addr) (st₀ t T' : State) (L : List Loc) (E : String) (ce : Cell), st₀.heap = H ∧ Stand p l e R s m args below meth c T' (locs ++ L) (cells + mc) (slots + ms) ∧ (∀ z ∈ L, free z.base) ∧ T'.heap = t.heap ∧ T'.vm = t.vm ∧ XC E st₀ t ∧ t.heap[q]? = some ce ∧ ce.vm = .none ∧ s.vm.findClass E = some ce.cls ∧
      Steps p.tables e below (T.setTop g) ((T'.setTop { g with stack := rest }).pushFrame (.throwing q)))
def vx_X {S : Type} (px : S → Prop) (B : String → S → State → Prop) (A : Nat → Prop) : String → State → State → Prop := fun E st t => ∃ u : S, px u ∧ B E u t ∧ va_F A st t
section Runs
variable {p : Program} {l : Launch} {e : Env} {R : Room} {s : State} {m : MethodId} {args : Array Value} {below : List Frame} {meth : Method} {c : Code} {H : Heap} {locs : List Loc} {cells slots : Nat}
variable {y : MethodName} {bytes cc : ByteArray} {maxL nL mc ms n index : Nat} {ret : Option FieldType} {ws : List Cond} {rm : Room} {Pc : Array Value → State → Prop} {Qc : Array Value → State → Outcome → State → Prop} {XC : String → State → State → Prop} {free : Addr → Prop} {Ts : List Cond} {own C : String} {b : Addr} {As rest : List Value} {g : JFrame}
theorem vx_callBack (cb : CallB R s args own index y bytes maxL ret ws rm mc ms n) (hM : vx_Met l y ws rm Pc Qc XC mc ms free) (hbl : FrameBlind Pc) : vx_Back l R p e below s args y 3 8 (PreOf R mc ms Pc) (PostOf Qc mc ms free) (vx_Post XC mc ms free) := by
  obtain ⟨hrc, hrs, hfr, hlo, hws, hcw, -, hini, -⟩ := cb
  exact vx_back (bytes := bytes) (maxL := maxL) (ret := ret) hM hbl hrc hrs hfr hlo hws hcw (fun a' U hW => word_at hW (Or.inl (by first | rfl | simp [Cond.onTables, Cond.keeps, Cond.steady])) hini)
theorem vx_runV (S : CallFix p m c cc nL s args Ts own) (hM : vx_Met l y ws rm Pc Qc XC mc ms free) (cw : CallW R s args own C index y bytes maxL ret ws rm mc ms n) (hp : PreV s H C b Pc As)
    (hg : g.method = m) (hn : As.length = n) (hsize : g.locals.size = nL) (hstack : g.stack = As.reverse ++ .ref b :: rest) (hW : 2 * g.monitorRoom + (rest.map fun v => v.category).sum ≤ 8) (hdg : decode cc g.pc = .ok (.invokevirtual index, 3)) (hf : cells + mc ≤ R.cells ∧ slots + ms ≤ R.slots) :
    vx_Run p l e R s m args below meth c H locs cells slots mc ms g rest (Qc (Value.ref b :: As).toArray) XC free := by
  have hK : vx_Back l R p e below s args y 3 8 (PreOf R mc ms Pc) (PostOf Qc mc ms free) (vx_Post XC mc ms free) := vx_callBack cw.1 hM hp.1
  obtain ⟨⟨-, -, -, -, -, -, hcode, -, hy, hlen, hl⟩, hin, hse⟩ := cw
  obtain ⟨hx, hb, hml, ho, -⟩ := S
  obtain ⟨-, ⟨cellB, hcB, hoB, hclB⟩, hPc⟩ := hp
  intro T hT X
  rcases vx_callV X hx (C := C) (bytes := bytes) (maxL := maxL) (ret := ret) ho hl hin hse hcode hy hK (by rw [hT]; exact hcB) hoB hclB hg (hsize.trans hml.symm) (argsL := As) (rest := rest) (fun sig h => hn.trans (hlen sig h)) hstack hW (by rw [hb]; exact hdg)
    (fun vm₁ hW₁ => ⟨hf.1, hf.2, hPc (T.setVm vm₁) hT hW₁⟩) with ⟨v, vm₁, ⟨U', l2, c2, s2⟩, hW₁, X', ⟨g', mk, t, L, e1, e2, hq, h1, hL, h2, h3⟩, st⟩ | ⟨q, vm₁, ⟨U', l2, c2, s2⟩, hW₁, X', ⟨g', mk, t, L, E, ce, e1, e2, hq, hce, hcv, hcl, h1, hL, h2, h3⟩, st⟩
  · dsimp only [Pt.U, Pt.locs, Pt.cells, Pt.slots] at X' e1 e2 h1 h2 h3 st
    subst h1; subst h2; subst h3
    exact Or.inl ⟨v, (T.setVm vm₁).calling g' mk (Value.ref b :: As).toArray, t, U', L, hT, X', hL, e1, e2, hq, st⟩
  · dsimp only [Pt.U, Pt.locs, Pt.cells, Pt.slots] at X' e1 e2 h1 h2 h3 st hcl
    subst h1; subst h2; subst h3
    exact Or.inr ⟨q, (T.setVm vm₁).calling g' mk (Value.ref b :: As).toArray, t, U', L, E, ce, hT, X', hL, e1, e2, hq, hce, hcv, vx_cls hW₁ hcl, st⟩
theorem vx_runS (S : CallFix p m c cc nL s args Ts own) (hM : vx_Met l y ws rm Pc Qc XC mc ms free) (cw : CallB R s args own index y bytes maxL ret ws rm mc ms n ∧ (Cond.static y).before args s = true) (hp : PreS s H Pc As)
    (hg : g.method = m) (hn : As.length = n) (hsize : g.locals.size = nL) (hstack : g.stack = As.reverse ++ rest) (hW : 2 * g.monitorRoom + (rest.map fun v => v.category).sum ≤ 8) (hdg : decode cc g.pc = .ok (.invokestatic index, 3)) (hf : cells + mc ≤ R.cells ∧ slots + ms ≤ R.slots) :
    vx_Run p l e R s m args below meth c H locs cells slots mc ms g rest (Qc As.toArray) XC free := by
  have hK : vx_Back l R p e below s args y 3 8 (PreOf R mc ms Pc) (PostOf Qc mc ms free) (vx_Post XC mc ms free) := vx_callBack cw.1 hM hp.1
  obtain ⟨⟨-, -, -, -, -, -, hcode, hini, hy, hlen, hl⟩, hstt⟩ := cw
  obtain ⟨hx, hb, hml, ho, -⟩ := S
  intro T hT X
  rcases vx_callS X hx (bytes := bytes) (maxL := maxL) (ret := ret) ho hl hstt hini hcode hy hK hg (hsize.trans hml.symm) (argsL := As) (rest := rest) (fun sig h => hn.trans (hlen sig h)) hstack hW (by rw [hb]; exact hdg)
    (fun vm₁ hW₁ => ⟨hf.1, hf.2, hp.2 (T.setVm vm₁) hT hW₁⟩) with ⟨v, vm₁, ⟨U', l2, c2, s2⟩, hW₁, X', ⟨g', mk, t, L, e1, e2, hq, h1, hL, h2, h3⟩, st⟩ | ⟨q, vm₁, ⟨U', l2, c2, s2⟩, hW₁, X', ⟨g', mk, t, L, E, ce, e1, e2, hq, hce, hcv, hcl, h1, hL, h2, h3⟩, st⟩
  · dsimp only [Pt.U, Pt.locs, Pt.cells, Pt.slots] at X' e1 e2 h1 h2 h3 st
    subst h1; subst h2; subst h3
    exact Or.inl ⟨v, (T.setVm vm₁).calling g' mk As.toArray, t, U', L, hT, X', hL, e1, e2, hq, st⟩
  · dsimp only [Pt.U, Pt.locs, Pt.cells, Pt.slots] at X' e1 e2 h1 h2 h3 st hcl
    subst h1; subst h2; subst h3
    exact Or.inr ⟨q, (T.setVm vm₁).calling g' mk As.toArray, t, U', L, E, ce, hT, X', hL, e1, e2, hq, hce, hcv, vx_cls hW₁ hcl, st⟩
end Runs
section Rows
variable {p : Program} {l : Launch} {e : Env} {R : Room} {s : State} {m : MethodId} {args : Array Value} {below : List Frame} {meth : Method} {c : Code} {H : Heap} {locs : List Loc} {cells slots : Nat} {Q : State → Prop}
variable {mc ms : Nat} {free : Addr → Prop} {A0 A1 : Nat → Prop} {H0 : Heap} {a : Array Value} {pc : Nat} {ls : Array Slot} {st0 rest : List Value}
theorem vx_keep {st₀ t T' : State} {L : List Loc} (h0 : st₀.heap = H) (e1 : T'.heap = t.heap) (hS : va_S A0 H0 H locs) (hA : ∀ q, q < H.size → A1 q → A0 q) (hf : ∀ q, free q → A0 q) (hL : ∀ q ∈ L, free q.base) (hF : va_F A1 st₀ t) :
    H.size ≤ T'.heap.size ∧ (∀ q : Nat, q < H.size → ¬ A1 q → T'.heap[q]? = H[q]?) ∧ va_S A0 H0 T'.heap (locs ++ L) := by
  obtain ⟨hz, hk⟩ := hF
  rw [h0] at hz hk
  exact ⟨by rw [e1]; exact hz, fun q h1 h2 => by rw [e1]; exact hk q h1 h2,
    ⟨Nat.le_trans hS.1 (by rw [e1]; exact hz), fun q h1 h2 => by rw [e1, hk q (Nat.lt_of_lt_of_le h1 hS.1) (fun z => h2 (hA q (Nat.lt_of_lt_of_le h1 hS.1) z))]; exact hS.2.1 q h1 h2, fun q hq => by
      rcases List.mem_append.mp hq with h | h
      · exact hS.2.2 q h
      · exact hf _ (hL q h)⟩⟩
theorem vx_calli {S SX : Type} {post : Int32 → S → Prop} {px : SX → Prop} {B : S → State → Prop} {BX : String → SX → State → Prop} {AX : Nat → Prop} (hr : vx_Run p l e R s m args below meth c H locs cells slots mc ms (F0 m pc ls st0) rest (va_Qi post B A1 a) (vx_X px BX AX) free) (hS : va_S A0 H0 H locs) (hA : ∀ q, q < H.size → A1 q → A0 q) (hf : ∀ q, free q → A0 q) (hAX : ∀ q, q < H.size → AX q → A0 q)
    (kx : ∀ (E : String) (ce : Cell) (q9 : Addr) (u : SX) (t : State) (H1 : Heap) (locs1 : List Loc), t.heap = H1 → s.vm.Alike t.vm → px u → BX E u t → H.size ≤ H1.size → (∀ q : Nat, q < H.size → ¬ AX q → H1[q]? = H[q]?) → va_S A0 H0 H1 locs1 → H1[q9]? = some ce → ce.vm = .none → s.vm.findClass E = some ce.cls → vx_W p l e R s m args below meth c H1 locs1 (cells + mc) (slots + ms) Q (F0 m pc ls rest) q9)
    (kk : ∀ (r : Int32) (u : S) (t : State) (H1 : Heap) (locs1 : List Loc), t.heap = H1 → s.vm.Alike t.vm → post r u → B u t → H.size ≤ H1.size → (∀ q : Nat, q < H.size → ¬ A1 q → H1[q]? = H[q]?) → va_S A0 H0 H1 locs1 → W p l e R s m args below meth c H1 locs1 (cells + mc) (slots + ms) Q (F0 m (pc + 3) ls (.int r :: rest))) : W p l e R s m args below meth c H locs cells slots Q (F0 m pc ls st0) := by
  intro T hT X
  rcases hr T hT X with ⟨v, st₀, t, T', L, h0, X', hL, e1, e2, ⟨⟨r, u, hv, hp, hb⟩, hF⟩, st⟩ | ⟨q, st₀, t, T', L, E, ce, h0, X', hL, e1, e2, ⟨u, hp, hb, hF⟩, hce, hcv, hcl, st⟩
  · cases hv
    obtain ⟨k1, k2, k3⟩ := vx_keep h0 e1 hS hA hf hL hF
    obtain ⟨t2, a1, b1⟩ := kk r u t T'.heap (locs ++ L) e1.symm (by rw [← e2]; exact X'.warmed.alike) hp hb k1 k2 k3 T' rfl X'
    exact ⟨t2, st t2 a1, b1⟩
  · obtain ⟨k1, k2, k3⟩ := vx_keep h0 e1 hS hAX hf hL hF
    obtain ⟨t2, a1, b1⟩ := kx E ce q u t T'.heap (locs ++ L) e1.symm (by rw [← e2]; exact X'.warmed.alike) hp hb k1 k2 k3 (by rw [e1]; exact hce) hcv hcl T' rfl X'
    exact ⟨t2, st.trans a1, b1⟩
theorem vx_calll {S SX : Type} {post : Int64 → S → Prop} {px : SX → Prop} {B : S → State → Prop} {BX : String → SX → State → Prop} {AX : Nat → Prop} (hr : vx_Run p l e R s m args below meth c H locs cells slots mc ms (F0 m pc ls st0) rest (va_Ql post B A1 a) (vx_X px BX AX) free) (hS : va_S A0 H0 H locs) (hA : ∀ q, q < H.size → A1 q → A0 q) (hf : ∀ q, free q → A0 q) (hAX : ∀ q, q < H.size → AX q → A0 q)
    (kx : ∀ (E : String) (ce : Cell) (q9 : Addr) (u : SX) (t : State) (H1 : Heap) (locs1 : List Loc), t.heap = H1 → s.vm.Alike t.vm → px u → BX E u t → H.size ≤ H1.size → (∀ q : Nat, q < H.size → ¬ AX q → H1[q]? = H[q]?) → va_S A0 H0 H1 locs1 → H1[q9]? = some ce → ce.vm = .none → s.vm.findClass E = some ce.cls → vx_W p l e R s m args below meth c H1 locs1 (cells + mc) (slots + ms) Q (F0 m pc ls rest) q9)
    (kk : ∀ (r : Int64) (u : S) (t : State) (H1 : Heap) (locs1 : List Loc), t.heap = H1 → s.vm.Alike t.vm → post r u → B u t → H.size ≤ H1.size → (∀ q : Nat, q < H.size → ¬ A1 q → H1[q]? = H[q]?) → va_S A0 H0 H1 locs1 → W p l e R s m args below meth c H1 locs1 (cells + mc) (slots + ms) Q (F0 m (pc + 3) ls (.long r :: rest))) : W p l e R s m args below meth c H locs cells slots Q (F0 m pc ls st0) := by
  intro T hT X
  rcases hr T hT X with ⟨v, st₀, t, T', L, h0, X', hL, e1, e2, ⟨⟨r, u, hv, hp, hb⟩, hF⟩, st⟩ | ⟨q, st₀, t, T', L, E, ce, h0, X', hL, e1, e2, ⟨u, hp, hb, hF⟩, hce, hcv, hcl, st⟩
  · cases hv
    obtain ⟨k1, k2, k3⟩ := vx_keep h0 e1 hS hA hf hL hF
    obtain ⟨t2, a1, b1⟩ := kk r u t T'.heap (locs ++ L) e1.symm (by rw [← e2]; exact X'.warmed.alike) hp hb k1 k2 k3 T' rfl X'
    exact ⟨t2, st t2 a1, b1⟩
  · obtain ⟨k1, k2, k3⟩ := vx_keep h0 e1 hS hAX hf hL hF
    obtain ⟨t2, a1, b1⟩ := kx E ce q u t T'.heap (locs ++ L) e1.symm (by rw [← e2]; exact X'.warmed.alike) hp hb k1 k2 k3 (by rw [e1]; exact hce) hcv hcl T' rfl X'
    exact ⟨t2, st.trans a1, b1⟩
theorem vx_callf {S SX : Type} {post : UInt32 → S → Prop} {px : SX → Prop} {B : S → State → Prop} {BX : String → SX → State → Prop} {AX : Nat → Prop} (hr : vx_Run p l e R s m args below meth c H locs cells slots mc ms (F0 m pc ls st0) rest (va_Qf post B A1 a) (vx_X px BX AX) free) (hS : va_S A0 H0 H locs) (hA : ∀ q, q < H.size → A1 q → A0 q) (hf : ∀ q, free q → A0 q) (hAX : ∀ q, q < H.size → AX q → A0 q)
    (kx : ∀ (E : String) (ce : Cell) (q9 : Addr) (u : SX) (t : State) (H1 : Heap) (locs1 : List Loc), t.heap = H1 → s.vm.Alike t.vm → px u → BX E u t → H.size ≤ H1.size → (∀ q : Nat, q < H.size → ¬ AX q → H1[q]? = H[q]?) → va_S A0 H0 H1 locs1 → H1[q9]? = some ce → ce.vm = .none → s.vm.findClass E = some ce.cls → vx_W p l e R s m args below meth c H1 locs1 (cells + mc) (slots + ms) Q (F0 m pc ls rest) q9)
    (kk : ∀ (r : UInt32) (u : S) (t : State) (H1 : Heap) (locs1 : List Loc), t.heap = H1 → s.vm.Alike t.vm → post r u → B u t → H.size ≤ H1.size → (∀ q : Nat, q < H.size → ¬ A1 q → H1[q]? = H[q]?) → va_S A0 H0 H1 locs1 → W p l e R s m args below meth c H1 locs1 (cells + mc) (slots + ms) Q (F0 m (pc + 3) ls (.float r :: rest))) : W p l e R s m args below meth c H locs cells slots Q (F0 m pc ls st0) := by
  intro T hT X
  rcases hr T hT X with ⟨v, st₀, t, T', L, h0, X', hL, e1, e2, ⟨⟨r, u, hv, hp, hb⟩, hF⟩, st⟩ | ⟨q, st₀, t, T', L, E, ce, h0, X', hL, e1, e2, ⟨u, hp, hb, hF⟩, hce, hcv, hcl, st⟩
  · cases hv
    obtain ⟨k1, k2, k3⟩ := vx_keep h0 e1 hS hA hf hL hF
    obtain ⟨t2, a1, b1⟩ := kk r u t T'.heap (locs ++ L) e1.symm (by rw [← e2]; exact X'.warmed.alike) hp hb k1 k2 k3 T' rfl X'
    exact ⟨t2, st t2 a1, b1⟩
  · obtain ⟨k1, k2, k3⟩ := vx_keep h0 e1 hS hAX hf hL hF
    obtain ⟨t2, a1, b1⟩ := kx E ce q u t T'.heap (locs ++ L) e1.symm (by rw [← e2]; exact X'.warmed.alike) hp hb k1 k2 k3 (by rw [e1]; exact hce) hcv hcl T' rfl X'
    exact ⟨t2, st.trans a1, b1⟩
theorem vx_calld {S SX : Type} {post : UInt64 → S → Prop} {px : SX → Prop} {B : S → State → Prop} {BX : String → SX → State → Prop} {AX : Nat → Prop} (hr : vx_Run p l e R s m args below meth c H locs cells slots mc ms (F0 m pc ls st0) rest (va_Qd post B A1 a) (vx_X px BX AX) free) (hS : va_S A0 H0 H locs) (hA : ∀ q, q < H.size → A1 q → A0 q) (hf : ∀ q, free q → A0 q) (hAX : ∀ q, q < H.size → AX q → A0 q)
    (kx : ∀ (E : String) (ce : Cell) (q9 : Addr) (u : SX) (t : State) (H1 : Heap) (locs1 : List Loc), t.heap = H1 → s.vm.Alike t.vm → px u → BX E u t → H.size ≤ H1.size → (∀ q : Nat, q < H.size → ¬ AX q → H1[q]? = H[q]?) → va_S A0 H0 H1 locs1 → H1[q9]? = some ce → ce.vm = .none → s.vm.findClass E = some ce.cls → vx_W p l e R s m args below meth c H1 locs1 (cells + mc) (slots + ms) Q (F0 m pc ls rest) q9)
    (kk : ∀ (r : UInt64) (u : S) (t : State) (H1 : Heap) (locs1 : List Loc), t.heap = H1 → s.vm.Alike t.vm → post r u → B u t → H.size ≤ H1.size → (∀ q : Nat, q < H.size → ¬ A1 q → H1[q]? = H[q]?) → va_S A0 H0 H1 locs1 → W p l e R s m args below meth c H1 locs1 (cells + mc) (slots + ms) Q (F0 m (pc + 3) ls (.double r :: rest))) : W p l e R s m args below meth c H locs cells slots Q (F0 m pc ls st0) := by
  intro T hT X
  rcases hr T hT X with ⟨v, st₀, t, T', L, h0, X', hL, e1, e2, ⟨⟨r, u, hv, hp, hb⟩, hF⟩, st⟩ | ⟨q, st₀, t, T', L, E, ce, h0, X', hL, e1, e2, ⟨u, hp, hb, hF⟩, hce, hcv, hcl, st⟩
  · cases hv
    obtain ⟨k1, k2, k3⟩ := vx_keep h0 e1 hS hA hf hL hF
    obtain ⟨t2, a1, b1⟩ := kk r u t T'.heap (locs ++ L) e1.symm (by rw [← e2]; exact X'.warmed.alike) hp hb k1 k2 k3 T' rfl X'
    exact ⟨t2, st t2 a1, b1⟩
  · obtain ⟨k1, k2, k3⟩ := vx_keep h0 e1 hS hAX hf hL hF
    obtain ⟨t2, a1, b1⟩ := kx E ce q u t T'.heap (locs ++ L) e1.symm (by rw [← e2]; exact X'.warmed.alike) hp hb k1 k2 k3 (by rw [e1]; exact hce) hcv hcl T' rfl X'
    exact ⟨t2, st.trans a1, b1⟩
theorem vx_callv {S SX : Type} {post : S → Prop} {px : SX → Prop} {B : S → State → Prop} {BX : String → SX → State → Prop} {AX : Nat → Prop} (hr : vx_Run p l e R s m args below meth c H locs cells slots mc ms (F0 m pc ls st0) rest (va_Qv post B A1 a) (vx_X px BX AX) free) (hS : va_S A0 H0 H locs) (hA : ∀ q, q < H.size → A1 q → A0 q) (hf : ∀ q, free q → A0 q) (hAX : ∀ q, q < H.size → AX q → A0 q)
    (kx : ∀ (E : String) (ce : Cell) (q9 : Addr) (u : SX) (t : State) (H1 : Heap) (locs1 : List Loc), t.heap = H1 → s.vm.Alike t.vm → px u → BX E u t → H.size ≤ H1.size → (∀ q : Nat, q < H.size → ¬ AX q → H1[q]? = H[q]?) → va_S A0 H0 H1 locs1 → H1[q9]? = some ce → ce.vm = .none → s.vm.findClass E = some ce.cls → vx_W p l e R s m args below meth c H1 locs1 (cells + mc) (slots + ms) Q (F0 m pc ls rest) q9)
    (kk : ∀ (u : S) (t : State) (H1 : Heap) (locs1 : List Loc), t.heap = H1 → s.vm.Alike t.vm → post u → B u t → H.size ≤ H1.size → (∀ q : Nat, q < H.size → ¬ A1 q → H1[q]? = H[q]?) → va_S A0 H0 H1 locs1 → W p l e R s m args below meth c H1 locs1 (cells + mc) (slots + ms) Q (F0 m (pc + 3) ls (rest))) : W p l e R s m args below meth c H locs cells slots Q (F0 m pc ls st0) := by
  intro T hT X
  rcases hr T hT X with ⟨v, st₀, t, T', L, h0, X', hL, e1, e2, ⟨⟨u, hv, hp, hb⟩, hF⟩, st⟩ | ⟨q, st₀, t, T', L, E, ce, h0, X', hL, e1, e2, ⟨u, hp, hb, hF⟩, hce, hcv, hcl, st⟩
  · cases hv
    obtain ⟨k1, k2, k3⟩ := vx_keep h0 e1 hS hA hf hL hF
    obtain ⟨t2, a1, b1⟩ := kk u t T'.heap (locs ++ L) e1.symm (by rw [← e2]; exact X'.warmed.alike) hp hb k1 k2 k3 T' rfl X'
    exact ⟨t2, st t2 a1, b1⟩
  · obtain ⟨k1, k2, k3⟩ := vx_keep h0 e1 hS hAX hf hL hF
    obtain ⟨t2, a1, b1⟩ := kx E ce q u t T'.heap (locs ++ L) e1.symm (by rw [← e2]; exact X'.warmed.alike) hp hb k1 k2 k3 (by rw [e1]; exact hce) hcv hcl T' rfl X'
    exact ⟨t2, st.trans a1, b1⟩
/-- caught by the row x of this method's table; the rows ahead don't take it -/
theorem vx_catch {own name : String} {E : String} {ce : Cell} {q : Addr} (hown : s.vm.findClass own = some m.cls) (pre : List ExceptionTableEntry) (x : ExceptionTableEntry) (suf : List ExceptionTableEntry) (hsplit : c.exceptionTable.toList = pre ++ x :: suf)
    (hpass : ∀ z ∈ pre, covers z pc = false ∨ (z.catchType ≠ 0 ∧ ∃ nm : String, (Cond.classLink own z.catchType nm).before args s = true ∧ va_Nc E nm s)) (hx : covers x pc = true) (h0 : x.catchType ≠ 0)
    (hlink : (Cond.classLink own x.catchType name).before args s = true) (hcast : (Cond.castable E name).before args s = true) (hcell : H[q]? = some ce) (hv : ce.vm = .none) (hcl : s.vm.findClass E = some ce.cls)
    (kk : W p l e R s m args below meth c H locs cells slots Q (F0 m x.handlerPc ls [.ref q])) : vx_W p l e R s m args below meth c H locs cells slots Q (F0 m pc ls rest) q := by
  intro T hT X
  have hpl : e.platform.magicAccessors = ({} : Platform).magicAccessors := by rw [X.admits.platform]
  obtain ⟨c3, c4, hc3, hc4, hasg⟩ := Cond.castable_spec hcast
  cases Option.some.inj (hc3.symm.trans hcl)
  obtain ⟨c5, hc5, hcl5⟩ := Cond.classLink_spec hown hlink e.platform hpl
  cases Option.some.inj (hc4.symm.trans hc5)
  obtain ⟨vm', X', st⟩ := X.thenCaughtThrough q (g := F0 m pc ls rest) rfl (Steps.refl _) (by rw [hT]; exact hcell) (by rw [hv]; rfl) (by obtain ⟨k9, h9, -⟩ := Vm.findClass_spec hcl; exact ⟨k9, h9⟩) pre x suf hsplit
    (fun z hz => by
      rcases hpass z hz with h | ⟨hz0, nm, hl1, hn1⟩
      · exact Or.inl h
      · obtain ⟨c6, hc6, hcl6⟩ := Cond.classLink_spec hown hl1 e.platform hpl
        obtain ⟨a8, b8, h1, h2, h3⟩ := hn1
        cases Option.some.inj (h1.symm.trans hcl)
        cases Option.some.inj (h2.symm.trans hc6)
        exact Or.inr ⟨hz0, _, hcl6, h3⟩) hx (Or.inr ⟨h0, c4, hcl5, hasg⟩)
  obtain ⟨t, a1, b1⟩ := kk (T.setVm vm') hT X'
  exact ⟨t, st.trans a1, b1⟩
end Rows
section Ends
variable {p : Program} {l : Launch} {e : Env} {R : Room} {s : State} {m : MethodId} {args : Array Value} {below : List Frame} {meth : Method} {c : Code} {H : Heap} {locs : List Loc} {cells slots : Nat} {Q : State → Prop}
variable {mc ms : Nat} {free : Addr → Prop} {A0 A1 : Nat → Prop} {H0 : Heap} {a : Array Value} {ls : Array Slot} {st0 rest : List Value}
variable {Qc : Array Value → State → Outcome → State → Prop} {XC : String → State → State → Prop}
/-- what a body that may throw owes at its end -/
def vx_MQ (below : List Frame) (Qc : Array Value → State → Outcome → State → Prop) (XC : String → State → State → Prop) (a : Array Value) (s : State) (mc ms : Nat) (free : Addr → Prop) : State → Prop := fun t =>
  ∃ o, t.status = .running ∧ Ended t below o ∧ vx_Q Qc XC mc ms free a s o t
theorem vx_ret {g : JFrame} {mc ms : Nat} (k : W p l e R s m args below meth c H locs cells slots (MQ below Qc args s mc ms free) g) : W p l e R s m args below meth c H locs cells slots (vx_MQ below Qc XC args s mc ms free) g := by
  intro T hT X
  obtain ⟨t, a1, o, b1, b2, b3, b4⟩ := k T hT X
  exact ⟨t, a1, o, b1, b2, Or.inl ⟨b3, b4⟩⟩
/-- not caught here: it goes on to the caller -/
theorem vx_widen {g : JFrame} {q : Addr} {k n : Nat} (h1 : cells ≤ k) (h2 : slots ≤ n) (kk : vx_W p l e R s m args below meth c H locs k n Q g q) : vx_W p l e R s m args below meth c H locs cells slots Q g q := fun T hT X => kk T hT (stand_widen X h1 h2)
theorem vx_out {pc : Nat} {E : String} {ce : Cell} {q : Addr} {mc ms : Nat} (hout : ∀ x ∈ c.exceptionTable.toList, covers x pc = false) (hlocks : meth.locks = false) (hcell : H[q]? = some ce) (hv : ce.vm = .none) (hcl : s.vm.findClass E = some ce.cls)
    (hx : ∀ t : State, t.heap = H → s.vm.Alike t.vm → XC E s t) (hf : ∀ z ∈ locs, free z.base) (hc : cells ≤ mc) (hs : slots ≤ ms) :
    vx_W p l e R s m args below meth c H locs cells slots (vx_MQ below Qc XC args s mc ms free) (F0 m pc ls rest) q := by
  intro T hT X
  obtain ⟨st1, hrun, hend, hW, hsm⟩ := X.leaveThrown q (g := F0 m pc ls rest) rfl rfl rfl hout hlocks
  have hcell9 : (T.setFrames (.throwing q :: below)).heap[q]? = some ce := by
    show T.heap[q]? = some ce
    rw [hT]; exact hcell
  exact ⟨_, st1, .threw q, hrun, hend, Or.inr ⟨q, rfl, E, ce, locs, hx _ hT hW.alike, hcell9, hv, hcl, hW, hsm.mono hc hs, hf⟩⟩
theorem vx_frame {U : State} {k n : Nat} (h : s.sameButNew ({ U with vm := s.vm } : State) locs k n) : s.heap.size ≤ U.heap.size ∧ ∀ q : Nat, q < s.heap.size → (∀ z ∈ locs, z.base ≠ q) → U.heap[q]? = s.heap[q]? := by
  obtain ⟨-, h2, -, -, -, h6⟩ := h
  refine ⟨h2, fun q hq hz => ?_⟩
  obtain ⟨c9, e1, e2, e3, e4⟩ := h6 q _ (Array.getElem?_eq_getElem hq)
  have hs : c9.slots = (s.heap[q]).slots := Array.ext_getElem? fun i => e4 i fun hm => hz _ hm rfl
  have h9 : c9 = s.heap[q] := by
    rw [hs] at e2
    exact e2
  have e5 : U.heap[q]? = some c9 := e1
  rw [e5, h9, Array.getElem?_eq_getElem hq]
/-- the words of a throw but the four that speak of the heap -/
def vx_no (w : Cond) : Bool := decide (w ≠ .isRef (.static Bundle.tN "UNASSIGNED_STACK" Bundle.steD)) && decide (w ≠ .isRef (.static Bundle.tN "SUPPRESSED_SENTINEL" Bundle.listD)) && decide (w ≠ .laysStatic Bundle.tN "UNASSIGNED_STACK" Bundle.steD) && decide (w ≠ .laysStatic Bundle.tN "SUPPRESSED_SENTINEL" Bundle.listD)
def vx_at0 (own : String) (ic : Nat) (X : String) (names : List String) : List Cond := (Bundle.ownAtoms0 own ic X names).filter vx_no
def vx_atS (own : String) (ic : Nat) (X : String) (names : List String) : List Cond := (Bundle.ownAtoms own ic X names).filter vx_no
/-- a word that the tables alone decide, or a good one -/
def vx_ot (w : Cond) : Bool := w.onTables || goodWord w
theorem vx_ot_at {args a' : Array Value} {s U : State} {w : Cond} (hW : s.WarmedH U.vm) (hvm : s.vm = U.vm) (hg : vx_ot w = true) (h : w.before args s = true) : w.before a' U = true := by
  simp only [vx_ot, Bool.or_eq_true] at hg
  rcases hg with hg | hg
  · exact va_tabs hg hvm h
  · exact word_at hW (good_of_word hg) h
/-- a list's words: the good ones out of the method's own list, the others by premises of their own -/
theorem vx_hat {args : Array Value} {s : State} {L B : List Cond} (h1 : ∀ w ∈ L.filter goodWord, w.before args s = true) (h2 : ∀ w ∈ L.filter (fun w => !goodWord w), w ∈ B) (h3 : ∀ w ∈ B, w.before args s = true) : ∀ w ∈ L, w.before args s = true := by
  intro w hw
  by_cases g : goodWord w = true
  · exact h1 w (List.mem_filter.mpr ⟨hw, g⟩)
  · refine h3 w (h2 w (List.mem_filter.mpr ⟨hw, ?_⟩))
    show (!goodWord w) = true
    cases hgw : goodWord w
    · rfl
    · exact absurd hgw g
theorem vx_c {args : Array Value} {s : State} {w : Cond} {B : List Cond} (h : w.before args s = true) (t : ∀ w ∈ B, w.before args s = true) : ∀ w' ∈ w :: B, w'.before args s = true := fun w' h' => (List.mem_cons.mp h').elim (fun e => by rw [e]; exact h) (t w')
theorem vx_n {args : Array Value} {s : State} : ∀ w ∈ ([] : List Cond), w.before args s = true := fun _ h => nomatch h
theorem vx_own {args : Array Value} {s : State} {L : List Cond} (h1 : ∀ w ∈ L.filter vx_no, w.before args s = true)
    (hU : (Cond.isRef (.static Bundle.tN "UNASSIGNED_STACK" Bundle.steD)).before args s = true) (hN : (Cond.isRef (.static Bundle.tN "SUPPRESSED_SENTINEL" Bundle.listD)).before args s = true)
    (lU : (Cond.laysStatic Bundle.tN "UNASSIGNED_STACK" Bundle.steD).before args s = true) (lN : (Cond.laysStatic Bundle.tN "SUPPRESSED_SENTINEL" Bundle.listD).before args s = true) : ∀ w ∈ L, w.before args s = true := by
  intro w hw
  by_cases e1 : w = .isRef (.static Bundle.tN "UNASSIGNED_STACK" Bundle.steD)
  · rw [e1]; exact hU
  · by_cases e2 : w = .isRef (.static Bundle.tN "SUPPRESSED_SENTINEL" Bundle.listD)
    · rw [e2]; exact hN
    · by_cases e3 : w = .laysStatic Bundle.tN "UNASSIGNED_STACK" Bundle.steD
      · rw [e3]; exact lU
      · by_cases e4 : w = .laysStatic Bundle.tN "SUPPRESSED_SENTINEL" Bundle.listD
        · rw [e4]; exact lN
        · exact h1 w (List.mem_filter.mpr ⟨hw, by unfold vx_no; rw [decide_eq_true e1, decide_eq_true e2, decide_eq_true e3, decide_eq_true e4]; rfl⟩)
/-- where a static field lies, its class's statics cell in H -/
def vx_L (C n d : String) (A : Nat → Prop) (U : State) (H : Heap) : Prop := ∃ (c : ClassId) (k : Class) (i : Nat) (f : Field) (a : Nat) (cell : Cell), U.vm.findClass C = some c ∧ U.fieldFound? C n d = some (c, k, i, f) ∧ f.isStatic = true ∧ k.statics = some a ∧ H[a]? = some cell ∧ cell.vm.isStatics = true ∧ cell.cls = c ∧ f.slot < cell.slots.size ∧ k.staticTypes[f.slot]? = some f.type ∧ ¬ A a
theorem vx_L.moved {C n d : String} {A : Nat → Prop} {u U : State} {H : Heap} (hvm : u.vm.Alike U.vm) (h : vx_L C n d A u H) : vx_L C n d A U H := by
  obtain ⟨c, k, i, f, a, cell, h1, h2, h3, h4, h5, h6, h7, h8, h9, h10⟩ := h
  obtain ⟨k', hi', he⟩ := State.fieldFound?_setVm hvm h2
  exact ⟨c, k', i, f, a, cell, by rw [hvm.findClass]; exact h1, hi', h3, by rw [he]; exact h4, h5, h6, h7, h8, by rw [he]; exact h9, h10⟩
theorem vx_L.kept {C n d : String} {A : Nat → Prop} {U : State} {H H1 : Heap} (h : vx_L C n d A U H) (hq : ∀ a : Nat, a < H.size → ¬ A a → H1[a]? = H[a]?) : vx_L C n d A U H1 := by
  obtain ⟨c, k, i, f, a, cell, h1, h2, h3, h4, h5, h6, h7, h8, h9, h10⟩ := h
  exact ⟨c, k, i, f, a, cell, h1, h2, h3, h4, by rw [hq a (Array.getElem?_eq_some_iff.mp h5).1 h10]; exact h5, h6, h7, h8, h9, h10⟩
theorem vx_L.narrow {C n d : String} {A B : Nat → Prop} {U : State} {H : Heap} (h : vx_L C n d A U H) (hAB : ∀ q, B q → A q) : vx_L C n d B U H := by
  obtain ⟨c, k, i, f, a, cell, h1, h2, h3, h4, h5, h6, h7, h8, h9, h10⟩ := h
  exact ⟨c, k, i, f, a, cell, h1, h2, h3, h4, h5, h6, h7, h8, h9, fun z => h10 (hAB _ z)⟩
theorem vx_L.word {C n d : String} {A : Nat → Prop} {s : State} {args : Array Value} (h : vx_L C n d A s s.heap) : (Cond.laysStatic C n d).before args s = true := by
  obtain ⟨c, k, i, f, a, cell, h1, h2, h3, h4, h5, h6, h7, h8, h9, -⟩ := h
  show (Cond.laysStatic C n d).holds args s none s [] = true
  exact Cond.laysStatic_of h1 h2 h3 h4 h5 h6 h7 h8 h9
/-- .. and what it holds: null or some reference -/
def vx_Zq (C n d : String) (A : Nat → Prop) (U : State) (H : Heap) : Prop := va_Zq C n d A U H ∧ vx_L C n d A U H
theorem vx_Zq.moved {C n d : String} {A : Nat → Prop} {u U : State} {H : Heap} (hvm : u.vm.Alike U.vm) (h : vx_Zq C n d A u H) : vx_Zq C n d A U H := ⟨va_Zq.moved hvm h.1, vx_L.moved hvm h.2⟩
theorem vx_Zq.kept {C n d : String} {A : Nat → Prop} {U : State} {H H1 : Heap} (h : vx_Zq C n d A U H) (hq : ∀ a : Nat, a < H.size → ¬ A a → H1[a]? = H[a]?) : vx_Zq C n d A U H1 := ⟨va_Zq.kept h.1 hq, vx_L.kept h.2 hq⟩
theorem vx_Zq.narrow {C n d : String} {A B : Nat → Prop} {U : State} {H : Heap} (h : vx_Zq C n d A U H) (hAB : ∀ q, B q → A q) : vx_Zq C n d B U H := ⟨va_Zq.narrow h.1 hAB, vx_L.narrow h.2 hAB⟩
theorem vx_Zqof {args : Array Value} {s : State} {C n d : String} {A : Nat → Prop} (hl : (Cond.laysStatic C n d).before args s = true) (hini : (Cond.initialized C).before args s = true) (h : (Cond.isRef (.static C n d)).before args s = true) (hA : ∀ a : Nat, a < s.heap.size → ¬ A a) : vx_Zq C n d A s s.heap := by
  refine ⟨va_Zqof hl hini h hA, ?_⟩
  obtain ⟨c, k, i, f, a, cell, h1, h2, h3, h4, h5, h6, h7, h8, h9⟩ := Cond.laysStatic_spec hl
  exact ⟨c, k, i, f, a, cell, h1, h2, h3, h4, h5, h6, h7, h8, h9, hA a (Array.getElem?_eq_some_iff.mp h5).1⟩
theorem vx_isRef {C n d : String} {v : Value} {A : Nat → Prop} {s : State} {args : Array Value} (h : va_Z C n d v A s s.heap) (hv : v.isRef = true) : (Cond.isRef (.static C n d)).before args s = true := by
  obtain ⟨cf, kf, fi, f, a, cell, h1, h2, h3, h4, h5, h6, h7, -⟩ := h
  have he : (Term.static C n d).eval args s none [] s = some v := by
    simp [Term.eval, State.fieldNamed?, h1, h2, h4, h5, h6, h7]
  simp only [Cond.before, Cond.holds, Cond.value, he]
  cases v <;> simp_all [Value.isRef]
theorem vx_isRefq {C n d : String} {A : Nat → Prop} {s : State} {args : Array Value} (h : va_Zq C n d A s s.heap) : (Cond.isRef (.static C n d)).before args s = true := by
  rcases h with h | ⟨t, h⟩
  · exact vx_isRef h rfl
  · exact vx_isRef h rfl
/-- the same frame, seen from here: as if the method were called anew in this heap -/
theorem vx_rebase {T : State} (X : Stand p l e R s m args below meth c T locs cells slots) {R' : Room} (hf : R'.frames ≤ R.frames) (hl : R'.locals ≤ R.locals) (hc : cells + R'.cells ≤ R.cells) (hs : slots + R'.slots ≤ R.slots) :
    Stand p l e R' ((T.setVm s.vm).setFrames (.invoking m args :: below)) m args below meth c T [] 0 0 := by
  have htop : (T.setVm s.vm).topJava?.isSome := X.here.top
  have hF : ((T.setVm s.vm).setFrames (.invoking m args :: below)).frames = .invoking m args :: below := State.frames_setFrames _ (State.cur_lt_of_top htop)
  obtain ⟨g₀, hg0⟩ := Option.isSome_iff_exists.mp htop
  obtain ⟨r, hr⟩ := State.topJava?_eq_some.mp hg0
  have hl9 : e.platform.stackLimits (T.setVm s.vm).me = e.platform.stackLimits s.me := X.limits
  have hb9 : (T.setVm s.vm).me.stackBytes = s.me.stackBytes := X.bytes
  refine ⟨X.admits, X.cas, X.clock, hF, ?_, X.hears, X.method, X.code, X.here, X.tail, X.warmed, ?_, ?_, ?_⟩
  · have h := X.room
    have hU : ((T.setVm s.vm).setFrames (.invoking m args :: below)).localsInUse = s.localsInUse := by
      rw [State.localsInUse_invoking hF (meth := meth) (c := c) X.method X.code, State.localsInUse_invoking X.frames X.method X.code]
    simp only [State.hasRoom, Bool.and_eq_true, decide_eq_true_eq] at h ⊢
    obtain ⟨⟨⟨⟨h1, h2, h3, h4, h5, h6⟩, h7⟩, h8⟩, h9⟩ := h
    rw [X.frames, List.length_cons] at h2 h3
    have q1 := X.heapSize
    have q2 := X.used
    simp only [hF, hU, List.length_cons, State.stackLimits_setFrames, State.stackBytes_setFrames, hl9, hb9]
    refine ⟨⟨⟨⟨by omega, by omega, by omega, by omega, by omega, h6⟩, ?_⟩, ?_⟩, X.book⟩
    · show T.heap.size + R'.cells ≤ e.platform.maxCells
      omega
    · show T.slotsUsed + R'.slots ≤ e.platform.maxSlots
      omega
  · rw [State.stackLimits_setFrames]; rfl
  · rw [State.stackBytes_setFrames]; rfl
  · refine ⟨?_, Nat.le_refl _, Nat.le_refl _, ?_, ?_, fun a c9 h9 => ⟨c9, h9, rfl, rfl, fun _ _ => rfl⟩⟩
    · obtain ⟨t, ht, -⟩ := State.frames_cons hr
      show T.setVm s.vm = { ((T.setVm s.vm).setFrames (.invoking m args :: below)).setFrames (T.setVm s.vm).frames with heap := T.heap, slotsUsed := T.slotsUsed }
      rw [State.setFrames_setFrames, State.setFrames_self ht]
      rfl
    · show T.slotsUsed = T.slotsUsed + ((T.heap.toList.drop T.heap.size).map (·.slots.size)).sum
      rw [List.drop_eq_nil_of_le (Nat.le_of_eq Array.length_toList)]
      rfl
    · show ((T.heap.toList.drop T.heap.size).map (·.slots.size)).sum ≤ 0
      rw [List.drop_eq_nil_of_le (Nat.le_of_eq Array.length_toList)]
      exact Nat.le_refl _
/-- 'throw new E()': new; dup; invokespecial; athrow -/
theorem vx_throw0 {cc : ByteArray} {pc : Nat} (hexec : p.tables.exec = Jvm.exec) (hb : c.code = cc) (hl : l.stackTraces = false) {own cls : String} {names : List String} {ik ic mc ms : Nat} {A : Nat → Prop}
    (hown : s.vm.findClass own = some m.cls) (hcls : Bundle.fit cls = true) (hnames : ∀ n ∈ names, Bundle.fit n = true)
    (hk : (Cond.classLink own ik cls).before args s = true) (hini : (Cond.initialized cls).before args s = true) (hat : ∀ w ∈ vx_at0 own ic cls names, w.before args s = true)
    (hgood : ∀ w ∈ Cond.classLink own ik cls :: Cond.initialized cls :: vx_at0 own ic cls names, vx_ot w = true)
    (hU : vx_Zq Bundle.tN "UNASSIGNED_STACK" Bundle.steD A s s.heap) (hN : vx_Zq Bundle.tN "SUPPRESSED_SENTINEL" Bundle.listD A s s.heap) (hS : va_S A s.heap H locs) (hsize : ls.size = c.maxLocals)
    (d0 : decode cc pc = .ok (.new ik, 3)) (d3 : decode cc (pc + 3) = .ok (.dup, 1)) (d4 : decode cc (pc + 4) = .ok (.invokespecial ic, 3)) (d7 : decode cc (pc + 7) = .ok (.athrow, 1))
    (hout : ∀ x ∈ c.exceptionTable.toList, covers x (pc + 7) = false)
    (hRframes : names.length + 3 < R.frames) (hRlocals : (rest.map fun v => v.category).sum + (13 * (names.length + 1) + 42) ≤ R.locals) (hRcells : cells + 1 ≤ R.cells) (hRslots : slots + 6 ≤ R.slots) (hlocks : meth.locks = false)
    (hx : ∀ t : State, s.vm.Alike t.vm → H.size ≤ t.heap.size → (∀ q : Nat, q < H.size → t.heap[q]? = H[q]?) → XC cls s t)
    (hf : ∀ z ∈ locs, free z.base) (hc : cells + 1 ≤ mc) (hs : slots + 6 ≤ ms) :
    W p l e R s m args below meth c H locs cells slots (vx_MQ below Qc XC args s mc ms free) (F0 m pc ls rest) := by
  intro T hT X
  have htr : e.platform.stackTraces = false := (show e.platform.stackTraces = l.stackTraces by rw [X.admits.platform]).trans hl
  have Y := vx_rebase X (R' := { frames := R.frames, locals := R.locals, cells := 1, slots := 6 }) (Nat.le_refl _) (Nat.le_refl _) hRcells hRslots
  obtain ⟨s', hA⟩ : ∃ z, z = (T.setVm s.vm).setFrames (.invoking m args :: below) := ⟨_, rfl⟩
  rw [← hA] at Y
  have hvm : s'.vm = s.vm := by rw [hA]; rfl
  have hhp : s'.heap = H := by rw [hA]; exact hT
  have hW0 : s.WarmedH s'.vm := by rw [hvm]; exact State.WarmedH.refl s
  have hat' : ∀ w ∈ vx_at0 own ic cls names, w.before args s' = true := fun w hw => vx_ot_at hW0 hvm.symm (hgood w (List.mem_cons_of_mem _ (List.mem_cons_of_mem _ hw))) (hat w hw)
  have hk' : (Cond.classLink own ik cls).before args s' = true := vx_ot_at hW0 hvm.symm (hgood _ List.mem_cons_self) hk
  have hini' : (Cond.initialized cls).before args s' = true := vx_ot_at hW0 hvm.symm (hgood _ (List.mem_cons_of_mem _ List.mem_cons_self)) hini
  have hU' : vx_Zq Bundle.tN "UNASSIGNED_STACK" Bundle.steD A s' s'.heap := by rw [hhp]; exact vx_Zq.moved hW0.alike (hU.kept hS.2.1)
  have hN' : vx_Zq Bundle.tN "SUPPRESSED_SENTINEL" Bundle.listD A s' s'.heap := by rw [hhp]; exact vx_Zq.moved hW0.alike (hN.kept hS.2.1)
  have h : ∀ w ∈ Bundle.ownAtoms0 own ic cls names, w.before args s' = true := vx_own hat' (vx_isRefq hU'.1) (vx_isRefq hN'.1) hU'.2.word hN'.2.word
  have hown' : s'.vm.findClass own = some m.cls := by rw [hvm]; exact hown
  have hins : (Cond.instantiable cls 6).before args s' = true := h _ (by simp [Bundle.ownAtoms0])
  obtain ⟨vm₁, cX, kX, hfX, hkX, -, -, X₁, st1⟩ := Y.newCold hexec (own := own) (C := cls) (index := ik) (n := 6) hown' hk' hins hini'
    (g := F0 m pc ls rest) rfl (by rw [hb]; exact d0) (Nat.le_refl _) (Nat.le_refl _)
  generalize hT1 : (T.setVm vm₁).pushCell { cls := cX, slots := kX.instanceTypes.map defaultValue, vm := .none } = T1 at X₁ st1
  have hcat : (Value.ref T.heap.size).category = 1 := rfl
  have hcellA : T1.heap[T.heap.size]? = some (freshCell cX kX) := by rw [← hT1]; exact State.heap_pushCell_size _ _
  have d3' : decode c.code (pc + 3) = .ok (.dup, 1) := by rw [hb]; exact d3
  obtain ⟨U, hsteps, hrun, hend, hW, hsame, ce, hce, hO⟩ := X₁.ctorThrow0 hexec htr (own := own) (cls := cls) (names := names) (ic := ic) hown' hcls hnames h (fun x hx => nomatch hx) hfX hkX hcellA (by rw [hhp, hT]; exact Nat.le_refl _)
    (g := { method := m, pc := pc + 4, locals := ls, stack := .ref T.heap.size :: .ref T.heap.size :: rest, locked := none }) rfl hsize rfl rfl (rest := rest) rfl
    (by rw [hb]; exact d4) (by rw [hb]; exact d7) hout hRframes (by simp only [List.map_cons, List.sum_cons, hcat]; omega) hlocks
  obtain ⟨f1, f2⟩ := vx_frame hsame
  rw [hhp] at f1 f2
  have hWs : s.WarmedH U.vm := State.WarmedH.trans hW0 hW
  have hcl : s.vm.findClass cls = some ce.cls := by
    have h9 := hO.cls
    rw [hvm] at h9
    exact h9
  have hall : s.sameButNew ({ U with vm := s.vm } : State) locs mc ms := by
    subst hA
    obtain ⟨e1, e2⟩ := hsame
    rw [State.setFrames_setFrames] at e1
    have h2 : (T.setVm s.vm).sameButNew ({ U with vm := s.vm } : State) [] (0 + 1) (0 + 6) := ⟨e1, e2⟩
    have h3 := X.same.trans h2
    rw [List.append_nil] at h3
    exact h3.mono hc hs
  refine ⟨U, ?_, .threw T.heap.size, hrun, hend, Or.inr ⟨T.heap.size, rfl, cls, ce, locs, hx U hWs.alike f1 (fun q hq => f2 q hq (fun z hz => nomatch hz)), hce, hO.vm, hcl, hWs, hall, hf⟩⟩
  refine st1 _ ?_
  show Steps p.tables e below (T1.setTop { method := m, pc := pc + 3, locals := ls, stack := .ref T.heap.size :: rest, locked := none }) _
  jvm_step X₁.here [X₁.here.top, hexec, d3', Value.category]
  exact hsteps
/-- 'throw new E("text")': new; dup; ldc; invokespecial; athrow -/
theorem vx_throwS {cc : ByteArray} {pc : Nat} (hexec : p.tables.exec = Jvm.exec) (hb : c.code = cc) (hl : l.stackTraces = false) {own cls text : String} {names : List String} {ik is ic mc ms sa : Nat} {A : Nat → Prop}
    (hown : s.vm.findClass own = some m.cls) (hcls : Bundle.fit cls = true) (hnames : ∀ n ∈ names, Bundle.fit n = true)
    (hk : (Cond.classLink own ik cls).before args s = true) (hini : (Cond.initialized cls).before args s = true) (hstr : vk_R own is text sa s) (hat : ∀ w ∈ vx_atS own ic cls names, w.before args s = true)
    (hgood : ∀ w ∈ Cond.classLink own ik cls :: Cond.initialized cls :: vx_atS own ic cls names, vx_ot w = true)
    (hU : vx_Zq Bundle.tN "UNASSIGNED_STACK" Bundle.steD A s s.heap) (hN : vx_Zq Bundle.tN "SUPPRESSED_SENTINEL" Bundle.listD A s s.heap) (hS : va_S A s.heap H locs) (hsize : ls.size = c.maxLocals)
    (d0 : decode cc pc = .ok (.new ik, 3)) (d3 : decode cc (pc + 3) = .ok (.dup, 1)) (d4 : decode cc (pc + 4) = .ok (.ldc is, 2)) (d6 : decode cc (pc + 6) = .ok (.invokespecial ic, 3)) (d9 : decode cc (pc + 9) = .ok (.athrow, 1))
    (hout : ∀ x ∈ c.exceptionTable.toList, covers x (pc + 9) = false)
    (hRframes : names.length + 3 < R.frames) (hRlocals : (rest.map fun v => v.category).sum + (13 * (names.length + 1) + 43) ≤ R.locals) (hRcells : cells + 1 ≤ R.cells) (hRslots : slots + 6 ≤ R.slots) (hlocks : meth.locks = false)
    (hx : ∀ t : State, s.vm.Alike t.vm → H.size ≤ t.heap.size → (∀ q : Nat, q < H.size → t.heap[q]? = H[q]?) → XC cls s t)
    (hf : ∀ z ∈ locs, free z.base) (hc : cells + 1 ≤ mc) (hs : slots + 6 ≤ ms) :
    W p l e R s m args below meth c H locs cells slots (vx_MQ below Qc XC args s mc ms free) (F0 m pc ls rest) := by
  intro T hT X
  have htr : e.platform.stackTraces = false := (show e.platform.stackTraces = l.stackTraces by rw [X.admits.platform]).trans hl
  have Y := vx_rebase X (R' := { frames := R.frames, locals := R.locals, cells := 1, slots := 6 }) (Nat.le_refl _) (Nat.le_refl _) hRcells hRslots
  obtain ⟨s', hA⟩ : ∃ z, z = (T.setVm s.vm).setFrames (.invoking m args :: below) := ⟨_, rfl⟩
  rw [← hA] at Y
  have hvm : s'.vm = s.vm := by rw [hA]; rfl
  have hhp : s'.heap = H := by rw [hA]; exact hT
  have hW0 : s.WarmedH s'.vm := by rw [hvm]; exact State.WarmedH.refl s
  have hat' : ∀ w ∈ vx_atS own ic cls names, w.before args s' = true := fun w hw => vx_ot_at hW0 hvm.symm (hgood w (List.mem_cons_of_mem _ (List.mem_cons_of_mem _ hw))) (hat w hw)
  have hk' : (Cond.classLink own ik cls).before args s' = true := vx_ot_at hW0 hvm.symm (hgood _ List.mem_cons_self) hk
  have hini' : (Cond.initialized cls).before args s' = true := vx_ot_at hW0 hvm.symm (hgood _ (List.mem_cons_of_mem _ List.mem_cons_self)) hini
  have hU' : vx_Zq Bundle.tN "UNASSIGNED_STACK" Bundle.steD A s' s'.heap := by rw [hhp]; exact vx_Zq.moved hW0.alike (hU.kept hS.2.1)
  have hN' : vx_Zq Bundle.tN "SUPPRESSED_SENTINEL" Bundle.listD A s' s'.heap := by rw [hhp]; exact vx_Zq.moved hW0.alike (hN.kept hS.2.1)
  have h : ∀ w ∈ Bundle.ownAtoms own ic cls names, w.before args s' = true := vx_own hat' (vx_isRefq hU'.1) (vx_isRefq hN'.1) hU'.2.word hN'.2.word
  have hown' : s'.vm.findClass own = some m.cls := by rw [hvm]; exact hown
  have hins : (Cond.instantiable cls 6).before args s' = true := h _ (by simp [Bundle.ownAtoms])
  obtain ⟨vm₁, cX, kX, hfX, hkX, -, -, X₁, st1⟩ := Y.newCold hexec (own := own) (C := cls) (index := ik) (n := 6) hown' hk' hins hini'
    (g := F0 m pc ls rest) rfl (by rw [hb]; exact d0) (Nat.le_refl _) (Nat.le_refl _)
  generalize hT1 : (T.setVm vm₁).pushCell { cls := cX, slots := kX.instanceTypes.map defaultValue, vm := .none } = T1 at X₁ st1
  have hcat : (Value.ref T.heap.size).category = 1 := rfl
  have hcellA : T1.heap[T.heap.size]? = some (freshCell cX kX) := by rw [← hT1]; exact State.heap_pushCell_size _ _
  have d3' : decode c.code (pc + 3) = .ok (.dup, 1) := by rw [hb]; exact d3
  have d4' : decode c.code (pc + 4) = .ok (.ldc is, 2) := by rw [hb]; exact d4
  have hstr' : vk_R own is text sa s' := vk_R.warm hW0 hstr
  obtain ⟨U, hsteps, hrun, hend, hW, hsame, ce, hce, hO⟩ := X₁.ctorThrowS hexec htr (own := own) (cls := cls) (names := names) (ic := ic) hown' hcls hnames h (fun x hx => nomatch hx) hfX hkX hcellA (by rw [hhp, hT]; exact Nat.le_refl _) (msg := .ref sa) rfl
    (g := { method := m, pc := pc + 6, locals := ls, stack := .ref sa :: .ref T.heap.size :: .ref T.heap.size :: rest, locked := none }) rfl hsize rfl rfl (rest := rest) rfl
    (by rw [hb]; exact d6) (by rw [hb]; exact d9) hout hRframes (by simp only [List.map_cons, List.sum_cons, hcat]; omega) hlocks
  obtain ⟨f1, f2⟩ := vx_frame hsame
  rw [hhp] at f1 f2
  have hWs : s.WarmedH U.vm := State.WarmedH.trans hW0 hW
  have hcl : s.vm.findClass cls = some ce.cls := by
    have h9 := hO.cls
    rw [hvm] at h9
    exact h9
  have hall : s.sameButNew ({ U with vm := s.vm } : State) locs mc ms := by
    subst hA
    obtain ⟨e1, e2⟩ := hsame
    rw [State.setFrames_setFrames] at e1
    have h2 : (T.setVm s.vm).sameButNew ({ U with vm := s.vm } : State) [] (0 + 1) (0 + 6) := ⟨e1, e2⟩
    have h3 := X.same.trans h2
    rw [List.append_nil] at h3
    exact h3.mono hc hs
  refine ⟨U, ?_, .threw T.heap.size, hrun, hend, Or.inr ⟨T.heap.size, rfl, cls, ce, locs, hx U hWs.alike f1 (fun q hq => f2 q hq (fun z hz => nomatch hz)), hce, hO.vm, hcl, hWs, hall, hf⟩⟩
  refine st1 _ ?_
  show Steps p.tables e below (T1.setTop { method := m, pc := pc + 3, locals := ls, stack := .ref T.heap.size :: rest, locked := none }) _
  jvm_step X₁.here [X₁.here.top, hexec, d3', Value.category]
  exact X₁.ldcString hexec (own := own) (text := text) (index := is) (a := sa) hown' hstr'.1 hstr'.2
    (g := { method := m, pc := pc + 4, locals := ls, stack := .ref T.heap.size :: .ref T.heap.size :: rest, locked := none }) rfl d4' _ hsteps
/-- 'throw new E("text")', the text by a wide index -/
theorem vx_throwSW {cc : ByteArray} {pc : Nat} (hexec : p.tables.exec = Jvm.exec) (hb : c.code = cc) (hl : l.stackTraces = false) {own cls text : String} {names : List String} {ik is ic mc ms sa : Nat} {A : Nat → Prop}
    (hown : s.vm.findClass own = some m.cls) (hcls : Bundle.fit cls = true) (hnames : ∀ n ∈ names, Bundle.fit n = true)
    (hk : (Cond.classLink own ik cls).before args s = true) (hini : (Cond.initialized cls).before args s = true) (hstr : vk_R own is text sa s) (hat : ∀ w ∈ vx_atS own ic cls names, w.before args s = true)
    (hgood : ∀ w ∈ Cond.classLink own ik cls :: Cond.initialized cls :: vx_atS own ic cls names, vx_ot w = true)
    (hU : vx_Zq Bundle.tN "UNASSIGNED_STACK" Bundle.steD A s s.heap) (hN : vx_Zq Bundle.tN "SUPPRESSED_SENTINEL" Bundle.listD A s s.heap) (hS : va_S A s.heap H locs) (hsize : ls.size = c.maxLocals)
    (d0 : decode cc pc = .ok (.new ik, 3)) (d3 : decode cc (pc + 3) = .ok (.dup, 1)) (d4 : decode cc (pc + 4) = .ok (.ldc_w is, 3)) (d7 : decode cc (pc + 7) = .ok (.invokespecial ic, 3)) (d10 : decode cc (pc + 10) = .ok (.athrow, 1))
    (hout : ∀ x ∈ c.exceptionTable.toList, covers x (pc + 10) = false)
    (hRframes : names.length + 3 < R.frames) (hRlocals : (rest.map fun v => v.category).sum + (13 * (names.length + 1) + 43) ≤ R.locals) (hRcells : cells + 1 ≤ R.cells) (hRslots : slots + 6 ≤ R.slots) (hlocks : meth.locks = false)
    (hx : ∀ t : State, s.vm.Alike t.vm → H.size ≤ t.heap.size → (∀ q : Nat, q < H.size → t.heap[q]? = H[q]?) → XC cls s t)
    (hf : ∀ z ∈ locs, free z.base) (hc : cells + 1 ≤ mc) (hs : slots + 6 ≤ ms) :
    W p l e R s m args below meth c H locs cells slots (vx_MQ below Qc XC args s mc ms free) (F0 m pc ls rest) := by
  intro T hT X
  have htr : e.platform.stackTraces = false := (show e.platform.stackTraces = l.stackTraces by rw [X.admits.platform]).trans hl
  have Y := vx_rebase X (R' := { frames := R.frames, locals := R.locals, cells := 1, slots := 6 }) (Nat.le_refl _) (Nat.le_refl _) hRcells hRslots
  obtain ⟨s', hA⟩ : ∃ z, z = (T.setVm s.vm).setFrames (.invoking m args :: below) := ⟨_, rfl⟩
  rw [← hA] at Y
  have hvm : s'.vm = s.vm := by rw [hA]; rfl
  have hhp : s'.heap = H := by rw [hA]; exact hT
  have hW0 : s.WarmedH s'.vm := by rw [hvm]; exact State.WarmedH.refl s
  have hat' : ∀ w ∈ vx_atS own ic cls names, w.before args s' = true := fun w hw => vx_ot_at hW0 hvm.symm (hgood w (List.mem_cons_of_mem _ (List.mem_cons_of_mem _ hw))) (hat w hw)
  have hk' : (Cond.classLink own ik cls).before args s' = true := vx_ot_at hW0 hvm.symm (hgood _ List.mem_cons_self) hk
  have hini' : (Cond.initialized cls).before args s' = true := vx_ot_at hW0 hvm.symm (hgood _ (List.mem_cons_of_mem _ List.mem_cons_self)) hini
  have hU' : vx_Zq Bundle.tN "UNASSIGNED_STACK" Bundle.steD A s' s'.heap := by rw [hhp]; exact vx_Zq.moved hW0.alike (hU.kept hS.2.1)
  have hN' : vx_Zq Bundle.tN "SUPPRESSED_SENTINEL" Bundle.listD A s' s'.heap := by rw [hhp]; exact vx_Zq.moved hW0.alike (hN.kept hS.2.1)
  have h : ∀ w ∈ Bundle.ownAtoms own ic cls names, w.before args s' = true := vx_own hat' (vx_isRefq hU'.1) (vx_isRefq hN'.1) hU'.2.word hN'.2.word
  have hown' : s'.vm.findClass own = some m.cls := by rw [hvm]; exact hown
  have hins : (Cond.instantiable cls 6).before args s' = true := h _ (by simp [Bundle.ownAtoms])
  obtain ⟨vm₁, cX, kX, hfX, hkX, -, -, X₁, st1⟩ := Y.newCold hexec (own := own) (C := cls) (index := ik) (n := 6) hown' hk' hins hini'
    (g := F0 m pc ls rest) rfl (by rw [hb]; exact d0) (Nat.le_refl _) (Nat.le_refl _)
  generalize hT1 : (T.setVm vm₁).pushCell { cls := cX, slots := kX.instanceTypes.map defaultValue, vm := .none } = T1 at X₁ st1
  have hcat : (Value.ref T.heap.size).category = 1 := rfl
  have hcellA : T1.heap[T.heap.size]? = some (freshCell cX kX) := by rw [← hT1]; exact State.heap_pushCell_size _ _
  have d3' : decode c.code (pc + 3) = .ok (.dup, 1) := by rw [hb]; exact d3
  have d4' : decode c.code (pc + 4) = .ok (.ldc_w is, 3) := by rw [hb]; exact d4
  have hstr' : vk_R own is text sa s' := vk_R.warm hW0 hstr
  obtain ⟨U, hsteps, hrun, hend, hW, hsame, ce, hce, hO⟩ := X₁.ctorThrowS hexec htr (own := own) (cls := cls) (names := names) (ic := ic) hown' hcls hnames h (fun x hx => nomatch hx) hfX hkX hcellA (by rw [hhp, hT]; exact Nat.le_refl _) (msg := .ref sa) rfl
    (g := { method := m, pc := pc + 7, locals := ls, stack := .ref sa :: .ref T.heap.size :: .ref T.heap.size :: rest, locked := none }) rfl hsize rfl rfl (rest := rest) rfl
    (by rw [hb]; exact d7) (by rw [hb]; exact d10) hout hRframes (by simp only [List.map_cons, List.sum_cons, hcat]; omega) hlocks
  obtain ⟨f1, f2⟩ := vx_frame hsame
  rw [hhp] at f1 f2
  have hWs : s.WarmedH U.vm := State.WarmedH.trans hW0 hW
  have hcl : s.vm.findClass cls = some ce.cls := by
    have h9 := hO.cls
    rw [hvm] at h9
    exact h9
  have hall : s.sameButNew ({ U with vm := s.vm } : State) locs mc ms := by
    subst hA
    obtain ⟨e1, e2⟩ := hsame
    rw [State.setFrames_setFrames] at e1
    have h2 : (T.setVm s.vm).sameButNew ({ U with vm := s.vm } : State) [] (0 + 1) (0 + 6) := ⟨e1, e2⟩
    have h3 := X.same.trans h2
    rw [List.append_nil] at h3
    exact h3.mono hc hs
  refine ⟨U, ?_, .threw T.heap.size, hrun, hend, Or.inr ⟨T.heap.size, rfl, cls, ce, locs, hx U hWs.alike f1 (fun q hq => f2 q hq (fun z hz => nomatch hz)), hce, hO.vm, hcl, hWs, hall, hf⟩⟩
  refine st1 _ ?_
  show Steps p.tables e below (T1.setTop { method := m, pc := pc + 3, locals := ls, stack := .ref T.heap.size :: rest, locked := none }) _
  jvm_step X₁.here [X₁.here.top, hexec, d3', Value.category]
  exact X₁.ldcStringW hexec (own := own) (text := text) (index := is) (a := sa) hown' hstr'.1 hstr'.2
    (g := { method := m, pc := pc + 4, locals := ls, stack := .ref T.heap.size :: .ref T.heap.size :: rest, locked := none }) rfl d4' _ hsteps
end Ends
section Bodies
variable {l : Launch}
theorem vx_ofW {y : MethodName} {ws ws' : List Cond} {rm : Room} {Pc : Array Value → State → Prop} {Qc : Array Value → State → Outcome → State → Prop} {XC : String → State → State → Prop} {mc ms : Nat} {free : Addr → Prop} {cc : ByteArray} {maxL : Nat} {ret : Option FieldType}
    (hy : plainName y.cls = true) (hw : ws = Cond.code y cc maxL ret :: ws')
    (body : ∀ p e s m args below meth c s₁, BodyLoose p l y (headSpec ws rm) cc maxL ret e s m args below meth c s₁ → c.maxLocals = maxL → (∀ x ∈ c.exceptionTable.toList, False) → Pc args s →
      W p l e (headSpec ws rm).room s m args below meth c s.heap [] 0 0 (vx_MQ below Qc XC args s mc ms free) (entryFrame m args maxL)) : vx_Met l y ws rm Pc Qc XC mc ms free := by
  refine MetFree.of_bodyS (code := cc) (maxLocals := maxL) (ret := ret) hy ?_ ?_
  · intro args s m h hn
    obtain ⟨meth, c, h1, h2, h3, h4, h5, h6, -, -⟩ := Cond.code_spec hn (atoms_spec (ws := ws) h _ (by rw [hw]; exact List.mem_cons_self))
    exact ⟨meth, c, h1, h2, h3, h4, h5, h6⟩
  · intro p e s m args below meth c s₁ B hml hP _
    have hh0 : s₁.heap = s.heap := by rw [B.state]; rfl
    have ht : ∀ x ∈ c.exceptionTable.toList, False := by
      obtain ⟨meth9, c9, h1, h2, -, -, -, -, h7, -⟩ := Cond.code_spec B.named (atoms_spec (ws := ws) B.pre _ (by rw [hw]; exact List.mem_cons_self))
      cases Option.some.inj (h1.symm.trans B.method)
      cases Option.some.inj (h2.symm.trans (Stand.of_body B).code)
      intro x hx
      rw [Array.isEmpty_iff.mp h7] at hx
      cases hx
    obtain ⟨t, a1, o, b1, b2, b3⟩ := body p e s m args below meth c s₁ B hml ht hP s₁ hh0 (Stand.of_body B)
    exact ⟨t, o, a1, b1, b2, b3⟩
/-- the table of a body with handlers -/
theorem vx_table {p : Program} {x y : MethodName} {S : Spec} {cc bytes : ByteArray} {maxL maxL' : Nat} {ret ret' : Option FieldType} {e : Env} {s s₁ : State} {m : MethodId} {args : Array Value} {below : List Frame} {meth : Method} {c : Code} {hh : List (Nat × Nat × Nat × Nat)}
    (B : BodyLoose p l y S cc maxL ret e s m args below meth c s₁) (h : (Cond.codeWith y bytes maxL' ret' hh).before args s = true) : c.exceptionTable.toList = tableOf hh := by
  obtain ⟨m9, meth9, c9, hn9, h1, h2, -, -, h6, -⟩ := Cond.codeWith_spec h
  cases Option.some.inj (hn9.symm.trans B.named)
  cases Option.some.inj (h1.symm.trans B.method)
  cases Option.some.inj (h2.symm.trans (Stand.of_body B).code)
  rw [← h6, table_eq]
end Bodies
end VXA
/-! ===== END ===== -/
/-! ===== BEGIN a static call of a method with an exception table ===== -/
section VXS
variable {p : Program} {l : Launch} {e : Env} {R : Room} {s : State} {m : MethodId} {args : Array Value} {below : List Frame} {meth : Method} {c : Code} {T : State} {H : Heap} {locs : List Loc} {cells slots : Nat}
abbrev vx_CSW (R : Room) (s : State) (args : Array Value) (own : String) (index : Nat) (y : MethodName) (bytes : ByteArray) (maxL : Nat) (ret : Option FieldType) (hh : List (Nat × Nat × Nat × Nat)) (ws : List Cond) (rm : Room) (mc ms n : Nat) : Prop :=
  (rm.cells = mc ∧ rm.slots = ms ∧ rm.frames + 1 ≤ R.frames ∧ 8 + (maxL + 11) + rm.locals ≤ R.locals ∧ (∀ w ∈ ws, ∀ (a' : Array Value) (U : State), s.WarmedH U.vm → w.before a' U = true) ∧ Cond.codeWith y bytes maxL ret hh ∈ ws) ∧
  (Cond.codeWith y bytes maxL ret hh).before args s = true ∧ (Cond.initialized y.cls).before args s = true ∧ (y.cls ≠ "java/lang/invoke/MethodHandle" ∧ y.cls ≠ "java/lang/invoke/VarHandle") ∧
  (∀ sig, parseMethodDescriptor y.desc = some sig → n = sig.parameters.length) ∧ (Cond.methodLink own index y).before args s = true ∧ (Cond.static y).before args s = true
theorem vx_cwSW {own : String} {index maxL mc ms : Nat} {y : MethodName} {bytes : ByteArray} {ret : Option FieldType} {hh : List (Nat × Nat × Nat × Nat)} {Ts ws ws' : List Cond} {rm : Room} (n : Nat) (ht : ∀ w ∈ Ts, w.before args s = true) (hT : GoodIn Ts (va_wsS own index y ws)) (hw : ws = Cond.codeWith y bytes maxL ret hh :: ws') (hrc : rm.cells = mc) (hrs : rm.slots = ms)
    (hd : y.cls ≠ "java/lang/invoke/MethodHandle" ∧ y.cls ≠ "java/lang/invoke/VarHandle" ∧ (parseMethodDescriptor y.desc).map (fun d => d.parameters.length) = some n) (hR : rm.frames + 1 ≤ R.frames ∧ 8 + (maxL + 11) + rm.locals ≤ R.locals) :
    vx_CSW R s args own index y bytes maxL ret hh ws rm mc ms n := by
  have ok : ∀ w ∈ va_wsS own index y ws, w.before args s = true := fun w h => ht w (hT w h).1
  have hG : GoodIn Ts ws := fun w h => hT w (by unfold va_wsS; exact List.mem_append_right _ h)
  have hc : Cond.codeWith y bytes maxL ret hh ∈ ws := by rw [hw]; exact List.mem_cons_self
  refine ⟨⟨hrc, hrs, hR.1, hR.2, pay_in ht hG, hc⟩, ht _ (hG _ hc).1, ok _ (by simp [va_wsS]), ⟨hd.1, hd.2.1⟩, fun sig h => ?_, ok _ (by simp [va_wsS]), ok _ (by simp [va_wsS])⟩
  have h2 := hd.2.2
  rw [h] at h2
  exact (Option.some.inj h2).symm
theorem vx_callSW (X : Stand p l e R s m args below meth c T locs cells slots) (hexec : p.tables.exec = Jvm.exec) {own : String} {index : Nat} {y : MethodName} {bytes : ByteArray} {maxL : Nat} {ret : Option FieldType} {hh : List (Nat × Nat × Nat × Nat)}
    (hown : s.vm.findClass own = some m.cls) (hlink : (Cond.methodLink own index y).before args s = true) (hstat : (Cond.static y).before args s = true) (hinit : (Cond.initialized y.cls).before args s = true)
    (hcode : (Cond.codeWith y bytes maxL ret hh).before args s = true) (hy : y.cls ≠ "java/lang/invoke/MethodHandle" ∧ y.cls ≠ "java/lang/invoke/VarHandle")
    {W9 : Nat} {Pre : Pt → Array Value → Prop} {Post : Pt → Array Value → Option Value → Pt → Prop} (hK : Back l R p e below s args y 3 W9 Pre Post)
    {g : JFrame} (hg : g.method = m) (hsize : g.locals.size = c.maxLocals) {argsL rest : List Value} (hlen : ∀ sig, parseMethodDescriptor y.desc = some sig → argsL.length = sig.parameters.length)
    (hstack : g.stack = argsL.reverse ++ rest) (hW : 2 * g.monitorRoom + (rest.map fun v => v.category).sum ≤ W9) (hdg : decode c.code g.pc = .ok (.invokestatic index, 3))
    (hpre : ∀ vm₁, s.WarmedH vm₁ → Pre ⟨T.setVm vm₁, locs, cells, slots⟩ argsL.toArray) :
    ∃ (v : Option Value) (vm₁ : Vm) (B : Pt), s.WarmedH vm₁ ∧ Stand p l e R s m args below meth c B.U B.locs B.cells B.slots ∧ Post ⟨T.setVm vm₁, locs, cells, slots⟩ argsL.toArray v B ∧
      ∀ target, Steps p.tables e below (B.U.setTop { g with pc := g.pc + 3, stack := v.toList ++ rest }) target → Steps p.tables e below (T.setTop g) target := by
  obtain ⟨mk, methM, cM, hnamed, hmethM, -, -, -, -, -, -, hsigM⟩ := Cond.codeWith_spec hcode
  have hstatic : methM.isStatic = true := Cond.static_spec hnamed hmethM hstat
  obtain ⟨kP, hkP, -⟩ := className_of_methodNamed hnamed
  have hinitP : kP.init = .initialized := Cond.initialized_spec (findClass_of_methodNamed hnamed) hkP hinit
  obtain ⟨vm₁, X₁, hstep₁⟩ := X.invokestatic hexec hown hlink hnamed hmethM hstatic hkP hinitP hy (g := g) hg (argsL := argsL) (rest := rest) (hlen _ hsigM) hstack hdg
  obtain ⟨v, B, X', hpost, hsteps⟩ := hK m meth c ⟨T.setVm vm₁, locs, cells, slots⟩ { g with stack := rest } (.invokestatic index) mk argsL.toArray X₁ hg hsize hdg hW (X₁.named hnamed) (hpre vm₁ X₁.warmed)
  exact ⟨v, vm₁, B, X₁.warmed, X', hpost, fun target h => hstep₁ _ fun acts => by rw [doInvoke_state]; exact hsteps.trans h⟩
theorem vx_runSW {y : MethodName} {bytes cc : ByteArray} {maxL nL mc ms n index : Nat} {ret : Option FieldType} {hh : List (Nat × Nat × Nat × Nat)} {ws : List Cond} {rm : Room} {Pc : Array Value → State → Prop} {Qc : Array Value → State → Outcome → State → Prop} {free : Addr → Prop} {Ts : List Cond} {own : String} {As rest : List Value} {g : JFrame}
    (S : CallFix p m c cc nL s args Ts own) (hM : Met l y ws rm Pc Qc mc ms free) (cw : vx_CSW R s args own index y bytes maxL ret hh ws rm mc ms n) (hp : PreS s H Pc As)
    (hg : g.method = m) (hn : As.length = n) (hsize : g.locals.size = nL) (hstack : g.stack = As.reverse ++ rest) (hW : 2 * g.monitorRoom + (rest.map fun v => v.category).sum ≤ 8) (hdg : decode cc g.pc = .ok (.invokestatic index, 3)) (hf : cells + mc ≤ R.cells ∧ slots + ms ≤ R.slots) :
    va_Run p l e R s m args below meth c H locs cells slots mc ms g rest (Qc As.toArray) (free) := by
  obtain ⟨⟨hrc, hrs, hfr, hlo, hws, hcw⟩, hcode, hini, hy, hlen, hl, hstt⟩ := cw
  have hK : Back l R p e below s args y 3 8 (PreOf R mc ms Pc) (PostOf Qc mc ms free) := va_backW (hh := hh) (bytes := bytes) (maxL := maxL) (ret := ret) hM hp.1 hrc hrs hfr hlo hws hcw (fun a' U hW => word_at hW (Or.inl (by first | rfl | simp [Cond.onTables, Cond.keeps, Cond.steady])) hini)
  obtain ⟨hx, hb, hml, ho, -⟩ := S
  intro T hT X
  obtain ⟨v, vm₁, ⟨U', l2, c2, s2⟩, hW₁, X', ⟨g', mk, t, L, e1, e2, hq, h1, hL, h2, h3⟩, st⟩ := vx_callSW X hx (hh := hh) (bytes := bytes) (maxL := maxL) (ret := ret) ho hl hstt hini hcode hy hK hg (hsize.trans hml.symm) (argsL := As) (rest := rest) (fun sig h => hn.trans (hlen sig h)) hstack hW (by rw [hb]; exact hdg)
    (fun vm₁ hW₁ => ⟨hf.1, hf.2, hp.2 (T.setVm vm₁) hT hW₁⟩)
  dsimp only [Pt.U, Pt.locs, Pt.cells, Pt.slots] at X' e1 e2 h1 h2 h3 st
  subst h1; subst h2; subst h3
  exact ⟨v, (T.setVm vm₁).calling g' mk As.toArray, t, U', L, hT, X', hL, e1, e2, hq, st⟩
/-- not caught here, past rows that name other classes: it goes on to the caller -/
theorem vx_outP {p : Program} {l : Launch} {e : Env} {R : Room} {s : State} {m : MethodId} {args : Array Value} {below : List Frame} {meth : Method} {c : Code} {H : Heap} {locs : List Loc} {cells slots : Nat} {free : Addr → Prop} {ls : Array Slot} {rest : List Value} {Qc : Array Value → State → Outcome → State → Prop} {XC : String → State → State → Prop}
    {pc : Nat} {own E : String} {ce : Cell} {q : Addr} {mc ms : Nat} (hown : s.vm.findClass own = some m.cls) (hlocks : meth.locks = false)
    (hpass : ∀ z ∈ c.exceptionTable.toList, covers z pc = false ∨ (z.catchType ≠ 0 ∧ ∃ nm : String, (Cond.classLink own z.catchType nm).before args s = true ∧ va_Nc E nm s)) (hcell : H[q]? = some ce) (hv : ce.vm = .none) (hcl : s.vm.findClass E = some ce.cls)
    (hx : ∀ t : State, t.heap = H → s.vm.Alike t.vm → XC E s t) (hf : ∀ z ∈ locs, free z.base) (hc : cells ≤ mc) (hs : slots ≤ ms) :
    vx_W p l e R s m args below meth c H locs cells slots (vx_MQ below Qc XC args s mc ms free) (F0 m pc ls rest) q := by
  intro T hT X
  have hpl : e.platform.magicAccessors = ({} : Platform).magicAccessors := by rw [X.admits.platform]
  obtain ⟨vm', hW', X', st⟩ := X.outThrough hlocks q (g := F0 m pc ls rest) rfl rfl rfl (cell := ce) (by rw [hT]; exact hcell) (by rw [hv]; rfl)
    (by obtain ⟨k9, h9, -⟩ := Vm.findClass_spec hcl; exact ⟨k9, h9⟩) (fun z hz => by
      rcases hpass z hz with h | ⟨hz0, nm, hl1, hn1⟩
      · exact Or.inl h
      · obtain ⟨c6, hc6, hcl6⟩ := Cond.classLink_spec hown hl1 e.platform hpl
        obtain ⟨a8, b8, h1, h2, h3⟩ := hn1
        cases Option.some.inj (h1.symm.trans hcl)
        cases Option.some.inj (h2.symm.trans hc6)
        exact Or.inr ⟨hz0, _, hcl6, h3⟩)
  obtain ⟨g₀, hfr⟩ := X'.frames_eq
  have hcell9 : ((T.setVm vm').setFrames (.throwing q :: below)).heap[q]? = some ce := by
    show T.heap[q]? = some ce
    rw [hT]; exact hcell
  have hend : Ended ((T.setVm vm').setFrames (.throwing q :: below)) below (.threw q) := State.frames_setFrames _ (State.cur_lt_of_frames hfr)
  refine ⟨(T.setVm vm').setFrames (.throwing q :: below), ?_, .threw q, X'.here.running, hend, Or.inr ⟨q, rfl, E, ce, locs, hx _ hT (X'.ends _).1.alike, hcell9, hv, hcl, (X'.ends _).1, (X'.ends _).2.mono hc hs, hf⟩⟩
  rw [X.pushThrowing_eq]
  exact st
/-- a thing of a world lies in the heap -/
theorem vx_lt {D : va_G} {cl : List vw_C} {ws : va_W} {H1 : Heap} (h : va_P D cl ws H1) {k : Nat} {q : Nat × va_E} (hk : ws[k]? = some q) : q.1 < H1.size := (h k q hk).lt
end VXS
/-! ===== END ===== -/
/-! ===== BEGIN methods with a table of their own: called by a name, returning or throwing ===== -/
section VXH
/-! vx_backW, vx_callVX, vx_callSX, vx_callVW, vx_runVW, vx_runVX, vx_runSX, vx_ofWH follow the same proofs as their sisters above (Free/Laws.lean, Shelf42/LK1.lean); vx_outP calls Shelf42/NT130.lean (outThrough). -/
section
variable {l : Launch} {R : Room} {p : Program} {e : Env} {below : List Frame} {s : State} {sargs : Array Value} {y : MethodName} {len W9 : Nat}
theorem vx_backW {ws : List Cond} {rm : Room} {Pc : Array Value → State → Prop} {Qc : Array Value → State → Outcome → State → Prop} {XC : String → State → State → Prop} {mc ms : Nat} {free : Addr → Prop} {bytes : ByteArray} {maxL : Nat} {ret : Option FieldType} {hh : List (Nat × Nat × Nat × Nat)}
    (hM : vx_Met l y ws rm Pc Qc XC mc ms free) (hblind : FrameBlind Pc) (hrc : rm.cells = mc) (hrs : rm.slots = ms)
    (hframes : rm.frames + 1 ≤ R.frames) (hlocals : W9 + (maxL + 11) + rm.locals ≤ R.locals)
    (hws : ∀ w ∈ ws, ∀ a' U, s.WarmedH U.vm → w.before a' U = true) (hcode : Cond.codeWith y bytes maxL ret hh ∈ ws) (hinit : ∀ a' U, s.WarmedH U.vm → (Cond.initialized y.cls).before a' U = true) :
    vx_Back l R p e below s sargs y len W9 (PreOf R mc ms Pc) (PostOf Qc mc ms free) (vx_Post XC mc ms free) := by
  intro m meth c A g ig mk a X hg hsize hdg hW hn hp
  have h1 : (headSpec ws rm).pre.before a A.U = true := atoms_intro fun w hw => hws w hw _ _ X.warmed
  have h2 : (Cond.codeWith y bytes maxL ret hh).before a A.U = true := hws _ hcode _ _ X.warmed
  have h3 : (Cond.initialized y.cls).before a A.U = true := hinit _ _ X.warmed
  have h4 : A.cells + (headSpec ws rm).room.cells ≤ R.cells := by rw [show (headSpec ws rm).room.cells = mc from hrc]; exact hp.1
  have h5 : A.slots + (headSpec ws rm).room.slots ≤ R.slots := by rw [show (headSpec ws rm).room.slots = ms from hrs]; exact hp.2.1
  have hPc : Pc a (A.U.calling g mk a) := hblind _ _ _ _ hp.2.2
  obtain ⟨U, Ls, c0, s0⟩ := A
  dsimp only [Pt.U, Pt.locs, Pt.cells, Pt.slots] at h1 h2 h3 h4 h5 X hn hPc ⊢
  obtain ⟨m9, methY, cY, hn9, hmY, hcY, -, hlY, -⟩ := Cond.codeWith_spec h2
  cases Option.some.inj (hn9.symm.trans hn)
  obtain ⟨kY, hkY, -⟩ := className_of_methodNamed hn
  have hinitY : kY.init = .initialized := Cond.initialized_spec (findClass_of_methodNamed hn) hkY h3
  have h : At U g.method c below := by rw [hg]; exact X.here
  have hlocals9 : W9 + (maxL + 11) + (headSpec ws rm).room.locals ≤ R.locals := hlocals
  have happ : (headSpec ws rm).appliesLoose y e.platform (U.calling g mk a) = true :=
    Spec.appliesLoose_calling (g := g) h hdg hn hkY hinitY
      (X.room_calling (g := g) (R' := (headSpec ws rm).room) hsize hmY hcY hframes (by rw [hlY]; omega) h4 h5) h1
  obtain ⟨mid, hmid⟩ := h.above
  have hfr : (U.setTop g).frames = (.java g :: mid) ++ below := by rw [State.frames_setTop' g h.top, hmid]; rfl
  obtain ⟨o, s₂, hsteps, -, hend, hq⟩ := Steps.callFree hM p X.admits X.cas X.clock (acts := []) hfr happ hPc trivial
  have hq' : vx_Q Qc XC mc ms free a (U.calling g mk a) o s₂ := hq
  rw [State.frames_setTop' g h.top] at hend
  obtain ⟨g₀, hg0⟩ := Option.isSome_iff_exists.mp h.top
  obtain ⟨r, hr⟩ := State.topJava?_eq_some.mp hg0
  have hr' : (({ U with heap := s₂.heap, slotsUsed := s₂.slotsUsed } : State).setVm s₂.vm).frames = .java g₀ :: r := hr
  rcases hq' with ⟨hqc, L, hfe, hL⟩ | ⟨q, rfl, E, ce, L, hx, hce, hcv, hcl, hW₂, hsm, hL⟩
  · obtain ⟨⟨v, rfl⟩, hW₂, e2, q2, q3, q4, q5, q6⟩ := id hfe
    have e3 : s₂ = ({ (U.calling g mk a).setFrames s₂.frames with heap := s₂.heap, slotsUsed := s₂.slotsUsed } : State).setVm s₂.vm := by
      have : s₂ = ({ s₂ with vm := (U.calling g mk a).vm } : State).setVm s₂.vm := rfl
      rw [e2] at this
      exact this
    obtain ⟨c₂, i₂, len₂, hc₂, hd₂, hf₂⟩ := hend
    have hW' : U.WarmedH s₂.vm := hW₂
    have hcc : c₂ = c := by
      have h1 : s₂.code? g.method = U.code? g.method := by
        rw [State.code?_eq, State.code?_eq, hW'.alike.method?]
      exact Option.some.inj (hc₂.symm.trans (h1.trans h.code))
    subst hcc
    have hlen : len₂ = len := by rw [hdg] at hd₂; cases hd₂; rfl
    subst hlen
    have hs₂ : s₂ = (({ U with heap := s₂.heap, slotsUsed := s₂.slotsUsed } : State).setVm s₂.vm).setTop { g with pc := g.pc + len₂, stack := v.toList ++ g.stack } := by
      refine e3.trans ?_
      rw [hf₂, State.calling_eq h.top, State.setFrames_setFrames, State.setTop_of_frames _ hr', hr]
      rfl
    have hsame : U.sameButNew ({ U with heap := s₂.heap, slotsUsed := s₂.slotsUsed } : State) L mc ms := by
      refine ⟨?_, q2, q3, q4, q5, q6⟩
      obtain ⟨t, ht, -⟩ := State.frames_cons hr
      show ({ U with heap := s₂.heap, slotsUsed := s₂.slotsUsed } : State) = { U.setFrames U.frames with heap := s₂.heap, slotsUsed := s₂.slotsUsed }
      rw [State.setFrames_self ht]
    subst hg
    refine Or.inl ⟨v, ⟨(({ U with heap := s₂.heap, slotsUsed := s₂.slotsUsed } : State).setVm s₂.vm), Ls ++ L, c0 + mc, s0 + ms⟩,
      ⟨X.admits, X.cas, X.clock, X.frames, X.room, X.hears, X.method, X.code, (X.here.setHeapUsed s₂.heap s₂.slotsUsed).setVm hW'.alike, X.tail, State.WarmedH.trans X.warmed hW', X.limits, X.bytes, X.same.trans (hsame.setVm s.vm)⟩,
      ⟨g, mk, s₂, L, rfl, rfl, hqc, rfl, hL, rfl, rfl⟩, ?_⟩
    show Steps p.tables e below _ ((({ U with heap := s₂.heap, slotsUsed := s₂.slotsUsed } : State).setVm s₂.vm).setTop { g with pc := g.pc + len₂, stack := v.toList ++ g.stack })
    rw [← hs₂]
    exact hsteps
  · obtain ⟨e2, q2, q3, q4, q5, q6⟩ := id hsm
    have e3 : s₂ = ({ (U.calling g mk a).setFrames s₂.frames with heap := s₂.heap, slotsUsed := s₂.slotsUsed } : State).setVm s₂.vm := by
      have : s₂ = ({ s₂ with vm := (U.calling g mk a).vm } : State).setVm s₂.vm := rfl
      rw [e2] at this
      exact this
    have hf₂ : s₂.frames = .throwing q :: .java g :: U.frames.tail := hend
    have hW' : U.WarmedH s₂.vm := hW₂
    have hs₂ : s₂ = ((({ U with heap := s₂.heap, slotsUsed := s₂.slotsUsed } : State).setVm s₂.vm).setTop g).pushFrame (.throwing q) := by
      refine e3.trans ?_
      rw [hf₂, State.calling_eq h.top, State.setFrames_setFrames, State.pushFrame, State.frames_setTop _ hr', State.setTop_of_frames _ hr', State.setFrames_setFrames, hr]
      rfl
    have hsame : U.sameButNew ({ U with heap := s₂.heap, slotsUsed := s₂.slotsUsed } : State) L mc ms := by
      refine ⟨?_, q2, q3, q4, q5, q6⟩
      obtain ⟨t, ht, -⟩ := State.frames_cons hr
      show ({ U with heap := s₂.heap, slotsUsed := s₂.slotsUsed } : State) = { U.setFrames U.frames with heap := s₂.heap, slotsUsed := s₂.slotsUsed }
      rw [State.setFrames_self ht]
    subst hg
    refine Or.inr ⟨q, ⟨(({ U with heap := s₂.heap, slotsUsed := s₂.slotsUsed } : State).setVm s₂.vm), Ls ++ L, c0 + mc, s0 + ms⟩,
      ⟨X.admits, X.cas, X.clock, X.frames, X.room, X.hears, X.method, X.code, (X.here.setHeapUsed s₂.heap s₂.slotsUsed).setVm hW'.alike, X.tail, State.WarmedH.trans X.warmed hW', X.limits, X.bytes, X.same.trans (hsame.setVm s.vm)⟩,
      ⟨g, mk, s₂, L, E, ce, rfl, rfl, hx, hce, hcv, hcl, rfl, hL, rfl, rfl⟩, ?_⟩
    show Steps p.tables e below _ (((({ U with heap := s₂.heap, slotsUsed := s₂.slotsUsed } : State).setVm s₂.vm).setTop g).pushFrame (.throwing q))
    rw [← hs₂]
    exact hsteps
end
variable {p : Program} {l : Launch} {e : Env} {R : Room} {s : State} {m : MethodId} {args : Array Value} {below : List Frame} {meth : Method} {c : Code} {T : State} {H : Heap} {locs : List Loc} {cells slots : Nat}
theorem vx_callVX (X : Stand p l e R s m args below meth c T locs cells slots) (hexec : p.tables.exec = Jvm.exec) {own C : String} {index : Nat} {y : MethodName} {bytes : ByteArray} {maxL : Nat} {ret : Option FieldType} {hh : List (Nat × Nat × Nat × Nat)}
    (hown : s.vm.findClass own = some m.cls) (hlink : (Cond.methodLink own index y).before args s = true) (hinst : (Cond.instanceMethod y).before args s = true) (hsel : (Cond.selects C y y).before args s = true)
    (hcode : (Cond.codeWith y bytes maxL ret hh).before args s = true) (hy : y.cls ≠ "java/lang/invoke/MethodHandle" ∧ y.cls ≠ "java/lang/invoke/VarHandle")
    {W9 : Nat} {Pre : Pt → Array Value → Prop} {Post : Pt → Array Value → Option Value → Pt → Prop} {PostX : Pt → Array Value → Addr → Pt → Prop} (hK : vx_Back l R p e below s args y 3 W9 Pre Post PostX)
    {b : Addr} {cellB : Cell} (hcell : T.heap[b]? = some cellB) (hobj : cellB.vm.isStatics = false) (hcls : s.vm.findClass C = some cellB.cls)
    {g : JFrame} (hg : g.method = m) (hsize : g.locals.size = c.maxLocals) {argsL rest : List Value} (hlen : ∀ sig, parseMethodDescriptor y.desc = some sig → argsL.length = sig.parameters.length)
    (hstack : g.stack = argsL.reverse ++ .ref b :: rest) (hW : 2 * g.monitorRoom + (rest.map fun v => v.category).sum ≤ W9) (hdg : decode c.code g.pc = .ok (.invokevirtual index, 3))
    (hpre : ∀ vm₁, s.WarmedH vm₁ → Pre ⟨T.setVm vm₁, locs, cells, slots⟩ (Value.ref b :: argsL).toArray) :
    (∃ (v : Option Value) (vm₁ : Vm) (B : Pt), s.WarmedH vm₁ ∧ Stand p l e R s m args below meth c B.U B.locs B.cells B.slots ∧ Post ⟨T.setVm vm₁, locs, cells, slots⟩ (Value.ref b :: argsL).toArray v B ∧
      ∀ target, Steps p.tables e below (B.U.setTop { g with pc := g.pc + 3, stack := v.toList ++ rest }) target → Steps p.tables e below (T.setTop g) target) ∨
    (∃ (q : Addr) (vm₁ : Vm) (B : Pt), s.WarmedH vm₁ ∧ Stand p l e R s m args below meth c B.U B.locs B.cells B.slots ∧ PostX ⟨T.setVm vm₁, locs, cells, slots⟩ (Value.ref b :: argsL).toArray q B ∧
      Steps p.tables e below (T.setTop g) ((B.U.setTop { g with stack := rest }).pushFrame (.throwing q))) := by
  obtain ⟨mk, methM, hnamed, hmethM, hstM, habM⟩ := Cond.instanceMethod_spec hinst
  obtain ⟨m8, methM', cM, hn8, hmethM', -, -, -, -, -, -, hsigM⟩ := Cond.codeWith_spec hcode
  cases Option.some.inj (hn8.symm.trans hnamed)
  cases hmethM.symm.trans hmethM'
  obtain ⟨c2, r2, m2, q1, q2, q3, q4, kP, hkP, hkPi⟩ := Cond.selects_spec hsel
  cases hcls.symm.trans q1
  cases (State.methodFound?_of_named hnamed hy).symm.trans q2
  cases hnamed.symm.trans q3
  have hselP : selectMethod e.platform s.vm cellB.cls mk = .method mk := by rw [Launch.admits_selectMethod X.admits]; exact q4
  obtain ⟨vm₁, X₁, hstep₁⟩ := X.invokevirtual hexec hown hlink hnamed hmethM hstM hkP hkPi hy (a := b) (cell := cellB) hcell
    (fun z h => by rw [h] at hobj; cases hobj) hselP hmethM habM hkP hkPi (g := g) hg (argsL := argsL) (rest := rest) (hlen _ hsigM) hstack hdg
  rcases hK m meth c ⟨T.setVm vm₁, locs, cells, slots⟩ { g with stack := rest } (.invokevirtual index) mk (Value.ref b :: argsL).toArray X₁ hg hsize hdg hW (X₁.named hnamed) (hpre vm₁ X₁.warmed) with ⟨v, B, X', hpost, hsteps⟩ | ⟨q, B, X', hpost, hsteps⟩
  · exact Or.inl ⟨v, vm₁, B, X₁.warmed, X', hpost, fun target h => hstep₁ _ fun acts => by rw [doInvoke_state]; exact hsteps.trans h⟩
  · exact Or.inr ⟨q, vm₁, B, X₁.warmed, X', hpost, hstep₁ _ fun acts => by rw [doInvoke_state]; exact hsteps⟩
theorem vx_callSX (X : Stand p l e R s m args below meth c T locs cells slots) (hexec : p.tables.exec = Jvm.exec) {own : String} {index : Nat} {y : MethodName} {bytes : ByteArray} {maxL : Nat} {ret : Option FieldType} {hh : List (Nat × Nat × Nat × Nat)}
    (hown : s.vm.findClass own = some m.cls) (hlink : (Cond.methodLink own index y).before args s = true) (hstat : (Cond.static y).before args s = true) (hinit : (Cond.initialized y.cls).before args s = true)
    (hcode : (Cond.codeWith y bytes maxL ret hh).before args s = true) (hy : y.cls ≠ "java/lang/invoke/MethodHandle" ∧ y.cls ≠ "java/lang/invoke/VarHandle")
    {W9 : Nat} {Pre : Pt → Array Value → Prop} {Post : Pt → Array Value → Option Value → Pt → Prop} {PostX : Pt → Array Value → Addr → Pt → Prop} (hK : vx_Back l R p e below s args y 3 W9 Pre Post PostX)
    {g : JFrame} (hg : g.method = m) (hsize : g.locals.size = c.maxLocals) {argsL rest : List Value} (hlen : ∀ sig, parseMethodDescriptor y.desc = some sig → argsL.length = sig.parameters.length)
    (hstack : g.stack = argsL.reverse ++ rest) (hW : 2 * g.monitorRoom + (rest.map fun v => v.category).sum ≤ W9) (hdg : decode c.code g.pc = .ok (.invokestatic index, 3))
    (hpre : ∀ vm₁, s.WarmedH vm₁ → Pre ⟨T.setVm vm₁, locs, cells, slots⟩ argsL.toArray) :
    (∃ (v : Option Value) (vm₁ : Vm) (B : Pt), s.WarmedH vm₁ ∧ Stand p l e R s m args below meth c B.U B.locs B.cells B.slots ∧ Post ⟨T.setVm vm₁, locs, cells, slots⟩ argsL.toArray v B ∧
      ∀ target, Steps p.tables e below (B.U.setTop { g with pc := g.pc + 3, stack := v.toList ++ rest }) target → Steps p.tables e below (T.setTop g) target) ∨
    (∃ (q : Addr) (vm₁ : Vm) (B : Pt), s.WarmedH vm₁ ∧ Stand p l e R s m args below meth c B.U B.locs B.cells B.slots ∧ PostX ⟨T.setVm vm₁, locs, cells, slots⟩ argsL.toArray q B ∧
      Steps p.tables e below (T.setTop g) ((B.U.setTop { g with stack := rest }).pushFrame (.throwing q))) := by
  obtain ⟨mk, methM, cM, hnamed, hmethM, -, -, -, -, -, -, hsigM⟩ := Cond.codeWith_spec hcode
  have hstatic : methM.isStatic = true := Cond.static_spec hnamed hmethM hstat
  obtain ⟨kP, hkP, -⟩ := className_of_methodNamed hnamed
  have hinitP : kP.init = .initialized := Cond.initialized_spec (findClass_of_methodNamed hnamed) hkP hinit
  obtain ⟨vm₁, X₁, hstep₁⟩ := X.invokestatic hexec hown hlink hnamed hmethM hstatic hkP hinitP hy (g := g) hg (argsL := argsL) (rest := rest) (hlen _ hsigM) hstack hdg
  rcases hK m meth c ⟨T.setVm vm₁, locs, cells, slots⟩ { g with stack := rest } (.invokestatic index) mk argsL.toArray X₁ hg hsize hdg hW (X₁.named hnamed) (hpre vm₁ X₁.warmed) with ⟨v, B, X', hpost, hsteps⟩ | ⟨q, B, X', hpost, hsteps⟩
  · exact Or.inl ⟨v, vm₁, B, X₁.warmed, X', hpost, fun target h => hstep₁ _ fun acts => by rw [doInvoke_state]; exact hsteps.trans h⟩
  · exact Or.inr ⟨q, vm₁, B, X₁.warmed, X', hpost, hstep₁ _ fun acts => by rw [doInvoke_state]; exact hsteps⟩
theorem vx_callVW (X : Stand p l e R s m args below meth c T locs cells slots) (hexec : p.tables.exec = Jvm.exec) {own C : String} {index : Nat} {y : MethodName} {bytes : ByteArray} {maxL : Nat} {ret : Option FieldType} {hh : List (Nat × Nat × Nat × Nat)}
    (hown : s.vm.findClass own = some m.cls) (hlink : (Cond.methodLink own index y).before args s = true) (hinst : (Cond.instanceMethod y).before args s = true) (hsel : (Cond.selects C y y).before args s = true)
    (hcode : (Cond.codeWith y bytes maxL ret hh).before args s = true) (hy : y.cls ≠ "java/lang/invoke/MethodHandle" ∧ y.cls ≠ "java/lang/invoke/VarHandle")
    {W9 : Nat} {Pre : Pt → Array Value → Prop} {Post : Pt → Array Value → Option Value → Pt → Prop} (hK : Back l R p e below s args y 3 W9 Pre Post)
    {b : Addr} {cellB : Cell} (hcell : T.heap[b]? = some cellB) (hobj : cellB.vm.isStatics = false) (hcls : s.vm.findClass C = some cellB.cls)
    {g : JFrame} (hg : g.method = m) (hsize : g.locals.size = c.maxLocals) {argsL rest : List Value} (hlen : ∀ sig, parseMethodDescriptor y.desc = some sig → argsL.length = sig.parameters.length)
    (hstack : g.stack = argsL.reverse ++ .ref b :: rest) (hW : 2 * g.monitorRoom + (rest.map fun v => v.category).sum ≤ W9) (hdg : decode c.code g.pc = .ok (.invokevirtual index, 3))
    (hpre : ∀ vm₁, s.WarmedH vm₁ → Pre ⟨T.setVm vm₁, locs, cells, slots⟩ (Value.ref b :: argsL).toArray) :
    ∃ (v : Option Value) (vm₁ : Vm) (B : Pt), s.WarmedH vm₁ ∧ Stand p l e R s m args below meth c B.U B.locs B.cells B.slots ∧ Post ⟨T.setVm vm₁, locs, cells, slots⟩ (Value.ref b :: argsL).toArray v B ∧
      ∀ target, Steps p.tables e below (B.U.setTop { g with pc := g.pc + 3, stack := v.toList ++ rest }) target → Steps p.tables e below (T.setTop g) target := by
  obtain ⟨mk, methM, hnamed, hmethM, hstM, habM⟩ := Cond.instanceMethod_spec hinst
  obtain ⟨m8, methM', cM, hn8, hmethM', -, -, -, -, -, -, hsigM⟩ := Cond.codeWith_spec hcode
  cases Option.some.inj (hn8.symm.trans hnamed)
  cases hmethM.symm.trans hmethM'
  obtain ⟨c2, r2, m2, q1, q2, q3, q4, kP, hkP, hkPi⟩ := Cond.selects_spec hsel
  cases hcls.symm.trans q1
  cases (State.methodFound?_of_named hnamed hy).symm.trans q2
  cases hnamed.symm.trans q3
  have hselP : selectMethod e.platform s.vm cellB.cls mk = .method mk := by rw [Launch.admits_selectMethod X.admits]; exact q4
  obtain ⟨vm₁, X₁, hstep₁⟩ := X.invokevirtual hexec hown hlink hnamed hmethM hstM hkP hkPi hy (a := b) (cell := cellB) hcell
    (fun z h => by rw [h] at hobj; cases hobj) hselP hmethM habM hkP hkPi (g := g) hg (argsL := argsL) (rest := rest) (hlen _ hsigM) hstack hdg
  obtain ⟨v, B, X', hpost, hsteps⟩ := hK m meth c ⟨T.setVm vm₁, locs, cells, slots⟩ { g with stack := rest } (.invokevirtual index) mk (Value.ref b :: argsL).toArray X₁ hg hsize hdg hW (X₁.named hnamed) (hpre vm₁ X₁.warmed)
  exact ⟨v, vm₁, B, X₁.warmed, X', hpost, fun target h => hstep₁ _ fun acts => by rw [doInvoke_state]; exact hsteps.trans h⟩
abbrev vx_CVW (R : Room) (s : State) (args : Array Value) (own C : String) (index : Nat) (y : MethodName) (bytes : ByteArray) (maxL : Nat) (ret : Option FieldType) (hh : List (Nat × Nat × Nat × Nat)) (ws : List Cond) (rm : Room) (mc ms n : Nat) : Prop :=
  (rm.cells = mc ∧ rm.slots = ms ∧ rm.frames + 1 ≤ R.frames ∧ 8 + (maxL + 11) + rm.locals ≤ R.locals ∧ (∀ w ∈ ws, ∀ (a' : Array Value) (U : State), s.WarmedH U.vm → w.before a' U = true) ∧ Cond.codeWith y bytes maxL ret hh ∈ ws) ∧
  (Cond.codeWith y bytes maxL ret hh).before args s = true ∧ (Cond.initialized y.cls).before args s = true ∧ (y.cls ≠ "java/lang/invoke/MethodHandle" ∧ y.cls ≠ "java/lang/invoke/VarHandle") ∧
  (∀ sig, parseMethodDescriptor y.desc = some sig → n = sig.parameters.length) ∧ (Cond.methodLink own index y).before args s = true ∧ (Cond.instanceMethod y).before args s = true ∧ (Cond.selects C y y).before args s = true
theorem vx_cwVW {own C : String} {index maxL mc ms : Nat} {y : MethodName} {bytes : ByteArray} {ret : Option FieldType} {hh : List (Nat × Nat × Nat × Nat)} {Ts ws ws' : List Cond} {rm : Room} (n : Nat) (ht : ∀ w ∈ Ts, w.before args s = true) (hT : GoodIn Ts (wsV own index C y ws)) (hw : ws = Cond.codeWith y bytes maxL ret hh :: ws') (hrc : rm.cells = mc) (hrs : rm.slots = ms)
    (hd : y.cls = C ∧ y.cls ≠ "java/lang/invoke/MethodHandle" ∧ y.cls ≠ "java/lang/invoke/VarHandle" ∧ (parseMethodDescriptor y.desc).map (fun d => d.parameters.length) = some n) (hR : rm.frames + 1 ≤ R.frames ∧ 8 + (maxL + 11) + rm.locals ≤ R.locals) :
    vx_CVW R s args own C index y bytes maxL ret hh ws rm mc ms n := by
  obtain ⟨hC, hd⟩ := hd
  subst hC
  have ok : ∀ w ∈ wsV own index y.cls y ws, w.before args s = true := fun w h => ht w (hT w h).1
  have hG : GoodIn Ts ws := fun w h => hT w (by unfold wsV; exact List.mem_append_right _ h)
  have hc : Cond.codeWith y bytes maxL ret hh ∈ ws := by rw [hw]; exact List.mem_cons_self
  refine ⟨⟨hrc, hrs, hR.1, hR.2, pay_in ht hG, hc⟩, ht _ (hG _ hc).1, ok _ (by simp [wsV]), ⟨hd.1, hd.2.1⟩, fun sig h => ?_, ok _ (by simp [wsV]), ok _ (by simp [wsV]), ok _ (by simp [wsV])⟩
  have h2 := hd.2.2
  rw [h] at h2
  exact (Option.some.inj h2).symm
theorem vx_runVW {y : MethodName} {bytes cc : ByteArray} {maxL nL mc ms n index : Nat} {ret : Option FieldType} {hh : List (Nat × Nat × Nat × Nat)} {ws : List Cond} {rm : Room} {Pc : Array Value → State → Prop} {Qc : Array Value → State → Outcome → State → Prop} {free : Addr → Prop} {Ts : List Cond} {own C : String} {b : Addr} {As rest : List Value} {g : JFrame}
    (S : CallFix p m c cc nL s args Ts own) (hM : Met l y ws rm Pc Qc mc ms free) (cw : vx_CVW R s args own C index y bytes maxL ret hh ws rm mc ms n) (hp : PreV s H C b Pc As)
    (hg : g.method = m) (hn : As.length = n) (hsize : g.locals.size = nL) (hstack : g.stack = As.reverse ++ .ref b :: rest) (hW : 2 * g.monitorRoom + (rest.map fun v => v.category).sum ≤ 8) (hdg : decode cc g.pc = .ok (.invokevirtual index, 3)) (hf : cells + mc ≤ R.cells ∧ slots + ms ≤ R.slots) :
    va_Run p l e R s m args below meth c H locs cells slots mc ms g rest (Qc (Value.ref b :: As).toArray) free := by
  obtain ⟨⟨hrc, hrs, hfr, hlo, hws, hcw⟩, hcode, hini, hy, hlen, hl, hin, hse⟩ := cw
  have hK : Back l R p e below s args y 3 8 (PreOf R mc ms Pc) (PostOf Qc mc ms free) := va_backW (hh := hh) (bytes := bytes) (maxL := maxL) (ret := ret) hM hp.1 hrc hrs hfr hlo hws hcw (fun a' U hW => word_at hW (Or.inl (by first | rfl | simp [Cond.onTables, Cond.keeps, Cond.steady])) hini)
  obtain ⟨hx, hb, hml, ho, -⟩ := S
  obtain ⟨-, ⟨cellB, hcB, hoB, hclB⟩, hPc⟩ := hp
  intro T hT X
  obtain ⟨v, vm₁, ⟨U', l2, c2, s2⟩, hW₁, X', ⟨g', mk, t, L, e1, e2, hq, h1, hL, h2, h3⟩, st⟩ := vx_callVW X hx (C := C) (hh := hh) (bytes := bytes) (maxL := maxL) (ret := ret) ho hl hin hse hcode hy hK (by rw [hT]; exact hcB) hoB hclB hg (hsize.trans hml.symm) (argsL := As) (rest := rest) (fun sig h => hn.trans (hlen sig h)) hstack hW (by rw [hb]; exact hdg)
    (fun vm₁ hW₁ => ⟨hf.1, hf.2, hPc (T.setVm vm₁) hT hW₁⟩)
  dsimp only [Pt.U, Pt.locs, Pt.cells, Pt.slots] at X' e1 e2 h1 h2 h3 st
  subst h1; subst h2; subst h3
  exact ⟨v, (T.setVm vm₁).calling g' mk (Value.ref b :: As).toArray, t, U', L, hT, X', hL, e1, e2, hq, st⟩
section
variable {y : MethodName} {bytes cc : ByteArray} {maxL nL mc ms n index : Nat} {ret : Option FieldType} {ws : List Cond} {rm : Room} {Pc : Array Value → State → Prop} {Qc : Array Value → State → Outcome → State → Prop} {XC : String → State → State → Prop} {free : Addr → Prop} {Ts : List Cond} {own C : String} {b : Addr} {As rest : List Value} {g : JFrame}
theorem vx_runVX {hh : List (Nat × Nat × Nat × Nat)} (S : CallFix p m c cc nL s args Ts own) (hM : vx_Met l y ws rm Pc Qc XC mc ms free) (cw : vx_CVW R s args own C index y bytes maxL ret hh ws rm mc ms n) (hp : PreV s H C b Pc As)
    (hg : g.method = m) (hn : As.length = n) (hsize : g.locals.size = nL) (hstack : g.stack = As.reverse ++ .ref b :: rest) (hW : 2 * g.monitorRoom + (rest.map fun v => v.category).sum ≤ 8) (hdg : decode cc g.pc = .ok (.invokevirtual index, 3)) (hf : cells + mc ≤ R.cells ∧ slots + ms ≤ R.slots) :
    vx_Run p l e R s m args below meth c H locs cells slots mc ms g rest (Qc (Value.ref b :: As).toArray) XC free := by
  obtain ⟨⟨hrc, hrs, hfr, hlo, hws, hcw⟩, hcode, hini, hy, hlen, hl, hin, hse⟩ := cw
  have hK : vx_Back l R p e below s args y 3 8 (PreOf R mc ms Pc) (PostOf Qc mc ms free) (vx_Post XC mc ms free) := vx_backW (hh := hh) (bytes := bytes) (maxL := maxL) (ret := ret) hM hp.1 hrc hrs hfr hlo hws hcw (fun a' U hW => word_at hW (Or.inl (by first | rfl | simp [Cond.onTables, Cond.keeps, Cond.steady])) hini)
  obtain ⟨hx, hb, hml, ho, -⟩ := S
  obtain ⟨-, ⟨cellB, hcB, hoB, hclB⟩, hPc⟩ := hp
  intro T hT X
  rcases vx_callVX X hx (C := C) (hh := hh) (bytes := bytes) (maxL := maxL) (ret := ret) ho hl hin hse hcode hy hK (by rw [hT]; exact hcB) hoB hclB hg (hsize.trans hml.symm) (argsL := As) (rest := rest) (fun sig h => hn.trans (hlen sig h)) hstack hW (by rw [hb]; exact hdg)
    (fun vm₁ hW₁ => ⟨hf.1, hf.2, hPc (T.setVm vm₁) hT hW₁⟩) with ⟨v, vm₁, ⟨U', l2, c2, s2⟩, hW₁, X', ⟨g', mk, t, L, e1, e2, hq, h1, hL, h2, h3⟩, st⟩ | ⟨q, vm₁, ⟨U', l2, c2, s2⟩, hW₁, X', ⟨g', mk, t, L, E, ce, e1, e2, hq, hce, hcv, hcl, h1, hL, h2, h3⟩, st⟩
  · dsimp only [Pt.U, Pt.locs, Pt.cells, Pt.slots] at X' e1 e2 h1 h2 h3 st
    subst h1; subst h2; subst h3
    exact Or.inl ⟨v, (T.setVm vm₁).calling g' mk (Value.ref b :: As).toArray, t, U', L, hT, X', hL, e1, e2, hq, st⟩
  · dsimp only [Pt.U, Pt.locs, Pt.cells, Pt.slots] at X' e1 e2 h1 h2 h3 st hcl
    subst h1; subst h2; subst h3
    exact Or.inr ⟨q, (T.setVm vm₁).calling g' mk (Value.ref b :: As).toArray, t, U', L, E, ce, hT, X', hL, e1, e2, hq, hce, hcv, vx_cls hW₁ hcl, st⟩
theorem vx_runSX {hh : List (Nat × Nat × Nat × Nat)} (S : CallFix p m c cc nL s args Ts own) (hM : vx_Met l y ws rm Pc Qc XC mc ms free) (cw : vx_CSW R s args own index y bytes maxL ret hh ws rm mc ms n) (hp : PreS s H Pc As)
    (hg : g.method = m) (hn : As.length = n) (hsize : g.locals.size = nL) (hstack : g.stack = As.reverse ++ rest) (hW : 2 * g.monitorRoom + (rest.map fun v => v.category).sum ≤ 8) (hdg : decode cc g.pc = .ok (.invokestatic index, 3)) (hf : cells + mc ≤ R.cells ∧ slots + ms ≤ R.slots) :
    vx_Run p l e R s m args below meth c H locs cells slots mc ms g rest (Qc As.toArray) XC free := by
  obtain ⟨⟨hrc, hrs, hfr, hlo, hws, hcw⟩, hcode, hini, hy, hlen, hl, hstt⟩ := cw
  have hK : vx_Back l R p e below s args y 3 8 (PreOf R mc ms Pc) (PostOf Qc mc ms free) (vx_Post XC mc ms free) := vx_backW (hh := hh) (bytes := bytes) (maxL := maxL) (ret := ret) hM hp.1 hrc hrs hfr hlo hws hcw (fun a' U hW => word_at hW (Or.inl (by first | rfl | simp [Cond.onTables, Cond.keeps, Cond.steady])) hini)
  obtain ⟨hx, hb, hml, ho, -⟩ := S
  intro T hT X
  rcases vx_callSX X hx (hh := hh) (bytes := bytes) (maxL := maxL) (ret := ret) ho hl hstt hini hcode hy hK hg (hsize.trans hml.symm) (argsL := As) (rest := rest) (fun sig h => hn.trans (hlen sig h)) hstack hW (by rw [hb]; exact hdg)
    (fun vm₁ hW₁ => ⟨hf.1, hf.2, hp.2 (T.setVm vm₁) hT hW₁⟩) with ⟨v, vm₁, ⟨U', l2, c2, s2⟩, hW₁, X', ⟨g', mk, t, L, e1, e2, hq, h1, hL, h2, h3⟩, st⟩ | ⟨q, vm₁, ⟨U', l2, c2, s2⟩, hW₁, X', ⟨g', mk, t, L, E, ce, e1, e2, hq, hce, hcv, hcl, h1, hL, h2, h3⟩, st⟩
  · dsimp only [Pt.U, Pt.locs, Pt.cells, Pt.slots] at X' e1 e2 h1 h2 h3 st
    subst h1; subst h2; subst h3
    exact Or.inl ⟨v, (T.setVm vm₁).calling g' mk As.toArray, t, U', L, hT, X', hL, e1, e2, hq, st⟩
  · dsimp only [Pt.U, Pt.locs, Pt.cells, Pt.slots] at X' e1 e2 h1 h2 h3 st hcl
    subst h1; subst h2; subst h3
    exact Or.inr ⟨q, (T.setVm vm₁).calling g' mk As.toArray, t, U', L, E, ce, hT, X', hL, e1, e2, hq, hce, hcv, vx_cls hW₁ hcl, st⟩
end
end VXH
theorem vx_ofWH {l : Launch} {y : MethodName} {ws ws' : List Cond} {rm : Room} {Pc : Array Value → State → Prop} {Qc : Array Value → State → Outcome → State → Prop} {XC : String → State → State → Prop} {mc ms : Nat} {free : Addr → Prop} {cc : ByteArray} {maxL : Nat} {ret : Option FieldType} {hh : List (Nat × Nat × Nat × Nat)}
    (hy : plainName y.cls = true) (hw : ws = Cond.codeWith y cc maxL ret hh :: ws')
    (body : ∀ p e s m args below meth c s₁, BodyLoose p l y (headSpec ws rm) cc maxL ret e s m args below meth c s₁ → c.maxLocals = maxL → Pc args s →
      W p l e (headSpec ws rm).room s m args below meth c s.heap [] 0 0 (vx_MQ below Qc XC args s mc ms free) (entryFrame m args maxL)) : vx_Met l y ws rm Pc Qc XC mc ms free := by
  refine MetFree.of_bodyS (code := cc) (maxLocals := maxL) (ret := ret) hy ?_ ?_
  · intro args s m h hn
    obtain ⟨m9, meth, c, hn9, h1, h2, h3, h4, -, h5, h6, -⟩ := Cond.codeWith_spec (atoms_spec (ws := ws) h _ (by rw [hw]; exact List.mem_cons_self))
    cases hn.symm.trans hn9
    exact ⟨meth, c, h1, h2, h3, h4, h5, h6⟩
  · intro p e s m args below meth c s₁ B hml hP _
    have hh0 : s₁.heap = s.heap := by rw [B.state]; rfl
    obtain ⟨t, a1, o, b1, b2, b3⟩ := body p e s m args below meth c s₁ B hml hP s₁ hh0 (Stand.of_body B)
    exact ⟨t, o, a1, b1, b2, b3⟩
/-! ===== END ===== -/
/-! ===== BEGIN what the machine throws by itself, no traces kept ===== -/
section VXM
set_option maxHeartbeats 1000000 in
/-- the machine throws cls with the message text, no traces kept: from its note over the frame g to 'throwing' over the same frame (follows the proofs of Stand.vmThrowsMessage, Shelf/KitTracedVmS.lean, and Stand.throwsMessageColdBareV, StandMessageColdV.lean, without the step out of the frame) -/
theorem vx_vmAt {p : Program} {l : Launch} {e : Env} {R : Room} {s : State} {m₀ : MethodId} {args : Array Value} {below : List Frame} {meth : Method} {c : Code} {W : State} {locs : List Loc} {cells slots : Nat}
    (X : Stand p l e R s m₀ args below meth c W locs cells slots) (hexec : p.tables.exec = Jvm.exec) (htr : e.platform.stackTraces = false) {cls : String} {names : List String} {text : String}
    (hcls : Bundle.fit cls = true) (hnames : ∀ n ∈ names, Bundle.fit n = true) (hsoe : (cls == "java/lang/StackOverflowError") = false) (hoom : (cls == "java/lang/OutOfMemoryError") = false)
    (h : ∀ a ∈ Bundle.messageArmAtoms cls names, a.before args s = true)
    (hlocs : ∀ x ∈ locs, ∀ cell, s.heap[x.base]? = some cell → cell.vm.isStatics = false)
    (htext : (text == notModelled) = false) (hlimit : ¬ (stringBytes (stringToUtf16 text)).size > e.platform.arrayLengthLimit) (hheap : ¬ (stringBytes (stringToUtf16 text)).size * componentBytes .byte > e.platform.maxHeapBytes)
    {g : JFrame} (hg : g.method = m₀) (hsize : g.locals.size = c.maxLocals)
    (hRframes : names.length + 4 < R.frames) (hRlocals : 2 * g.monitorRoom + (g.stack.map fun v => v.category).sum + 10240 ≤ R.locals) (hshort : 13 * names.length + 55 ≤ 10240)
    (hRcells : cells + 3 ≤ R.cells) (hRslots : slots + ((stringBytes (stringToUtf16 text)).size + 4 + 6) ≤ R.slots) (hlocks : meth.locks = false) :
    ∃ (S : State) (q : Addr) (ce : Cell), (∀ target, Steps p.tables e below ((S.setTop g).pushFrame (.throwing q)) target → Steps p.tables e below ((W.setTop g).pushFrame (.throwNew cls (some text) none)) target) ∧
      Stand p l e R s m₀ args below meth c S locs (cells + 3) (slots + ((stringBytes (stringToUtf16 text)).size + 4 + 6)) ∧ S.heap[q]? = some ce ∧ s.vm.findClass cls = some ce.cls ∧ ce.vm = .none := by
  have howns : e.platform.frameOwnsMonitors = true := by rw [X.admits.platform]
  have hfin : e.platform.finalization = false := by rw [X.admits.platform]
  have hpl : e.platform.magicAccessors = ({} : Platform).magicAccessors := by rw [X.admits.platform]
  have a : ∀ x, x ∈ Bundle.messageArmAtoms cls names → x.holds args s none s [] = true := fun x hx => h x hx
  obtain ⟨T, Z0, L, -, Y⟩ := ThrowableC.of_atoms (args := args) howns hfin hpl (fun x hx => h x (by simp [Bundle.messageArmAtoms, hx]))
  obtain ⟨Z, M, LZ, LM, hnZ⟩ := Init0T.ofS_atoms (args := args) hpl L Y (fun x hx => h x (by simp [Bundle.messageArmAtoms, hx]))
  obtain ⟨P1, Ps, hlen, L1, hL, hP1m, hlink1, hlink⟩ := Bundle.chainS (args := args) hpl hnZ names cls hcls hnames (fun x hx => h x (by simp [Bundle.messageArmAtoms, hx]))
  obtain ⟨Zs, LZs, hn4, hfitv, hfitc⟩ := StringT.of_atoms (args := args) (fun x hx => h x (by simp [Bundle.messageArmAtoms, hx]))
  have hfound : s.vm.findClass cls = some P1.m.cls := findClass_of_methodNamed hP1m
  obtain ⟨c1, kX, hc1, hk, hord, -, -, hn6⟩ := Cond.instantiable_spec (a (.instantiable cls 6) (by simp [Bundle.messageArmAtoms]))
  cases Option.some.inj (hc1.symm.trans hfound)
  have hinit := Cond.initialized_spec hfound hk (a (.initialized cls) (by simp [Bundle.messageArmAtoms]))
  have hctor : kX.findMethod "<init>" "(Ljava/lang/String;)V" = some P1.m.idx := findMethod_of_methodNamed hP1m hk
  have hsel0 : selectMethod e.platform s.vm P1.m.cls T.fill0 = .method T.fill0 := by
    obtain ⟨c2, r2, m2, q1, q2, q3, q4, -⟩ := Cond.selects_spec (a (.selects cls Bundle.tFill0 Bundle.tFill0) (by simp [Bundle.messageArmAtoms]))
    cases Option.some.inj (q1.symm.trans hfound)
    cases Option.some.inj (q2.symm.trans (State.methodFound?_of_named Y.fill0 (by decide)))
    cases Option.some.inj (q3.symm.trans Y.fill0)
    rw [Launch.admits_selectMethod X.admits]; exact q4
  have hselF : selectMethod e.platform s.vm P1.m.cls T.fill = .method T.fill := by
    obtain ⟨c2, r2, m2, q1, q2, q3, q4, -⟩ := Cond.selects_spec (a (.selects cls Bundle.tFill Bundle.tFill) (by simp [Bundle.messageArmAtoms]))
    cases Option.some.inj (q1.symm.trans hfound)
    cases Option.some.inj (q2.symm.trans (State.methodFound?_of_named Y.fill (by decide)))
    cases Option.some.inj (q3.symm.trans Y.fill)
    rw [Launch.admits_selectMethod X.admits]; exact q4
  obtain ⟨cellS0, hcS0, hiss⟩ := Y.statics
  obtain ⟨u0, hu0⟩ := Cond.staticRefV Y.unassigned L.unassignedStatic L.statics hcS0 hiss (a (.isRef (.static Bundle.tN "UNASSIGNED_STACK" Bundle.steD)) (by simp [Bundle.messageArmAtoms]))
  obtain ⟨sen, hsen⟩ := Cond.staticRefV Y.sentinel L.sentinelStatic L.statics hcS0 hiss (a (.isRef (.static Bundle.tN "SUPPRESSED_SENTINEL" Bundle.listD)) (by simp [Bundle.messageArmAtoms]))
  obtain ⟨ci198, i198, fB, hk198, hg198, ha198, hsB, -, hnB, htB, hffB⟩ := Cond.ownField (t := .object "java/lang/Object") Y.found L.cls (by decide +kernel) (a (.fieldLink Bundle.tN 198 Bundle.tN "backtrace" "Ljava/lang/Object;") (by simp [Bundle.messageArmAtoms])) (a (.lays Bundle.tN Bundle.tN "backtrace" "Ljava/lang/Object;") (by simp [Bundle.messageArmAtoms])) e.platform hpl
  obtain ⟨cellS, hcS', heS, -, hkeep⟩ := X.same.2.2.2.2.2 T.aS cellS0 hcS0
  have hcellS : W.heap[T.aS]? = some cellS := hcS'
  have hout' : ∀ i, (⟨T.aS, i⟩ : Loc) ∉ locs := fun i hmem => by
    have := hlocs _ hmem cellS0 hcS0
    rw [hiss] at this; cases this
  have hknownS : cellS.vm ≠ .unknown := by
    rw [heS]; intro hu
    rw [show cellS0.vm = .unknown from hu] at hiss
    cases hiss
  have hvU : cellS.slots[T.fUnassigned.slot]? = some u0.v := by rw [hkeep _ (hout' _)]; exact hu0
  have hvSen : cellS.slots[T.fSentinel.slot]? = some sen.v := by rw [hkeep _ (hout' _)]; exact hsen
  obtain ⟨iM, hffM⟩ := Y.msg
  obtain ⟨tyC, dC, hdC, hdnC⟩ := Cond.laysAt hfound hk Y.cause (a (.lays cls Bundle.tN "cause" "Ljava/lang/Throwable;") (by simp [Bundle.messageArmAtoms]))
  obtain ⟨tyS, dS, hdS, hdnS⟩ := Cond.laysAt hfound hk Y.stack (a (.lays cls Bundle.tN "stackTrace" Bundle.steD) (by simp [Bundle.messageArmAtoms]))
  obtain ⟨tyP, dP, hdP, hdnP⟩ := Cond.laysAt hfound hk Y.supp (a (.lays cls Bundle.tN "suppressedExceptions" Bundle.listD) (by simp [Bundle.messageArmAtoms]))
  obtain ⟨tyM, dM, hdM, hdnM⟩ := Cond.laysAt hfound hk hffM (a (.lays cls Bundle.tN "detailMessage" "Ljava/lang/String;") (by simp [Bundle.messageArmAtoms]))
  obtain ⟨tyB, dB, hdB, hdnB⟩ := Cond.laysAt hfound hk hffB (a (.lays cls Bundle.tN "backtrace" "Ljava/lang/Object;") (by simp [Bundle.messageArmAtoms]))
  have bC := Cond.laysApart hdB hdC hdnB hdnC (by rw [hnB, Y.causeName]; decide)
  have bS := Cond.laysApart hdB hdS hdnB hdnS (by rw [hnB, Y.stackName]; decide)
  have bP := Cond.laysApart hdB hdP hdnB hdnP (by rw [hnB, Y.suppName]; decide)
  have hbk : ((preparedCellV T.toThrowableT (freshCell P1.m.cls kX) (W.heap.size + 2) u0 sen).withEntry W.cur).slots[fB.slot]? = some .null := by
    have := fresh_default (c := P1.m.cls) tyB
    rw [htB] at this
    simpa [preparedCellV, Cell.setSlot, Cell.withEntry, Array.getElem?_setIfInBounds, bC, bS, bP, bC.symm, bS.symm, bP.symm, defaultValue] using this
  have tkC := Takes.of_laid (v := .ref (W.heap.size + 2)) hk hord tyC (by rw [Y.causeType]; rfl)
  have tkS := Takes.of_laid (v := u0.v) hk hord tyS (by rw [Y.stackType]; exact fits_refV_array _ u0)
  have tkP := Takes.of_laid (v := sen.v) hk hord tyP (by rw [Y.suppType]; exact fits_refV_object _ sen)
  have tkM := Takes.of_laid (v := .ref (W.heap.size + 1)) hk hord tyM (by rw [Y.msgType]; rfl)
  have hskip : SkipFacts T e.platform s (fun u => u) u0 ((preparedCellV T.toThrowableT (freshCell P1.m.cls kX) (W.heap.size + 2) u0 sen).withEntry W.cur) := ⟨{ ci198 := ci198, i198 := i198, fBack := fB }, ⟨hk198, hg198, ha198, hsB⟩, hbk, fun _ _ => rfl⟩
  have h0 : At W g.method c below := by rw [hg]; exact X.here
  obtain ⟨hbeyond, hfreeW⟩ := X.vmMayThrow hsize (.throwNew cls (some text) none) (fun f hf => by cases hf) rfl hRlocals
  have hfr' : W.frames.length + Ps.length + 4 < (e.platform.stackLimits W.me).1 := by have := X.framesAbove hRframes; omega
  have hwd' : (stackUse (.java g :: W.frames.tail)).2 + 13 * Ps.length + 55 ≤ (e.platform.stackLimits W.me).2 := by have := X.stackAbove hsize (K := 13 * Ps.length + 55) (by omega); omega
  have hslots : W.slotsUsed + (stringBytes (stringToUtf16 text)).size + Zs.kS.instanceTypes.size + kX.instanceTypes.size ≤ e.platform.maxSlots := by
    have := X.slotsAbove hRslots
    rw [hn4, hn6]
    omega
  obtain ⟨vm', hW', st⟩ := Steps.vmThrowsMessageColdByV p (s₀ := s) (S := W) (g := g) h0 hexec T L Z LZ M LM X.warmed (t := W.cur) rfl Zs LZs P1 L1 Ps hL hlink1 hlink hsoe hoom hfound hk hinit hord hctor
    (Launch.admits_hotImplicitExceptions X.admits) hbeyond hfreeW htext hlimit hheap (X.cellsAbove hRcells) hslots (hfitv _) (hfitc _)
    (Nn := fun u => u) heapOnly_id (fun _ _ => rfl) (fun _ => rfl) (fun u x y => setCell_twice _ _ _ _) (fun _ => Nat.le_refl _) (cN := ((preparedCellV T.toThrowableT (freshCell P1.m.cls kX) (W.heap.size + 2) u0 sen).withEntry W.cur))
    hsel0 hcellS hknownS hvU tkS (fun _ hu => hu) (fun _ hu => hu) rfl rfl rfl (by simp [preparedCellV, Cell.setSlot, Cell.withEntry]) hskip (fun _ _ hA hW _ hroom _ hrest => L.nativeOff p htr hA hW hroom hrest) hselF hvSen tkC tkP tkM Y.objLocals rfl hfr' hwd'
  rw [plainBareV_eq T.toThrowableT (W.heap.size + 2) u0 sen (.ref (W.heap.size + 1)) W.cur rfl rfl] at st
  obtain ⟨-, -, w3, w4, -, -, -⟩ := withThrown_facts e.platform W Zs text P1.m.cls kX
  have X3 := ((X.pushed (bytesOf Zs.cB (stringToUtf16 text))).pushed (stringAt Zs.cS Zs.kS Zs.fv Zs.fc (stringToUtf16 text) W.heap.size)).pushed (freshCell P1.m.cls kX)
  rw [← withString_eq] at X3
  have X4 := X3.noted hW'
  have ha : (W.heap.size + 2) < ((withThrown W Zs text P1.m.cls kX).setVm vm').heap.size := by show _ < (withThrown W Zs text P1.m.cls kX).heap.size; rw [w3]; omega
  have hcell : ((withThrown W Zs text P1.m.cls kX).setVm vm').heap[(W.heap.size + 2)]? = some (freshCell P1.m.cls kX) := w4
  have X5 := ((((X4.stored hcell T.fCause.slot (.ref (W.heap.size + 2))).storedAgain ha T.fStack.slot u0.v).storedAgain ha T.fSupp.slot sen.v).storedAgain ha T.fStack.slot u0.v).storedAgain ha T.fMsg.slot (.ref (W.heap.size + 1))
  obtain ⟨g₁, hfrM⟩ := X5.frames_eq
  have hU : ((((withThrown W Zs text P1.m.cls kX).setVm vm').setCell (W.heap.size + 2) (plainBareV T.toThrowableT (freshCell P1.m.cls kX) (W.heap.size + 2) u0 sen (.ref (W.heap.size + 1)))).setTop g).pushFrame (.throwing (W.heap.size + 2)) = (((withThrown W Zs text P1.m.cls kX).setVm vm').setCell (W.heap.size + 2) (plainBareV T.toThrowableT (freshCell P1.m.cls kX) (W.heap.size + 2) u0 sen (.ref (W.heap.size + 1)))).setFrames (.throwing (W.heap.size + 2) :: .java g :: below) := by
    rw [State.pushFrame, State.frames_setTop _ hfrM, State.setTop_of_frames _ hfrM, State.setFrames_setFrames]
  have b1 : (bytesOf Zs.cB (stringToUtf16 text)).slots.size = (stringBytes (stringToUtf16 text)).size := by
    rw [(Cell.writeAll_facts _ _).2.2]; simp [bytes0]
  have b2 : (stringAt Zs.cS Zs.kS Zs.fv Zs.fc (stringToUtf16 text) W.heap.size).slots.size = 4 := by simp [string0, Cell.setSlot, hn4]
  have b3 : (freshCell P1.m.cls kX).slots.size = 6 := by simp [hn6]
  rw [b1, b2, b3] at X5
  have e9 : slots + (stringBytes (stringToUtf16 text)).size + 4 + 6 = slots + ((stringBytes (stringToUtf16 text)).size + 4 + 6) := by omega
  rw [e9] at X5
  simp only [List.append_assoc, List.cons_append, List.nil_append] at X5
  refine ⟨((withThrown W Zs text P1.m.cls kX).setVm vm').setCell (W.heap.size + 2) (plainBareV T.toThrowableT (freshCell P1.m.cls kX) (W.heap.size + 2) u0 sen (.ref (W.heap.size + 1))), W.heap.size + 2, _, fun target ht => st _ (by rw [X.tail, ← hU]; exact ht),
    X5.forget (fun y hy => ?_), heapAt_setCell_self _ ha, hfound, rfl⟩
  simp only [List.mem_cons, List.not_mem_nil, or_false] at hy
  have hge : s.heap.size ≤ W.heap.size := X.same.2.1
  rcases hy with rfl | rfl | rfl | rfl | rfl <;> exact Nat.le_trans hge (Nat.le_add_right _ 2)
set_option maxHeartbeats 1000000 in
/-- the machine throws NullPointerException, no traces kept: from its note over the frame g to 'throwing' over the same frame (follows the proof of Stand.vmThrowsNpe, Shelf42/KT2.lean; throwsNpeColdBareVAt, Shelf42/NT91.lean, called) -/
theorem vx_npeAt {p : Program} {l : Launch} {e : Env} {R : Room} {s : State} {m₀ : MethodId} {args : Array Value} {below : List Frame} {meth : Method} {c : Code} {W : State} {locs : List Loc} {cells slots : Nat}
    (X : Stand p l e R s m₀ args below meth c W locs cells slots) (hexec : p.tables.exec = Jvm.exec) (htr : e.platform.stackTraces = false) {n : Nat}
    (h : ∀ a ∈ Bundle.npeArmAtoms n, a.before args s = true)
    (hlocs : ∀ x ∈ locs, ∀ cell, s.heap[x.base]? = some cell → cell.vm.isStatics = false)
    {g : JFrame} (hg : g.method = m₀) (hsize : g.locals.size = c.maxLocals)
    (hRframes : 7 < R.frames) (hRlocals : 2 * g.monitorRoom + (g.stack.map fun v => v.category).sum + 10240 ≤ R.locals)
    (hRcells : cells + 1 ≤ R.cells) (hRslots : slots + n ≤ R.slots) (hlocks : meth.locks = false) :
    ∃ (S : State) (q : Addr) (ce : Cell), (∀ target, Steps p.tables e below ((S.setTop g).pushFrame (.throwing q)) target → Steps p.tables e below ((W.setTop g).pushFrame (.throwNew "java/lang/NullPointerException" none none)) target) ∧
      Stand p l e R s m₀ args below meth c S locs (cells + 1) (slots + n) ∧ S.heap[q]? = some ce ∧ s.vm.findClass "java/lang/NullPointerException" = some ce.cls ∧ ce.vm = .none := by
  have howns : e.platform.frameOwnsMonitors = true := by rw [X.admits.platform]
  have hfin : e.platform.finalization = false := by rw [X.admits.platform]
  have hpl : e.platform.magicAccessors = ({} : Platform).magicAccessors := by rw [X.admits.platform]
  have hpl2 : e.platform.arrayCloneIsPublic = true := by rw [X.admits.platform]
  have a' : ∀ x, x ∈ Bundle.npeArmAtoms n → x.holds args s none s [] = true := fun x hx => h x hx
  obtain ⟨T, Z, L, LZ, Y⟩ := ThrowableC.of_atoms (args := args) howns hfin hpl (fun x hx => h x (by simp [Bundle.npeArmAtoms, hx]))
  obtain ⟨N, LN, hcN, hnNF, hordN, hffS⟩ := NpeC.of_atoms (args := args) hpl hpl2 L Y (fun x hx => h x (by simp [Bundle.npeArmAtoms, hx]))
  obtain ⟨P1, L1, hP1m, hP1s⟩ := PassC.of_atoms (args := args) (s := s) hpl (X := Bundle.nN) (Y := Bundle.rN) (by decide) (by decide) LibCode.NullPointerException.Init0.at_0 LibCode.NullPointerException.Init0.at_1 LibCode.NullPointerException.Init0.at_4 (fun x hx => h x (by simp [Bundle.npeArmAtoms, hx]))
  obtain ⟨PR, LR, hPRm, hPRs⟩ := PassC.of_atoms (args := args) (s := s) hpl (X := Bundle.rN) (Y := Bundle.eN) (by decide) (by decide) LibCode.RuntimeException.Init0.at_0 LibCode.RuntimeException.Init0.at_1 LibCode.RuntimeException.Init0.at_4 (fun x hx => h x (by simp [Bundle.npeArmAtoms, hx]))
  obtain ⟨PE, LEx, hPEm, hPEs⟩ := PassC.of_atoms (args := args) (s := s) hpl (X := Bundle.eN) (Y := Bundle.tN) (by decide) (by decide) LibCode.Exception.Init0.at_0 LibCode.Exception.Init0.at_1 LibCode.Exception.Init0.at_4 (fun x hx => h x (by simp [Bundle.npeArmAtoms, hx]))
  have hfound : s.vm.findClass Bundle.nN = some P1.m.cls := findClass_of_methodNamed hP1m
  have ecls : N.cN = P1.m.cls := Option.some.inj (hcN.symm.trans hfound)
  have hk : s.vm.classes[P1.m.cls]? = some N.kN := by rw [← ecls]; exact LN.cls
  have hinit := Cond.initialized_spec hfound hk (a' (.initialized Bundle.nN) (by simp [Bundle.npeArmAtoms]))
  have hctor : N.kN.findMethod "<init>" "()V" = some P1.m.idx := findMethod_of_methodNamed hP1m hk
  obtain ⟨c1, k1, hc1, hk1, -, -, -, hn⟩ := Cond.instantiable_spec (a' (.instantiable Bundle.nN n) (by simp [Bundle.npeArmAtoms]))
  cases Option.some.inj (hc1.symm.trans hfound)
  cases Option.some.inj (hk1.symm.trans hk)
  have hfsz : (freshCell P1.m.cls N.kN).slots.size = n := by simp [hn]
  have hlink1 : P1.sup = PR.m := Option.some.inj (hP1s.symm.trans hPRm)
  have hlinkR : PR.sup = PE.m := Option.some.inj (hPRs.symm.trans hPEm)
  have hlinkE : PE.sup = Z.m T.toThrowableT := Option.some.inj (hPEs.symm.trans Y.init0)
  have hLs : ∀ P, P ∈ [PR, PE] → P.Links0 e.platform s := fun P hP => by
    simp only [List.mem_cons, List.not_mem_nil, or_false] at hP
    rcases hP with rfl | rfl
    · exact LR
    · exact LEx
  have hsel0 : selectMethod e.platform s.vm P1.m.cls T.fill0 = .method T.fill0 := by
    obtain ⟨c2, r2, m2, q1, q2, q3, q4, -⟩ := Cond.selects_spec (a' (.selects Bundle.nN Bundle.tFill0 Bundle.tFill0) (by simp [Bundle.npeArmAtoms]))
    cases Option.some.inj (q1.symm.trans hfound)
    cases Option.some.inj (q2.symm.trans (State.methodFound?_of_named Y.fill0 (by decide)))
    cases Option.some.inj (q3.symm.trans Y.fill0)
    rw [Launch.admits_selectMethod X.admits]; exact q4
  have hselF : selectMethod e.platform s.vm P1.m.cls T.fill = .method N.fill := by
    obtain ⟨c2, r2, m2, q1, q2, q3, q4, -⟩ := Cond.selects_spec (a' (.selects Bundle.nN Bundle.tFill Bundle.nFill) (by simp [Bundle.npeArmAtoms]))
    cases Option.some.inj (q1.symm.trans hfound)
    cases Option.some.inj (q2.symm.trans (State.methodFound?_of_named Y.fill (by decide)))
    cases Option.some.inj (q3.symm.trans hnNF)
    rw [Launch.admits_selectMethod X.admits]; exact q4
  obtain ⟨cellS0, hcS0, hiss⟩ := Y.statics
  obtain ⟨u0, hu0⟩ := Cond.staticRefV Y.unassigned L.unassignedStatic L.statics hcS0 hiss (a' (.isRef (.static Bundle.tN "UNASSIGNED_STACK" Bundle.steD)) (by simp [Bundle.npeArmAtoms]))
  obtain ⟨sen, hsen⟩ := Cond.staticRefV Y.sentinel L.sentinelStatic L.statics hcS0 hiss (a' (.isRef (.static Bundle.tN "SUPPRESSED_SENTINEL" Bundle.listD)) (by simp [Bundle.npeArmAtoms]))
  obtain ⟨ci198, i198, fB, hk198, hg198, ha198, hsB, -, hnB, htB, hffB⟩ := Cond.ownField (t := .object "java/lang/Object") Y.found L.cls (by decide +kernel) (a' (.fieldLink Bundle.tN 198 Bundle.tN "backtrace" Bundle.objD) (by simp [Bundle.npeArmAtoms])) (a' (.lays Bundle.tN Bundle.tN "backtrace" Bundle.objD) (by simp [Bundle.npeArmAtoms])) e.platform hpl
  obtain ⟨cellS, hcS', heS, -, hkeep⟩ := X.same.2.2.2.2.2 T.aS cellS0 hcS0
  have hcellS : W.heap[T.aS]? = some cellS := hcS'
  have hout' : ∀ i, (⟨T.aS, i⟩ : Loc) ∉ locs := fun i hmem => by
    have := hlocs _ hmem cellS0 hcS0
    rw [hiss] at this; cases this
  have hknownS : cellS.vm ≠ .unknown := by
    rw [heS]; intro hu
    rw [show cellS0.vm = .unknown from hu] at hiss
    cases hiss
  have hvU : cellS.slots[T.fUnassigned.slot]? = some u0.v := by rw [hkeep _ (hout' _)]; exact hu0
  have hvSen : cellS.slots[T.fSentinel.slot]? = some sen.v := by rw [hkeep _ (hout' _)]; exact hsen
  obtain ⟨tyC, dC, hdC, hdnC⟩ := Cond.laysAt hfound hk Y.cause (a' (.lays Bundle.nN Bundle.tN "cause" "Ljava/lang/Throwable;") (by simp [Bundle.npeArmAtoms]))
  obtain ⟨tyS, dS, hdS, hdnS⟩ := Cond.laysAt hfound hk Y.stack (a' (.lays Bundle.nN Bundle.tN "stackTrace" Bundle.steD) (by simp [Bundle.npeArmAtoms]))
  obtain ⟨tyP, dP, hdP, hdnP⟩ := Cond.laysAt hfound hk Y.supp (a' (.lays Bundle.nN Bundle.tN "suppressedExceptions" Bundle.listD) (by simp [Bundle.npeArmAtoms]))
  obtain ⟨tyX, dX, hdX, hdnX⟩ := Cond.laysAt hfound hk hffS (a' (.lays Bundle.nN Bundle.nN "extendedMessageState" "I") (by simp [Bundle.npeArmAtoms, Bundle.npeAtoms]))
  obtain ⟨hnX, htX⟩ := State.fieldFound?_type hffS (t := .int) (by decide +kernel)
  have xC := Cond.laysApart hdC hdX hdnC hdnX (by rw [hnX, Y.causeName]; decide)
  have xS := Cond.laysApart hdS hdX hdnS hdnX (by rw [hnX, Y.stackName]; decide)
  have xP := Cond.laysApart hdP hdX hdnP hdnX (by rw [hnX, Y.suppName]; decide)
  have hv0 : (freshCell P1.m.cls N.kN).slots[N.fState.slot]? = some (.int 0) := by
    have := fresh_default (c := P1.m.cls) tyX
    rw [htX] at this; exact this
  obtain ⟨tyB, dB, hdB, hdnB⟩ := Cond.laysAt hfound hk hffB (a' (.lays Bundle.nN Bundle.tN "backtrace" Bundle.objD) (by simp [Bundle.npeArmAtoms]))
  have bC := Cond.laysApart hdB hdC hdnB hdnC (by rw [hnB, Y.causeName]; decide)
  have bS := Cond.laysApart hdB hdS hdnB hdnS (by rw [hnB, Y.stackName]; decide)
  have bP := Cond.laysApart hdB hdP hdnB hdnP (by rw [hnB, Y.suppName]; decide)
  have bX := Cond.laysApart hdB hdX hdnB hdnX (by rw [hnB, hnX]; decide)
  have hbk : ((npeCell N.toNpeT (preparedCellV T.toThrowableT (freshCell P1.m.cls N.kN) W.heap.size u0 sen) W.cur).withEntry W.cur).slots[fB.slot]? = some .null := by
    have := fresh_default (c := P1.m.cls) tyB
    rw [htB] at this
    simpa [npeCell, preparedCellV, Cell.setSlot, Cell.withEntry, Array.getElem?_setIfInBounds, bC, bS, bP, bX, bC.symm, bS.symm, bP.symm, bX.symm, defaultValue] using this
  have tkC := Takes.of_laid (v := .ref W.heap.size) hk hordN tyC (by rw [Y.causeType]; rfl)
  have tkS := Takes.of_laid (v := u0.v) hk hordN tyS (by rw [Y.stackType]; exact fits_refV_array _ u0)
  have tkP := Takes.of_laid (v := sen.v) hk hordN tyP (by rw [Y.suppType]; exact fits_refV_object _ sen)
  have tkX := Takes.of_laid (v := .int 1) hk hordN tyX (by rw [htX]; rfl)
  have hskip : SkipFacts T e.platform s (fun u => u) u0 ((npeCell N.toNpeT (preparedCellV T.toThrowableT (freshCell P1.m.cls N.kN) W.heap.size u0 sen) W.cur).withEntry W.cur) := ⟨{ ci198 := ci198, i198 := i198, fBack := fB }, ⟨hk198, hg198, ha198, hsB⟩, hbk, fun _ _ => rfl⟩
  obtain ⟨vm', X3, st, -⟩ := X.throwsNpeColdBareVAt hexec hg hsize T L Z LZ N LN P1 L1 [PR, PE] hLs hlink1 ⟨hlinkR, hlinkE, trivial⟩ hfound hk hinit hordN hctor hsel0 hselF hcellS hknownS hvU hvSen
    hv0 xC xS xP tkC tkS tkP tkX Y.objLocals hskip (fun _ _ hA hW _ hroom _ hrest => L.nativeOff p htr hA hW hroom hrest) (by simpa using hRframes) hRlocals (by simp) hRcells (by rw [hn]; exact hRslots)
  have hlt : W.heap.size < ((W.pushCell (freshCell P1.m.cls N.kN)).setVm vm').heap.size := by
    show W.heap.size < (W.pushCell (freshCell P1.m.cls N.kN)).heap.size
    rw [State.heap_size_pushCell]; omega
  rw [hfsz] at X3
  obtain ⟨g₁, hfrM⟩ := X3.frames_eq
  have hU : ((((W.pushCell (freshCell P1.m.cls N.kN)).setVm vm').setCell W.heap.size (npeBareV T.toThrowableT N.toNpeT (freshCell P1.m.cls N.kN) W.heap.size u0 sen)).setTop g).pushFrame (.throwing W.heap.size) = (((W.pushCell (freshCell P1.m.cls N.kN)).setVm vm').setCell W.heap.size (npeBareV T.toThrowableT N.toNpeT (freshCell P1.m.cls N.kN) W.heap.size u0 sen)).setFrames (.throwing W.heap.size :: .java g :: below) := by
    rw [State.pushFrame, State.frames_setTop _ hfrM, State.setTop_of_frames _ hfrM, State.setFrames_setFrames]
  refine ⟨_, W.heap.size, _, fun target ht => st.trans (by rw [← hU]; exact ht), X3.forget (fun y hy => ?_), heapAt_setCell_self _ hlt, hfound, rfl⟩
  simp only [List.mem_cons, List.not_mem_nil, or_false] at hy
  have hge : s.heap.size ≤ W.heap.size := X.same.2.1
  rcases hy with rfl | rfl | rfl | rfl | rfl <;> exact hge
/-- the words of a machine's NullPointerException, but the four that speak of the heap -/
def vx_atN (n : Nat) : List Cond := (Bundle.npeArmAtoms n).filter vx_no
/-- the words of a machine's throw with a message, but the four that speak of the heap -/
def vx_atM (X : String) (names : List String) : List Cond := (Bundle.messageArmAtoms X names).filter vx_no
section
variable {p : Program} {l : Launch} {e : Env} {R : Room} {s : State} {m : MethodId} {args : Array Value} {below : List Frame} {meth : Method} {c : Code} {H : Heap} {locs : List Loc} {cells slots : Nat}
/-- a frame seen from a rebased start, seen from the first start again -/
theorem vx_back9 {T S : State} {R' : Room} {k n : Nat} (X : Stand p l e R s m args below meth c T locs cells slots) (Y : Stand p l e R' ((T.setVm s.vm).setFrames (.invoking m args :: below)) m args below meth c T [] 0 0) (Z : Stand p l e R' ((T.setVm s.vm).setFrames (.invoking m args :: below)) m args below meth c S [] k n) :
    Stand p l e R s m args below meth c S locs (cells + k) (slots + n) := by
  have hW0 : s.WarmedH ((T.setVm s.vm).setFrames (.invoking m args :: below)).vm := State.WarmedH.refl s
  refine { admits := X.admits, cas := X.cas, clock := X.clock, frames := X.frames, room := X.room, hears := X.hears, method := X.method, code := X.code, here := Z.here, tail := Z.tail, warmed := State.WarmedH.trans hW0 Z.warmed, limits := Z.limits.trans (Y.limits.symm.trans X.limits), bytes := Z.bytes.trans (Y.bytes.symm.trans X.bytes), same := ?_ }
  obtain ⟨e1, e2⟩ := Z.same
  rw [State.setFrames_setFrames] at e1
  have h2 : (T.setVm s.vm).sameButNew (S.setVm s.vm) [] k n := ⟨e1, e2⟩
  have h3 := X.same.trans h2
  rw [List.append_nil] at h3
  exact h3
/-- from the machine's note that E is thrown here with this text -/
def vx_Note (p : Program) (l : Launch) (e : Env) (R : Room) (s : State) (m : MethodId) (args : Array Value) (below : List Frame) (meth : Method) (c : Code) (H : Heap) (locs : List Loc) (cells slots : Nat) (Q : State → Prop) (g : JFrame) (E text : String) : Prop :=
  ∀ T : State, T.heap = H → Stand p l e R s m args below meth c T locs cells slots → ∃ t, Steps p.tables e below ((T.setTop g).pushFrame (.throwNew E (some text) none)) t ∧ Q t
theorem vx_vm {pc : Nat} {ls : Array Slot} {rest : List Value} {Q : State → Prop} (hexec : p.tables.exec = Jvm.exec) (hl : l.stackTraces = false) {cls text : String} {names : List String} {nb : Nat} {A : Nat → Prop}
    (hcls : Bundle.fit cls = true) (hnames : ∀ n ∈ names, Bundle.fit n = true) (hsoe : (cls == "java/lang/StackOverflowError") = false) (hoom : (cls == "java/lang/OutOfMemoryError") = false)
    (hat : ∀ w ∈ vx_atM cls names, w.before args s = true) (hgood : ∀ w ∈ vx_atM cls names, vx_ot w = true)
    (hU : vx_Zq Bundle.tN "UNASSIGNED_STACK" Bundle.steD A s s.heap) (hN : vx_Zq Bundle.tN "SUPPRESSED_SENTINEL" Bundle.listD A s s.heap) (hS : va_S A s.heap H locs) (hsize : ls.size = c.maxLocals)
    (htext : (text == notModelled) = false) (hnb : (stringBytes (stringToUtf16 text)).size ≤ nb) (hnb1 : nb ≤ 1000)
    (hRframes : names.length + 4 < R.frames) (hRlocals : (rest.map fun v => v.category).sum + 10240 ≤ R.locals) (hshort : 13 * names.length + 55 ≤ 10240) (hRcells : cells + 3 ≤ R.cells) (hRslots : slots + (nb + 10) ≤ R.slots) (hlocks : meth.locks = false)
    (k : ∀ (H1 : Heap) (q9 : Addr) (ce : Cell), H.size ≤ H1.size → (∀ q : Nat, q < H.size → H1[q]? = H[q]?) → va_S A s.heap H1 locs → H1[q9]? = some ce → ce.vm = .none → s.vm.findClass cls = some ce.cls → vx_W p l e R s m args below meth c H1 locs (cells + 3) (slots + (nb + 10)) Q (F0 m pc ls rest) q9) :
    vx_Note p l e R s m args below meth c H locs cells slots Q (F0 m pc ls rest) cls text := by
  intro T hT X
  have htr : e.platform.stackTraces = false := (show e.platform.stackTraces = l.stackTraces by rw [X.admits.platform]).trans hl
  have Y := vx_rebase X (R' := { frames := R.frames, locals := R.locals, cells := 3, slots := nb + 10 }) (Nat.le_refl _) (Nat.le_refl _) hRcells hRslots
  have hhp : ((T.setVm s.vm).setFrames (.invoking m args :: below)).heap = H := hT
  have hW0 : s.WarmedH ((T.setVm s.vm).setFrames (.invoking m args :: below)).vm := State.WarmedH.refl s
  have hat' : ∀ w ∈ vx_atM cls names, w.before args ((T.setVm s.vm).setFrames (.invoking m args :: below)) = true := fun w hw => vx_ot_at hW0 rfl (hgood w hw) (hat w hw)
  have hU' : vx_Zq Bundle.tN "UNASSIGNED_STACK" Bundle.steD A ((T.setVm s.vm).setFrames (.invoking m args :: below)) ((T.setVm s.vm).setFrames (.invoking m args :: below)).heap := by rw [hhp]; exact vx_Zq.moved hW0.alike (hU.kept hS.2.1)
  have hN' : vx_Zq Bundle.tN "SUPPRESSED_SENTINEL" Bundle.listD A ((T.setVm s.vm).setFrames (.invoking m args :: below)) ((T.setVm s.vm).setFrames (.invoking m args :: below)).heap := by rw [hhp]; exact vx_Zq.moved hW0.alike (hN.kept hS.2.1)
  obtain ⟨S, q, ce, st, Z, hce, hcl', hv⟩ := vx_vmAt Y hexec htr (cls := cls) (names := names) (text := text) hcls hnames hsoe hoom (vx_own hat' (vx_isRefq hU'.1) (vx_isRefq hN'.1) hU'.2.word hN'.2.word) (fun x hx => nomatch hx) htext
    (by rw [Launch.admits_arrayLengthLimit X.admits]; omega) (by rw [Launch.admits_maxHeapBytes X.admits]; simp only [componentBytes]; omega)
    (g := F0 m pc ls rest) rfl hsize hRframes (by show 2 * 0 + (rest.map fun v => v.category).sum + 10240 ≤ R.locals; omega) hshort (by show 0 + 3 ≤ 3; omega) (by show 0 + (_ + 4 + 6) ≤ nb + 10; omega) hlocks
  obtain ⟨f1, f2⟩ := vx_frame Z.same
  have f1' : H.size ≤ S.heap.size := by rw [← hT]; exact f1
  have f2' : ∀ q : Nat, q < H.size → S.heap[q]? = H[q]? := fun q hq => by
    rw [← hT]
    exact f2 q (by rw [← hT] at hq; exact hq) (fun z hz => nomatch hz)
  have X5 := vx_back9 X Y Z
  have X6 : Stand p l e R s m args below meth c S locs (cells + 3) (slots + (nb + 10)) := { X5 with same := X5.same.mono (by omega) (by omega) }
  obtain ⟨t, a1, b1⟩ := k S.heap q ce f1' f2' ⟨Nat.le_trans hS.1 f1', fun q h1 h2 => (f2' q (Nat.lt_of_lt_of_le h1 hS.1)).trans (hS.2.1 q h1 h2), hS.2.2⟩ hce hv hcl' S rfl X6
  exact ⟨t, st t a1, b1⟩
/-- from the machine's note that NullPointerException is thrown here -/
def vx_NoteN (p : Program) (l : Launch) (e : Env) (R : Room) (s : State) (m : MethodId) (args : Array Value) (below : List Frame) (meth : Method) (c : Code) (H : Heap) (locs : List Loc) (cells slots : Nat) (Q : State → Prop) (g : JFrame) : Prop :=
  ∀ T : State, T.heap = H → Stand p l e R s m args below meth c T locs cells slots → ∃ t, Steps p.tables e below ((T.setTop g).pushFrame (.throwNew "java/lang/NullPointerException" none none)) t ∧ Q t
theorem vx_npe {pc : Nat} {ls : Array Slot} {rest : List Value} {Q : State → Prop} (hexec : p.tables.exec = Jvm.exec) (hl : l.stackTraces = false) {nb : Nat} {A : Nat → Prop}
    (hat : ∀ w ∈ vx_atN nb, w.before args s = true) (hgood : ∀ w ∈ vx_atN nb, vx_ot w = true)
    (hU : vx_Zq Bundle.tN "UNASSIGNED_STACK" Bundle.steD A s s.heap) (hN : vx_Zq Bundle.tN "SUPPRESSED_SENTINEL" Bundle.listD A s s.heap) (hS : va_S A s.heap H locs) (hsize : ls.size = c.maxLocals)
    (hRframes : 7 < R.frames) (hRlocals : (rest.map fun v => v.category).sum + 10240 ≤ R.locals) (hRcells : cells + 1 ≤ R.cells) (hRslots : slots + nb ≤ R.slots) (hlocks : meth.locks = false)
    (k : ∀ (H1 : Heap) (q9 : Addr) (ce : Cell), H.size ≤ H1.size → (∀ q : Nat, q < H.size → H1[q]? = H[q]?) → va_S A s.heap H1 locs → H1[q9]? = some ce → ce.vm = .none → s.vm.findClass "java/lang/NullPointerException" = some ce.cls → vx_W p l e R s m args below meth c H1 locs (cells + 1) (slots + nb) Q (F0 m pc ls rest) q9) :
    vx_NoteN p l e R s m args below meth c H locs cells slots Q (F0 m pc ls rest) := by
  intro T hT X
  have htr : e.platform.stackTraces = false := (show e.platform.stackTraces = l.stackTraces by rw [X.admits.platform]).trans hl
  have Y := vx_rebase X (R' := { frames := R.frames, locals := R.locals, cells := 1, slots := nb }) (Nat.le_refl _) (Nat.le_refl _) hRcells hRslots
  have hhp : ((T.setVm s.vm).setFrames (.invoking m args :: below)).heap = H := hT
  have hW0 : s.WarmedH ((T.setVm s.vm).setFrames (.invoking m args :: below)).vm := State.WarmedH.refl s
  have hat' : ∀ w ∈ vx_atN nb, w.before args ((T.setVm s.vm).setFrames (.invoking m args :: below)) = true := fun w hw => vx_ot_at hW0 rfl (hgood w hw) (hat w hw)
  have hU' : vx_Zq Bundle.tN "UNASSIGNED_STACK" Bundle.steD A ((T.setVm s.vm).setFrames (.invoking m args :: below)) ((T.setVm s.vm).setFrames (.invoking m args :: below)).heap := by rw [hhp]; exact vx_Zq.moved hW0.alike (hU.kept hS.2.1)
  have hN' : vx_Zq Bundle.tN "SUPPRESSED_SENTINEL" Bundle.listD A ((T.setVm s.vm).setFrames (.invoking m args :: below)) ((T.setVm s.vm).setFrames (.invoking m args :: below)).heap := by rw [hhp]; exact vx_Zq.moved hW0.alike (hN.kept hS.2.1)
  obtain ⟨S, q, ce, st, Z, hce, hcl', hv⟩ := vx_npeAt Y hexec htr (n := nb) (vx_own hat' (vx_isRefq hU'.1) (vx_isRefq hN'.1) hU'.2.word hN'.2.word) (fun x hx => nomatch hx)
    (g := F0 m pc ls rest) rfl hsize hRframes (by show 2 * 0 + (rest.map fun v => v.category).sum + 10240 ≤ R.locals; omega) (by show 0 + 1 ≤ 1; omega) (by show 0 + nb ≤ nb; omega) hlocks
  obtain ⟨f1, f2⟩ := vx_frame Z.same
  have f1' : H.size ≤ S.heap.size := by rw [← hT]; exact f1
  have f2' : ∀ q : Nat, q < H.size → S.heap[q]? = H[q]? := fun q hq => by
    rw [← hT]
    exact f2 q (by rw [← hT] at hq; exact hq) (fun z hz => nomatch hz)
  have X5 := vx_back9 X Y Z
  have X6 : Stand p l e R s m args below meth c S locs (cells + 1) (slots + nb) := { X5 with same := X5.same.mono (by omega) (by omega) }
  obtain ⟨t, a1, b1⟩ := k S.heap q ce f1' f2' ⟨Nat.le_trans hS.1 f1', fun q h1 h2 => (f2' q (Nat.lt_of_lt_of_le h1 hS.1)).trans (hS.2.1 q h1 h2), hS.2.2⟩ hce hv hcl' S rfl X6
  exact ⟨t, st t a1, b1⟩
variable {Q : State → Prop} {cc : ByteArray} {pc : Nat} {ls : Array Slot} {rest : List Value}
theorem vx_idivZ (hexec : p.tables.exec = Jvm.exec) (hb : c.code = cc) {a b : Int32} (h0 : b = 0) (d : decode cc pc = .ok (.idiv, 1)) (k : vx_Note p l e R s m args below meth c H locs cells slots Q (F0 m pc ls rest) "java/lang/ArithmeticException" "/ by zero") :
    W p l e R s m args below meth c H locs cells slots Q (F0 m pc ls (.int b :: .int a :: rest)) := by
  intro T hT X
  obtain ⟨t, st, q⟩ := k T hT X
  exact ⟨t, X.idivZero hexec (g := F0 m pc ls (.int b :: .int a :: rest)) rfl (a := a) (rest := rest) (by rw [h0]) (by rw [hb]; exact d) t st, q⟩
theorem vx_iremZ (hexec : p.tables.exec = Jvm.exec) (hb : c.code = cc) {a b : Int32} (h0 : b = 0) (d : decode cc pc = .ok (.irem, 1)) (k : vx_Note p l e R s m args below meth c H locs cells slots Q (F0 m pc ls rest) "java/lang/ArithmeticException" "/ by zero") :
    W p l e R s m args below meth c H locs cells slots Q (F0 m pc ls (.int b :: .int a :: rest)) := by
  intro T hT X
  obtain ⟨t, st, q⟩ := k T hT X
  exact ⟨t, X.iremZero hexec (g := F0 m pc ls (.int b :: .int a :: rest)) rfl (a := a) (rest := rest) (by rw [h0]) (by rw [hb]; exact d) t st, q⟩
theorem vx_ldivZ (hexec : p.tables.exec = Jvm.exec) (hb : c.code = cc) {a b : Int64} (h0 : b = 0) (d : decode cc pc = .ok (.ldiv, 1)) (k : vx_Note p l e R s m args below meth c H locs cells slots Q (F0 m pc ls rest) "java/lang/ArithmeticException" "/ by zero") :
    W p l e R s m args below meth c H locs cells slots Q (F0 m pc ls (.long b :: .long a :: rest)) := by
  intro T hT X
  obtain ⟨t, st, q⟩ := k T hT X
  exact ⟨t, X.ldivZero hexec (g := F0 m pc ls (.long b :: .long a :: rest)) rfl (a := a) (rest := rest) (by rw [h0]) (by rw [hb]; exact d) t st, q⟩
theorem vx_lremZ (hexec : p.tables.exec = Jvm.exec) (hb : c.code = cc) {a b : Int64} (h0 : b = 0) (d : decode cc pc = .ok (.lrem, 1)) (k : vx_Note p l e R s m args below meth c H locs cells slots Q (F0 m pc ls rest) "java/lang/ArithmeticException" "/ by zero") :
    W p l e R s m args below meth c H locs cells slots Q (F0 m pc ls (.long b :: .long a :: rest)) := by
  intro T hT X
  obtain ⟨t, st, q⟩ := k T hT X
  exact ⟨t, X.lremZero hexec (g := F0 m pc ls (.long b :: .long a :: rest)) rfl (a := a) (rest := rest) (by rw [h0]) (by rw [hb]; exact d) t st, q⟩
theorem vx_ialdZ {D : va_G} {cl : List vw_C} {ws : va_W} {tys : List (ClassId × FieldType)} {a : Nat} (hexec : p.tables.exec = Jvm.exec) (hb : c.code = cc) (hK : va_K D cl tys s) (hP : va_P D cl ws H) (q0 t0 : Nat) {cA : ClassId} {n : Nat} {f : Nat → Int32} (ha : ws[q0]? = some (a, .inl (cA, n, .inl f))) (ht : tys[t0]? = some (cA, .int)) {i : Int32} (hout : ¬ vp_in i n) (hdg : decode cc pc = .ok (.iaload, 1))
    (k : ∀ tx : String, tx = (toString "Index " ++ toString i ++ toString " out of bounds for length " ++ toString n : String) → vx_Note p l e R s m args below meth c H locs cells slots Q (F0 m pc ls rest) "java/lang/ArrayIndexOutOfBoundsException" tx) : W p l e R s m args below meth c H locs cells slots Q (F0 m pc ls (.int i :: .ref a :: rest)) := by
  intro T hT X
  obtain ⟨t, st, q⟩ := k _ rfl T hT X
  refine ⟨t, ?_, q⟩
  have h1 := X.ialoadOut hexec (by rw [hT]; exact hP q0 _ ha) ((hK.2 t0 _ ht).1 n (fun j => .int (f j))) (j := i) (by show (i < 0 ∨ (arrV _ _ _).slots.size ≤ _); rw [arrV_size]; exact Classical.byContradiction hout) (g := F0 m pc ls (.int i :: .ref a :: rest)) rfl (rest := rest) rfl (by rw [hb]; exact hdg) t
  simp only [arrV_size] at h1
  exact h1 st
theorem vx_iastZ {D : va_G} {cl : List vw_C} {ws : va_W} {tys : List (ClassId × FieldType)} {a : Nat} (hexec : p.tables.exec = Jvm.exec) (hb : c.code = cc) (hK : va_K D cl tys s) (hP : va_P D cl ws H) (q0 t0 : Nat) {cA : ClassId} {n : Nat} {f : Nat → Int32} (ha : ws[q0]? = some (a, .inl (cA, n, .inl f))) (ht : tys[t0]? = some (cA, .int)) {i : Int32} {x : Int32} (hout : ¬ vp_in i n) (hdg : decode cc pc = .ok (.iastore, 1))
    (k : ∀ tx : String, tx = (toString "Index " ++ toString i ++ toString " out of bounds for length " ++ toString n : String) → vx_Note p l e R s m args below meth c H locs cells slots Q (F0 m pc ls rest) "java/lang/ArrayIndexOutOfBoundsException" tx) : W p l e R s m args below meth c H locs cells slots Q (F0 m pc ls (.int x :: .int i :: .ref a :: rest)) := by
  intro T hT X
  obtain ⟨t, st, q⟩ := k _ rfl T hT X
  refine ⟨t, ?_, q⟩
  have h1 := X.iastoreOut hexec (by rw [hT]; exact hP q0 _ ha) ((hK.2 t0 _ ht).1 n (fun j => .int (f j))) (j := i) (by show (i < 0 ∨ (arrV _ _ _).slots.size ≤ _); rw [arrV_size]; exact Classical.byContradiction hout) (g := F0 m pc ls (.int x :: .int i :: .ref a :: rest)) rfl (rest := rest) rfl (by rw [hb]; exact hdg) t
  simp only [arrV_size] at h1
  exact h1 st
theorem vx_baldZ {D : va_G} {cl : List vw_C} {ws : va_W} {tys : List (ClassId × FieldType)} {a : Nat} (hexec : p.tables.exec = Jvm.exec) (hb : c.code = cc) (hK : va_K D cl tys s) (hP : va_P D cl ws H) (q0 t0 : Nat) {cA : ClassId} {n : Nat} {f : Nat → Int32} (ha : ws[q0]? = some (a, .inl (cA, n, .inl f))) (ht : tys[t0]? = some (cA, .byte)) {i : Int32} (hout : ¬ vp_in i n) (hdg : decode cc pc = .ok (.baload, 1))
    (k : ∀ tx : String, tx = (toString "Index " ++ toString i ++ toString " out of bounds for length " ++ toString n : String) → vx_Note p l e R s m args below meth c H locs cells slots Q (F0 m pc ls rest) "java/lang/ArrayIndexOutOfBoundsException" tx) : W p l e R s m args below meth c H locs cells slots Q (F0 m pc ls (.int i :: .ref a :: rest)) := by
  intro T hT X
  obtain ⟨t, st, q⟩ := k _ rfl T hT X
  refine ⟨t, ?_, q⟩
  have h1 := X.baloadOut hexec (by rw [hT]; exact hP q0 _ ha) ((hK.2 t0 _ ht).1 n (fun j => .int (f j))) (j := i) (by show (i < 0 ∨ (arrV _ _ _).slots.size ≤ _); rw [arrV_size]; exact Classical.byContradiction hout) (g := F0 m pc ls (.int i :: .ref a :: rest)) rfl (rest := rest) rfl (by rw [hb]; exact hdg) t
  simp only [arrV_size] at h1
  exact h1 st
theorem vx_bastZ {D : va_G} {cl : List vw_C} {ws : va_W} {tys : List (ClassId × FieldType)} {a : Nat} (hexec : p.tables.exec = Jvm.exec) (hb : c.code = cc) (hK : va_K D cl tys s) (hP : va_P D cl ws H) (q0 t0 : Nat) {cA : ClassId} {n : Nat} {f : Nat → Int32} (ha : ws[q0]? = some (a, .inl (cA, n, .inl f))) (ht : tys[t0]? = some (cA, .byte)) {i : Int32} {x : Int32} (hout : ¬ vp_in i n) (hdg : decode cc pc = .ok (.bastore, 1))
    (k : ∀ tx : String, tx = (toString "Index " ++ toString i ++ toString " out of bounds for length " ++ toString n : String) → vx_Note p l e R s m args below meth c H locs cells slots Q (F0 m pc ls rest) "java/lang/ArrayIndexOutOfBoundsException" tx) : W p l e R s m args below meth c H locs cells slots Q (F0 m pc ls (.int x :: .int i :: .ref a :: rest)) := by
  intro T hT X
  obtain ⟨t, st, q⟩ := k _ rfl T hT X
  refine ⟨t, ?_, q⟩
  have h1 := X.bastoreOut hexec (by rw [hT]; exact hP q0 _ ha) ((hK.2 t0 _ ht).1 n (fun j => .int (f j))) (j := i) (by show (i < 0 ∨ (arrV _ _ _).slots.size ≤ _); rw [arrV_size]; exact Classical.byContradiction hout) (g := F0 m pc ls (.int x :: .int i :: .ref a :: rest)) rfl (rest := rest) rfl (by rw [hb]; exact hdg) t
  simp only [arrV_size] at h1
  exact h1 st
theorem vx_zaldZ {D : va_G} {cl : List vw_C} {ws : va_W} {tys : List (ClassId × FieldType)} {a : Nat} (hexec : p.tables.exec = Jvm.exec) (hb : c.code = cc) (hK : va_K D cl tys s) (hP : va_P D cl ws H) (q0 t0 : Nat) {cA : ClassId} {n : Nat} {f : Nat → Int32} (ha : ws[q0]? = some (a, .inl (cA, n, .inl f))) (ht : tys[t0]? = some (cA, .boolean)) {i : Int32} (hout : ¬ vp_in i n) (hdg : decode cc pc = .ok (.baload, 1))
    (k : ∀ tx : String, tx = (toString "Index " ++ toString i ++ toString " out of bounds for length " ++ toString n : String) → vx_Note p l e R s m args below meth c H locs cells slots Q (F0 m pc ls rest) "java/lang/ArrayIndexOutOfBoundsException" tx) : W p l e R s m args below meth c H locs cells slots Q (F0 m pc ls (.int i :: .ref a :: rest)) := by
  intro T hT X
  obtain ⟨t, st, q⟩ := k _ rfl T hT X
  refine ⟨t, ?_, q⟩
  have h1 := X.baloadOut hexec (by rw [hT]; exact hP q0 _ ha) ((hK.2 t0 _ ht).1 n (fun j => .int (f j))) (j := i) (by show (i < 0 ∨ (arrV _ _ _).slots.size ≤ _); rw [arrV_size]; exact Classical.byContradiction hout) (g := F0 m pc ls (.int i :: .ref a :: rest)) rfl (rest := rest) rfl (by rw [hb]; exact hdg) t
  simp only [arrV_size] at h1
  exact h1 st
theorem vx_zastZ {D : va_G} {cl : List vw_C} {ws : va_W} {tys : List (ClassId × FieldType)} {a : Nat} (hexec : p.tables.exec = Jvm.exec) (hb : c.code = cc) (hK : va_K D cl tys s) (hP : va_P D cl ws H) (q0 t0 : Nat) {cA : ClassId} {n : Nat} {f : Nat → Int32} (ha : ws[q0]? = some (a, .inl (cA, n, .inl f))) (ht : tys[t0]? = some (cA, .boolean)) {i : Int32} {x : Int32} (hout : ¬ vp_in i n) (hdg : decode cc pc = .ok (.bastore, 1))
    (k : ∀ tx : String, tx = (toString "Index " ++ toString i ++ toString " out of bounds for length " ++ toString n : String) → vx_Note p l e R s m args below meth c H locs cells slots Q (F0 m pc ls rest) "java/lang/ArrayIndexOutOfBoundsException" tx) : W p l e R s m args below meth c H locs cells slots Q (F0 m pc ls (.int x :: .int i :: .ref a :: rest)) := by
  intro T hT X
  obtain ⟨t, st, q⟩ := k _ rfl T hT X
  refine ⟨t, ?_, q⟩
  have h1 := X.bastoreOut hexec (by rw [hT]; exact hP q0 _ ha) ((hK.2 t0 _ ht).1 n (fun j => .int (f j))) (j := i) (by show (i < 0 ∨ (arrV _ _ _).slots.size ≤ _); rw [arrV_size]; exact Classical.byContradiction hout) (g := F0 m pc ls (.int x :: .int i :: .ref a :: rest)) rfl (rest := rest) rfl (by rw [hb]; exact hdg) t
  simp only [arrV_size] at h1
  exact h1 st
theorem vx_caldZ {D : va_G} {cl : List vw_C} {ws : va_W} {tys : List (ClassId × FieldType)} {a : Nat} (hexec : p.tables.exec = Jvm.exec) (hb : c.code = cc) (hK : va_K D cl tys s) (hP : va_P D cl ws H) (q0 t0 : Nat) {cA : ClassId} {n : Nat} {f : Nat → Int32} (ha : ws[q0]? = some (a, .inl (cA, n, .inl f))) (ht : tys[t0]? = some (cA, .char)) {i : Int32} (hout : ¬ vp_in i n) (hdg : decode cc pc = .ok (.caload, 1))
    (k : ∀ tx : String, tx = (toString "Index " ++ toString i ++ toString " out of bounds for length " ++ toString n : String) → vx_Note p l e R s m args below meth c H locs cells slots Q (F0 m pc ls rest) "java/lang/ArrayIndexOutOfBoundsException" tx) : W p l e R s m args below meth c H locs cells slots Q (F0 m pc ls (.int i :: .ref a :: rest)) := by
  intro T hT X
  obtain ⟨t, st, q⟩ := k _ rfl T hT X
  refine ⟨t, ?_, q⟩
  have h1 := X.caloadOut hexec (by rw [hT]; exact hP q0 _ ha) ((hK.2 t0 _ ht).1 n (fun j => .int (f j))) (j := i) (by show (i < 0 ∨ (arrV _ _ _).slots.size ≤ _); rw [arrV_size]; exact Classical.byContradiction hout) (g := F0 m pc ls (.int i :: .ref a :: rest)) rfl (rest := rest) rfl (by rw [hb]; exact hdg) t
  simp only [arrV_size] at h1
  exact h1 st
theorem vx_castZ {D : va_G} {cl : List vw_C} {ws : va_W} {tys : List (ClassId × FieldType)} {a : Nat} (hexec : p.tables.exec = Jvm.exec) (hb : c.code = cc) (hK : va_K D cl tys s) (hP : va_P D cl ws H) (q0 t0 : Nat) {cA : ClassId} {n : Nat} {f : Nat → Int32} (ha : ws[q0]? = some (a, .inl (cA, n, .inl f))) (ht : tys[t0]? = some (cA, .char)) {i : Int32} {x : Int32} (hout : ¬ vp_in i n) (hdg : decode cc pc = .ok (.castore, 1))
    (k : ∀ tx : String, tx = (toString "Index " ++ toString i ++ toString " out of bounds for length " ++ toString n : String) → vx_Note p l e R s m args below meth c H locs cells slots Q (F0 m pc ls rest) "java/lang/ArrayIndexOutOfBoundsException" tx) : W p l e R s m args below meth c H locs cells slots Q (F0 m pc ls (.int x :: .int i :: .ref a :: rest)) := by
  intro T hT X
  obtain ⟨t, st, q⟩ := k _ rfl T hT X
  refine ⟨t, ?_, q⟩
  have h1 := X.castoreOut hexec (by rw [hT]; exact hP q0 _ ha) ((hK.2 t0 _ ht).1 n (fun j => .int (f j))) (j := i) (by show (i < 0 ∨ (arrV _ _ _).slots.size ≤ _); rw [arrV_size]; exact Classical.byContradiction hout) (g := F0 m pc ls (.int x :: .int i :: .ref a :: rest)) rfl (rest := rest) rfl (by rw [hb]; exact hdg) t
  simp only [arrV_size] at h1
  exact h1 st
theorem vx_saldZ {D : va_G} {cl : List vw_C} {ws : va_W} {tys : List (ClassId × FieldType)} {a : Nat} (hexec : p.tables.exec = Jvm.exec) (hb : c.code = cc) (hK : va_K D cl tys s) (hP : va_P D cl ws H) (q0 t0 : Nat) {cA : ClassId} {n : Nat} {f : Nat → Int32} (ha : ws[q0]? = some (a, .inl (cA, n, .inl f))) (ht : tys[t0]? = some (cA, .short)) {i : Int32} (hout : ¬ vp_in i n) (hdg : decode cc pc = .ok (.saload, 1))
    (k : ∀ tx : String, tx = (toString "Index " ++ toString i ++ toString " out of bounds for length " ++ toString n : String) → vx_Note p l e R s m args below meth c H locs cells slots Q (F0 m pc ls rest) "java/lang/ArrayIndexOutOfBoundsException" tx) : W p l e R s m args below meth c H locs cells slots Q (F0 m pc ls (.int i :: .ref a :: rest)) := by
  intro T hT X
  obtain ⟨t, st, q⟩ := k _ rfl T hT X
  refine ⟨t, ?_, q⟩
  have h1 := X.saloadOut hexec (by rw [hT]; exact hP q0 _ ha) ((hK.2 t0 _ ht).1 n (fun j => .int (f j))) (j := i) (by show (i < 0 ∨ (arrV _ _ _).slots.size ≤ _); rw [arrV_size]; exact Classical.byContradiction hout) (g := F0 m pc ls (.int i :: .ref a :: rest)) rfl (rest := rest) rfl (by rw [hb]; exact hdg) t
  simp only [arrV_size] at h1
  exact h1 st
theorem vx_sastZ {D : va_G} {cl : List vw_C} {ws : va_W} {tys : List (ClassId × FieldType)} {a : Nat} (hexec : p.tables.exec = Jvm.exec) (hb : c.code = cc) (hK : va_K D cl tys s) (hP : va_P D cl ws H) (q0 t0 : Nat) {cA : ClassId} {n : Nat} {f : Nat → Int32} (ha : ws[q0]? = some (a, .inl (cA, n, .inl f))) (ht : tys[t0]? = some (cA, .short)) {i : Int32} {x : Int32} (hout : ¬ vp_in i n) (hdg : decode cc pc = .ok (.sastore, 1))
    (k : ∀ tx : String, tx = (toString "Index " ++ toString i ++ toString " out of bounds for length " ++ toString n : String) → vx_Note p l e R s m args below meth c H locs cells slots Q (F0 m pc ls rest) "java/lang/ArrayIndexOutOfBoundsException" tx) : W p l e R s m args below meth c H locs cells slots Q (F0 m pc ls (.int x :: .int i :: .ref a :: rest)) := by
  intro T hT X
  obtain ⟨t, st, q⟩ := k _ rfl T hT X
  refine ⟨t, ?_, q⟩
  have h1 := X.sastoreOut hexec (by rw [hT]; exact hP q0 _ ha) ((hK.2 t0 _ ht).1 n (fun j => .int (f j))) (j := i) (by show (i < 0 ∨ (arrV _ _ _).slots.size ≤ _); rw [arrV_size]; exact Classical.byContradiction hout) (g := F0 m pc ls (.int x :: .int i :: .ref a :: rest)) rfl (rest := rest) rfl (by rw [hb]; exact hdg) t
  simp only [arrV_size] at h1
  exact h1 st
theorem vx_laldZ {D : va_G} {cl : List vw_C} {ws : va_W} {tys : List (ClassId × FieldType)} {a : Nat} (hexec : p.tables.exec = Jvm.exec) (hb : c.code = cc) (hK : va_K D cl tys s) (hP : va_P D cl ws H) (q0 t0 : Nat) {cA : ClassId} {n : Nat} {f : Nat → Int64} (ha : ws[q0]? = some (a, .inl (cA, n, .inr (.inl f)))) (ht : tys[t0]? = some (cA, .long)) {i : Int32} (hout : ¬ vp_in i n) (hdg : decode cc pc = .ok (.laload, 1))
    (k : ∀ tx : String, tx = (toString "Index " ++ toString i ++ toString " out of bounds for length " ++ toString n : String) → vx_Note p l e R s m args below meth c H locs cells slots Q (F0 m pc ls rest) "java/lang/ArrayIndexOutOfBoundsException" tx) : W p l e R s m args below meth c H locs cells slots Q (F0 m pc ls (.int i :: .ref a :: rest)) := by
  intro T hT X
  obtain ⟨t, st, q⟩ := k _ rfl T hT X
  refine ⟨t, ?_, q⟩
  have h1 := X.laloadOut hexec (by rw [hT]; exact hP q0 _ ha) ((hK.2 t0 _ ht).1 n (fun j => .long (f j))) (j := i) (by show (i < 0 ∨ (arrV _ _ _).slots.size ≤ _); rw [arrV_size]; exact Classical.byContradiction hout) (g := F0 m pc ls (.int i :: .ref a :: rest)) rfl (rest := rest) rfl (by rw [hb]; exact hdg) t
  simp only [arrV_size] at h1
  exact h1 st
theorem vx_lastZ {D : va_G} {cl : List vw_C} {ws : va_W} {tys : List (ClassId × FieldType)} {a : Nat} (hexec : p.tables.exec = Jvm.exec) (hb : c.code = cc) (hK : va_K D cl tys s) (hP : va_P D cl ws H) (q0 t0 : Nat) {cA : ClassId} {n : Nat} {f : Nat → Int64} (ha : ws[q0]? = some (a, .inl (cA, n, .inr (.inl f)))) (ht : tys[t0]? = some (cA, .long)) {i : Int32} {x : Int64} (hout : ¬ vp_in i n) (hdg : decode cc pc = .ok (.lastore, 1))
    (k : ∀ tx : String, tx = (toString "Index " ++ toString i ++ toString " out of bounds for length " ++ toString n : String) → vx_Note p l e R s m args below meth c H locs cells slots Q (F0 m pc ls rest) "java/lang/ArrayIndexOutOfBoundsException" tx) : W p l e R s m args below meth c H locs cells slots Q (F0 m pc ls (.long x :: .int i :: .ref a :: rest)) := by
  intro T hT X
  obtain ⟨t, st, q⟩ := k _ rfl T hT X
  refine ⟨t, ?_, q⟩
  have h1 := X.lastoreOut hexec (by rw [hT]; exact hP q0 _ ha) ((hK.2 t0 _ ht).1 n (fun j => .long (f j))) (j := i) (by show (i < 0 ∨ (arrV _ _ _).slots.size ≤ _); rw [arrV_size]; exact Classical.byContradiction hout) (g := F0 m pc ls (.long x :: .int i :: .ref a :: rest)) rfl (rest := rest) rfl (by rw [hb]; exact hdg) t
  simp only [arrV_size] at h1
  exact h1 st
theorem vx_faldZ {D : va_G} {cl : List vw_C} {ws : va_W} {tys : List (ClassId × FieldType)} {a : Nat} (hexec : p.tables.exec = Jvm.exec) (hb : c.code = cc) (hK : va_K D cl tys s) (hP : va_P D cl ws H) (q0 t0 : Nat) {cA : ClassId} {n : Nat} {f : Nat → UInt32} (ha : ws[q0]? = some (a, .inl (cA, n, .inr (.inr (.inl f))))) (ht : tys[t0]? = some (cA, .float)) {i : Int32} (hout : ¬ vp_in i n) (hdg : decode cc pc = .ok (.faload, 1))
    (k : ∀ tx : String, tx = (toString "Index " ++ toString i ++ toString " out of bounds for length " ++ toString n : String) → vx_Note p l e R s m args below meth c H locs cells slots Q (F0 m pc ls rest) "java/lang/ArrayIndexOutOfBoundsException" tx) : W p l e R s m args below meth c H locs cells slots Q (F0 m pc ls (.int i :: .ref a :: rest)) := by
  intro T hT X
  obtain ⟨t, st, q⟩ := k _ rfl T hT X
  refine ⟨t, ?_, q⟩
  have h1 := X.faloadOut hexec (by rw [hT]; exact hP q0 _ ha) ((hK.2 t0 _ ht).1 n (fun j => .float (f j))) (j := i) (by show (i < 0 ∨ (arrV _ _ _).slots.size ≤ _); rw [arrV_size]; exact Classical.byContradiction hout) (g := F0 m pc ls (.int i :: .ref a :: rest)) rfl (rest := rest) rfl (by rw [hb]; exact hdg) t
  simp only [arrV_size] at h1
  exact h1 st
theorem vx_fastZ {D : va_G} {cl : List vw_C} {ws : va_W} {tys : List (ClassId × FieldType)} {a : Nat} (hexec : p.tables.exec = Jvm.exec) (hb : c.code = cc) (hK : va_K D cl tys s) (hP : va_P D cl ws H) (q0 t0 : Nat) {cA : ClassId} {n : Nat} {f : Nat → UInt32} (ha : ws[q0]? = some (a, .inl (cA, n, .inr (.inr (.inl f))))) (ht : tys[t0]? = some (cA, .float)) {i : Int32} {x : UInt32} (hout : ¬ vp_in i n) (hdg : decode cc pc = .ok (.fastore, 1))
    (k : ∀ tx : String, tx = (toString "Index " ++ toString i ++ toString " out of bounds for length " ++ toString n : String) → vx_Note p l e R s m args below meth c H locs cells slots Q (F0 m pc ls rest) "java/lang/ArrayIndexOutOfBoundsException" tx) : W p l e R s m args below meth c H locs cells slots Q (F0 m pc ls (.float x :: .int i :: .ref a :: rest)) := by
  intro T hT X
  obtain ⟨t, st, q⟩ := k _ rfl T hT X
  refine ⟨t, ?_, q⟩
  have h1 := X.fastoreOut hexec (by rw [hT]; exact hP q0 _ ha) ((hK.2 t0 _ ht).1 n (fun j => .float (f j))) (j := i) (by show (i < 0 ∨ (arrV _ _ _).slots.size ≤ _); rw [arrV_size]; exact Classical.byContradiction hout) (g := F0 m pc ls (.float x :: .int i :: .ref a :: rest)) rfl (rest := rest) rfl (by rw [hb]; exact hdg) t
  simp only [arrV_size] at h1
  exact h1 st
theorem vx_daldZ {D : va_G} {cl : List vw_C} {ws : va_W} {tys : List (ClassId × FieldType)} {a : Nat} (hexec : p.tables.exec = Jvm.exec) (hb : c.code = cc) (hK : va_K D cl tys s) (hP : va_P D cl ws H) (q0 t0 : Nat) {cA : ClassId} {n : Nat} {f : Nat → UInt64} (ha : ws[q0]? = some (a, .inl (cA, n, .inr (.inr (.inr (.inl f)))))) (ht : tys[t0]? = some (cA, .double)) {i : Int32} (hout : ¬ vp_in i n) (hdg : decode cc pc = .ok (.daload, 1))
    (k : ∀ tx : String, tx = (toString "Index " ++ toString i ++ toString " out of bounds for length " ++ toString n : String) → vx_Note p l e R s m args below meth c H locs cells slots Q (F0 m pc ls rest) "java/lang/ArrayIndexOutOfBoundsException" tx) : W p l e R s m args below meth c H locs cells slots Q (F0 m pc ls (.int i :: .ref a :: rest)) := by
  intro T hT X
  obtain ⟨t, st, q⟩ := k _ rfl T hT X
  refine ⟨t, ?_, q⟩
  have h1 := X.daloadOut hexec (by rw [hT]; exact hP q0 _ ha) ((hK.2 t0 _ ht).1 n (fun j => .double (f j))) (j := i) (by show (i < 0 ∨ (arrV _ _ _).slots.size ≤ _); rw [arrV_size]; exact Classical.byContradiction hout) (g := F0 m pc ls (.int i :: .ref a :: rest)) rfl (rest := rest) rfl (by rw [hb]; exact hdg) t
  simp only [arrV_size] at h1
  exact h1 st
theorem vx_dastZ {D : va_G} {cl : List vw_C} {ws : va_W} {tys : List (ClassId × FieldType)} {a : Nat} (hexec : p.tables.exec = Jvm.exec) (hb : c.code = cc) (hK : va_K D cl tys s) (hP : va_P D cl ws H) (q0 t0 : Nat) {cA : ClassId} {n : Nat} {f : Nat → UInt64} (ha : ws[q0]? = some (a, .inl (cA, n, .inr (.inr (.inr (.inl f)))))) (ht : tys[t0]? = some (cA, .double)) {i : Int32} {x : UInt64} (hout : ¬ vp_in i n) (hdg : decode cc pc = .ok (.dastore, 1))
    (k : ∀ tx : String, tx = (toString "Index " ++ toString i ++ toString " out of bounds for length " ++ toString n : String) → vx_Note p l e R s m args below meth c H locs cells slots Q (F0 m pc ls rest) "java/lang/ArrayIndexOutOfBoundsException" tx) : W p l e R s m args below meth c H locs cells slots Q (F0 m pc ls (.double x :: .int i :: .ref a :: rest)) := by
  intro T hT X
  obtain ⟨t, st, q⟩ := k _ rfl T hT X
  refine ⟨t, ?_, q⟩
  have h1 := X.dastoreOut hexec (by rw [hT]; exact hP q0 _ ha) ((hK.2 t0 _ ht).1 n (fun j => .double (f j))) (j := i) (by show (i < 0 ∨ (arrV _ _ _).slots.size ≤ _); rw [arrV_size]; exact Classical.byContradiction hout) (g := F0 m pc ls (.double x :: .int i :: .ref a :: rest)) rfl (rest := rest) rfl (by rw [hb]; exact hdg) t
  simp only [arrV_size] at h1
  exact h1 st
theorem vx_arraylengthN (hexec : p.tables.exec = Jvm.exec) (hb : c.code = cc) (hdg : decode cc pc = .ok (.arraylength, 1)) (k : vx_NoteN p l e R s m args below meth c H locs cells slots Q (F0 m pc ls rest)) : W p l e R s m args below meth c H locs cells slots Q (F0 m pc ls (.null :: rest)) := by
  intro T hT X
  obtain ⟨t, st, q⟩ := k T hT X
  exact ⟨t, X.arraylengthNull hexec (g := F0 m pc ls (.null :: rest)) rfl (rest := rest) rfl (by rw [hb]; exact hdg) t st, q⟩
theorem vx_ialoadN (hexec : p.tables.exec = Jvm.exec) (hb : c.code = cc) {i : Int32} (hdg : decode cc pc = .ok (.iaload, 1)) (k : vx_NoteN p l e R s m args below meth c H locs cells slots Q (F0 m pc ls rest)) : W p l e R s m args below meth c H locs cells slots Q (F0 m pc ls (.int i :: .null :: rest)) := by
  intro T hT X
  obtain ⟨t, st, q⟩ := k T hT X
  exact ⟨t, X.ialoadNull hexec (g := F0 m pc ls (.int i :: .null :: rest)) rfl (rest := rest) rfl (by rw [hb]; exact hdg) t st, q⟩
theorem vx_laloadN (hexec : p.tables.exec = Jvm.exec) (hb : c.code = cc) {i : Int32} (hdg : decode cc pc = .ok (.laload, 1)) (k : vx_NoteN p l e R s m args below meth c H locs cells slots Q (F0 m pc ls rest)) : W p l e R s m args below meth c H locs cells slots Q (F0 m pc ls (.int i :: .null :: rest)) := by
  intro T hT X
  obtain ⟨t, st, q⟩ := k T hT X
  exact ⟨t, X.laloadNull hexec (g := F0 m pc ls (.int i :: .null :: rest)) rfl (rest := rest) rfl (by rw [hb]; exact hdg) t st, q⟩
theorem vx_faloadN (hexec : p.tables.exec = Jvm.exec) (hb : c.code = cc) {i : Int32} (hdg : decode cc pc = .ok (.faload, 1)) (k : vx_NoteN p l e R s m args below meth c H locs cells slots Q (F0 m pc ls rest)) : W p l e R s m args below meth c H locs cells slots Q (F0 m pc ls (.int i :: .null :: rest)) := by
  intro T hT X
  obtain ⟨t, st, q⟩ := k T hT X
  exact ⟨t, X.faloadNull hexec (g := F0 m pc ls (.int i :: .null :: rest)) rfl (rest := rest) rfl (by rw [hb]; exact hdg) t st, q⟩
theorem vx_daloadN (hexec : p.tables.exec = Jvm.exec) (hb : c.code = cc) {i : Int32} (hdg : decode cc pc = .ok (.daload, 1)) (k : vx_NoteN p l e R s m args below meth c H locs cells slots Q (F0 m pc ls rest)) : W p l e R s m args below meth c H locs cells slots Q (F0 m pc ls (.int i :: .null :: rest)) := by
  intro T hT X
  obtain ⟨t, st, q⟩ := k T hT X
  exact ⟨t, X.daloadNull hexec (g := F0 m pc ls (.int i :: .null :: rest)) rfl (rest := rest) rfl (by rw [hb]; exact hdg) t st, q⟩
theorem vx_aaloadN (hexec : p.tables.exec = Jvm.exec) (hb : c.code = cc) {i : Int32} (hdg : decode cc pc = .ok (.aaload, 1)) (k : vx_NoteN p l e R s m args below meth c H locs cells slots Q (F0 m pc ls rest)) : W p l e R s m args below meth c H locs cells slots Q (F0 m pc ls (.int i :: .null :: rest)) := by
  intro T hT X
  obtain ⟨t, st, q⟩ := k T hT X
  exact ⟨t, X.aaloadNull hexec (g := F0 m pc ls (.int i :: .null :: rest)) rfl (rest := rest) rfl (by rw [hb]; exact hdg) t st, q⟩
theorem vx_baloadN (hexec : p.tables.exec = Jvm.exec) (hb : c.code = cc) {i : Int32} (hdg : decode cc pc = .ok (.baload, 1)) (k : vx_NoteN p l e R s m args below meth c H locs cells slots Q (F0 m pc ls rest)) : W p l e R s m args below meth c H locs cells slots Q (F0 m pc ls (.int i :: .null :: rest)) := by
  intro T hT X
  obtain ⟨t, st, q⟩ := k T hT X
  exact ⟨t, X.baloadNull hexec (g := F0 m pc ls (.int i :: .null :: rest)) rfl (rest := rest) rfl (by rw [hb]; exact hdg) t st, q⟩
theorem vx_caloadN (hexec : p.tables.exec = Jvm.exec) (hb : c.code = cc) {i : Int32} (hdg : decode cc pc = .ok (.caload, 1)) (k : vx_NoteN p l e R s m args below meth c H locs cells slots Q (F0 m pc ls rest)) : W p l e R s m args below meth c H locs cells slots Q (F0 m pc ls (.int i :: .null :: rest)) := by
  intro T hT X
  obtain ⟨t, st, q⟩ := k T hT X
  exact ⟨t, X.caloadNull hexec (g := F0 m pc ls (.int i :: .null :: rest)) rfl (rest := rest) rfl (by rw [hb]; exact hdg) t st, q⟩
theorem vx_saloadN (hexec : p.tables.exec = Jvm.exec) (hb : c.code = cc) {i : Int32} (hdg : decode cc pc = .ok (.saload, 1)) (k : vx_NoteN p l e R s m args below meth c H locs cells slots Q (F0 m pc ls rest)) : W p l e R s m args below meth c H locs cells slots Q (F0 m pc ls (.int i :: .null :: rest)) := by
  intro T hT X
  obtain ⟨t, st, q⟩ := k T hT X
  exact ⟨t, X.saloadNull hexec (g := F0 m pc ls (.int i :: .null :: rest)) rfl (rest := rest) rfl (by rw [hb]; exact hdg) t st, q⟩
theorem vx_iastoreN (hexec : p.tables.exec = Jvm.exec) (hb : c.code = cc) {x : Int32} {i : Int32} (hdg : decode cc pc = .ok (.iastore, 1)) (k : vx_NoteN p l e R s m args below meth c H locs cells slots Q (F0 m pc ls rest)) : W p l e R s m args below meth c H locs cells slots Q (F0 m pc ls (.int x :: .int i :: .null :: rest)) := by
  intro T hT X
  obtain ⟨t, st, q⟩ := k T hT X
  exact ⟨t, X.iastoreNull hexec (g := F0 m pc ls (.int x :: .int i :: .null :: rest)) rfl (rest := rest) rfl (by rw [hb]; exact hdg) t st, q⟩
theorem vx_lastoreN (hexec : p.tables.exec = Jvm.exec) (hb : c.code = cc) {x : Int64} {i : Int32} (hdg : decode cc pc = .ok (.lastore, 1)) (k : vx_NoteN p l e R s m args below meth c H locs cells slots Q (F0 m pc ls rest)) : W p l e R s m args below meth c H locs cells slots Q (F0 m pc ls (.long x :: .int i :: .null :: rest)) := by
  intro T hT X
  obtain ⟨t, st, q⟩ := k T hT X
  exact ⟨t, X.lastoreNull hexec (g := F0 m pc ls (.long x :: .int i :: .null :: rest)) rfl (rest := rest) rfl (by rw [hb]; exact hdg) t st, q⟩
theorem vx_fastoreN (hexec : p.tables.exec = Jvm.exec) (hb : c.code = cc) {x : UInt32} {i : Int32} (hdg : decode cc pc = .ok (.fastore, 1)) (k : vx_NoteN p l e R s m args below meth c H locs cells slots Q (F0 m pc ls rest)) : W p l e R s m args below meth c H locs cells slots Q (F0 m pc ls (.float x :: .int i :: .null :: rest)) := by
  intro T hT X
  obtain ⟨t, st, q⟩ := k T hT X
  exact ⟨t, X.fastoreNull hexec (g := F0 m pc ls (.float x :: .int i :: .null :: rest)) rfl (rest := rest) rfl (by rw [hb]; exact hdg) t st, q⟩
theorem vx_dastoreN (hexec : p.tables.exec = Jvm.exec) (hb : c.code = cc) {x : UInt64} {i : Int32} (hdg : decode cc pc = .ok (.dastore, 1)) (k : vx_NoteN p l e R s m args below meth c H locs cells slots Q (F0 m pc ls rest)) : W p l e R s m args below meth c H locs cells slots Q (F0 m pc ls (.double x :: .int i :: .null :: rest)) := by
  intro T hT X
  obtain ⟨t, st, q⟩ := k T hT X
  exact ⟨t, X.dastoreNull hexec (g := F0 m pc ls (.double x :: .int i :: .null :: rest)) rfl (rest := rest) rfl (by rw [hb]; exact hdg) t st, q⟩
theorem vx_bastoreN (hexec : p.tables.exec = Jvm.exec) (hb : c.code = cc) {x : Int32} {i : Int32} (hdg : decode cc pc = .ok (.bastore, 1)) (k : vx_NoteN p l e R s m args below meth c H locs cells slots Q (F0 m pc ls rest)) : W p l e R s m args below meth c H locs cells slots Q (F0 m pc ls (.int x :: .int i :: .null :: rest)) := by
  intro T hT X
  obtain ⟨t, st, q⟩ := k T hT X
  exact ⟨t, X.bastoreNull hexec (g := F0 m pc ls (.int x :: .int i :: .null :: rest)) rfl (rest := rest) rfl (by rw [hb]; exact hdg) t st, q⟩
theorem vx_castoreN (hexec : p.tables.exec = Jvm.exec) (hb : c.code = cc) {x : Int32} {i : Int32} (hdg : decode cc pc = .ok (.castore, 1)) (k : vx_NoteN p l e R s m args below meth c H locs cells slots Q (F0 m pc ls rest)) : W p l e R s m args below meth c H locs cells slots Q (F0 m pc ls (.int x :: .int i :: .null :: rest)) := by
  intro T hT X
  obtain ⟨t, st, q⟩ := k T hT X
  exact ⟨t, X.castoreNull hexec (g := F0 m pc ls (.int x :: .int i :: .null :: rest)) rfl (rest := rest) rfl (by rw [hb]; exact hdg) t st, q⟩
theorem vx_sastoreN (hexec : p.tables.exec = Jvm.exec) (hb : c.code = cc) {x : Int32} {i : Int32} (hdg : decode cc pc = .ok (.sastore, 1)) (k : vx_NoteN p l e R s m args below meth c H locs cells slots Q (F0 m pc ls rest)) : W p l e R s m args below meth c H locs cells slots Q (F0 m pc ls (.int x :: .int i :: .null :: rest)) := by
  intro T hT X
  obtain ⟨t, st, q⟩ := k T hT X
  exact ⟨t, X.sastoreNull hexec (g := F0 m pc ls (.int x :: .int i :: .null :: rest)) rfl (rest := rest) rfl (by rw [hb]; exact hdg) t st, q⟩
theorem vx_invokeN {own C : String} {index maxL : Nat} {y : MethodName} {bytes : ByteArray} {ret : Option FieldType} (hexec : p.tables.exec = Jvm.exec) (hb : c.code = cc) (hown : s.vm.findClass own = some m.cls) (hlink : (Cond.methodLink own index y).before args s = true) (hinst : (Cond.instanceMethod y).before args s = true) (hcode : (Cond.code y bytes maxL ret).before args s = true) (hsel : (Cond.selects C y y).before args s = true)
    (hx : y.cls ≠ "java/lang/invoke/MethodHandle" ∧ y.cls ≠ "java/lang/invoke/VarHandle") {As : List Value} (hlen : (parseMethodDescriptor y.desc).map (fun d => d.parameters.length) = some As.length) (hdg : decode cc pc = .ok (.invokevirtual index, 3))
    (k : vx_NoteN p l e R s m args below meth c H locs cells slots Q (F0 m pc ls rest)) {st0 : List Value} (hst : st0 = As.reverse ++ .null :: rest) : W p l e R s m args below meth c H locs cells slots Q (F0 m pc ls st0) := by
  intro T hT X
  obtain ⟨r0, r, hn, hrm, hstR, hsigR⟩ := va_Decl.of hinst hcode
  obtain ⟨c2, r2, m2, q1, q2, q3, q4, kP, hkP, hkPi⟩ := Cond.selects_spec hsel
  cases hn.symm.trans q3
  have hl9 : As.length = r.sig.parameters.length := by
    rw [hsigR] at hlen
    exact (Option.some.inj hlen).symm
  obtain ⟨vm', X1, st1⟩ := X.invokevirtualNull hexec hown hlink hn hrm hstR hkP hkPi hx (g := F0 m pc ls st0) rfl (argsL := As) (rest := rest) hl9 hst (by rw [hb]; exact hdg)
  obtain ⟨t, st, q⟩ := k (T.setVm vm') hT X1
  exact ⟨t, st1 t st, q⟩
theorem vx_newarrayZ {atype : ArrayType} (hexec : p.tables.exec = Jvm.exec) (hb : c.code = cc) {n : Int32} (h0 : n < 0) (hdg : decode cc pc = .ok (.newarray atype, 2)) (k : ∀ tx : String, tx = toString n → vx_Note p l e R s m args below meth c H locs cells slots Q (F0 m pc ls rest) "java/lang/NegativeArraySizeException" tx) : W p l e R s m args below meth c H locs cells slots Q (F0 m pc ls (.int n :: rest)) := by
  intro T hT X
  obtain ⟨t, st, q⟩ := k _ rfl T hT X
  exact ⟨t, X.newarrayNegative hexec (g := F0 m pc ls (.int n :: rest)) rfl h0 (rest := rest) rfl (by rw [hb]; exact hdg) t st, q⟩
end
end VXM
/-! ===== END ===== -/
/-! ===== BEGIN an exception as an object: made, kept, thrown later (no traces kept) ===== -/
section VXK
variable {p : Program} {l : Launch} {e : Env} {R : Room} {s : State} {m₀ : MethodId} {args : Array Value} {below : List Frame} {meth : Method} {c : Code} {W : State} {locs : List Loc} {cells slots : Nat}
set_option maxHeartbeats 1000000 in
theorem vx_ctorMadeS (X : Stand p l e R s m₀ args below meth c W locs cells slots) (hexec : p.tables.exec = Jvm.exec) (htr : e.platform.stackTraces = false) {own cls : String} {names : List String} {ic : Nat}
    (hown : s.vm.findClass own = some m₀.cls) (hcls : Bundle.fit cls = true) (hnames : ∀ n ∈ names, Bundle.fit n = true)
    (h : ∀ a ∈ Bundle.ownAtoms own ic cls names, a.before args s = true)
    (hlocs : ∀ x ∈ locs, ∀ cell, s.heap[x.base]? = some cell → cell.vm.isStatics = false)
    {a : Addr} {cX : ClassId} {kX : Class} (hfoundX : s.vm.findClass cls = some cX) (hkX : s.vm.classes[cX]? = some kX) (hcell : W.heap[a]? = some (freshCell cX kX)) (hnew : s.heap.size ≤ a)
    {msg : Value} (hmsg : msg.isRef = true)
    {g : JFrame} (hg : g.method = m₀) (hsize : g.locals.size = c.maxLocals) {rest : List Value} (hstack : g.stack = msg :: .ref a :: .ref a :: rest)
    (hd6 : decode c.code g.pc = .ok (.invokespecial ic, 3))
    (hRframes : names.length + 3 < R.frames) (hRlocals : 2 * g.monitorRoom + ((Value.ref a :: rest).map fun v => v.category).sum + (13 * (names.length + 1) + 42) ≤ R.locals) :
    ∃ (V : State) (ce : Cell) (L : List Loc), Stand p l e R s m₀ args below meth c (V.setCell a ce) (locs ++ L) cells slots ∧ (∀ y ∈ L, y.base = a) ∧ a < V.heap.size ∧ ce.cls = cX ∧ ce.vm = .none ∧
      ∀ target, Steps p.tables e below ((V.setCell a ce).setTop { g with stack := .ref a :: rest, pc := g.pc + 3 }) target → Steps p.tables e below (W.setTop g) target := by
  have howns : e.platform.frameOwnsMonitors = true := by rw [X.admits.platform]
  have hfin : e.platform.finalization = false := by rw [X.admits.platform]
  have hpl : e.platform.magicAccessors = ({} : Platform).magicAccessors := by rw [X.admits.platform]
  have a' : ∀ x, x ∈ Bundle.ownAtoms own ic cls names → x.holds args s none s [] = true := fun x hx => h x hx
  obtain ⟨T, Z0, L, -, Y⟩ := ThrowableC.of_atoms (args := args) howns hfin hpl (fun x hx => h x (by simp [Bundle.ownAtoms, hx]))
  obtain ⟨Z, M, LZ, LM, hnZ⟩ := Init0T.ofS_atoms (args := args) hpl L Y (fun x hx => h x (by simp [Bundle.ownAtoms, hx]))
  obtain ⟨P1, Ps, hlen, L1, hL, hP1m, hlink1, hlink⟩ := Bundle.chainS (args := args) hpl hnZ names cls hcls hnames (fun x hx => h x (by simp [Bundle.ownAtoms, hx]))
  have hfound : s.vm.findClass cls = some P1.m.cls := findClass_of_methodNamed hP1m
  cases Option.some.inj (hfoundX.symm.trans hfound)
  obtain ⟨c1, kX', hc1, hk, hord, -, -, hn6⟩ := Cond.instantiable_spec (a' (.instantiable cls 6) (by simp [Bundle.ownAtoms]))
  cases Option.some.inj (hc1.symm.trans hfound)
  cases Option.some.inj (hkX.symm.trans hk)
  have hsel0 : selectMethod e.platform s.vm P1.m.cls T.fill0 = .method T.fill0 := by
    obtain ⟨c2, r2, m2, q1, q2, q3, q4, -⟩ := Cond.selects_spec (a' (.selects cls Bundle.tFill0 Bundle.tFill0) (by simp [Bundle.ownAtoms]))
    cases Option.some.inj (q1.symm.trans hfound)
    cases Option.some.inj (q2.symm.trans (State.methodFound?_of_named Y.fill0 (by decide)))
    cases Option.some.inj (q3.symm.trans Y.fill0)
    rw [Launch.admits_selectMethod X.admits]; exact q4
  have hselF : selectMethod e.platform s.vm P1.m.cls T.fill = .method T.fill := by
    obtain ⟨c2, r2, m2, q1, q2, q3, q4, -⟩ := Cond.selects_spec (a' (.selects cls Bundle.tFill Bundle.tFill) (by simp [Bundle.ownAtoms]))
    cases Option.some.inj (q1.symm.trans hfound)
    cases Option.some.inj (q2.symm.trans (State.methodFound?_of_named Y.fill (by decide)))
    cases Option.some.inj (q3.symm.trans Y.fill)
    rw [Launch.admits_selectMethod X.admits]; exact q4
  obtain ⟨cellS0, hcS0, hiss⟩ := Y.statics
  obtain ⟨u0, hu0⟩ := Cond.staticRefV Y.unassigned L.unassignedStatic L.statics hcS0 hiss (a' (.isRef (.static Bundle.tN "UNASSIGNED_STACK" Bundle.steD)) (by simp [Bundle.ownAtoms]))
  obtain ⟨sen, hsen⟩ := Cond.staticRefV Y.sentinel L.sentinelStatic L.statics hcS0 hiss (a' (.isRef (.static Bundle.tN "SUPPRESSED_SENTINEL" Bundle.listD)) (by simp [Bundle.ownAtoms]))
  obtain ⟨ci198, i198, fB, hk198, hg198, ha198, hsB, -, hnB, htB, hffB⟩ := Cond.ownField (t := .object "java/lang/Object") Y.found L.cls (by decide +kernel) (a' (.fieldLink Bundle.tN 198 Bundle.tN "backtrace" "Ljava/lang/Object;") (by simp [Bundle.ownAtoms])) (a' (.lays Bundle.tN Bundle.tN "backtrace" "Ljava/lang/Object;") (by simp [Bundle.ownAtoms])) e.platform hpl
  obtain ⟨cellS, hcS', heS, -, hkeep⟩ := X.same.2.2.2.2.2 T.aS cellS0 hcS0
  have hcellS : W.heap[T.aS]? = some cellS := hcS'
  have hout' : ∀ i, (⟨T.aS, i⟩ : Loc) ∉ locs := fun i hmem => by
    have := hlocs _ hmem cellS0 hcS0
    rw [hiss] at this; cases this
  have hknownS : cellS.vm ≠ .unknown := by
    rw [heS]; intro hu
    rw [show cellS0.vm = .unknown from hu] at hiss
    cases hiss
  have hneS : T.aS ≠ a := Nat.ne_of_lt (Nat.lt_of_lt_of_le (Array.getElem?_eq_some_iff.mp hcS0).1 hnew)
  obtain ⟨iM, hffM⟩ := Y.msg
  obtain ⟨tyC, dC, hdC, hdnC⟩ := Cond.laysAt hfound hk Y.cause (a' (.lays cls Bundle.tN "cause" "Ljava/lang/Throwable;") (by simp [Bundle.ownAtoms]))
  obtain ⟨tyS, dS, hdS, hdnS⟩ := Cond.laysAt hfound hk Y.stack (a' (.lays cls Bundle.tN "stackTrace" Bundle.steD) (by simp [Bundle.ownAtoms]))
  obtain ⟨tyP, dP, hdP, hdnP⟩ := Cond.laysAt hfound hk Y.supp (a' (.lays cls Bundle.tN "suppressedExceptions" Bundle.listD) (by simp [Bundle.ownAtoms]))
  obtain ⟨tyM, dM, hdM, hdnM⟩ := Cond.laysAt hfound hk hffM (a' (.lays cls Bundle.tN "detailMessage" "Ljava/lang/String;") (by simp [Bundle.ownAtoms]))
  obtain ⟨tyB, dB, hdB, hdnB⟩ := Cond.laysAt hfound hk hffB (a' (.lays cls Bundle.tN "backtrace" "Ljava/lang/Object;") (by simp [Bundle.ownAtoms]))
  have bC := Cond.laysApart hdB hdC hdnB hdnC (by rw [hnB, Y.causeName]; decide)
  have bS := Cond.laysApart hdB hdS hdnB hdnS (by rw [hnB, Y.stackName]; decide)
  have bP := Cond.laysApart hdB hdP hdnB hdnP (by rw [hnB, Y.suppName]; decide)
  have hskip : SkipFacts T e.platform s (fun u => u) u0 ((preparedCellV T.toThrowableT (freshCell P1.m.cls kX) a u0 sen).withEntry W.cur) :=
    ⟨{ ci198 := ci198, i198 := i198, fBack := fB }, ⟨hk198, hg198, ha198, hsB⟩, by
      have := fresh_default (c := P1.m.cls) tyB
      rw [htB] at this
      simpa [preparedCellV, Cell.setSlot, Cell.withEntry, Array.getElem?_setIfInBounds, bC, bS, bP, bC.symm, bS.symm, bP.symm, defaultValue] using this, fun _ _ => rfl⟩
  obtain ⟨tm, methC, cdC, kC, vm₁, hnC, -, -, -, -, -, -, -, hW₁, st1⟩ := Steps.initColdS (tb := p.tables) (e := e) (below := below) (s := s) (U := W) X.here hexec X.warmed hpl hown (t := Bundle.initS cls) rfl rfl (Bundle.fit_spec hcls).2
    (a' (.methodLink own ic (Bundle.initS cls)) (by simp [Bundle.ownAtoms])) (h (.instanceMethod (Bundle.initS cls)) (by cases names <;> simp [Bundle.ownAtoms, Bundle.chainSAtoms, Bundle.passSAtoms])) (bytes := Bundle.six) (maxL := 2) (h (.code (Bundle.initS cls) Bundle.six 2 none) (by cases names <;> simp [Bundle.ownAtoms, Bundle.chainSAtoms, Bundle.passSAtoms]))
    (f := g) hg (a := a) (msg := msg) (rest := .ref a :: rest) hstack hd6
  cases Option.some.inj (hnC.symm.trans hP1m)
  have X₁ := X.noted hW₁
  obtain ⟨vm₂, X₂, st2⟩ := X₁.ctorMessageOffV hexec (g := { g with stack := .ref a :: rest }) hg hsize T L Z LZ M LM (P1 :: Ps)
    (fun P hP => by rcases List.mem_cons.mp hP with rfl | hP; exact L1; exact hL P hP) ⟨hlink1, hlink⟩ (u0 := u0) (sen := sen) (self := a) hmsg (cell := freshCell P1.m.cls kX) (cellS := cellS)
    hcell (fun _ => by simp) (by simp) rfl rfl hsel0 hselF hcellS hneS hknownS (by rw [hkeep _ (hout' _)]; exact hu0) (by rw [hkeep _ (hout' _)]; exact hsen)
    (Takes.of_laid hk hord tyC (by rw [Y.causeType]; rfl)) (Takes.of_laid hk hord tyS (by rw [Y.stackType]; exact fits_refV_array _ u0)) (Takes.of_laid hk hord tyP (by rw [Y.suppType]; exact fits_refV_object _ sen))
    (Takes.of_laid hk hord tyM (by rw [Y.msgType]; exact fits_refV_object _ ⟨msg, hmsg⟩)) Y.objLocals hskip htr [] hd6
    (by simp only [List.length_cons, hlen]; omega) (by simp only [List.length_cons, hlen]; exact hRlocals)
  have hlt : a < ((W.setVm vm₁).setVm vm₂).heap.size := (Array.getElem?_eq_some_iff.mp hcell).1
  refine ⟨(W.setVm vm₁).setVm vm₂, _, _, X₂, fun y hy => ?_, hlt, rfl, rfl, fun target hwalk => st1 _ (fun acts => ?_)⟩
  · simp only [List.mem_cons, List.not_mem_nil, or_false] at hy
    rcases hy with rfl | rfl | rfl | rfl | rfl <;> rfl
  · rw [doInvoke_state]
    exact st2 _ hwalk
set_option maxHeartbeats 1000000 in
theorem vx_ctorMade0 (X : Stand p l e R s m₀ args below meth c W locs cells slots) (hexec : p.tables.exec = Jvm.exec) (htr : e.platform.stackTraces = false) {own cls : String} {names : List String} {ic : Nat}
    (hown : s.vm.findClass own = some m₀.cls) (hcls : Bundle.fit cls = true) (hnames : ∀ n ∈ names, Bundle.fit n = true)
    (h : ∀ a ∈ Bundle.ownAtoms0 own ic cls names, a.before args s = true)
    (hlocs : ∀ x ∈ locs, ∀ cell, s.heap[x.base]? = some cell → cell.vm.isStatics = false)
    {a : Addr} {cX : ClassId} {kX : Class} (hfoundX : s.vm.findClass cls = some cX) (hkX : s.vm.classes[cX]? = some kX) (hcell : W.heap[a]? = some (freshCell cX kX)) (hnew : s.heap.size ≤ a)
    {g : JFrame} (hg : g.method = m₀) (hsize : g.locals.size = c.maxLocals) {rest : List Value} (hstack : g.stack = .ref a :: .ref a :: rest)
    (hd6 : decode c.code g.pc = .ok (.invokespecial ic, 3))
    (hRframes : names.length + 3 < R.frames) (hRlocals : 2 * g.monitorRoom + ((Value.ref a :: rest).map fun v => v.category).sum + (13 * (names.length + 1) + 41) ≤ R.locals) :
    ∃ (V : State) (ce : Cell) (L : List Loc), Stand p l e R s m₀ args below meth c (V.setCell a ce) (locs ++ L) cells slots ∧ (∀ y ∈ L, y.base = a) ∧ a < V.heap.size ∧ ce.cls = cX ∧ ce.vm = .none ∧
      ∀ target, Steps p.tables e below ((V.setCell a ce).setTop { g with stack := .ref a :: rest, pc := g.pc + 3 }) target → Steps p.tables e below (W.setTop g) target := by
  have howns : e.platform.frameOwnsMonitors = true := by rw [X.admits.platform]
  have hfin : e.platform.finalization = false := by rw [X.admits.platform]
  have hpl : e.platform.magicAccessors = ({} : Platform).magicAccessors := by rw [X.admits.platform]
  have a' : ∀ x, x ∈ Bundle.ownAtoms0 own ic cls names → x.holds args s none s [] = true := fun x hx => h x hx
  obtain ⟨T, Z, L, LZ, Y⟩ := ThrowableC.of_atoms (args := args) howns hfin hpl (fun x hx => h x (by simp [Bundle.ownAtoms0, hx]))
  obtain ⟨P1, Ps, hlen, L1, hL, hP1m, hlink1, hlink⟩ := Bundle.chain0 (args := args) hpl Y.init0 names cls hcls hnames (fun x hx => h x (by simp [Bundle.ownAtoms0, hx]))
  have hfound : s.vm.findClass cls = some P1.m.cls := findClass_of_methodNamed hP1m
  cases Option.some.inj (hfoundX.symm.trans hfound)
  obtain ⟨c1, kX', hc1, hk, hord, -, -, hn6⟩ := Cond.instantiable_spec (a' (.instantiable cls 6) (by simp [Bundle.ownAtoms0]))
  cases Option.some.inj (hc1.symm.trans hfound)
  cases Option.some.inj (hkX.symm.trans hk)
  have hsel0 : selectMethod e.platform s.vm P1.m.cls T.fill0 = .method T.fill0 := by
    obtain ⟨c2, r2, m2, q1, q2, q3, q4, -⟩ := Cond.selects_spec (a' (.selects cls Bundle.tFill0 Bundle.tFill0) (by simp [Bundle.ownAtoms0]))
    cases Option.some.inj (q1.symm.trans hfound)
    cases Option.some.inj (q2.symm.trans (State.methodFound?_of_named Y.fill0 (by decide)))
    cases Option.some.inj (q3.symm.trans Y.fill0)
    rw [Launch.admits_selectMethod X.admits]; exact q4
  have hselF : selectMethod e.platform s.vm P1.m.cls T.fill = .method T.fill := by
    obtain ⟨c2, r2, m2, q1, q2, q3, q4, -⟩ := Cond.selects_spec (a' (.selects cls Bundle.tFill Bundle.tFill) (by simp [Bundle.ownAtoms0]))
    cases Option.some.inj (q1.symm.trans hfound)
    cases Option.some.inj (q2.symm.trans (State.methodFound?_of_named Y.fill (by decide)))
    cases Option.some.inj (q3.symm.trans Y.fill)
    rw [Launch.admits_selectMethod X.admits]; exact q4
  obtain ⟨cellS0, hcS0, hiss⟩ := Y.statics
  obtain ⟨u0, hu0⟩ := Cond.staticRefV Y.unassigned L.unassignedStatic L.statics hcS0 hiss (a' (.isRef (.static Bundle.tN "UNASSIGNED_STACK" Bundle.steD)) (by simp [Bundle.ownAtoms0]))
  obtain ⟨sen, hsen⟩ := Cond.staticRefV Y.sentinel L.sentinelStatic L.statics hcS0 hiss (a' (.isRef (.static Bundle.tN "SUPPRESSED_SENTINEL" Bundle.listD)) (by simp [Bundle.ownAtoms0]))
  obtain ⟨ci198, i198, fB, hk198, hg198, ha198, hsB, -, hnB, htB, hffB⟩ := Cond.ownField (t := .object "java/lang/Object") Y.found L.cls (by decide +kernel) (a' (.fieldLink Bundle.tN 198 Bundle.tN "backtrace" "Ljava/lang/Object;") (by simp [Bundle.ownAtoms0])) (a' (.lays Bundle.tN Bundle.tN "backtrace" "Ljava/lang/Object;") (by simp [Bundle.ownAtoms0])) e.platform hpl
  obtain ⟨cellS, hcS', heS, -, hkeep⟩ := X.same.2.2.2.2.2 T.aS cellS0 hcS0
  have hcellS : W.heap[T.aS]? = some cellS := hcS'
  have hout' : ∀ i, (⟨T.aS, i⟩ : Loc) ∉ locs := fun i hmem => by
    have := hlocs _ hmem cellS0 hcS0
    rw [hiss] at this; cases this
  have hknownS : cellS.vm ≠ .unknown := by
    rw [heS]; intro hu
    rw [show cellS0.vm = .unknown from hu] at hiss
    cases hiss
  have hneS : T.aS ≠ a := Nat.ne_of_lt (Nat.lt_of_lt_of_le (Array.getElem?_eq_some_iff.mp hcS0).1 hnew)
  obtain ⟨iM, hffM⟩ := Y.msg
  obtain ⟨tyC, dC, hdC, hdnC⟩ := Cond.laysAt hfound hk Y.cause (a' (.lays cls Bundle.tN "cause" "Ljava/lang/Throwable;") (by simp [Bundle.ownAtoms0]))
  obtain ⟨tyS, dS, hdS, hdnS⟩ := Cond.laysAt hfound hk Y.stack (a' (.lays cls Bundle.tN "stackTrace" Bundle.steD) (by simp [Bundle.ownAtoms0]))
  obtain ⟨tyP, dP, hdP, hdnP⟩ := Cond.laysAt hfound hk Y.supp (a' (.lays cls Bundle.tN "suppressedExceptions" Bundle.listD) (by simp [Bundle.ownAtoms0]))
  obtain ⟨tyM, dM, hdM, hdnM⟩ := Cond.laysAt hfound hk hffM (a' (.lays cls Bundle.tN "detailMessage" "Ljava/lang/String;") (by simp [Bundle.ownAtoms0]))
  obtain ⟨tyB, dB, hdB, hdnB⟩ := Cond.laysAt hfound hk hffB (a' (.lays cls Bundle.tN "backtrace" "Ljava/lang/Object;") (by simp [Bundle.ownAtoms0]))
  have bC := Cond.laysApart hdB hdC hdnB hdnC (by rw [hnB, Y.causeName]; decide)
  have bS := Cond.laysApart hdB hdS hdnB hdnS (by rw [hnB, Y.stackName]; decide)
  have bP := Cond.laysApart hdB hdP hdnB hdnP (by rw [hnB, Y.suppName]; decide)
  have hskip : SkipFacts T e.platform s (fun u => u) u0 ((preparedCellV T.toThrowableT (freshCell P1.m.cls kX) a u0 sen).withEntry W.cur) :=
    ⟨{ ci198 := ci198, i198 := i198, fBack := fB }, ⟨hk198, hg198, ha198, hsB⟩, by
      have := fresh_default (c := P1.m.cls) tyB
      rw [htB] at this
      simpa [preparedCellV, Cell.setSlot, Cell.withEntry, Array.getElem?_setIfInBounds, bC, bS, bP, bC.symm, bS.symm, bP.symm, defaultValue] using this, fun _ _ => rfl⟩
  obtain ⟨tm, methC, cdC, kC, vm₁, hnC, -, -, -, -, -, -, -, hW₁, st1⟩ := Steps.initCold (tb := p.tables) (e := e) (below := below) (s := s) (U := W) X.here hexec X.warmed hpl hown (t := Bundle.init0 cls) rfl rfl (Bundle.fit_spec hcls).2
    (a' (.methodLink own ic (Bundle.init0 cls)) (by simp [Bundle.ownAtoms0])) (h (.instanceMethod (Bundle.init0 cls)) (by cases names <;> simp [Bundle.ownAtoms0, Bundle.chain0Atoms, Bundle.passAtoms])) (bytes := Bundle.five) (maxL := 1) (h (.code (Bundle.init0 cls) Bundle.five 1 none) (by cases names <;> simp [Bundle.ownAtoms0, Bundle.chain0Atoms, Bundle.passAtoms]))
    (f := g) hg (a := a) (rest := .ref a :: rest) hstack hd6
  cases Option.some.inj (hnC.symm.trans hP1m)
  have X₁ := X.noted hW₁
  obtain ⟨vm₂, X₂, st2⟩ := X₁.ctorPlainOffV hexec (g := { g with stack := .ref a :: rest }) hg hsize T L Z LZ (P1 :: Ps)
    (fun P hP => by rcases List.mem_cons.mp hP with rfl | hP; exact L1; exact hL P hP) ⟨hlink1, hlink⟩ (u0 := u0) (sen := sen) (self := a) (cell := freshCell P1.m.cls kX) (cellS := cellS)
    hcell (fun _ => by simp) (by simp) rfl rfl hsel0 hselF hcellS hneS hknownS (by rw [hkeep _ (hout' _)]; exact hu0) (by rw [hkeep _ (hout' _)]; exact hsen)
    (Takes.of_laid hk hord tyC (by rw [Y.causeType]; rfl)) (Takes.of_laid hk hord tyS (by rw [Y.stackType]; exact fits_refV_array _ u0)) (Takes.of_laid hk hord tyP (by rw [Y.suppType]; exact fits_refV_object _ sen)) Y.objLocals hskip htr [] hd6
    (by simp only [List.length_cons, hlen]; omega) (by simp only [List.length_cons, hlen]; exact hRlocals)
  have hlt : a < ((W.setVm vm₁).setVm vm₂).heap.size := (Array.getElem?_eq_some_iff.mp hcell).1
  refine ⟨(W.setVm vm₁).setVm vm₂, _, _, X₂, fun y hy => ?_, hlt, rfl, rfl, fun target hwalk => st1 _ (fun acts => ?_)⟩
  · simp only [List.mem_cons, List.not_mem_nil, or_false] at hy
    rcases hy with rfl | rfl | rfl | rfl <;> rfl
  · rw [doInvoke_state]
    exact st2 _ hwalk
end VXK
section VXK2
variable {p : Program} {l : Launch} {e : Env} {R : Room} {s : State} {m : MethodId} {args : Array Value} {below : List Frame} {meth : Method} {c : Code} {H : Heap} {locs : List Loc} {cells slots : Nat} {Q : State → Prop}
variable {ls : Array Slot} {rest : List Value} {D : va_G} {cl : List vw_C} {tys : List (ClassId × FieldType)} {ws : va_W}
/-- 'new E("text")' that isn't thrown at once: the object goes on the stack -/
theorem vx_makeS {cc : ByteArray} {pc : Nat} (hexec : p.tables.exec = Jvm.exec) (hb : c.code = cc) (hl : l.stackTraces = false) {own cls text : String} {names : List String} {ik is ic sa ci : Nat} {A : Nat → Prop} {T0 : u_T}
    (hown : s.vm.findClass own = some m.cls) (hcls : Bundle.fit cls = true) (hnames : ∀ n ∈ names, Bundle.fit n = true)
    (hk : (Cond.classLink own ik cls).before args s = true) (hini : (Cond.initialized cls).before args s = true) (hstr : vk_R own is text sa s) (hat : ∀ w ∈ vx_atS own ic cls names, w.before args s = true)
    (hgood : ∀ w ∈ Cond.classLink own ik cls :: Cond.initialized cls :: vx_atS own ic cls names, vx_ot w = true)
    (hU : vx_Zq Bundle.tN "UNASSIGNED_STACK" Bundle.steD A s s.heap) (hN : vx_Zq Bundle.tN "SUPPRESSED_SENTINEL" Bundle.listD A s s.heap) (hS : va_S A s.heap H locs) (hsize : ls.size = c.maxLocals)
    (d0 : decode cc pc = .ok (.new ik, 3)) (d3 : decode cc (pc + 3) = .ok (.dup, 1)) (d4 : decode cc (pc + 4) = .ok (.ldc is, 2)) (d6 : decode cc (pc + 6) = .ok (.invokespecial ic, 3))
    (hK : va_K D cl tys s) (hP : va_P D cl ws H) (hD : va_D A ws) (hA : ∀ q, s.heap.size ≤ q → A q) (hc : cl[ci]? = some (cls, T0, 0))
    (hRframes : names.length + 3 < R.frames) (hRlocals : (rest.map fun v => v.category).sum + (13 * (names.length + 1) + 43) ≤ R.locals) (hRcells : cells + 1 ≤ R.cells) (hRslots : slots + 6 ≤ R.slots)
    (kk : ∀ (q : Nat) (H1 : Heap), va_P D cl (ws ++ [(q, .inr (ci, []))]) H1 → va_D A (ws ++ [(q, .inr (ci, []))]) → va_S A s.heap H1 locs → W p l e R s m args below meth c H1 locs (cells + 1) (slots + 6) Q (F0 m (pc + 9) ls (.ref q :: rest))) :
    W p l e R s m args below meth c H locs cells slots Q (F0 m pc ls rest) := by
  intro T hT X
  subst hT
  have htr : e.platform.stackTraces = false := (show e.platform.stackTraces = l.stackTraces by rw [X.admits.platform]).trans hl
  have Y := vx_rebase X (R' := { frames := R.frames, locals := R.locals, cells := 1, slots := 6 }) (Nat.le_refl _) (Nat.le_refl _) hRcells hRslots
  obtain ⟨s', hA'⟩ : ∃ z, z = (T.setVm s.vm).setFrames (.invoking m args :: below) := ⟨_, rfl⟩
  rw [← hA'] at Y
  have hvm : s'.vm = s.vm := by rw [hA']; rfl
  have hhp : s'.heap = T.heap := by rw [hA']; rfl
  have hW0 : s.WarmedH s'.vm := by rw [hvm]; exact State.WarmedH.refl s
  have hat' : ∀ w ∈ vx_atS own ic cls names, w.before args s' = true := fun w hw => vx_ot_at hW0 hvm.symm (hgood w (List.mem_cons_of_mem _ (List.mem_cons_of_mem _ hw))) (hat w hw)
  have hk' : (Cond.classLink own ik cls).before args s' = true := vx_ot_at hW0 hvm.symm (hgood _ List.mem_cons_self) hk
  have hini' : (Cond.initialized cls).before args s' = true := vx_ot_at hW0 hvm.symm (hgood _ (List.mem_cons_of_mem _ List.mem_cons_self)) hini
  have hU' : vx_Zq Bundle.tN "UNASSIGNED_STACK" Bundle.steD A s' s'.heap := by rw [hhp]; exact vx_Zq.moved hW0.alike (hU.kept hS.2.1)
  have hN' : vx_Zq Bundle.tN "SUPPRESSED_SENTINEL" Bundle.listD A s' s'.heap := by rw [hhp]; exact vx_Zq.moved hW0.alike (hN.kept hS.2.1)
  have h : ∀ w ∈ Bundle.ownAtoms own ic cls names, w.before args s' = true := vx_own hat' (vx_isRefq hU'.1) (vx_isRefq hN'.1) hU'.2.word hN'.2.word
  have hown' : s'.vm.findClass own = some m.cls := by rw [hvm]; exact hown
  have hins : (Cond.instantiable cls 6).before args s' = true := h _ (by simp [Bundle.ownAtoms])
  obtain ⟨vm₁, cX, kX, hfX, hkX, -, -, X₁, st1⟩ := Y.newCold hexec (own := own) (C := cls) (index := ik) (n := 6) hown' hk' hins hini'
    (g := F0 m pc ls rest) rfl (by rw [hb]; exact d0) (Nat.le_refl _) (Nat.le_refl _)
  generalize hT1 : (T.setVm vm₁).pushCell { cls := cX, slots := kX.instanceTypes.map defaultValue, vm := .none } = T1 at X₁ st1
  have hcat : (Value.ref T.heap.size).category = 1 := rfl
  have hcellA : T1.heap[T.heap.size]? = some (freshCell cX kX) := by rw [← hT1]; exact State.heap_pushCell_size _ _
  have d3' : decode c.code (pc + 3) = .ok (.dup, 1) := by rw [hb]; exact d3
  have d4' : decode c.code (pc + 4) = .ok (.ldc is, 2) := by rw [hb]; exact d4
  have hstr' : vk_R own is text sa s' := vk_R.warm hW0 hstr
  obtain ⟨V, ce, L, Z, hL, hlt, hcl9, hvm9, st⟩ := vx_ctorMadeS X₁ hexec htr (own := own) (cls := cls) (names := names) (ic := ic) hown' hcls hnames h (fun x hx => nomatch hx) hfX hkX hcellA (by rw [hhp]; exact Nat.le_refl _) (msg := .ref sa) rfl
    (g := { method := m, pc := pc + 6, locals := ls, stack := .ref sa :: .ref T.heap.size :: .ref T.heap.size :: rest, locked := none }) rfl hsize (rest := rest) rfl
    (by rw [hb]; exact d6) hRframes (by simp only [List.map_cons, List.sum_cons, hcat]; omega)
  have Z0 := Stand.forget (locs := []) Z (fun y hy => by rw [hL y hy, hhp]; exact Nat.le_refl _)
  obtain ⟨f1, f2⟩ := vx_frame Z0.same
  rw [hhp] at f1 f2
  have hcid : ce.cls = D.1 ci := by
    rw [hcl9]
    have h1 := (hK.1 ci _ hc).2.1
    rw [hvm] at hfX
    exact Option.some.inj (hfX.symm.trans h1)
  have hh : (V.setCell T.heap.size ce).heap[T.heap.size]? = some ce := heapAt_setCell_self (s := V) ce hlt
  subst hA'
  have X5 := vx_back9 X Y Z0
  have X6 : Stand p l e R s m args below meth c (V.setCell T.heap.size ce) locs (cells + 1) (slots + 6) := { X5 with same := X5.same.mono (by omega) (by omega) }
  have hk9 : ∀ (k : Nat) (x : Nat × va_E), ws[k]? = some x → (V.setCell T.heap.size ce).heap[x.1]? = T.heap[x.1]? := fun k x hx => f2 x.1 ((hP k x hx).lt) (fun z hz => nomatch hz)
  obtain ⟨t, a1, b1⟩ := kk T.heap.size (V.setCell T.heap.size ce).heap ((hP.kept hk9).app (fun k x hx => by
      have hz : k < 1 := (List.getElem?_eq_some_iff.mp hx).1
      rw [show k = 0 by omega] at hx
      cases hx
      exact ⟨_, hc, ce, hh, hcid, hvm9, fun k hk => absurd hk (Nat.not_lt_zero k)⟩)) (hD.push hP rfl (hA _ hS.1)) ⟨Nat.le_trans hS.1 f1, fun q h1 h2 => (f2 q (Nat.lt_of_lt_of_le h1 hS.1) (fun z hz => nomatch hz)).trans (hS.2.1 q h1 h2), hS.2.2⟩ _ rfl X6
  refine ⟨t, st1 _ ?_, b1⟩
  show Steps p.tables e below (T1.setTop { method := m, pc := pc + 3, locals := ls, stack := .ref T.heap.size :: rest, locked := none }) _
  jvm_step X₁.here [X₁.here.top, hexec, d3', Value.category]
  exact X₁.ldcString hexec (own := own) (text := text) (index := is) (a := sa) hown' hstr'.1 hstr'.2
    (g := { method := m, pc := pc + 4, locals := ls, stack := .ref T.heap.size :: .ref T.heap.size :: rest, locked := none }) rfl d4' _ (st _ a1)
/-- 'new E()' that isn't thrown at once: the object goes on the stack -/
theorem vx_make0 {cc : ByteArray} {pc : Nat} (hexec : p.tables.exec = Jvm.exec) (hb : c.code = cc) (hl : l.stackTraces = false) {own cls : String} {names : List String} {ik ic ci : Nat} {A : Nat → Prop} {T0 : u_T}
    (hown : s.vm.findClass own = some m.cls) (hcls : Bundle.fit cls = true) (hnames : ∀ n ∈ names, Bundle.fit n = true)
    (hk : (Cond.classLink own ik cls).before args s = true) (hini : (Cond.initialized cls).before args s = true) (hat : ∀ w ∈ vx_at0 own ic cls names, w.before args s = true)
    (hgood : ∀ w ∈ Cond.classLink own ik cls :: Cond.initialized cls :: vx_at0 own ic cls names, vx_ot w = true)
    (hU : vx_Zq Bundle.tN "UNASSIGNED_STACK" Bundle.steD A s s.heap) (hN : vx_Zq Bundle.tN "SUPPRESSED_SENTINEL" Bundle.listD A s s.heap) (hS : va_S A s.heap H locs) (hsize : ls.size = c.maxLocals)
    (d0 : decode cc pc = .ok (.new ik, 3)) (d3 : decode cc (pc + 3) = .ok (.dup, 1)) (d4 : decode cc (pc + 4) = .ok (.invokespecial ic, 3))
    (hK : va_K D cl tys s) (hP : va_P D cl ws H) (hD : va_D A ws) (hA : ∀ q, s.heap.size ≤ q → A q) (hc : cl[ci]? = some (cls, T0, 0))
    (hRframes : names.length + 3 < R.frames) (hRlocals : (rest.map fun v => v.category).sum + (13 * (names.length + 1) + 42) ≤ R.locals) (hRcells : cells + 1 ≤ R.cells) (hRslots : slots + 6 ≤ R.slots)
    (kk : ∀ (q : Nat) (H1 : Heap), va_P D cl (ws ++ [(q, .inr (ci, []))]) H1 → va_D A (ws ++ [(q, .inr (ci, []))]) → va_S A s.heap H1 locs → W p l e R s m args below meth c H1 locs (cells + 1) (slots + 6) Q (F0 m (pc + 7) ls (.ref q :: rest))) :
    W p l e R s m args below meth c H locs cells slots Q (F0 m pc ls rest) := by
  intro T hT X
  subst hT
  have htr : e.platform.stackTraces = false := (show e.platform.stackTraces = l.stackTraces by rw [X.admits.platform]).trans hl
  have Y := vx_rebase X (R' := { frames := R.frames, locals := R.locals, cells := 1, slots := 6 }) (Nat.le_refl _) (Nat.le_refl _) hRcells hRslots
  obtain ⟨s', hA'⟩ : ∃ z, z = (T.setVm s.vm).setFrames (.invoking m args :: below) := ⟨_, rfl⟩
  rw [← hA'] at Y
  have hvm : s'.vm = s.vm := by rw [hA']; rfl
  have hhp : s'.heap = T.heap := by rw [hA']; rfl
  have hW0 : s.WarmedH s'.vm := by rw [hvm]; exact State.WarmedH.refl s
  have hat' : ∀ w ∈ vx_at0 own ic cls names, w.before args s' = true := fun w hw => vx_ot_at hW0 hvm.symm (hgood w (List.mem_cons_of_mem _ (List.mem_cons_of_mem _ hw))) (hat w hw)
  have hk' : (Cond.classLink own ik cls).before args s' = true := vx_ot_at hW0 hvm.symm (hgood _ List.mem_cons_self) hk
  have hini' : (Cond.initialized cls).before args s' = true := vx_ot_at hW0 hvm.symm (hgood _ (List.mem_cons_of_mem _ List.mem_cons_self)) hini
  have hU' : vx_Zq Bundle.tN "UNASSIGNED_STACK" Bundle.steD A s' s'.heap := by rw [hhp]; exact vx_Zq.moved hW0.alike (hU.kept hS.2.1)
  have hN' : vx_Zq Bundle.tN "SUPPRESSED_SENTINEL" Bundle.listD A s' s'.heap := by rw [hhp]; exact vx_Zq.moved hW0.alike (hN.kept hS.2.1)
  have h : ∀ w ∈ Bundle.ownAtoms0 own ic cls names, w.before args s' = true := vx_own hat' (vx_isRefq hU'.1) (vx_isRefq hN'.1) hU'.2.word hN'.2.word
  have hown' : s'.vm.findClass own = some m.cls := by rw [hvm]; exact hown
  have hins : (Cond.instantiable cls 6).before args s' = true := h _ (by simp [Bundle.ownAtoms0])
  obtain ⟨vm₁, cX, kX, hfX, hkX, -, -, X₁, st1⟩ := Y.newCold hexec (own := own) (C := cls) (index := ik) (n := 6) hown' hk' hins hini'
    (g := F0 m pc ls rest) rfl (by rw [hb]; exact d0) (Nat.le_refl _) (Nat.le_refl _)
  generalize hT1 : (T.setVm vm₁).pushCell { cls := cX, slots := kX.instanceTypes.map defaultValue, vm := .none } = T1 at X₁ st1
  have hcat : (Value.ref T.heap.size).category = 1 := rfl
  have hcellA : T1.heap[T.heap.size]? = some (freshCell cX kX) := by rw [← hT1]; exact State.heap_pushCell_size _ _
  have d3' : decode c.code (pc + 3) = .ok (.dup, 1) := by rw [hb]; exact d3
  obtain ⟨V, ce, L, Z, hL, hlt, hcl9, hvm9, st⟩ := vx_ctorMade0 X₁ hexec htr (own := own) (cls := cls) (names := names) (ic := ic) hown' hcls hnames h (fun x hx => nomatch hx) hfX hkX hcellA (by rw [hhp]; exact Nat.le_refl _)
    (g := { method := m, pc := pc + 4, locals := ls, stack := .ref T.heap.size :: .ref T.heap.size :: rest, locked := none }) rfl hsize (rest := rest) rfl
    (by rw [hb]; exact d4) hRframes (by simp only [List.map_cons, List.sum_cons, hcat]; omega)
  have Z0 := Stand.forget (locs := []) Z (fun y hy => by rw [hL y hy, hhp]; exact Nat.le_refl _)
  obtain ⟨f1, f2⟩ := vx_frame Z0.same
  rw [hhp] at f1 f2
  have hcid : ce.cls = D.1 ci := by
    rw [hcl9]
    have h1 := (hK.1 ci _ hc).2.1
    rw [hvm] at hfX
    exact Option.some.inj (hfX.symm.trans h1)
  have hh : (V.setCell T.heap.size ce).heap[T.heap.size]? = some ce := heapAt_setCell_self (s := V) ce hlt
  subst hA'
  have X5 := vx_back9 X Y Z0
  have X6 : Stand p l e R s m args below meth c (V.setCell T.heap.size ce) locs (cells + 1) (slots + 6) := { X5 with same := X5.same.mono (by omega) (by omega) }
  have hk9 : ∀ (k : Nat) (x : Nat × va_E), ws[k]? = some x → (V.setCell T.heap.size ce).heap[x.1]? = T.heap[x.1]? := fun k x hx => f2 x.1 ((hP k x hx).lt) (fun z hz => nomatch hz)
  obtain ⟨t, a1, b1⟩ := kk T.heap.size (V.setCell T.heap.size ce).heap ((hP.kept hk9).app (fun k x hx => by
      have hz : k < 1 := (List.getElem?_eq_some_iff.mp hx).1
      rw [show k = 0 by omega] at hx
      cases hx
      exact ⟨_, hc, ce, hh, hcid, hvm9, fun k hk => absurd hk (Nat.not_lt_zero k)⟩)) (hD.push hP rfl (hA _ hS.1)) ⟨Nat.le_trans hS.1 f1, fun q h1 h2 => (f2 q (Nat.lt_of_lt_of_le h1 hS.1) (fun z hz => nomatch hz)).trans (hS.2.1 q h1 h2), hS.2.2⟩ _ rfl X6
  refine ⟨t, st1 _ ?_, b1⟩
  show Steps p.tables e below (T1.setTop { method := m, pc := pc + 3, locals := ls, stack := .ref T.heap.size :: rest, locked := none }) _
  jvm_step X₁.here [X₁.here.top, hexec, d3', Value.category]
  exact st _ a1
/-- 'throw x' of an object that was made before -/
theorem vx_athrow {cc : ByteArray} {pc : Nat} (hexec : p.tables.exec = Jvm.exec) (hb : c.code = cc) {q : Addr} (hdg : decode cc pc = .ok (.athrow, 1)) (k : vx_W p l e R s m args below meth c H locs cells slots Q (F0 m pc ls rest) q) : W p l e R s m args below meth c H locs cells slots Q (F0 m pc ls (.ref q :: rest)) := by
  intro T hT X
  obtain ⟨t, st, hq⟩ := k T hT X
  refine ⟨t, ?_, hq⟩
  have hdg' : decode c.code pc = .ok (.athrow, 1) := by rw [hb]; exact hdg
  jvm_step X.here [X.here.top, hexec, hdg', athrow.wp_sem]
  exact st
end VXK2
/-! ===== END ===== -/
/-! ===== BEGIN a constructor that throws (launches without stack traces) ===== -/
section VXIA
variable {p : Program} {l : Launch} {e : Env} {R : Room} {s : State} {m : MethodId} {args : Array Value} {below : List Frame} {meth : Method} {c : Code} {T : State} {locs : List Loc} {cells slots : Nat}
theorem vx_callI (X : Stand p l e R s m args below meth c T locs cells slots) (hexec : p.tables.exec = Jvm.exec) {own : String} {index : Nat} {y : MethodName} {bytes : ByteArray} {maxL : Nat}
    (hown : s.vm.findClass own = some m.cls) (hy1 : y.name = "<init>") (hlink : (Cond.methodLink own index y).before args s = true) (hinst : (Cond.instanceMethod y).before args s = true)
    (hcode : (Cond.code y bytes maxL none).before args s = true) (hy : y.cls ≠ "java/lang/invoke/MethodHandle" ∧ y.cls ≠ "java/lang/invoke/VarHandle")
    {W9 : Nat} {Pre : Pt → Array Value → Prop} {Post : Pt → Array Value → Option Value → Pt → Prop} {PostX : Pt → Array Value → Addr → Pt → Prop} (hK : vx_Back l R p e below s args y 3 W9 Pre Post PostX)
    {g : JFrame} (hg : g.method = m) (hsize : g.locals.size = c.maxLocals) {a : Addr} {argsL rest : List Value} (hlen : ∀ sig, parseMethodDescriptor y.desc = some sig → argsL.length = sig.parameters.length)
    (hstack : g.stack = argsL.reverse ++ .ref a :: rest) (hW : 2 * g.monitorRoom + (rest.map fun v => v.category).sum ≤ W9) (hdg : decode c.code g.pc = .ok (.invokespecial index, 3))
    (hpre : ∀ vm₁, s.WarmedH vm₁ → Pre ⟨T.setVm vm₁, locs, cells, slots⟩ (Value.ref a :: argsL).toArray) :
    (∃ (v : Option Value) (vm₁ : Vm) (B : Pt), s.WarmedH vm₁ ∧ Stand p l e R s m args below meth c B.U B.locs B.cells B.slots ∧ Post ⟨T.setVm vm₁, locs, cells, slots⟩ (Value.ref a :: argsL).toArray v B ∧
      ∀ target, Steps p.tables e below (B.U.setTop { g with pc := g.pc + 3, stack := v.toList ++ rest }) target → Steps p.tables e below (T.setTop g) target) ∨
    (∃ (q : Addr) (vm₁ : Vm) (B : Pt), s.WarmedH vm₁ ∧ Stand p l e R s m args below meth c B.U B.locs B.cells B.slots ∧ PostX ⟨T.setVm vm₁, locs, cells, slots⟩ (Value.ref a :: argsL).toArray q B ∧
      Steps p.tables e below (T.setTop g) ((B.U.setTop { g with stack := rest }).pushFrame (.throwing q))) := by
  subst hg
  have hpl : e.platform.magicAccessors = ({} : Platform).magicAccessors := by rw [X.admits.platform]
  obtain ⟨mk, methM, cM, kP, vm₁, hnamed, hmethM, hcodeM, -, hlocalsM, -, hkP, -, hW₁, hstep₁⟩ := Steps.initColdArgs (e := e) X.here hexec X.warmed hpl hown hy1 hy hlink hinst hcode (f := g) rfl hlen hstack hdg
  have X₁ := X.noted hW₁
  rcases hK g.method meth c ⟨T.setVm vm₁, locs, cells, slots⟩ { g with stack := rest } (.invokespecial index) mk (Value.ref a :: argsL).toArray X₁ rfl hsize hdg hW (X₁.named hnamed) (hpre vm₁ X₁.warmed) with ⟨v, B, X', hpost, hsteps⟩ | ⟨q, B, X', hpost, hsteps⟩
  · exact Or.inl ⟨v, vm₁, B, X₁.warmed, X', hpost, fun target h => hstep₁ _ fun acts => by rw [doInvoke_state]; exact hsteps.trans h⟩
  · exact Or.inr ⟨q, vm₁, B, X₁.warmed, X', hpost, hstep₁ _ fun acts => by rw [doInvoke_state]; exact hsteps⟩
end VXIA
section VXIB
variable {p : Program} {l : Launch} {e : Env} {R : Room} {s : State} {m : MethodId} {args : Array Value} {below : List Frame} {meth : Method} {c : Code} {H : Heap} {locs : List Loc} {cells slots : Nat}
variable {y : MethodName} {bytes cc : ByteArray} {maxL nL mc ms n index : Nat} {ret : Option FieldType} {ws : List Cond} {rm : Room} {Pc : Array Value → State → Prop} {Qc : Array Value → State → Outcome → State → Prop} {XC : String → State → State → Prop} {free : Addr → Prop} {Ts : List Cond} {own C : String} {b : Addr} {As rest : List Value} {g : JFrame}
theorem vx_runI (S : CallFix p m c cc nL s args Ts own) (hM : vx_Met l y ws rm Pc Qc XC mc ms free) (cw : CallB R s args own index y bytes maxL none ws rm mc ms n ∧ y.name = "<init>" ∧ (Cond.instanceMethod y).before args s = true) (hp : PreS s H Pc (.ref b :: As))
    (hg : g.method = m) (hn : As.length = n) (hsize : g.locals.size = nL) (hstack : g.stack = As.reverse ++ .ref b :: rest) (hW : 2 * g.monitorRoom + (rest.map fun v => v.category).sum ≤ 8) (hdg : decode cc g.pc = .ok (.invokespecial index, 3)) (hf : cells + mc ≤ R.cells ∧ slots + ms ≤ R.slots) :
    vx_Run p l e R s m args below meth c H locs cells slots mc ms g rest (Qc (Value.ref b :: As).toArray) XC free := by
  have hK : vx_Back l R p e below s args y 3 8 (PreOf R mc ms Pc) (PostOf Qc mc ms free) (vx_Post XC mc ms free) := vx_callBack cw.1 hM hp.1
  obtain ⟨⟨-, -, -, -, -, -, hcode, -, hy, hlen, hl⟩, hy1, hin⟩ := cw
  obtain ⟨hx, hb, hml, ho, -⟩ := S
  have hPc := hp.2
  intro T hT X
  rcases vx_callI X hx (bytes := bytes) (maxL := maxL) ho hy1 hl hin hcode hy hK hg (hsize.trans hml.symm) (a := b) (argsL := As) (rest := rest) (fun sig h => hn.trans (hlen sig h)) hstack hW (by rw [hb]; exact hdg)
    (fun vm₁ hW₁ => ⟨hf.1, hf.2, hPc (T.setVm vm₁) hT hW₁⟩) with ⟨v, vm₁, ⟨U', l2, c2, s2⟩, hW₁, X', ⟨g', mk, t, L, e1, e2, hq, h1, hL, h2, h3⟩, st⟩ | ⟨q, vm₁, ⟨U', l2, c2, s2⟩, hW₁, X', ⟨g', mk, t, L, E, ce, e1, e2, hq, hce, hcv, hcl, h1, hL, h2, h3⟩, st⟩
  · dsimp only [Pt.U, Pt.locs, Pt.cells, Pt.slots] at X' e1 e2 h1 h2 h3 st
    subst h1; subst h2; subst h3
    exact Or.inl ⟨v, (T.setVm vm₁).calling g' mk (Value.ref b :: As).toArray, t, U', L, hT, X', hL, e1, e2, hq, st⟩
  · dsimp only [Pt.U, Pt.locs, Pt.cells, Pt.slots] at X' e1 e2 h1 h2 h3 st hcl
    subst h1; subst h2; subst h3
    exact Or.inr ⟨q, (T.setVm vm₁).calling g' mk (Value.ref b :: As).toArray, t, U', L, E, ce, hT, X', hL, e1, e2, hq, hce, hcv, vx_cls hW₁ hcl, st⟩
end VXIB
/-! ===== END ===== -/
/-! ===== BEGIN a private constructor of a nest mate that throws ===== -/
section VXIC
variable {p : Program} {l : Launch} {e : Env} {R : Room} {s : State} {m : MethodId} {args : Array Value} {below : List Frame} {meth : Method} {c : Code} {T : State} {locs : List Loc} {cells slots : Nat}
theorem vx_callIN (X : Stand p l e R s m args below meth c T locs cells slots) (hexec : p.tables.exec = Jvm.exec) {own : String} {index : Nat} {host : String} {y : MethodName} {bytes : ByteArray} {maxL : Nat}
    (hown : s.vm.findClass own = some m.cls) (hy1 : y.name = "<init>") (hlink : (Cond.methodLinkNest own index y host).before args s = true) (hinst : (Cond.instanceMethod y).before args s = true)
    (hcode : (Cond.code y bytes maxL none).before args s = true) (hy : y.cls ≠ "java/lang/invoke/MethodHandle" ∧ y.cls ≠ "java/lang/invoke/VarHandle")
    {W9 : Nat} {Pre : Pt → Array Value → Prop} {Post : Pt → Array Value → Option Value → Pt → Prop} {PostX : Pt → Array Value → Addr → Pt → Prop} (hK : vx_Back l R p e below s args y 3 W9 Pre Post PostX)
    {g : JFrame} (hg : g.method = m) (hsize : g.locals.size = c.maxLocals) {a : Addr} {argsL rest : List Value} (hlen : ∀ sig, parseMethodDescriptor y.desc = some sig → argsL.length = sig.parameters.length)
    (hstack : g.stack = argsL.reverse ++ .ref a :: rest) (hW : 2 * g.monitorRoom + (rest.map fun v => v.category).sum ≤ W9) (hdg : decode c.code g.pc = .ok (.invokespecial index, 3))
    (hpre : ∀ vm₁, s.WarmedH vm₁ → Pre ⟨T.setVm vm₁, locs, cells, slots⟩ (Value.ref a :: argsL).toArray) :
    (∃ (v : Option Value) (vm₁ : Vm) (B : Pt), s.WarmedH vm₁ ∧ Stand p l e R s m args below meth c B.U B.locs B.cells B.slots ∧ Post ⟨T.setVm vm₁, locs, cells, slots⟩ (Value.ref a :: argsL).toArray v B ∧
      ∀ target, Steps p.tables e below (B.U.setTop { g with pc := g.pc + 3, stack := v.toList ++ rest }) target → Steps p.tables e below (T.setTop g) target) ∨
    (∃ (q : Addr) (vm₁ : Vm) (B : Pt), s.WarmedH vm₁ ∧ Stand p l e R s m args below meth c B.U B.locs B.cells B.slots ∧ PostX ⟨T.setVm vm₁, locs, cells, slots⟩ (Value.ref a :: argsL).toArray q B ∧
      Steps p.tables e below (T.setTop g) ((B.U.setTop { g with stack := rest }).pushFrame (.throwing q))) := by
  subst hg
  have hpl : e.platform.magicAccessors = ({} : Platform).magicAccessors := by rw [X.admits.platform]
  obtain ⟨mk, methM, cM, kP, vm₁, hnamed, hmethM, hcodeM, -, hlocalsM, -, hkP, -, hW₁, hstep₁⟩ := Steps.initColdArgsNest (e := e) X.here hexec X.warmed hpl hown hy1 hy hlink hinst hcode (f := g) rfl hlen hstack hdg
  have X₁ := X.noted hW₁
  rcases hK g.method meth c ⟨T.setVm vm₁, locs, cells, slots⟩ { g with stack := rest } (.invokespecial index) mk (Value.ref a :: argsL).toArray X₁ rfl hsize hdg hW (X₁.named hnamed) (hpre vm₁ X₁.warmed) with ⟨v, B, X', hpost, hsteps⟩ | ⟨q, B, X', hpost, hsteps⟩
  · exact Or.inl ⟨v, vm₁, B, X₁.warmed, X', hpost, fun target h => hstep₁ _ fun acts => by rw [doInvoke_state]; exact hsteps.trans h⟩
  · exact Or.inr ⟨q, vm₁, B, X₁.warmed, X', hpost, hstep₁ _ fun acts => by rw [doInvoke_state]; exact hsteps⟩
end VXIC
section VXID
variable {p : Program} {l : Launch} {e : Env} {R : Room} {s : State} {m : MethodId} {args : Array Value} {below : List Frame} {meth : Method} {c : Code} {H : Heap} {locs : List Loc} {cells slots : Nat}
theorem vx_runIN {y : MethodName} {bytes cc : ByteArray} {maxL nL mc ms n index : Nat} {ws : List Cond} {rm : Room} {Pc : Array Value → State → Prop} {Qc : Array Value → State → Outcome → State → Prop} {XC : String → State → State → Prop} {free : Addr → Prop} {Ts : List Cond} {own host : String} {b : Addr} {As rest : List Value} {g : JFrame}
    (S : CallFix p m c cc nL s args Ts own) (hM : vx_Met l y ws rm Pc Qc XC mc ms free) (cw : va_CN R s args own index y host bytes maxL none ws rm mc ms n ∧ y.name = "<init>" ∧ (Cond.instanceMethod y).before args s = true) (hp : PreS s H Pc (.ref b :: As))
    (hg : g.method = m) (hn : As.length = n) (hsize : g.locals.size = nL) (hstack : g.stack = As.reverse ++ .ref b :: rest) (hW : 2 * g.monitorRoom + (rest.map fun v => v.category).sum ≤ 8) (hdg : decode cc g.pc = .ok (.invokespecial index, 3)) (hf : cells + mc ≤ R.cells ∧ slots + ms ≤ R.slots) :
    vx_Run p l e R s m args below meth c H locs cells slots mc ms g rest (Qc (Value.ref b :: As).toArray) XC free := by
  obtain ⟨⟨⟨hrc, hrs, hfr, hlo, hws, hcw⟩, hcode, hini, hy, hlen, hl⟩, hx1, hx2⟩ := cw
  have hK : vx_Back l R p e below s args y 3 8 (PreOf R mc ms Pc) (PostOf Qc mc ms free) (vx_Post XC mc ms free) := vx_back (bytes := bytes) (maxL := maxL) (ret := none) hM hp.1 hrc hrs hfr hlo hws hcw (fun a' U hW => word_at hW (Or.inl (by first | rfl | simp [Cond.onTables, Cond.keeps, Cond.steady])) hini)
  obtain ⟨hx, hb, hml, ho, -⟩ := S
  have hPc := hp.2
  intro T hT X
  rcases vx_callIN X hx (bytes := bytes) (maxL := maxL) ho hx1 hl hx2 hcode hy hK hg (hsize.trans hml.symm) (a := b) (argsL := As) (rest := rest) (fun sig h => hn.trans (hlen sig h)) hstack hW (by rw [hb]; exact hdg)
    (fun vm₁ hW₁ => ⟨hf.1, hf.2, hPc (T.setVm vm₁) hT hW₁⟩) with ⟨v, vm₁, ⟨U', l2, c2, s2⟩, hW₁, X', ⟨g', mk, t, L, e1, e2, hq, h1, hL, h2, h3⟩, st⟩ | ⟨q, vm₁, ⟨U', l2, c2, s2⟩, hW₁, X', ⟨g', mk, t, L, E, ce, e1, e2, hq, hce, hcv, hcl, h1, hL, h2, h3⟩, st⟩
  · dsimp only [Pt.U, Pt.locs, Pt.cells, Pt.slots] at X' e1 e2 h1 h2 h3 st
    subst h1; subst h2; subst h3
    exact Or.inl ⟨v, (T.setVm vm₁).calling g' mk (Value.ref b :: As).toArray, t, U', L, hT, X', hL, e1, e2, hq, st⟩
  · dsimp only [Pt.U, Pt.locs, Pt.cells, Pt.slots] at X' e1 e2 h1 h2 h3 st hcl
    subst h1; subst h2; subst h3
    exact Or.inr ⟨q, (T.setVm vm₁).calling g' mk (Value.ref b :: As).toArray, t, U', L, E, ce, hT, X', hL, e1, e2, hq, hce, hcv, vx_cls hW₁ hcl, st⟩
end VXID
/-! ===== END ===== -/
/-! ===== BEGIN a method of a class above, found by the receiver, that may throw (follows va_callVU, va_runU of this kit) ===== -/
section
variable {p : Program} {l : Launch} {e : Env} {R : Room} {s : State} {m : MethodId} {args : Array Value} {below : List Frame} {meth : Method} {c : Code} {H : Heap} {locs : List Loc} {cells slots : Nat}
theorem vx_callVU {T : State} {locs : List Loc} {cells slots : Nat} (X : Stand p l e R s m args below meth c T locs cells slots) (hexec : p.tables.exec = Jvm.exec) {own C owner : String} {index : Nat} {x y : MethodName} {bytes : ByteArray} {maxL : Nat} {ret : Option FieldType}
    (hown : s.vm.findClass own = some m.cls) (hlink : (Cond.methodLink own index x).before args s = true) (hsame : (Cond.sameMethod x.cls owner x.name x.desc).before args s = true)
    (hd0 : va_Decl s ⟨owner, x.name, x.desc⟩) (howner : owner ≠ "java/lang/invoke/MethodHandle" ∧ owner ≠ "java/lang/invoke/VarHandle")
    (hsel : (Cond.selects C x y).before args s = true) (hinst : (Cond.instanceMethod y).before args s = true) (hcode : (Cond.code y bytes maxL ret).before args s = true)
    {W : Nat} {Pre : Pt → Array Value → Prop} {Post : Pt → Array Value → Option Value → Pt → Prop} {PostX : Pt → Array Value → Addr → Pt → Prop} (hK : vx_Back l R p e below s args y 3 W Pre Post PostX)
    {b : Addr} {cellB : Cell} (hcell : T.heap[b]? = some cellB) (hobj : cellB.vm.isStatics = false) (hcls : s.vm.findClass C = some cellB.cls)
    {g : JFrame} (hg : g.method = m) (hsize : g.locals.size = c.maxLocals) {argsL rest : List Value} (hlen : ∀ sig, parseMethodDescriptor x.desc = some sig → argsL.length = sig.parameters.length)
    (hstack : g.stack = argsL.reverse ++ .ref b :: rest) (hW : 2 * g.monitorRoom + (rest.map fun v => v.category).sum ≤ W) (hdg : decode c.code g.pc = .ok (.invokevirtual index, 3))
    (hpre : ∀ vm₁, s.WarmedH vm₁ → Pre ⟨T.setVm vm₁, locs, cells, slots⟩ (Value.ref b :: argsL).toArray) :
    (∃ (v : Option Value) (vm₁ : Vm) (B : Pt), s.WarmedH vm₁ ∧ Stand p l e R s m args below meth c B.U B.locs B.cells B.slots ∧ Post ⟨T.setVm vm₁, locs, cells, slots⟩ (Value.ref b :: argsL).toArray v B ∧
      ∀ target, Steps p.tables e below (B.U.setTop { g with pc := g.pc + 3, stack := v.toList ++ rest }) target → Steps p.tables e below (T.setTop g) target) ∨
    (∃ (q : Addr) (vm₁ : Vm) (B : Pt), s.WarmedH vm₁ ∧ Stand p l e R s m args below meth c B.U B.locs B.cells B.slots ∧ PostX ⟨T.setVm vm₁, locs, cells, slots⟩ (Value.ref b :: argsL).toArray q B ∧
      Steps p.tables e below (T.setTop g) ((B.U.setTop { g with stack := rest }).pushFrame (.throwing q))) := by
  obtain ⟨r0, r, hn, hrm, hstR, hsigR⟩ := hd0
  obtain ⟨cn, ck, r1, hcn, hck, hni, hf, hn1⟩ := Cond.sameMethod_found hsame
  cases hn.symm.trans hn1
  obtain ⟨mk, methM, hnamed, hmethM, -, habM⟩ := Cond.instanceMethod_spec hinst
  obtain ⟨c2, r2, m2, q1, q2, q3, q4, kP, hkP, hkPi⟩ := Cond.selects_spec hsel
  cases hcls.symm.trans q1
  cases hf.symm.trans q2
  cases hnamed.symm.trans q3
  have hselP : selectMethod e.platform s.vm cellB.cls r0 = .method mk := by rw [Launch.admits_selectMethod X.admits]; exact q4
  obtain ⟨vm₁, X₁, hstep₁⟩ := X.invokevirtualUp hexec hown hlink hsame howner hn hrm hstR (a := b) (cell := cellB) hcell
    (fun z h => by rw [h] at hobj; cases hobj) hselP hmethM habM hkP hkPi (g := g) hg (argsL := argsL) (rest := rest) (hlen _ hsigR) hstack hdg
  rcases hK m meth c ⟨T.setVm vm₁, locs, cells, slots⟩ { g with stack := rest } (.invokevirtual index) mk (Value.ref b :: argsL).toArray X₁ hg hsize hdg hW (X₁.named hnamed) (hpre vm₁ X₁.warmed) with ⟨v, B, X', hpost, hsteps⟩ | ⟨q, B, X', hpost, hsteps⟩
  · exact Or.inl ⟨v, vm₁, B, X₁.warmed, X', hpost, fun target h => hstep₁ _ fun acts => by rw [doInvoke_state]; exact hsteps.trans h⟩
  · exact Or.inr ⟨q, vm₁, B, X₁.warmed, X', hpost, hstep₁ _ fun acts => by rw [doInvoke_state]; exact hsteps⟩
theorem vx_runU {x y : MethodName} {bytes cc : ByteArray} {maxL nL mc ms n index : Nat} {ret : Option FieldType} {ws : List Cond} {rm : Room} {Pc : Array Value → State → Prop} {Qc : Array Value → State → Outcome → State → Prop} {XC : String → State → State → Prop} {free : Addr → Prop} {Ts : List Cond} {own C owner : String} {b : Addr} {As rest : List Value} {g : JFrame}
    (S : CallFix p m c cc nL s args Ts own) (hM : vx_Met l y ws rm Pc Qc XC mc ms free) (cw : va_CU R s args own C owner index x y bytes maxL ret ws rm mc ms n) (hp : PreV s H C b Pc As)
    (hg : g.method = m) (hn : As.length = n) (hsize : g.locals.size = nL) (hstack : g.stack = As.reverse ++ .ref b :: rest) (hW : 2 * g.monitorRoom + (rest.map fun v => v.category).sum ≤ 8) (hdg : decode cc g.pc = .ok (.invokevirtual index, 3)) (hf : cells + mc ≤ R.cells ∧ slots + ms ≤ R.slots) :
    vx_Run p l e R s m args below meth c H locs cells slots mc ms g rest (Qc (Value.ref b :: As).toArray) XC free := by
  obtain ⟨hrc, hrs, hfr, hlo, hws, hcw⟩ := cw.back
  have hini := cw.init
  have hK : vx_Back l R p e below s args y 3 8 (PreOf R mc ms Pc) (PostOf Qc mc ms free) (vx_Post XC mc ms free) := vx_back (bytes := bytes) (maxL := maxL) (ret := ret) hM hp.1 hrc hrs hfr hlo hws hcw (fun a' U hW => word_at hW (Or.inl (by first | rfl | simp [Cond.onTables, Cond.keeps, Cond.steady])) hini)
  obtain ⟨hx, hb, hml, ho, -⟩ := S
  obtain ⟨-, ⟨cellB, hcB, hoB, hclB⟩, hPc⟩ := hp
  intro T hT X
  rcases vx_callVU X hx (C := C) (owner := owner) (bytes := bytes) (maxL := maxL) (ret := ret) ho cw.link cw.same cw.decl cw.notMH cw.sel cw.inst cw.code hK (by rw [hT]; exact hcB) hoB hclB hg (hsize.trans hml.symm) (argsL := As) (rest := rest) (fun sig h => hn.trans (cw.len sig h)) hstack hW (by rw [hb]; exact hdg)
    (fun vm₁ hW₁ => ⟨hf.1, hf.2, hPc (T.setVm vm₁) hT hW₁⟩) with ⟨v, vm₁, ⟨U', l2, c2, s2⟩, hW₁, X', ⟨g', mk, t, L, e1, e2, hq, h1, hL, h2, h3⟩, st⟩ | ⟨q, vm₁, ⟨U', l2, c2, s2⟩, hW₁, X', ⟨g', mk, t, L, E, ce, e1, e2, hq, hce, hcv, hcl, h1, hL, h2, h3⟩, st⟩
  · dsimp only [Pt.U, Pt.locs, Pt.cells, Pt.slots] at X' e1 e2 h1 h2 h3 st
    subst h1; subst h2; subst h3
    exact Or.inl ⟨v, (T.setVm vm₁).calling g' mk (Value.ref b :: As).toArray, t, U', L, hT, X', hL, e1, e2, hq, st⟩
  · dsimp only [Pt.U, Pt.locs, Pt.cells, Pt.slots] at X' e1 e2 h1 h2 h3 st hcl
    subst h1; subst h2; subst h3
    exact Or.inr ⟨q, (T.setVm vm₁).calling g' mk (Value.ref b :: As).toArray, t, U', L, E, ce, hT, X', hL, e1, e2, hq, hce, hcv, vx_cls hW₁ hcl, st⟩
end
/-! ===== END ===== -/
/-! ===== BEGIN super.m(..) that may throw (follows va_callSU, va_runSU) ===== -/
section
variable {p : Program} {l : Launch} {e : Env} {R : Room} {s : State} {m : MethodId} {args : Array Value} {below : List Frame} {meth : Method} {c : Code} {H : Heap} {locs : List Loc} {cells slots : Nat}
theorem vx_callSU {T : State} {locs : List Loc} {cells slots : Nat} (X : Stand p l e R s m args below meth c T locs cells slots) (hexec : p.tables.exec = Jvm.exec) {own : String} {index : Nat} {y : MethodName} {bytes : ByteArray} {maxL : Nat} {ret : Option FieldType}
    (hown : s.vm.findClass own = some m.cls) (hlink : (Cond.methodLink own index y).before args s = true) (hsame : (Cond.sameMethod y.cls y.cls y.name y.desc).before args s = true) (hsup : (Cond.superclass own y.cls).before args s = true)
    (hinst : (Cond.instanceMethod y).before args s = true) (hcode : (Cond.code y bytes maxL ret).before args s = true) (hno : y.name ≠ "<init>")
    {W : Nat} {Pre : Pt → Array Value → Prop} {Post : Pt → Array Value → Option Value → Pt → Prop} {PostX : Pt → Array Value → Addr → Pt → Prop} (hK : vx_Back l R p e below s args y 3 W Pre Post PostX)
    {b : Addr} {cellB : Cell} {kB : Class} (hcell : T.heap[b]? = some cellB) (hobj : cellB.vm.isStatics = false) (hkB : s.vm.classes[cellB.cls]? = some kB)
    {g : JFrame} (hg : g.method = m) (hsize : g.locals.size = c.maxLocals) {argsL rest : List Value} (hlen : ∀ sig, parseMethodDescriptor y.desc = some sig → argsL.length = sig.parameters.length)
    (hstack : g.stack = argsL.reverse ++ .ref b :: rest) (hW : 2 * g.monitorRoom + (rest.map fun v => v.category).sum ≤ W) (hdg : decode c.code g.pc = .ok (.invokespecial index, 3))
    (hpre : ∀ vm₁, s.WarmedH vm₁ → Pre ⟨T.setVm vm₁, locs, cells, slots⟩ (Value.ref b :: argsL).toArray) :
    (∃ (v : Option Value) (vm₁ : Vm) (B : Pt), s.WarmedH vm₁ ∧ Stand p l e R s m args below meth c B.U B.locs B.cells B.slots ∧ Post ⟨T.setVm vm₁, locs, cells, slots⟩ (Value.ref b :: argsL).toArray v B ∧
      ∀ target, Steps p.tables e below (B.U.setTop { g with pc := g.pc + 3, stack := v.toList ++ rest }) target → Steps p.tables e below (T.setTop g) target) ∨
    (∃ (q : Addr) (vm₁ : Vm) (B : Pt), s.WarmedH vm₁ ∧ Stand p l e R s m args below meth c B.U B.locs B.cells B.slots ∧ PostX ⟨T.setVm vm₁, locs, cells, slots⟩ (Value.ref b :: argsL).toArray q B ∧
      Steps p.tables e below (T.setTop g) ((B.U.setTop { g with stack := rest }).pushFrame (.throwing q))) := by
  obtain ⟨mk, methM, hnamed, hmethM, hstM, habM⟩ := Cond.instanceMethod_spec hinst
  obtain ⟨methM', cM, hmethM', -, -, -, -, -, -, hsigM⟩ := Cond.code_spec hnamed hcode
  cases hmethM.symm.trans hmethM'
  obtain ⟨ps, dk, kp, hps, hdk, hkp, hsuper, -, -, hnid⟩ := Cond.superclass_spec hown hsup
  have hn : s.methodNamed? ⟨y.cls, y.name, y.desc⟩ = some mk := hnamed
  have hpm : ps = mk.cls := Option.some.inj (hps.symm.trans (findClass_of_methodNamed hnamed))
  have hsub : s.vm.isSubclass ps mk.cls = true := by rw [hpm]; simp [Vm.isSubclass, Vm.isSubclassAux]
  obtain ⟨vm₁, X₁, hstep₁⟩ := X.invokespecialUp hexec hown hlink hsame hn hmethM hstM habM hno hdk hnid hps hsuper hsub (a := b) (cell := cellB) hcell
    (fun z h => by rw [h] at hobj; cases hobj) hkB (g := g) hg (argsL := argsL) (rest := rest) (hlen _ hsigM) hstack hdg
  rcases hK m meth c ⟨T.setVm vm₁, locs, cells, slots⟩ { g with stack := rest } (.invokespecial index) mk (Value.ref b :: argsL).toArray X₁ hg hsize hdg hW (X₁.named hnamed) (hpre vm₁ X₁.warmed) with ⟨v, B, X', hpost, hsteps⟩ | ⟨q, B, X', hpost, hsteps⟩
  · exact Or.inl ⟨v, vm₁, B, X₁.warmed, X', hpost, fun target h => hstep₁ _ (by rw [doInvoke_state]; exact hsteps.trans h)⟩
  · exact Or.inr ⟨q, vm₁, B, X₁.warmed, X', hpost, hstep₁ _ (by rw [doInvoke_state]; exact hsteps)⟩
theorem vx_runSU {y : MethodName} {bytes cc : ByteArray} {maxL nL mc ms n index : Nat} {ret : Option FieldType} {ws : List Cond} {rm : Room} {Pc : Array Value → State → Prop} {Qc : Array Value → State → Outcome → State → Prop} {XC : String → State → State → Prop} {free : Addr → Prop} {Ts : List Cond} {own C : String} {cC : ClassId} {b : Addr} {As rest : List Value} {g : JFrame}
    (hat : ClassAt s C cC) (S : CallFix p m c cc nL s args Ts own) (hM : vx_Met l y ws rm Pc Qc XC mc ms free) (cw : va_CS R s args own index y bytes maxL ret ws rm mc ms n) (hp : PreV s H C b Pc As)
    (hg : g.method = m) (hn : As.length = n) (hsize : g.locals.size = nL) (hstack : g.stack = As.reverse ++ .ref b :: rest) (hW : 2 * g.monitorRoom + (rest.map fun v => v.category).sum ≤ 8) (hdg : decode cc g.pc = .ok (.invokespecial index, 3)) (hf : cells + mc ≤ R.cells ∧ slots + ms ≤ R.slots) :
    vx_Run p l e R s m args below meth c H locs cells slots mc ms g rest (Qc (Value.ref b :: As).toArray) XC free := by
  obtain ⟨⟨hrc, hrs, hfr, hlo, hws, hcw⟩, hl1, hl2, hl3, hl4, hini, hcode, hno, hlen⟩ := cw
  have hK : vx_Back l R p e below s args y 3 8 (PreOf R mc ms Pc) (PostOf Qc mc ms free) (vx_Post XC mc ms free) := vx_back (bytes := bytes) (maxL := maxL) (ret := ret) hM hp.1 hrc hrs hfr hlo hws hcw (fun a' U hW => word_at hW (Or.inl (by first | rfl | simp [Cond.onTables, Cond.keeps, Cond.steady])) hini)
  obtain ⟨hx, hb, hml, ho, -⟩ := S
  obtain ⟨-, ⟨cellB, hcB, hoB, hclB⟩, hPc⟩ := hp
  obtain ⟨hfc, kB, hkB, -⟩ := hat
  cases hfc.symm.trans hclB
  intro T hT X
  rcases vx_callSU X hx (bytes := bytes) (maxL := maxL) (ret := ret) ho hl1 hl2 hl3 hl4 hcode hno hK (by rw [hT]; exact hcB) hoB hkB hg (hsize.trans hml.symm) (argsL := As) (rest := rest) (fun sig h => hn.trans (hlen sig h)) hstack hW (by rw [hb]; exact hdg)
    (fun vm₁ hW₁ => ⟨hf.1, hf.2, hPc (T.setVm vm₁) hT hW₁⟩) with ⟨v, vm₁, ⟨U', l2, c2, s2⟩, hW₁, X', ⟨g', mk, t, L, e1, e2, hq, h1, hL, h2, h3⟩, st⟩ | ⟨q, vm₁, ⟨U', l2, c2, s2⟩, hW₁, X', ⟨g', mk, t, L, E, ce, e1, e2, hq, hce, hcv, hcl, h1, hL, h2, h3⟩, st⟩
  · dsimp only [Pt.U, Pt.locs, Pt.cells, Pt.slots] at X' e1 e2 h1 h2 h3 st
    subst h1; subst h2; subst h3
    exact Or.inl ⟨v, (T.setVm vm₁).calling g' mk (Value.ref b :: As).toArray, t, U', L, hT, X', hL, e1, e2, hq, st⟩
  · dsimp only [Pt.U, Pt.locs, Pt.cells, Pt.slots] at X' e1 e2 h1 h2 h3 st hcl
    subst h1; subst h2; subst h3
    exact Or.inr ⟨q, (T.setVm vm₁).calling g' mk (Value.ref b :: As).toArray, t, U', L, E, ce, hT, X', hL, e1, e2, hq, hce, hcv, vx_cls hW₁ hcl, st⟩
end
/-! ===== END ===== -/
/-! ===== BEGIN a private method of a nest mate that may throw (follows va_callVN, va_callSN, va_runVN, va_runSN) ===== -/
section
variable {p : Program} {l : Launch} {e : Env} {R : Room} {s : State} {m : MethodId} {args : Array Value} {below : List Frame} {meth : Method} {c : Code} {H : Heap} {locs : List Loc} {cells slots : Nat}
variable {T : State}
theorem vx_callVN (X : Stand p l e R s m args below meth c T locs cells slots) (hexec : p.tables.exec = Jvm.exec) {own C : String} {index : Nat} {host : String} {y : MethodName} {bytes : ByteArray} {maxL : Nat} {ret : Option FieldType}
    (hown : s.vm.findClass own = some m.cls) (hlink : (Cond.methodLinkNest own index y host).before args s = true) (hinst : (Cond.instanceMethod y).before args s = true) (hsel : (Cond.selects C y y).before args s = true)
    (hcode : (Cond.code y bytes maxL ret).before args s = true) (hy : y.cls ≠ "java/lang/invoke/MethodHandle" ∧ y.cls ≠ "java/lang/invoke/VarHandle")
    {W : Nat} {Pre : Pt → Array Value → Prop} {Post : Pt → Array Value → Option Value → Pt → Prop} {PostX : Pt → Array Value → Addr → Pt → Prop} (hK : vx_Back l R p e below s args y 3 W Pre Post PostX)
    {b : Addr} {cellB : Cell} (hcell : T.heap[b]? = some cellB) (hobj : cellB.vm.isStatics = false) (hcls : s.vm.findClass C = some cellB.cls)
    {g : JFrame} (hg : g.method = m) (hsize : g.locals.size = c.maxLocals) {argsL rest : List Value} (hlen : ∀ sig, parseMethodDescriptor y.desc = some sig → argsL.length = sig.parameters.length)
    (hstack : g.stack = argsL.reverse ++ .ref b :: rest) (hW : 2 * g.monitorRoom + (rest.map fun v => v.category).sum ≤ W) (hdg : decode c.code g.pc = .ok (.invokevirtual index, 3))
    (hpre : ∀ vm₁, s.WarmedH vm₁ → Pre ⟨T.setVm vm₁, locs, cells, slots⟩ (Value.ref b :: argsL).toArray) :
    (∃ (v : Option Value) (vm₁ : Vm) (B : Pt), s.WarmedH vm₁ ∧ Stand p l e R s m args below meth c B.U B.locs B.cells B.slots ∧ Post ⟨T.setVm vm₁, locs, cells, slots⟩ (Value.ref b :: argsL).toArray v B ∧
      ∀ target, Steps p.tables e below (B.U.setTop { g with pc := g.pc + 3, stack := v.toList ++ rest }) target → Steps p.tables e below (T.setTop g) target) ∨
    (∃ (q : Addr) (vm₁ : Vm) (B : Pt), s.WarmedH vm₁ ∧ Stand p l e R s m args below meth c B.U B.locs B.cells B.slots ∧ PostX ⟨T.setVm vm₁, locs, cells, slots⟩ (Value.ref b :: argsL).toArray q B ∧
      Steps p.tables e below (T.setTop g) ((B.U.setTop { g with stack := rest }).pushFrame (.throwing q))) := by
  obtain ⟨mk, methM, hnamed, hmethM, hstM, habM⟩ := Cond.instanceMethod_spec hinst
  obtain ⟨methM', cM, hmethM', -, -, -, -, -, -, hsigM⟩ := Cond.code_spec hnamed hcode
  cases hmethM.symm.trans hmethM'
  obtain ⟨c2, r2, m2, q1, q2, q3, q4, kP, hkP, hkPi⟩ := Cond.selects_spec hsel
  cases hcls.symm.trans q1
  cases (State.methodFound?_of_named hnamed hy).symm.trans q2
  cases hnamed.symm.trans q3
  have hselP : selectMethod e.platform s.vm cellB.cls mk = .method mk := by rw [Launch.admits_selectMethod X.admits]; exact q4
  obtain ⟨vm₁, X₁, hstep₁⟩ := X.invokevirtualNest hexec hown hlink hnamed hmethM hstM hkP hkPi hy (a := b) (cell := cellB) hcell
    (fun z h => by rw [h] at hobj; cases hobj) hselP hmethM habM hkP hkPi (g := g) hg (argsL := argsL) (rest := rest) (hlen _ hsigM) hstack hdg
  rcases hK m meth c ⟨T.setVm vm₁, locs, cells, slots⟩ { g with stack := rest } (.invokevirtual index) mk (Value.ref b :: argsL).toArray X₁ hg hsize hdg hW (X₁.named hnamed) (hpre vm₁ X₁.warmed) with ⟨v, B, X', hpost, hsteps⟩ | ⟨q, B, X', hpost, hsteps⟩
  · exact Or.inl ⟨v, vm₁, B, X₁.warmed, X', hpost, fun target h => hstep₁ _ fun acts => by rw [doInvoke_state]; exact hsteps.trans h⟩
  · exact Or.inr ⟨q, vm₁, B, X₁.warmed, X', hpost, hstep₁ _ fun acts => by rw [doInvoke_state]; exact hsteps⟩
theorem vx_callSN (X : Stand p l e R s m args below meth c T locs cells slots) (hexec : p.tables.exec = Jvm.exec) {own : String} {index : Nat} {host : String} {y : MethodName} {bytes : ByteArray} {maxL : Nat} {ret : Option FieldType}
    (hown : s.vm.findClass own = some m.cls) (hlink : (Cond.methodLinkNest own index y host).before args s = true) (hstat : (Cond.static y).before args s = true) (hinit : (Cond.initialized y.cls).before args s = true)
    (hcode : (Cond.code y bytes maxL ret).before args s = true) (hy : y.cls ≠ "java/lang/invoke/MethodHandle" ∧ y.cls ≠ "java/lang/invoke/VarHandle")
    {W : Nat} {Pre : Pt → Array Value → Prop} {Post : Pt → Array Value → Option Value → Pt → Prop} {PostX : Pt → Array Value → Addr → Pt → Prop} (hK : vx_Back l R p e below s args y 3 W Pre Post PostX)
    {g : JFrame} (hg : g.method = m) (hsize : g.locals.size = c.maxLocals) {argsL rest : List Value} (hlen : ∀ sig, parseMethodDescriptor y.desc = some sig → argsL.length = sig.parameters.length)
    (hstack : g.stack = argsL.reverse ++ rest) (hW : 2 * g.monitorRoom + (rest.map fun v => v.category).sum ≤ W) (hdg : decode c.code g.pc = .ok (.invokestatic index, 3))
    (hpre : ∀ vm₁, s.WarmedH vm₁ → Pre ⟨T.setVm vm₁, locs, cells, slots⟩ argsL.toArray) :
    (∃ (v : Option Value) (vm₁ : Vm) (B : Pt), s.WarmedH vm₁ ∧ Stand p l e R s m args below meth c B.U B.locs B.cells B.slots ∧ Post ⟨T.setVm vm₁, locs, cells, slots⟩ argsL.toArray v B ∧
      ∀ target, Steps p.tables e below (B.U.setTop { g with pc := g.pc + 3, stack := v.toList ++ rest }) target → Steps p.tables e below (T.setTop g) target) ∨
    (∃ (q : Addr) (vm₁ : Vm) (B : Pt), s.WarmedH vm₁ ∧ Stand p l e R s m args below meth c B.U B.locs B.cells B.slots ∧ PostX ⟨T.setVm vm₁, locs, cells, slots⟩ argsL.toArray q B ∧
      Steps p.tables e below (T.setTop g) ((B.U.setTop { g with stack := rest }).pushFrame (.throwing q))) := by
  obtain ⟨mk, hnamed⟩ := Cond.code_named hcode
  obtain ⟨methM, cM, hmethM, -, -, -, -, -, -, hsigM⟩ := Cond.code_spec hnamed hcode
  have hstatic : methM.isStatic = true := Cond.static_spec hnamed hmethM hstat
  obtain ⟨kP, hkP, -⟩ := className_of_methodNamed hnamed
  have hinitP : kP.init = .initialized := Cond.initialized_spec (findClass_of_methodNamed hnamed) hkP hinit
  obtain ⟨vm₁, X₁, hstep₁⟩ := X.invokestaticNest hexec hown hlink hnamed hmethM hstatic hkP hinitP hy (g := g) hg (argsL := argsL) (rest := rest) (hlen _ hsigM) hstack hdg
  rcases hK m meth c ⟨T.setVm vm₁, locs, cells, slots⟩ { g with stack := rest } (.invokestatic index) mk argsL.toArray X₁ hg hsize hdg hW (X₁.named hnamed) (hpre vm₁ X₁.warmed) with ⟨v, B, X', hpost, hsteps⟩ | ⟨q, B, X', hpost, hsteps⟩
  · exact Or.inl ⟨v, vm₁, B, X₁.warmed, X', hpost, fun target h => hstep₁ _ fun acts => by rw [doInvoke_state]; exact hsteps.trans h⟩
  · exact Or.inr ⟨q, vm₁, B, X₁.warmed, X', hpost, hstep₁ _ fun acts => by rw [doInvoke_state]; exact hsteps⟩
theorem vx_runVN {y : MethodName} {bytes cc : ByteArray} {maxL nL mc ms n index : Nat} {ret : Option FieldType} {ws : List Cond} {rm : Room} {Pc : Array Value → State → Prop} {Qc : Array Value → State → Outcome → State → Prop} {XC : String → State → State → Prop} {free : Addr → Prop} {Ts : List Cond} {own C host : String} {b : Addr} {As rest : List Value} {g : JFrame}
    (S : CallFix p m c cc nL s args Ts own) (hM : vx_Met l y ws rm Pc Qc XC mc ms free) (cw : va_CN R s args own index y host bytes maxL ret ws rm mc ms n ∧ (Cond.instanceMethod y).before args s = true ∧ (Cond.selects C y y).before args s = true) (hp : PreV s H C b Pc As)
    (hg : g.method = m) (hn : As.length = n) (hsize : g.locals.size = nL) (hstack : g.stack = As.reverse ++ .ref b :: rest) (hW : 2 * g.monitorRoom + (rest.map fun v => v.category).sum ≤ 8) (hdg : decode cc g.pc = .ok (.invokevirtual index, 3)) (hf : cells + mc ≤ R.cells ∧ slots + ms ≤ R.slots) :
    vx_Run p l e R s m args below meth c H locs cells slots mc ms g rest (Qc (Value.ref b :: As).toArray) XC free := by
  obtain ⟨⟨⟨hrc, hrs, hfr, hlo, hws, hcw⟩, hcode, hini, hy, hlen, hl⟩, hx1, hx2⟩ := cw
  have hK : vx_Back l R p e below s args y 3 8 (PreOf R mc ms Pc) (PostOf Qc mc ms free) (vx_Post XC mc ms free) := vx_back (bytes := bytes) (maxL := maxL) (ret := ret) hM hp.1 hrc hrs hfr hlo hws hcw (fun a' U hW => word_at hW (Or.inl (by first | rfl | simp [Cond.onTables, Cond.keeps, Cond.steady])) hini)
  obtain ⟨hx, hb, hml, ho, -⟩ := S
  obtain ⟨-, ⟨cellB, hcB, hoB, hclB⟩, hPc⟩ := hp
  intro T hT X
  rcases vx_callVN X hx (C := C) (bytes := bytes) (maxL := maxL) (ret := ret) ho hl hx1 hx2 hcode hy hK (by rw [hT]; exact hcB) hoB hclB hg (hsize.trans hml.symm) (argsL := As) (rest := rest) (fun sig h => hn.trans (hlen sig h)) hstack hW (by rw [hb]; exact hdg)
    (fun vm₁ hW₁ => ⟨hf.1, hf.2, hPc (T.setVm vm₁) hT hW₁⟩) with ⟨v, vm₁, ⟨U', l2, c2, s2⟩, hW₁, X', ⟨g', mk, t, L, e1, e2, hq, h1, hL, h2, h3⟩, st⟩ | ⟨q, vm₁, ⟨U', l2, c2, s2⟩, hW₁, X', ⟨g', mk, t, L, E, ce, e1, e2, hq, hce, hcv, hcl, h1, hL, h2, h3⟩, st⟩
  · dsimp only [Pt.U, Pt.locs, Pt.cells, Pt.slots] at X' e1 e2 h1 h2 h3 st
    subst h1; subst h2; subst h3
    exact Or.inl ⟨v, (T.setVm vm₁).calling g' mk (Value.ref b :: As).toArray, t, U', L, hT, X', hL, e1, e2, hq, st⟩
  · dsimp only [Pt.U, Pt.locs, Pt.cells, Pt.slots] at X' e1 e2 h1 h2 h3 st hcl
    subst h1; subst h2; subst h3
    exact Or.inr ⟨q, (T.setVm vm₁).calling g' mk (Value.ref b :: As).toArray, t, U', L, E, ce, hT, X', hL, e1, e2, hq, hce, hcv, vx_cls hW₁ hcl, st⟩
theorem vx_runSN {y : MethodName} {bytes cc : ByteArray} {maxL nL mc ms n index : Nat} {ret : Option FieldType} {ws : List Cond} {rm : Room} {Pc : Array Value → State → Prop} {Qc : Array Value → State → Outcome → State → Prop} {XC : String → State → State → Prop} {free : Addr → Prop} {Ts : List Cond} {own host : String} {As rest : List Value} {g : JFrame}
    (S : CallFix p m c cc nL s args Ts own) (hM : vx_Met l y ws rm Pc Qc XC mc ms free) (cw : va_CN R s args own index y host bytes maxL ret ws rm mc ms n ∧ (Cond.static y).before args s = true ∧ True) (hp : PreS s H Pc As)
    (hg : g.method = m) (hn : As.length = n) (hsize : g.locals.size = nL) (hstack : g.stack = As.reverse ++ rest) (hW : 2 * g.monitorRoom + (rest.map fun v => v.category).sum ≤ 8) (hdg : decode cc g.pc = .ok (.invokestatic index, 3)) (hf : cells + mc ≤ R.cells ∧ slots + ms ≤ R.slots) :
    vx_Run p l e R s m args below meth c H locs cells slots mc ms g rest (Qc As.toArray) XC free := by
  obtain ⟨⟨⟨hrc, hrs, hfr, hlo, hws, hcw⟩, hcode, hini, hy, hlen, hl⟩, hx1, hx2⟩ := cw
  have hK : vx_Back l R p e below s args y 3 8 (PreOf R mc ms Pc) (PostOf Qc mc ms free) (vx_Post XC mc ms free) := vx_back (bytes := bytes) (maxL := maxL) (ret := ret) hM hp.1 hrc hrs hfr hlo hws hcw (fun a' U hW => word_at hW (Or.inl (by first | rfl | simp [Cond.onTables, Cond.keeps, Cond.steady])) hini)
  obtain ⟨hx, hb, hml, ho, -⟩ := S
  have hPc := hp.2
  intro T hT X
  rcases vx_callSN X hx (bytes := bytes) (maxL := maxL) (ret := ret) ho hl hx1 hini hcode hy hK hg (hsize.trans hml.symm) (argsL := As) (rest := rest) (fun sig h => hn.trans (hlen sig h)) hstack hW (by rw [hb]; exact hdg)
    (fun vm₁ hW₁ => ⟨hf.1, hf.2, hPc (T.setVm vm₁) hT hW₁⟩) with ⟨v, vm₁, ⟨U', l2, c2, s2⟩, hW₁, X', ⟨g', mk, t, L, e1, e2, hq, h1, hL, h2, h3⟩, st⟩ | ⟨q, vm₁, ⟨U', l2, c2, s2⟩, hW₁, X', ⟨g', mk, t, L, E, ce, e1, e2, hq, hce, hcv, hcl, h1, hL, h2, h3⟩, st⟩
  · dsimp only [Pt.U, Pt.locs, Pt.cells, Pt.slots] at X' e1 e2 h1 h2 h3 st
    subst h1; subst h2; subst h3
    exact Or.inl ⟨v, (T.setVm vm₁).calling g' mk As.toArray, t, U', L, hT, X', hL, e1, e2, hq, st⟩
  · dsimp only [Pt.U, Pt.locs, Pt.cells, Pt.slots] at X' e1 e2 h1 h2 h3 st hcl
    subst h1; subst h2; subst h3
    exact Or.inr ⟨q, (T.setVm vm₁).calling g' mk As.toArray, t, U', L, E, ce, hT, X', hL, e1, e2, hq, hce, hcv, vx_cls hW₁ hcl, st⟩
end
/-! ===== END ===== -/
/-! ===== BEGIN calls by an interface of methods that may throw (vx_callIF, vx_runF follow va_callIF, va_runF of this kit) ===== -/
section
variable {p : Program} {l : Launch} {e : Env} {R : Room} {s : State} {m : MethodId} {args : Array Value} {below : List Frame} {meth : Method} {c : Code} {H : Heap} {locs : List Loc} {cells slots : Nat} {Q : State → Prop}
variable {mc ms : Nat} {free : Addr → Prop} {A0 A1 : Nat → Prop} {H0 : Heap} {a : Array Value} {pc : Nat} {ls : Array Slot} {st0 rest : List Value}
def vx_Run5 (p : Program) (l : Launch) (e : Env) (R : Room) (s : State) (m : MethodId) (args : Array Value) (below : List Frame) (meth : Method) (c : Code) (H : Heap) (locs : List Loc) (cells slots mc ms : Nat) (g : JFrame) (rest : List Value) (Qa : State → Outcome → State → Prop) (XC : String → State → State → Prop) (free : Addr → Prop) : Prop :=
  ∀ T : State, T.heap = H → Stand p l e R s m args below meth c T locs cells slots →
    (∃ (v : Option Value) (st₀ t T' : State) (L : List Loc), st₀.heap = H ∧ Stand p l e R s m args below meth c T' (locs ++ L) (cells + mc) (slots + ms) ∧ (∀ q ∈ L, free q.base) ∧ T'.heap = t.heap ∧ T'.vm = t.vm ∧ Qa st₀ (.returned v) t ∧
      Goes p e below T g T' { g with pc := g.pc + 5, stack := v.toList ++ rest }) ∨
    (∃ (q : Addr) (st₀ t T' : State) (L : List Loc) (E : String) (ce : Cell), st₀.heap = H ∧ Stand p l e R s m args below meth c T' (locs ++ L) (cells + mc) (slots + ms) ∧ (∀ z ∈ L, free z.base) ∧ T'.heap = t.heap ∧ T'.vm = t.vm ∧ XC E st₀ t ∧ t.heap[q]? = some ce ∧ ce.vm = .none ∧ s.vm.findClass E = some ce.cls ∧
      Steps p.tables e below (T.setTop g) ((T'.setTop { g with stack := rest }).pushFrame (.throwing q)))
theorem vx_callIF {T : State} (X : Stand p l e R s m args below meth c T locs cells slots) (hexec : p.tables.exec = Jvm.exec) {own C : String} {index count : Nat} {x y : MethodName} {bytes : ByteArray} {maxL : Nat} {ret : Option FieldType}
    (hown : s.vm.findClass own = some m.cls) (hlink : (Cond.methodLink own index x).before args s = true) (hdecl : (Cond.declares x).before args s = true) (hface : (Cond.interfaceMethod x.cls x.cls x.name x.desc).before args s = true)
    (hsel : (Cond.selects C x y).before args s = true) (hinst : (Cond.instanceMethod y).before args s = true) (hpub : (Cond.publicMethod y).before args s = true) (hunh : (Cond.unhidden C x.name x.desc).before args s = true)
    (hcast : (Cond.castable C x.cls).before args s = true) (hcode : (Cond.code y bytes maxL ret).before args s = true) (hx : x.cls ≠ "java/lang/invoke/MethodHandle" ∧ x.cls ≠ "java/lang/invoke/VarHandle")
    {W9 : Nat} {Pre : Pt → Array Value → Prop} {Post : Pt → Array Value → Option Value → Pt → Prop} {PostX : Pt → Array Value → Addr → Pt → Prop} (hK : vx_Back l R p e below s args y 5 W9 Pre Post PostX)
    {b : Addr} {cellB : Cell} {kB : Class} (hcell : T.heap[b]? = some cellB) (hobj : cellB.vm.isStatics = false) (hcls : s.vm.findClass C = some cellB.cls) (hkB : s.vm.classes[cellB.cls]? = some kB)
    {g : JFrame} (hg : g.method = m) (hsize : g.locals.size = c.maxLocals) {argsL rest : List Value} (hlen : ∀ sig, parseMethodDescriptor x.desc = some sig → argsL.length = sig.parameters.length)
    (hstack : g.stack = argsL.reverse ++ .ref b :: rest) (hW : 2 * g.monitorRoom + (rest.map fun v => v.category).sum ≤ W9) (hdg : decode c.code g.pc = .ok (.invokeinterface index count, 5))
    (hpre : ∀ vm₁, s.WarmedH vm₁ → Pre ⟨T.setVm vm₁, locs, cells, slots⟩ (Value.ref b :: argsL).toArray) :
    (∃ (v : Option Value) (vm₁ : Vm) (B : Pt), s.WarmedH vm₁ ∧ Stand p l e R s m args below meth c B.U B.locs B.cells B.slots ∧ Post ⟨T.setVm vm₁, locs, cells, slots⟩ (Value.ref b :: argsL).toArray v B ∧
      ∀ target, Steps p.tables e below (B.U.setTop { g with pc := g.pc + 5, stack := v.toList ++ rest }) target → Steps p.tables e below (T.setTop g) target) ∨
    (∃ (q : Addr) (vm₁ : Vm) (B : Pt), s.WarmedH vm₁ ∧ Stand p l e R s m args below meth c B.U B.locs B.cells B.slots ∧ PostX ⟨T.setVm vm₁, locs, cells, slots⟩ (Value.ref b :: argsL).toArray q B ∧
      Steps p.tables e below (T.setTop g) ((B.U.setTop { g with stack := rest }).pushFrame (.throwing q))) := by
  obtain ⟨r0, r, hn, hrm, hstR, hsigR⟩ := Cond.declares_spec hdecl
  obtain ⟨cL, kL, r1, hcL, hkL, hiL, hfoundL, hn1⟩ := Cond.interfaceMethod_spec hface
  cases hn.symm.trans hn1
  have hr0cls : r0.cls = cL := Option.some.inj ((findClass_of_methodNamed hn).symm.trans hcL)
  obtain ⟨hnameR, hdescR⟩ := name_of_methodNamed hn hrm
  obtain ⟨mk, methM, hnamed, hmethM, -, habM⟩ := Cond.instanceMethod_spec hinst
  obtain ⟨c2, r2, m2, q1, q2, q3, q4, -⟩ := Cond.selects_spec hsel
  cases hcls.symm.trans q1
  cases hfoundL.symm.trans q2
  cases hnamed.symm.trans q3
  have hselP : selectMethod e.platform s.vm cellB.cls r0 = .method mk := by rw [Launch.admits_selectMethod X.admits]; exact q4
  have hpubM : hasFlag methM.accessFlags Acc.public_ = true := Cond.publicMethod_spec hnamed hmethM hpub
  have hway : ((cellB.cls :: s.vm.superclasses cellB.cls).any fun k => (declaredIn s.vm r.name r.desc k).any fun (_, z) => z.isPrivate || z.isStatic) = false := by
    rw [hnameR, hdescR]; exact Cond.unhidden_spec hcls hunh
  obtain ⟨c3, t3, w1, w2, w3⟩ := Cond.castable_spec hcast
  cases hcls.symm.trans w1
  cases hcL.symm.trans w2
  obtain ⟨vm₁, X₁, hstep₁⟩ := X.invokeinterface hexec hown hlink hn hrm hstR (by rw [hr0cls]; exact hkL) hiL hx (a := b) (cell := cellB) (kcell := kB) hcell
    (fun z h => by rw [h] at hobj; cases hobj) hkB (by rw [hr0cls]; exact w3) hselP hmethM hway hpubM habM (g := g) hg (argsL := argsL) (rest := rest) (hlen _ hsigR) hstack hdg
  rcases hK m meth c ⟨T.setVm vm₁, locs, cells, slots⟩ { g with stack := rest } (.invokeinterface index count) mk (Value.ref b :: argsL).toArray X₁ hg hsize hdg hW (X₁.named hnamed) (hpre vm₁ X₁.warmed) with ⟨v, B, X', hpost, hsteps⟩ | ⟨q, B, X', hpost, hsteps⟩
  · exact Or.inl ⟨v, vm₁, B, X₁.warmed, X', hpost, fun target h => hstep₁ _ fun acts => by rw [doInvoke_state]; exact hsteps.trans h⟩
  · exact Or.inr ⟨q, vm₁, B, X₁.warmed, X', hpost, hstep₁ _ fun acts => by rw [doInvoke_state]; exact hsteps⟩
theorem vx_runF {x y : MethodName} {bytes cc : ByteArray} {maxL nL mc ms n index count : Nat} {ret : Option FieldType} {ws : List Cond} {rm : Room} {Pc : Array Value → State → Prop} {Qc : Array Value → State → Outcome → State → Prop} {XC : String → State → State → Prop} {free : Addr → Prop} {Ts : List Cond} {own C : String} {cC : ClassId} {b : Addr} {As rest : List Value} {g : JFrame}
    (hat : ClassAt s C cC) (S : CallFix p m c cc nL s args Ts own) (hM : vx_Met l y ws rm Pc Qc XC mc ms free) (cw : va_CI R s args own C index x y bytes maxL ret ws rm mc ms n) (hp : PreV s H C b Pc As)
    (hg : g.method = m) (hn : As.length = n) (hsize : g.locals.size = nL) (hstack : g.stack = As.reverse ++ .ref b :: rest) (hW : 2 * g.monitorRoom + (rest.map fun v => v.category).sum ≤ 8) (hdg : decode cc g.pc = .ok (.invokeinterface index count, 5)) (hf : cells + mc ≤ R.cells ∧ slots + ms ≤ R.slots) :
    vx_Run5 p l e R s m args below meth c H locs cells slots mc ms g rest (Qc (Value.ref b :: As).toArray) XC free := by
  obtain ⟨hrc, hrs, hfr, hlo, hws, hcw⟩ := cw.back
  have hini := cw.init
  have hK : vx_Back l R p e below s args y 5 8 (PreOf R mc ms Pc) (PostOf Qc mc ms free) (vx_Post XC mc ms free) := vx_back (bytes := bytes) (maxL := maxL) (ret := ret) hM hp.1 hrc hrs hfr hlo hws hcw (fun a' U hW => word_at hW (Or.inl (by first | rfl | simp [Cond.onTables, Cond.keeps, Cond.steady])) hini)
  obtain ⟨hx, hb, hml, ho, -⟩ := S
  obtain ⟨-, ⟨cellB, hcB, hoB, hclB⟩, hPc⟩ := hp
  obtain ⟨hfc, kB, hkB, -⟩ := hat
  cases hfc.symm.trans hclB
  intro T hT X
  rcases vx_callIF X hx (C := C) (bytes := bytes) (maxL := maxL) (ret := ret) ho cw.link cw.decl cw.face cw.sel cw.inst cw.pub cw.unh cw.cast cw.code cw.notMH hK (by rw [hT]; exact hcB) hoB hclB hkB hg (hsize.trans hml.symm) (argsL := As) (rest := rest) (fun sig h => hn.trans (cw.len sig h)) hstack hW (by rw [hb]; exact hdg)
    (fun vm₁ hW₁ => ⟨hf.1, hf.2, hPc (T.setVm vm₁) hT hW₁⟩) with ⟨v, vm₁, ⟨U', l2, c2, s2⟩, hW₁, X', ⟨g', mk, t, L, e1, e2, hq, h1, hL, h2, h3⟩, st⟩ | ⟨q, vm₁, ⟨U', l2, c2, s2⟩, hW₁, X', ⟨g', mk, t, L, E, ce, e1, e2, hq, hce, hcv, hcl, h1, hL, h2, h3⟩, st⟩
  · dsimp only [Pt.U, Pt.locs, Pt.cells, Pt.slots] at X' e1 e2 h1 h2 h3 st
    subst h1; subst h2; subst h3
    exact Or.inl ⟨v, (T.setVm vm₁).calling g' mk (Value.ref b :: As).toArray, t, U', L, hT, X', hL, e1, e2, hq, st⟩
  · dsimp only [Pt.U, Pt.locs, Pt.cells, Pt.slots] at X' e1 e2 h1 h2 h3 st hcl
    subst h1; subst h2; subst h3
    exact Or.inr ⟨q, (T.setVm vm₁).calling g' mk (Value.ref b :: As).toArray, t, U', L, E, ce, hT, X', hL, e1, e2, hq, hce, hcv, vx_cls hW₁ hcl, st⟩
theorem vx_callFv {S SX : Type} {post : S → Prop} {px : SX → Prop} {B : S → State → Prop} {BX : String → SX → State → Prop} {AX : Nat → Prop} (hr : vx_Run5 p l e R s m args below meth c H locs cells slots mc ms (F0 m pc ls st0) rest (va_Qv post B A1 a) (vx_X px BX AX) free) (hS : va_S A0 H0 H locs) (hA : ∀ q, q < H.size → A1 q → A0 q) (hf : ∀ q, free q → A0 q) (hAX : ∀ q, q < H.size → AX q → A0 q)
    (kx : ∀ (E : String) (ce : Cell) (q9 : Addr) (u : SX) (t : State) (H1 : Heap) (locs1 : List Loc), t.heap = H1 → s.vm.Alike t.vm → px u → BX E u t → H.size ≤ H1.size → (∀ q : Nat, q < H.size → ¬ AX q → H1[q]? = H[q]?) → va_S A0 H0 H1 locs1 → H1[q9]? = some ce → ce.vm = .none → s.vm.findClass E = some ce.cls → vx_W p l e R s m args below meth c H1 locs1 (cells + mc) (slots + ms) Q (F0 m pc ls rest) q9)
    (kk : ∀ (u : S) (t : State) (H1 : Heap) (locs1 : List Loc), t.heap = H1 → s.vm.Alike t.vm → post u → B u t → H.size ≤ H1.size → (∀ q : Nat, q < H.size → ¬ A1 q → H1[q]? = H[q]?) → va_S A0 H0 H1 locs1 → W p l e R s m args below meth c H1 locs1 (cells + mc) (slots + ms) Q (F0 m (pc + 5) ls (rest))) : W p l e R s m args below meth c H locs cells slots Q (F0 m pc ls st0) := by
  intro T hT X
  rcases hr T hT X with ⟨v, st₀, t, T', L, h0, X', hL, e1, e2, ⟨⟨u, hv, hp, hb⟩, hF⟩, st⟩ | ⟨q, st₀, t, T', L, E, ce, h0, X', hL, e1, e2, ⟨u, hp, hb, hF⟩, hce, hcv, hcl, st⟩
  · cases hv
    obtain ⟨k1, k2, k3⟩ := vx_keep h0 e1 hS hA hf hL hF
    obtain ⟨t2, a1, b1⟩ := kk u t T'.heap (locs ++ L) e1.symm (by rw [← e2]; exact X'.warmed.alike) hp hb k1 k2 k3 T' rfl X'
    exact ⟨t2, st t2 a1, b1⟩
  · obtain ⟨k1, k2, k3⟩ := vx_keep h0 e1 hS hAX hf hL hF
    obtain ⟨t2, a1, b1⟩ := kx E ce q u t T'.heap (locs ++ L) e1.symm (by rw [← e2]; exact X'.warmed.alike) hp hb k1 k2 k3 (by rw [e1]; exact hce) hcv hcl T' rfl X'
    exact ⟨t2, st.trans a1, b1⟩
theorem vx_callFi {S SX : Type} {post : Int32 → S → Prop} {px : SX → Prop} {B : S → State → Prop} {BX : String → SX → State → Prop} {AX : Nat → Prop} (hr : vx_Run5 p l e R s m args below meth c H locs cells slots mc ms (F0 m pc ls st0) rest (va_Qi post B A1 a) (vx_X px BX AX) free) (hS : va_S A0 H0 H locs) (hA : ∀ q, q < H.size → A1 q → A0 q) (hf : ∀ q, free q → A0 q) (hAX : ∀ q, q < H.size → AX q → A0 q)
    (kx : ∀ (E : String) (ce : Cell) (q9 : Addr) (u : SX) (t : State) (H1 : Heap) (locs1 : List Loc), t.heap = H1 → s.vm.Alike t.vm → px u → BX E u t → H.size ≤ H1.size → (∀ q : Nat, q < H.size → ¬ AX q → H1[q]? = H[q]?) → va_S A0 H0 H1 locs1 → H1[q9]? = some ce → ce.vm = .none → s.vm.findClass E = some ce.cls → vx_W p l e R s m args below meth c H1 locs1 (cells + mc) (slots + ms) Q (F0 m pc ls rest) q9)
    (kk : ∀ (r : Int32) (u : S) (t : State) (H1 : Heap) (locs1 : List Loc), t.heap = H1 → s.vm.Alike t.vm → post r u → B u t → H.size ≤ H1.size → (∀ q : Nat, q < H.size → ¬ A1 q → H1[q]? = H[q]?) → va_S A0 H0 H1 locs1 → W p l e R s m args below meth c H1 locs1 (cells + mc) (slots + ms) Q (F0 m (pc + 5) ls (.int r :: rest))) : W p l e R s m args below meth c H locs cells slots Q (F0 m pc ls st0) := by
  intro T hT X
  rcases hr T hT X with ⟨v, st₀, t, T', L, h0, X', hL, e1, e2, ⟨⟨r, u, hv, hp, hb⟩, hF⟩, st⟩ | ⟨q, st₀, t, T', L, E, ce, h0, X', hL, e1, e2, ⟨u, hp, hb, hF⟩, hce, hcv, hcl, st⟩
  · cases hv
    obtain ⟨k1, k2, k3⟩ := vx_keep h0 e1 hS hA hf hL hF
    obtain ⟨t2, a1, b1⟩ := kk r u t T'.heap (locs ++ L) e1.symm (by rw [← e2]; exact X'.warmed.alike) hp hb k1 k2 k3 T' rfl X'
    exact ⟨t2, st t2 a1, b1⟩
  · obtain ⟨k1, k2, k3⟩ := vx_keep h0 e1 hS hAX hf hL hF
    obtain ⟨t2, a1, b1⟩ := kx E ce q u t T'.heap (locs ++ L) e1.symm (by rw [← e2]; exact X'.warmed.alike) hp hb k1 k2 k3 (by rw [e1]; exact hce) hcv hcl T' rfl X'
    exact ⟨t2, st.trans a1, b1⟩
theorem vx_callFl {S SX : Type} {post : Int64 → S → Prop} {px : SX → Prop} {B : S → State → Prop} {BX : String → SX → State → Prop} {AX : Nat → Prop} (hr : vx_Run5 p l e R s m args below meth c H locs cells slots mc ms (F0 m pc ls st0) rest (va_Ql post B A1 a) (vx_X px BX AX) free) (hS : va_S A0 H0 H locs) (hA : ∀ q, q < H.size → A1 q → A0 q) (hf : ∀ q, free q → A0 q) (hAX : ∀ q, q < H.size → AX q → A0 q)
    (kx : ∀ (E : String) (ce : Cell) (q9 : Addr) (u : SX) (t : State) (H1 : Heap) (locs1 : List Loc), t.heap = H1 → s.vm.Alike t.vm → px u → BX E u t → H.size ≤ H1.size → (∀ q : Nat, q < H.size → ¬ AX q → H1[q]? = H[q]?) → va_S A0 H0 H1 locs1 → H1[q9]? = some ce → ce.vm = .none → s.vm.findClass E = some ce.cls → vx_W p l e R s m args below meth c H1 locs1 (cells + mc) (slots + ms) Q (F0 m pc ls rest) q9)
    (kk : ∀ (r : Int64) (u : S) (t : State) (H1 : Heap) (locs1 : List Loc), t.heap = H1 → s.vm.Alike t.vm → post r u → B u t → H.size ≤ H1.size → (∀ q : Nat, q < H.size → ¬ A1 q → H1[q]? = H[q]?) → va_S A0 H0 H1 locs1 → W p l e R s m args below meth c H1 locs1 (cells + mc) (slots + ms) Q (F0 m (pc + 5) ls (.long r :: rest))) : W p l e R s m args below meth c H locs cells slots Q (F0 m pc ls st0) := by
  intro T hT X
  rcases hr T hT X with ⟨v, st₀, t, T', L, h0, X', hL, e1, e2, ⟨⟨r, u, hv, hp, hb⟩, hF⟩, st⟩ | ⟨q, st₀, t, T', L, E, ce, h0, X', hL, e1, e2, ⟨u, hp, hb, hF⟩, hce, hcv, hcl, st⟩
  · cases hv
    obtain ⟨k1, k2, k3⟩ := vx_keep h0 e1 hS hA hf hL hF
    obtain ⟨t2, a1, b1⟩ := kk r u t T'.heap (locs ++ L) e1.symm (by rw [← e2]; exact X'.warmed.alike) hp hb k1 k2 k3 T' rfl X'
    exact ⟨t2, st t2 a1, b1⟩
  · obtain ⟨k1, k2, k3⟩ := vx_keep h0 e1 hS hAX hf hL hF
    obtain ⟨t2, a1, b1⟩ := kx E ce q u t T'.heap (locs ++ L) e1.symm (by rw [← e2]; exact X'.warmed.alike) hp hb k1 k2 k3 (by rw [e1]; exact hce) hcv hcl T' rfl X'
    exact ⟨t2, st.trans a1, b1⟩
theorem vx_callFf {S SX : Type} {post : UInt32 → S → Prop} {px : SX → Prop} {B : S → State → Prop} {BX : String → SX → State → Prop} {AX : Nat → Prop} (hr : vx_Run5 p l e R s m args below meth c H locs cells slots mc ms (F0 m pc ls st0) rest (va_Qf post B A1 a) (vx_X px BX AX) free) (hS : va_S A0 H0 H locs) (hA : ∀ q, q < H.size → A1 q → A0 q) (hf : ∀ q, free q → A0 q) (hAX : ∀ q, q < H.size → AX q → A0 q)
    (kx : ∀ (E : String) (ce : Cell) (q9 : Addr) (u : SX) (t : State) (H1 : Heap) (locs1 : List Loc), t.heap = H1 → s.vm.Alike t.vm → px u → BX E u t → H.size ≤ H1.size → (∀ q : Nat, q < H.size → ¬ AX q → H1[q]? = H[q]?) → va_S A0 H0 H1 locs1 → H1[q9]? = some ce → ce.vm = .none → s.vm.findClass E = some ce.cls → vx_W p l e R s m args below meth c H1 locs1 (cells + mc) (slots + ms) Q (F0 m pc ls rest) q9)
    (kk : ∀ (r : UInt32) (u : S) (t : State) (H1 : Heap) (locs1 : List Loc), t.heap = H1 → s.vm.Alike t.vm → post r u → B u t → H.size ≤ H1.size → (∀ q : Nat, q < H.size → ¬ A1 q → H1[q]? = H[q]?) → va_S A0 H0 H1 locs1 → W p l e R s m args below meth c H1 locs1 (cells + mc) (slots + ms) Q (F0 m (pc + 5) ls (.float r :: rest))) : W p l e R s m args below meth c H locs cells slots Q (F0 m pc ls st0) := by
  intro T hT X
  rcases hr T hT X with ⟨v, st₀, t, T', L, h0, X', hL, e1, e2, ⟨⟨r, u, hv, hp, hb⟩, hF⟩, st⟩ | ⟨q, st₀, t, T', L, E, ce, h0, X', hL, e1, e2, ⟨u, hp, hb, hF⟩, hce, hcv, hcl, st⟩
  · cases hv
    obtain ⟨k1, k2, k3⟩ := vx_keep h0 e1 hS hA hf hL hF
    obtain ⟨t2, a1, b1⟩ := kk r u t T'.heap (locs ++ L) e1.symm (by rw [← e2]; exact X'.warmed.alike) hp hb k1 k2 k3 T' rfl X'
    exact ⟨t2, st t2 a1, b1⟩
  · obtain ⟨k1, k2, k3⟩ := vx_keep h0 e1 hS hAX hf hL hF
    obtain ⟨t2, a1, b1⟩ := kx E ce q u t T'.heap (locs ++ L) e1.symm (by rw [← e2]; exact X'.warmed.alike) hp hb k1 k2 k3 (by rw [e1]; exact hce) hcv hcl T' rfl X'
    exact ⟨t2, st.trans a1, b1⟩
theorem vx_callFd {S SX : Type} {post : UInt64 → S → Prop} {px : SX → Prop} {B : S → State → Prop} {BX : String → SX → State → Prop} {AX : Nat → Prop} (hr : vx_Run5 p l e R s m args below meth c H locs cells slots mc ms (F0 m pc ls st0) rest (va_Qd post B A1 a) (vx_X px BX AX) free) (hS : va_S A0 H0 H locs) (hA : ∀ q, q < H.size → A1 q → A0 q) (hf : ∀ q, free q → A0 q) (hAX : ∀ q, q < H.size → AX q → A0 q)
    (kx : ∀ (E : String) (ce : Cell) (q9 : Addr) (u : SX) (t : State) (H1 : Heap) (locs1 : List Loc), t.heap = H1 → s.vm.Alike t.vm → px u → BX E u t → H.size ≤ H1.size → (∀ q : Nat, q < H.size → ¬ AX q → H1[q]? = H[q]?) → va_S A0 H0 H1 locs1 → H1[q9]? = some ce → ce.vm = .none → s.vm.findClass E = some ce.cls → vx_W p l e R s m args below meth c H1 locs1 (cells + mc) (slots + ms) Q (F0 m pc ls rest) q9)
    (kk : ∀ (r : UInt64) (u : S) (t : State) (H1 : Heap) (locs1 : List Loc), t.heap = H1 → s.vm.Alike t.vm → post r u → B u t → H.size ≤ H1.size → (∀ q : Nat, q < H.size → ¬ A1 q → H1[q]? = H[q]?) → va_S A0 H0 H1 locs1 → W p l e R s m args below meth c H1 locs1 (cells + mc) (slots + ms) Q (F0 m (pc + 5) ls (.double r :: rest))) : W p l e R s m args below meth c H locs cells slots Q (F0 m pc ls st0) := by
  intro T hT X
  rcases hr T hT X with ⟨v, st₀, t, T', L, h0, X', hL, e1, e2, ⟨⟨r, u, hv, hp, hb⟩, hF⟩, st⟩ | ⟨q, st₀, t, T', L, E, ce, h0, X', hL, e1, e2, ⟨u, hp, hb, hF⟩, hce, hcv, hcl, st⟩
  · cases hv
    obtain ⟨k1, k2, k3⟩ := vx_keep h0 e1 hS hA hf hL hF
    obtain ⟨t2, a1, b1⟩ := kk r u t T'.heap (locs ++ L) e1.symm (by rw [← e2]; exact X'.warmed.alike) hp hb k1 k2 k3 T' rfl X'
    exact ⟨t2, st t2 a1, b1⟩
  · obtain ⟨k1, k2, k3⟩ := vx_keep h0 e1 hS hAX hf hL hF
    obtain ⟨t2, a1, b1⟩ := kx E ce q u t T'.heap (locs ++ L) e1.symm (by rw [← e2]; exact X'.warmed.alike) hp hb k1 k2 k3 (by rw [e1]; exact hce) hcv hcl T' rfl X'
    exact ⟨t2, st.trans a1, b1⟩
end
/-! ===== END ===== -/
/-! ===== BEGIN by an interface, a method with a table of its own that may throw (follows va_callIFW, va_runFW) ===== -/
section
variable {p : Program} {l : Launch} {e : Env} {R : Room} {s : State} {m : MethodId} {args : Array Value} {below : List Frame} {meth : Method} {c : Code} {H : Heap} {locs : List Loc} {cells slots : Nat}
theorem vx_callIFW {T : State} (X : Stand p l e R s m args below meth c T locs cells slots) (hexec : p.tables.exec = Jvm.exec) {own C : String} {index count : Nat} {x y : MethodName} {bytes : ByteArray} {maxL : Nat} {ret : Option FieldType} {hh : List (Nat × Nat × Nat × Nat)}
    (hown : s.vm.findClass own = some m.cls) (hlink : (Cond.methodLink own index x).before args s = true) (hdecl : (Cond.declares x).before args s = true) (hface : (Cond.interfaceMethod x.cls x.cls x.name x.desc).before args s = true)
    (hsel : (Cond.selects C x y).before args s = true) (hinst : (Cond.instanceMethod y).before args s = true) (hpub : (Cond.publicMethod y).before args s = true) (hunh : (Cond.unhidden C x.name x.desc).before args s = true)
    (hcast : (Cond.castable C x.cls).before args s = true) (hcode : (Cond.codeWith y bytes maxL ret hh).before args s = true) (hx : x.cls ≠ "java/lang/invoke/MethodHandle" ∧ x.cls ≠ "java/lang/invoke/VarHandle")
    {W : Nat} {Pre : Pt → Array Value → Prop} {Post : Pt → Array Value → Option Value → Pt → Prop} {PostX : Pt → Array Value → Addr → Pt → Prop} (hK : vx_Back l R p e below s args y 5 W Pre Post PostX)
    {b : Addr} {cellB : Cell} {kB : Class} (hcell : T.heap[b]? = some cellB) (hobj : cellB.vm.isStatics = false) (hcls : s.vm.findClass C = some cellB.cls) (hkB : s.vm.classes[cellB.cls]? = some kB)
    {g : JFrame} (hg : g.method = m) (hsize : g.locals.size = c.maxLocals) {argsL rest : List Value} (hlen : ∀ sig, parseMethodDescriptor x.desc = some sig → argsL.length = sig.parameters.length)
    (hstack : g.stack = argsL.reverse ++ .ref b :: rest) (hW : 2 * g.monitorRoom + (rest.map fun v => v.category).sum ≤ W) (hdg : decode c.code g.pc = .ok (.invokeinterface index count, 5))
    (hpre : ∀ vm₁, s.WarmedH vm₁ → Pre ⟨T.setVm vm₁, locs, cells, slots⟩ (Value.ref b :: argsL).toArray) :
    (∃ (v : Option Value) (vm₁ : Vm) (B : Pt), s.WarmedH vm₁ ∧ Stand p l e R s m args below meth c B.U B.locs B.cells B.slots ∧ Post ⟨T.setVm vm₁, locs, cells, slots⟩ (Value.ref b :: argsL).toArray v B ∧
      ∀ target, Steps p.tables e below (B.U.setTop { g with pc := g.pc + 5, stack := v.toList ++ rest }) target → Steps p.tables e below (T.setTop g) target) ∨
    (∃ (q : Addr) (vm₁ : Vm) (B : Pt), s.WarmedH vm₁ ∧ Stand p l e R s m args below meth c B.U B.locs B.cells B.slots ∧ PostX ⟨T.setVm vm₁, locs, cells, slots⟩ (Value.ref b :: argsL).toArray q B ∧
      Steps p.tables e below (T.setTop g) ((B.U.setTop { g with stack := rest }).pushFrame (.throwing q))) := by
  obtain ⟨r0, r, hn, hrm, hstR, hsigR⟩ := Cond.declares_spec hdecl
  obtain ⟨cL, kL, r1, hcL, hkL, hiL, hfoundL, hn1⟩ := Cond.interfaceMethod_spec hface
  cases hn.symm.trans hn1
  have hr0cls : r0.cls = cL := Option.some.inj ((findClass_of_methodNamed hn).symm.trans hcL)
  obtain ⟨hnameR, hdescR⟩ := name_of_methodNamed hn hrm
  obtain ⟨mk, methM, hnamed, hmethM, -, habM⟩ := Cond.instanceMethod_spec hinst
  obtain ⟨c2, r2, m2, q1, q2, q3, q4, -⟩ := Cond.selects_spec hsel
  cases hcls.symm.trans q1
  cases hfoundL.symm.trans q2
  cases hnamed.symm.trans q3
  have hselP : selectMethod e.platform s.vm cellB.cls r0 = .method mk := by rw [Launch.admits_selectMethod X.admits]; exact q4
  have hpubM : hasFlag methM.accessFlags Acc.public_ = true := Cond.publicMethod_spec hnamed hmethM hpub
  have hway : ((cellB.cls :: s.vm.superclasses cellB.cls).any fun k => (declaredIn s.vm r.name r.desc k).any fun (_, z) => z.isPrivate || z.isStatic) = false := by
    rw [hnameR, hdescR]; exact Cond.unhidden_spec hcls hunh
  obtain ⟨c3, t3, w1, w2, w3⟩ := Cond.castable_spec hcast
  cases hcls.symm.trans w1
  cases hcL.symm.trans w2
  obtain ⟨vm₁, X₁, hstep₁⟩ := X.invokeinterface hexec hown hlink hn hrm hstR (by rw [hr0cls]; exact hkL) hiL hx (a := b) (cell := cellB) (kcell := kB) hcell
    (fun z h => by rw [h] at hobj; cases hobj) hkB (by rw [hr0cls]; exact w3) hselP hmethM hway hpubM habM (g := g) hg (argsL := argsL) (rest := rest) (hlen _ hsigR) hstack hdg
  rcases hK m meth c ⟨T.setVm vm₁, locs, cells, slots⟩ { g with stack := rest } (.invokeinterface index count) mk (Value.ref b :: argsL).toArray X₁ hg hsize hdg hW (X₁.named hnamed) (hpre vm₁ X₁.warmed) with ⟨v, B, X', hpost, hsteps⟩ | ⟨q, B, X', hpost, hsteps⟩
  · exact Or.inl ⟨v, vm₁, B, X₁.warmed, X', hpost, fun target h => hstep₁ _ fun acts => by rw [doInvoke_state]; exact hsteps.trans h⟩
  · exact Or.inr ⟨q, vm₁, B, X₁.warmed, X', hpost, hstep₁ _ fun acts => by rw [doInvoke_state]; exact hsteps⟩
theorem vx_runFW {x y : MethodName} {bytes cc : ByteArray} {maxL nL mc ms n index count : Nat} {ret : Option FieldType} {hh : List (Nat × Nat × Nat × Nat)} {ws : List Cond} {rm : Room} {Pc : Array Value → State → Prop} {Qc : Array Value → State → Outcome → State → Prop} {XC : String → State → State → Prop} {free : Addr → Prop} {Ts : List Cond} {own C : String} {cC : ClassId} {b : Addr} {As rest : List Value} {g : JFrame}
    (hat : ClassAt s C cC) (S : CallFix p m c cc nL s args Ts own) (hM : vx_Met l y ws rm Pc Qc XC mc ms free) (cw : va_CIW R s args own C index x y bytes maxL ret hh ws rm mc ms n) (hp : PreV s H C b Pc As)
    (hg : g.method = m) (hn : As.length = n) (hsize : g.locals.size = nL) (hstack : g.stack = As.reverse ++ .ref b :: rest) (hW : 2 * g.monitorRoom + (rest.map fun v => v.category).sum ≤ 8) (hdg : decode cc g.pc = .ok (.invokeinterface index count, 5)) (hf : cells + mc ≤ R.cells ∧ slots + ms ≤ R.slots) :
    vx_Run5 p l e R s m args below meth c H locs cells slots mc ms g rest (Qc (Value.ref b :: As).toArray) XC free := by
  obtain ⟨hrc, hrs, hfr, hlo, hws, hcw⟩ := cw.back
  have hini := cw.init
  have hK : vx_Back l R p e below s args y 5 8 (PreOf R mc ms Pc) (PostOf Qc mc ms free) (vx_Post XC mc ms free) := vx_backW (hh := hh) (bytes := bytes) (maxL := maxL) (ret := ret) hM hp.1 hrc hrs hfr hlo hws hcw (fun a' U hW => word_at hW (Or.inl (by first | rfl | simp [Cond.onTables, Cond.keeps, Cond.steady])) hini)
  obtain ⟨hx, hb, hml, ho, -⟩ := S
  obtain ⟨-, ⟨cellB, hcB, hoB, hclB⟩, hPc⟩ := hp
  obtain ⟨hfc, kB, hkB, -⟩ := hat
  cases hfc.symm.trans hclB
  intro T hT X
  rcases vx_callIFW X hx (C := C) (hh := hh) (bytes := bytes) (maxL := maxL) (ret := ret) ho cw.link cw.decl cw.face cw.sel cw.inst cw.pub cw.unh cw.cast cw.code cw.notMH hK (by rw [hT]; exact hcB) hoB hclB hkB hg (hsize.trans hml.symm) (argsL := As) (rest := rest) (fun sig h => hn.trans (cw.len sig h)) hstack hW (by rw [hb]; exact hdg)
    (fun vm₁ hW₁ => ⟨hf.1, hf.2, hPc (T.setVm vm₁) hT hW₁⟩) with ⟨v, vm₁, ⟨U', l2, c2, s2⟩, hW₁, X', ⟨g', mk, t, L, e1, e2, hq, h1, hL, h2, h3⟩, st⟩ | ⟨q, vm₁, ⟨U', l2, c2, s2⟩, hW₁, X', ⟨g', mk, t, L, E, ce, e1, e2, hq, hce, hcv, hcl, h1, hL, h2, h3⟩, st⟩
  · dsimp only [Pt.U, Pt.locs, Pt.cells, Pt.slots] at X' e1 e2 h1 h2 h3 st
    subst h1; subst h2; subst h3
    exact Or.inl ⟨v, (T.setVm vm₁).calling g' mk (Value.ref b :: As).toArray, t, U', L, hT, X', hL, e1, e2, hq, st⟩
  · dsimp only [Pt.U, Pt.locs, Pt.cells, Pt.slots] at X' e1 e2 h1 h2 h3 st hcl
    subst h1; subst h2; subst h3
    exact Or.inr ⟨q, (T.setVm vm₁).calling g' mk (Value.ref b :: As).toArray, t, U', L, E, ce, hT, X', hL, e1, e2, hq, hce, hcv, vx_cls hW₁ hcl, st⟩
end
/-! ===== END ===== -/
/-! ===== BEGIN .. of methods that hand back an object of the pool ===== -/
section
variable {p : Program} {l : Launch} {e : Env} {R : Room} {s : State} {m : MethodId} {args : Array Value} {below : List Frame} {meth : Method} {c : Code} {H : Heap} {locs : List Loc} {cells slots : Nat} {Q : State → Prop}
variable {mc ms : Nat} {free : Addr → Prop} {A0 A1 : Nat → Prop} {H0 : Heap} {a : Array Value} {pc : Nat} {ls : Array Slot} {st0 rest : List Value}
theorem vx_callq {S SX : Type} {post : Option Nat → S → Prop} {px : SX → Prop} {B : S → State → Prop} {BX : String → SX → State → Prop} {AX : Nat → Prop} (hr : vx_Run p l e R s m args below meth c H locs cells slots mc ms (F0 m pc ls st0) rest (va_Qq post B A1 a) (vx_X px BX AX) free) (hS : va_S A0 H0 H locs) (hA : ∀ q, q < H.size → A1 q → A0 q) (hf : ∀ q, free q → A0 q) (hAX : ∀ q, q < H.size → AX q → A0 q)
    (kx : ∀ (E : String) (ce : Cell) (q9 : Addr) (u : SX) (t : State) (H1 : Heap) (locs1 : List Loc), t.heap = H1 → s.vm.Alike t.vm → px u → BX E u t → H.size ≤ H1.size → (∀ q : Nat, q < H.size → ¬ AX q → H1[q]? = H[q]?) → va_S A0 H0 H1 locs1 → H1[q9]? = some ce → ce.vm = .none → s.vm.findClass E = some ce.cls → vx_W p l e R s m args below meth c H1 locs1 (cells + mc) (slots + ms) Q (F0 m pc ls rest) q9)
    (kk : ∀ (r : Option Nat) (u : S) (t : State) (H1 : Heap) (locs1 : List Loc), t.heap = H1 → s.vm.Alike t.vm → post r u → B u t → H.size ≤ H1.size → (∀ q : Nat, q < H.size → ¬ A1 q → H1[q]? = H[q]?) → va_S A0 H0 H1 locs1 → W p l e R s m args below meth c H1 locs1 (cells + mc) (slots + ms) Q (F0 m (pc + 3) ls (va_rf r :: rest))) : W p l e R s m args below meth c H locs cells slots Q (F0 m pc ls st0) := by
  intro T hT X
  rcases hr T hT X with ⟨v, st₀, t, T', L, h0, X', hL, e1, e2, ⟨⟨r, u, hv, hp, hb⟩, hF⟩, st⟩ | ⟨q, st₀, t, T', L, E, ce, h0, X', hL, e1, e2, ⟨u, hp, hb, hF⟩, hce, hcv, hcl, st⟩
  · cases hv
    obtain ⟨k1, k2, k3⟩ := vx_keep h0 e1 hS hA hf hL hF
    obtain ⟨t2, a1, b1⟩ := kk r u t T'.heap (locs ++ L) e1.symm (by rw [← e2]; exact X'.warmed.alike) hp hb k1 k2 k3 T' rfl X'
    exact ⟨t2, st t2 a1, b1⟩
  · obtain ⟨k1, k2, k3⟩ := vx_keep h0 e1 hS hAX hf hL hF
    obtain ⟨t2, a1, b1⟩ := kx E ce q u t T'.heap (locs ++ L) e1.symm (by rw [← e2]; exact X'.warmed.alike) hp hb k1 k2 k3 (by rw [e1]; exact hce) hcv hcl T' rfl X'
    exact ⟨t2, st.trans a1, b1⟩
end
/-! ===== END ===== -/
/-! ===== BEGIN .. a constant ===== -/
section
variable {p : Program} {l : Launch} {e : Env} {R : Room} {s : State} {m : MethodId} {args : Array Value} {below : List Frame} {meth : Method} {c : Code} {H : Heap} {locs : List Loc} {cells slots : Nat} {Q : State → Prop}
variable {mc ms : Nat} {free : Addr → Prop} {A0 A1 : Nat → Prop} {H0 : Heap} {a : Array Value} {pc : Nat} {ls : Array Slot} {st0 rest : List Value}
theorem vx_calle {ad : Nat → Nat} {S SX : Type} {post : Option Nat → S → Prop} {px : SX → Prop} {B : S → State → Prop} {BX : String → SX → State → Prop} {AX : Nat → Prop} (hr : vx_Run p l e R s m args below meth c H locs cells slots mc ms (F0 m pc ls st0) rest (va_Qe ad post B A1 a) (vx_X px BX AX) free) (hS : va_S A0 H0 H locs) (hA : ∀ q, q < H.size → A1 q → A0 q) (hf : ∀ q, free q → A0 q) (hAX : ∀ q, q < H.size → AX q → A0 q)
    (kx : ∀ (E : String) (ce : Cell) (q9 : Addr) (u : SX) (t : State) (H1 : Heap) (locs1 : List Loc), t.heap = H1 → s.vm.Alike t.vm → px u → BX E u t → H.size ≤ H1.size → (∀ q : Nat, q < H.size → ¬ AX q → H1[q]? = H[q]?) → va_S A0 H0 H1 locs1 → H1[q9]? = some ce → ce.vm = .none → s.vm.findClass E = some ce.cls → vx_W p l e R s m args below meth c H1 locs1 (cells + mc) (slots + ms) Q (F0 m pc ls rest) q9)
    (kk : ∀ (r : Option Nat) (u : S) (t : State) (H1 : Heap) (locs1 : List Loc), t.heap = H1 → s.vm.Alike t.vm → post r u → B u t → H.size ≤ H1.size → (∀ q : Nat, q < H.size → ¬ A1 q → H1[q]? = H[q]?) → va_S A0 H0 H1 locs1 → W p l e R s m args below meth c H1 locs1 (cells + mc) (slots + ms) Q (F0 m (pc + 3) ls (va_re ad r :: rest))) : W p l e R s m args below meth c H locs cells slots Q (F0 m pc ls st0) := by
  intro T hT X
  rcases hr T hT X with ⟨v, st₀, t, T', L, h0, X', hL, e1, e2, ⟨⟨r, u, hv, hp, hb⟩, hF⟩, st⟩ | ⟨q, st₀, t, T', L, E, ce, h0, X', hL, e1, e2, ⟨u, hp, hb, hF⟩, hce, hcv, hcl, st⟩
  · cases hv
    obtain ⟨k1, k2, k3⟩ := vx_keep h0 e1 hS hA hf hL hF
    obtain ⟨t2, a1, b1⟩ := kk r u t T'.heap (locs ++ L) e1.symm (by rw [← e2]; exact X'.warmed.alike) hp hb k1 k2 k3 T' rfl X'
    exact ⟨t2, st t2 a1, b1⟩
  · obtain ⟨k1, k2, k3⟩ := vx_keep h0 e1 hS hAX hf hL hF
    obtain ⟨t2, a1, b1⟩ := kx E ce q u t T'.heap (locs ++ L) e1.symm (by rw [← e2]; exact X'.warmed.alike) hp hb k1 k2 k3 (by rw [e1]; exact hce) hcv hcl T' rfl X'
    exact ⟨t2, st.trans a1, b1⟩
end
/-! ===== END ===== -/
/-! ===== BEGIN .. by an interface, an object ===== -/
section
variable {p : Program} {l : Launch} {e : Env} {R : Room} {s : State} {m : MethodId} {args : Array Value} {below : List Frame} {meth : Method} {c : Code} {H : Heap} {locs : List Loc} {cells slots : Nat} {Q : State → Prop}
variable {mc ms : Nat} {free : Addr → Prop} {A0 A1 : Nat → Prop} {H0 : Heap} {a : Array Value} {pc : Nat} {ls : Array Slot} {st0 rest : List Value}
theorem vx_callFq {S SX : Type} {post : Option Nat → S → Prop} {px : SX → Prop} {B : S → State → Prop} {BX : String → SX → State → Prop} {AX : Nat → Prop} (hr : vx_Run5 p l e R s m args below meth c H locs cells slots mc ms (F0 m pc ls st0) rest (va_Qq post B A1 a) (vx_X px BX AX) free) (hS : va_S A0 H0 H locs) (hA : ∀ q, q < H.size → A1 q → A0 q) (hf : ∀ q, free q → A0 q) (hAX : ∀ q, q < H.size → AX q → A0 q)
    (kx : ∀ (E : String) (ce : Cell) (q9 : Addr) (u : SX) (t : State) (H1 : Heap) (locs1 : List Loc), t.heap = H1 → s.vm.Alike t.vm → px u → BX E u t → H.size ≤ H1.size → (∀ q : Nat, q < H.size → ¬ AX q → H1[q]? = H[q]?) → va_S A0 H0 H1 locs1 → H1[q9]? = some ce → ce.vm = .none → s.vm.findClass E = some ce.cls → vx_W p l e R s m args below meth c H1 locs1 (cells + mc) (slots + ms) Q (F0 m pc ls rest) q9)
    (kk : ∀ (r : Option Nat) (u : S) (t : State) (H1 : Heap) (locs1 : List Loc), t.heap = H1 → s.vm.Alike t.vm → post r u → B u t → H.size ≤ H1.size → (∀ q : Nat, q < H.size → ¬ A1 q → H1[q]? = H[q]?) → va_S A0 H0 H1 locs1 → W p l e R s m args below meth c H1 locs1 (cells + mc) (slots + ms) Q (F0 m (pc + 5) ls (va_rf r :: rest))) : W p l e R s m args below meth c H locs cells slots Q (F0 m pc ls st0) := by
  intro T hT X
  rcases hr T hT X with ⟨v, st₀, t, T', L, h0, X', hL, e1, e2, ⟨⟨r, u, hv, hp, hb⟩, hF⟩, st⟩ | ⟨q, st₀, t, T', L, E, ce, h0, X', hL, e1, e2, ⟨u, hp, hb, hF⟩, hce, hcv, hcl, st⟩
  · cases hv
    obtain ⟨k1, k2, k3⟩ := vx_keep h0 e1 hS hA hf hL hF
    obtain ⟨t2, a1, b1⟩ := kk r u t T'.heap (locs ++ L) e1.symm (by rw [← e2]; exact X'.warmed.alike) hp hb k1 k2 k3 T' rfl X'
    exact ⟨t2, st t2 a1, b1⟩
  · obtain ⟨k1, k2, k3⟩ := vx_keep h0 e1 hS hAX hf hL hF
    obtain ⟨t2, a1, b1⟩ := kx E ce q u t T'.heap (locs ++ L) e1.symm (by rw [← e2]; exact X'.warmed.alike) hp hb k1 k2 k3 (by rw [e1]; exact hce) hcv hcl T' rfl X'
    exact ⟨t2, st.trans a1, b1⟩
end
/-! ===== END ===== -/
/-! ===== BEGIN .. by an interface, a constant ===== -/
section
variable {p : Program} {l : Launch} {e : Env} {R : Room} {s : State} {m : MethodId} {args : Array Value} {below : List Frame} {meth : Method} {c : Code} {H : Heap} {locs : List Loc} {cells slots : Nat} {Q : State → Prop}
variable {mc ms : Nat} {free : Addr → Prop} {A0 A1 : Nat → Prop} {H0 : Heap} {a : Array Value} {pc : Nat} {ls : Array Slot} {st0 rest : List Value}
theorem vx_callFe {ad : Nat → Nat} {S SX : Type} {post : Option Nat → S → Prop} {px : SX → Prop} {B : S → State → Prop} {BX : String → SX → State → Prop} {AX : Nat → Prop} (hr : vx_Run5 p l e R s m args below meth c H locs cells slots mc ms (F0 m pc ls st0) rest (va_Qe ad post B A1 a) (vx_X px BX AX) free) (hS : va_S A0 H0 H locs) (hA : ∀ q, q < H.size → A1 q → A0 q) (hf : ∀ q, free q → A0 q) (hAX : ∀ q, q < H.size → AX q → A0 q)
    (kx : ∀ (E : String) (ce : Cell) (q9 : Addr) (u : SX) (t : State) (H1 : Heap) (locs1 : List Loc), t.heap = H1 → s.vm.Alike t.vm → px u → BX E u t → H.size ≤ H1.size → (∀ q : Nat, q < H.size → ¬ AX q → H1[q]? = H[q]?) → va_S A0 H0 H1 locs1 → H1[q9]? = some ce → ce.vm = .none → s.vm.findClass E = some ce.cls → vx_W p l e R s m args below meth c H1 locs1 (cells + mc) (slots + ms) Q (F0 m pc ls rest) q9)
    (kk : ∀ (r : Option Nat) (u : S) (t : State) (H1 : Heap) (locs1 : List Loc), t.heap = H1 → s.vm.Alike t.vm → post r u → B u t → H.size ≤ H1.size → (∀ q : Nat, q < H.size → ¬ A1 q → H1[q]? = H[q]?) → va_S A0 H0 H1 locs1 → W p l e R s m args below meth c H1 locs1 (cells + mc) (slots + ms) Q (F0 m (pc + 5) ls (va_re ad r :: rest))) : W p l e R s m args below meth c H locs cells slots Q (F0 m pc ls st0) := by
  intro T hT X
  rcases hr T hT X with ⟨v, st₀, t, T', L, h0, X', hL, e1, e2, ⟨⟨r, u, hv, hp, hb⟩, hF⟩, st⟩ | ⟨q, st₀, t, T', L, E, ce, h0, X', hL, e1, e2, ⟨u, hp, hb, hF⟩, hce, hcv, hcl, st⟩
  · cases hv
    obtain ⟨k1, k2, k3⟩ := vx_keep h0 e1 hS hA hf hL hF
    obtain ⟨t2, a1, b1⟩ := kk r u t T'.heap (locs ++ L) e1.symm (by rw [← e2]; exact X'.warmed.alike) hp hb k1 k2 k3 T' rfl X'
    exact ⟨t2, st t2 a1, b1⟩
  · obtain ⟨k1, k2, k3⟩ := vx_keep h0 e1 hS hAX hf hL hF
    obtain ⟨t2, a1, b1⟩ := kx E ce q u t T'.heap (locs ++ L) e1.symm (by rw [← e2]; exact X'.warmed.alike) hp hb k1 k2 k3 (by rw [e1]; exact hce) hcv hcl T' rfl X'
    exact ⟨t2, st.trans a1, b1⟩
end
/-! ===== END ===== -/
/-! ===== BEGIN what the machine throws by itself: null at a field, at athrow ===== -/
section VXM2
variable {p : Program} {l : Launch} {e : Env} {R : Room} {s : State} {m : MethodId} {args : Array Value} {below : List Frame} {meth : Method} {c : Code} {H : Heap} {locs : List Loc} {cells slots : Nat}
variable {Q : State → Prop} {cc : ByteArray} {pc : Nat} {ls : Array Slot} {rest : List Value}
theorem vx_getfN {D cl tys} {own ref C : String} {T : u_T} {N ci index : Nat} {Ts : List Cond} (hexec : p.tables.exec = Jvm.exec) (hb : c.code = cc) (hts : ∀ w ∈ Ts, w.before args s = true) (hin : ∀ w ∈ u_ws C T N, w ∈ Ts) (hown : s.vm.findClass own = some m.cls) (hK : va_K D cl tys s) (hc : cl[ci]? = some (C, T, N)) (k : Nat) (hk : k < N) (hlink : (Cond.fieldLink own index ref (T k).2.1 (T k).2.2.1).before args s = true) (hsame : ∀ x, s.fieldFound? (T k).1 (T k).2.1 (T k).2.2.1 = some x → s.fieldFound? ref (T k).2.1 (T k).2.2.1 = some x) (hdg : decode cc pc = .ok (.getfield index, 3)) (kk : vx_NoteN p l e R s m args below meth c H locs cells slots Q (F0 m pc ls rest)) : W p l e R s m args below meth c H locs cells slots Q (F0 m pc ls (.null :: rest)) := by
  obtain ⟨hS, hfc, kC, hkC, -⟩ := hK.1 ci _ hc
  obtain ⟨cf, kf, fi, f, hi, -⟩ := hS k hk
  intro U hU X
  obtain ⟨vm', X1, st1⟩ := X.getfieldNull hexec hown hlink (hsame _ hi) (u_facts hfc hkC (u_lays hts hin hk) hi).1 (g := F0 m pc ls (.null :: rest)) rfl (rest := rest) rfl (by rw [hb]; exact hdg)
  obtain ⟨t, st, q⟩ := kk (U.setVm vm') hU X1
  exact ⟨t, st1 t st, q⟩
theorem vx_getfNN {D cl tys} {own ref C host : String} {T : u_T} {N ci index : Nat} {Ts : List Cond} (hexec : p.tables.exec = Jvm.exec) (hb : c.code = cc) (hts : ∀ w ∈ Ts, w.before args s = true) (hin : ∀ w ∈ u_ws C T N, w ∈ Ts) (hown : s.vm.findClass own = some m.cls) (hK : va_K D cl tys s) (hc : cl[ci]? = some (C, T, N)) (k : Nat) (hk : k < N) (hlink : (Cond.fieldLinkNest own index ref (T k).2.1 (T k).2.2.1 host).before args s = true) (hsame : ∀ x, s.fieldFound? (T k).1 (T k).2.1 (T k).2.2.1 = some x → s.fieldFound? ref (T k).2.1 (T k).2.2.1 = some x) (hdg : decode cc pc = .ok (.getfield index, 3)) (kk : vx_NoteN p l e R s m args below meth c H locs cells slots Q (F0 m pc ls rest)) : W p l e R s m args below meth c H locs cells slots Q (F0 m pc ls (.null :: rest)) := by
  obtain ⟨hS, hfc, kC, hkC, -⟩ := hK.1 ci _ hc
  obtain ⟨cf, kf, fi, f, hi, -⟩ := hS k hk
  intro U hU X
  obtain ⟨vm', X1, st1⟩ := X.getfieldNullNest hexec hown hlink (hsame _ hi) (u_facts hfc hkC (u_lays hts hin hk) hi).1 (g := F0 m pc ls (.null :: rest)) rfl (rest := rest) rfl (by rw [hb]; exact hdg)
  obtain ⟨t, st, q⟩ := kk (U.setVm vm') hU X1
  exact ⟨t, st1 t st, q⟩
theorem vx_putfN {D cl tys} {own ref C : String} {T : u_T} {N ci index : Nat} {Ts : List Cond} (hexec : p.tables.exec = Jvm.exec) (hb : c.code = cc) (hts : ∀ w ∈ Ts, w.before args s = true) (hin : ∀ w ∈ u_ws C T N, w ∈ Ts) (hown : s.vm.findClass own = some m.cls) (hK : va_K D cl tys s) (hc : cl[ci]? = some (C, T, N)) (k : Nat) (hk : k < N) (hlink : (Cond.fieldLink own index ref (T k).2.1 (T k).2.2.1).before args s = true) (hsame : ∀ x, s.fieldFound? (T k).1 (T k).2.1 (T k).2.2.1 = some x → s.fieldFound? ref (T k).2.1 (T k).2.2.1 = some x) (hfin : (T k).2.2.2 = false) {v : Value} (hdg : decode cc pc = .ok (.putfield index, 3)) (kk : vx_NoteN p l e R s m args below meth c H locs cells slots Q (F0 m pc ls rest)) : W p l e R s m args below meth c H locs cells slots Q (F0 m pc ls (v :: .null :: rest)) := by
  obtain ⟨hS, hfc, kC, hkC, -⟩ := hK.1 ci _ hc
  obtain ⟨cf, kf, fi, f, hi, -⟩ := hS k hk
  have hlay := hts _ (hin _ (u_in_lay hk))
  unfold u_lay at hlay
  rw [if_neg (by rw [hfin]; decide)] at hlay
  obtain ⟨c9, k9, cf9, kf9, fi9, f9, -, -, hi9, hst9, hnf9, -⟩ := Cond.lays_spec hlay
  cases hi.symm.trans hi9
  intro U hU X
  obtain ⟨vm', X1, st1⟩ := X.putfieldNull hexec hown hlink (hsame _ hi) hst9 hnf9 (g := F0 m pc ls (v :: .null :: rest)) rfl (v := v) (rest := rest) rfl (by rw [hb]; exact hdg)
  obtain ⟨t, st, q⟩ := kk (U.setVm vm') hU X1
  exact ⟨t, st1 t st, q⟩
theorem vx_putfNN {D cl tys} {own ref C host : String} {T : u_T} {N ci index : Nat} {Ts : List Cond} (hexec : p.tables.exec = Jvm.exec) (hb : c.code = cc) (hts : ∀ w ∈ Ts, w.before args s = true) (hin : ∀ w ∈ u_ws C T N, w ∈ Ts) (hown : s.vm.findClass own = some m.cls) (hK : va_K D cl tys s) (hc : cl[ci]? = some (C, T, N)) (k : Nat) (hk : k < N) (hlink : (Cond.fieldLinkNest own index ref (T k).2.1 (T k).2.2.1 host).before args s = true) (hsame : ∀ x, s.fieldFound? (T k).1 (T k).2.1 (T k).2.2.1 = some x → s.fieldFound? ref (T k).2.1 (T k).2.2.1 = some x) (hfin : (T k).2.2.2 = false) {v : Value} (hdg : decode cc pc = .ok (.putfield index, 3)) (kk : vx_NoteN p l e R s m args below meth c H locs cells slots Q (F0 m pc ls rest)) : W p l e R s m args below meth c H locs cells slots Q (F0 m pc ls (v :: .null :: rest)) := by
  obtain ⟨hS, hfc, kC, hkC, -⟩ := hK.1 ci _ hc
  obtain ⟨cf, kf, fi, f, hi, -⟩ := hS k hk
  have hlay := hts _ (hin _ (u_in_lay hk))
  unfold u_lay at hlay
  rw [if_neg (by rw [hfin]; decide)] at hlay
  obtain ⟨c9, k9, cf9, kf9, fi9, f9, -, -, hi9, hst9, hnf9, -⟩ := Cond.lays_spec hlay
  cases hi.symm.trans hi9
  intro U hU X
  obtain ⟨vm', X1, st1⟩ := X.putfieldNullNest hexec hown hlink (hsame _ hi) hst9 hnf9 (g := F0 m pc ls (v :: .null :: rest)) rfl (v := v) (rest := rest) rfl (by rw [hb]; exact hdg)
  obtain ⟨t, st, q⟩ := kk (U.setVm vm') hU X1
  exact ⟨t, st1 t st, q⟩
theorem vx_athrowN (hexec : p.tables.exec = Jvm.exec) (hb : c.code = cc) (hdg : decode cc pc = .ok (.athrow, 1)) (k : vx_NoteN p l e R s m args below meth c H locs cells slots Q (F0 m pc ls rest)) : W p l e R s m args below meth c H locs cells slots Q (F0 m pc ls (.null :: rest)) := by
  intro T hT X
  obtain ⟨t, st, q⟩ := k T hT X
  exact ⟨t, X.athrowNull hexec (g := F0 m pc ls (.null :: rest)) rfl (rest := rest) rfl (by rw [hb]; exact hdg) t st, q⟩
end VXM2
/-! ===== END ===== -/
end
section
/-! THE FRAME: one world C for all that the law makes, by addresses; a judgement over plain data; a row an instruction -/
/-- the class numbers, the array classes, the heap at the law's start -/
abbrev sg_G : Type := va_G × (Nat → ClassId) × Heap
def sg_tys (cy : Nat → ClassId) : List (ClassId × FieldType) := [(cy 0, .int), (cy 1, .boolean), (cy 2, .object "java/lang/Object"), (cy 3, .long)]
def sg_Rp (g : sg_G) (C : Nat → Option va_E) (H : Heap) : Prop := ∀ a e, C a = some e → va_at g.1 vwCl (a, e) H ∧ g.2.2.size ≤ a
def sg_Lo (g : sg_G) (H : Heap) : Prop := g.2.2.size ≤ H.size ∧ ∀ q, q < g.2.2.size → H[q]? = g.2.2[q]?
def sg_up (C : Nat → Option va_E) (a : Nat) (e : va_E) : Nat → Option va_E := fun x => if x = a then some e else C x
abbrev sg_ia (g : sg_G) (n : Nat) (f : Nat → Int32) : va_E := .inl (g.2.1 0, n, .inl f)
abbrev sg_za (g : sg_G) (n : Nat) (f : Nat → Int32) : va_E := .inl (g.2.1 1, n, .inl f)
abbrev sg_qa (g : sg_G) (n : Nat) (f : Nat → Option Nat) : va_E := .inl (g.2.1 2, n, .inr (.inr (.inr (.inr f))))
abbrev sg_la (g : sg_G) (n : Nat) (f : Nat → Int64) : va_E := .inl (g.2.1 3, n, .inr (.inl f))
/-- the words that go along with a call by themselves -/
def sg_T : List Cond := lw_tbl.filter goodWord
/-- those that don't, but are kept -/
def sg_isN (w : Cond) : Bool := match w with
  | .fieldLinkNest _ _ _ _ _ _ => true
  | .methodLinkNest _ _ _ _ => true
  | .declares _ => true
  | .castable _ _ => true
  | _ => false
def sg_N : List Cond := lw_tbl.filter sg_isN
theorem sg_mem {i : Nat} {w : Cond} (h : lw_tbl[i]? = some w) (hg : goodWord w = true) : w ∈ sg_T := List.mem_filter.mpr ⟨List.mem_of_getElem? h, hg⟩
theorem sg_memN {i : Nat} {w : Cond} (h : lw_tbl[i]? = some w) (hg : sg_isN w = true) : w ∈ sg_N := List.mem_filter.mpr ⟨List.mem_of_getElem? h, hg⟩
theorem sg_N_warm {w : Cond} (hw : sg_isN w = true) {s U : State} (hW : s.WarmedH U.vm) (h : va_Nw w s) : va_Nw w U := by
  cases w <;> first | exact va_Nw.warmF hW h | exact va_Nw.warmM hW h | exact va_Nw.warmD hW h | exact va_Nw.warmC hW h | (simp [sg_isN] at hw; done)
theorem sg_N_tab {w : Cond} (hw : sg_isN w = true) : w.onTables = true := by
  cases w <;> first | rfl | (simp [sg_isN] at hw; done)
/-- what a state's tables say, beside the words of sg_T; it goes along with every call -/
def sg_KS (g : sg_G) (U : State) : Prop := va_K g.1 vwCl (sg_tys g.2.1) U ∧ (∀ w ∈ sg_N, va_Nw w U)
theorem sg_KS.warm {g : sg_G} {s U : State} (hW : s.WarmedH U.vm) (h : sg_KS g s) : sg_KS g U :=
  ⟨va_K.moved hW.alike h.1, fun w hw => sg_N_warm (List.mem_filter.mp hw).2 hW (h.2 w hw)⟩
theorem sg_KS.same {g : sg_G} {s U : State} (hv : s.vm = U.vm) (h : sg_KS g s) : sg_KS g U :=
  ⟨va_K.moved (by rw [← hv]; exact Vm.Alike.refl _) h.1, fun w hw => va_Nw.same (sg_N_tab (List.mem_filter.mp hw).2) hv (h.2 w hw)⟩
/-- the fixed things of a method's walk -/
def sg_Cx (p : Program) (s : State) (m : MethodId) (args : Array Value) (c : Code) (cc : ByteArray) (nL : Nat) (own : String) (g : sg_G) : Prop :=
  p.tables.exec = Jvm.exec ∧ c.code = cc ∧ c.maxLocals = nL ∧ s.vm.findClass own = some m.cls ∧ (∀ w ∈ sg_T, w.before args s = true) ∧ sg_KS g s
def sg_W (p : Program) (l : Launch) (e : Env) (R : Room) (s : State) (m : MethodId) (args : Array Value) (below : List Frame) (meth : Method) (c : Code) (nL : Nat) (g : sg_G) (cells slots : Nat) (Q : State → Prop) (C : Nat → Option va_E) (pc : Nat) (lv : List (Nat × Value)) (st : List Value) : Prop :=
  ∀ (H : Heap) (locs : List Loc) (ls : Array Slot), sg_Rp g C H → sg_Lo g H → (∀ q ∈ locs, g.2.2.size ≤ q.base) → lv_has ls nL lv → W p l e R s m args below meth c H locs cells slots Q (F0 m pc ls st)
section SGR
variable {p : Program} {l : Launch} {e : Env} {R : Room} {s : State} {m : MethodId} {args : Array Value} {below : List Frame} {meth : Method} {c : Code} {cells slots : Nat} {Q : State → Prop}
variable {cc : ByteArray} {nL : Nat} {own : String} {g : sg_G} {C : Nat → Option va_E} {pc : Nat} {lv lv' : List (Nat × Value)} {rest : List Value}
theorem sw_iconst (hc : sg_Cx p s m args c cc nL own g) {n : Int} {v : Int32} (hdg : decode cc pc = .ok (.iconst n, 1)) (hv : Int32.ofInt n = v) (zk : sg_W p l e R s m args below meth c nL g cells slots Q C (pc + 1) lv (.int v :: rest)) : sg_W p l e R s m args below meth c nL g cells slots Q C pc lv (rest) := fun H locs ls hR hL hq hlv => lv_iconst hc.1 hc.2.1 hdg hv (zk H locs ls hR hL hq hlv)
theorem sw_bipush (hc : sg_Cx p s m args c cc nL own g) {n : Int} {v : Int32} (hdg : decode cc pc = .ok (.bipush n, 2)) (hv : (Int8.ofInt n).toInt32 = v) (zk : sg_W p l e R s m args below meth c nL g cells slots Q C (pc + 2) lv (.int v :: rest)) : sg_W p l e R s m args below meth c nL g cells slots Q C pc lv (rest) := fun H locs ls hR hL hq hlv => lv_bipush hc.1 hc.2.1 hdg hv (zk H locs ls hR hL hq hlv)
theorem sw_sipush (hc : sg_Cx p s m args c cc nL own g) {n : Int} {v : Int32} (hdg : decode cc pc = .ok (.sipush n, 3)) (hv : (Int16.ofInt n).toInt32 = v) (zk : sg_W p l e R s m args below meth c nL g cells slots Q C (pc + 3) lv (.int v :: rest)) : sg_W p l e R s m args below meth c nL g cells slots Q C pc lv (rest) := fun H locs ls hR hL hq hlv => lv_sipush hc.1 hc.2.1 hdg hv (zk H locs ls hR hL hq hlv)
theorem sw_iload_n (hc : sg_Cx p s m args c cc nL own g) {k : Fin 4} {i : Nat} {x : Int32} (hdg : decode cc pc = .ok (.iload_n k, 1)) (hi : (k : Nat) = i) (kx : Nat) (hl : lv[kx]? = some (i, (.int x))) (zk : sg_W p l e R s m args below meth c nL g cells slots Q C (pc + 1) lv (.int x :: rest)) : sg_W p l e R s m args below meth c nL g cells slots Q C pc lv (rest) := fun H locs ls hR hL hq hlv => lv_iload_n hc.1 hc.2.1 hdg hi (lv_at hlv kx hl) (zk H locs ls hR hL hq hlv)
theorem sw_iload (hc : sg_Cx p s m args c cc nL own g) {i : Nat} {x : Int32} (hdg : decode cc pc = .ok (.iload i, 2)) (kx : Nat) (hl : lv[kx]? = some (i, (.int x))) (zk : sg_W p l e R s m args below meth c nL g cells slots Q C (pc + 2) lv (.int x :: rest)) : sg_W p l e R s m args below meth c nL g cells slots Q C pc lv (rest) := fun H locs ls hR hL hq hlv => lv_iload hc.1 hc.2.1 hdg (lv_at hlv kx hl) (zk H locs ls hR hL hq hlv)
theorem sw_aload_n (hc : sg_Cx p s m args c cc nL own g) {k : Fin 4} {i : Nat} {x : Nat} (hdg : decode cc pc = .ok (.aload_n k, 1)) (hi : (k : Nat) = i) (kx : Nat) (hl : lv[kx]? = some (i, (.ref x))) (zk : sg_W p l e R s m args below meth c nL g cells slots Q C (pc + 1) lv (.ref x :: rest)) : sg_W p l e R s m args below meth c nL g cells slots Q C pc lv (rest) := fun H locs ls hR hL hq hlv => lv_aload_n hc.1 hc.2.1 hdg hi (lv_at hlv kx hl) (zk H locs ls hR hL hq hlv)
theorem sw_aload (hc : sg_Cx p s m args c cc nL own g) {i : Nat} {x : Nat} (hdg : decode cc pc = .ok (.aload i, 2)) (kx : Nat) (hl : lv[kx]? = some (i, (.ref x))) (zk : sg_W p l e R s m args below meth c nL g cells slots Q C (pc + 2) lv (.ref x :: rest)) : sg_W p l e R s m args below meth c nL g cells slots Q C pc lv (rest) := fun H locs ls hR hL hq hlv => lv_aload hc.1 hc.2.1 hdg (lv_at hlv kx hl) (zk H locs ls hR hL hq hlv)
theorem sw_istore_n (hc : sg_Cx p s m args c cc nL own g) {k : Fin 4} {i : Nat} {x : Int32} (hdg : decode cc pc = .ok (.istore_n k, 1)) (hi : (k : Nat) = i) (hn : i < nL) (hl : (i, Value.int x) :: lv.filter (fun q => !(q.1 == i) && !(q.1 + 1 == i && q.2.category == 2)) = lv') (zkk : sg_W p l e R s m args below meth c nL g cells slots Q C (pc + 1) lv' rest) : sg_W p l e R s m args below meth c nL g cells slots Q C pc lv (.int x :: rest) := fun H locs ls hR hL hq hlv => lv_istore_n hc.1 hc.2.1 hdg hi hlv hn hl (fun ls' hlv' => zkk H locs ls' hR hL hq hlv')
theorem sw_istore (hc : sg_Cx p s m args c cc nL own g) {i : Nat} {x : Int32} (hdg : decode cc pc = .ok (.istore i, 2)) (hn : i < nL) (hl : (i, Value.int x) :: lv.filter (fun q => !(q.1 == i) && !(q.1 + 1 == i && q.2.category == 2)) = lv') (zkk : sg_W p l e R s m args below meth c nL g cells slots Q C (pc + 2) lv' rest) : sg_W p l e R s m args below meth c nL g cells slots Q C pc lv (.int x :: rest) := fun H locs ls hR hL hq hlv => lv_istore hc.1 hc.2.1 hdg hlv hn hl (fun ls' hlv' => zkk H locs ls' hR hL hq hlv')
theorem sw_astore_n (hc : sg_Cx p s m args c cc nL own g) {k : Fin 4} {i : Nat} {x : Nat} (hdg : decode cc pc = .ok (.astore_n k, 1)) (hi : (k : Nat) = i) (hn : i < nL) (hl : (i, Value.ref x) :: lv.filter (fun q => !(q.1 == i) && !(q.1 + 1 == i && q.2.category == 2)) = lv') (zkk : sg_W p l e R s m args below meth c nL g cells slots Q C (pc + 1) lv' rest) : sg_W p l e R s m args below meth c nL g cells slots Q C pc lv (.ref x :: rest) := fun H locs ls hR hL hq hlv => lv_astore_n hc.1 hc.2.1 hdg hi hlv hn hl (fun ls' hlv' => zkk H locs ls' hR hL hq hlv')
theorem sw_astore (hc : sg_Cx p s m args c cc nL own g) {i : Nat} {x : Nat} (hdg : decode cc pc = .ok (.astore i, 2)) (hn : i < nL) (hl : (i, Value.ref x) :: lv.filter (fun q => !(q.1 == i) && !(q.1 + 1 == i && q.2.category == 2)) = lv') (zkk : sg_W p l e R s m args below meth c nL g cells slots Q C (pc + 2) lv' rest) : sg_W p l e R s m args below meth c nL g cells slots Q C pc lv (.ref x :: rest) := fun H locs ls hR hL hq hlv => lv_astore hc.1 hc.2.1 hdg hlv hn hl (fun ls' hlv' => zkk H locs ls' hR hL hq hlv')
theorem sw_iinc (hc : sg_Cx p s m args c cc nL own g) {i k : Nat} {n : Int} {x v : Int32} (hdg : decode cc pc = .ok (.iinc i n, 3)) (hk : lv[k]? = some (i, .int x)) (hv : x + Int32.ofInt n = v) (hn : i < nL) (hl : (i, Value.int v) :: lv.filter (fun q => !(q.1 == i) && !(q.1 + 1 == i && q.2.category == 2)) = lv') (zkk : sg_W p l e R s m args below meth c nL g cells slots Q C (pc + 3) lv' rest) : sg_W p l e R s m args below meth c nL g cells slots Q C pc lv rest := fun H locs ls hR hL hq hlv => lv_iinc hc.1 hc.2.1 hdg hlv hk hv hn hl (fun ls' hlv' => zkk H locs ls' hR hL hq hlv')
theorem sw_iadd (hc : sg_Cx p s m args c cc nL own g) {x y : Int32} (hdg : decode cc pc = .ok (.iadd, 1)) (zk : sg_W p l e R s m args below meth c nL g cells slots Q C (pc + 1) lv (.int (x + y) :: rest)) : sg_W p l e R s m args below meth c nL g cells slots Q C pc lv (.int y :: .int x :: rest) := fun H locs ls hR hL hq hlv => lv_iadd hc.1 hc.2.1 hdg (zk H locs ls hR hL hq hlv)
theorem sw_isub (hc : sg_Cx p s m args c cc nL own g) {x y : Int32} (hdg : decode cc pc = .ok (.isub, 1)) (zk : sg_W p l e R s m args below meth c nL g cells slots Q C (pc + 1) lv (.int (x - y) :: rest)) : sg_W p l e R s m args below meth c nL g cells slots Q C pc lv (.int y :: .int x :: rest) := fun H locs ls hR hL hq hlv => lv_isub hc.1 hc.2.1 hdg (zk H locs ls hR hL hq hlv)
theorem sw_imul (hc : sg_Cx p s m args c cc nL own g) {x y : Int32} (hdg : decode cc pc = .ok (.imul, 1)) (zk : sg_W p l e R s m args below meth c nL g cells slots Q C (pc + 1) lv (.int (x * y) :: rest)) : sg_W p l e R s m args below meth c nL g cells slots Q C pc lv (.int y :: .int x :: rest) := fun H locs ls hR hL hq hlv => lv_imul hc.1 hc.2.1 hdg (zk H locs ls hR hL hq hlv)
theorem sw_idiv (hc : sg_Cx p s m args c cc nL own g) {x y : Int32} (hdg : decode cc pc = .ok (.idiv, 1)) (hne : ¬ y = 0) (zk : sg_W p l e R s m args below meth c nL g cells slots Q C (pc + 1) lv (.int (x / y) :: rest)) : sg_W p l e R s m args below meth c nL g cells slots Q C pc lv (.int y :: .int x :: rest) := fun H locs ls hR hL hq hlv => lv_idiv hc.1 hc.2.1 hdg hne (zk H locs ls hR hL hq hlv)
theorem sw_iand (hc : sg_Cx p s m args c cc nL own g) {x y : Int32} (hdg : decode cc pc = .ok (.iand, 1)) (zk : sg_W p l e R s m args below meth c nL g cells slots Q C (pc + 1) lv (.int (x &&& y) :: rest)) : sg_W p l e R s m args below meth c nL g cells slots Q C pc lv (.int y :: .int x :: rest) := fun H locs ls hR hL hq hlv => lv_iand hc.1 hc.2.1 hdg (zk H locs ls hR hL hq hlv)
theorem sw_ior (hc : sg_Cx p s m args c cc nL own g) {x y : Int32} (hdg : decode cc pc = .ok (.ior, 1)) (zk : sg_W p l e R s m args below meth c nL g cells slots Q C (pc + 1) lv (.int (x ||| y) :: rest)) : sg_W p l e R s m args below meth c nL g cells slots Q C pc lv (.int y :: .int x :: rest) := fun H locs ls hR hL hq hlv => lv_ior hc.1 hc.2.1 hdg (zk H locs ls hR hL hq hlv)
theorem sw_ixor (hc : sg_Cx p s m args c cc nL own g) {x y : Int32} (hdg : decode cc pc = .ok (.ixor, 1)) (zk : sg_W p l e R s m args below meth c nL g cells slots Q C (pc + 1) lv (.int (x ^^^ y) :: rest)) : sg_W p l e R s m args below meth c nL g cells slots Q C pc lv (.int y :: .int x :: rest) := fun H locs ls hR hL hq hlv => lv_ixor hc.1 hc.2.1 hdg (zk H locs ls hR hL hq hlv)
theorem sw_ishl (hc : sg_Cx p s m args c cc nL own g) {x y : Int32} (hdg : decode cc pc = .ok (.ishl, 1)) (zk : sg_W p l e R s m args below meth c nL g cells slots Q C (pc + 1) lv (.int (x <<< (y &&& 31)) :: rest)) : sg_W p l e R s m args below meth c nL g cells slots Q C pc lv (.int y :: .int x :: rest) := fun H locs ls hR hL hq hlv => lv_ishl hc.1 hc.2.1 hdg (zk H locs ls hR hL hq hlv)
theorem sw_ishr (hc : sg_Cx p s m args c cc nL own g) {x y : Int32} (hdg : decode cc pc = .ok (.ishr, 1)) (zk : sg_W p l e R s m args below meth c nL g cells slots Q C (pc + 1) lv (.int (x >>> (y &&& 31)) :: rest)) : sg_W p l e R s m args below meth c nL g cells slots Q C pc lv (.int y :: .int x :: rest) := fun H locs ls hR hL hq hlv => lv_ishr hc.1 hc.2.1 hdg (zk H locs ls hR hL hq hlv)
theorem sw_dup (hc : sg_Cx p s m args c cc nL own g) {va : Value} (hdg : decode cc pc = .ok (.dup, 1)) (hva : va.category = 1) (zk : sg_W p l e R s m args below meth c nL g cells slots Q C (pc + 1) lv (va :: va :: rest)) : sg_W p l e R s m args below meth c nL g cells slots Q C pc lv (va :: rest) := fun H locs ls hR hL hq hlv => lv_dup hc.1 hc.2.1 hdg hva (zk H locs ls hR hL hq hlv)
theorem sw_dup_x1 (hc : sg_Cx p s m args c cc nL own g) {va vb : Value} (hdg : decode cc pc = .ok (.dup_x1, 1)) (hva : va.category = 1) (hvb : vb.category = 1) (zk : sg_W p l e R s m args below meth c nL g cells slots Q C (pc + 1) lv (va :: vb :: va :: rest)) : sg_W p l e R s m args below meth c nL g cells slots Q C pc lv (va :: vb :: rest) := fun H locs ls hR hL hq hlv => lv_dup_x1 hc.1 hc.2.1 hdg hva hvb (zk H locs ls hR hL hq hlv)
theorem sw_dup2_11 (hc : sg_Cx p s m args c cc nL own g) {va vb : Value} (hdg : decode cc pc = .ok (.dup2, 1)) (hva : va.category = 1) (hvb : vb.category = 1) (zk : sg_W p l e R s m args below meth c nL g cells slots Q C (pc + 1) lv (va :: vb :: va :: vb :: rest)) : sg_W p l e R s m args below meth c nL g cells slots Q C pc lv (va :: vb :: rest) := fun H locs ls hR hL hq hlv => lv_dup2_11 hc.1 hc.2.1 hdg hva hvb (zk H locs ls hR hL hq hlv)
theorem sw_pop (hc : sg_Cx p s m args c cc nL own g) {va : Value} (hdg : decode cc pc = .ok (.pop, 1)) (hva : va.category = 1) (zk : sg_W p l e R s m args below meth c nL g cells slots Q C (pc + 1) lv (rest)) : sg_W p l e R s m args below meth c nL g cells slots Q C pc lv (va :: rest) := fun H locs ls hR hL hq hlv => lv_pop hc.1 hc.2.1 hdg hva (zk H locs ls hR hL hq hlv)
theorem sw_goto (hc : sg_Cx p s m args c cc nL own g) {off : Int} {tgt : Nat} (hdg : decode cc pc = .ok (.goto off, 3)) (ht : (pc : Int) + off = (tgt : Int)) (zk : sg_W p l e R s m args below meth c nL g cells slots Q C tgt lv rest) : sg_W p l e R s m args below meth c nL g cells slots Q C pc lv rest := fun H locs ls hR hL hq hlv => lv_goto hc.1 hc.2.1 hdg ht (zk H locs ls hR hL hq hlv)
theorem sw_i2l (hc : sg_Cx p s m args c cc nL own g) {x : Int32} {v : Int64} (hdg : decode cc pc = .ok (.i2l, 1)) (hv : x.toInt64 = v) (zk : sg_W p l e R s m args below meth c nL g cells slots Q C (pc + 1) lv (.long v :: rest)) : sg_W p l e R s m args below meth c nL g cells slots Q C pc lv (.int x :: rest) := fun H locs ls hR hL hq hlv => lv_i2l hc.1 hc.2.1 hdg hv (zk H locs ls hR hL hq hlv)
theorem sw_lconst (hc : sg_Cx p s m args c cc nL own g) {n : Fin 2} {v : Int64} (hdg : decode cc pc = .ok (.lconst n, 1)) (hv : Int64.ofNat (n : Nat) = v) (zk : sg_W p l e R s m args below meth c nL g cells slots Q C (pc + 1) lv (.long v :: rest)) : sg_W p l e R s m args below meth c nL g cells slots Q C pc lv (rest) := fun H locs ls hR hL hq hlv => lv_lconst hc.1 hc.2.1 hdg hv (zk H locs ls hR hL hq hlv)
theorem sw_if_eq (hc : sg_Cx p s m args c cc nL own g) {x : Int32} {off : Int} {tgt : Nat} (hdg : decode cc pc = .ok (.ifCond .eq off, 3)) (ht : (pc : Int) + off = (tgt : Int)) (zkt : x = 0 → sg_W p l e R s m args below meth c nL g cells slots Q C tgt lv rest) (zkf : ¬ x = 0 → sg_W p l e R s m args below meth c nL g cells slots Q C (pc + 3) lv rest) : sg_W p l e R s m args below meth c nL g cells slots Q C pc lv (.int x :: rest) := fun H locs ls hR hL hq hlv => lv_if_eq hc.1 hc.2.1 hdg ht (fun z => zkt z H locs ls hR hL hq hlv) (fun z => zkf z H locs ls hR hL hq hlv)
theorem sw_if_ne (hc : sg_Cx p s m args c cc nL own g) {x : Int32} {off : Int} {tgt : Nat} (hdg : decode cc pc = .ok (.ifCond .ne off, 3)) (ht : (pc : Int) + off = (tgt : Int)) (zkt : ¬ x = 0 → sg_W p l e R s m args below meth c nL g cells slots Q C tgt lv rest) (zkf : x = 0 → sg_W p l e R s m args below meth c nL g cells slots Q C (pc + 3) lv rest) : sg_W p l e R s m args below meth c nL g cells slots Q C pc lv (.int x :: rest) := fun H locs ls hR hL hq hlv => lv_if_ne hc.1 hc.2.1 hdg ht (fun z => zkt z H locs ls hR hL hq hlv) (fun z => zkf z H locs ls hR hL hq hlv)
theorem sw_if_lt (hc : sg_Cx p s m args c cc nL own g) {x : Int32} {off : Int} {tgt : Nat} (hdg : decode cc pc = .ok (.ifCond .lt off, 3)) (ht : (pc : Int) + off = (tgt : Int)) (zkt : x < 0 → sg_W p l e R s m args below meth c nL g cells slots Q C tgt lv rest) (zkf : ¬ x < 0 → sg_W p l e R s m args below meth c nL g cells slots Q C (pc + 3) lv rest) : sg_W p l e R s m args below meth c nL g cells slots Q C pc lv (.int x :: rest) := fun H locs ls hR hL hq hlv => lv_if_lt hc.1 hc.2.1 hdg ht (fun z => zkt z H locs ls hR hL hq hlv) (fun z => zkf z H locs ls hR hL hq hlv)
theorem sw_if_ge (hc : sg_Cx p s m args c cc nL own g) {x : Int32} {off : Int} {tgt : Nat} (hdg : decode cc pc = .ok (.ifCond .ge off, 3)) (ht : (pc : Int) + off = (tgt : Int)) (zkt : 0 ≤ x → sg_W p l e R s m args below meth c nL g cells slots Q C tgt lv rest) (zkf : ¬ 0 ≤ x → sg_W p l e R s m args below meth c nL g cells slots Q C (pc + 3) lv rest) : sg_W p l e R s m args below meth c nL g cells slots Q C pc lv (.int x :: rest) := fun H locs ls hR hL hq hlv => lv_if_ge hc.1 hc.2.1 hdg ht (fun z => zkt z H locs ls hR hL hq hlv) (fun z => zkf z H locs ls hR hL hq hlv)
theorem sw_if_gt (hc : sg_Cx p s m args c cc nL own g) {x : Int32} {off : Int} {tgt : Nat} (hdg : decode cc pc = .ok (.ifCond .gt off, 3)) (ht : (pc : Int) + off = (tgt : Int)) (zkt : 0 < x → sg_W p l e R s m args below meth c nL g cells slots Q C tgt lv rest) (zkf : ¬ 0 < x → sg_W p l e R s m args below meth c nL g cells slots Q C (pc + 3) lv rest) : sg_W p l e R s m args below meth c nL g cells slots Q C pc lv (.int x :: rest) := fun H locs ls hR hL hq hlv => lv_if_gt hc.1 hc.2.1 hdg ht (fun z => zkt z H locs ls hR hL hq hlv) (fun z => zkf z H locs ls hR hL hq hlv)
theorem sw_if_le (hc : sg_Cx p s m args c cc nL own g) {x : Int32} {off : Int} {tgt : Nat} (hdg : decode cc pc = .ok (.ifCond .le off, 3)) (ht : (pc : Int) + off = (tgt : Int)) (zkt : x ≤ 0 → sg_W p l e R s m args below meth c nL g cells slots Q C tgt lv rest) (zkf : ¬ x ≤ 0 → sg_W p l e R s m args below meth c nL g cells slots Q C (pc + 3) lv rest) : sg_W p l e R s m args below meth c nL g cells slots Q C pc lv (.int x :: rest) := fun H locs ls hR hL hq hlv => lv_if_le hc.1 hc.2.1 hdg ht (fun z => zkt z H locs ls hR hL hq hlv) (fun z => zkf z H locs ls hR hL hq hlv)
theorem sw_icmp_eq (hc : sg_Cx p s m args c cc nL own g) {x y : Int32} {off : Int} {tgt : Nat} (hdg : decode cc pc = .ok (.if_icmp .eq off, 3)) (ht : (pc : Int) + off = (tgt : Int)) (zkt : x = y → sg_W p l e R s m args below meth c nL g cells slots Q C tgt lv rest) (zkf : ¬ x = y → sg_W p l e R s m args below meth c nL g cells slots Q C (pc + 3) lv rest) : sg_W p l e R s m args below meth c nL g cells slots Q C pc lv (.int y :: .int x :: rest) := fun H locs ls hR hL hq hlv => lv_icmp_eq hc.1 hc.2.1 hdg ht (fun z => zkt z H locs ls hR hL hq hlv) (fun z => zkf z H locs ls hR hL hq hlv)
theorem sw_icmp_ne (hc : sg_Cx p s m args c cc nL own g) {x y : Int32} {off : Int} {tgt : Nat} (hdg : decode cc pc = .ok (.if_icmp .ne off, 3)) (ht : (pc : Int) + off = (tgt : Int)) (zkt : ¬ x = y → sg_W p l e R s m args below meth c nL g cells slots Q C tgt lv rest) (zkf : x = y → sg_W p l e R s m args below meth c nL g cells slots Q C (pc + 3) lv rest) : sg_W p l e R s m args below meth c nL g cells slots Q C pc lv (.int y :: .int x :: rest) := fun H locs ls hR hL hq hlv => lv_icmp_ne hc.1 hc.2.1 hdg ht (fun z => zkt z H locs ls hR hL hq hlv) (fun z => zkf z H locs ls hR hL hq hlv)
theorem sw_icmp_lt (hc : sg_Cx p s m args c cc nL own g) {x y : Int32} {off : Int} {tgt : Nat} (hdg : decode cc pc = .ok (.if_icmp .lt off, 3)) (ht : (pc : Int) + off = (tgt : Int)) (zkt : x < y → sg_W p l e R s m args below meth c nL g cells slots Q C tgt lv rest) (zkf : ¬ x < y → sg_W p l e R s m args below meth c nL g cells slots Q C (pc + 3) lv rest) : sg_W p l e R s m args below meth c nL g cells slots Q C pc lv (.int y :: .int x :: rest) := fun H locs ls hR hL hq hlv => lv_icmp_lt hc.1 hc.2.1 hdg ht (fun z => zkt z H locs ls hR hL hq hlv) (fun z => zkf z H locs ls hR hL hq hlv)
theorem sw_icmp_ge (hc : sg_Cx p s m args c cc nL own g) {x y : Int32} {off : Int} {tgt : Nat} (hdg : decode cc pc = .ok (.if_icmp .ge off, 3)) (ht : (pc : Int) + off = (tgt : Int)) (zkt : y ≤ x → sg_W p l e R s m args below meth c nL g cells slots Q C tgt lv rest) (zkf : ¬ y ≤ x → sg_W p l e R s m args below meth c nL g cells slots Q C (pc + 3) lv rest) : sg_W p l e R s m args below meth c nL g cells slots Q C pc lv (.int y :: .int x :: rest) := fun H locs ls hR hL hq hlv => lv_icmp_ge hc.1 hc.2.1 hdg ht (fun z => zkt z H locs ls hR hL hq hlv) (fun z => zkf z H locs ls hR hL hq hlv)
theorem sw_icmp_gt (hc : sg_Cx p s m args c cc nL own g) {x y : Int32} {off : Int} {tgt : Nat} (hdg : decode cc pc = .ok (.if_icmp .gt off, 3)) (ht : (pc : Int) + off = (tgt : Int)) (zkt : y < x → sg_W p l e R s m args below meth c nL g cells slots Q C tgt lv rest) (zkf : ¬ y < x → sg_W p l e R s m args below meth c nL g cells slots Q C (pc + 3) lv rest) : sg_W p l e R s m args below meth c nL g cells slots Q C pc lv (.int y :: .int x :: rest) := fun H locs ls hR hL hq hlv => lv_icmp_gt hc.1 hc.2.1 hdg ht (fun z => zkt z H locs ls hR hL hq hlv) (fun z => zkf z H locs ls hR hL hq hlv)
theorem sw_icmp_le (hc : sg_Cx p s m args c cc nL own g) {x y : Int32} {off : Int} {tgt : Nat} (hdg : decode cc pc = .ok (.if_icmp .le off, 3)) (ht : (pc : Int) + off = (tgt : Int)) (zkt : x ≤ y → sg_W p l e R s m args below meth c nL g cells slots Q C tgt lv rest) (zkf : ¬ x ≤ y → sg_W p l e R s m args below meth c nL g cells slots Q C (pc + 3) lv rest) : sg_W p l e R s m args below meth c nL g cells slots Q C pc lv (.int y :: .int x :: rest) := fun H locs ls hR hL hq hlv => lv_icmp_le hc.1 hc.2.1 hdg ht (fun z => zkt z H locs ls hR hL hq hlv) (fun z => zkf z H locs ls hR hL hq hlv)
theorem sw_acmp_eq (hc : sg_Cx p s m args c cc nL own g) {rx ry : Option Nat} {off : Int} {tgt : Nat} (hdg : decode cc pc = .ok (.if_acmp .eq off, 3)) (ht : (pc : Int) + off = (tgt : Int)) (zkt : rx = ry → sg_W p l e R s m args below meth c nL g cells slots Q C tgt lv rest) (zkf : ¬ rx = ry → sg_W p l e R s m args below meth c nL g cells slots Q C (pc + 3) lv rest) : sg_W p l e R s m args below meth c nL g cells slots Q C pc lv (va_rf ry :: va_rf rx :: rest) := fun H locs ls hR hL hq hlv => lv_acmp_eq hc.1 hc.2.1 hdg ht (fun z => zkt z H locs ls hR hL hq hlv) (fun z => zkf z H locs ls hR hL hq hlv)
theorem sw_acmp_ne (hc : sg_Cx p s m args c cc nL own g) {rx ry : Option Nat} {off : Int} {tgt : Nat} (hdg : decode cc pc = .ok (.if_acmp .ne off, 3)) (ht : (pc : Int) + off = (tgt : Int)) (zkt : ¬ rx = ry → sg_W p l e R s m args below meth c nL g cells slots Q C tgt lv rest) (zkf : rx = ry → sg_W p l e R s m args below meth c nL g cells slots Q C (pc + 3) lv rest) : sg_W p l e R s m args below meth c nL g cells slots Q C pc lv (va_rf ry :: va_rf rx :: rest) := fun H locs ls hR hL hq hlv => lv_acmp_ne hc.1 hc.2.1 hdg ht (fun z => zkt z H locs ls hR hL hq hlv) (fun z => zkf z H locs ls hR hL hq hlv)
theorem sw_ifnull (hc : sg_Cx p s m args c cc nL own g) {x : Nat} {off : Int} (hdg : decode cc pc = .ok (.ifnull off, 3)) (zk : sg_W p l e R s m args below meth c nL g cells slots Q C (pc + 3) lv rest) : sg_W p l e R s m args below meth c nL g cells slots Q C pc lv (.ref x :: rest) := fun H locs ls hR hL hq hlv => lv_ifnull hc.1 hc.2.1 hdg (zk H locs ls hR hL hq hlv)
theorem sw_ifnonnull (hc : sg_Cx p s m args c cc nL own g) {x : Nat} {off : Int} {tgt : Nat} (hdg : decode cc pc = .ok (.ifnonnull off, 3)) (ht : (pc : Int) + off = (tgt : Int)) (zk : sg_W p l e R s m args below meth c nL g cells slots Q C tgt lv rest) : sg_W p l e R s m args below meth c nL g cells slots Q C pc lv (.ref x :: rest) := fun H locs ls hR hL hq hlv => lv_ifnonnull hc.1 hc.2.1 hdg ht (zk H locs ls hR hL hq hlv)
theorem sw_null (hc : sg_Cx p s m args c cc nL own g) (hdg : decode cc pc = .ok (.aconst_null, 1)) (zk : sg_W p l e R s m args below meth c nL g cells slots Q C (pc + 1) lv (.null :: rest)) : sg_W p l e R s m args below meth c nL g cells slots Q C pc lv rest := fun H locs ls hR hL hq hlv => lv_null hc.1 hc.2.1 hdg (zk H locs ls hR hL hq hlv)
theorem sw_ifnullN (hc : sg_Cx p s m args c cc nL own g) {off : Int} {tgt : Nat} (hdg : decode cc pc = .ok (.ifnull off, 3)) (ht : (pc : Int) + off = (tgt : Int)) (zk : sg_W p l e R s m args below meth c nL g cells slots Q C tgt lv rest) : sg_W p l e R s m args below meth c nL g cells slots Q C pc lv (.null :: rest) := fun H locs ls hR hL hq hlv => lv_ifnullN hc.1 hc.2.1 hdg ht (zk H locs ls hR hL hq hlv)
theorem sw_ifnonnullN (hc : sg_Cx p s m args c cc nL own g) {off : Int} (hdg : decode cc pc = .ok (.ifnonnull off, 3)) (zk : sg_W p l e R s m args below meth c nL g cells slots Q C (pc + 3) lv rest) : sg_W p l e R s m args below meth c nL g cells slots Q C pc lv (.null :: rest) := fun H locs ls hR hL hq hlv => lv_ifnonnullN hc.1 hc.2.1 hdg (zk H locs ls hR hL hq hlv)
theorem sw_aload_nN (hc : sg_Cx p s m args c cc nL own g) {k : Fin 4} {i : Nat} (hdg : decode cc pc = .ok (.aload_n k, 1)) (hi : (k : Nat) = i) (kx : Nat) (hl : lv[kx]? = some (i, (.null))) (zk : sg_W p l e R s m args below meth c nL g cells slots Q C (pc + 1) lv (.null :: rest)) : sg_W p l e R s m args below meth c nL g cells slots Q C pc lv (rest) := fun H locs ls hR hL hq hlv => lv_aload_nN hc.1 hc.2.1 hdg hi (lv_at hlv kx hl) (zk H locs ls hR hL hq hlv)
theorem sw_aloadN (hc : sg_Cx p s m args c cc nL own g) {i : Nat} (hdg : decode cc pc = .ok (.aload i, 2)) (kx : Nat) (hl : lv[kx]? = some (i, (.null))) (zk : sg_W p l e R s m args below meth c nL g cells slots Q C (pc + 2) lv (.null :: rest)) : sg_W p l e R s m args below meth c nL g cells slots Q C pc lv (rest) := fun H locs ls hR hL hq hlv => lv_aloadN hc.1 hc.2.1 hdg (lv_at hlv kx hl) (zk H locs ls hR hL hq hlv)
theorem sw_astore_nN (hc : sg_Cx p s m args c cc nL own g) {k : Fin 4} {i : Nat} (hdg : decode cc pc = .ok (.astore_n k, 1)) (hi : (k : Nat) = i) (hn : i < nL) (hl : (i, Value.null) :: lv.filter (fun q => !(q.1 == i) && !(q.1 + 1 == i && q.2.category == 2)) = lv') (zkk : sg_W p l e R s m args below meth c nL g cells slots Q C (pc + 1) lv' rest) : sg_W p l e R s m args below meth c nL g cells slots Q C pc lv (.null :: rest) := fun H locs ls hR hL hq hlv => lv_astore_nN hc.1 hc.2.1 hdg hi hlv hn hl (fun ls' hlv' => zkk H locs ls' hR hL hq hlv')
theorem sw_astoreN (hc : sg_Cx p s m args c cc nL own g) {i : Nat} (hdg : decode cc pc = .ok (.astore i, 2)) (hn : i < nL) (hl : (i, Value.null) :: lv.filter (fun q => !(q.1 == i) && !(q.1 + 1 == i && q.2.category == 2)) = lv') (zkk : sg_W p l e R s m args below meth c nL g cells slots Q C (pc + 2) lv' rest) : sg_W p l e R s m args below meth c nL g cells slots Q C pc lv (.null :: rest) := fun H locs ls hR hL hq hlv => lv_astoreN hc.1 hc.2.1 hdg hlv hn hl (fun ls' hlv' => zkk H locs ls' hR hL hq hlv')
theorem sw_tableIn (hc : sg_Cx p s m args c cc nL own g) {dflt lo hi : Int} {offs : Array Int} {len : Nat} {x : Int32} {off : Int} {tgt : Nat} (hdg : decode cc pc = .ok (.tableswitch dflt lo hi offs, len)) (h1 : ¬ x.toInt < lo) (h2 : ¬ hi < x.toInt) (ho : offs[(x.toInt - lo).toNat]? = some off) (ht : (pc : Int) + off = (tgt : Int)) (zk : sg_W p l e R s m args below meth c nL g cells slots Q C tgt lv rest) : sg_W p l e R s m args below meth c nL g cells slots Q C pc lv (.int x :: rest) := fun H locs ls hR hL hq hlv => lv_tableIn hc.1 hc.2.1 hdg h1 h2 ho ht (zk H locs ls hR hL hq hlv)
theorem sw_tableOut (hc : sg_Cx p s m args c cc nL own g) {dflt lo hi : Int} {offs : Array Int} {len : Nat} {x : Int32} {tgt : Nat} (hdg : decode cc pc = .ok (.tableswitch dflt lo hi offs, len)) (h : x.toInt < lo ∨ hi < x.toInt) (ht : (pc : Int) + dflt = (tgt : Int)) (zk : sg_W p l e R s m args below meth c nL g cells slots Q C tgt lv rest) : sg_W p l e R s m args below meth c nL g cells slots Q C pc lv (.int x :: rest) := fun H locs ls hR hL hq hlv => lv_tableOut hc.1 hc.2.1 hdg h ht (zk H locs ls hR hL hq hlv)
end SGR
/-! worlds -/
theorem sg_up_s {C : Nat → Option va_E} {a : Nat} {e : va_E} : sg_up C a e a = some e := if_pos rfl
theorem sg_up_n {C : Nat → Option va_E} {a x : Nat} {e : va_E} (h : x ≠ a) : sg_up C a e x = C x := if_neg h
/-- a world with some cells written over -/
def sg_ov (C : Nat → Option va_E) : va_W → Nat → Option va_E
  | [] => C
  | (a, e) :: l => sg_up (sg_ov C l) a e
def sg_nd : List Nat → Prop
  | [] => True
  | a :: l => a ∉ l ∧ sg_nd l
theorem sg_ov_out {C : Nat → Option va_E} {x : Nat} : ∀ {l : va_W}, x ∉ l.map Prod.fst → sg_ov C l x = C x
  | [], _ => rfl
  | (a, e) :: l, h => by
    rw [List.map_cons, List.mem_cons, not_or] at h
    show sg_up (sg_ov C l) a e x = C x
    rw [sg_up_n h.1]
    exact sg_ov_out h.2
theorem sg_ov_at {C : Nat → Option va_E} {x : Nat} {e : va_E} : ∀ {l : va_W} {k : Nat}, sg_nd (l.map Prod.fst) → l[k]? = some (x, e) → sg_ov C l x = some e
  | [], k, _, h => by simp at h
  | (a, e') :: l, 0, _, h => by
    simp only [List.getElem?_cons_zero, Option.some.injEq, Prod.mk.injEq] at h
    obtain ⟨rfl, rfl⟩ := h
    exact sg_up_s
  | (a, e') :: l, k + 1, hn, h => by
    rw [List.getElem?_cons_succ] at h
    have hm : x ∈ l.map Prod.fst := List.mem_map.mpr ⟨_, List.mem_of_getElem? h, rfl⟩
    show sg_up (sg_ov C l) a e' x = some e
    have hx : x ≠ a := fun q => hn.1 (by subst q; exact hm)
    rw [sg_up_n hx]
    exact sg_ov_at hn.2 h
theorem sg_ov_set {C : Nat → Option va_E} {x : Nat} {e e0 : va_E} : ∀ {l : va_W} {k : Nat}, sg_nd (l.map Prod.fst) → l[k]? = some (x, e0) → sg_up (sg_ov C l) x e = sg_ov C (l.set k (x, e))
  | [], k, _, h => by simp at h
  | (a, e') :: l, 0, _, h => by
    simp only [List.getElem?_cons_zero, Option.some.injEq, Prod.mk.injEq] at h
    obtain ⟨rfl, rfl⟩ := h
    funext y
    show sg_up (sg_up (sg_ov C l) a e') a e y = sg_up (sg_ov C l) a e y
    by_cases hy : y = a
    · subst hy; rw [sg_up_s, sg_up_s]
    · rw [sg_up_n hy, sg_up_n hy, sg_up_n hy]
  | (a, e') :: l, k + 1, hn, h => by
    rw [List.getElem?_cons_succ] at h
    have hm : x ∈ l.map Prod.fst := List.mem_map.mpr ⟨_, List.mem_of_getElem? h, rfl⟩
    have hx : x ≠ a := fun q => hn.1 (by subst q; exact hm)
    have ih := sg_ov_set (C := C) (e := e) hn.2 h
    funext y
    show sg_up (sg_up (sg_ov C l) a e') x e y = sg_up (sg_ov C (l.set k (x, e))) a e' y
    rw [← ih]
    by_cases hy : y = a
    · subst hy; rw [sg_up_s, sg_up_n (Ne.symm hx), sg_up_s]
    · by_cases hz : y = x
      · subst hz; rw [sg_up_s, sg_up_n hy, sg_up_s]
      · rw [sg_up_n hz, sg_up_n hy, sg_up_n hy, sg_up_n hz]
theorem sg_ov_self {C : Nat → Option va_E} : ∀ {l : va_W}, (∀ (k : Nat) (q : Nat × va_E), l[k]? = some q → C q.1 = some q.2) → sg_ov C l = C
  | [], _ => rfl
  | (a, e) :: l, h => by
    have ih : sg_ov C l = C := sg_ov_self fun k q hq => h (k + 1) q (by rw [List.getElem?_cons_succ]; exact hq)
    funext y
    show sg_up (sg_ov C l) a e y = C y
    rw [ih]
    by_cases hy : y = a
    · subst hy; rw [sg_up_s]; exact (h 0 _ rfl).symm
    · rw [sg_up_n hy]
/-! what a name of a field, of a method, stands for -/
def sg_FL (own : String) (idx ci k : Nat) : Prop := ∃ (Cn : String) (T : u_T) (N : Nat) (ref : String), vwCl[ci]? = some (Cn, T, N) ∧ k < N ∧ (∀ w ∈ u_ws Cn T N, w ∈ sg_T) ∧
  (ref = (T k).1 ∨ Cond.sameField ref (T k).1 (T k).2.1 (T k).2.2.1 ∈ sg_T) ∧
  (Cond.fieldLink own idx ref (T k).2.1 (T k).2.2.1 ∈ sg_T ∨ ∃ host, Cond.fieldLinkNest own idx ref (T k).2.1 (T k).2.2.1 host ∈ sg_N)
/-- the types of a class's fields, their names apart -/
def sg_TY (ci : Nat) : Prop := ∃ (Cn : String) (T : u_T) (N : Nat) (ty : Nat → FieldType), vwCl[ci]? = some (Cn, T, N) ∧ (∀ k, k < N → parseFieldDescriptor (T k).2.2.1 = some (ty k)) ∧ (∀ a, a < N → ∀ b, b < N → a ≠ b → (T a).2.1 ≠ (T b).2.1)
def sg_FP (ci k : Nat) (fin : Bool) (ty : FieldType) : Prop := ∃ (Cn : String) (T : u_T) (N : Nat), vwCl[ci]? = some (Cn, T, N) ∧ (T k).2.2.2 = fin ∧ parseFieldDescriptor (T k).2.2.1 = some ty ∧ (T k).1 = Cn
section SGH
variable {p : Program} {l : Launch} {e : Env} {R : Room} {s : State} {m : MethodId} {args : Array Value} {below : List Frame} {meth : Method} {c : Code} {cells slots : Nat} {Q : State → Prop}
variable {cc : ByteArray} {nL : Nat} {own : String} {g : sg_G} {C : Nat → Option va_E} {pc : Nat} {lv lv' : List (Nat × Value)} {rest : List Value} {H : Heap}
theorem sg_Rp.one {a : Nat} {x : va_E} (hR : sg_Rp g C H) (ha : C a = some x) : va_P g.1 vwCl [(a, x)] H := by
  intro k q hk
  have hz : k < 1 := (List.getElem?_eq_some_iff.mp hk).1
  rw [show k = 0 by omega] at hk
  cases hk
  exact (hR a x ha).1
theorem sg_Rp.lt {a : Nat} {x : va_E} (hR : sg_Rp g C H) (ha : C a = some x) : a < H.size := (hR a x ha).1.lt
theorem sg_Rp.none (hR : sg_Rp g C H) : C H.size = none := by
  cases h : C H.size with
  | none => rfl
  | some x => exact absurd (hR.lt h) (Nat.lt_irrefl _)
theorem sg_Rp.put {a : Nat} {x y : va_E} {H1 : Heap} (hR : sg_Rp g C H) (ha : C a = some x) (hy : va_at g.1 vwCl (a, y) H1) (oq : ∀ q : Nat, q ≠ a → H1[q]? = H[q]?) : sg_Rp g (sg_up C a y) H1 := by
  intro b z hz
  by_cases hb : b = a
  · subst hb
    rw [sg_up_s] at hz
    cases hz
    exact ⟨hy, (hR b x ha).2⟩
  · rw [sg_up_n hb] at hz
    exact ⟨(hR b z hz).1.kept (oq b hb), (hR b z hz).2⟩
theorem sg_Rp.new {y : va_E} {H1 : Heap} (hR : sg_Rp g C H) (hL : sg_Lo g H) (hy : va_at g.1 vwCl (H.size, y) H1) (oq : ∀ q : Nat, q < H.size → H1[q]? = H[q]?) : sg_Rp g (sg_up C H.size y) H1 := by
  intro b z hz
  by_cases hb : b = H.size
  · subst hb
    rw [sg_up_s] at hz
    cases hz
    exact ⟨hy, hL.1⟩
  · rw [sg_up_n hb] at hz
    exact ⟨(hR b z hz).1.kept (oq b (hR.lt hz)), (hR b z hz).2⟩
theorem sg_Lo.put {a : Nat} {H1 : Heap} (hL : sg_Lo g H) (ha : g.2.2.size ≤ a) (hz : H1.size = H.size) (oq : ∀ q : Nat, q ≠ a → H1[q]? = H[q]?) : sg_Lo g H1 :=
  ⟨by rw [hz]; exact hL.1, fun q hq => (oq q (by omega)).trans (hL.2 q hq)⟩
theorem sg_Lo.new {H1 : Heap} (hL : sg_Lo g H) (hz : H1.size = H.size + 1) (oq : ∀ q : Nat, q < H.size → H1[q]? = H[q]?) : sg_Lo g H1 :=
  ⟨by rw [hz]; exact Nat.le_succ_of_le hL.1, fun q hq => (oq q (Nat.lt_of_lt_of_le hq hL.1)).trans (hL.2 q hq)⟩
theorem sg_locs {a k : Nat} {locs : List Loc} (hq : ∀ q ∈ locs, g.2.2.size ≤ q.base) (ha : g.2.2.size ≤ a) : ∀ q ∈ locs ++ [(⟨a, k⟩ : Loc)], g.2.2.size ≤ q.base := by
  intro q h
  rcases List.mem_append.mp h with h | h
  · exact hq q h
  · rcases List.mem_singleton.mp h with rfl
    exact ha
theorem sw_top {x : Int32} (hx : ∀ y : Int32, y = x → sg_W p l e R s m args below meth c nL g cells slots Q C pc lv (.int y :: rest)) : sg_W p l e R s m args below meth c nL g cells slots Q C pc lv (.int x :: rest) := hx x rfl
theorem sg_same {U : State} {T : u_T} {k : Nat} {ref : String} (hts : ∀ w ∈ sg_T, w.before args U = true) (h : ref = (T k).1 ∨ Cond.sameField ref (T k).1 (T k).2.1 (T k).2.2.1 ∈ sg_T) : ∀ x, U.fieldFound? (T k).1 (T k).2.1 (T k).2.2.1 = some x → U.fieldFound? ref (T k).2.1 (T k).2.2.1 = some x := by
  rcases h with h | h
  · intro x hx; rw [h]; exact hx
  · exact fun x hx => u_same (hts _ h) x hx
theorem sw_get (hc : sg_Cx p s m args c cc nL own g) {idx ci k : Nat} (hf : sg_FL own idx ci k) {a : Nat} {fs : List Value} (ha : C a = some (.inr (ci, fs))) {v : Value} (hv : fs[k]? = some v) (hdg : decode cc pc = .ok (.getfield idx, 3))
    (kk : sg_W p l e R s m args below meth c nL g cells slots Q C (pc + 3) lv (v :: rest)) : sg_W p l e R s m args below meth c nL g cells slots Q C pc lv (.ref a :: rest) := by
  intro H locs ls hR hL hq hl
  obtain ⟨hx, hb, hml, hown, hts, hK, hN⟩ := hc
  obtain ⟨Cn, T, N, ref, h1, h2, h3, h4, h5⟩ := hf
  rcases h5 with h5 | ⟨host, h5⟩
  · exact va_get hx hb hts h3 hown hK (hR.one ha) 0 rfl h1 k h2 (hts _ h5) (sg_same hts h4) hv hdg (kk H locs ls hR hL hq hl)
  · exact va_getN hx hb hts h3 hown hK (hR.one ha) 0 rfl h1 k h2 (va_Nw.use rfl (hN _ h5)) (sg_same hts h4) hv hdg (kk H locs ls hR hL hq hl)
theorem sg_uniq {ci : Nat} {x y : vw_C} (h : vwCl[ci]? = some x) (h' : vwCl[ci]? = some y) : x = y := Option.some.inj (h.symm.trans h')
theorem sw_put (hc : sg_Cx p s m args c cc nL own g) {idx ci k : Nat} {ty : FieldType} (hf : sg_FL own idx ci k) (ht : sg_TY ci) (hp : sg_FP ci k false ty) {a : Nat} {fs fs' : List Value} (ha : C a = some (.inr (ci, fs))) {v : Value} (hn : narrow ty v = v) (hfit : fits ty v = true) (hlen : k < fs.length) (hfs : fs.set k v = fs') (hdg : decode cc pc = .ok (.putfield idx, 3))
    (kk : sg_W p l e R s m args below meth c nL g cells slots Q (sg_up C a (.inr (ci, fs'))) (pc + 3) lv rest) : sg_W p l e R s m args below meth c nL g cells slots Q C pc lv (v :: .ref a :: rest) := by
  intro H locs ls hR hL hq hl
  subst hfs
  obtain ⟨hx, hb, hml, hown, hts, hK, hN⟩ := hc
  obtain ⟨Cn, T, N, ref, h1, hk, hin, h4, h5⟩ := hf
  obtain ⟨Cn2, T2, N2, ty0, h12, hty, hnm⟩ := ht
  cases sg_uniq h1 h12
  obtain ⟨Cn3, T3, N3, h13, hfin, hd, -⟩ := hp
  cases sg_uniq h1 h13
  have hap := va_apart (own := own) hts hin ty0 hty hnm hK h1
  obtain ⟨r, g1, cell, q1, q2, q3, q4⟩ := (hR a _ ha).1
  cases sg_uniq g1 h1
  obtain ⟨hS, hfc, kC, hkC, hkind⟩ := hK.1 ci _ h1
  obtain ⟨cf, kf, fi, f, hi, hsl⟩ := hS k hk
  have hlay := hts _ (hin _ (u_in_lay hk))
  unfold u_lay at hlay
  rw [if_neg (by rw [hfin]; decide)] at hlay
  have hst := (u_facts hfc hkC (u_lays hts hin hk) hi).1
  have h6 := u_store hfc hkC hkind hlay hi hd hn hfit
  have fin : ∀ H' : Heap, H'[a]? = some (cell.setSlot f.slot v) → H'.size = H.size → (∀ q, q ≠ a → H'[q]? = H[q]?) → W p l e R s m args below meth c H' (locs ++ [⟨a, f.slot⟩]) cells slots Q (F0 m (pc + 3) ls rest) := by
    intro H' e1 e2 e3
    rw [hsl] at e1
    exact kk H' _ ls (hR.put ha ⟨_, h1, t_OB.to (V := updV (vp_V fs) k v) ⟨_, e1, q2, q3, t_set q4 hap hk v⟩ (fun j _ => vp_updV_set hlen v j)⟩ e3) (hL.put (hR a _ ha).2 e2 e3) (sg_locs hq (hR a _ ha).2) hl
  rcases h5 with h5 | ⟨host, h5⟩
  · exact W.putK hx hb (f := f) ⟨hown, hts _ h5, ⟨_, _, _, sg_same hts h4 _ hi⟩, hst⟩ (by rw [q2]; exact h6) q1 q3 (by rw [hsl]; exact k2_hasslot (q4 k hk)) rfl rfl hdg fin
  · exact va_WputK hx hb (f := f) hown (va_Nw.use rfl (hN _ h5)) (sg_same hts h4 _ hi) hst (by rw [q2]; exact h6) q1 q3 (by rw [hsl]; exact k2_hasslot (q4 k hk)) rfl rfl hdg fin
theorem sw_putF (hc : sg_Cx p s m args c cc nL own g) {idx ci k : Nat} {ty : FieldType} (hin2 : meth.name = "<init>") (hf : sg_FL own idx ci k) (ht : sg_TY ci) (hp : sg_FP ci k true ty) (hw : ∃ T N, vwCl[ci]? = some (own, T, N)) (hnn : ∀ ref n d host, Cond.fieldLinkNest own idx ref n d host ∉ sg_N) {a : Nat} {fs fs' : List Value} (ha : C a = some (.inr (ci, fs))) {v : Value} (hn : narrow ty v = v) (hfit : fits ty v = true) (hlen : k < fs.length) (hfs : fs.set k v = fs') (hdg : decode cc pc = .ok (.putfield idx, 3))
    (kk : sg_W p l e R s m args below meth c nL g cells slots Q (sg_up C a (.inr (ci, fs'))) (pc + 3) lv rest) : sg_W p l e R s m args below meth c nL g cells slots Q C pc lv (v :: .ref a :: rest) := by
  intro H locs ls hR hL hq hl
  subst hfs
  obtain ⟨hx, hb, hml, hown, hts, hK, hN⟩ := hc
  obtain ⟨Cn, T, N, ref, h1, hk, hin, h4, h5⟩ := hf
  obtain ⟨Cn2, T2, N2, ty0, h12, hty, hnm⟩ := ht
  cases sg_uniq h1 h12
  obtain ⟨Cn3, T3, N3, h13, hfin, hd, hdecl⟩ := hp
  cases sg_uniq h1 h13
  obtain ⟨T4, N4, h14⟩ := hw
  have ho : Cn = own := by cases sg_uniq h1 h14; rfl
  have hap := va_apart (own := own) hts hin ty0 hty hnm hK h1
  obtain ⟨r, g1, cell, q1, q2, q3, q4⟩ := (hR a _ ha).1
  cases sg_uniq g1 h1
  obtain ⟨hS, hfc, kC, hkC, hkind⟩ := hK.1 ci _ h1
  obtain ⟨cf, kf, fi, f, hi, hsl⟩ := hS k hk
  have hlay := hts _ (hin _ (u_in_lay hk))
  unfold u_lay at hlay
  rw [if_pos hfin] at hlay
  have hst := (u_facts hfc hkC (u_lays hts hin hk) hi).1
  have hcf : m.cls = cf := by
    obtain ⟨_, _, c', _, _, _, -, -, hf', -, -, -, hown2, -⟩ := Cond.laysFinal_spec hlay
    have e1 : c' = cf := by have := hi.symm.trans hf'; simp at this; exact this.1.symm
    rw [hdecl, ho] at hown2
    rw [← e1]; exact Option.some.inj (hown.symm.trans hown2)
  have h6 := u_fits hfc hkC hkind (Or.inr hlay) hi hd hn hfit
  have fin : ∀ H' : Heap, H'[a]? = some (cell.setSlot f.slot v) → H'.size = H.size → (∀ q, q ≠ a → H'[q]? = H[q]?) → W p l e R s m args below meth c H' (locs ++ [⟨a, f.slot⟩]) cells slots Q (F0 m (pc + 3) ls rest) := by
    intro H' e1 e2 e3
    rw [hsl] at e1
    exact kk H' _ ls (hR.put ha ⟨_, h1, t_OB.to (V := updV (vp_V fs) k v) ⟨_, e1, q2, q3, t_set q4 hap hk v⟩ (fun j _ => vp_updV_set hlen v j)⟩ e3) (hL.put (hR a _ ha).2 e2 e3) (sg_locs hq (hR a _ ha).2) hl
  rcases h5 with h5 | ⟨host, h5⟩
  · exact W.putFinK hx hb hown (hts _ h5) (sg_same hts h4 _ hi) hst hcf hin2 (by rw [q2]; exact h6) q1 q3 (by rw [hsl]; exact k2_hasslot (q4 k hk)) rfl rfl hdg fin
  · exact absurd h5 (hnn _ _ _ _)
theorem sg_ix {n j : Nat} {i : Int32} (hi : i = nI j) (hj : j < n) (hn : n ≤ 100000) : vp_in i n ∧ i.toNatClampNeg = j := by
  subst hi
  exact ⟨vp_in_nI hj (by omega), nI_clamp (by omega)⟩
theorem sw_iald (hc : sg_Cx p s m args c cc nL own g) {a n j : Nat} {f : Nat → Int32} {i : Int32} (ha : C a = some (sg_ia g n f)) (hi : i = nI j) (hj : j < n) (hn : n ≤ 100000) (hdg : decode cc pc = .ok (.iaload, 1))
    (kk : sg_W p l e R s m args below meth c nL g cells slots Q C (pc + 1) lv (.int (f j) :: rest)) : sg_W p l e R s m args below meth c nL g cells slots Q C pc lv (.int i :: .ref a :: rest) := by
  intro H locs ls hR hL hq hl
  obtain ⟨h1, h2⟩ := sg_ix hi hj hn
  refine va_iald hc.1 hc.2.1 hc.2.2.2.2.2.1 (hR.one ha) 0 0 rfl rfl h1 hdg ?_
  rw [h2]
  exact kk H locs ls hR hL hq hl
theorem sw_zald (hc : sg_Cx p s m args c cc nL own g) {a n j : Nat} {f : Nat → Int32} {i : Int32} (ha : C a = some (sg_za g n f)) (hi : i = nI j) (hj : j < n) (hn : n ≤ 100000) (hdg : decode cc pc = .ok (.baload, 1))
    (kk : sg_W p l e R s m args below meth c nL g cells slots Q C (pc + 1) lv (.int (f j) :: rest)) : sg_W p l e R s m args below meth c nL g cells slots Q C pc lv (.int i :: .ref a :: rest) := by
  intro H locs ls hR hL hq hl
  obtain ⟨h1, h2⟩ := sg_ix hi hj hn
  refine va_zald hc.1 hc.2.1 hc.2.2.2.2.2.1 (hR.one ha) 0 1 rfl rfl h1 hdg ?_
  rw [h2]
  exact kk H locs ls hR hL hq hl
theorem sw_lald (hc : sg_Cx p s m args c cc nL own g) {a n j : Nat} {f : Nat → Int64} {i : Int32} (ha : C a = some (sg_la g n f)) (hi : i = nI j) (hj : j < n) (hn : n ≤ 100000) (hdg : decode cc pc = .ok (.laload, 1))
    (kk : sg_W p l e R s m args below meth c nL g cells slots Q C (pc + 1) lv (.long (f j) :: rest)) : sg_W p l e R s m args below meth c nL g cells slots Q C pc lv (.int i :: .ref a :: rest) := by
  intro H locs ls hR hL hq hl
  obtain ⟨h1, h2⟩ := sg_ix hi hj hn
  refine va_lald hc.1 hc.2.1 hc.2.2.2.2.2.1 (hR.one ha) 0 3 rfl rfl h1 hdg ?_
  rw [h2]
  exact kk H locs ls hR hL hq hl
theorem sw_aald (hc : sg_Cx p s m args c cc nL own g) {a n j : Nat} {f : Nat → Option Nat} {i : Int32} (ha : C a = some (sg_qa g n f)) (hi : i = nI j) (hj : j < n) (hn : n ≤ 100000) (hdg : decode cc pc = .ok (.aaload, 1))
    (kk : sg_W p l e R s m args below meth c nL g cells slots Q C (pc + 1) lv (va_rf (f j) :: rest)) : sg_W p l e R s m args below meth c nL g cells slots Q C pc lv (.int i :: .ref a :: rest) := by
  intro H locs ls hR hL hq hl
  obtain ⟨h1, h2⟩ := sg_ix hi hj hn
  refine va_aldq hc.1 hc.2.1 hc.2.2.2.2.2.1 (hR.one ha) 0 2 rfl rfl h1 hdg ?_
  rw [h2]
  exact kk H locs ls hR hL hq hl
theorem sw_alen (hc : sg_Cx p s m args c cc nL own g) {a n : Nat} {f : Nat → Option Nat} (ha : C a = some (sg_qa g n f)) (hdg : decode cc pc = .ok (.arraylength, 1))
    (kk : sg_W p l e R s m args below meth c nL g cells slots Q C (pc + 1) lv (.int (nI n) :: rest)) : sg_W p l e R s m args below meth c nL g cells slots Q C pc lv (.ref a :: rest) := by
  intro H locs ls hR hL hq hl
  exact va_alen hc.1 hc.2.1 hc.2.2.2.2.2.1 (hR.one ha) 0 2 rfl rfl rfl hdg (kk H locs ls hR hL hq hl)
theorem sw_iast (hc : sg_Cx p s m args c cc nL own g) {a n j : Nat} {f : Nat → Int32} {i x : Int32} (ha : C a = some (sg_ia g n f)) (hi : i = nI j) (hj : j < n) (hn : n ≤ 100000) (hdg : decode cc pc = .ok (.iastore, 1))
    (kk : sg_W p l e R s m args below meth c nL g cells slots Q (sg_up C a (sg_ia g n (upd f j x))) (pc + 1) lv rest) : sg_W p l e R s m args below meth c nL g cells slots Q C pc lv (.int x :: .int i :: .ref a :: rest) := by
  intro H locs ls hR hL hq hl
  obtain ⟨h1, h2⟩ := sg_ix hi hj hn
  have hT := ((hc.2.2.2.2.2.1.2 0 (g.2.1 0, .int) rfl).1 n (fun j => .int (f j)))
  refine W.iast hc.1 hc.2.1 (hR a _ ha).1 hT (fun q => by cases q) (by show ¬ (i < 0 ∨ (arrV _ _ _).slots.size ≤ _); rw [arrV_size]; exact h1) rfl rfl hdg fun H1 e1 z oq => ?_
  rw [h2] at e1 ⊢
  refine kk H1 _ ls (hR.put ha ?_ oq) (hL.put (hR a _ ha).2 z oq) (sg_locs hq (hR a _ ha).2) hl
  show H1[a]? = some (vp_cell _ _)
  rw [e1]
  show some ((vp_cell _ (n, .inl f)).setSlot j (.int x)) = _
  rw [vp_cell_i, vp_cell_i, arrV_store]
  congr 2
  funext q
  by_cases hq : q = j
  · subst hq; simp [updV, upd]
  · simp [updV, upd, hq]
theorem sw_zast (hc : sg_Cx p s m args c cc nL own g) {a n j : Nat} {f : Nat → Int32} {i x : Int32} (ha : C a = some (sg_za g n f)) (hi : i = nI j) (hj : j < n) (hn : n ≤ 100000) (hx : x = 0 ∨ x = 1) (hdg : decode cc pc = .ok (.bastore, 1))
    (kk : sg_W p l e R s m args below meth c nL g cells slots Q (sg_up C a (sg_za g n (upd f j x))) (pc + 1) lv rest) : sg_W p l e R s m args below meth c nL g cells slots Q C pc lv (.int x :: .int i :: .ref a :: rest) := by
  intro H locs ls hR hL hq hl
  obtain ⟨h1, h2⟩ := sg_ix hi hj hn
  have hT := ((hc.2.2.2.2.2.1.2 1 (g.2.1 1, .boolean) rfl).1 n (fun j => .int (f j)))
  have hnr : narrow .boolean (.int x) = .int x := by rcases hx with rfl | rfl <;> rfl
  refine W.zast hc.1 hc.2.1 (hR a _ ha).1 hT (fun q => by cases q) (by show ¬ (i < 0 ∨ (arrV _ _ _).slots.size ≤ _); rw [arrV_size]; exact h1) rfl rfl hdg fun H1 e1 z oq => ?_
  rw [h2, hnr] at e1
  rw [h2]
  refine kk H1 _ ls (hR.put ha ?_ oq) (hL.put (hR a _ ha).2 z oq) (sg_locs hq (hR a _ ha).2) hl
  show H1[a]? = some (vp_cell _ _)
  rw [e1]
  show some ((vp_cell _ (n, .inl f)).setSlot j (.int x)) = _
  rw [vp_cell_i, vp_cell_i, arrV_store]
  congr 2
  funext q
  by_cases hq : q = j
  · subst hq; simp [updV, upd]
  · simp [updV, upd, hq]
theorem sw_last (hc : sg_Cx p s m args c cc nL own g) {a n j : Nat} {f : Nat → Int64} {i : Int32} {x : Int64} (ha : C a = some (sg_la g n f)) (hi : i = nI j) (hj : j < n) (hn : n ≤ 100000) (hdg : decode cc pc = .ok (.lastore, 1))
    (kk : sg_W p l e R s m args below meth c nL g cells slots Q (sg_up C a (sg_la g n (vp_updL f j x))) (pc + 1) lv rest) : sg_W p l e R s m args below meth c nL g cells slots Q C pc lv (.long x :: .int i :: .ref a :: rest) := by
  intro H locs ls hR hL hq hl
  obtain ⟨h1, h2⟩ := sg_ix hi hj hn
  have hT := ((hc.2.2.2.2.2.1.2 3 (g.2.1 3, .long) rfl).1 n (fun j => .long (f j)))
  refine W.last hc.1 hc.2.1 (hR a _ ha).1 hT (fun q => by cases q) (by show ¬ (i < 0 ∨ (arrV _ _ _).slots.size ≤ _); rw [arrV_size]; exact h1) rfl rfl hdg fun H1 e1 z oq => ?_
  rw [h2] at e1 ⊢
  refine kk H1 _ ls (hR.put ha ?_ oq) (hL.put (hR a _ ha).2 z oq) (sg_locs hq (hR a _ ha).2) hl
  show H1[a]? = some (vp_cell _ _)
  rw [e1]
  show some ((vp_cell _ (n, .inr (.inl f))).setSlot j (.long x)) = _
  rw [vp_cell_l, vp_cell_l, arrV_store]
  congr 2
  funext q
  by_cases hq : q = j
  · subst hq; simp [updV, vp_updL]
  · simp [updV, vp_updL, hq]
theorem sw_aast (hc : sg_Cx p s m args c cc nL own g) {a n j v ci : Nat} {r : vw_C} {vs : List Value} {f : Nat → Option Nat} {i : Int32} (ha : C a = some (sg_qa g n f)) (hi : i = nI j) (hj : j < n) (hn : n ≤ 100000) (hv : C v = some (.inr (ci, vs))) (hcl : vwCl[ci]? = some r) (hca : Cond.castable r.1 "java/lang/Object" ∈ sg_N) (hdg : decode cc pc = .ok (.aastore, 1))
    (kk : sg_W p l e R s m args below meth c nL g cells slots Q (sg_up C a (sg_qa g n (va_up f j (some v)))) (pc + 1) lv rest) : sg_W p l e R s m args below meth c nL g cells slots Q C pc lv (.ref v :: .int i :: .ref a :: rest) := by
  intro H locs ls hR hL hq hl
  obtain ⟨hin, h2⟩ := sg_ix hi hj hn
  have h0 : ¬ i < 0 := fun q => hin (Or.inl q)
  have hK := hc.2.2.2.2.2.1
  obtain ⟨r', hr', cellV, g1, g2, g3, -⟩ := (hR v _ hv).1
  have hcls := (hK.1 ci r hcl).2
  obtain ⟨kA, comp, k1, k2, k3, -⟩ := (hK.2 2 (g.2.1 2, .object "java/lang/Object") rfl).2
  obtain ⟨kE, hkE, -⟩ := Vm.findClass_spec k3
  obtain ⟨c0, t1, f1, f2, f3⟩ := Cond.castable_spec (va_Nw.use (A := args) rfl (hc.2.2.2.2.2.2 _ hca))
  cases hcls.1.symm.trans f1
  cases k3.symm.trans f2
  obtain ⟨kC, hkC, -⟩ := hcls.2
  refine W.aast hc.1 hc.2.1 (hR a _ ha).1 (fun q h => by cases h) (fun h => by cases h) k1 k2 rfl hkE ⟨h0, by show _ < (arrV _ _ _).slots.size; rw [arrV_size, h2]; exact hj⟩ g1 (fun q h => by rw [g3] at h; cases h) (by rw [g2]; exact hkC) (by rw [g2]; exact f3) rfl rfl hdg fun H1 e1 z oq => ?_
  rw [h2] at e1 ⊢
  refine kk H1 _ ls (hR.put ha ?_ oq) (hL.put (hR a _ ha).2 z oq) (sg_locs hq (hR a _ ha).2) hl
  show H1[a]? = some (vp_cell _ _)
  rw [e1]
  show some ((vp_cell _ (n, .inr (.inr (.inr (.inr f))))).setSlot j (.ref v)) = _
  rw [vp_cell_q, vp_cell_q, arrV_store]
  congr 2
  funext q
  by_cases hq : q = j
  · subst hq; simp [updV, va_up, va_rf]
  · simp [updV, va_up, hq]
theorem sw_lcmp (hc : sg_Cx p s m args c cc nL own g) {x y : Int64} (hdg : decode cc pc = .ok (.lcmp, 1)) (kk : sg_W p l e R s m args below meth c nL g cells slots Q C (pc + 1) lv (.int (lg_cmp x y) :: rest)) : sg_W p l e R s m args below meth c nL g cells slots Q C pc lv (.long y :: .long x :: rest) :=
  fun H locs ls hR hL hq hv => W.lcmp hc.1 hc.2.1 hdg (kk H locs ls hR hL hq hv)
/-- the world, under another name -/
theorem sw_eq {C' : Nat → Option va_E} (h : C = C') (kk : sg_W p l e R s m args below meth c nL g cells slots Q C' pc lv rest) : sg_W p l e R s m args below meth c nL g cells slots Q C pc lv rest := h ▸ kk
theorem sw_widen {k n : Nat} (h1 : cells ≤ k) (h2 : slots ≤ n) (kk : sg_W p l e R s m args below meth c nL g k n Q C pc lv rest) : sg_W p l e R s m args below meth c nL g cells slots Q C pc lv rest :=
  fun H locs ls hR hL hq hv => W.widen h1 h2 (kk H locs ls hR hL hq hv)
theorem sw_sub {ks : List Nat} (hl : lv_pick lv ks = lv') (kk : sg_W p l e R s m args below meth c nL g cells slots Q C pc lv' rest) : sg_W p l e R s m args below meth c nL g cells slots Q C pc lv rest :=
  fun H locs ls hR hL hq hv => kk H locs ls hR hL hq (lv_sub hv ks hl)
theorem sw_objInit (hc : sg_Cx p s m args c cc nL own g) {idx a : Nat} (hl : Cond.methodLink own idx Lib.objectInit ∈ sg_T) (h2 : Cond.instanceMethod Lib.objectInit ∈ sg_T) (h3 : Cond.code Lib.objectInit ⟨#[0xb1]⟩ 1 none ∈ sg_T) (hd : decode cc pc = .ok (.invokespecial idx, 3)) (hR : 1 ≤ R.frames ∧ (rest.map fun v => v.category).sum + 12 ≤ R.locals)
    (kk : sg_W p l e R s m args below meth c nL g cells slots Q C (pc + 3) lv rest) : sg_W p l e R s m args below meth c nL g cells slots Q C pc lv (.ref a :: rest) :=
  fun H locs ls hR' hL hq hv => W.objInit hc.1 hc.2.1 hc.2.2.2.1 (hc.2.2.2.2.1 _ hl) (hc.2.2.2.2.1 _ h2) (hc.2.2.2.2.1 _ h3) rfl (hv.1.trans hc.2.2.1.symm) rfl hd hR.1 (by show 2 * 0 + _ + 12 ≤ _; rw [Nat.mul_zero, Nat.zero_add]; exact hR.2) (kk H locs ls hR' hL hq hv)
/-- Math.max -/
def sg_Mmax (own : String) (idx : Nat) : Prop := Cond.methodLink own idx Lib.Math.max.name ∈ sg_T ∧ Cond.static Lib.Math.max.name ∈ sg_T ∧ Cond.initialized "java/lang/Math" ∈ sg_T ∧ Cond.code Lib.Math.max.name Lib.Math.max.code 2 (some .int) ∈ sg_T
def jmax (x y : Int32) : Int32 := if x < y then y else x
theorem sw_mmax (hc : sg_Cx p s m args c cc nL own g) {idx : Nat} (h : sg_Mmax own idx) (hR : 1 ≤ R.frames ∧ (rest.map fun v => v.category).sum + 13 ≤ R.locals ∧ cells ≤ R.cells ∧ slots ≤ R.slots) {x y : Int32} (hdg : decode cc pc = .ok (.invokestatic idx, 3))
    (kk : sg_W p l e R s m args below meth c nL g cells slots Q C (pc + 3) lv (.int (jmax x y) :: rest)) : sg_W p l e R s m args below meth c nL g cells slots Q C pc lv (.int y :: .int x :: rest) := by
  intro H locs ls hR' hL hq hv
  have hts := hc.2.2.2.2.1
  exact va_mmax hc.1 hc.2.1 (hc.2.2.1.trans hv.1.symm) hc.2.2.2.1 (hts _ h.1) (hts _ h.2.1) (hts _ h.2.2.1) (hts _ h.2.2.2) hR.1 hR.2.1 hR.2.2.1 hR.2.2.2 hdg (kk H locs ls hR' hL hq hv)
/-- Math.min -/
def sg_Mmin (own : String) (idx : Nat) : Prop := Cond.methodLink own idx Lib.Math.min.name ∈ sg_T ∧ Cond.static Lib.Math.min.name ∈ sg_T ∧ Cond.initialized "java/lang/Math" ∈ sg_T ∧ Cond.code Lib.Math.min.name Lib.Math.min.code 2 (some .int) ∈ sg_T
def jmin (x y : Int32) : Int32 := if y < x then y else x
theorem sw_mmin (hc : sg_Cx p s m args c cc nL own g) {idx : Nat} (h : sg_Mmin own idx) (hR : 1 ≤ R.frames ∧ (rest.map fun v => v.category).sum + 13 ≤ R.locals ∧ cells ≤ R.cells ∧ slots ≤ R.slots) {x y : Int32} (hdg : decode cc pc = .ok (.invokestatic idx, 3))
    (kk : sg_W p l e R s m args below meth c nL g cells slots Q C (pc + 3) lv (.int (jmin x y) :: rest)) : sg_W p l e R s m args below meth c nL g cells slots Q C pc lv (.int y :: .int x :: rest) := by
  intro H locs ls hR' hL hq hv
  have hts := hc.2.2.2.2.1
  exact va_mmin hc.1 hc.2.1 (hc.2.2.1.trans hv.1.symm) hc.2.2.2.1 (hts _ h.1) (hts _ h.2.1) (hts _ h.2.2.1) (hts _ h.2.2.2) hR.1 hR.2.1 hR.2.2.1 hR.2.2.2 hdg (kk H locs ls hR' hL hq hv)
end SGH
/-! contracts: a method that returns (Post: its answer, its world) or throws (X: what, its world) -/
def sg_Q (g : sg_G) (Post : Option Value → (Nat → Option va_E) → Prop) : Array Value → State → Outcome → State → Prop := fun _ _ o t => ∃ v C', o = .returned v ∧ Post v C' ∧ sg_Rp g C' t.heap ∧ sg_Lo g t.heap
def sg_X (g : sg_G) (X : String → (Nat → Option va_E) → Prop) : String → State → State → Prop := fun E _ t => ∃ C', X E C' ∧ sg_Rp g C' t.heap ∧ sg_Lo g t.heap
def sg_Pc (g : sg_G) (C : Nat → Option va_E) : State → Prop := fun U => sg_Rp g C U.heap ∧ sg_Lo g U.heap ∧ sg_KS g U
def sg_rm (fr lo mc ms : Nat) : Room := { frames := fr, cells := mc, slots := ms, locals := lo }
def sg_ws (y : MethodName) (cc : ByteArray) (maxL : Nat) (ret : Option FieldType) : List Cond := Cond.code y cc maxL ret :: sg_T
def sg_Met (l : Launch) (y : MethodName) (cc : ByteArray) (maxL : Nat) (ret : Option FieldType) (fr lo mc ms : Nat) (g : sg_G) (As : List Value) (C : Nat → Option va_E) (Post : Option Value → (Nat → Option va_E) → Prop) (X : String → (Nat → Option va_E) → Prop) : Prop :=
  vx_Met l y (sg_ws y cc maxL ret) (sg_rm fr lo mc ms) (va_Pc As (sg_Pc g C)) (sg_Q g Post) (sg_X g X) mc ms (fun q => g.2.2.size ≤ q)
/-- what no method does -/
def sg_no : String → (Nat → Option va_E) → Prop := fun _ _ => False
theorem sg_blind {g : sg_G} {C : Nat → Option va_E} {As : List Value} : FrameBlind (va_Pc As (sg_Pc g C)) := fun a U gg mk q => ⟨q.1, q.2.1, q.2.2.1, sg_KS.same (s := U) (U := U.calling gg mk a) rfl q.2.2.2⟩
theorem sg_pay {s : State} {args : Array Value} (hts : ∀ w ∈ sg_T, w.before args s = true) {w : Cond} (hw : w ∈ sg_T) : ∀ (a' : Array Value) (U : State), s.WarmedH U.vm → w.before a' U = true :=
  fun a' U hW => word_at hW (good_of_word (List.mem_filter.mp hw).2) (hts _ hw)
theorem sg_payA {s : State} {args : Array Value} (hts : ∀ w ∈ sg_T, w.before args s = true) {y : MethodName} {cc : ByteArray} {maxL : Nat} {ret : Option FieldType} (hy : Cond.code y cc maxL ret ∈ sg_T) : ∀ w ∈ sg_ws y cc maxL ret, ∀ (a' : Array Value) (U : State), s.WarmedH U.vm → w.before a' U = true := by
  intro w hw
  rcases List.mem_cons.mp hw with rfl | hw
  · exact sg_pay hts hy
  · exact sg_pay hts hw
/-- what the tables say of a method that is called by its own name: its code, that its class is there, the number of its arguments -/
def sg_MD (y : MethodName) (cc : ByteArray) (maxL : Nat) (ret : Option FieldType) (n : Nat) : Prop := Cond.code y cc maxL ret ∈ sg_T ∧ Cond.initialized y.cls ∈ sg_T ∧ (y.cls ≠ "java/lang/invoke/MethodHandle" ∧ y.cls ≠ "java/lang/invoke/VarHandle") ∧ (parseMethodDescriptor y.desc).map (fun d => d.parameters.length) = some n
/-- how it is linked from here -/
def sg_ML (own : String) (idx : Nat) (y : MethodName) : Prop := Cond.methodLink own idx y ∈ sg_T ∨ ∃ host, Cond.methodLinkNest own idx y host ∈ sg_N
section SGC
variable {p : Program} {l : Launch} {e : Env} {R : Room} {s : State} {m : MethodId} {args : Array Value} {below : List Frame} {meth : Method} {c : Code} {cells slots : Nat} {Q : State → Prop}
variable {cc : ByteArray} {nL : Nat} {own : String} {g : sg_G} {C C0 : Nat → Option va_E} {pc : Nat} {lv lv' : List (Nat × Value)} {rest : List Value} {H : Heap}
variable {y : MethodName} {bytes : ByteArray} {maxL fr lo mc ms n idx : Nat} {ret : Option FieldType} {As : List Value} {Post : Option Value → (Nat → Option va_E) → Prop} {X : String → (Nat → Option va_E) → Prop}
/-- a throw that has come to this frame -/
def sg_WX (p : Program) (l : Launch) (e : Env) (R : Room) (s : State) (m : MethodId) (args : Array Value) (below : List Frame) (meth : Method) (c : Code) (nL : Nat) (g : sg_G) (cells slots : Nat) (Q : State → Prop) (C : Nat → Option va_E) (pc : Nat) (lv : List (Nat × Value)) (E : String) : Prop :=
  ∀ (H : Heap) (locs : List Loc) (ls : Array Slot) (st : List Value) (q : Addr) (ce : Cell), sg_Rp g C H → sg_Lo g H → (∀ q ∈ locs, g.2.2.size ≤ q.base) → lv_has ls nL lv → H[q]? = some ce → ce.vm = .none → s.vm.findClass E = some ce.cls → vx_W p l e R s m args below meth c H locs cells slots Q (F0 m pc ls st) q
theorem sg_len (hd : (parseMethodDescriptor y.desc).map (fun d => d.parameters.length) = some n) : ∀ sig, parseMethodDescriptor y.desc = some sig → n = sig.parameters.length := by
  intro sig h
  rw [h] at hd
  exact (Option.some.inj hd).symm
theorem sg_after {st0 : List Value} {ls : Array Slot} {locs : List Loc} {a : Array Value} (hr : vx_Run p l e R s m args below meth c H locs cells slots mc ms (F0 m pc ls st0) rest (sg_Q g Post a) (sg_X g X) (fun q => g.2.2.size ≤ q)) (hq : ∀ q ∈ locs, g.2.2.size ≤ q.base) (hl : lv_has ls nL lv)
    (kr : ∀ v C', Post v C' → sg_W p l e R s m args below meth c nL g (cells + mc) (slots + ms) Q C' (pc + 3) lv (v.toList ++ rest)) (kx : ∀ E C', X E C' → sg_WX p l e R s m args below meth c nL g (cells + mc) (slots + ms) Q C' pc lv E) : W p l e R s m args below meth c H locs cells slots Q (F0 m pc ls st0) := by
  intro T hT XX
  have hloc : ∀ L : List Loc, (∀ q ∈ L, g.2.2.size ≤ q.base) → ∀ q ∈ locs ++ L, g.2.2.size ≤ q.base := fun L hL q h => (List.mem_append.mp h).elim (hq q) (hL q)
  rcases hr T hT XX with ⟨v, st₀, t, T', L, h0, X', hL, e1, e2, ⟨v', C', hv, hP, hR', hLo⟩, st⟩ | ⟨q, st₀, t, T', L, E, ce, h0, X', hL, e1, e2, ⟨C', hXC, hR', hLo⟩, hce, hcv, hcl, st⟩
  · cases hv
    rw [← e1] at hR' hLo
    obtain ⟨t2, a1, b1⟩ := kr v C' hP T'.heap (locs ++ L) ls hR' hLo (hloc L hL) hl T' rfl X'
    exact ⟨t2, st t2 a1, b1⟩
  · rw [← e1] at hR' hLo hce
    obtain ⟨t2, a1, b1⟩ := kx E C' hXC T'.heap (locs ++ L) ls rest q ce hR' hLo (hloc L hL) hl hce hcv hcl T' rfl X'
    exact ⟨t2, st.trans a1, b1⟩
theorem sg_fix (hc : sg_Cx p s m args c cc nL own g) : CallFix p m c cc nL s args sg_T own := ⟨hc.1, hc.2.1, hc.2.2.1, hc.2.2.2.1, hc.2.2.2.2.1⟩
theorem sg_recv (hc : sg_Cx p s m args c cc nL own g) (hR : sg_Rp g C H) {b ci : Nat} {r : vw_C} {fs : List Value} (hb : C b = some (.inr (ci, fs))) (hcl : vwCl[ci]? = some r) : ∃ cellB : Cell, H[b]? = some cellB ∧ cellB.vm.isStatics = false ∧ s.vm.findClass r.1 = some cellB.cls :=
  va_recv hc.2.2.2.2.2.1 (hR.one hb) (q0 := 0) hcl rfl
theorem sg_pre (hc : sg_Cx p s m args c cc nL own g) (hR : sg_Rp g C H) (hL : sg_Lo g H) : ∀ U : State, U.heap = H → s.WarmedH U.vm → va_Pc As (sg_Pc g C) As.toArray U :=
  fun U hU hW => ⟨rfl, by rw [hU]; exact hR, by rw [hU]; exact hL, hc.2.2.2.2.2.warm hW⟩
/-- a method of an object, called by its name -/
theorem sw_callV (hc : sg_Cx p s m args c cc nL own g) {b ci : Nat} {T : u_T} {N : Nat} {fs : List Value} (hM : sg_Met l y bytes maxL ret fr lo mc ms g (.ref b :: As) C Post X) (hd : sg_MD y bytes maxL ret n) (hl : sg_ML own idx y) (hi : Cond.instanceMethod y ∈ sg_T) (hs : Cond.selects y.cls y y ∈ sg_T) (hb : C b = some (.inr (ci, fs))) (hcl : vwCl[ci]? = some (y.cls, T, N))
    (hn : As.length = n) {st : List Value} (hst : As.reverse ++ .ref b :: rest = st) (hW : (rest.map fun v => v.category).sum ≤ 8) (hdg : decode cc pc = .ok (.invokevirtual idx, 3)) (hRm : fr + 1 ≤ R.frames ∧ 19 + maxL + lo ≤ R.locals ∧ cells + mc ≤ R.cells ∧ slots + ms ≤ R.slots)
    (kr : ∀ v C', Post v C' → sg_W p l e R s m args below meth c nL g (cells + mc) (slots + ms) Q C' (pc + 3) lv (v.toList ++ rest)) (kx : ∀ E C', X E C' → sg_WX p l e R s m args below meth c nL g (cells + mc) (slots + ms) Q C' pc lv E) : sg_W p l e R s m args below meth c nL g cells slots Q C pc lv st := by
  intro H locs ls hR hL hq hlv
  have hts := hc.2.2.2.2.1
  have hR2 : 8 + (maxL + 11) + lo ≤ R.locals := by omega
  subst hst
  rcases hl with hl | ⟨host, hl⟩
  · exact sg_after (vx_runV (sg_fix hc) hM (C := y.cls) ⟨⟨rfl, rfl, hRm.1, hR2, sg_payA hts hd.1, List.mem_cons_self, hts _ hd.1, hts _ hd.2.1, hd.2.2.1, sg_len hd.2.2.2, hts _ hl⟩, hts _ hi, hts _ hs⟩ ⟨sg_blind, sg_recv hc hR hb hcl, sg_pre hc hR hL⟩ rfl hn hlv.1 rfl (by show 2 * 0 + _ ≤ 8; omega) hdg hRm.2.2) hq hlv kr kx
  · exact sg_after (vx_runVN (sg_fix hc) hM (C := y.cls) ⟨⟨⟨rfl, rfl, hRm.1, hR2, sg_payA hts hd.1, List.mem_cons_self⟩, hts _ hd.1, hts _ hd.2.1, hd.2.2.1, sg_len hd.2.2.2, va_Nw.use rfl (hc.2.2.2.2.2.2 _ hl)⟩, hts _ hi, hts _ hs⟩ ⟨sg_blind, sg_recv hc hR hb hcl, sg_pre hc hR hL⟩ rfl hn hlv.1 rfl (by show 2 * 0 + _ ≤ 8; omega) hdg hRm.2.2) hq hlv kr kx
/-- a static one -/
theorem sw_callS (hc : sg_Cx p s m args c cc nL own g) (hM : sg_Met l y bytes maxL ret fr lo mc ms g As C Post X) (hd : sg_MD y bytes maxL ret n) (hl : sg_ML own idx y) (hi : Cond.static y ∈ sg_T)
    (hn : As.length = n) {st : List Value} (hst : As.reverse ++ rest = st) (hW : (rest.map fun v => v.category).sum ≤ 8) (hdg : decode cc pc = .ok (.invokestatic idx, 3)) (hRm : fr + 1 ≤ R.frames ∧ 19 + maxL + lo ≤ R.locals ∧ cells + mc ≤ R.cells ∧ slots + ms ≤ R.slots)
    (kr : ∀ v C', Post v C' → sg_W p l e R s m args below meth c nL g (cells + mc) (slots + ms) Q C' (pc + 3) lv (v.toList ++ rest)) (kx : ∀ E C', X E C' → sg_WX p l e R s m args below meth c nL g (cells + mc) (slots + ms) Q C' pc lv E) : sg_W p l e R s m args below meth c nL g cells slots Q C pc lv st := by
  intro H locs ls hR hL hq hlv
  have hts := hc.2.2.2.2.1
  have hR2 : 8 + (maxL + 11) + lo ≤ R.locals := by omega
  subst hst
  rcases hl with hl | ⟨host, hl⟩
  · exact sg_after (vx_runS (sg_fix hc) hM ⟨⟨rfl, rfl, hRm.1, hR2, sg_payA hts hd.1, List.mem_cons_self, hts _ hd.1, hts _ hd.2.1, hd.2.2.1, sg_len hd.2.2.2, hts _ hl⟩, hts _ hi⟩ ⟨sg_blind, sg_pre hc hR hL⟩ rfl hn hlv.1 rfl (by show 2 * 0 + _ ≤ 8; omega) hdg hRm.2.2) hq hlv kr kx
  · exact sg_after (vx_runSN (sg_fix hc) hM ⟨⟨⟨rfl, rfl, hRm.1, hR2, sg_payA hts hd.1, List.mem_cons_self⟩, hts _ hd.1, hts _ hd.2.1, hd.2.2.1, sg_len hd.2.2.2, va_Nw.use rfl (hc.2.2.2.2.2.2 _ hl)⟩, hts _ hi, trivial⟩ ⟨sg_blind, sg_pre hc hR hL⟩ rfl hn hlv.1 rfl (by show 2 * 0 + _ ≤ 8; omega) hdg hRm.2.2) hq hlv kr kx
/-- a constructor -/
theorem sw_callI (hc : sg_Cx p s m args c cc nL own g) {b : Nat} (hM : sg_Met l y bytes maxL none fr lo mc ms g (.ref b :: As) C Post X) (hd : sg_MD y bytes maxL none n) (hl : sg_ML own idx y) (hi : Cond.instanceMethod y ∈ sg_T) (hy : y.name = "<init>")
    (hn : As.length = n) {st : List Value} (hst : As.reverse ++ .ref b :: rest = st) (hW : (rest.map fun v => v.category).sum ≤ 8) (hdg : decode cc pc = .ok (.invokespecial idx, 3)) (hRm : fr + 1 ≤ R.frames ∧ 19 + maxL + lo ≤ R.locals ∧ cells + mc ≤ R.cells ∧ slots + ms ≤ R.slots)
    (kr : ∀ v C', Post v C' → sg_W p l e R s m args below meth c nL g (cells + mc) (slots + ms) Q C' (pc + 3) lv (v.toList ++ rest)) (kx : ∀ E C', X E C' → sg_WX p l e R s m args below meth c nL g (cells + mc) (slots + ms) Q C' pc lv E) : sg_W p l e R s m args below meth c nL g cells slots Q C pc lv st := by
  intro H locs ls hR hL hq hlv
  have hts := hc.2.2.2.2.1
  have hR2 : 8 + (maxL + 11) + lo ≤ R.locals := by omega
  subst hst
  rcases hl with hl | ⟨host, hl⟩
  · exact sg_after (vx_runI (sg_fix hc) hM ⟨⟨rfl, rfl, hRm.1, hR2, sg_payA hts hd.1, List.mem_cons_self, hts _ hd.1, hts _ hd.2.1, hd.2.2.1, sg_len hd.2.2.2, hts _ hl⟩, hy, hts _ hi⟩ ⟨sg_blind, sg_pre hc hR hL⟩ rfl hn hlv.1 rfl (by show 2 * 0 + _ ≤ 8; omega) hdg hRm.2.2) hq hlv kr kx
  · exact sg_after (vx_runIN (sg_fix hc) hM ⟨⟨⟨rfl, rfl, hRm.1, hR2, sg_payA hts hd.1, List.mem_cons_self⟩, hts _ hd.1, hts _ hd.2.1, hd.2.2.1, sg_len hd.2.2.2, va_Nw.use rfl (hc.2.2.2.2.2.2 _ hl)⟩, hy, hts _ hi⟩ ⟨sg_blind, sg_pre hc hR hL⟩ rfl hn hlv.1 rfl (by show 2 * 0 + _ ≤ 8; omega) hdg hRm.2.2) hq hlv kr kx
/-! the ends -/
abbrev sg_End (below : List Frame) (g : sg_G) (Post : Option Value → (Nat → Option va_E) → Prop) (X : String → (Nat → Option va_E) → Prop) (args : Array Value) (s : State) (mc ms : Nat) : State → Prop := vx_MQ below (sg_Q g Post) (sg_X g X) args s mc ms (fun q => g.2.2.size ≤ q)
theorem sg_qed {v : Option Value} (hP : Post v C) (hR : sg_Rp g C H) (hL : sg_Lo g H) : ∀ t : State, t.heap = H → s.WarmedH t.vm → sg_Q g Post args s (.returned v) t :=
  fun t ht _ => ⟨v, C, rfl, hP, by rw [ht]; exact hR, by rw [ht]; exact hL⟩
theorem sw_iret (hc : sg_Cx p s m args c cc nL own g) (hk : meth.locks = false) {ty : FieldType} (hr : meth.sig.returnType = some ty) {v : Int32} (hn : narrow ty (.int v) = .int v) (hP : Post (some (.int v)) C) (h1 : cells ≤ mc) (h2 : slots ≤ ms) (hdg : decode cc pc = .ok (.ireturn, 1)) : sg_W p l e R s m args below meth c nL g cells slots (sg_End below g Post X args s mc ms) C pc lv [.int v] :=
  fun H locs ls hR hL hq hv => W.widen h1 h2 (vx_ret (W.zret hc.1 hc.2.1 hr hn (sg_qed hP hR hL) hq hdg hk))
theorem sw_aret (hc : sg_Cx p s m args c cc nL own g) (hk : meth.locks = false) {rt : FieldType} (hr : meth.sig.returnType = some rt) (hrt : (∃ n, rt = .object n) ∨ ∃ t, rt = .array t) {v : Value} (hv : v = .null ∨ ∃ a, v = .ref a) (hP : Post (some v) C) (h1 : cells ≤ mc) (h2 : slots ≤ ms) (hdg : decode cc pc = .ok (.areturn, 1)) : sg_W p l e R s m args below meth c nL g cells slots (sg_End below g Post X args s mc ms) C pc lv [v] :=
  fun H locs ls hR hL hq _ => W.widen h1 h2 (vx_ret (W.aret hc.1 hc.2.1 hr hrt hv (sg_qed hP hR hL) hq hdg hk))
theorem sw_vret (hc : sg_Cx p s m args c cc nL own g) (hk : meth.locks = false) (hr : meth.sig.returnType = none) (hP : Post none C) (h1 : cells ≤ mc) (h2 : slots ≤ ms) (hdg : decode cc pc = .ok (.return_, 1)) : sg_W p l e R s m args below meth c nL g cells slots (sg_End below g Post X args s mc ms) C pc lv [] :=
  fun H locs ls hR hL hq _ => W.widen h1 h2 (vx_ret (W.vret hc.1 hc.2.1 hr (sg_qed hP hR hL) hq hdg hk))
/-- a throw leaves a method that has no table -/
theorem sx_out (ht : ∀ x ∈ c.exceptionTable.toList, False) (hk : meth.locks = false) {E : String} (hX : X E C) (h1 : cells ≤ mc) (h2 : slots ≤ ms) : sg_WX p l e R s m args below meth c nL g cells slots (sg_End below g Post X args s mc ms) C pc lv E :=
  fun H locs ls st q ce hR hL hq _ hce hcv hcl => vx_out (fun x hx => (ht x hx).elim) hk hce hcv hcl (fun t ht _ => ⟨C, hX, by rw [ht]; exact hR, by rw [ht]; exact hL⟩) hq h1 h2
/-- a contract, out of the walk of a body without a table -/
theorem sg_ofW {maxL' : Nat} (hy : plainName y.cls = true) (hml : maxL' = maxL)
    (body : ∀ p e s m below meth c, sg_Cx p s m As.toArray c bytes maxL y.cls g → meth.locks = false → meth.sig.returnType = ret → meth.name = y.name → (∀ x ∈ c.exceptionTable.toList, False) →
      sg_W p l e (sg_rm fr lo mc ms) s m As.toArray below meth c maxL g 0 0 (sg_End below g Post X As.toArray s mc ms) C 0 (lv_args 0 As) []) (hA : (lg_sl As).length ≤ maxL) : sg_Met l y bytes maxL ret fr lo mc ms g As C Post X := by
  refine vx_ofW hy rfl ?_
  intro p e s m args below meth c s₁ B hml ht hPc
  obtain ⟨rfl, hR, hL, hK⟩ := hPc
  have hts := atoms_spec (ws := sg_ws y bytes maxL ret) B.pre
  have hcx : sg_Cx p s m As.toArray c bytes maxL y.cls g := ⟨B.exec, B.bytes, hml, findClass_of_methodNamed B.named, fun w hw => hts w (List.mem_cons_of_mem _ hw), hK⟩
  have h0 := body p e s m below meth c hcx B.notSynchronized B.returns (name_of_methodNamed B.named B.method).1 ht s.heap [] _ hR hL (fun q h => by cases h) (lv_entry As (n := maxL) hA)
  rw [lg_entry_eq]
  exact h0
end SGC
/-! for the program that writes walks -/
def st1 (f : Nat → Int32) (k : Nat) (v : Int32) : Nat → Int32 := fun j => cond (Nat.beq j k) v (f j)
def bI (P : Prop) [Decidable P] : Int32 := if P then 1 else 0
theorem bI_0 {P : Prop} [Decidable P] (h : bI P = 0) : ¬ P := fun q => by rw [bI, if_pos q] at h; exact absurd h (by decide)
theorem bI_n {P : Prop} [Decidable P] (h : ¬ bI P = 0) : P := by
  by_cases q : P
  · exact q
  · exact absurd (by rw [bI, if_neg q]) h
theorem bI_01 {P : Prop} [Decidable P] : bI P = 0 ∨ bI P = 1 := by unfold bI; split; exact Or.inr rfl; exact Or.inl rfl
theorem bI_nar {P : Prop} [Decidable P] : narrow .boolean (.int (bI P)) = .int (bI P) := by unfold bI; split <;> rfl
theorem bI_t {P : Prop} [Decidable P] (h : P) : bI P = 1 := if_pos h
theorem bI_f {P : Prop} [Decidable P] (h : ¬ P) : bI P = 0 := if_neg h
def sg_kd (x : va_E) : Nat := match x with
  | .inl (_, _, .inl _) => 100
  | .inl (_, _, .inr (.inl _)) => 101
  | .inl (_, _, .inr (.inr _)) => 102
  | .inr (ci, _) => ci
theorem sg_ne {C : Nat → Option va_E} {a b : Nat} {x y : va_E} (h1 : C a = some x) (h2 : C b = some y) (h : sg_kd x ≠ sg_kd y) : a ≠ b := fun q => h (by rw [q] at h1; rw [Option.some.inj (h1.symm.trans h2)])
theorem sg_nin {a b : Nat} {l : List Nat} (h : a ≠ b) (h2 : a ∉ l) : a ∉ b :: l := fun q => (List.mem_cons.mp q).elim h h2
theorem sg_ov_self2 {C : Nat → Option va_E} {l : va_W} (h : ∀ q ∈ l, C q.1 = some q.2) : sg_ov C l = C := sg_ov_self fun _ q hq => h q (List.mem_of_getElem? hq)
section SGO
variable {p : Program} {l : Launch} {e : Env} {R : Room} {s : State} {m : MethodId} {args : Array Value} {below : List Frame} {meth : Method} {c : Code} {cells slots : Nat} {Q : State → Prop}
variable {cc : ByteArray} {nL : Nat} {own : String} {g : sg_G} {C : Nat → Option va_E} {pc : Nat} {lv lv' : List (Nat × Value)} {rest st st' : List Value} {L l' : va_W}
theorem sw_st (h : st = st') (kk : sg_W p l e R s m args below meth c nL g cells slots Q C pc lv st') : sg_W p l e R s m args below meth c nL g cells slots Q C pc lv st := h ▸ kk
theorem sw_putO (hc : sg_Cx p s m args c cc nL own g) {idx ci k q0 a : Nat} {ty : FieldType} {fs fs' : List Value} (hf : sg_FL own idx ci k) (ht : sg_TY ci) (hp : sg_FP ci k false ty) (hN : sg_nd (L.map Prod.fst)) (hj : L[q0]? = some (a, .inr (ci, fs))) {v : Value} (hn : narrow ty v = v) (hfit : fits ty v = true) (hlen : k < fs.length) (hfs : fs.set k v = fs') (hl : L.set q0 (a, .inr (ci, fs')) = l') (hdg : decode cc pc = .ok (.putfield idx, 3))
    (kk : sg_W p l e R s m args below meth c nL g cells slots Q (sg_ov C l') (pc + 3) lv rest) : sg_W p l e R s m args below meth c nL g cells slots Q (sg_ov C L) pc lv (v :: .ref a :: rest) := by
  subst hl
  refine sw_put hc hf ht hp (sg_ov_at hN hj) hn hfit hlen hfs hdg ?_
  rw [sg_ov_set hN hj]
  exact kk
theorem sw_iastO (hc : sg_Cx p s m args c cc nL own g) {a n j q0 : Nat} {f : Nat → Int32} {i x : Int32} (hN : sg_nd (L.map Prod.fst)) (hq : L[q0]? = some (a, sg_ia g n f)) (hi : i = nI j) (hj : j < n) (hn : n ≤ 100000) (hl : L.set q0 (a, sg_ia g n (upd f j x)) = l') (hdg : decode cc pc = .ok (.iastore, 1))
    (kk : sg_W p l e R s m args below meth c nL g cells slots Q (sg_ov C l') (pc + 1) lv rest) : sg_W p l e R s m args below meth c nL g cells slots Q (sg_ov C L) pc lv (.int x :: .int i :: .ref a :: rest) := by
  subst hl
  refine sw_iast hc (sg_ov_at hN hq) hi hj hn hdg ?_
  rw [sg_ov_set hN hq]
  exact kk
theorem sw_zastO (hc : sg_Cx p s m args c cc nL own g) {a n j q0 : Nat} {f : Nat → Int32} {i x : Int32} (hN : sg_nd (L.map Prod.fst)) (hq : L[q0]? = some (a, sg_za g n f)) (hi : i = nI j) (hj : j < n) (hn : n ≤ 100000) (hx : x = 0 ∨ x = 1) (hl : L.set q0 (a, sg_za g n (upd f j x)) = l') (hdg : decode cc pc = .ok (.bastore, 1))
    (kk : sg_W p l e R s m args below meth c nL g cells slots Q (sg_ov C l') (pc + 1) lv rest) : sg_W p l e R s m args below meth c nL g cells slots Q (sg_ov C L) pc lv (.int x :: .int i :: .ref a :: rest) := by
  subst hl
  refine sw_zast hc (sg_ov_at hN hq) hi hj hn hx hdg ?_
  rw [sg_ov_set hN hq]
  exact kk
end SGO
end
section

/-! what the class's small methods answer -/
def hfs (h : Nat → Int32) : List Value := [.int (h 0), .int (h 1), .int (h 2), .int (h 3), .int (h 4), .int (h 5), .int (h 6), .int (h 7), .int (h 8), .int (h 9), .int (h 10), .int (h 11)]
theorem sg_nn {c : Int32} (h0 : ¬ c < 0) (h1 : ¬ (32 : Int32) ≤ c) : c = nI c.toNatClampNeg ∧ c.toNatClampNeg < 32 := by
  obtain ⟨j, hj, rfl⟩ := nI_of h0
  rw [nI_clamp hj]
  refine ⟨rfl, ?_⟩
  rcases Nat.lt_or_ge j 32 with h | h
  · exact h
  · exact absurd (nI_le h hj) h1
abbrev lGap (gp : Nat → Int32) (c : Int32) : Prop := c < 0 ∨ 32 ≤ c ∨ ¬ gp c.toNatClampNeg = 0
def lBase (fl : Nat → Int32) (c : Int32) : Int32 := if c < 0 ∨ 32 ≤ c then 0 else fl c.toNatClampNeg
abbrev lAbove (gp fl : Nat → Int32) (c h : Int32) : Prop := ¬ c < 0 ∧ ¬ 32 ≤ c ∧ gp c.toNatClampNeg = 0 ∧ h < fl c.toNatClampNeg
abbrev lItem (it : Nat → Int32) (c x : Int32) : Prop := ¬ c < 0 ∧ ¬ 32 ≤ c ∧ it c.toNatClampNeg = x

theorem ti_3 : ∀ w ∈ u_ws RX2 TX2 3, w ∈ sg_T := List.forall_mem_cons.mpr ⟨sg_mem (i := 285) (by decide +kernel) rfl, List.forall_mem_cons.mpr ⟨sg_mem (i := 287) (by decide +kernel) rfl, List.forall_mem_cons.mpr ⟨sg_mem (i := 289) (by decide +kernel) rfl, fun _ h => absurd h List.not_mem_nil⟩⟩⟩
theorem fl_RX2_9 : sg_FL RX2 9 3 0 := ⟨RX2, TX2, 3, "SplitGate$Level", rfl, by decide, ti_3, .inl rfl, .inl (sg_mem (i := 282) (by decide +kernel) rfl)⟩
theorem fl_RX2_15 : sg_FL RX2 15 3 1 := ⟨RX2, TX2, 3, "SplitGate$Level", rfl, by decide, ti_3, .inl rfl, .inl (sg_mem (i := 283) (by decide +kernel) rfl)⟩
theorem fl_RX2_19 : sg_FL RX2 19 3 2 := ⟨RX2, TX2, 3, "SplitGate$Level", rfl, by decide, ti_3, .inl rfl, .inl (sg_mem (i := 284) (by decide +kernel) rfl)⟩
theorem ti_2 : ∀ w ∈ u_ws RX1 TX1 12, w ∈ sg_T := List.forall_mem_cons.mpr ⟨sg_mem (i := 142) (by decide +kernel) rfl, List.forall_mem_cons.mpr ⟨sg_mem (i := 144) (by decide +kernel) rfl, List.forall_mem_cons.mpr ⟨sg_mem (i := 146) (by decide +kernel) rfl, List.forall_mem_cons.mpr ⟨sg_mem (i := 148) (by decide +kernel) rfl, List.forall_mem_cons.mpr ⟨sg_mem (i := 150) (by decide +kernel) rfl, List.forall_mem_cons.mpr ⟨sg_mem (i := 152) (by decide +kernel) rfl, List.forall_mem_cons.mpr ⟨sg_mem (i := 154) (by decide +kernel) rfl, List.forall_mem_cons.mpr ⟨sg_mem (i := 156) (by decide +kernel) rfl, List.forall_mem_cons.mpr ⟨sg_mem (i := 158) (by decide +kernel) rfl, List.forall_mem_cons.mpr ⟨sg_mem (i := 160) (by decide +kernel) rfl, List.forall_mem_cons.mpr ⟨sg_mem (i := 162) (by decide +kernel) rfl, List.forall_mem_cons.mpr ⟨sg_mem (i := 164) (by decide +kernel) rfl, fun _ h => absurd h List.not_mem_nil⟩⟩⟩⟩⟩⟩⟩⟩⟩⟩⟩⟩
theorem fl_RX1_52 : sg_FL RX1 52 2 11 := ⟨RX1, TX1, 12, "SplitGate$Hero", rfl, by decide, ti_2, .inl rfl, .inl (sg_mem (i := 140) (by decide +kernel) rfl)⟩
theorem fl_RX1_11 : sg_FL RX1 11 2 0 := ⟨RX1, TX1, 12, "SplitGate$Hero", rfl, by decide, ti_2, .inl rfl, .inl (sg_mem (i := 118) (by decide +kernel) rfl)⟩
set_option maxHeartbeats 4000000 in
set_option maxRecDepth 100000 in
theorem c_X2_isGap (l : Launch) (g : sg_G) (C : Nat → Option va_E) (lv : Nat) (x : Int32) (ag : Nat) (af : Nat) (ai : Nat) (gp : Nat → Int32) (hC_lv : C lv = some (.inr (3, [.ref ag, .ref af, .ref ai]))) (hC_ag : C ag = some (sg_za g 32 gp)) : sg_Met l yX2_isGap cX2_isGap 2 (some .boolean) 0 0 0 0 g [.ref lv, .int x] C (fun v C' => v = some (.int (bI (lGap gp x))) ∧ C' = C) sg_no := by
  refine sg_ofW (by decide) rfl ?_ (Nat.le_of_ble_eq_true rfl)
  intro p e s m below meth c hc hk hr hin2 ht
  have hc : sg_Cx p s m _ c cX2_isGap 2 RX2 g := hc
  show sg_W p l e _ s m _ below meth c 2 g 0 0 _ C 0 [(0, .ref lv), (1, .int x)] []
  refine sw_iload_n (pc := 0) hc dX2_isGap_0 rfl 1 rfl ?_
  refine sw_if_lt (pc := 1) (tgt := 19) hc dX2_isGap_1 (by decide) (fun c_1 => ?_) (fun c_1 => ?_)
  ·
    refine sw_iconst (pc := 19) (v := 1) hc dX2_isGap_19 (by decide) ?_
    refine sw_goto (pc := 20) (tgt := 24) hc dX2_isGap_20 (by decide) ?_
    have h_2 : 1 = bI (lGap gp x) := by simp [bI, c_1]
    exact sw_iret (pc := 24) hc hk hr rfl ⟨(congrArg (fun z => some (Value.int z)) h_2), rfl⟩ (Nat.le_of_ble_eq_true rfl) (Nat.le_of_ble_eq_true rfl) dX2_isGap_24
  ·
    refine sw_iload_n (pc := 4) hc dX2_isGap_4 rfl 1 rfl ?_
    refine sw_bipush (pc := 5) (v := 32) hc dX2_isGap_5 (by decide) ?_
    refine sw_icmp_ge (pc := 7) (tgt := 19) hc dX2_isGap_7 (by decide) (fun c_3 => ?_) (fun c_3 => ?_)
    ·
      refine sw_iconst (pc := 19) (v := 1) hc dX2_isGap_19 (by decide) ?_
      refine sw_goto (pc := 20) (tgt := 24) hc dX2_isGap_20 (by decide) ?_
      have h_4 : 1 = bI (lGap gp x) := by simp [bI, c_1, c_3]
      exact sw_iret (pc := 24) hc hk hr rfl ⟨(congrArg (fun z => some (Value.int z)) h_4), rfl⟩ (Nat.le_of_ble_eq_true rfl) (Nat.le_of_ble_eq_true rfl) dX2_isGap_24
    ·
      refine sw_aload_n (pc := 10) hc dX2_isGap_10 rfl 0 rfl ?_
      refine sw_get (pc := 11) (v := .ref ag) hc fl_RX2_9 hC_lv rfl dX2_isGap_11 ?_
      refine sw_iload_n (pc := 14) hc dX2_isGap_14 rfl 1 rfl ?_
      obtain ⟨n_5, n_52⟩ := sg_nn c_1 c_3
      refine sw_zald (pc := 15) (j := (x).toNatClampNeg) hc hC_ag n_5 n_52 (by decide) dX2_isGap_15 ?_
      refine sw_if_eq (pc := 16) (tgt := 23) hc dX2_isGap_16 (by decide) (fun c_6 => ?_) (fun c_6 => ?_)
      ·
        refine sw_iconst (pc := 23) (v := 0) hc dX2_isGap_23 (by decide) ?_
        have h_7 : 0 = bI (lGap gp x) := by simp [bI, c_1, c_3, c_6]
        exact sw_iret (pc := 24) hc hk hr rfl ⟨(congrArg (fun z => some (Value.int z)) h_7), rfl⟩ (Nat.le_of_ble_eq_true rfl) (Nat.le_of_ble_eq_true rfl) dX2_isGap_24
      ·
        refine sw_iconst (pc := 19) (v := 1) hc dX2_isGap_19 (by decide) ?_
        refine sw_goto (pc := 20) (tgt := 24) hc dX2_isGap_20 (by decide) ?_
        have h_8 : 1 = bI (lGap gp x) := by simp [bI, c_1, c_3, c_6]
        exact sw_iret (pc := 24) hc hk hr rfl ⟨(congrArg (fun z => some (Value.int z)) h_8), rfl⟩ (Nat.le_of_ble_eq_true rfl) (Nat.le_of_ble_eq_true rfl) dX2_isGap_24

set_option maxHeartbeats 4000000 in
set_option maxRecDepth 100000 in
theorem c_X2_base (l : Launch) (g : sg_G) (C : Nat → Option va_E) (lv : Nat) (x : Int32) (ag : Nat) (af : Nat) (ai : Nat) (fl : Nat → Int32) (hC_lv : C lv = some (.inr (3, [.ref ag, .ref af, .ref ai]))) (hC_af : C af = some (sg_ia g 32 fl)) : sg_Met l yX2_base cX2_base 2 (some .int) 0 0 0 0 g [.ref lv, .int x] C (fun v C' => v = some (.int (lBase fl x)) ∧ C' = C) sg_no := by
  refine sg_ofW (by decide) rfl ?_ (Nat.le_of_ble_eq_true rfl)
  intro p e s m below meth c hc hk hr hin2 ht
  have hc : sg_Cx p s m _ c cX2_base 2 RX2 g := hc
  show sg_W p l e _ s m _ below meth c 2 g 0 0 _ C 0 [(0, .ref lv), (1, .int x)] []
  refine sw_iload_n (pc := 0) hc dX2_base_0 rfl 1 rfl ?_
  refine sw_if_lt (pc := 1) (tgt := 19) hc dX2_base_1 (by decide) (fun c_1 => ?_) (fun c_1 => ?_)
  ·
    refine sw_iconst (pc := 19) (v := 0) hc dX2_base_19 (by decide) ?_
    have h_2 : 0 = lBase fl x := by simp [lBase, c_1]
    exact sw_iret (pc := 20) hc hk hr rfl ⟨(congrArg (fun z => some (Value.int z)) h_2), rfl⟩ (Nat.le_of_ble_eq_true rfl) (Nat.le_of_ble_eq_true rfl) dX2_base_20
  ·
    refine sw_iload_n (pc := 4) hc dX2_base_4 rfl 1 rfl ?_
    refine sw_bipush (pc := 5) (v := 32) hc dX2_base_5 (by decide) ?_
    refine sw_icmp_ge (pc := 7) (tgt := 19) hc dX2_base_7 (by decide) (fun c_3 => ?_) (fun c_3 => ?_)
    ·
      refine sw_iconst (pc := 19) (v := 0) hc dX2_base_19 (by decide) ?_
      have h_4 : 0 = lBase fl x := by simp [lBase, c_1, c_3]
      exact sw_iret (pc := 20) hc hk hr rfl ⟨(congrArg (fun z => some (Value.int z)) h_4), rfl⟩ (Nat.le_of_ble_eq_true rfl) (Nat.le_of_ble_eq_true rfl) dX2_base_20
    ·
      refine sw_aload_n (pc := 10) hc dX2_base_10 rfl 0 rfl ?_
      refine sw_get (pc := 11) (v := .ref af) hc fl_RX2_15 hC_lv rfl dX2_base_11 ?_
      refine sw_iload_n (pc := 14) hc dX2_base_14 rfl 1 rfl ?_
      obtain ⟨n_5, n_52⟩ := sg_nn c_1 c_3
      refine sw_iald (pc := 15) (j := (x).toNatClampNeg) hc hC_af n_5 n_52 (by decide) dX2_base_15 ?_
      refine sw_goto (pc := 16) (tgt := 20) hc dX2_base_16 (by decide) ?_
      have h_6 : fl ((x).toNatClampNeg) = lBase fl x := by simp [lBase, c_1, c_3]
      exact sw_iret (pc := 20) hc hk hr rfl ⟨(congrArg (fun z => some (Value.int z)) h_6), rfl⟩ (Nat.le_of_ble_eq_true rfl) (Nat.le_of_ble_eq_true rfl) dX2_base_20

set_option maxHeartbeats 4000000 in
set_option maxRecDepth 100000 in
theorem c_X2_isFloorAbove (l : Launch) (g : sg_G) (C : Nat → Option va_E) (lv : Nat) (x : Int32) (y : Int32) (ag : Nat) (af : Nat) (ai : Nat) (gp : Nat → Int32) (fl : Nat → Int32) (hC_lv : C lv = some (.inr (3, [.ref ag, .ref af, .ref ai]))) (hC_ag : C ag = some (sg_za g 32 gp)) (hC_af : C af = some (sg_ia g 32 fl)) : sg_Met l yX2_isFloorAbove cX2_isFloorAbove 3 (some .boolean) 0 0 0 0 g [.ref lv, .int x, .int y] C (fun v C' => v = some (.int (bI (lAbove gp fl x y))) ∧ C' = C) sg_no := by
  refine sg_ofW (by decide) rfl ?_ (Nat.le_of_ble_eq_true rfl)
  intro p e s m below meth c hc hk hr hin2 ht
  have hc : sg_Cx p s m _ c cX2_isFloorAbove 3 RX2 g := hc
  show sg_W p l e _ s m _ below meth c 3 g 0 0 _ C 0 [(0, .ref lv), (1, .int x), (2, .int y)] []
  refine sw_iload_n (pc := 0) hc dX2_isFloorAbove_0 rfl 1 rfl ?_
  refine sw_if_lt (pc := 1) (tgt := 33) hc dX2_isFloorAbove_1 (by decide) (fun c_1 => ?_) (fun c_1 => ?_)
  ·
    refine sw_iconst (pc := 33) (v := 0) hc dX2_isFloorAbove_33 (by decide) ?_
    have h_2 : 0 = bI (lAbove gp fl x y) := by simp [bI, c_1]
    exact sw_iret (pc := 34) hc hk hr rfl ⟨(congrArg (fun z => some (Value.int z)) h_2), rfl⟩ (Nat.le_of_ble_eq_true rfl) (Nat.le_of_ble_eq_true rfl) dX2_isFloorAbove_34
  ·
    refine sw_iload_n (pc := 4) hc dX2_isFloorAbove_4 rfl 1 rfl ?_
    refine sw_bipush (pc := 5) (v := 32) hc dX2_isFloorAbove_5 (by decide) ?_
    refine sw_icmp_ge (pc := 7) (tgt := 33) hc dX2_isFloorAbove_7 (by decide) (fun c_3 => ?_) (fun c_3 => ?_)
    ·
      refine sw_iconst (pc := 33) (v := 0) hc dX2_isFloorAbove_33 (by decide) ?_
      have h_4 : 0 = bI (lAbove gp fl x y) := by simp [bI, c_1, c_3]
      exact sw_iret (pc := 34) hc hk hr rfl ⟨(congrArg (fun z => some (Value.int z)) h_4), rfl⟩ (Nat.le_of_ble_eq_true rfl) (Nat.le_of_ble_eq_true rfl) dX2_isFloorAbove_34
    ·
      refine sw_aload_n (pc := 10) hc dX2_isFloorAbove_10 rfl 0 rfl ?_
      refine sw_get (pc := 11) (v := .ref ag) hc fl_RX2_9 hC_lv rfl dX2_isFloorAbove_11 ?_
      refine sw_iload_n (pc := 14) hc dX2_isFloorAbove_14 rfl 1 rfl ?_
      obtain ⟨n_5, n_52⟩ := sg_nn c_1 c_3
      refine sw_zald (pc := 15) (j := (x).toNatClampNeg) hc hC_ag n_5 n_52 (by decide) dX2_isFloorAbove_15 ?_
      refine sw_if_ne (pc := 16) (tgt := 33) hc dX2_isFloorAbove_16 (by decide) (fun c_6 => ?_) (fun c_6 => ?_)
      ·
        refine sw_iconst (pc := 33) (v := 0) hc dX2_isFloorAbove_33 (by decide) ?_
        have h_7 : 0 = bI (lAbove gp fl x y) := by simp [bI, c_1, c_3, c_6]
        exact sw_iret (pc := 34) hc hk hr rfl ⟨(congrArg (fun z => some (Value.int z)) h_7), rfl⟩ (Nat.le_of_ble_eq_true rfl) (Nat.le_of_ble_eq_true rfl) dX2_isFloorAbove_34
      ·
        refine sw_aload_n (pc := 19) hc dX2_isFloorAbove_19 rfl 0 rfl ?_
        refine sw_get (pc := 20) (v := .ref af) hc fl_RX2_15 hC_lv rfl dX2_isFloorAbove_20 ?_
        refine sw_iload_n (pc := 23) hc dX2_isFloorAbove_23 rfl 1 rfl ?_
        obtain ⟨n_8, n_82⟩ := sg_nn c_1 c_3
        refine sw_iald (pc := 24) (j := (x).toNatClampNeg) hc hC_af n_8 n_82 (by decide) dX2_isFloorAbove_24 ?_
        refine sw_iload_n (pc := 25) hc dX2_isFloorAbove_25 rfl 2 rfl ?_
        refine sw_icmp_le (pc := 26) (tgt := 33) hc dX2_isFloorAbove_26 (by decide) (fun c_9 => ?_) (fun c_9 => ?_)
        ·
          refine sw_iconst (pc := 33) (v := 0) hc dX2_isFloorAbove_33 (by decide) ?_
          have h_10 : 0 = bI (lAbove gp fl x y) := by simp [bI, c_1, c_3, c_6, c_9]
          exact sw_iret (pc := 34) hc hk hr rfl ⟨(congrArg (fun z => some (Value.int z)) h_10), rfl⟩ (Nat.le_of_ble_eq_true rfl) (Nat.le_of_ble_eq_true rfl) dX2_isFloorAbove_34
        ·
          refine sw_iconst (pc := 29) (v := 1) hc dX2_isFloorAbove_29 (by decide) ?_
          refine sw_goto (pc := 30) (tgt := 34) hc dX2_isFloorAbove_30 (by decide) ?_
          have h_11 : 1 = bI (lAbove gp fl x y) := by simp [bI, c_1, c_3, c_6, c_9]
          exact sw_iret (pc := 34) hc hk hr rfl ⟨(congrArg (fun z => some (Value.int z)) h_11), rfl⟩ (Nat.le_of_ble_eq_true rfl) (Nat.le_of_ble_eq_true rfl) dX2_isFloorAbove_34

set_option maxHeartbeats 4000000 in
set_option maxRecDepth 100000 in
theorem c_X2_hasItem (l : Launch) (g : sg_G) (C : Nat → Option va_E) (lv : Nat) (x : Int32) (y : Int32) (ag : Nat) (af : Nat) (ai : Nat) (it : Nat → Int32) (hC_lv : C lv = some (.inr (3, [.ref ag, .ref af, .ref ai]))) (hC_ai : C ai = some (sg_ia g 32 it)) : sg_Met l yX2_hasItem cX2_hasItem 3 (some .boolean) 0 0 0 0 g [.ref lv, .int x, .int y] C (fun v C' => v = some (.int (bI (lItem it x y))) ∧ C' = C) sg_no := by
  refine sg_ofW (by decide) rfl ?_ (Nat.le_of_ble_eq_true rfl)
  intro p e s m below meth c hc hk hr hin2 ht
  have hc : sg_Cx p s m _ c cX2_hasItem 3 RX2 g := hc
  show sg_W p l e _ s m _ below meth c 3 g 0 0 _ C 0 [(0, .ref lv), (1, .int x), (2, .int y)] []
  refine sw_iload_n (pc := 0) hc dX2_hasItem_0 rfl 1 rfl ?_
  refine sw_if_lt (pc := 1) (tgt := 24) hc dX2_hasItem_1 (by decide) (fun c_1 => ?_) (fun c_1 => ?_)
  ·
    refine sw_iconst (pc := 24) (v := 0) hc dX2_hasItem_24 (by decide) ?_
    have h_2 : 0 = bI (lItem it x y) := by simp [bI, c_1]
    exact sw_iret (pc := 25) hc hk hr rfl ⟨(congrArg (fun z => some (Value.int z)) h_2), rfl⟩ (Nat.le_of_ble_eq_true rfl) (Nat.le_of_ble_eq_true rfl) dX2_hasItem_25
  ·
    refine sw_iload_n (pc := 4) hc dX2_hasItem_4 rfl 1 rfl ?_
    refine sw_bipush (pc := 5) (v := 32) hc dX2_hasItem_5 (by decide) ?_
    refine sw_icmp_ge (pc := 7) (tgt := 24) hc dX2_hasItem_7 (by decide) (fun c_3 => ?_) (fun c_3 => ?_)
    ·
      refine sw_iconst (pc := 24) (v := 0) hc dX2_hasItem_24 (by decide) ?_
      have h_4 : 0 = bI (lItem it x y) := by simp [bI, c_1, c_3]
      exact sw_iret (pc := 25) hc hk hr rfl ⟨(congrArg (fun z => some (Value.int z)) h_4), rfl⟩ (Nat.le_of_ble_eq_true rfl) (Nat.le_of_ble_eq_true rfl) dX2_hasItem_25
    ·
      refine sw_aload_n (pc := 10) hc dX2_hasItem_10 rfl 0 rfl ?_
      refine sw_get (pc := 11) (v := .ref ai) hc fl_RX2_19 hC_lv rfl dX2_hasItem_11 ?_
      refine sw_iload_n (pc := 14) hc dX2_hasItem_14 rfl 1 rfl ?_
      obtain ⟨n_5, n_52⟩ := sg_nn c_1 c_3
      refine sw_iald (pc := 15) (j := (x).toNatClampNeg) hc hC_ai n_5 n_52 (by decide) dX2_hasItem_15 ?_
      refine sw_iload_n (pc := 16) hc dX2_hasItem_16 rfl 2 rfl ?_
      refine sw_icmp_ne (pc := 17) (tgt := 24) hc dX2_hasItem_17 (by decide) (fun c_6 => ?_) (fun c_6 => ?_)
      ·
        refine sw_iconst (pc := 24) (v := 0) hc dX2_hasItem_24 (by decide) ?_
        have h_7 : 0 = bI (lItem it x y) := by simp [bI, c_1, c_3, c_6]
        exact sw_iret (pc := 25) hc hk hr rfl ⟨(congrArg (fun z => some (Value.int z)) h_7), rfl⟩ (Nat.le_of_ble_eq_true rfl) (Nat.le_of_ble_eq_true rfl) dX2_hasItem_25
      ·
        refine sw_iconst (pc := 20) (v := 1) hc dX2_hasItem_20 (by decide) ?_
        refine sw_goto (pc := 21) (tgt := 25) hc dX2_hasItem_21 (by decide) ?_
        have h_8 : 1 = bI (lItem it x y) := by simp [bI, c_1, c_3, c_6]
        exact sw_iret (pc := 25) hc hk hr rfl ⟨(congrArg (fun z => some (Value.int z)) h_8), rfl⟩ (Nat.le_of_ble_eq_true rfl) (Nat.le_of_ble_eq_true rfl) dX2_hasItem_25

set_option maxHeartbeats 4000000 in
set_option maxRecDepth 100000 in
theorem c_X1_isOver (l : Launch) (g : sg_G) (C : Nat → Option va_E) (h : Nat) (hs : Nat → Int32) (hC_h : C h = some (.inr (2, hfs hs))) : sg_Met l yX1_isOver cX1_isOver 1 (some .boolean) 0 0 0 0 g [.ref h] C (fun v C' => v = some (.int (bI (¬ hs 11 = 0))) ∧ C' = C) sg_no := by
  refine sg_ofW (by decide) rfl ?_ (Nat.le_of_ble_eq_true rfl)
  intro p e s m below meth c hc hk hr hin2 ht
  have hc : sg_Cx p s m _ c cX1_isOver 1 RX1 g := hc
  show sg_W p l e _ s m _ below meth c 1 g 0 0 _ C 0 [(0, .ref h)] []
  refine sw_aload_n (pc := 0) hc dX1_isOver_0 rfl 0 rfl ?_
  refine sw_get (pc := 1) (v := .int (hs 11)) hc fl_RX1_52 hC_h rfl dX1_isOver_1 ?_
  refine sw_if_eq (pc := 4) (tgt := 11) hc dX1_isOver_4 (by decide) (fun c_1 => ?_) (fun c_1 => ?_)
  ·
    refine sw_iconst (pc := 11) (v := 0) hc dX1_isOver_11 (by decide) ?_
    have h_2 : 0 = bI (¬ hs 11 = 0) := by simp [bI, c_1]
    exact sw_iret (pc := 12) hc hk hr rfl ⟨(congrArg (fun z => some (Value.int z)) h_2), rfl⟩ (Nat.le_of_ble_eq_true rfl) (Nat.le_of_ble_eq_true rfl) dX1_isOver_12
  ·
    refine sw_iconst (pc := 7) (v := 1) hc dX1_isOver_7 (by decide) ?_
    refine sw_goto (pc := 8) (tgt := 12) hc dX1_isOver_8 (by decide) ?_
    have h_3 : 1 = bI (¬ hs 11 = 0) := by simp [bI, c_1]
    exact sw_iret (pc := 12) hc hk hr rfl ⟨(congrArg (fun z => some (Value.int z)) h_3), rfl⟩ (Nat.le_of_ble_eq_true rfl) (Nat.le_of_ble_eq_true rfl) dX1_isOver_12

set_option maxHeartbeats 4000000 in
set_option maxRecDepth 100000 in
theorem c_X1_isHome (l : Launch) (g : sg_G) (C : Nat → Option va_E) (h : Nat) (hs : Nat → Int32) (hC_h : C h = some (.inr (2, hfs hs))) : sg_Met l yX1_isHome cX1_isHome 1 (some .boolean) 0 0 0 0 g [.ref h] C (fun v C' => v = some (.int (bI (hs 11 = 1))) ∧ C' = C) sg_no := by
  refine sg_ofW (by decide) rfl ?_ (Nat.le_of_ble_eq_true rfl)
  intro p e s m below meth c hc hk hr hin2 ht
  have hc : sg_Cx p s m _ c cX1_isHome 1 RX1 g := hc
  show sg_W p l e _ s m _ below meth c 1 g 0 0 _ C 0 [(0, .ref h)] []
  refine sw_aload_n (pc := 0) hc dX1_isHome_0 rfl 0 rfl ?_
  refine sw_get (pc := 1) (v := .int (hs 11)) hc fl_RX1_52 hC_h rfl dX1_isHome_1 ?_
  refine sw_iconst (pc := 4) (v := 1) hc dX1_isHome_4 (by decide) ?_
  refine sw_icmp_ne (pc := 5) (tgt := 12) hc dX1_isHome_5 (by decide) (fun c_1 => ?_) (fun c_1 => ?_)
  ·
    refine sw_iconst (pc := 12) (v := 0) hc dX1_isHome_12 (by decide) ?_
    have h_2 : 0 = bI (hs 11 = 1) := by simp [bI, c_1]
    exact sw_iret (pc := 13) hc hk hr rfl ⟨(congrArg (fun z => some (Value.int z)) h_2), rfl⟩ (Nat.le_of_ble_eq_true rfl) (Nat.le_of_ble_eq_true rfl) dX1_isHome_13
  ·
    refine sw_iconst (pc := 8) (v := 1) hc dX1_isHome_8 (by decide) ?_
    refine sw_goto (pc := 9) (tgt := 13) hc dX1_isHome_9 (by decide) ?_
    have h_3 : 1 = bI (hs 11 = 1) := by simp [bI, c_1]
    exact sw_iret (pc := 13) hc hk hr rfl ⟨(congrArg (fun z => some (Value.int z)) h_3), rfl⟩ (Nat.le_of_ble_eq_true rfl) (Nat.le_of_ble_eq_true rfl) dX1_isHome_13

set_option maxHeartbeats 4000000 in
set_option maxRecDepth 100000 in
theorem c_X1_columnHere (l : Launch) (g : sg_G) (C : Nat → Option va_E) (h : Nat) (hs : Nat → Int32) (hC_h : C h = some (.inr (2, hfs hs))) : sg_Met l yX1_columnHere cX1_columnHere 1 (some .int) 0 0 0 0 g [.ref h] C (fun v C' => v = some (.int (hs 0 / 16)) ∧ C' = C) sg_no := by
  refine sg_ofW (by decide) rfl ?_ (Nat.le_of_ble_eq_true rfl)
  intro p e s m below meth c hc hk hr hin2 ht
  have hc : sg_Cx p s m _ c cX1_columnHere 1 RX1 g := hc
  show sg_W p l e _ s m _ below meth c 1 g 0 0 _ C 0 [(0, .ref h)] []
  refine sw_aload_n (pc := 0) hc dX1_columnHere_0 rfl 0 rfl ?_
  refine sw_get (pc := 1) (v := .int (hs 0)) hc fl_RX1_11 hC_h rfl dX1_columnHere_1 ?_
  refine sw_bipush (pc := 4) (v := 16) hc dX1_columnHere_4 (by decide) ?_
  refine sw_idiv (pc := 6) hc dX1_columnHere_6 (by decide) ?_
  have h_1 : (hs 0) / 16 = hs 0 / 16 := by simp []
  exact sw_iret (pc := 7) hc hk hr rfl ⟨(congrArg (fun z => some (Value.int z)) h_1), rfl⟩ (Nat.le_of_ble_eq_true rfl) (Nat.le_of_ble_eq_true rfl) dX1_columnHere_7
end
