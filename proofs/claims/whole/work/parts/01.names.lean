-- ===== PART A: goes FIRST, ahead of the names: the tables' words, and 'selects' of the private methods out of them =====
/-- a private method of a class that the tables say can be made, by its rows of tables_1 -/
def lw_okq (q : MethodName × Nat) : Prop := (q.1.cls ≠ "java/lang/invoke/MethodHandle" ∧ q.1.cls ≠ "java/lang/invoke/VarHandle") ∧ Cond.instantiable q.1.cls q.2 ∈ tables_1 ∧ Cond.privateMethod q.1 ∈ tables_1 ∧ Cond.instanceMethod q.1 ∈ tables_1
theorem lw_p0 : lw_okq (⟨"java/lang/Throwable", "fillInStackTrace", "(I)Ljava/lang/Throwable;"⟩, 6) := ⟨⟨by decide +kernel, by decide +kernel⟩, List.mem_of_getElem? (i := 194) (by decide +kernel), List.mem_of_getElem? (i := 192) (by decide +kernel), List.mem_of_getElem? (i := 193) (by decide +kernel)⟩
theorem lw_p1 : lw_okq (⟨"java/util/ArrayList", "add", "(Ljava/lang/Object;[Ljava/lang/Object;I)V"⟩, 3) := ⟨⟨by decide +kernel, by decide +kernel⟩, List.mem_of_getElem? (i := 34) (by decide +kernel), List.mem_of_getElem? (i := 245) (by decide +kernel), List.mem_of_getElem? (i := 246) (by decide +kernel)⟩
theorem lw_p2 : lw_okq (⟨"java/util/ArrayList", "grow", "()[Ljava/lang/Object;"⟩, 3) := ⟨⟨by decide +kernel, by decide +kernel⟩, List.mem_of_getElem? (i := 34) (by decide +kernel), List.mem_of_getElem? (i := 249) (by decide +kernel), List.mem_of_getElem? (i := 250) (by decide +kernel)⟩
theorem lw_p3 : lw_okq (⟨"java/util/ArrayList", "grow", "(I)[Ljava/lang/Object;"⟩, 3) := ⟨⟨by decide +kernel, by decide +kernel⟩, List.mem_of_getElem? (i := 34) (by decide +kernel), List.mem_of_getElem? (i := 253) (by decide +kernel), List.mem_of_getElem? (i := 254) (by decide +kernel)⟩
theorem lw_p4 : lw_okq (⟨"SplitGate", "levelOf", "(I)LSplitGate$Level;"⟩, 9) := ⟨⟨by decide +kernel, by decide +kernel⟩, List.mem_of_getElem? (i := 26) (by decide +kernel), List.mem_of_getElem? (i := 310) (by decide +kernel), List.mem_of_getElem? (i := 311) (by decide +kernel)⟩
theorem lw_p5 : lw_okq (⟨"SplitGate", "hasReplay", "(LSplitGate$Level;)Z"⟩, 9) := ⟨⟨by decide +kernel, by decide +kernel⟩, List.mem_of_getElem? (i := 26) (by decide +kernel), List.mem_of_getElem? (i := 367) (by decide +kernel), List.mem_of_getElem? (i := 368) (by decide +kernel)⟩
theorem lw_p6 : lw_okq (⟨"SplitGate", "replayOf", "(I)LSplitGate$Replay;"⟩, 9) := ⟨⟨by decide +kernel, by decide +kernel⟩, List.mem_of_getElem? (i := 26) (by decide +kernel), List.mem_of_getElem? (i := 433) (by decide +kernel), List.mem_of_getElem? (i := 434) (by decide +kernel)⟩
theorem lw_p7 : lw_okq (⟨"SplitGate$Replay", "runPiece", "(LSplitGate$Hero;II)V"⟩, 7) := ⟨⟨by decide +kernel, by decide +kernel⟩, List.mem_of_getElem? (i := 384) (by decide +kernel), List.mem_of_getElem? (i := 447) (by decide +kernel), List.mem_of_getElem? (i := 448) (by decide +kernel)⟩
theorem lw_p8 : lw_okq (⟨"SplitGate$Hero", "choose", "(IZ)I"⟩, 12) := ⟨⟨by decide +kernel, by decide +kernel⟩, List.mem_of_getElem? (i := 60) (by decide +kernel), List.mem_of_getElem? (i := 459) (by decide +kernel), List.mem_of_getElem? (i := 460) (by decide +kernel)⟩
theorem lw_p9 : lw_okq (⟨"SplitGate$Hero", "go", "(LSplitGate$Level;I)V"⟩, 12) := ⟨⟨by decide +kernel, by decide +kernel⟩, List.mem_of_getElem? (i := 60) (by decide +kernel), List.mem_of_getElem? (i := 463) (by decide +kernel), List.mem_of_getElem? (i := 464) (by decide +kernel)⟩
theorem lw_p10 : lw_okq (⟨"SplitGate$Hero", "columnHere", "()I"⟩, 12) := ⟨⟨by decide +kernel, by decide +kernel⟩, List.mem_of_getElem? (i := 60) (by decide +kernel), List.mem_of_getElem? (i := 469) (by decide +kernel), List.mem_of_getElem? (i := 470) (by decide +kernel)⟩
theorem lw_p11 : lw_okq (⟨"SplitGate$Hero", "fall", "(LSplitGate$Level;)V"⟩, 12) := ⟨⟨by decide +kernel, by decide +kernel⟩, List.mem_of_getElem? (i := 60) (by decide +kernel), List.mem_of_getElem? (i := 477) (by decide +kernel), List.mem_of_getElem? (i := 478) (by decide +kernel)⟩
theorem lw_p12 : lw_okq (⟨"SplitGate$Hero", "takeCoin", "(LSplitGate$Level;)V"⟩, 12) := ⟨⟨by decide +kernel, by decide +kernel⟩, List.mem_of_getElem? (i := 60) (by decide +kernel), List.mem_of_getElem? (i := 485) (by decide +kernel), List.mem_of_getElem? (i := 486) (by decide +kernel)⟩
theorem lw_p13 : lw_okq (⟨"SplitGate$Hero", "finish", "(LSplitGate$Level;)V"⟩, 12) := ⟨⟨by decide +kernel, by decide +kernel⟩, List.mem_of_getElem? (i := 60) (by decide +kernel), List.mem_of_getElem? (i := 493) (by decide +kernel), List.mem_of_getElem? (i := 494) (by decide +kernel)⟩
theorem lw_p14 : lw_okq (⟨"SplitGate", "categoryOf", "(I)LSplitGate$Category;"⟩, 9) := ⟨⟨by decide +kernel, by decide +kernel⟩, List.mem_of_getElem? (i := 26) (by decide +kernel), List.mem_of_getElem? (i := 556) (by decide +kernel), List.mem_of_getElem? (i := 557) (by decide +kernel)⟩
theorem lw_p15 : lw_okq (⟨"SplitGate", "countRefused", "(LSplitGate$Category;)I"⟩, 9) := ⟨⟨by decide +kernel, by decide +kernel⟩, List.mem_of_getElem? (i := 26) (by decide +kernel), List.mem_of_getElem? (i := 582) (by decide +kernel), List.mem_of_getElem? (i := 583) (by decide +kernel)⟩
def lw_privs_1 : List (MethodName × Nat) := [(⟨"java/lang/Throwable", "fillInStackTrace", "(I)Ljava/lang/Throwable;"⟩, 6), (⟨"java/util/ArrayList", "add", "(Ljava/lang/Object;[Ljava/lang/Object;I)V"⟩, 3), (⟨"java/util/ArrayList", "grow", "()[Ljava/lang/Object;"⟩, 3), (⟨"java/util/ArrayList", "grow", "(I)[Ljava/lang/Object;"⟩, 3), (⟨"SplitGate", "levelOf", "(I)LSplitGate$Level;"⟩, 9), (⟨"SplitGate", "hasReplay", "(LSplitGate$Level;)Z"⟩, 9), (⟨"SplitGate", "replayOf", "(I)LSplitGate$Replay;"⟩, 9), (⟨"SplitGate$Replay", "runPiece", "(LSplitGate$Hero;II)V"⟩, 7), (⟨"SplitGate$Hero", "choose", "(IZ)I"⟩, 12), (⟨"SplitGate$Hero", "go", "(LSplitGate$Level;I)V"⟩, 12), (⟨"SplitGate$Hero", "columnHere", "()I"⟩, 12), (⟨"SplitGate$Hero", "fall", "(LSplitGate$Level;)V"⟩, 12), (⟨"SplitGate$Hero", "takeCoin", "(LSplitGate$Level;)V"⟩, 12), (⟨"SplitGate$Hero", "finish", "(LSplitGate$Level;)V"⟩, 12), (⟨"SplitGate", "categoryOf", "(I)LSplitGate$Category;"⟩, 9), (⟨"SplitGate", "countRefused", "(LSplitGate$Category;)I"⟩, 9)]
theorem lw_r1 : ∀ q ∈ lw_privs_1, lw_okq q := List.forall_mem_cons.mpr ⟨lw_p0, List.forall_mem_cons.mpr ⟨lw_p1, List.forall_mem_cons.mpr ⟨lw_p2, List.forall_mem_cons.mpr ⟨lw_p3, List.forall_mem_cons.mpr ⟨lw_p4, List.forall_mem_cons.mpr ⟨lw_p5, List.forall_mem_cons.mpr ⟨lw_p6, List.forall_mem_cons.mpr ⟨lw_p7, List.forall_mem_cons.mpr ⟨lw_p8, List.forall_mem_cons.mpr ⟨lw_p9, List.forall_mem_cons.mpr ⟨lw_p10, List.forall_mem_cons.mpr ⟨lw_p11, List.forall_mem_cons.mpr ⟨lw_p12, List.forall_mem_cons.mpr ⟨lw_p13, List.forall_mem_cons.mpr ⟨lw_p14, List.forall_mem_cons.mpr ⟨lw_p15, fun _ h => absurd h List.not_mem_nil⟩⟩⟩⟩⟩⟩⟩⟩⟩⟩⟩⟩⟩⟩⟩⟩
theorem lw_p16 : lw_okq (⟨"SplitGate", "runOf", "(I)LSplitGate$Run;"⟩, 9) := ⟨⟨by decide +kernel, by decide +kernel⟩, List.mem_of_getElem? (i := 26) (by decide +kernel), List.mem_of_getElem? (i := 666) (by decide +kernel), List.mem_of_getElem? (i := 667) (by decide +kernel)⟩
theorem lw_p17 : lw_okq (⟨"SplitGate", "bestRun", "(LSplitGate$Category;ILSplitGate$Run;)LSplitGate$Run;"⟩, 9) := ⟨⟨by decide +kernel, by decide +kernel⟩, List.mem_of_getElem? (i := 26) (by decide +kernel), List.mem_of_getElem? (i := 685) (by decide +kernel), List.mem_of_getElem? (i := 686) (by decide +kernel)⟩
theorem lw_p18 : lw_okq (⟨"SplitGate", "countsAnew", "(LSplitGate$Run;)Z"⟩, 9) := ⟨⟨by decide +kernel, by decide +kernel⟩, List.mem_of_getElem? (i := 26) (by decide +kernel), List.mem_of_getElem? (i := 707) (by decide +kernel), List.mem_of_getElem? (i := 708) (by decide +kernel)⟩
theorem lw_p19 : lw_okq (⟨"SplitGate", "placeFor", "(LSplitGate$Category;ILSplitGate$Run;)I"⟩, 9) := ⟨⟨by decide +kernel, by decide +kernel⟩, List.mem_of_getElem? (i := 26) (by decide +kernel), List.mem_of_getElem? (i := 718) (by decide +kernel), List.mem_of_getElem? (i := 719) (by decide +kernel)⟩
theorem lw_p20 : lw_okq (⟨"SplitGate", "countAhead", "(LSplitGate$Run;)I"⟩, 9) := ⟨⟨by decide +kernel, by decide +kernel⟩, List.mem_of_getElem? (i := 26) (by decide +kernel), List.mem_of_getElem? (i := 729) (by decide +kernel), List.mem_of_getElem? (i := 730) (by decide +kernel)⟩
theorem lw_p21 : lw_okq (⟨"SplitGate", "estimateFor", "(LSplitGate$Category;I)I"⟩, 9) := ⟨⟨by decide +kernel, by decide +kernel⟩, List.mem_of_getElem? (i := 26) (by decide +kernel), List.mem_of_getElem? (i := 748) (by decide +kernel), List.mem_of_getElem? (i := 749) (by decide +kernel)⟩
theorem lw_p22 : lw_okq (⟨"SplitGate", "hasOffered", "(LSplitGate$Category;I)Z"⟩, 9) := ⟨⟨by decide +kernel, by decide +kernel⟩, List.mem_of_getElem? (i := 26) (by decide +kernel), List.mem_of_getElem? (i := 759) (by decide +kernel), List.mem_of_getElem? (i := 760) (by decide +kernel)⟩
theorem lw_p23 : lw_okq (⟨"SplitGate", "fillSets", "()I"⟩, 9) := ⟨⟨by decide +kernel, by decide +kernel⟩, List.mem_of_getElem? (i := 26) (by decide +kernel), List.mem_of_getElem? (i := 798) (by decide +kernel), List.mem_of_getElem? (i := 799) (by decide +kernel)⟩
theorem lw_p24 : lw_okq (⟨"SplitGate", "costOf", "(LSplitGate$Offer;)I"⟩, 9) := ⟨⟨by decide +kernel, by decide +kernel⟩, List.mem_of_getElem? (i := 26) (by decide +kernel), List.mem_of_getElem? (i := 802) (by decide +kernel), List.mem_of_getElem? (i := 803) (by decide +kernel)⟩
theorem lw_p25 : lw_okq (⟨"SplitGateModel", "holds", "(I)Z"⟩, 43) := ⟨⟨by decide +kernel, by decide +kernel⟩, List.mem_of_getElem? (i := 806) (by decide +kernel), List.mem_of_getElem? (i := 950) (by decide +kernel), List.mem_of_getElem? (i := 951) (by decide +kernel)⟩
theorem lw_p26 : lw_okq (⟨"SplitGateModel", "between", "(III)Z"⟩, 43) := ⟨⟨by decide +kernel, by decide +kernel⟩, List.mem_of_getElem? (i := 806) (by decide +kernel), List.mem_of_getElem? (i := 958) (by decide +kernel), List.mem_of_getElem? (i := 959) (by decide +kernel)⟩
theorem lw_p27 : lw_okq (⟨"SplitGateModel", "isLevel", "(I)Z"⟩, 43) := ⟨⟨by decide +kernel, by decide +kernel⟩, List.mem_of_getElem? (i := 806) (by decide +kernel), List.mem_of_getElem? (i := 962) (by decide +kernel), List.mem_of_getElem? (i := 963) (by decide +kernel)⟩
theorem lw_p28 : lw_okq (⟨"SplitGateModel", "isUsed", "(I)Z"⟩, 43) := ⟨⟨by decide +kernel, by decide +kernel⟩, List.mem_of_getElem? (i := 806) (by decide +kernel), List.mem_of_getElem? (i := 966) (by decide +kernel), List.mem_of_getElem? (i := 967) (by decide +kernel)⟩
theorem lw_p29 : lw_okq (⟨"SplitGateModel", "isReplay", "(I)Z"⟩, 43) := ⟨⟨by decide +kernel, by decide +kernel⟩, List.mem_of_getElem? (i := 806) (by decide +kernel), List.mem_of_getElem? (i := 978) (by decide +kernel), List.mem_of_getElem? (i := 979) (by decide +kernel)⟩
theorem lw_p30 : lw_okq (⟨"SplitGateModel", "run", "(II)V"⟩, 43) := ⟨⟨by decide +kernel, by decide +kernel⟩, List.mem_of_getElem? (i := 806) (by decide +kernel), List.mem_of_getElem? (i := 986) (by decide +kernel), List.mem_of_getElem? (i := 987) (by decide +kernel)⟩
theorem lw_p31 : lw_okq (⟨"SplitGateModel", "start", "(I)V"⟩, 43) := ⟨⟨by decide +kernel, by decide +kernel⟩, List.mem_of_getElem? (i := 806) (by decide +kernel), List.mem_of_getElem? (i := 990) (by decide +kernel), List.mem_of_getElem? (i := 991) (by decide +kernel)⟩
def lw_privs_2 : List (MethodName × Nat) := [(⟨"SplitGate", "runOf", "(I)LSplitGate$Run;"⟩, 9), (⟨"SplitGate", "bestRun", "(LSplitGate$Category;ILSplitGate$Run;)LSplitGate$Run;"⟩, 9), (⟨"SplitGate", "countsAnew", "(LSplitGate$Run;)Z"⟩, 9), (⟨"SplitGate", "placeFor", "(LSplitGate$Category;ILSplitGate$Run;)I"⟩, 9), (⟨"SplitGate", "countAhead", "(LSplitGate$Run;)I"⟩, 9), (⟨"SplitGate", "estimateFor", "(LSplitGate$Category;I)I"⟩, 9), (⟨"SplitGate", "hasOffered", "(LSplitGate$Category;I)Z"⟩, 9), (⟨"SplitGate", "fillSets", "()I"⟩, 9), (⟨"SplitGate", "costOf", "(LSplitGate$Offer;)I"⟩, 9), (⟨"SplitGateModel", "holds", "(I)Z"⟩, 43), (⟨"SplitGateModel", "between", "(III)Z"⟩, 43), (⟨"SplitGateModel", "isLevel", "(I)Z"⟩, 43), (⟨"SplitGateModel", "isUsed", "(I)Z"⟩, 43), (⟨"SplitGateModel", "isReplay", "(I)Z"⟩, 43), (⟨"SplitGateModel", "run", "(II)V"⟩, 43), (⟨"SplitGateModel", "start", "(I)V"⟩, 43)]
theorem lw_r2 : ∀ q ∈ lw_privs_2, lw_okq q := List.forall_mem_cons.mpr ⟨lw_p16, List.forall_mem_cons.mpr ⟨lw_p17, List.forall_mem_cons.mpr ⟨lw_p18, List.forall_mem_cons.mpr ⟨lw_p19, List.forall_mem_cons.mpr ⟨lw_p20, List.forall_mem_cons.mpr ⟨lw_p21, List.forall_mem_cons.mpr ⟨lw_p22, List.forall_mem_cons.mpr ⟨lw_p23, List.forall_mem_cons.mpr ⟨lw_p24, List.forall_mem_cons.mpr ⟨lw_p25, List.forall_mem_cons.mpr ⟨lw_p26, List.forall_mem_cons.mpr ⟨lw_p27, List.forall_mem_cons.mpr ⟨lw_p28, List.forall_mem_cons.mpr ⟨lw_p29, List.forall_mem_cons.mpr ⟨lw_p30, List.forall_mem_cons.mpr ⟨lw_p31, fun _ h => absurd h List.not_mem_nil⟩⟩⟩⟩⟩⟩⟩⟩⟩⟩⟩⟩⟩⟩⟩⟩
theorem lw_p32 : lw_okq (⟨"SplitGateModel", "gap", "(II)Z"⟩, 43) := ⟨⟨by decide +kernel, by decide +kernel⟩, List.mem_of_getElem? (i := 806) (by decide +kernel), List.mem_of_getElem? (i := 994) (by decide +kernel), List.mem_of_getElem? (i := 995) (by decide +kernel)⟩
theorem lw_p33 : lw_okq (⟨"SplitGateModel", "ground", "(II)I"⟩, 43) := ⟨⟨by decide +kernel, by decide +kernel⟩, List.mem_of_getElem? (i := 806) (by decide +kernel), List.mem_of_getElem? (i := 998) (by decide +kernel), List.mem_of_getElem? (i := 999) (by decide +kernel)⟩
theorem lw_p34 : lw_okq (⟨"SplitGateModel", "tick", "(III)V"⟩, 43) := ⟨⟨by decide +kernel, by decide +kernel⟩, List.mem_of_getElem? (i := 806) (by decide +kernel), List.mem_of_getElem? (i := 1002) (by decide +kernel), List.mem_of_getElem? (i := 1003) (by decide +kernel)⟩
theorem lw_p35 : lw_okq (⟨"SplitGateModel", "way", "(II)I"⟩, 43) := ⟨⟨by decide +kernel, by decide +kernel⟩, List.mem_of_getElem? (i := 806) (by decide +kernel), List.mem_of_getElem? (i := 1006) (by decide +kernel), List.mem_of_getElem? (i := 1007) (by decide +kernel)⟩
theorem lw_p36 : lw_okq (⟨"SplitGateModel", "go", "(II)V"⟩, 43) := ⟨⟨by decide +kernel, by decide +kernel⟩, List.mem_of_getElem? (i := 806) (by decide +kernel), List.mem_of_getElem? (i := 1010) (by decide +kernel), List.mem_of_getElem? (i := 1011) (by decide +kernel)⟩
theorem lw_p37 : lw_okq (⟨"SplitGateModel", "wall", "(II)Z"⟩, 43) := ⟨⟨by decide +kernel, by decide +kernel⟩, List.mem_of_getElem? (i := 806) (by decide +kernel), List.mem_of_getElem? (i := 1014) (by decide +kernel), List.mem_of_getElem? (i := 1015) (by decide +kernel)⟩
theorem lw_p38 : lw_okq (⟨"SplitGateModel", "fall", "(I)V"⟩, 43) := ⟨⟨by decide +kernel, by decide +kernel⟩, List.mem_of_getElem? (i := 806) (by decide +kernel), List.mem_of_getElem? (i := 1018) (by decide +kernel), List.mem_of_getElem? (i := 1019) (by decide +kernel)⟩
theorem lw_p39 : lw_okq (⟨"SplitGateModel", "meet", "(I)V"⟩, 43) := ⟨⟨by decide +kernel, by decide +kernel⟩, List.mem_of_getElem? (i := 806) (by decide +kernel), List.mem_of_getElem? (i := 1022) (by decide +kernel), List.mem_of_getElem? (i := 1023) (by decide +kernel)⟩
theorem lw_p40 : lw_okq (⟨"SplitGateModel", "purse", "()I"⟩, 43) := ⟨⟨by decide +kernel, by decide +kernel⟩, List.mem_of_getElem? (i := 806) (by decide +kernel), List.mem_of_getElem? (i := 1030) (by decide +kernel), List.mem_of_getElem? (i := 1031) (by decide +kernel)⟩
theorem lw_p41 : lw_okq (⟨"SplitGateModel", "isCategory", "(I)Z"⟩, 43) := ⟨⟨by decide +kernel, by decide +kernel⟩, List.mem_of_getElem? (i := 806) (by decide +kernel), List.mem_of_getElem? (i := 1046) (by decide +kernel), List.mem_of_getElem? (i := 1047) (by decide +kernel)⟩
theorem lw_p42 : lw_okq (⟨"SplitGateModel", "refused", "(I)Z"⟩, 43) := ⟨⟨by decide +kernel, by decide +kernel⟩, List.mem_of_getElem? (i := 806) (by decide +kernel), List.mem_of_getElem? (i := 1050) (by decide +kernel), List.mem_of_getElem? (i := 1051) (by decide +kernel)⟩
theorem lw_p43 : lw_okq (⟨"SplitGateModel", "law", "(II)I"⟩, 43) := ⟨⟨by decide +kernel, by decide +kernel⟩, List.mem_of_getElem? (i := 806) (by decide +kernel), List.mem_of_getElem? (i := 1054) (by decide +kernel), List.mem_of_getElem? (i := 1055) (by decide +kernel)⟩
theorem lw_p44 : lw_okq (⟨"SplitGateModel", "isRunner", "(I)Z"⟩, 43) := ⟨⟨by decide +kernel, by decide +kernel⟩, List.mem_of_getElem? (i := 806) (by decide +kernel), List.mem_of_getElem? (i := 1066) (by decide +kernel), List.mem_of_getElem? (i := 1067) (by decide +kernel)⟩
theorem lw_p45 : lw_okq (⟨"SplitGateModel", "isRun", "(I)Z"⟩, 43) := ⟨⟨by decide +kernel, by decide +kernel⟩, List.mem_of_getElem? (i := 806) (by decide +kernel), List.mem_of_getElem? (i := 1074) (by decide +kernel), List.mem_of_getElem? (i := 1075) (by decide +kernel)⟩
theorem lw_p46 : lw_okq (⟨"SplitGateModel", "isPair", "(II)Z"⟩, 43) := ⟨⟨by decide +kernel, by decide +kernel⟩, List.mem_of_getElem? (i := 806) (by decide +kernel), List.mem_of_getElem? (i := 1086) (by decide +kernel), List.mem_of_getElem? (i := 1087) (by decide +kernel)⟩
theorem lw_p47 : lw_okq (⟨"SplitGateModel", "top", "(III)I"⟩, 43) := ⟨⟨by decide +kernel, by decide +kernel⟩, List.mem_of_getElem? (i := 806) (by decide +kernel), List.mem_of_getElem? (i := 1090) (by decide +kernel), List.mem_of_getElem? (i := 1091) (by decide +kernel)⟩
def lw_privs_3 : List (MethodName × Nat) := [(⟨"SplitGateModel", "gap", "(II)Z"⟩, 43), (⟨"SplitGateModel", "ground", "(II)I"⟩, 43), (⟨"SplitGateModel", "tick", "(III)V"⟩, 43), (⟨"SplitGateModel", "way", "(II)I"⟩, 43), (⟨"SplitGateModel", "go", "(II)V"⟩, 43), (⟨"SplitGateModel", "wall", "(II)Z"⟩, 43), (⟨"SplitGateModel", "fall", "(I)V"⟩, 43), (⟨"SplitGateModel", "meet", "(I)V"⟩, 43), (⟨"SplitGateModel", "purse", "()I"⟩, 43), (⟨"SplitGateModel", "isCategory", "(I)Z"⟩, 43), (⟨"SplitGateModel", "refused", "(I)Z"⟩, 43), (⟨"SplitGateModel", "law", "(II)I"⟩, 43), (⟨"SplitGateModel", "isRunner", "(I)Z"⟩, 43), (⟨"SplitGateModel", "isRun", "(I)Z"⟩, 43), (⟨"SplitGateModel", "isPair", "(II)Z"⟩, 43), (⟨"SplitGateModel", "top", "(III)I"⟩, 43)]
theorem lw_r3 : ∀ q ∈ lw_privs_3, lw_okq q := List.forall_mem_cons.mpr ⟨lw_p32, List.forall_mem_cons.mpr ⟨lw_p33, List.forall_mem_cons.mpr ⟨lw_p34, List.forall_mem_cons.mpr ⟨lw_p35, List.forall_mem_cons.mpr ⟨lw_p36, List.forall_mem_cons.mpr ⟨lw_p37, List.forall_mem_cons.mpr ⟨lw_p38, List.forall_mem_cons.mpr ⟨lw_p39, List.forall_mem_cons.mpr ⟨lw_p40, List.forall_mem_cons.mpr ⟨lw_p41, List.forall_mem_cons.mpr ⟨lw_p42, List.forall_mem_cons.mpr ⟨lw_p43, List.forall_mem_cons.mpr ⟨lw_p44, List.forall_mem_cons.mpr ⟨lw_p45, List.forall_mem_cons.mpr ⟨lw_p46, List.forall_mem_cons.mpr ⟨lw_p47, fun _ h => absurd h List.not_mem_nil⟩⟩⟩⟩⟩⟩⟩⟩⟩⟩⟩⟩⟩⟩⟩⟩
theorem lw_p48 : lw_okq (⟨"SplitGateModel", "counts", "(I)Z"⟩, 43) := ⟨⟨by decide +kernel, by decide +kernel⟩, List.mem_of_getElem? (i := 806) (by decide +kernel), List.mem_of_getElem? (i := 1094) (by decide +kernel), List.mem_of_getElem? (i := 1095) (by decide +kernel)⟩
theorem lw_p49 : lw_okq (⟨"SplitGateModel", "ahead", "(II)Z"⟩, 43) := ⟨⟨by decide +kernel, by decide +kernel⟩, List.mem_of_getElem? (i := 806) (by decide +kernel), List.mem_of_getElem? (i := 1098) (by decide +kernel), List.mem_of_getElem? (i := 1099) (by decide +kernel)⟩
theorem lw_p50 : lw_okq (⟨"SplitGateModel", "spot", "(III)I"⟩, 43) := ⟨⟨by decide +kernel, by decide +kernel⟩, List.mem_of_getElem? (i := 806) (by decide +kernel), List.mem_of_getElem? (i := 1110) (by decide +kernel), List.mem_of_getElem? (i := 1111) (by decide +kernel)⟩
theorem lw_p51 : lw_okq (⟨"SplitGateModel", "guess", "(II)I"⟩, 43) := ⟨⟨by decide +kernel, by decide +kernel⟩, List.mem_of_getElem? (i := 806) (by decide +kernel), List.mem_of_getElem? (i := 1126) (by decide +kernel), List.mem_of_getElem? (i := 1127) (by decide +kernel)⟩
theorem lw_p52 : lw_okq (⟨"SplitGateModel", "isOpen", "(I)Z"⟩, 43) := ⟨⟨by decide +kernel, by decide +kernel⟩, List.mem_of_getElem? (i := 806) (by decide +kernel), List.mem_of_getElem? (i := 1138) (by decide +kernel), List.mem_of_getElem? (i := 1139) (by decide +kernel)⟩
def lw_privs_4 : List (MethodName × Nat) := [(⟨"SplitGateModel", "counts", "(I)Z"⟩, 43), (⟨"SplitGateModel", "ahead", "(II)Z"⟩, 43), (⟨"SplitGateModel", "spot", "(III)I"⟩, 43), (⟨"SplitGateModel", "guess", "(II)I"⟩, 43), (⟨"SplitGateModel", "isOpen", "(I)Z"⟩, 43)]
theorem lw_r4 : ∀ q ∈ lw_privs_4, lw_okq q := List.forall_mem_cons.mpr ⟨lw_p48, List.forall_mem_cons.mpr ⟨lw_p49, List.forall_mem_cons.mpr ⟨lw_p50, List.forall_mem_cons.mpr ⟨lw_p51, List.forall_mem_cons.mpr ⟨lw_p52, fun _ h => absurd h List.not_mem_nil⟩⟩⟩⟩⟩
def lw_privs : List (MethodName × Nat) := lw_privs_1 ++ (lw_privs_2 ++ (lw_privs_3 ++ (lw_privs_4)))
def lw_tbl : List Cond := k2_sels lw_privs ++ tables_1
theorem lw_privs_ok : ∀ q ∈ lw_privs, lw_okq q := by
  show ∀ q ∈ lw_privs_1 ++ (lw_privs_2 ++ (lw_privs_3 ++ (lw_privs_4))), lw_okq q
  exact List.forall_mem_append.mpr ⟨lw_r1, List.forall_mem_append.mpr ⟨lw_r2, List.forall_mem_append.mpr ⟨lw_r3, lw_r4⟩⟩⟩
-- ===== end of PART A; then your names; then what follows =====
def RX0 : String := "SplitGate$Category"
def TX0 : u_T := fun k => match k with
  | 0 => ("SplitGate$Category", "level", "LSplitGate$Level;", true)
  | _ => ("SplitGate$Category", "rules", "Ljava/util/ArrayList;", true)
def tyX0 : Nat → FieldType := fun k => match k with
  | 0 => .object "SplitGate$Level"
  | _ => .object "java/util/ArrayList"
theorem nmX0 : ∀ a, a < 2 → ∀ b, b < 2 → a ≠ b → (TX0 a).2.1 ≠ (TX0 b).2.1 := by decide +kernel
theorem tyX0_ok : ∀ k, k < 2 → parseFieldDescriptor (TX0 k).2.2.1 = some (tyX0 k) := by decide +kernel
abbrev cX0_init : ByteArray := prog_2_method_1_code
def yX0_init : MethodName := ⟨RX0, "<init>", "(LSplitGate$Level;)V"⟩
abbrev cX0_refuses : ByteArray := prog_2_method_2_code
def yX0_refuses : MethodName := ⟨RX0, "refuses", "(ILSplitGate$Hero;)Z"⟩
def RX1 : String := "SplitGate$Hero"
def TX1 : u_T := fun k => match k with
  | 0 => ("SplitGate$Hero", "spot", "I", false)
  | 1 => ("SplitGate$Hero", "height", "I", false)
  | 2 => ("SplitGate$Hero", "speed", "I", false)
  | 3 => ("SplitGate$Hero", "stands", "Z", false)
  | 4 => ("SplitGate$Hero", "canDash", "Z", false)
  | 5 => ("SplitGate$Hero", "buttonsBefore", "I", false)
  | 6 => ("SplitGate$Hero", "coins", "I", false)
  | 7 => ("SplitGate$Hero", "coinCount", "I", false)
  | 8 => ("SplitGate$Hero", "jumps", "I", false)
  | 9 => ("SplitGate$Hero", "deeds", "I", false)
  | 10 => ("SplitGate$Hero", "ticks", "I", false)
  | _ => ("SplitGate$Hero", "end", "I", false)
def tyX1 : Nat → FieldType := fun k => match k with
  | 0 => .int
  | 1 => .int
  | 2 => .int
  | 3 => .boolean
  | 4 => .boolean
  | 5 => .int
  | 6 => .int
  | 7 => .int
  | 8 => .int
  | 9 => .int
  | 10 => .int
  | _ => .int
theorem nmX1 : ∀ a, a < 12 → ∀ b, b < 12 → a ≠ b → (TX1 a).2.1 ≠ (TX1 b).2.1 := by decide +kernel
theorem tyX1_ok : ∀ k, k < 12 → parseFieldDescriptor (TX1 k).2.2.1 = some (tyX1 k) := by decide +kernel
abbrev cX1_init : ByteArray := prog_3_method_1_code
def yX1_init : MethodName := ⟨RX1, "<init>", "()V"⟩
abbrev cX1_start : ByteArray := prog_3_method_2_code
def yX1_start : MethodName := ⟨RX1, "start", "(LSplitGate$Level;)V"⟩
abbrev cX1_isOver : ByteArray := prog_3_method_3_code
def yX1_isOver : MethodName := ⟨RX1, "isOver", "()Z"⟩
abbrev cX1_isHome : ByteArray := prog_3_method_4_code
def yX1_isHome : MethodName := ⟨RX1, "isHome", "()Z"⟩
abbrev cX1_tick : ByteArray := prog_3_method_5_code
def yX1_tick : MethodName := ⟨RX1, "tick", "(LSplitGate$Level;I)V"⟩
abbrev cX1_columnHere : ByteArray := prog_3_method_6_code
def yX1_columnHere : MethodName := ⟨RX1, "columnHere", "()I"⟩
abbrev cX1_choose : ByteArray := prog_3_method_7_code
def yX1_choose : MethodName := ⟨RX1, "choose", "(IZ)I"⟩
abbrev cX1_go : ByteArray := prog_3_method_8_code
def yX1_go : MethodName := ⟨RX1, "go", "(LSplitGate$Level;I)V"⟩
abbrev cX1_fall : ByteArray := prog_3_method_9_code
def yX1_fall : MethodName := ⟨RX1, "fall", "(LSplitGate$Level;)V"⟩
abbrev cX1_takeCoin : ByteArray := prog_3_method_10_code
def yX1_takeCoin : MethodName := ⟨RX1, "takeCoin", "(LSplitGate$Level;)V"⟩
abbrev cX1_finish : ByteArray := prog_3_method_11_code
def yX1_finish : MethodName := ⟨RX1, "finish", "(LSplitGate$Level;)V"⟩
def RX2 : String := "SplitGate$Level"
def TX2 : u_T := fun k => match k with
  | 0 => ("SplitGate$Level", "gaps", "[Z", true)
  | 1 => ("SplitGate$Level", "floors", "[I", true)
  | _ => ("SplitGate$Level", "items", "[I", true)
def tyX2 : Nat → FieldType := fun k => match k with
  | 0 => .array .boolean
  | 1 => .array .int
  | _ => .array .int
theorem nmX2 : ∀ a, a < 3 → ∀ b, b < 3 → a ≠ b → (TX2 a).2.1 ≠ (TX2 b).2.1 := by decide +kernel
theorem tyX2_ok : ∀ k, k < 3 → parseFieldDescriptor (TX2 k).2.2.1 = some (tyX2 k) := by decide +kernel
abbrev cX2_init : ByteArray := prog_4_method_1_code
def yX2_init : MethodName := ⟨RX2, "<init>", "()V"⟩
abbrev cX2_change : ByteArray := prog_4_method_2_code
def yX2_change : MethodName := ⟨RX2, "change", "(III)V"⟩
abbrev cX2_isGap : ByteArray := prog_4_method_3_code
def yX2_isGap : MethodName := ⟨RX2, "isGap", "(I)Z"⟩
abbrev cX2_base : ByteArray := prog_4_method_4_code
def yX2_base : MethodName := ⟨RX2, "base", "(I)I"⟩
abbrev cX2_isFloorAbove : ByteArray := prog_4_method_5_code
def yX2_isFloorAbove : MethodName := ⟨RX2, "isFloorAbove", "(II)Z"⟩
abbrev cX2_hasItem : ByteArray := prog_4_method_6_code
def yX2_hasItem : MethodName := ⟨RX2, "hasItem", "(II)Z"⟩
def RX3 : String := "SplitGate$Offer"
def TX3 : u_T := fun k => match k with
  | 0 => ("SplitGate$Offer", "category", "LSplitGate$Category;", true)
  | 1 => ("SplitGate$Offer", "runner", "I", true)
  | _ => ("SplitGate$Offer", "gifts", "I", false)
def tyX3 : Nat → FieldType := fun k => match k with
  | 0 => .object "SplitGate$Category"
  | 1 => .int
  | _ => .int
theorem nmX3 : ∀ a, a < 3 → ∀ b, b < 3 → a ≠ b → (TX3 a).2.1 ≠ (TX3 b).2.1 := by decide +kernel
theorem tyX3_ok : ∀ k, k < 3 → parseFieldDescriptor (TX3 k).2.2.1 = some (tyX3 k) := by decide +kernel
abbrev cX3_init : ByteArray := prog_5_method_1_code
def yX3_init : MethodName := ⟨RX3, "<init>", "(LSplitGate$Category;I)V"⟩
def RX4 : String := "SplitGate$Replay"
def TX4 : u_T := fun k => match k with
  | 0 => ("SplitGate$Replay", "level", "LSplitGate$Level;", true)
  | 1 => ("SplitGate$Replay", "buttons", "[I", true)
  | 2 => ("SplitGate$Replay", "ticks", "[I", true)
  | 3 => ("SplitGate$Replay", "hero", "LSplitGate$Hero;", true)
  | 4 => ("SplitGate$Replay", "pieces", "I", false)
  | 5 => ("SplitGate$Replay", "length", "I", false)
  | _ => ("SplitGate$Replay", "submitted", "Z", false)
def tyX4 : Nat → FieldType := fun k => match k with
  | 0 => .object "SplitGate$Level"
  | 1 => .array .int
  | 2 => .array .int
  | 3 => .object "SplitGate$Hero"
  | 4 => .int
  | 5 => .int
  | _ => .boolean
theorem nmX4 : ∀ a, a < 7 → ∀ b, b < 7 → a ≠ b → (TX4 a).2.1 ≠ (TX4 b).2.1 := by decide +kernel
theorem tyX4_ok : ∀ k, k < 7 → parseFieldDescriptor (TX4 k).2.2.1 = some (tyX4 k) := by decide +kernel
abbrev cX4_init : ByteArray := prog_6_method_1_code
def yX4_init : MethodName := ⟨RX4, "<init>", "(LSplitGate$Level;)V"⟩
abbrev cX4_hasRoomFor : ByteArray := prog_6_method_2_code
def yX4_hasRoomFor : MethodName := ⟨RX4, "hasRoomFor", "(I)Z"⟩
abbrev cX4_addPiece : ByteArray := prog_6_method_3_code
def yX4_addPiece : MethodName := ⟨RX4, "addPiece", "(II)V"⟩
abbrev cX4_runAgain : ByteArray := prog_6_method_4_code
def yX4_runAgain : MethodName := ⟨RX4, "runAgain", "(LSplitGate$Hero;I)V"⟩
abbrev cX4_runPiece : ByteArray := prog_6_method_5_code
def yX4_runPiece : MethodName := ⟨RX4, "runPiece", "(LSplitGate$Hero;II)V"⟩
def RX5 : String := "SplitGate$Rule"
def TX5 : u_T := fun k => match k with
  | 0 => ("SplitGate$Rule", "day", "I", true)
  | 1 => ("SplitGate$Rule", "forbidden", "I", true)
  | 2 => ("SplitGate$Rule", "coins", "I", true)
  | _ => ("SplitGate$Rule", "jumps", "I", true)
def tyX5 : Nat → FieldType := fun k => match k with
  | 0 => .int
  | 1 => .int
  | 2 => .int
  | _ => .int
theorem nmX5 : ∀ a, a < 4 → ∀ b, b < 4 → a ≠ b → (TX5 a).2.1 ≠ (TX5 b).2.1 := by decide +kernel
theorem tyX5_ok : ∀ k, k < 4 → parseFieldDescriptor (TX5 k).2.2.1 = some (tyX5 k) := by decide +kernel
abbrev cX5_init : ByteArray := prog_7_method_1_code
def yX5_init : MethodName := ⟨RX5, "<init>", "(IIII)V"⟩
abbrev cX5_refuses : ByteArray := prog_7_method_2_code
def yX5_refuses : MethodName := ⟨RX5, "refuses", "(LSplitGate$Hero;)Z"⟩
def RX6 : String := "SplitGate$Run"
def TX6 : u_T := fun k => match k with
  | 0 => ("SplitGate$Run", "number", "I", true)
  | 1 => ("SplitGate$Run", "runner", "I", true)
  | 2 => ("SplitGate$Run", "replay", "LSplitGate$Replay;", true)
  | 3 => ("SplitGate$Run", "category", "LSplitGate$Category;", true)
  | 4 => ("SplitGate$Run", "day", "I", true)
  | 5 => ("SplitGate$Run", "ticks", "I", true)
  | _ => ("SplitGate$Run", "struck", "Z", false)
def tyX6 : Nat → FieldType := fun k => match k with
  | 0 => .int
  | 1 => .int
  | 2 => .object "SplitGate$Replay"
  | 3 => .object "SplitGate$Category"
  | 4 => .int
  | 5 => .int
  | _ => .boolean
theorem nmX6 : ∀ a, a < 7 → ∀ b, b < 7 → a ≠ b → (TX6 a).2.1 ≠ (TX6 b).2.1 := by decide +kernel
theorem tyX6_ok : ∀ k, k < 7 → parseFieldDescriptor (TX6 k).2.2.1 = some (tyX6 k) := by decide +kernel
abbrev cX6_init : ByteArray := prog_8_method_1_code
def yX6_init : MethodName := ⟨RX6, "<init>", "(IILSplitGate$Replay;LSplitGate$Category;I)V"⟩
abbrev cX6_isFor : ByteArray := prog_8_method_2_code
def yX6_isFor : MethodName := ⟨RX6, "isFor", "(LSplitGate$Category;I)Z"⟩
abbrev cX6_isAheadOf : ByteArray := prog_8_method_3_code
def yX6_isAheadOf : MethodName := ⟨RX6, "isAheadOf", "(LSplitGate$Run;)Z"⟩
def RX7 : String := "SplitGate"
def TX7 : u_T := fun k => match k with
  | 0 => ("SplitGate", "levels", "Ljava/util/ArrayList;", true)
  | 1 => ("SplitGate", "replays", "Ljava/util/ArrayList;", true)
  | 2 => ("SplitGate", "categories", "Ljava/util/ArrayList;", true)
  | 3 => ("SplitGate", "runs", "Ljava/util/ArrayList;", true)
  | 4 => ("SplitGate", "offers", "Ljava/util/ArrayList;", true)
  | 5 => ("SplitGate", "day", "I", false)
  | 6 => ("SplitGate", "heroAgain", "LSplitGate$Hero;", true)
  | 7 => ("SplitGate", "costs", "[I", true)
  | _ => ("SplitGate", "gains", "[I", true)
def tyX7 : Nat → FieldType := fun k => match k with
  | 0 => .object "java/util/ArrayList"
  | 1 => .object "java/util/ArrayList"
  | 2 => .object "java/util/ArrayList"
  | 3 => .object "java/util/ArrayList"
  | 4 => .object "java/util/ArrayList"
  | 5 => .int
  | 6 => .object "SplitGate$Hero"
  | 7 => .array .int
  | _ => .array .int
theorem nmX7 : ∀ a, a < 9 → ∀ b, b < 9 → a ≠ b → (TX7 a).2.1 ≠ (TX7 b).2.1 := by decide +kernel
theorem tyX7_ok : ∀ k, k < 9 → parseFieldDescriptor (TX7 k).2.2.1 = some (tyX7 k) := by decide +kernel
abbrev cX7_init : ByteArray := prog_1_method_1_code
def yX7_init : MethodName := ⟨RX7, "<init>", "()V"⟩
abbrev cX7_level : ByteArray := prog_1_method_2_code
def yX7_level : MethodName := ⟨RX7, "level", "()I"⟩
abbrev cX7_column : ByteArray := prog_1_method_3_code
def yX7_column : MethodName := ⟨RX7, "column", "(IIII)V"⟩
abbrev cX7_replay : ByteArray := prog_1_method_4_code
def yX7_replay : MethodName := ⟨RX7, "replay", "(I)I"⟩
abbrev cX7_input : ByteArray := prog_1_method_5_code
def yX7_input : MethodName := ⟨RX7, "input", "(III)I"⟩
abbrev cX7_result : ByteArray := prog_1_method_6_code
def yX7_result : MethodName := ⟨RX7, "result", "(I)I"⟩
abbrev cX7_used : ByteArray := prog_1_method_7_code
def yX7_used : MethodName := ⟨RX7, "used", "(I)I"⟩
abbrev cX7_where : ByteArray := prog_1_method_8_code
def yX7_where : MethodName := ⟨RX7, "where", "(II)I"⟩
abbrev cX7_isWithin : ByteArray := prog_1_method_9_code
def yX7_isWithin : MethodName := ⟨RX7, "isWithin", "(III)Z"⟩
abbrev cX7_requireArgument : ByteArray := prog_1_method_10_code
def yX7_requireArgument : MethodName := ⟨RX7, "requireArgument", "(Z)V"⟩
abbrev cX7_levelOf : ByteArray := prog_1_method_11_code
def yX7_levelOf : MethodName := ⟨RX7, "levelOf", "(I)LSplitGate$Level;"⟩
abbrev cX7_replayOf : ByteArray := prog_1_method_12_code
def yX7_replayOf : MethodName := ⟨RX7, "replayOf", "(I)LSplitGate$Replay;"⟩
abbrev cX7_hasReplay : ByteArray := prog_1_method_13_code
def yX7_hasReplay : MethodName := ⟨RX7, "hasReplay", "(LSplitGate$Level;)Z"⟩
abbrev cX7_category : ByteArray := prog_1_method_14_code
def yX7_category : MethodName := ⟨RX7, "category", "(I)I"⟩
abbrev cX7_rule : ByteArray := prog_1_method_15_code
def yX7_rule : MethodName := ⟨RX7, "rule", "(IIIII)I"⟩
abbrev cX7_pass : ByteArray := prog_1_method_16_code
def yX7_pass : MethodName := ⟨RX7, "pass", "(I)I"⟩
abbrev cX7_submit : ByteArray := prog_1_method_17_code
def yX7_submit : MethodName := ⟨RX7, "submit", "(III)I"⟩
abbrev cX7_judged : ByteArray := prog_1_method_18_code
def yX7_judged : MethodName := ⟨RX7, "judged", "(I)I"⟩
abbrev cX7_strike : ByteArray := prog_1_method_19_code
def yX7_strike : MethodName := ⟨RX7, "strike", "(I)Z"⟩
abbrev cX7_categoryOf : ByteArray := prog_1_method_20_code
def yX7_categoryOf : MethodName := ⟨RX7, "categoryOf", "(I)LSplitGate$Category;"⟩
abbrev cX7_runOf : ByteArray := prog_1_method_21_code
def yX7_runOf : MethodName := ⟨RX7, "runOf", "(I)LSplitGate$Run;"⟩
abbrev cX7_requireRunner : ByteArray := prog_1_method_22_code
def yX7_requireRunner : MethodName := ⟨RX7, "requireRunner", "(I)V"⟩
abbrev cX7_isRefused : ByteArray := prog_1_method_23_code
def yX7_isRefused : MethodName := ⟨RX7, "isRefused", "(LSplitGate$Run;)Z"⟩
abbrev cX7_counts : ByteArray := prog_1_method_24_code
def yX7_counts : MethodName := ⟨RX7, "counts", "(LSplitGate$Run;)Z"⟩
abbrev cX7_countRefused : ByteArray := prog_1_method_25_code
def yX7_countRefused : MethodName := ⟨RX7, "countRefused", "(LSplitGate$Category;)I"⟩
abbrev cX7_best : ByteArray := prog_1_method_26_code
def yX7_best : MethodName := ⟨RX7, "best", "(II)I"⟩
abbrev cX7_bestAnew : ByteArray := prog_1_method_27_code
def yX7_bestAnew : MethodName := ⟨RX7, "bestAnew", "(II)I"⟩
abbrev cX7_place : ByteArray := prog_1_method_28_code
def yX7_place : MethodName := ⟨RX7, "place", "(II)I"⟩
abbrev cX7_at : ByteArray := prog_1_method_29_code
def yX7_at : MethodName := ⟨RX7, "at", "(II)I"⟩
abbrev cX7_placeWithout : ByteArray := prog_1_method_30_code
def yX7_placeWithout : MethodName := ⟨RX7, "placeWithout", "(I)I"⟩
abbrev cX7_bestRun : ByteArray := prog_1_method_31_code
def yX7_bestRun : MethodName := ⟨RX7, "bestRun", "(LSplitGate$Category;ILSplitGate$Run;)LSplitGate$Run;"⟩
abbrev cX7_countsAnew : ByteArray := prog_1_method_32_code
def yX7_countsAnew : MethodName := ⟨RX7, "countsAnew", "(LSplitGate$Run;)Z"⟩
abbrev cX7_placeFor : ByteArray := prog_1_method_33_code
def yX7_placeFor : MethodName := ⟨RX7, "placeFor", "(LSplitGate$Category;ILSplitGate$Run;)I"⟩
abbrev cX7_countAhead : ByteArray := prog_1_method_34_code
def yX7_countAhead : MethodName := ⟨RX7, "countAhead", "(LSplitGate$Run;)I"⟩
abbrev cX7_estimate : ByteArray := prog_1_method_35_code
def yX7_estimate : MethodName := ⟨RX7, "estimate", "(II)I"⟩
abbrev cX7_offer : ByteArray := prog_1_method_36_code
def yX7_offer : MethodName := ⟨RX7, "offer", "(II)I"⟩
abbrev cX7_gift : ByteArray := prog_1_method_37_code
def yX7_gift : MethodName := ⟨RX7, "gift", "(II)I"⟩
abbrev cX7_plan : ByteArray := prog_1_method_38_code
def yX7_plan : MethodName := ⟨RX7, "plan", "(I)I"⟩
abbrev cX7_estimateFor : ByteArray := prog_1_method_39_code
def yX7_estimateFor : MethodName := ⟨RX7, "estimateFor", "(LSplitGate$Category;I)I"⟩
abbrev cX7_hasOffered : ByteArray := prog_1_method_40_code
def yX7_hasOffered : MethodName := ⟨RX7, "hasOffered", "(LSplitGate$Category;I)Z"⟩
abbrev cX7_fillSets : ByteArray := prog_1_method_41_code
def yX7_fillSets : MethodName := ⟨RX7, "fillSets", "()I"⟩
abbrev cX7_costOf : ByteArray := prog_1_method_42_code
def yX7_costOf : MethodName := ⟨RX7, "costOf", "(LSplitGate$Offer;)I"⟩
def RX8 : String := "SplitGateModel"
def TX8 : u_T := fun k => match k with
  | 0 => ("SplitGateModel", "high", "[I", true)
  | 1 => ("SplitGateModel", "item", "[I", true)
  | 2 => ("SplitGateModel", "levels", "I", false)
  | 3 => ("SplitGateModel", "stage", "[I", true)
  | 4 => ("SplitGateModel", "pieces", "[I", true)
  | 5 => ("SplitGateModel", "length", "[I", true)
  | 6 => ("SplitGateModel", "sent", "[I", true)
  | 7 => ("SplitGateModel", "keys", "[I", true)
  | 8 => ("SplitGateModel", "spans", "[I", true)
  | 9 => ("SplitGateModel", "replays", "I", false)
  | 10 => ("SplitGateModel", "where", "[I", true)
  | 11 => ("SplitGateModel", "ruled", "[I", true)
  | 12 => ("SplitGateModel", "from", "[I", true)
  | 13 => ("SplitGateModel", "bars", "[I", true)
  | 14 => ("SplitGateModel", "least", "[I", true)
  | 15 => ("SplitGateModel", "most", "[I", true)
  | 16 => ("SplitGateModel", "categories", "I", false)
  | 17 => ("SplitGateModel", "tape", "[I", true)
  | 18 => ("SplitGateModel", "who", "[I", true)
  | 19 => ("SplitGateModel", "what", "[I", true)
  | 20 => ("SplitGateModel", "when", "[I", true)
  | 21 => ("SplitGateModel", "struck", "[I", true)
  | 22 => ("SplitGateModel", "lasted", "[I", true)
  | 23 => ("SplitGateModel", "took", "[I", true)
  | 24 => ("SplitGateModel", "leapt", "[I", true)
  | 25 => ("SplitGateModel", "did", "[I", true)
  | 26 => ("SplitGateModel", "runs", "I", false)
  | 27 => ("SplitGateModel", "show", "[I", true)
  | 28 => ("SplitGateModel", "star", "[I", true)
  | 29 => ("SplitGateModel", "given", "[I", true)
  | 30 => ("SplitGateModel", "offers", "I", false)
  | 31 => ("SplitGateModel", "today", "I", false)
  | 32 => ("SplitGateModel", "x", "I", false)
  | 33 => ("SplitGateModel", "y", "I", false)
  | 34 => ("SplitGateModel", "speed", "I", false)
  | 35 => ("SplitGateModel", "stands", "Z", false)
  | 36 => ("SplitGateModel", "dashes", "Z", false)
  | 37 => ("SplitGateModel", "coins", "I", false)
  | 38 => ("SplitGateModel", "jumps", "I", false)
  | 39 => ("SplitGateModel", "deeds", "I", false)
  | 40 => ("SplitGateModel", "ticks", "I", false)
  | 41 => ("SplitGateModel", "fate", "I", false)
  | _ => ("SplitGateModel", "thrown", "I", false)
def tyX8 : Nat → FieldType := fun k => match k with
  | 0 => .array .int
  | 1 => .array .int
  | 2 => .int
  | 3 => .array .int
  | 4 => .array .int
  | 5 => .array .int
  | 6 => .array .int
  | 7 => .array .int
  | 8 => .array .int
  | 9 => .int
  | 10 => .array .int
  | 11 => .array .int
  | 12 => .array .int
  | 13 => .array .int
  | 14 => .array .int
  | 15 => .array .int
  | 16 => .int
  | 17 => .array .int
  | 18 => .array .int
  | 19 => .array .int
  | 20 => .array .int
  | 21 => .array .int
  | 22 => .array .int
  | 23 => .array .int
  | 24 => .array .int
  | 25 => .array .int
  | 26 => .int
  | 27 => .array .int
  | 28 => .array .int
  | 29 => .array .int
  | 30 => .int
  | 31 => .int
  | 32 => .int
  | 33 => .int
  | 34 => .int
  | 35 => .boolean
  | 36 => .boolean
  | 37 => .int
  | 38 => .int
  | 39 => .int
  | 40 => .int
  | 41 => .int
  | _ => .int
theorem nmX8 : ∀ a, a < 43 → ∀ b, b < 43 → a ≠ b → (TX8 a).2.1 ≠ (TX8 b).2.1 := by decide +kernel
theorem tyX8_ok : ∀ k, k < 43 → parseFieldDescriptor (TX8 k).2.2.1 = some (tyX8 k) := by decide +kernel
abbrev cX8_init : ByteArray := prog_10_method_1_code
def yX8_init : MethodName := ⟨RX8, "<init>", "()V"⟩
abbrev cX8_thrown : ByteArray := prog_10_method_2_code
def yX8_thrown : MethodName := ⟨RX8, "thrown", "()I"⟩
abbrev cX8_holds : ByteArray := prog_10_method_3_code
def yX8_holds : MethodName := ⟨RX8, "holds", "(I)Z"⟩
abbrev cX8_between : ByteArray := prog_10_method_4_code
def yX8_between : MethodName := ⟨RX8, "between", "(III)Z"⟩
abbrev cX8_isLevel : ByteArray := prog_10_method_5_code
def yX8_isLevel : MethodName := ⟨RX8, "isLevel", "(I)Z"⟩
abbrev cX8_isReplay : ByteArray := prog_10_method_6_code
def yX8_isReplay : MethodName := ⟨RX8, "isReplay", "(I)Z"⟩
abbrev cX8_isCategory : ByteArray := prog_10_method_7_code
def yX8_isCategory : MethodName := ⟨RX8, "isCategory", "(I)Z"⟩
abbrev cX8_isRun : ByteArray := prog_10_method_8_code
def yX8_isRun : MethodName := ⟨RX8, "isRun", "(I)Z"⟩
abbrev cX8_isRunner : ByteArray := prog_10_method_9_code
def yX8_isRunner : MethodName := ⟨RX8, "isRunner", "(I)Z"⟩
abbrev cX8_gap : ByteArray := prog_10_method_10_code
def yX8_gap : MethodName := ⟨RX8, "gap", "(II)Z"⟩
abbrev cX8_ground : ByteArray := prog_10_method_11_code
def yX8_ground : MethodName := ⟨RX8, "ground", "(II)I"⟩
abbrev cX8_wall : ByteArray := prog_10_method_12_code
def yX8_wall : MethodName := ⟨RX8, "wall", "(II)Z"⟩
abbrev cX8_start : ByteArray := prog_10_method_13_code
def yX8_start : MethodName := ⟨RX8, "start", "(I)V"⟩
abbrev cX8_way : ByteArray := prog_10_method_14_code
def yX8_way : MethodName := ⟨RX8, "way", "(II)I"⟩
abbrev cX8_go : ByteArray := prog_10_method_15_code
def yX8_go : MethodName := ⟨RX8, "go", "(II)V"⟩
abbrev cX8_fall : ByteArray := prog_10_method_16_code
def yX8_fall : MethodName := ⟨RX8, "fall", "(I)V"⟩
abbrev cX8_meet : ByteArray := prog_10_method_17_code
def yX8_meet : MethodName := ⟨RX8, "meet", "(I)V"⟩
abbrev cX8_tick : ByteArray := prog_10_method_18_code
def yX8_tick : MethodName := ⟨RX8, "tick", "(III)V"⟩
abbrev cX8_run : ByteArray := prog_10_method_19_code
def yX8_run : MethodName := ⟨RX8, "run", "(II)V"⟩
abbrev cX8_purse : ByteArray := prog_10_method_20_code
def yX8_purse : MethodName := ⟨RX8, "purse", "()I"⟩
abbrev cX8_level : ByteArray := prog_10_method_21_code
def yX8_level : MethodName := ⟨RX8, "level", "()I"⟩
abbrev cX8_isUsed : ByteArray := prog_10_method_22_code
def yX8_isUsed : MethodName := ⟨RX8, "isUsed", "(I)Z"⟩
abbrev cX8_column : ByteArray := prog_10_method_23_code
def yX8_column : MethodName := ⟨RX8, "column", "(IIII)V"⟩
abbrev cX8_replay : ByteArray := prog_10_method_24_code
def yX8_replay : MethodName := ⟨RX8, "replay", "(I)I"⟩
abbrev cX8_input : ByteArray := prog_10_method_25_code
def yX8_input : MethodName := ⟨RX8, "input", "(III)I"⟩
abbrev cX8_result : ByteArray := prog_10_method_26_code
def yX8_result : MethodName := ⟨RX8, "result", "(I)I"⟩
abbrev cX8_used : ByteArray := prog_10_method_27_code
def yX8_used : MethodName := ⟨RX8, "used", "(I)I"⟩
abbrev cX8_where : ByteArray := prog_10_method_28_code
def yX8_where : MethodName := ⟨RX8, "where", "(II)I"⟩
abbrev cX8_category : ByteArray := prog_10_method_29_code
def yX8_category : MethodName := ⟨RX8, "category", "(I)I"⟩
abbrev cX8_law : ByteArray := prog_10_method_30_code
def yX8_law : MethodName := ⟨RX8, "law", "(II)I"⟩
abbrev cX8_refused : ByteArray := prog_10_method_31_code
def yX8_refused : MethodName := ⟨RX8, "refused", "(I)Z"⟩
abbrev cX8_counts : ByteArray := prog_10_method_32_code
def yX8_counts : MethodName := ⟨RX8, "counts", "(I)Z"⟩
abbrev cX8_rule : ByteArray := prog_10_method_33_code
def yX8_rule : MethodName := ⟨RX8, "rule", "(IIIII)I"⟩
abbrev cX8_pass : ByteArray := prog_10_method_34_code
def yX8_pass : MethodName := ⟨RX8, "pass", "(I)I"⟩
abbrev cX8_submit : ByteArray := prog_10_method_35_code
def yX8_submit : MethodName := ⟨RX8, "submit", "(III)I"⟩
abbrev cX8_judged : ByteArray := prog_10_method_36_code
def yX8_judged : MethodName := ⟨RX8, "judged", "(I)I"⟩
abbrev cX8_strike : ByteArray := prog_10_method_37_code
def yX8_strike : MethodName := ⟨RX8, "strike", "(I)Z"⟩
abbrev cX8_ahead : ByteArray := prog_10_method_38_code
def yX8_ahead : MethodName := ⟨RX8, "ahead", "(II)Z"⟩
abbrev cX8_top : ByteArray := prog_10_method_39_code
def yX8_top : MethodName := ⟨RX8, "top", "(III)I"⟩
abbrev cX8_isPair : ByteArray := prog_10_method_40_code
def yX8_isPair : MethodName := ⟨RX8, "isPair", "(II)Z"⟩
abbrev cX8_best : ByteArray := prog_10_method_41_code
def yX8_best : MethodName := ⟨RX8, "best", "(II)I"⟩
abbrev cX8_bestAnew : ByteArray := prog_10_method_42_code
def yX8_bestAnew : MethodName := ⟨RX8, "bestAnew", "(II)I"⟩
abbrev cX8_spot : ByteArray := prog_10_method_43_code
def yX8_spot : MethodName := ⟨RX8, "spot", "(III)I"⟩
abbrev cX8_place : ByteArray := prog_10_method_44_code
def yX8_place : MethodName := ⟨RX8, "place", "(II)I"⟩
abbrev cX8_at : ByteArray := prog_10_method_45_code
def yX8_at : MethodName := ⟨RX8, "at", "(II)I"⟩
abbrev cX8_placeWithout : ByteArray := prog_10_method_46_code
def yX8_placeWithout : MethodName := ⟨RX8, "placeWithout", "(I)I"⟩
abbrev cX8_guess : ByteArray := prog_10_method_47_code
def yX8_guess : MethodName := ⟨RX8, "guess", "(II)I"⟩
abbrev cX8_estimate : ByteArray := prog_10_method_48_code
def yX8_estimate : MethodName := ⟨RX8, "estimate", "(II)I"⟩
abbrev cX8_isOpen : ByteArray := prog_10_method_49_code
def yX8_isOpen : MethodName := ⟨RX8, "isOpen", "(I)Z"⟩
abbrev cX8_offer : ByteArray := prog_10_method_50_code
def yX8_offer : MethodName := ⟨RX8, "offer", "(II)I"⟩
abbrev cX8_gift : ByteArray := prog_10_method_51_code
def yX8_gift : MethodName := ⟨RX8, "gift", "(II)I"⟩
abbrev cX8_plan : ByteArray := prog_10_method_52_code
def yX8_plan : MethodName := ⟨RX8, "plan", "(I)I"⟩
def RJx145de : String := "java/io/Serializable"
def TJx145de : u_T := fun k => match k with
  | _ => ("", "", "", false)
def tyJx145de : Nat → FieldType := fun k => match k with
  | _ => .int
theorem nmJx145de : ∀ a, a < 0 → ∀ b, b < 0 → a ≠ b → (TJx145de a).2.1 ≠ (TJx145de b).2.1 := by decide +kernel
theorem tyJx145de_ok : ∀ k, k < 0 → parseFieldDescriptor (TJx145de k).2.2.1 = some (tyJx145de k) := by decide +kernel
def RJx8e188 : String := "java/lang/Cloneable"
def TJx8e188 : u_T := fun k => match k with
  | _ => ("", "", "", false)
def tyJx8e188 : Nat → FieldType := fun k => match k with
  | _ => .int
theorem nmJx8e188 : ∀ a, a < 0 → ∀ b, b < 0 → a ≠ b → (TJx8e188 a).2.1 ≠ (TJx8e188 b).2.1 := by decide +kernel
theorem tyJx8e188_ok : ∀ k, k < 0 → parseFieldDescriptor (TJx8e188 k).2.2.1 = some (tyJx8e188 k) := by decide +kernel
def RJxab1ab : String := "java/lang/Iterable"
def TJxab1ab : u_T := fun k => match k with
  | _ => ("", "", "", false)
def tyJxab1ab : Nat → FieldType := fun k => match k with
  | _ => .int
theorem nmJxab1ab : ∀ a, a < 0 → ∀ b, b < 0 → a ≠ b → (TJxab1ab a).2.1 ≠ (TJxab1ab b).2.1 := by decide +kernel
theorem tyJxab1ab_ok : ∀ k, k < 0 → parseFieldDescriptor (TJxab1ab k).2.2.1 = some (tyJxab1ab k) := by decide +kernel
def RJ9 : String := "java/lang/Math"
def TJ9 : u_T := fun k => match k with
  | _ => ("", "", "", false)
def tyJ9 : Nat → FieldType := fun k => match k with
  | _ => .int
theorem nmJ9 : ∀ a, a < 0 → ∀ b, b < 0 → a ≠ b → (TJ9 a).2.1 ≠ (TJ9 b).2.1 := by decide +kernel
theorem tyJ9_ok : ∀ k, k < 0 → parseFieldDescriptor (TJ9 k).2.2.1 = some (tyJ9 k) := by decide +kernel
abbrev cJ9_max_7cf53 : ByteArray := prog_18_method_65_code
def yJ9_max_7cf53 : MethodName := ⟨RJ9, "max", "(II)I"⟩
abbrev cJ9_min_7cf53 : ByteArray := prog_18_method_69_code
def yJ9_min_7cf53 : MethodName := ⟨RJ9, "min", "(II)I"⟩
def RJ0 : String := "java/lang/String"
def TJ0 : u_T := fun k => match k with
  | _ => ("", "", "", false)
def tyJ0 : Nat → FieldType := fun k => match k with
  | _ => .int
theorem nmJ0 : ∀ a, a < 0 → ∀ b, b < 0 → a ≠ b → (TJ0 a).2.1 ≠ (TJ0 b).2.1 := by decide +kernel
theorem tyJ0_ok : ∀ k, k < 0 → parseFieldDescriptor (TJ0 k).2.2.1 = some (tyJ0 k) := by decide +kernel
def RJ10 : String := "java/lang/System"
def TJ10 : u_T := fun k => match k with
  | _ => ("", "", "", false)
def tyJ10 : Nat → FieldType := fun k => match k with
  | _ => .int
theorem nmJ10 : ∀ a, a < 0 → ∀ b, b < 0 → a ≠ b → (TJ10 a).2.1 ≠ (TJ10 b).2.1 := by decide +kernel
theorem tyJ10_ok : ∀ k, k < 0 → parseFieldDescriptor (TJ10 k).2.2.1 = some (tyJ10 k) := by decide +kernel
def RJxa1e45 : String := "java/util/AbstractCollection"
def TJxa1e45 : u_T := fun k => match k with
  | _ => ("", "", "", false)
def tyJxa1e45 : Nat → FieldType := fun k => match k with
  | _ => .int
theorem nmJxa1e45 : ∀ a, a < 0 → ∀ b, b < 0 → a ≠ b → (TJxa1e45 a).2.1 ≠ (TJxa1e45 b).2.1 := by decide +kernel
theorem tyJxa1e45_ok : ∀ k, k < 0 → parseFieldDescriptor (TJxa1e45 k).2.2.1 = some (tyJxa1e45 k) := by decide +kernel
abbrev cJxa1e45_init_da8c8 : ByteArray := prog_23_method_1_code
def yJxa1e45_init_da8c8 : MethodName := ⟨RJxa1e45, "<init>", "()V"⟩
def RJxc12de : String := "java/util/AbstractList"
def TJxc12de : u_T := fun k => match k with
  | _ => ("", "", "", false)
def tyJxc12de : Nat → FieldType := fun k => match k with
  | _ => .int
theorem nmJxc12de : ∀ a, a < 0 → ∀ b, b < 0 → a ≠ b → (TJxc12de a).2.1 ≠ (TJxc12de b).2.1 := by decide +kernel
theorem tyJxc12de_ok : ∀ k, k < 0 → parseFieldDescriptor (TJxc12de k).2.2.1 = some (tyJxc12de k) := by decide +kernel
abbrev cJxc12de_init_da8c8 : ByteArray := prog_24_method_1_code
def yJxc12de_init_da8c8 : MethodName := ⟨RJxc12de, "<init>", "()V"⟩
def RJx4a65c : String := "java/util/ArrayList"
def TJx4a65c : u_T := fun k => match k with
  | 0 => ("java/util/AbstractList", "modCount", "I", false)
  | 1 => ("java/util/ArrayList", "elementData", "[Ljava/lang/Object;", false)
  | _ => ("java/util/ArrayList", "size", "I", false)
def tyJx4a65c : Nat → FieldType := fun k => match k with
  | 0 => .int
  | 1 => .array (.object "java/lang/Object")
  | _ => .int
theorem nmJx4a65c : ∀ a, a < 3 → ∀ b, b < 3 → a ≠ b → (TJx4a65c a).2.1 ≠ (TJx4a65c b).2.1 := by decide +kernel
theorem tyJx4a65c_ok : ∀ k, k < 3 → parseFieldDescriptor (TJx4a65c k).2.2.1 = some (tyJx4a65c k) := by decide +kernel
abbrev cJx4a65c_init_da8c8 : ByteArray := prog_25_method_2_code
def yJx4a65c_init_da8c8 : MethodName := ⟨RJx4a65c, "<init>", "()V"⟩
abbrev cJx4a65c_grow_92f84 : ByteArray := prog_25_method_6_code
def yJx4a65c_grow_92f84 : MethodName := ⟨RJx4a65c, "grow", "(I)[Ljava/lang/Object;"⟩
abbrev cJx4a65c_grow_d5877 : ByteArray := prog_25_method_7_code
def yJx4a65c_grow_d5877 : MethodName := ⟨RJx4a65c, "grow", "()[Ljava/lang/Object;"⟩
abbrev cJx4a65c_size_8abf5 : ByteArray := prog_25_method_8_code
def yJx4a65c_size_8abf5 : MethodName := ⟨RJx4a65c, "size", "()I"⟩
abbrev cJx4a65c_elementData_915e3 : ByteArray := prog_25_method_18_code
def yJx4a65c_elementData_915e3 : MethodName := ⟨RJx4a65c, "elementData", "(I)Ljava/lang/Object;"⟩
abbrev cJx4a65c_get_915e3 : ByteArray := prog_25_method_20_code
def yJx4a65c_get_915e3 : MethodName := ⟨RJx4a65c, "get", "(I)Ljava/lang/Object;"⟩
abbrev cJx4a65c_add_72be8 : ByteArray := prog_25_method_24_code
def yJx4a65c_add_72be8 : MethodName := ⟨RJx4a65c, "add", "(Ljava/lang/Object;[Ljava/lang/Object;I)V"⟩
abbrev cJx4a65c_add_9ea2d : ByteArray := prog_25_method_25_code
def yJx4a65c_add_9ea2d : MethodName := ⟨RJx4a65c, "add", "(Ljava/lang/Object;)Z"⟩
def RJ7 : String := "java/util/Arrays"
def TJ7 : u_T := fun k => match k with
  | _ => ("", "", "", false)
def tyJ7 : Nat → FieldType := fun k => match k with
  | _ => .int
theorem nmJ7 : ∀ a, a < 0 → ∀ b, b < 0 → a ≠ b → (TJ7 a).2.1 ≠ (TJ7 b).2.1 := by decide +kernel
theorem tyJ7_ok : ∀ k, k < 0 → parseFieldDescriptor (TJ7 k).2.2.1 = some (tyJ7 k) := by decide +kernel
abbrev cJ7_copyOf_1904c : ByteArray := prog_26_method_119_code
def yJ7_copyOf_1904c : MethodName := ⟨RJ7, "copyOf", "([Ljava/lang/Object;I)[Ljava/lang/Object;"⟩
abbrev cJ7_copyOf_6403c : ByteArray := prog_26_method_120_code
def yJ7_copyOf_6403c : MethodName := ⟨RJ7, "copyOf", "([Ljava/lang/Object;ILjava/lang/Class;)[Ljava/lang/Object;"⟩
def RJx5ef63 : String := "java/util/Collection"
def TJx5ef63 : u_T := fun k => match k with
  | _ => ("", "", "", false)
def tyJx5ef63 : Nat → FieldType := fun k => match k with
  | _ => .int
theorem nmJx5ef63 : ∀ a, a < 0 → ∀ b, b < 0 → a ≠ b → (TJx5ef63 a).2.1 ≠ (TJx5ef63 b).2.1 := by decide +kernel
theorem tyJx5ef63_ok : ∀ k, k < 0 → parseFieldDescriptor (TJx5ef63 k).2.2.1 = some (tyJx5ef63 k) := by decide +kernel
def RJxbd725 : String := "java/util/List"
def TJxbd725 : u_T := fun k => match k with
  | _ => ("", "", "", false)
def tyJxbd725 : Nat → FieldType := fun k => match k with
  | _ => .int
theorem nmJxbd725 : ∀ a, a < 0 → ∀ b, b < 0 → a ≠ b → (TJxbd725 a).2.1 ≠ (TJxbd725 b).2.1 := by decide +kernel
theorem tyJxbd725_ok : ∀ k, k < 0 → parseFieldDescriptor (TJxbd725 k).2.2.1 = some (tyJxbd725 k) := by decide +kernel
def RJ15 : String := "java/util/Objects"
def TJ15 : u_T := fun k => match k with
  | _ => ("", "", "", false)
def tyJ15 : Nat → FieldType := fun k => match k with
  | _ => .int
theorem nmJ15 : ∀ a, a < 0 → ∀ b, b < 0 → a ≠ b → (TJ15 a).2.1 ≠ (TJ15 b).2.1 := by decide +kernel
theorem tyJ15_ok : ∀ k, k < 0 → parseFieldDescriptor (TJ15 k).2.2.1 = some (tyJ15 k) := by decide +kernel
abbrev cJ15_checkIndex_7cf53 : ByteArray := prog_29_method_17_code
def yJ15_checkIndex_7cf53 : MethodName := ⟨RJ15, "checkIndex", "(II)I"⟩
def RJxf0a74 : String := "java/util/RandomAccess"
def TJxf0a74 : u_T := fun k => match k with
  | _ => ("", "", "", false)
def tyJxf0a74 : Nat → FieldType := fun k => match k with
  | _ => .int
theorem nmJxf0a74 : ∀ a, a < 0 → ∀ b, b < 0 → a ≠ b → (TJxf0a74 a).2.1 ≠ (TJxf0a74 b).2.1 := by decide +kernel
theorem tyJxf0a74_ok : ∀ k, k < 0 → parseFieldDescriptor (TJxf0a74 k).2.2.1 = some (tyJxf0a74 k) := by decide +kernel
def RJxa66e6 : String := "java/util/SequencedCollection"
def TJxa66e6 : u_T := fun k => match k with
  | _ => ("", "", "", false)
def tyJxa66e6 : Nat → FieldType := fun k => match k with
  | _ => .int
theorem nmJxa66e6 : ∀ a, a < 0 → ∀ b, b < 0 → a ≠ b → (TJxa66e6 a).2.1 ≠ (TJxa66e6 b).2.1 := by decide +kernel
theorem tyJxa66e6_ok : ∀ k, k < 0 → parseFieldDescriptor (TJxa66e6 k).2.2.1 = some (tyJxa66e6 k) := by decide +kernel
def RJ8 : String := "jdk/internal/util/ArraysSupport"
def TJ8 : u_T := fun k => match k with
  | _ => ("", "", "", false)
def tyJ8 : Nat → FieldType := fun k => match k with
  | _ => .int
theorem nmJ8 : ∀ a, a < 0 → ∀ b, b < 0 → a ≠ b → (TJ8 a).2.1 ≠ (TJ8 b).2.1 := by decide +kernel
theorem tyJ8_ok : ∀ k, k < 0 → parseFieldDescriptor (TJ8 k).2.2.1 = some (tyJ8 k) := by decide +kernel
abbrev cJ8_newLength_cabcc : ByteArray := prog_32_method_27_code
def yJ8_newLength_cabcc : MethodName := ⟨RJ8, "newLength", "(III)I"⟩
abbrev cJ8_hugeLength_7cf53 : ByteArray := prog_32_method_28_code
def yJ8_hugeLength_7cf53 : MethodName := ⟨RJ8, "hugeLength", "(II)I"⟩
def RJ3 : String := "jdk/internal/util/Preconditions"
def TJ3 : u_T := fun k => match k with
  | _ => ("", "", "", false)
def tyJ3 : Nat → FieldType := fun k => match k with
  | _ => .int
theorem nmJ3 : ∀ a, a < 0 → ∀ b, b < 0 → a ≠ b → (TJ3 a).2.1 ≠ (TJ3 b).2.1 := by decide +kernel
theorem tyJ3_ok : ∀ k, k < 0 → parseFieldDescriptor (TJ3 k).2.2.1 = some (tyJ3 k) := by decide +kernel
abbrev cJ3_checkIndex_8e157 : ByteArray := prog_33_method_11_code
def yJ3_checkIndex_8e157 : MethodName := ⟨RJ3, "checkIndex", "(IILjava/util/function/BiFunction;)I"⟩
def RL : String := "SplitGateLaw"
abbrev cL_level : ByteArray := method_3_code
def yL_level : MethodName := ⟨RL, "level", "(LSplitGate;[J)I"⟩
abbrev cL_column : ByteArray := method_4_code
def yL_column : MethodName := ⟨RL, "column", "(LSplitGate;IIII)I"⟩
abbrev cL_replay : ByteArray := method_5_code
def yL_replay : MethodName := ⟨RL, "replay", "(LSplitGate;I[J)I"⟩
abbrev cL_input : ByteArray := method_6_code
def yL_input : MethodName := ⟨RL, "input", "(LSplitGate;III[J)I"⟩
abbrev cL_result : ByteArray := method_7_code
def yL_result : MethodName := ⟨RL, "result", "(LSplitGate;I[J)I"⟩
abbrev cL_used : ByteArray := method_8_code
def yL_used : MethodName := ⟨RL, "used", "(LSplitGate;I[J)I"⟩
abbrev cL_where : ByteArray := method_9_code
def yL_where : MethodName := ⟨RL, "where", "(LSplitGate;II[J)I"⟩
abbrev cL_category : ByteArray := method_10_code
def yL_category : MethodName := ⟨RL, "category", "(LSplitGate;I[J)I"⟩
abbrev cL_rule : ByteArray := method_11_code
def yL_rule : MethodName := ⟨RL, "rule", "(LSplitGate;IIIII[J)I"⟩
abbrev cL_pass : ByteArray := method_12_code
def yL_pass : MethodName := ⟨RL, "pass", "(LSplitGate;I[J)I"⟩
abbrev cL_submit : ByteArray := method_13_code
def yL_submit : MethodName := ⟨RL, "submit", "(LSplitGate;III[J)I"⟩
abbrev cL_judged : ByteArray := method_14_code
def yL_judged : MethodName := ⟨RL, "judged", "(LSplitGate;I[J)I"⟩
abbrev cL_strike : ByteArray := method_15_code
def yL_strike : MethodName := ⟨RL, "strike", "(LSplitGate;I[J)I"⟩
abbrev cL_best : ByteArray := method_16_code
def yL_best : MethodName := ⟨RL, "best", "(LSplitGate;II[J)I"⟩
abbrev cL_bestAnew : ByteArray := method_17_code
def yL_bestAnew : MethodName := ⟨RL, "bestAnew", "(LSplitGate;II[J)I"⟩
abbrev cL_place : ByteArray := method_18_code
def yL_place : MethodName := ⟨RL, "place", "(LSplitGate;II[J)I"⟩
abbrev cL_at : ByteArray := method_19_code
def yL_at : MethodName := ⟨RL, "at", "(LSplitGate;II[J)I"⟩
abbrev cL_placeWithout : ByteArray := method_20_code
def yL_placeWithout : MethodName := ⟨RL, "placeWithout", "(LSplitGate;I[J)I"⟩
abbrev cL_estimate : ByteArray := method_21_code
def yL_estimate : MethodName := ⟨RL, "estimate", "(LSplitGate;II[J)I"⟩
abbrev cL_offer : ByteArray := method_22_code
def yL_offer : MethodName := ⟨RL, "offer", "(LSplitGate;II[J)I"⟩
abbrev cL_gift : ByteArray := method_23_code
def yL_gift : MethodName := ⟨RL, "gift", "(LSplitGate;II[J)I"⟩
abbrev cL_plan : ByteArray := method_24_code
def yL_plan : MethodName := ⟨RL, "plan", "(LSplitGate;I[J)I"⟩
abbrev cL_law : ByteArray := code
def yL_law : MethodName := ⟨RL, "law", "([I)Z"⟩
abbrev vwCl : List vw_C := [(RJx4a65c, TJx4a65c, 3), (RX0, TX0, 2), (RX1, TX1, 12), (RX2, TX2, 3), (RX3, TX3, 3), (RX4, TX4, 7), (RX5, TX5, 4), (RX6, TX6, 7), (RX7, TX7, 9), (RX8, TX8, 43)]
