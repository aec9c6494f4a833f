
/-! the gate's helpers -/

theorem ti_8 : ∀ w ∈ u_ws RX7 TX7 9, w ∈ sg_T := List.forall_mem_cons.mpr ⟨sg_mem (i := 144) (by decide +kernel) rfl, List.forall_mem_cons.mpr ⟨sg_mem (i := 146) (by decide +kernel) rfl, List.forall_mem_cons.mpr ⟨sg_mem (i := 148) (by decide +kernel) rfl, List.forall_mem_cons.mpr ⟨sg_mem (i := 150) (by decide +kernel) rfl, List.forall_mem_cons.mpr ⟨sg_mem (i := 152) (by decide +kernel) rfl, List.forall_mem_cons.mpr ⟨sg_mem (i := 154) (by decide +kernel) rfl, List.forall_mem_cons.mpr ⟨sg_mem (i := 156) (by decide +kernel) rfl, List.forall_mem_cons.mpr ⟨sg_mem (i := 158) (by decide +kernel) rfl, List.forall_mem_cons.mpr ⟨sg_mem (i := 160) (by decide +kernel) rfl, fun _ h => absurd h List.not_mem_nil⟩⟩⟩⟩⟩⟩⟩⟩⟩
theorem fl_RX7_12 : sg_FL RX7 12 8 0 := ⟨RX7, TX7, 9, "SplitGate", rfl, by decide, ti_8, .inl rfl, .inl (sg_mem (i := 135) (by decide +kernel) rfl)⟩
theorem ml_RX7_46 : sg_ML RX7 46 yJx4a65c_size_8abf5 := .inl (sg_mem (i := 168) (by decide +kernel) rfl)
theorem md_X7_isWithin : sg_MD yX7_isWithin cX7_isWithin 3 (some .boolean) 3 := ⟨sg_mem (i := 326) (by decide +kernel) rfl, sg_mem (i := 26) (by decide +kernel) rfl, ⟨by decide, by decide⟩, by decide +kernel⟩
theorem ml_RX7_68 : sg_ML RX7 68 yX7_isWithin := .inl (sg_mem (i := 324) (by decide +kernel) rfl)
theorem st_X7_isWithin : Cond.static yX7_isWithin ∈ sg_T := sg_mem (i := 325) (by decide +kernel) rfl
theorem ml_RX7_156 : sg_ML RX7 156 yJx4a65c_get_915e3 := .inl (sg_mem (i := 343) (by decide +kernel) rfl)
theorem kl_RX7_57 : Cond.classLink RX7 57 "SplitGate$Level" ∈ sg_T := sg_mem (i := 240) (by decide +kernel) rfl
set_option maxRecDepth 1000000 in
theorem th_RX7_72 : sg_TH RX7 "java/lang/IndexOutOfBoundsException" 72 76 := ⟨by decide +kernel, sg_mem (i := 327) (by decide +kernel) rfl, sg_mem (i := 40) (by decide +kernel) rfl, th_in (by decide +kernel), th_ot (by decide +kernel)⟩
theorem fl_RX7_16 : sg_FL RX7 16 8 1 := ⟨RX7, TX7, 9, "SplitGate", rfl, by decide, ti_8, .inl rfl, .inl (sg_mem (i := 136) (by decide +kernel) rfl)⟩
theorem kl_RX7_93 : Cond.classLink RX7 93 "SplitGate$Replay" ∈ sg_T := sg_mem (i := 358) (by decide +kernel) rfl
theorem fl_RX7_19 : sg_FL RX7 19 8 2 := ⟨RX7, TX7, 9, "SplitGate", rfl, by decide, ti_8, .inl rfl, .inl (sg_mem (i := 137) (by decide +kernel) rfl)⟩
theorem kl_RX7_168 : Cond.classLink RX7 168 "SplitGate$Category" ∈ sg_T := sg_mem (i := 414) (by decide +kernel) rfl
theorem fl_RX7_22 : sg_FL RX7 22 8 3 := ⟨RX7, TX7, 9, "SplitGate", rfl, by decide, ti_8, .inl rfl, .inl (sg_mem (i := 138) (by decide +kernel) rfl)⟩
theorem kl_RX7_204 : Cond.classLink RX7 204 "SplitGate$Run" ∈ sg_T := sg_mem (i := 440) (by decide +kernel) rfl
set_option maxRecDepth 1000000 in
theorem th_RX7_149 : sg_TH RX7 "java/lang/IllegalArgumentException" 149 153 := ⟨by decide +kernel, sg_mem (i := 480) (by decide +kernel) rfl, sg_mem (i := 43) (by decide +kernel) rfl, th_in (by decide +kernel), th_ot (by decide +kernel)⟩
set_option maxHeartbeats 4000000 in
set_option maxRecDepth 100000 in
theorem c_X7_levelOf (l : Launch) (g : sg_G) (C : Nat → Option va_E) (ad : Ad) (own : Nat → Option (Nat × Nat)) (gh : Gh) (σ : Mem) (x : Int32) (hQ : Pic g ad own gh σ C) (hW : WX σ) (hst : l.stackTraces = false) : sg_Met l yX7_levelOf cX7_levelOf 2 (some (.object "SplitGate$Level")) 6 82 1 6 g [.ref (ad 0 0), .int x] C (fun v C' => v = some (.ref (ad 3 (iN x))) ∧ rIn σ 2 x ∧ C' = C) (fun E C' => E = "java/lang/IndexOutOfBoundsException" ∧ ¬ rIn σ 2 x ∧ C' = C) := by
  refine sg_ofW (by decide) rfl ?_ (Nat.le_of_ble_eq_true rfl)
  intro p e s m below meth c hc hlk hrt hin2 htb
  have hc : sg_Cx p s m _ c cX7_levelOf 2 RX7 g := hc
  show sg_W p l e _ s m _ below meth c 2 g 0 0 _ C 0 [(0, .ref (ad 0 0)), (1, .int x)] []
  refine sw_iload_n (pc := 0) hc dX7_levelOf_0 rfl 1 rfl ?_
  refine sw_iconst (pc := 1) (v := 0) hc dX7_levelOf_1 (by decide) ?_
  refine sw_aload_n (pc := 2) hc dX7_levelOf_2 rfl 0 rfl ?_
  refine sw_get (pc := 3) (v := .ref (ad 1 0)) hc fl_RX7_12 (hQ.at ct0) rfl dX7_levelOf_3 ?_
  refine sw_callV (pc := 6) (rest := [.int 0, .int x]) hc (c_Jx4a65c_size_8abf5 l g C (ad 1 0) (nI (iN (σ 2 0))) (if iN (σ 2 0) = 0 then g.2.2.2 0 else ad 2 0) (nI (iN (σ 2 0))) (hQ.at (ct1 (k := 0) (by decide)))) md_Jx4a65c_size_8abf5 ml_RX7_46 im_Jx4a65c_size_8abf5 sl_Jx4a65c_size_8abf5 (hQ.at (ct1 (k := 0) (by decide))) rfl rfl rfl (Nat.le_of_ble_eq_true rfl) dX7_levelOf_6 ⟨Nat.le_of_ble_eq_true rfl, Nat.le_of_ble_eq_true rfl, Nat.le_of_ble_eq_true rfl, Nat.le_of_ble_eq_true rfl⟩ (fun v C' hP => ?_) (fun _ _ h => h.elim)
  obtain ⟨rfl, hCC⟩ := hP
  refine sw_eq (C' := C) hCC ?_
  refine sw_st (st' := [.int (nI (iN (σ 2 0))), .int 0, .int x]) rfl ?_
  refine sw_st (st' := [.int (σ 2 0), .int 0, .int x]) (congrArg (fun z => ([.int z, .int 0, .int x] : List Value)) (hW.nL.symm : (nI (iN (σ 2 0))) = σ 2 0)) ?_
  refine sw_iconst (pc := 9) (v := 1) hc dX7_levelOf_9 (by decide) ?_
  refine sw_isub (pc := 10) hc dX7_levelOf_10 ?_
  refine sw_callS (pc := 11) (rest := []) hc (c_X7_isWithin l g C x 0 ((σ 2 0) - 1) ) md_X7_isWithin ml_RX7_68 st_X7_isWithin rfl rfl (Nat.le_of_ble_eq_true rfl) dX7_levelOf_11 ⟨Nat.le_of_ble_eq_true rfl, Nat.le_of_ble_eq_true rfl, Nat.le_of_ble_eq_true rfl, Nat.le_of_ble_eq_true rfl⟩ (fun v C' hP => ?_) (fun _ _ h => h.elim)
  obtain ⟨rfl, hCC⟩ := hP
  refine sw_eq (C' := C) hCC ?_
  refine sw_st (st' := [.int (bI (0 ≤ x ∧ x ≤ ((σ 2 0) - 1)))]) rfl ?_
  refine sw_if_ne (pc := 14) (tgt := 27) hc dX7_levelOf_14 (by decide) (fun c_1 => ?_) (fun c_1 => ?_)
  ·
    have p_2 : 0 ≤ x ∧ x ≤ ((σ 2 0) - 1) := bI_n c_1
    obtain ⟨hx, hlt⟩ := rIn_x hW.1.1 (by decide) p_2
    refine sw_aload_n (pc := 27) hc dX7_levelOf_27 rfl 0 rfl ?_
    refine sw_get (pc := 28) (v := .ref (ad 1 0)) hc fl_RX7_12 (hQ.at ct0) rfl dX7_levelOf_28 ?_
    refine sw_iload_n (pc := 31) hc dX7_levelOf_31 rfl 1 rfl ?_
    refine sw_st (st' := [.int (nI (iN x)), .ref (ad 1 0)]) (congrArg (fun z => ([.int z, .ref (ad 1 0)] : List Value)) hx) ?_
    refine sw_callV (pc := 32) (rest := []) hc (c_get1 (k := 0) l hQ (by decide) (i := iN x) hlt hW.b0) md_Jx4a65c_get_915e3 ml_RX7_156 im_Jx4a65c_get_915e3 sl_Jx4a65c_get_915e3 (hQ.at (ct1 (k := 0) (by decide))) rfl rfl rfl (Nat.le_of_ble_eq_true rfl) dX7_levelOf_32 ⟨Nat.le_of_ble_eq_true rfl, Nat.le_of_ble_eq_true rfl, Nat.le_of_ble_eq_true rfl, Nat.le_of_ble_eq_true rfl⟩ (fun v C' hP => ?_) (fun _ _ h => h.elim)
    obtain ⟨rfl, hCC⟩ := hP
    refine sw_eq (C' := C) hCC ?_
    refine sw_st (st' := [.ref (ad 3 (iN x))]) rfl ?_
    refine sw_cast (pc := 35) hc kl_RX7_57 (hQ.at (ct3 (k := (iN x)) hlt)) rfl dX7_levelOf_35 ?_
    exact sw_aret (pc := 38) hc hlk hrt (.inl ⟨_, rfl⟩) (.inr ⟨_, rfl⟩) ⟨rfl, p_2, rfl⟩ (Nat.le_of_ble_eq_true rfl) (Nat.le_of_ble_eq_true rfl) dX7_levelOf_38
  ·
    have p_3 : ¬ (0 ≤ x ∧ x ≤ ((σ 2 0) - 1)) := bI_0 c_1
    exact sw_throw (pc := 17) hc hst th_RX7_72 (text := "no such level") (by decide +kernel) dX7_levelOf_17 dX7_levelOf_20 dX7_levelOf_21 dX7_levelOf_23 dX7_levelOf_26 htb hlk ⟨Nat.le_of_ble_eq_true rfl, Nat.le_of_ble_eq_true rfl, Nat.le_of_ble_eq_true rfl, Nat.le_of_ble_eq_true rfl⟩ ⟨rfl, p_3, rfl⟩ (Nat.le_of_ble_eq_true rfl) (Nat.le_of_ble_eq_true rfl)

set_option maxHeartbeats 4000000 in
set_option maxRecDepth 100000 in
theorem c_X7_replayOf (l : Launch) (g : sg_G) (C : Nat → Option va_E) (ad : Ad) (own : Nat → Option (Nat × Nat)) (gh : Gh) (σ : Mem) (x : Int32) (hQ : Pic g ad own gh σ C) (hW : WX σ) (hst : l.stackTraces = false) : sg_Met l yX7_replayOf cX7_replayOf 2 (some (.object "SplitGate$Replay")) 6 82 1 6 g [.ref (ad 0 0), .int x] C (fun v C' => v = some (.ref (ad 7 (iN x))) ∧ rIn σ 9 x ∧ C' = C) (fun E C' => E = "java/lang/IndexOutOfBoundsException" ∧ ¬ rIn σ 9 x ∧ C' = C) := by
  refine sg_ofW (by decide) rfl ?_ (Nat.le_of_ble_eq_true rfl)
  intro p e s m below meth c hc hlk hrt hin2 htb
  have hc : sg_Cx p s m _ c cX7_replayOf 2 RX7 g := hc
  show sg_W p l e _ s m _ below meth c 2 g 0 0 _ C 0 [(0, .ref (ad 0 0)), (1, .int x)] []
  refine sw_iload_n (pc := 0) hc dX7_replayOf_0 rfl 1 rfl ?_
  refine sw_iconst (pc := 1) (v := 0) hc dX7_replayOf_1 (by decide) ?_
  refine sw_aload_n (pc := 2) hc dX7_replayOf_2 rfl 0 rfl ?_
  refine sw_get (pc := 3) (v := .ref (ad 1 1)) hc fl_RX7_16 (hQ.at ct0) rfl dX7_replayOf_3 ?_
  refine sw_callV (pc := 6) (rest := [.int 0, .int x]) hc (c_Jx4a65c_size_8abf5 l g C (ad 1 1) (nI (iN (σ 9 0))) (if iN (σ 9 0) = 0 then g.2.2.2 0 else ad 2 1) (nI (iN (σ 9 0))) (hQ.at (ct1 (k := 1) (by decide)))) md_Jx4a65c_size_8abf5 ml_RX7_46 im_Jx4a65c_size_8abf5 sl_Jx4a65c_size_8abf5 (hQ.at (ct1 (k := 1) (by decide))) rfl rfl rfl (Nat.le_of_ble_eq_true rfl) dX7_replayOf_6 ⟨Nat.le_of_ble_eq_true rfl, Nat.le_of_ble_eq_true rfl, Nat.le_of_ble_eq_true rfl, Nat.le_of_ble_eq_true rfl⟩ (fun v C' hP => ?_) (fun _ _ h => h.elim)
  obtain ⟨rfl, hCC⟩ := hP
  refine sw_eq (C' := C) hCC ?_
  refine sw_st (st' := [.int (nI (iN (σ 9 0))), .int 0, .int x]) rfl ?_
  refine sw_st (st' := [.int (σ 9 0), .int 0, .int x]) (congrArg (fun z => ([.int z, .int 0, .int x] : List Value)) (hW.nR.symm : (nI (iN (σ 9 0))) = σ 9 0)) ?_
  refine sw_iconst (pc := 9) (v := 1) hc dX7_replayOf_9 (by decide) ?_
  refine sw_isub (pc := 10) hc dX7_replayOf_10 ?_
  refine sw_callS (pc := 11) (rest := []) hc (c_X7_isWithin l g C x 0 ((σ 9 0) - 1) ) md_X7_isWithin ml_RX7_68 st_X7_isWithin rfl rfl (Nat.le_of_ble_eq_true rfl) dX7_replayOf_11 ⟨Nat.le_of_ble_eq_true rfl, Nat.le_of_ble_eq_true rfl, Nat.le_of_ble_eq_true rfl, Nat.le_of_ble_eq_true rfl⟩ (fun v C' hP => ?_) (fun _ _ h => h.elim)
  obtain ⟨rfl, hCC⟩ := hP
  refine sw_eq (C' := C) hCC ?_
  refine sw_st (st' := [.int (bI (0 ≤ x ∧ x ≤ ((σ 9 0) - 1)))]) rfl ?_
  refine sw_if_ne (pc := 14) (tgt := 27) hc dX7_replayOf_14 (by decide) (fun c_1 => ?_) (fun c_1 => ?_)
  ·
    have p_2 : 0 ≤ x ∧ x ≤ ((σ 9 0) - 1) := bI_n c_1
    obtain ⟨hx, hlt⟩ := rIn_x hW.1.2.1 (by decide) p_2
    refine sw_aload_n (pc := 27) hc dX7_replayOf_27 rfl 0 rfl ?_
    refine sw_get (pc := 28) (v := .ref (ad 1 1)) hc fl_RX7_16 (hQ.at ct0) rfl dX7_replayOf_28 ?_
    refine sw_iload_n (pc := 31) hc dX7_replayOf_31 rfl 1 rfl ?_
    refine sw_st (st' := [.int (nI (iN x)), .ref (ad 1 1)]) (congrArg (fun z => ([.int z, .ref (ad 1 1)] : List Value)) hx) ?_
    refine sw_callV (pc := 32) (rest := []) hc (c_get1 (k := 1) l hQ (by decide) (i := iN x) hlt hW.b1) md_Jx4a65c_get_915e3 ml_RX7_156 im_Jx4a65c_get_915e3 sl_Jx4a65c_get_915e3 (hQ.at (ct1 (k := 1) (by decide))) rfl rfl rfl (Nat.le_of_ble_eq_true rfl) dX7_replayOf_32 ⟨Nat.le_of_ble_eq_true rfl, Nat.le_of_ble_eq_true rfl, Nat.le_of_ble_eq_true rfl, Nat.le_of_ble_eq_true rfl⟩ (fun v C' hP => ?_) (fun _ _ h => h.elim)
    obtain ⟨rfl, hCC⟩ := hP
    refine sw_eq (C' := C) hCC ?_
    refine sw_st (st' := [.ref (ad 7 (iN x))]) rfl ?_
    refine sw_cast (pc := 35) hc kl_RX7_93 (hQ.at (ct7 (k := (iN x)) hlt)) rfl dX7_replayOf_35 ?_
    exact sw_aret (pc := 38) hc hlk hrt (.inl ⟨_, rfl⟩) (.inr ⟨_, rfl⟩) ⟨rfl, p_2, rfl⟩ (Nat.le_of_ble_eq_true rfl) (Nat.le_of_ble_eq_true rfl) dX7_replayOf_38
  ·
    have p_3 : ¬ (0 ≤ x ∧ x ≤ ((σ 9 0) - 1)) := bI_0 c_1
    exact sw_throw (pc := 17) hc hst th_RX7_72 (text := "no such replay") (by decide +kernel) dX7_replayOf_17 dX7_replayOf_20 dX7_replayOf_21 dX7_replayOf_23 dX7_replayOf_26 htb hlk ⟨Nat.le_of_ble_eq_true rfl, Nat.le_of_ble_eq_true rfl, Nat.le_of_ble_eq_true rfl, Nat.le_of_ble_eq_true rfl⟩ ⟨rfl, p_3, rfl⟩ (Nat.le_of_ble_eq_true rfl) (Nat.le_of_ble_eq_true rfl)

set_option maxHeartbeats 4000000 in
set_option maxRecDepth 100000 in
theorem c_X7_categoryOf (l : Launch) (g : sg_G) (C : Nat → Option va_E) (ad : Ad) (own : Nat → Option (Nat × Nat)) (gh : Gh) (σ : Mem) (x : Int32) (hQ : Pic g ad own gh σ C) (hW : WX σ) (hst : l.stackTraces = false) : sg_Met l yX7_categoryOf cX7_categoryOf 2 (some (.object "SplitGate$Category")) 6 82 1 6 g [.ref (ad 0 0), .int x] C (fun v C' => v = some (.ref (ad 11 (iN x))) ∧ rIn σ 16 x ∧ C' = C) (fun E C' => E = "java/lang/IndexOutOfBoundsException" ∧ ¬ rIn σ 16 x ∧ C' = C) := by
  refine sg_ofW (by decide) rfl ?_ (Nat.le_of_ble_eq_true rfl)
  intro p e s m below meth c hc hlk hrt hin2 htb
  have hc : sg_Cx p s m _ c cX7_categoryOf 2 RX7 g := hc
  show sg_W p l e _ s m _ below meth c 2 g 0 0 _ C 0 [(0, .ref (ad 0 0)), (1, .int x)] []
  refine sw_iload_n (pc := 0) hc dX7_categoryOf_0 rfl 1 rfl ?_
  refine sw_iconst (pc := 1) (v := 0) hc dX7_categoryOf_1 (by decide) ?_
  refine sw_aload_n (pc := 2) hc dX7_categoryOf_2 rfl 0 rfl ?_
  refine sw_get (pc := 3) (v := .ref (ad 1 2)) hc fl_RX7_19 (hQ.at ct0) rfl dX7_categoryOf_3 ?_
  refine sw_callV (pc := 6) (rest := [.int 0, .int x]) hc (c_Jx4a65c_size_8abf5 l g C (ad 1 2) (nI (iN (σ 16 0))) (if iN (σ 16 0) = 0 then g.2.2.2 0 else ad 2 2) (nI (iN (σ 16 0))) (hQ.at (ct1 (k := 2) (by decide)))) md_Jx4a65c_size_8abf5 ml_RX7_46 im_Jx4a65c_size_8abf5 sl_Jx4a65c_size_8abf5 (hQ.at (ct1 (k := 2) (by decide))) rfl rfl rfl (Nat.le_of_ble_eq_true rfl) dX7_categoryOf_6 ⟨Nat.le_of_ble_eq_true rfl, Nat.le_of_ble_eq_true rfl, Nat.le_of_ble_eq_true rfl, Nat.le_of_ble_eq_true rfl⟩ (fun v C' hP => ?_) (fun _ _ h => h.elim)
  obtain ⟨rfl, hCC⟩ := hP
  refine sw_eq (C' := C) hCC ?_
  refine sw_st (st' := [.int (nI (iN (σ 16 0))), .int 0, .int x]) rfl ?_
  refine sw_st (st' := [.int (σ 16 0), .int 0, .int x]) (congrArg (fun z => ([.int z, .int 0, .int x] : List Value)) (hW.nK.symm : (nI (iN (σ 16 0))) = σ 16 0)) ?_
  refine sw_iconst (pc := 9) (v := 1) hc dX7_categoryOf_9 (by decide) ?_
  refine sw_isub (pc := 10) hc dX7_categoryOf_10 ?_
  refine sw_callS (pc := 11) (rest := []) hc (c_X7_isWithin l g C x 0 ((σ 16 0) - 1) ) md_X7_isWithin ml_RX7_68 st_X7_isWithin rfl rfl (Nat.le_of_ble_eq_true rfl) dX7_categoryOf_11 ⟨Nat.le_of_ble_eq_true rfl, Nat.le_of_ble_eq_true rfl, Nat.le_of_ble_eq_true rfl, Nat.le_of_ble_eq_true rfl⟩ (fun v C' hP => ?_) (fun _ _ h => h.elim)
  obtain ⟨rfl, hCC⟩ := hP
  refine sw_eq (C' := C) hCC ?_
  refine sw_st (st' := [.int (bI (0 ≤ x ∧ x ≤ ((σ 16 0) - 1)))]) rfl ?_
  refine sw_if_ne (pc := 14) (tgt := 27) hc dX7_categoryOf_14 (by decide) (fun c_1 => ?_) (fun c_1 => ?_)
  ·
    have p_2 : 0 ≤ x ∧ x ≤ ((σ 16 0) - 1) := bI_n c_1
    obtain ⟨hx, hlt⟩ := rIn_x hW.1.2.2.1 (by decide) p_2
    refine sw_aload_n (pc := 27) hc dX7_categoryOf_27 rfl 0 rfl ?_
    refine sw_get (pc := 28) (v := .ref (ad 1 2)) hc fl_RX7_19 (hQ.at ct0) rfl dX7_categoryOf_28 ?_
    refine sw_iload_n (pc := 31) hc dX7_categoryOf_31 rfl 1 rfl ?_
    refine sw_st (st' := [.int (nI (iN x)), .ref (ad 1 2)]) (congrArg (fun z => ([.int z, .ref (ad 1 2)] : List Value)) hx) ?_
    refine sw_callV (pc := 32) (rest := []) hc (c_get1 (k := 2) l hQ (by decide) (i := iN x) hlt hW.b2) md_Jx4a65c_get_915e3 ml_RX7_156 im_Jx4a65c_get_915e3 sl_Jx4a65c_get_915e3 (hQ.at (ct1 (k := 2) (by decide))) rfl rfl rfl (Nat.le_of_ble_eq_true rfl) dX7_categoryOf_32 ⟨Nat.le_of_ble_eq_true rfl, Nat.le_of_ble_eq_true rfl, Nat.le_of_ble_eq_true rfl, Nat.le_of_ble_eq_true rfl⟩ (fun v C' hP => ?_) (fun _ _ h => h.elim)
    obtain ⟨rfl, hCC⟩ := hP
    refine sw_eq (C' := C) hCC ?_
    refine sw_st (st' := [.ref (ad 11 (iN x))]) rfl ?_
    refine sw_cast (pc := 35) hc kl_RX7_168 (hQ.at (ct11 (k := (iN x)) hlt)) rfl dX7_categoryOf_35 ?_
    exact sw_aret (pc := 38) hc hlk hrt (.inl ⟨_, rfl⟩) (.inr ⟨_, rfl⟩) ⟨rfl, p_2, rfl⟩ (Nat.le_of_ble_eq_true rfl) (Nat.le_of_ble_eq_true rfl) dX7_categoryOf_38
  ·
    have p_3 : ¬ (0 ≤ x ∧ x ≤ ((σ 16 0) - 1)) := bI_0 c_1
    exact sw_throw (pc := 17) hc hst th_RX7_72 (text := "no such category") (by decide +kernel) dX7_categoryOf_17 dX7_categoryOf_20 dX7_categoryOf_21 dX7_categoryOf_23 dX7_categoryOf_26 htb hlk ⟨Nat.le_of_ble_eq_true rfl, Nat.le_of_ble_eq_true rfl, Nat.le_of_ble_eq_true rfl, Nat.le_of_ble_eq_true rfl⟩ ⟨rfl, p_3, rfl⟩ (Nat.le_of_ble_eq_true rfl) (Nat.le_of_ble_eq_true rfl)

set_option maxHeartbeats 4000000 in
set_option maxRecDepth 100000 in
theorem c_X7_runOf (l : Launch) (g : sg_G) (C : Nat → Option va_E) (ad : Ad) (own : Nat → Option (Nat × Nat)) (gh : Gh) (σ : Mem) (x : Int32) (hQ : Pic g ad own gh σ C) (hW : WX σ) (hst : l.stackTraces = false) : sg_Met l yX7_runOf cX7_runOf 2 (some (.object "SplitGate$Run")) 6 82 1 6 g [.ref (ad 0 0), .int x] C (fun v C' => v = some (.ref (ad 15 (iN x))) ∧ rIn σ 26 x ∧ C' = C) (fun E C' => E = "java/lang/IndexOutOfBoundsException" ∧ ¬ rIn σ 26 x ∧ C' = C) := by
  refine sg_ofW (by decide) rfl ?_ (Nat.le_of_ble_eq_true rfl)
  intro p e s m below meth c hc hlk hrt hin2 htb
  have hc : sg_Cx p s m _ c cX7_runOf 2 RX7 g := hc
  show sg_W p l e _ s m _ below meth c 2 g 0 0 _ C 0 [(0, .ref (ad 0 0)), (1, .int x)] []
  refine sw_iload_n (pc := 0) hc dX7_runOf_0 rfl 1 rfl ?_
  refine sw_iconst (pc := 1) (v := 0) hc dX7_runOf_1 (by decide) ?_
  refine sw_aload_n (pc := 2) hc dX7_runOf_2 rfl 0 rfl ?_
  refine sw_get (pc := 3) (v := .ref (ad 1 3)) hc fl_RX7_22 (hQ.at ct0) rfl dX7_runOf_3 ?_
  refine sw_callV (pc := 6) (rest := [.int 0, .int x]) hc (c_Jx4a65c_size_8abf5 l g C (ad 1 3) (nI (iN (σ 26 0))) (if iN (σ 26 0) = 0 then g.2.2.2 0 else ad 2 3) (nI (iN (σ 26 0))) (hQ.at (ct1 (k := 3) (by decide)))) md_Jx4a65c_size_8abf5 ml_RX7_46 im_Jx4a65c_size_8abf5 sl_Jx4a65c_size_8abf5 (hQ.at (ct1 (k := 3) (by decide))) rfl rfl rfl (Nat.le_of_ble_eq_true rfl) dX7_runOf_6 ⟨Nat.le_of_ble_eq_true rfl, Nat.le_of_ble_eq_true rfl, Nat.le_of_ble_eq_true rfl, Nat.le_of_ble_eq_true rfl⟩ (fun v C' hP => ?_) (fun _ _ h => h.elim)
  obtain ⟨rfl, hCC⟩ := hP
  refine sw_eq (C' := C) hCC ?_
  refine sw_st (st' := [.int (nI (iN (σ 26 0))), .int 0, .int x]) rfl ?_
  refine sw_st (st' := [.int (σ 26 0), .int 0, .int x]) (congrArg (fun z => ([.int z, .int 0, .int x] : List Value)) (hW.nN.symm : (nI (iN (σ 26 0))) = σ 26 0)) ?_
  refine sw_iconst (pc := 9) (v := 1) hc dX7_runOf_9 (by decide) ?_
  refine sw_isub (pc := 10) hc dX7_runOf_10 ?_
  refine sw_callS (pc := 11) (rest := []) hc (c_X7_isWithin l g C x 0 ((σ 26 0) - 1) ) md_X7_isWithin ml_RX7_68 st_X7_isWithin rfl rfl (Nat.le_of_ble_eq_true rfl) dX7_runOf_11 ⟨Nat.le_of_ble_eq_true rfl, Nat.le_of_ble_eq_true rfl, Nat.le_of_ble_eq_true rfl, Nat.le_of_ble_eq_true rfl⟩ (fun v C' hP => ?_) (fun _ _ h => h.elim)
  obtain ⟨rfl, hCC⟩ := hP
  refine sw_eq (C' := C) hCC ?_
  refine sw_st (st' := [.int (bI (0 ≤ x ∧ x ≤ ((σ 26 0) - 1)))]) rfl ?_
  refine sw_if_ne (pc := 14) (tgt := 27) hc dX7_runOf_14 (by decide) (fun c_1 => ?_) (fun c_1 => ?_)
  ·
    have p_2 : 0 ≤ x ∧ x ≤ ((σ 26 0) - 1) := bI_n c_1
    obtain ⟨hx, hlt⟩ := rIn_x hW.1.2.2.2.1 (by decide) p_2
    refine sw_aload_n (pc := 27) hc dX7_runOf_27 rfl 0 rfl ?_
    refine sw_get (pc := 28) (v := .ref (ad 1 3)) hc fl_RX7_22 (hQ.at ct0) rfl dX7_runOf_28 ?_
    refine sw_iload_n (pc := 31) hc dX7_runOf_31 rfl 1 rfl ?_
    refine sw_st (st' := [.int (nI (iN x)), .ref (ad 1 3)]) (congrArg (fun z => ([.int z, .ref (ad 1 3)] : List Value)) hx) ?_
    refine sw_callV (pc := 32) (rest := []) hc (c_get1 (k := 3) l hQ (by decide) (i := iN x) hlt hW.b3) md_Jx4a65c_get_915e3 ml_RX7_156 im_Jx4a65c_get_915e3 sl_Jx4a65c_get_915e3 (hQ.at (ct1 (k := 3) (by decide))) rfl rfl rfl (Nat.le_of_ble_eq_true rfl) dX7_runOf_32 ⟨Nat.le_of_ble_eq_true rfl, Nat.le_of_ble_eq_true rfl, Nat.le_of_ble_eq_true rfl, Nat.le_of_ble_eq_true rfl⟩ (fun v C' hP => ?_) (fun _ _ h => h.elim)
    obtain ⟨rfl, hCC⟩ := hP
    refine sw_eq (C' := C) hCC ?_
    refine sw_st (st' := [.ref (ad 15 (iN x))]) rfl ?_
    refine sw_cast (pc := 35) hc kl_RX7_204 (hQ.at (ct15 (k := (iN x)) hlt)) rfl dX7_runOf_35 ?_
    exact sw_aret (pc := 38) hc hlk hrt (.inl ⟨_, rfl⟩) (.inr ⟨_, rfl⟩) ⟨rfl, p_2, rfl⟩ (Nat.le_of_ble_eq_true rfl) (Nat.le_of_ble_eq_true rfl) dX7_runOf_38
  ·
    have p_3 : ¬ (0 ≤ x ∧ x ≤ ((σ 26 0) - 1)) := bI_0 c_1
    exact sw_throw (pc := 17) hc hst th_RX7_72 (text := "no such run") (by decide +kernel) dX7_runOf_17 dX7_runOf_20 dX7_runOf_21 dX7_runOf_23 dX7_runOf_26 htb hlk ⟨Nat.le_of_ble_eq_true rfl, Nat.le_of_ble_eq_true rfl, Nat.le_of_ble_eq_true rfl, Nat.le_of_ble_eq_true rfl⟩ ⟨rfl, p_3, rfl⟩ (Nat.le_of_ble_eq_true rfl) (Nat.le_of_ble_eq_true rfl)

set_option maxHeartbeats 4000000 in
set_option maxRecDepth 100000 in
theorem c_X7_requireArgument (l : Launch) (g : sg_G) (C : Nat → Option va_E) (w : Int32) (hst : l.stackTraces = false) : sg_Met l yX7_requireArgument cX7_requireArgument 1 none 6 82 1 6 g [.int w] C (fun v C' => v = none ∧ ¬ w = 0 ∧ C' = C) (fun E C' => E = "java/lang/IllegalArgumentException" ∧ w = 0 ∧ C' = C) := by
  refine sg_ofW (by decide) rfl ?_ (Nat.le_of_ble_eq_true rfl)
  intro p e s m below meth c hc hlk hrt hin2 htb
  have hc : sg_Cx p s m _ c cX7_requireArgument 1 RX7 g := hc
  show sg_W p l e _ s m _ below meth c 1 g 0 0 _ C 0 [(0, .int w)] []
  refine sw_iload_n (pc := 0) hc dX7_requireArgument_0 rfl 0 rfl ?_
  refine sw_if_ne (pc := 1) (tgt := 14) hc dX7_requireArgument_1 (by decide) (fun c_1 => ?_) (fun c_1 => ?_)
  ·
    exact sw_vret (pc := 14) hc hlk hrt ⟨rfl, c_1, rfl⟩ (Nat.le_of_ble_eq_true rfl) (Nat.le_of_ble_eq_true rfl) dX7_requireArgument_14
  ·
    exact sw_throw (pc := 4) hc hst th_RX7_149 (text := "out of range") (by decide +kernel) dX7_requireArgument_4 dX7_requireArgument_7 dX7_requireArgument_8 dX7_requireArgument_10 dX7_requireArgument_13 htb hlk ⟨Nat.le_of_ble_eq_true rfl, Nat.le_of_ble_eq_true rfl, Nat.le_of_ble_eq_true rfl, Nat.le_of_ble_eq_true rfl⟩ ⟨rfl, c_1, rfl⟩ (Nat.le_of_ble_eq_true rfl) (Nat.le_of_ble_eq_true rfl)

set_option maxHeartbeats 4000000 in
set_option maxRecDepth 100000 in
theorem c_X7_requireRunner (l : Launch) (g : sg_G) (C : Nat → Option va_E) (x : Int32) (hst : l.stackTraces = false) : sg_Met l yX7_requireRunner cX7_requireRunner 1 none 6 82 1 6 g [.int x] C (fun v C' => v = none ∧ (0 ≤ x ∧ x ≤ 7) ∧ C' = C) (fun E C' => E = "java/lang/IndexOutOfBoundsException" ∧ ¬ (0 ≤ x ∧ x ≤ 7) ∧ C' = C) := by
  refine sg_ofW (by decide) rfl ?_ (Nat.le_of_ble_eq_true rfl)
  intro p e s m below meth c hc hlk hrt hin2 htb
  have hc : sg_Cx p s m _ c cX7_requireRunner 1 RX7 g := hc
  show sg_W p l e _ s m _ below meth c 1 g 0 0 _ C 0 [(0, .int x)] []
  refine sw_iload_n (pc := 0) hc dX7_requireRunner_0 rfl 0 rfl ?_
  refine sw_iconst (pc := 1) (v := 0) hc dX7_requireRunner_1 (by decide) ?_
  refine sw_bipush (pc := 2) (v := 7) hc dX7_requireRunner_2 (by decide) ?_
  refine sw_callS (pc := 4) (rest := []) hc (c_X7_isWithin l g C x 0 7 ) md_X7_isWithin ml_RX7_68 st_X7_isWithin rfl rfl (Nat.le_of_ble_eq_true rfl) dX7_requireRunner_4 ⟨Nat.le_of_ble_eq_true rfl, Nat.le_of_ble_eq_true rfl, Nat.le_of_ble_eq_true rfl, Nat.le_of_ble_eq_true rfl⟩ (fun v C' hP => ?_) (fun _ _ h => h.elim)
  obtain ⟨rfl, hCC⟩ := hP
  refine sw_eq (C' := C) hCC ?_
  refine sw_st (st' := [.int (bI (0 ≤ x ∧ x ≤ 7))]) rfl ?_
  refine sw_if_ne (pc := 7) (tgt := 20) hc dX7_requireRunner_7 (by decide) (fun c_1 => ?_) (fun c_1 => ?_)
  ·
    have p_2 : 0 ≤ x ∧ x ≤ 7 := bI_n c_1
    exact sw_vret (pc := 20) hc hlk hrt ⟨rfl, p_2, rfl⟩ (Nat.le_of_ble_eq_true rfl) (Nat.le_of_ble_eq_true rfl) dX7_requireRunner_20
  ·
    have p_3 : ¬ (0 ≤ x ∧ x ≤ 7) := bI_0 c_1
    exact sw_throw (pc := 10) hc hst th_RX7_72 (text := "no such runner") (by decide +kernel) dX7_requireRunner_10 dX7_requireRunner_13 dX7_requireRunner_14 dX7_requireRunner_16 dX7_requireRunner_19 htb hlk ⟨Nat.le_of_ble_eq_true rfl, Nat.le_of_ble_eq_true rfl, Nat.le_of_ble_eq_true rfl, Nat.le_of_ble_eq_true rfl⟩ ⟨rfl, p_3, rfl⟩ (Nat.le_of_ble_eq_true rfl) (Nat.le_of_ble_eq_true rfl)
