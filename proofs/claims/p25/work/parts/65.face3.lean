
/-! the face: column, input -/
theorem rng_y {y : Int32} {lo : Int32} {n : Nat} (h0 : 0 ≤ lo) (hn : n < 100000) (h : lo ≤ y ∧ y ≤ nI n) : y = nI (iN y) ∧ iN y ≤ n := by
  obtain ⟨j, hj, rfl⟩ := nI_of (Int32.not_lt.mpr (Int32.le_trans h0 h.1))
  have := (nI_leI (a := j) (b := n) hj (by omega)).mp h.2
  rw [show iN (nI j) = j from nI_clamp hj]
  exact ⟨rfl, this⟩
theorem in_full {σ : Mem} {r : Nat} {t : Int32} (hW : WX σ) (h : ¬ (σ 4 r < 20 ∧ σ 5 r + t ≤ 500)) : σ 4 r = 20 ∨ 500 < σ 5 r + t := by
  by_cases q : σ 4 r < 20
  · exact .inr (Int32.not_le.mp (fun z => h ⟨q, z⟩))
  · have h4 := hW.1.2.2.2.2.2.2.1 r
    rw [h4.1] at q ⊢
    have h5 : ¬ iN (σ 4 r) < 20 := fun z => q ((nI_ltI (b := 20) (by omega) (by decide)).mpr z)
    have h6 := h4.2
    exact .inl (congrArg nI (show iN (σ 4 r) = 20 by omega))
theorem in_ok {σ : Mem} {r : Nat} {t : Int32} (hW : WX σ) (ht : 1 ≤ t ∧ t ≤ 100) (h : σ 4 r < 20 ∧ σ 5 r + t ≤ 500) : iN (σ 4 r) < 20 ∧ (t = nI (iN t) ∧ iN t ≤ 100) ∧ rLen σ r (iN (σ 4 r)) + iN t ≤ 500 := by
  have h4 := hW.1.2.2.2.2.2.2.1 r
  have a1 := h.1
  rw [h4.1] at a1
  have a2 := rng_y (n := 100) (show (0 : Int32) ≤ 1 by decide) (by decide) ht
  have h6 := h4.2
  have h5 := hW.2.2.2.2.2.1 r
  have a3 := h.2
  rw [h5.1, a2.1, nI_add] at a3
  exact ⟨(nI_ltI (b := 20) (by omega) (by decide)).mp a1, a2, (nI_leI (b := 500) (by omega) (by decide)).mp a3⟩
theorem in_no20 {σ : Mem} {r : Nat} {t : Int32} (h : σ 4 r < 20 ∧ σ 5 r + t ≤ 500) (h6 : σ 6 r = 0) : ¬ (σ 6 r = 1 ∨ σ 4 r = 20 ∨ 500 < σ 5 r + t) := by
  rintro (q | q | q)
  · rw [h6] at q
    exact absurd q (by decide)
  · rw [q] at h
    exact absurd h.1 (by decide)
  · exact absurd h.2 (Int32.not_le.mpr q)

theorem md_X7_levelOf : sg_MD yX7_levelOf cX7_levelOf 2 (some (.object "SplitGate$Level")) 1 := ⟨sg_mem (i := 323) (by decide +kernel) rfl, sg_mem (i := 26) (by decide +kernel) rfl, ⟨by decide, by decide⟩, by decide +kernel⟩
theorem ml_RX7_64 : sg_ML RX7 64 yX7_levelOf := .inl (sg_mem (i := 320) (by decide +kernel) rfl)
theorem im_X7_levelOf : Cond.instanceMethod yX7_levelOf ∈ sg_T := sg_mem (i := 322) (by decide +kernel) rfl
theorem sl_X7_levelOf : Cond.selects yX7_levelOf.cls yX7_levelOf yX7_levelOf ∈ sg_T := sg_mem (i := 4) (by decide +kernel) rfl
theorem md_X7_hasReplay : sg_MD yX7_hasReplay cX7_hasReplay 3 (some .boolean) 1 := ⟨sg_mem (i := 566) (by decide +kernel) rfl, sg_mem (i := 26) (by decide +kernel) rfl, ⟨by decide, by decide⟩, by decide +kernel⟩
theorem ml_RX7_81 : sg_ML RX7 81 yX7_hasReplay := .inl (sg_mem (i := 563) (by decide +kernel) rfl)
theorem im_X7_hasReplay : Cond.instanceMethod yX7_hasReplay ∈ sg_T := sg_mem (i := 565) (by decide +kernel) rfl
theorem sl_X7_hasReplay : Cond.selects yX7_hasReplay.cls yX7_hasReplay yX7_hasReplay ∈ sg_T := sg_mem (i := 14) (by decide +kernel) rfl
theorem md_X2_change : sg_MD yX2_change cX2_change 4 none 3 := ⟨sg_mem (i := 571) (by decide +kernel) rfl, sg_mem (i := 35) (by decide +kernel) rfl, ⟨by decide, by decide⟩, by decide +kernel⟩
theorem ml_RX7_87 : sg_ML RX7 87 yX2_change := .inl (sg_mem (i := 568) (by decide +kernel) rfl)
theorem im_X2_change : Cond.instanceMethod yX2_change ∈ sg_T := sg_mem (i := 569) (by decide +kernel) rfl
theorem sl_X2_change : Cond.selects yX2_change.cls yX2_change yX2_change ∈ sg_T := sg_mem (i := 570) (by decide +kernel) rfl
theorem fl_RX7_102 : sg_FL RX7 102 5 6 := ⟨RX4, TX4, 7, "SplitGate$Replay", rfl, by decide, ti_5, .inl rfl, .inr ⟨"SplitGate", sg_memN (i := 384) (by decide +kernel) rfl⟩⟩
theorem md_X4_hasRoomFor : sg_MD yX4_hasRoomFor cX4_hasRoomFor 2 (some .boolean) 1 := ⟨sg_mem (i := 499) (by decide +kernel) rfl, sg_mem (i := 44) (by decide +kernel) rfl, ⟨by decide, by decide⟩, by decide +kernel⟩
theorem ml_RX7_106 : sg_ML RX7 106 yX4_hasRoomFor := .inl (sg_mem (i := 496) (by decide +kernel) rfl)
theorem im_X4_hasRoomFor : Cond.instanceMethod yX4_hasRoomFor ∈ sg_T := sg_mem (i := 497) (by decide +kernel) rfl
theorem sl_X4_hasRoomFor : Cond.selects yX4_hasRoomFor.cls yX4_hasRoomFor yX4_hasRoomFor ∈ sg_T := sg_mem (i := 498) (by decide +kernel) rfl
theorem md_X4_addPiece : sg_MD yX4_addPiece cX4_addPiece 3 none 2 := ⟨sg_mem (i := 504) (by decide +kernel) rfl, sg_mem (i := 44) (by decide +kernel) rfl, ⟨by decide, by decide⟩, by decide +kernel⟩
theorem ml_RX7_112 : sg_ML RX7 112 yX4_addPiece := .inl (sg_mem (i := 501) (by decide +kernel) rfl)
theorem im_X4_addPiece : Cond.instanceMethod yX4_addPiece ∈ sg_T := sg_mem (i := 502) (by decide +kernel) rfl
theorem sl_X4_addPiece : Cond.selects yX4_addPiece.cls yX4_addPiece yX4_addPiece ∈ sg_T := sg_mem (i := 503) (by decide +kernel) rfl
theorem fl_RX7_116 : sg_FL RX7 116 5 5 := ⟨RX4, TX4, 7, "SplitGate$Replay", rfl, by decide, ti_5, .inl rfl, .inr ⟨"SplitGate", sg_memN (i := 383) (by decide +kernel) rfl⟩⟩
set_option maxHeartbeats 4000000 in
set_option maxRecDepth 100000 in
theorem c_X7_column (l : Launch) (g : sg_G) (C : Nat → Option va_E) (ad : Ad) (own : Nat → Option (Nat × Nat)) (gh : Gh) (σ : Mem) (x : Int32) (y : Int32) (h : Int32) (t : Int32) (hQ : Pic g ad own gh σ C) (hW : WX σ) (hg : gOk gh) (hst : l.stackTraces = false) : sg_Met l yX7_column cX7_column 6 none 7 103 16 96 g [.ref (ad 0 0), .int x, .int y, .int h, .int t] C (fun v C' => v = none ∧ ¬ 0 < kColumn σ x y h t ∧ PH g (ad 0 0) own C (fColumn σ x y h t) C') (fun E C' => ((E = "java/lang/IndexOutOfBoundsException" ∧ kColumn σ x y h t = 1) ∨ (E = "java/lang/IllegalArgumentException" ∧ kColumn σ x y h t = 2) ∨ (E = "java/lang/IllegalStateException" ∧ kColumn σ x y h t = 3)) ∧ PH g (ad 0 0) own C (fColumn σ x y h t) C') := by
  refine sg_ofW (by decide) rfl ?_ (Nat.le_of_ble_eq_true rfl)
  intro p e s m below meth c hc hlk hrt hin2 htb
  have hc : sg_Cx p s m _ c cX7_column 6 RX7 g := hc
  show sg_W p l e _ s m _ below meth c 6 g 0 0 _ C 0 [(0, .ref (ad 0 0)), (1, .int x), (2, .int y), (3, .int h), (4, .int t)] []
  refine sw_aload_n (pc := 0) hc dX7_column_0 rfl 0 rfl ?_
  refine sw_iload_n (pc := 1) hc dX7_column_1 rfl 1 rfl ?_
  refine sw_callV (pc := 2) (rest := []) hc (c_X7_levelOf l g C ad own gh σ x hQ hW hst) md_X7_levelOf ml_RX7_64 im_X7_levelOf sl_X7_levelOf (hQ.at ct0) rfl rfl rfl (Nat.le_of_ble_eq_true rfl) dX7_column_2 ⟨Nat.le_of_ble_eq_true rfl, Nat.le_of_ble_eq_true rfl, Nat.le_of_ble_eq_true rfl, Nat.le_of_ble_eq_true rfl⟩ (fun v C' hP => ?_) (fun E C' hX => sx_out htb hlk (⟨.inl (⟨hX.1, if_pos (fun q => hX.2.1 q.1)⟩), by rw [hX.2.2]; exact PH.q hQ hW hg (by rw [show fColumn σ x y h t = st2 σ 42 0 (kColumn σ x y h t) from if_pos (by rw [show kColumn σ x y h t = 1 from if_pos (fun q => hX.2.1 q.1)]; decide)]; exact f42 _)⟩) (Nat.le_of_ble_eq_true rfl) (Nat.le_of_ble_eq_true rfl))
  obtain ⟨rfl, o_1, hCC⟩ := hP
  refine sw_eq (C' := C) hCC ?_
  obtain ⟨o_1_x, o_1_l⟩ := rIn_x hW.1.1 (by decide) o_1
  refine sw_st (st' := [.ref (ad 3 (iN x))]) rfl ?_
  refine sw_astore (pc := 5) hc dX7_column_5 (by decide) (lv' := [(5, .ref (ad 3 (iN x))), (0, .ref (ad 0 0)), (1, .int x), (2, .int y), (3, .int h), (4, .int t)]) rfl ?_
  refine sw_iload_n (pc := 7) hc dX7_column_7 rfl 3 rfl ?_
  refine sw_iconst (pc := 8) (v := 0) hc dX7_column_8 (by decide) ?_
  refine sw_bipush (pc := 9) (v := 31) hc dX7_column_9 (by decide) ?_
  refine sw_callS (pc := 11) (rest := []) hc (c_X7_isWithin l g C y 0 31 ) md_X7_isWithin ml_RX7_68 st_X7_isWithin rfl rfl (Nat.le_of_ble_eq_true rfl) dX7_column_11 ⟨Nat.le_of_ble_eq_true rfl, Nat.le_of_ble_eq_true rfl, Nat.le_of_ble_eq_true rfl, Nat.le_of_ble_eq_true rfl⟩ (fun v C' hP => ?_) (fun _ _ h => h.elim)
  obtain ⟨rfl, hCC⟩ := hP
  refine sw_eq (C' := C) hCC ?_
  refine sw_st (st' := [.int (bI (0 ≤ y ∧ y ≤ 31))]) rfl ?_
  refine sw_if_ne (pc := 14) (tgt := 27) hc dX7_column_14 (by decide) (fun c_2 => ?_) (fun c_2 => ?_)
  ·
    have p_3 : 0 ≤ y ∧ y ≤ 31 := bI_n c_2
    refine sw_iload_n (pc := 27) hc dX7_column_27 rfl 4 rfl ?_
    refine sw_iconst (pc := 28) (v := (-1)) hc dX7_column_28 (by decide) ?_
    refine sw_bipush (pc := 29) (v := 6) hc dX7_column_29 (by decide) ?_
    refine sw_callS (pc := 31) (rest := []) hc (c_X7_isWithin l g C h (-1) 6 ) md_X7_isWithin ml_RX7_68 st_X7_isWithin rfl rfl (Nat.le_of_ble_eq_true rfl) dX7_column_31 ⟨Nat.le_of_ble_eq_true rfl, Nat.le_of_ble_eq_true rfl, Nat.le_of_ble_eq_true rfl, Nat.le_of_ble_eq_true rfl⟩ (fun v C' hP => ?_) (fun _ _ h => h.elim)
    obtain ⟨rfl, hCC⟩ := hP
    refine sw_eq (C' := C) hCC ?_
    refine sw_st (st' := [.int (bI ((-1) ≤ h ∧ h ≤ 6))]) rfl ?_
    refine sw_callS (pc := 34) (rest := []) hc (c_X7_requireArgument l g C (bI ((-1) ≤ h ∧ h ≤ 6)) hst) md_X7_requireArgument ml_RX7_77 st_X7_requireArgument rfl rfl (Nat.le_of_ble_eq_true rfl) dX7_column_34 ⟨Nat.le_of_ble_eq_true rfl, Nat.le_of_ble_eq_true rfl, Nat.le_of_ble_eq_true rfl, Nat.le_of_ble_eq_true rfl⟩ (fun v C' hP => ?_) (fun E C' hX => sx_out htb hlk (⟨.inr (.inl (⟨hX.1, (if_neg (fun q => q ⟨o_1, p_3⟩)).trans (if_pos (fun q => bI_0 hX.2.1 q.1))⟩)), by rw [hX.2.2]; exact PH.q hQ hW hg (by rw [show fColumn σ x y h t = st2 σ 42 0 (kColumn σ x y h t) from if_pos (by rw [show kColumn σ x y h t = 2 from (if_neg (fun q => q ⟨o_1, p_3⟩)).trans (if_pos (fun q => bI_0 hX.2.1 q.1))]; decide)]; exact f42 _)⟩) (Nat.le_of_ble_eq_true rfl) (Nat.le_of_ble_eq_true rfl))
    obtain ⟨rfl, o_4, hCC⟩ := hP
    refine sw_eq (C' := C) hCC ?_
    refine sw_st (st' := []) rfl ?_
    refine sw_iload (pc := 37) hc dX7_column_37 5 rfl ?_
    refine sw_iconst (pc := 39) (v := 0) hc dX7_column_39 (by decide) ?_
    refine sw_iconst (pc := 40) (v := 2) hc dX7_column_40 (by decide) ?_
    refine sw_callS (pc := 41) (rest := []) hc (c_X7_isWithin l g C t 0 2 ) md_X7_isWithin ml_RX7_68 st_X7_isWithin rfl rfl (Nat.le_of_ble_eq_true rfl) dX7_column_41 ⟨Nat.le_of_ble_eq_true rfl, Nat.le_of_ble_eq_true rfl, Nat.le_of_ble_eq_true rfl, Nat.le_of_ble_eq_true rfl⟩ (fun v C' hP => ?_) (fun _ _ h => h.elim)
    obtain ⟨rfl, hCC⟩ := hP
    refine sw_eq (C' := C) hCC ?_
    refine sw_st (st' := [.int (bI (0 ≤ t ∧ t ≤ 2))]) rfl ?_
    refine sw_callS (pc := 44) (rest := []) hc (c_X7_requireArgument l g C (bI (0 ≤ t ∧ t ≤ 2)) hst) md_X7_requireArgument ml_RX7_77 st_X7_requireArgument rfl rfl (Nat.le_of_ble_eq_true rfl) dX7_column_44 ⟨Nat.le_of_ble_eq_true rfl, Nat.le_of_ble_eq_true rfl, Nat.le_of_ble_eq_true rfl, Nat.le_of_ble_eq_true rfl⟩ (fun v C' hP => ?_) (fun E C' hX => sx_out htb hlk (⟨.inr (.inl (⟨hX.1, (if_neg (fun q => q ⟨o_1, p_3⟩)).trans (if_pos (fun q => bI_0 hX.2.1 q.2))⟩)), by rw [hX.2.2]; exact PH.q hQ hW hg (by rw [show fColumn σ x y h t = st2 σ 42 0 (kColumn σ x y h t) from if_pos (by rw [show kColumn σ x y h t = 2 from (if_neg (fun q => q ⟨o_1, p_3⟩)).trans (if_pos (fun q => bI_0 hX.2.1 q.2))]; decide)]; exact f42 _)⟩) (Nat.le_of_ble_eq_true rfl) (Nat.le_of_ble_eq_true rfl))
    obtain ⟨rfl, o_5, hCC⟩ := hP
    refine sw_eq (C' := C) hCC ?_
    refine sw_st (st' := []) rfl ?_
    refine sw_aload_n (pc := 47) hc dX7_column_47 rfl 1 rfl ?_
    refine sw_aload (pc := 48) hc dX7_column_48 0 rfl ?_
    refine sw_callV (pc := 50) (rest := []) hc (c_X7_hasReplay l g C ad own gh σ (iN x) hQ hW o_1_l) md_X7_hasReplay ml_RX7_81 im_X7_hasReplay sl_X7_hasReplay (hQ.at ct0) rfl rfl rfl (Nat.le_of_ble_eq_true rfl) dX7_column_50 ⟨Nat.le_of_ble_eq_true rfl, Nat.le_of_ble_eq_true rfl, Nat.le_of_ble_eq_true rfl, Nat.le_of_ble_eq_true rfl⟩ (fun v C' hP => ?_) (fun _ _ h => h.elim)
    obtain ⟨rfl, hCC⟩ := hP
    refine sw_eq (C' := C) hCC ?_
    refine sw_st (st' := [.int (rUsed σ (nI (iN x)))]) rfl ?_
    refine sw_st (st' := [.int (rUsed σ x)]) (congrArg (fun z => ([.int z] : List Value)) ((congrArg (rUsed σ) o_1_x.symm) : rUsed σ (nI (iN x)) = rUsed σ x)) ?_
    refine sw_if_eq (pc := 53) (tgt := 66) hc dX7_column_53 (by decide) (fun c_6 => ?_) (fun c_6 => ?_)
    ·
      refine sw_aload (pc := 66) hc dX7_column_66 0 rfl ?_
      refine sw_iload_n (pc := 68) hc dX7_column_68 rfl 3 rfl ?_
      refine sw_iload_n (pc := 69) hc dX7_column_69 rfl 4 rfl ?_
      refine sw_iload (pc := 70) hc dX7_column_70 5 rfl ?_
      have hyy := rng_y (n := 31) (show (0 : Int32) ≤ 0 by decide) (by decide) p_3
      refine sw_st (st' := [.int t, .int h, .int (nI (iN y)), .ref (ad 3 (iN x))]) (congrArg (fun zq => ([.int t, .int h, .int zq, .ref (ad 3 (iN x))] : List Value)) hyy.1) ?_
      refine sw_callV (pc := 72) (rest := []) hc (c_chP l hQ o_1_l (show iN y < 32 by omega) h t) md_X2_change ml_RX7_87 im_X2_change sl_X2_change (hQ.at (ct3 (k := (iN x)) o_1_l)) rfl rfl rfl (Nat.le_of_ble_eq_true rfl) dX7_column_72 ⟨Nat.le_of_ble_eq_true rfl, Nat.le_of_ble_eq_true rfl, Nat.le_of_ble_eq_true rfl, Nat.le_of_ble_eq_true rfl⟩ (fun v Cz6 hP => ?_) (fun _ _ h => h.elim)
      obtain ⟨rfl, hCC⟩ := hP
      refine sw_st (st' := []) rfl ?_
      have hkk : kColumn σ x y h t = 0 := (if_neg (fun q => q ⟨o_1, p_3⟩)).trans ((if_neg (fun q => q ⟨bI_n o_4, bI_n o_5⟩)).trans (if_neg (fun q => q c_6)))
      have hk : ¬ 0 < kColumn σ x y h t := by rw [hkk]; decide
      exact sw_vret (pc := 75) hc hlk hrt ⟨rfl, hk, by rw [hCC]; exact ph_col hQ hW hg o_1 ⟨hyy.1, by omega⟩ (bI_n o_4).1 c_6 hk⟩ (Nat.le_of_ble_eq_true rfl) (Nat.le_of_ble_eq_true rfl) dX7_column_75
    ·
      exact sw_throw (pc := 56) hc hst th_RX7_50 (text := "there is a replay for the level") (by decide +kernel) dX7_column_56 dX7_column_59 dX7_column_60 dX7_column_62 dX7_column_65 htb hlk ⟨Nat.le_of_ble_eq_true rfl, Nat.le_of_ble_eq_true rfl, Nat.le_of_ble_eq_true rfl, Nat.le_of_ble_eq_true rfl⟩ ⟨.inr (.inr (⟨rfl, (if_neg (fun q => q ⟨o_1, p_3⟩)).trans ((if_neg (fun q => q ⟨bI_n o_4, bI_n o_5⟩)).trans (if_pos c_6))⟩)), PH.q hQ hW hg (by rw [show fColumn σ x y h t = st2 σ 42 0 (kColumn σ x y h t) from if_pos (by rw [show kColumn σ x y h t = 3 from (if_neg (fun q => q ⟨o_1, p_3⟩)).trans ((if_neg (fun q => q ⟨bI_n o_4, bI_n o_5⟩)).trans (if_pos c_6))]; decide)]; exact f42 _)⟩ (Nat.le_of_ble_eq_true rfl) (Nat.le_of_ble_eq_true rfl)
  ·
    have p_7 : ¬ (0 ≤ y ∧ y ≤ 31) := bI_0 c_2
    exact sw_throw (pc := 17) hc hst th_RX7_72 (text := "no such column") (by decide +kernel) dX7_column_17 dX7_column_20 dX7_column_21 dX7_column_23 dX7_column_26 htb hlk ⟨Nat.le_of_ble_eq_true rfl, Nat.le_of_ble_eq_true rfl, Nat.le_of_ble_eq_true rfl, Nat.le_of_ble_eq_true rfl⟩ ⟨.inl (⟨rfl, if_pos (fun q => p_7 q.2)⟩), PH.q hQ hW hg (by rw [show fColumn σ x y h t = st2 σ 42 0 (kColumn σ x y h t) from if_pos (by rw [show kColumn σ x y h t = 1 from if_pos (fun q => p_7 q.2)]; decide)]; exact f42 _)⟩ (Nat.le_of_ble_eq_true rfl) (Nat.le_of_ble_eq_true rfl)

set_option maxHeartbeats 4000000 in
set_option maxRecDepth 100000 in
theorem c_X7_input (l : Launch) (g : sg_G) (C : Nat → Option va_E) (ad : Ad) (own : Nat → Option (Nat × Nat)) (gh : Gh) (σ : Mem) (x : Int32) (b : Int32) (t : Int32) (hQ : Pic g ad own gh σ C) (hW : WX σ) (hg : gOk gh) (hst : l.stackTraces = false) : sg_Met l yX7_input cX7_input 5 (some .int) 7 118 16 96 g [.ref (ad 0 0), .int x, .int b, .int t] C (fun v C' => v = some (.int (vInput σ x b t)) ∧ ¬ 0 < kInput σ x b t ∧ PH g (ad 0 0) own C (fInput σ x b t) C') (fun E C' => ((E = "java/lang/IndexOutOfBoundsException" ∧ kInput σ x b t = 1) ∨ (E = "java/lang/IllegalArgumentException" ∧ kInput σ x b t = 2) ∨ (E = "java/lang/IllegalStateException" ∧ kInput σ x b t = 3)) ∧ PH g (ad 0 0) own C (fInput σ x b t) C') := by
  refine sg_ofW (by decide) rfl ?_ (Nat.le_of_ble_eq_true rfl)
  intro p e s m below meth c hc hlk hrt hin2 htb
  have hc : sg_Cx p s m _ c cX7_input 5 RX7 g := hc
  show sg_W p l e _ s m _ below meth c 5 g 0 0 _ C 0 [(0, .ref (ad 0 0)), (1, .int x), (2, .int b), (3, .int t)] []
  refine sw_aload_n (pc := 0) hc dX7_input_0 rfl 0 rfl ?_
  refine sw_iload_n (pc := 1) hc dX7_input_1 rfl 1 rfl ?_
  refine sw_callV (pc := 2) (rest := []) hc (c_X7_replayOf l g C ad own gh σ x hQ hW hst) md_X7_replayOf ml_RX7_98 im_X7_replayOf sl_X7_replayOf (hQ.at ct0) rfl rfl rfl (Nat.le_of_ble_eq_true rfl) dX7_input_2 ⟨Nat.le_of_ble_eq_true rfl, Nat.le_of_ble_eq_true rfl, Nat.le_of_ble_eq_true rfl, Nat.le_of_ble_eq_true rfl⟩ (fun v C' hP => ?_) (fun E C' hX => sx_out htb hlk (⟨.inl (⟨hX.1, if_pos hX.2.1⟩), by rw [hX.2.2]; exact PH.q hQ hW hg (by rw [show fInput σ x b t = st2 σ 42 0 (kInput σ x b t) from if_pos (by rw [show kInput σ x b t = 1 from if_pos hX.2.1]; decide)]; exact f42 _)⟩) (Nat.le_of_ble_eq_true rfl) (Nat.le_of_ble_eq_true rfl))
  obtain ⟨rfl, o_1, hCC⟩ := hP
  refine sw_eq (C' := C) hCC ?_
  obtain ⟨o_1_x, o_1_l⟩ := rIn_x hW.1.2.1 (by decide) o_1
  refine sw_st (st' := [.ref (ad 7 (iN x))]) rfl ?_
  refine sw_astore (pc := 5) hc dX7_input_5 (by decide) (lv' := [(4, .ref (ad 7 (iN x))), (0, .ref (ad 0 0)), (1, .int x), (2, .int b), (3, .int t)]) rfl ?_
  refine sw_iload_n (pc := 7) hc dX7_input_7 rfl 3 rfl ?_
  refine sw_iconst (pc := 8) (v := 0) hc dX7_input_8 (by decide) ?_
  refine sw_bipush (pc := 9) (v := 15) hc dX7_input_9 (by decide) ?_
  refine sw_callS (pc := 11) (rest := []) hc (c_X7_isWithin l g C b 0 15 ) md_X7_isWithin ml_RX7_68 st_X7_isWithin rfl rfl (Nat.le_of_ble_eq_true rfl) dX7_input_11 ⟨Nat.le_of_ble_eq_true rfl, Nat.le_of_ble_eq_true rfl, Nat.le_of_ble_eq_true rfl, Nat.le_of_ble_eq_true rfl⟩ (fun v C' hP => ?_) (fun _ _ h => h.elim)
  obtain ⟨rfl, hCC⟩ := hP
  refine sw_eq (C' := C) hCC ?_
  refine sw_st (st' := [.int (bI (0 ≤ b ∧ b ≤ 15))]) rfl ?_
  refine sw_callS (pc := 14) (rest := []) hc (c_X7_requireArgument l g C (bI (0 ≤ b ∧ b ≤ 15)) hst) md_X7_requireArgument ml_RX7_77 st_X7_requireArgument rfl rfl (Nat.le_of_ble_eq_true rfl) dX7_input_14 ⟨Nat.le_of_ble_eq_true rfl, Nat.le_of_ble_eq_true rfl, Nat.le_of_ble_eq_true rfl, Nat.le_of_ble_eq_true rfl⟩ (fun v C' hP => ?_) (fun E C' hX => sx_out htb hlk (⟨.inr (.inl (⟨hX.1, (if_neg (fun q => q o_1)).trans (if_pos (fun q => bI_0 hX.2.1 q.1))⟩)), by rw [hX.2.2]; exact PH.q hQ hW hg (by rw [show fInput σ x b t = st2 σ 42 0 (kInput σ x b t) from if_pos (by rw [show kInput σ x b t = 2 from (if_neg (fun q => q o_1)).trans (if_pos (fun q => bI_0 hX.2.1 q.1))]; decide)]; exact f42 _)⟩) (Nat.le_of_ble_eq_true rfl) (Nat.le_of_ble_eq_true rfl))
  obtain ⟨rfl, o_2, hCC⟩ := hP
  refine sw_eq (C' := C) hCC ?_
  refine sw_st (st' := []) rfl ?_
  refine sw_iload_n (pc := 17) hc dX7_input_17 rfl 4 rfl ?_
  refine sw_iconst (pc := 18) (v := 1) hc dX7_input_18 (by decide) ?_
  refine sw_bipush (pc := 19) (v := 100) hc dX7_input_19 (by decide) ?_
  refine sw_callS (pc := 21) (rest := []) hc (c_X7_isWithin l g C t 1 100 ) md_X7_isWithin ml_RX7_68 st_X7_isWithin rfl rfl (Nat.le_of_ble_eq_true rfl) dX7_input_21 ⟨Nat.le_of_ble_eq_true rfl, Nat.le_of_ble_eq_true rfl, Nat.le_of_ble_eq_true rfl, Nat.le_of_ble_eq_true rfl⟩ (fun v C' hP => ?_) (fun _ _ h => h.elim)
  obtain ⟨rfl, hCC⟩ := hP
  refine sw_eq (C' := C) hCC ?_
  refine sw_st (st' := [.int (bI (1 ≤ t ∧ t ≤ 100))]) rfl ?_
  refine sw_callS (pc := 24) (rest := []) hc (c_X7_requireArgument l g C (bI (1 ≤ t ∧ t ≤ 100)) hst) md_X7_requireArgument ml_RX7_77 st_X7_requireArgument rfl rfl (Nat.le_of_ble_eq_true rfl) dX7_input_24 ⟨Nat.le_of_ble_eq_true rfl, Nat.le_of_ble_eq_true rfl, Nat.le_of_ble_eq_true rfl, Nat.le_of_ble_eq_true rfl⟩ (fun v C' hP => ?_) (fun E C' hX => sx_out htb hlk (⟨.inr (.inl (⟨hX.1, (if_neg (fun q => q o_1)).trans (if_pos (fun q => bI_0 hX.2.1 q.2))⟩)), by rw [hX.2.2]; exact PH.q hQ hW hg (by rw [show fInput σ x b t = st2 σ 42 0 (kInput σ x b t) from if_pos (by rw [show kInput σ x b t = 2 from (if_neg (fun q => q o_1)).trans (if_pos (fun q => bI_0 hX.2.1 q.2))]; decide)]; exact f42 _)⟩) (Nat.le_of_ble_eq_true rfl) (Nat.le_of_ble_eq_true rfl))
  obtain ⟨rfl, o_3, hCC⟩ := hP
  refine sw_eq (C' := C) hCC ?_
  refine sw_st (st' := []) rfl ?_
  refine sw_aload (pc := 27) hc dX7_input_27 0 rfl ?_
  refine sw_get (pc := 29) (v := .int (σ 6 (iN x))) hc fl_RX7_102 (hQ.at (ct7 (k := (iN x)) o_1_l)) rfl dX7_input_29 ?_
  refine sw_if_ne (pc := 32) (tgt := 44) hc dX7_input_32 (by decide) (fun c_4 => ?_) (fun c_4 => ?_)
  ·
    exact sw_throw (pc := 44) hc hst th_RX7_50 (text := "the replay takes no such piece") (by decide +kernel) dX7_input_44 dX7_input_47 dX7_input_48 dX7_input_50 dX7_input_53 htb hlk ⟨Nat.le_of_ble_eq_true rfl, Nat.le_of_ble_eq_true rfl, Nat.le_of_ble_eq_true rfl, Nat.le_of_ble_eq_true rfl⟩ ⟨.inr (.inr (⟨rfl, (if_neg (fun q => q o_1)).trans ((if_neg (fun q => q ⟨bI_n o_2, bI_n o_3⟩)).trans (if_pos ⟨o_1, ⟨bI_n o_2, bI_n o_3⟩, .inl ((hW.2.2.2.2.1.1 (iN x)).resolve_left c_4)⟩))⟩)), PH.q hQ hW hg (by rw [show fInput σ x b t = st2 σ 42 0 (kInput σ x b t) from if_pos (by rw [show kInput σ x b t = 3 from (if_neg (fun q => q o_1)).trans ((if_neg (fun q => q ⟨bI_n o_2, bI_n o_3⟩)).trans (if_pos ⟨o_1, ⟨bI_n o_2, bI_n o_3⟩, .inl ((hW.2.2.2.2.1.1 (iN x)).resolve_left c_4)⟩))]; decide)]; exact f42 _)⟩ (Nat.le_of_ble_eq_true rfl) (Nat.le_of_ble_eq_true rfl)
  ·
    refine sw_aload (pc := 35) hc dX7_input_35 0 rfl ?_
    refine sw_iload_n (pc := 37) hc dX7_input_37 rfl 4 rfl ?_
    refine sw_callV (pc := 38) (rest := []) hc (c_X4_hasRoomFor l g C (ad 7 (iN x)) t (ad 3 (iN (σ 3 (iN x)))) (ad 8 (iN x)) (ad 9 (iN x)) (ad 10 (iN x)) (σ 4 (iN x)) (σ 5 (iN x)) (σ 6 (iN x)) (hQ.at (ct7 (k := (iN x)) o_1_l))) md_X4_hasRoomFor ml_RX7_106 im_X4_hasRoomFor sl_X4_hasRoomFor (hQ.at (ct7 (k := (iN x)) o_1_l)) rfl rfl rfl (Nat.le_of_ble_eq_true rfl) dX7_input_38 ⟨Nat.le_of_ble_eq_true rfl, Nat.le_of_ble_eq_true rfl, Nat.le_of_ble_eq_true rfl, Nat.le_of_ble_eq_true rfl⟩ (fun v C' hP => ?_) (fun _ _ h => h.elim)
    obtain ⟨rfl, hCC⟩ := hP
    refine sw_eq (C' := C) hCC ?_
    refine sw_st (st' := [.int (bI ((σ 4 (iN x)) < 20 ∧ (σ 5 (iN x)) + t ≤ 500))]) rfl ?_
    refine sw_if_ne (pc := 41) (tgt := 54) hc dX7_input_41 (by decide) (fun c_5 => ?_) (fun c_5 => ?_)
    ·
      have p_6 : (σ 4 (iN x)) < 20 ∧ (σ 5 (iN x)) + t ≤ 500 := bI_n c_5
      refine sw_aload (pc := 54) hc dX7_input_54 0 rfl ?_
      refine sw_iload_n (pc := 56) hc dX7_input_56 rfl 3 rfl ?_
      refine sw_iload_n (pc := 57) hc dX7_input_57 rfl 4 rfl ?_
      have hok := in_ok (r := iN x) hW (bI_n o_3) p_6
      refine sw_callV (pc := 58) (rest := []) hc (c_adP l hQ hW o_1_l hok.1 b t) md_X4_addPiece ml_RX7_112 im_X4_addPiece sl_X4_addPiece (hQ.at (ct7 (k := (iN x)) o_1_l)) rfl rfl rfl (Nat.le_of_ble_eq_true rfl) dX7_input_58 ⟨Nat.le_of_ble_eq_true rfl, Nat.le_of_ble_eq_true rfl, Nat.le_of_ble_eq_true rfl, Nat.le_of_ble_eq_true rfl⟩ (fun v Cz7 hP => ?_) (fun _ _ h => h.elim)
      obtain ⟨rfl, hCC⟩ := hP
      have h7z : Cz7 (ad 7 (iN x)) = some (.inr (5, [.ref (ad 3 (iN (σ 3 (iN x)))), .ref (ad 8 (iN x)), .ref (ad 9 (iN x)), .ref (ad 10 (iN x)), .int (nI (iN (σ 4 (iN x)) + 1)), .int (σ 5 (iN x) + t), .int (σ 6 (iN x))])) := by rw [hCC]; exact sg_ov_at (nd_pc hQ hW o_1_l) (k := 0) rfl
      refine sw_st (st' := []) rfl ?_
      refine sw_aload (pc := 61) hc dX7_input_61 0 rfl ?_
      refine sw_get (pc := 63) (v := .int (σ 5 (iN x) + t)) hc fl_RX7_116 h7z rfl dX7_input_63 ?_
      have hkk : kInput σ x b t = 0 := (if_neg (fun q => q o_1)).trans ((if_neg (fun q => q ⟨bI_n o_2, bI_n o_3⟩)).trans (if_neg (fun q => in_no20 p_6 c_4 q.2.2)))
      have hk : ¬ 0 < kInput σ x b t := by rw [hkk]; decide
      exact sw_iret (pc := 66) hc hlk hrt rfl ⟨congrArg (fun z => some (Value.int z)) (if_neg hk).symm, hk, by rw [hCC]; exact ph_pc hQ hW hg o_1_l hok.1 hok.2.1 hok.2.2 (by rw [c_4]; decide) rfl hk⟩ (Nat.le_of_ble_eq_true rfl) (Nat.le_of_ble_eq_true rfl) dX7_input_66
    ·
      have p_7 : ¬ ((σ 4 (iN x)) < 20 ∧ (σ 5 (iN x)) + t ≤ 500) := bI_0 c_5
      exact sw_throw (pc := 44) hc hst th_RX7_50 (text := "the replay takes no such piece") (by decide +kernel) dX7_input_44 dX7_input_47 dX7_input_48 dX7_input_50 dX7_input_53 htb hlk ⟨Nat.le_of_ble_eq_true rfl, Nat.le_of_ble_eq_true rfl, Nat.le_of_ble_eq_true rfl, Nat.le_of_ble_eq_true rfl⟩ ⟨.inr (.inr (⟨rfl, (if_neg (fun q => q o_1)).trans ((if_neg (fun q => q ⟨bI_n o_2, bI_n o_3⟩)).trans (if_pos ⟨o_1, ⟨bI_n o_2, bI_n o_3⟩, .inr (in_full hW p_7)⟩))⟩)), PH.q hQ hW hg (by rw [show fInput σ x b t = st2 σ 42 0 (kInput σ x b t) from if_pos (by rw [show kInput σ x b t = 3 from (if_neg (fun q => q o_1)).trans ((if_neg (fun q => q ⟨bI_n o_2, bI_n o_3⟩)).trans (if_pos ⟨o_1, ⟨bI_n o_2, bI_n o_3⟩, .inr (in_full hW p_7)⟩))]; decide)]; exact f42 _)⟩ (Nat.le_of_ble_eq_true rfl) (Nat.le_of_ble_eq_true rfl)
