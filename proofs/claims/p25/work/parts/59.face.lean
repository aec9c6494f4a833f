/-! the face: what only asks -/

theorem fl_RX7_31 : sg_FL RX7 31 8 6 := ⟨RX7, TX7, 9, "SplitGate", rfl, by decide, ti_8, .inl rfl, .inl (sg_mem (i := 141) (by decide +kernel) rfl)⟩
theorem md_X4_runAgain : sg_MD yX4_runAgain cX4_runAgain 4 none 2 := ⟨sg_mem (i := 734) (by decide +kernel) rfl, sg_mem (i := 44) (by decide +kernel) rfl, ⟨by decide, by decide⟩, by decide +kernel⟩
theorem ml_RX7_139 : sg_ML RX7 139 yX4_runAgain := .inl (sg_mem (i := 731) (by decide +kernel) rfl)
theorem im_X4_runAgain : Cond.instanceMethod yX4_runAgain ∈ sg_T := sg_mem (i := 732) (by decide +kernel) rfl
theorem sl_X4_runAgain : Cond.selects yX4_runAgain.cls yX4_runAgain yX4_runAgain ∈ sg_T := sg_mem (i := 733) (by decide +kernel) rfl
theorem md_X1_isHome : sg_MD yX1_isHome cX1_isHome 1 (some .boolean) 0 := ⟨sg_mem (i := 592) (by decide +kernel) rfl, sg_mem (i := 30) (by decide +kernel) rfl, ⟨by decide, by decide⟩, by decide +kernel⟩
theorem ml_RX7_198 : sg_ML RX7 198 yX1_isHome := .inl (sg_mem (i := 589) (by decide +kernel) rfl)
theorem im_X1_isHome : Cond.instanceMethod yX1_isHome ∈ sg_T := sg_mem (i := 590) (by decide +kernel) rfl
theorem sl_X1_isHome : Cond.selects yX1_isHome.cls yX1_isHome yX1_isHome ∈ sg_T := sg_mem (i := 591) (by decide +kernel) rfl
theorem md_X7_replayOf : sg_MD yX7_replayOf cX7_replayOf 2 (some (.object "SplitGate$Replay")) 1 := ⟨sg_mem (i := 407) (by decide +kernel) rfl, sg_mem (i := 26) (by decide +kernel) rfl, ⟨by decide, by decide⟩, by decide +kernel⟩
theorem ml_RX7_98 : sg_ML RX7 98 yX7_replayOf := .inl (sg_mem (i := 404) (by decide +kernel) rfl)
theorem im_X7_replayOf : Cond.instanceMethod yX7_replayOf ∈ sg_T := sg_mem (i := 406) (by decide +kernel) rfl
theorem sl_X7_replayOf : Cond.selects yX7_replayOf.cls yX7_replayOf yX7_replayOf ∈ sg_T := sg_mem (i := 5) (by decide +kernel) rfl
theorem fl_RX7_122 : sg_FL RX7 122 2 10 := ⟨RX1, TX1, 12, "SplitGate$Hero", rfl, by decide, ti_2, .inl rfl, .inr ⟨"SplitGate", sg_memN (i := 107) (by decide +kernel) rfl⟩⟩
theorem fl_RX7_125 : sg_FL RX7 125 2 11 := ⟨RX1, TX1, 12, "SplitGate$Hero", rfl, by decide, ti_2, .inl rfl, .inr ⟨"SplitGate", sg_memN (i := 109) (by decide +kernel) rfl⟩⟩
theorem fl_RX7_143 : sg_FL RX7 143 2 1 := ⟨RX1, TX1, 12, "SplitGate$Hero", rfl, by decide, ti_2, .inl rfl, .inr ⟨"SplitGate", sg_memN (i := 92) (by decide +kernel) rfl⟩⟩
theorem fl_RX7_146 : sg_FL RX7 146 2 0 := ⟨RX1, TX1, 12, "SplitGate$Hero", rfl, by decide, ti_2, .inl rfl, .inr ⟨"SplitGate", sg_memN (i := 90) (by decide +kernel) rfl⟩⟩
theorem md_X7_runOf : sg_MD yX7_runOf cX7_runOf 2 (some (.object "SplitGate$Run")) 1 := ⟨sg_mem (i := 438) (by decide +kernel) rfl, sg_mem (i := 26) (by decide +kernel) rfl, ⟨by decide, by decide⟩, by decide +kernel⟩
theorem ml_RX7_209 : sg_ML RX7 209 yX7_runOf := .inl (sg_mem (i := 435) (by decide +kernel) rfl)
theorem im_X7_runOf : Cond.instanceMethod yX7_runOf ∈ sg_T := sg_mem (i := 437) (by decide +kernel) rfl
theorem sl_X7_runOf : Cond.selects yX7_runOf.cls yX7_runOf yX7_runOf ∈ sg_T := sg_mem (i := 6) (by decide +kernel) rfl
theorem md_X7_categoryOf : sg_MD yX7_categoryOf cX7_categoryOf 2 (some (.object "SplitGate$Category")) 1 := ⟨sg_mem (i := 586) (by decide +kernel) rfl, sg_mem (i := 26) (by decide +kernel) rfl, ⟨by decide, by decide⟩, by decide +kernel⟩
theorem ml_RX7_171 : sg_ML RX7 171 yX7_categoryOf := .inl (sg_mem (i := 583) (by decide +kernel) rfl)
theorem im_X7_categoryOf : Cond.instanceMethod yX7_categoryOf ∈ sg_T := sg_mem (i := 585) (by decide +kernel) rfl
theorem sl_X7_categoryOf : Cond.selects yX7_categoryOf.cls yX7_categoryOf yX7_categoryOf ∈ sg_T := sg_mem (i := 15) (by decide +kernel) rfl
theorem md_X7_requireRunner : sg_MD yX7_requireRunner cX7_requireRunner 1 none 1 := ⟨sg_mem (i := 581) (by decide +kernel) rfl, sg_mem (i := 26) (by decide +kernel) rfl, ⟨by decide, by decide⟩, by decide +kernel⟩
theorem ml_RX7_191 : sg_ML RX7 191 yX7_requireRunner := .inl (sg_mem (i := 579) (by decide +kernel) rfl)
theorem st_X7_requireRunner : Cond.static yX7_requireRunner ∈ sg_T := sg_mem (i := 580) (by decide +kernel) rfl
theorem md_X7_placeFor : sg_MD yX7_placeFor cX7_placeFor 8 (some .int) 3 := ⟨sg_mem (i := 719) (by decide +kernel) rfl, sg_mem (i := 26) (by decide +kernel) rfl, ⟨by decide, by decide⟩, by decide +kernel⟩
theorem ml_RX7_253 : sg_ML RX7 253 yX7_placeFor := .inl (sg_mem (i := 716) (by decide +kernel) rfl)
theorem im_X7_placeFor : Cond.instanceMethod yX7_placeFor ∈ sg_T := sg_mem (i := 718) (by decide +kernel) rfl
theorem sl_X7_placeFor : Cond.selects yX7_placeFor.cls yX7_placeFor yX7_placeFor ∈ sg_T := sg_mem (i := 21) (by decide +kernel) rfl
theorem fl_RX7_243 : sg_FL RX7 243 7 0 := ⟨RX6, TX6, 7, "SplitGate$Run", rfl, by decide, ti_7, .inl rfl, .inr ⟨"SplitGate", sg_memN (i := 600) (by decide +kernel) rfl⟩⟩
theorem fl_RX7_263 : sg_FL RX7 263 7 1 := ⟨RX6, TX6, 7, "SplitGate$Run", rfl, by decide, ti_7, .inl rfl, .inr ⟨"SplitGate", sg_memN (i := 602) (by decide +kernel) rfl⟩⟩
set_option maxHeartbeats 4000000 in
set_option maxRecDepth 100000 in
theorem c_X7_countsAnew (l : Launch) (g : sg_G) (C : Nat → Option va_E) (ad : Ad) (own : Nat → Option (Nat × Nat)) (gh : Gh) (σ : Mem) (k : Nat) (hQ : Pic g ad own gh σ C) (hW : WX σ) (hk : k < iN (σ 26 0)) : sg_Met l yX7_countsAnew cX7_countsAnew 2 (some .boolean) 5 119 0 0 g [.ref (ad 0 0), .ref (ad 15 k)] C (fun v C' => v = some (.int (bI (rCnt σ k))) ∧ ∃ hs, Pic g ad own (hs, gh.2) σ C' ∧ Frm own own C C' ∧ (rCnt σ k → hs 10 = σ 22 k)) (sg_no) := by
  refine sg_ofW (by decide) rfl ?_ (Nat.le_of_ble_eq_true rfl)
  intro p e s m below meth c hc hlk hrt hin2 htb
  have hc : sg_Cx p s m _ c cX7_countsAnew 2 RX7 g := hc
  show sg_W p l e _ s m _ below meth c 2 g 0 0 _ C 0 [(0, .ref (ad 0 0)), (1, .ref (ad 15 k))] []
  refine sw_aload_n (pc := 0) hc dX7_countsAnew_0 rfl 1 rfl ?_
  refine sw_get (pc := 1) (v := .int (σ 21 k)) hc fl_RX7_217 (hQ.at (ct15 (k := k) hk)) rfl dX7_countsAnew_1 ?_
  refine sw_if_eq (pc := 4) (tgt := 9) hc dX7_countsAnew_4 (by decide) (fun c_1 => ?_) (fun c_1 => ?_)
  ·
    refine sw_aload_n (pc := 9) hc dX7_countsAnew_9 rfl 1 rfl ?_
    refine sw_get (pc := 10) (v := .ref (ad 7 (iN (σ 17 k)))) hc fl_RX7_231 (hQ.at (ct15 (k := k) hk)) rfl dX7_countsAnew_10 ?_
    refine sw_aload_n (pc := 13) hc dX7_countsAnew_13 rfl 0 rfl ?_
    refine sw_get (pc := 14) (v := .ref (ad 17 0)) hc fl_RX7_31 (hQ.at ct0) rfl dX7_countsAnew_14 ?_
    refine sw_sipush (pc := 17) (v := 500) hc dX7_countsAnew_17 (by decide) ?_
    refine sw_callV (pc := 20) (rest := []) hc (c_againR l hQ hW (hW.wt hk)) md_X4_runAgain ml_RX7_139 im_X4_runAgain sl_X4_runAgain (hQ.at (ct7 (k := (iN (σ 17 k))) (hW.wt hk))) rfl rfl rfl (Nat.le_of_ble_eq_true rfl) dX7_countsAnew_20 ⟨Nat.le_of_ble_eq_true rfl, Nat.le_of_ble_eq_true rfl, Nat.le_of_ble_eq_true rfl, Nat.le_of_ble_eq_true rfl⟩ (fun v Cz0 hP => ?_) (fun _ _ h => h.elim)
    obtain ⟨rfl, hCC⟩ := hP
    obtain ⟨hQ0, hF0⟩ := hQ.hero (heroR σ (iN (σ 17 k)))
    rw [← hCC] at hQ0 hF0
    refine sw_st (st' := []) rfl ?_
    refine sw_aload_n (pc := 23) hc dX7_countsAnew_23 rfl 0 rfl ?_
    refine sw_get (pc := 24) (v := .ref (ad 17 0)) hc fl_RX7_31 (hQ0.at ct0) rfl dX7_countsAnew_24 ?_
    refine sw_callV (pc := 27) (rest := []) hc (c_X1_isHome l g Cz0 (ad 17 0) ((heroR σ (iN (σ 17 k)), gh.2).1) (hQ0.at ct17)) md_X1_isHome ml_RX7_198 im_X1_isHome sl_X1_isHome (hQ0.at ct17) rfl rfl rfl (Nat.le_of_ble_eq_true rfl) dX7_countsAnew_27 ⟨Nat.le_of_ble_eq_true rfl, Nat.le_of_ble_eq_true rfl, Nat.le_of_ble_eq_true rfl, Nat.le_of_ble_eq_true rfl⟩ (fun v C' hP => ?_) (fun _ _ h => h.elim)
    obtain ⟨rfl, hCC⟩ := hP
    refine sw_eq (C' := Cz0) hCC ?_
    refine sw_st (st' := [.int (bI (((heroR σ (iN (σ 17 k)), gh.2).1) 11 = 1))]) rfl ?_
    refine sw_if_eq (pc := 30) (tgt := 55) hc dX7_countsAnew_30 (by decide) (fun c_2 => ?_) (fun c_2 => ?_)
    ·
      have p_3 : ¬ (((heroR σ (iN (σ 17 k)), gh.2).1) 11 = 1) := bI_0 c_2
      exact absurd (hW.run hk).2.2.2.2.2 p_3
    ·
      have p_4 : ((heroR σ (iN (σ 17 k)), gh.2).1) 11 = 1 := bI_n c_2
      refine sw_aload_n (pc := 33) hc dX7_countsAnew_33 rfl 1 rfl ?_
      refine sw_get (pc := 34) (v := .ref (ad 11 (iN (σ 19 k)))) hc fl_RX7_226 (hQ0.at (ct15 (k := k) hk)) rfl dX7_countsAnew_34 ?_
      refine sw_aload_n (pc := 37) hc dX7_countsAnew_37 rfl 1 rfl ?_
      refine sw_get (pc := 38) (v := .int (σ 20 k)) hc fl_RX7_230 (hQ0.at (ct15 (k := k) hk)) rfl dX7_countsAnew_38 ?_
      refine sw_aload_n (pc := 41) hc dX7_countsAnew_41 rfl 0 rfl ?_
      refine sw_get (pc := 42) (v := .ref (ad 17 0)) hc fl_RX7_31 (hQ0.at ct0) rfl dX7_countsAnew_42 ?_
      refine sw_callV (pc := 45) (rest := []) hc (c_X0_refuses l g Cz0 ad own (heroR σ (iN (σ 17 k)), gh.2) σ (iN (σ 19 k)) (σ 20 k) (ad 17 0) ((heroR σ (iN (σ 17 k)), gh.2).1) hQ0 hW (hW.wc hk) (hQ0.at ct17)) md_X0_refuses ml_RX7_235 im_X0_refuses sl_X0_refuses (hQ0.at (ct11 (k := (iN (σ 19 k))) (hW.wc hk))) rfl rfl rfl (Nat.le_of_ble_eq_true rfl) dX7_countsAnew_45 ⟨Nat.le_of_ble_eq_true rfl, Nat.le_of_ble_eq_true rfl, Nat.le_of_ble_eq_true rfl, Nat.le_of_ble_eq_true rfl⟩ (fun v C' hP => ?_) (fun _ _ h => h.elim)
      obtain ⟨rfl, hCC⟩ := hP
      refine sw_eq (C' := Cz0) hCC ?_
      refine sw_st (st' := [.int ((cRf σ (iN (σ 19 k)) (σ 20 k) ((heroR σ (iN (σ 17 k)), gh.2).1) (iN (σ 11 (iN (σ 19 k))))).2)]) rfl ?_
      refine sw_st (st' := [.int (bI (rRef σ k))]) (congrArg (fun z => ([.int z] : List Value)) (cRf_run hW hk : (cRf σ (iN (σ 19 k)) (σ 20 k) ((heroR σ (iN (σ 17 k)), gh.2).1) (iN (σ 11 (iN (σ 19 k))))).2 = bI (rRef σ k))) ?_
      refine sw_if_ne (pc := 48) (tgt := 55) hc dX7_countsAnew_48 (by decide) (fun c_5 => ?_) (fun c_5 => ?_)
      ·
        have p_6 : rRef σ k := bI_n c_5
        refine sw_iconst (pc := 55) (v := 0) hc dX7_countsAnew_55 (by decide) ?_
        exact sw_iret (pc := 56) hc hlk hrt rfl ⟨congrArg (fun z => some (Value.int z)) (bI_f (P := rCnt σ k) (fun q => q.2 p_6)).symm, _, hQ0, hF0, fun _ => (hW.run hk).2.1.symm⟩ (Nat.le_of_ble_eq_true rfl) (Nat.le_of_ble_eq_true rfl) dX7_countsAnew_56
      ·
        have p_7 : ¬ (rRef σ k) := bI_0 c_5
        refine sw_iconst (pc := 51) (v := 1) hc dX7_countsAnew_51 (by decide) ?_
        refine sw_goto (pc := 52) (tgt := 56) hc dX7_countsAnew_52 (by decide) ?_
        exact sw_iret (pc := 56) hc hlk hrt rfl ⟨congrArg (fun z => some (Value.int z)) (bI_t (P := rCnt σ k) ⟨c_1, p_7⟩).symm, _, hQ0, hF0, fun _ => (hW.run hk).2.1.symm⟩ (Nat.le_of_ble_eq_true rfl) (Nat.le_of_ble_eq_true rfl) dX7_countsAnew_56
  ·
    refine sw_iconst (pc := 7) (v := 0) hc dX7_countsAnew_7 (by decide) ?_
    exact sw_iret (pc := 8) hc hlk hrt rfl ⟨congrArg (fun z => some (Value.int z)) (bI_f (P := rCnt σ k) (fun q => c_1 q.1)).symm, gh.1, hQ, Frm.refl, fun q => absurd q.1 c_1⟩ (Nat.le_of_ble_eq_true rfl) (Nat.le_of_ble_eq_true rfl) dX7_countsAnew_8

set_option maxHeartbeats 4000000 in
set_option maxRecDepth 100000 in
theorem c_X7_result (l : Launch) (g : sg_G) (C : Nat → Option va_E) (ad : Ad) (own : Nat → Option (Nat × Nat)) (gh : Gh) (σ : Mem) (x : Int32) (hQ : Pic g ad own gh σ C) (hW : WX σ) (hg : gOk gh) (hst : l.stackTraces = false) : sg_Met l yX7_result cX7_result 3 (some .int) 7 103 16 96 g [.ref (ad 0 0), .int x] C (fun v C' => v = some (.int (vResult σ x)) ∧ ¬ 0 < kIn σ 9 x ∧ PH g (ad 0 0) own C (fResult σ x) C') (fun E C' => ((E = "java/lang/IndexOutOfBoundsException" ∧ kIn σ 9 x = 1)) ∧ PH g (ad 0 0) own C (fResult σ x) C') := by
  refine sg_ofW (by decide) rfl ?_ (Nat.le_of_ble_eq_true rfl)
  intro p e s m below meth c hc hlk hrt hin2 htb
  have hc : sg_Cx p s m _ c cX7_result 3 RX7 g := hc
  show sg_W p l e _ s m _ below meth c 3 g 0 0 _ C 0 [(0, .ref (ad 0 0)), (1, .int x)] []
  refine sw_aload_n (pc := 0) hc dX7_result_0 rfl 0 rfl ?_
  refine sw_iload_n (pc := 1) hc dX7_result_1 rfl 1 rfl ?_
  refine sw_callV (pc := 2) (rest := []) hc (c_X7_replayOf l g C ad own gh σ x hQ hW hst) md_X7_replayOf ml_RX7_98 im_X7_replayOf sl_X7_replayOf (hQ.at ct0) rfl rfl rfl (Nat.le_of_ble_eq_true rfl) dX7_result_2 ⟨Nat.le_of_ble_eq_true rfl, Nat.le_of_ble_eq_true rfl, Nat.le_of_ble_eq_true rfl, Nat.le_of_ble_eq_true rfl⟩ (fun v C' hP => ?_) (fun E C' hX => sx_out htb hlk (⟨⟨hX.1, if_neg hX.2.1⟩, by rw [hX.2.2]; exact PH.q hQ hW hg (fr_result σ x)⟩) (Nat.le_of_ble_eq_true rfl) (Nat.le_of_ble_eq_true rfl))
  obtain ⟨rfl, o_1, hCC⟩ := hP
  refine sw_eq (C' := C) hCC ?_
  obtain ⟨o_1_x, o_1_l⟩ := rIn_x hW.1.2.1 (by decide) o_1
  refine sw_st (st' := [.ref (ad 7 (iN x))]) rfl ?_
  refine sw_get (pc := 5) (v := .ref (ad 10 (iN x))) hc fl_RX7_119 (hQ.at (ct7 (k := (iN x)) o_1_l)) rfl dX7_result_5 ?_
  refine sw_astore_n (pc := 8) hc dX7_result_8 rfl (by decide) (lv' := [(2, .ref (ad 10 (iN x))), (0, .ref (ad 0 0)), (1, .int x)]) rfl ?_
  refine sw_bipush (pc := 9) (v := 10) hc dX7_result_9 (by decide) ?_
  refine sw_aload_n (pc := 11) hc dX7_result_11 rfl 0 rfl ?_
  refine sw_get (pc := 12) (v := .int ((heroR σ (iN x)) 10)) hc fl_RX7_122 (hQ.at (ct10 (k := (iN x)) o_1_l)) rfl dX7_result_12 ?_
  refine sw_imul (pc := 15) hc dX7_result_15 ?_
  refine sw_aload_n (pc := 16) hc dX7_result_16 rfl 0 rfl ?_
  refine sw_get (pc := 17) (v := .int ((heroR σ (iN x)) 11)) hc fl_RX7_125 (hQ.at (ct10 (k := (iN x)) o_1_l)) rfl dX7_result_17 ?_
  refine sw_iadd (pc := 20) hc dX7_result_20 ?_
  exact sw_iret (pc := 21) hc hlk hrt rfl ⟨congrArg (fun z => some (Value.int z)) (show (10 * ((heroR σ (iN x)) 10)) + ((heroR σ (iN x)) 11) = vResult σ x from (vResult_c hW o_1).symm), kIn_y o_1, PH.q hQ hW hg (fr_result σ x)⟩ (Nat.le_of_ble_eq_true rfl) (Nat.le_of_ble_eq_true rfl) dX7_result_21

set_option maxHeartbeats 4000000 in
set_option maxRecDepth 100000 in
theorem c_X7_where (l : Launch) (g : sg_G) (C : Nat → Option va_E) (ad : Ad) (own : Nat → Option (Nat × Nat)) (gh : Gh) (σ : Mem) (x : Int32) (t : Int32) (hQ : Pic g ad own gh σ C) (hW : WX σ) (hg : gOk gh) (hst : l.stackTraces = false) : sg_Met l yX7_where cX7_where 4 (some .int) 7 119 16 96 g [.ref (ad 0 0), .int x, .int t] C (fun v C' => v = some (.int (vWhere σ x t)) ∧ ¬ 0 < kWhere σ x t ∧ PH g (ad 0 0) own C (fWhere σ x t) C') (fun E C' => ((E = "java/lang/IndexOutOfBoundsException" ∧ kWhere σ x t = 1)) ∧ PH g (ad 0 0) own C (fWhere σ x t) C') := by
  refine sg_ofW (by decide) rfl ?_ (Nat.le_of_ble_eq_true rfl)
  intro p e s m below meth c hc hlk hrt hin2 htb
  have hc : sg_Cx p s m _ c cX7_where 4 RX7 g := hc
  show sg_W p l e _ s m _ below meth c 4 g 0 0 _ C 0 [(0, .ref (ad 0 0)), (1, .int x), (2, .int t)] []
  refine sw_aload_n (pc := 0) hc dX7_where_0 rfl 0 rfl ?_
  refine sw_iload_n (pc := 1) hc dX7_where_1 rfl 1 rfl ?_
  refine sw_callV (pc := 2) (rest := []) hc (c_X7_replayOf l g C ad own gh σ x hQ hW hst) md_X7_replayOf ml_RX7_98 im_X7_replayOf sl_X7_replayOf (hQ.at ct0) rfl rfl rfl (Nat.le_of_ble_eq_true rfl) dX7_where_2 ⟨Nat.le_of_ble_eq_true rfl, Nat.le_of_ble_eq_true rfl, Nat.le_of_ble_eq_true rfl, Nat.le_of_ble_eq_true rfl⟩ (fun v C' hP => ?_) (fun E C' hX => sx_out htb hlk (⟨⟨hX.1, kWhere_n1 hX.2.1⟩, by rw [hX.2.2]; exact PH.q hQ hW hg (fr_where σ x _)⟩) (Nat.le_of_ble_eq_true rfl) (Nat.le_of_ble_eq_true rfl))
  obtain ⟨rfl, o_1, hCC⟩ := hP
  refine sw_eq (C' := C) hCC ?_
  obtain ⟨o_1_x, o_1_l⟩ := rIn_x hW.1.2.1 (by decide) o_1
  refine sw_st (st' := [.ref (ad 7 (iN x))]) rfl ?_
  refine sw_astore_n (pc := 5) hc dX7_where_5 rfl (by decide) (lv' := [(3, .ref (ad 7 (iN x))), (0, .ref (ad 0 0)), (1, .int x), (2, .int t)]) rfl ?_
  refine sw_iload_n (pc := 6) hc dX7_where_6 rfl 3 rfl ?_
  refine sw_iconst (pc := 7) (v := 0) hc dX7_where_7 (by decide) ?_
  refine sw_aload_n (pc := 8) hc dX7_where_8 rfl 0 rfl ?_
  refine sw_get (pc := 9) (v := .ref (ad 10 (iN x))) hc fl_RX7_119 (hQ.at (ct7 (k := (iN x)) o_1_l)) rfl dX7_where_9 ?_
  refine sw_get (pc := 12) (v := .int ((heroR σ (iN x)) 10)) hc fl_RX7_122 (hQ.at (ct10 (k := (iN x)) o_1_l)) rfl dX7_where_12 ?_
  refine sw_callS (pc := 15) (rest := []) hc (c_X7_isWithin l g C t 0 ((heroR σ (iN x)) 10) ) md_X7_isWithin ml_RX7_68 st_X7_isWithin rfl rfl (Nat.le_of_ble_eq_true rfl) dX7_where_15 ⟨Nat.le_of_ble_eq_true rfl, Nat.le_of_ble_eq_true rfl, Nat.le_of_ble_eq_true rfl, Nat.le_of_ble_eq_true rfl⟩ (fun v C' hP => ?_) (fun _ _ h => h.elim)
  obtain ⟨rfl, hCC⟩ := hP
  refine sw_eq (C' := C) hCC ?_
  refine sw_st (st' := [.int (bI (0 ≤ t ∧ t ≤ ((heroR σ (iN x)) 10)))]) rfl ?_
  refine sw_if_ne (pc := 18) (tgt := 31) hc dX7_where_18 (by decide) (fun c_2 => ?_) (fun c_2 => ?_)
  ·
    have p_3 : 0 ≤ t ∧ t ≤ ((heroR σ (iN x)) 10) := bI_n c_2
    refine sw_aload_n (pc := 31) hc dX7_where_31 rfl 0 rfl ?_
    refine sw_aload_n (pc := 32) hc dX7_where_32 rfl 1 rfl ?_
    refine sw_get (pc := 33) (v := .ref (ad 17 0)) hc fl_RX7_31 (hQ.at ct0) rfl dX7_where_33 ?_
    refine sw_iload_n (pc := 36) hc dX7_where_36 rfl 3 rfl ?_
    obtain ⟨T, hT1, hT2, hT3⟩ := heroR_10 (r := iN x) hW
    obtain ⟨t0, ht0, ht⟩ := nI_of (Int32.not_lt.mpr p_3.1)
    subst ht
    have htT : t0 ≤ 500 := by have := p_3.2; rw [hT1] at this; have := (nI_leI ht0 (by omega)).mp this; omega
    refine sw_callV (pc := 37) (rest := []) hc (c_againT l hQ hW o_1_l (T := t0) htT) md_X4_runAgain ml_RX7_139 im_X4_runAgain sl_X4_runAgain (hQ.at (ct7 (k := (iN x)) o_1_l)) rfl rfl rfl (Nat.le_of_ble_eq_true rfl) dX7_where_37 ⟨Nat.le_of_ble_eq_true rfl, Nat.le_of_ble_eq_true rfl, Nat.le_of_ble_eq_true rfl, Nat.le_of_ble_eq_true rfl⟩ (fun v Cz1 hP => ?_) (fun _ _ h => h.elim)
    obtain ⟨rfl, hCC⟩ := hP
    obtain ⟨hQ1, hF1⟩ := hQ.hero (heroT σ (iN x) (nI t0))
    rw [← hCC] at hQ1 hF1
    refine sw_st (st' := []) rfl ?_
    refine sw_sipush (pc := 40) (v := 1000) hc dX7_where_40 (by decide) ?_
    refine sw_aload_n (pc := 43) hc dX7_where_43 rfl 1 rfl ?_
    refine sw_get (pc := 44) (v := .ref (ad 17 0)) hc fl_RX7_31 (hQ1.at ct0) rfl dX7_where_44 ?_
    refine sw_get (pc := 47) (v := .int (((heroT σ (iN x) (nI t0), gh.2).1) 1)) hc fl_RX7_143 (hQ1.at ct17) rfl dX7_where_47 ?_
    refine sw_imul (pc := 50) hc dX7_where_50 ?_
    refine sw_aload_n (pc := 51) hc dX7_where_51 rfl 1 rfl ?_
    refine sw_get (pc := 52) (v := .ref (ad 17 0)) hc fl_RX7_31 (hQ1.at ct0) rfl dX7_where_52 ?_
    refine sw_get (pc := 55) (v := .int (((heroT σ (iN x) (nI t0), gh.2).1) 0)) hc fl_RX7_146 (hQ1.at ct17) rfl dX7_where_55 ?_
    refine sw_iadd (pc := 58) hc dX7_where_58 ?_
    exact sw_iret (pc := 59) hc hlk hrt rfl ⟨congrArg (fun z => some (Value.int z)) (show (1000 * (((heroT σ (iN x) (nI t0), gh.2).1) 1)) + (((heroT σ (iN x) (nI t0), gh.2).1) 0) = vWhere σ x (nI t0) from (vWhere_c hW o_1 p_3 htT).symm), (by rw [kWhere_y o_1 p_3]; decide), ⟨ad, own, _, Pic.fr hQ1 hW (fr_where σ x _), hF1, hg, hW.fr (fr_where σ x _), rfl⟩⟩ (Nat.le_of_ble_eq_true rfl) (Nat.le_of_ble_eq_true rfl) dX7_where_59
  ·
    have p_4 : ¬ (0 ≤ t ∧ t ≤ ((heroR σ (iN x)) 10)) := bI_0 c_2
    exact sw_throw (pc := 21) hc hst th_RX7_72 (text := "no such tick") (by decide +kernel) dX7_where_21 dX7_where_24 dX7_where_25 dX7_where_27 dX7_where_30 htb hlk ⟨Nat.le_of_ble_eq_true rfl, Nat.le_of_ble_eq_true rfl, Nat.le_of_ble_eq_true rfl, Nat.le_of_ble_eq_true rfl⟩ ⟨⟨rfl, kWhere_n2 o_1 p_4⟩, PH.q hQ hW hg (fr_where σ x _)⟩ (Nat.le_of_ble_eq_true rfl) (Nat.le_of_ble_eq_true rfl)

set_option maxHeartbeats 4000000 in
set_option maxRecDepth 100000 in
theorem c_X7_judged (l : Launch) (g : sg_G) (C : Nat → Option va_E) (ad : Ad) (own : Nat → Option (Nat × Nat)) (gh : Gh) (σ : Mem) (x : Int32) (hQ : Pic g ad own gh σ C) (hW : WX σ) (hg : gOk gh) (hst : l.stackTraces = false) : sg_Met l yX7_judged cX7_judged 5 (some .int) 7 110 16 96 g [.ref (ad 0 0), .int x] C (fun v C' => v = some (.int (vJudged σ x)) ∧ ¬ 0 < kIn σ 26 x ∧ PH g (ad 0 0) own C (fIn σ 26 x) C') (fun E C' => ((E = "java/lang/IndexOutOfBoundsException" ∧ kIn σ 26 x = 1)) ∧ PH g (ad 0 0) own C (fIn σ 26 x) C') := by
  refine sg_ofW (by decide) rfl ?_ (Nat.le_of_ble_eq_true rfl)
  intro p e s m below meth c hc hlk hrt hin2 htb
  have hc : sg_Cx p s m _ c cX7_judged 5 RX7 g := hc
  show sg_W p l e _ s m _ below meth c 5 g 0 0 _ C 0 [(0, .ref (ad 0 0)), (1, .int x)] []
  refine sw_aload_n (pc := 0) hc dX7_judged_0 rfl 0 rfl ?_
  refine sw_iload_n (pc := 1) hc dX7_judged_1 rfl 1 rfl ?_
  refine sw_callV (pc := 2) (rest := []) hc (c_X7_runOf l g C ad own gh σ x hQ hW hst) md_X7_runOf ml_RX7_209 im_X7_runOf sl_X7_runOf (hQ.at ct0) rfl rfl rfl (Nat.le_of_ble_eq_true rfl) dX7_judged_2 ⟨Nat.le_of_ble_eq_true rfl, Nat.le_of_ble_eq_true rfl, Nat.le_of_ble_eq_true rfl, Nat.le_of_ble_eq_true rfl⟩ (fun v C' hP => ?_) (fun E C' hX => sx_out htb hlk (⟨⟨hX.1, if_neg hX.2.1⟩, by rw [hX.2.2]; exact PH.q hQ hW hg (f42 _)⟩) (Nat.le_of_ble_eq_true rfl) (Nat.le_of_ble_eq_true rfl))
  obtain ⟨rfl, o_1, hCC⟩ := hP
  refine sw_eq (C' := C) hCC ?_
  obtain ⟨o_1_x, o_1_l⟩ := rIn_x hW.1.2.2.2.1 (by decide) o_1
  refine sw_st (st' := [.ref (ad 15 (iN x))]) rfl ?_
  refine sw_astore_n (pc := 5) hc dX7_judged_5 rfl (by decide) (lv' := [(2, .ref (ad 15 (iN x))), (0, .ref (ad 0 0)), (1, .int x)]) rfl ?_
  refine sw_aload_n (pc := 6) hc dX7_judged_6 rfl 0 rfl ?_
  refine sw_callS (pc := 7) (rest := []) hc (c_X7_isRefused l g C ad own gh σ (iN x) hQ hW o_1_l) md_X7_isRefused ml_RX7_213 st_X7_isRefused rfl rfl (Nat.le_of_ble_eq_true rfl) dX7_judged_7 ⟨Nat.le_of_ble_eq_true rfl, Nat.le_of_ble_eq_true rfl, Nat.le_of_ble_eq_true rfl, Nat.le_of_ble_eq_true rfl⟩ (fun v C' hP => ?_) (fun _ _ h => h.elim)
  obtain ⟨rfl, hCC⟩ := hP
  refine sw_eq (C' := C) hCC ?_
  refine sw_st (st' := [.int (bI (rRef σ (iN x)))]) rfl ?_
  refine sw_if_eq (pc := 10) (tgt := 17) hc dX7_judged_10 (by decide) (fun c_2 => ?_) (fun c_2 => ?_)
  ·
    have p_3 : ¬ (rRef σ (iN x)) := bI_0 c_2
    refine sw_iconst (pc := 17) (v := 0) hc dX7_judged_17 (by decide) ?_
    refine sw_istore_n (pc := 18) hc dX7_judged_18 rfl (by decide) (lv' := [(3, .int 0), (2, .ref (ad 15 (iN x))), (0, .ref (ad 0 0)), (1, .int x)]) rfl ?_
    refine sw_aload_n (pc := 19) hc dX7_judged_19 rfl 1 rfl ?_
    refine sw_get (pc := 20) (v := .int (σ 21 (iN x))) hc fl_RX7_217 (hQ.at (ct15 (k := (iN x)) o_1_l)) rfl dX7_judged_20 ?_
    refine sw_if_eq (pc := 23) (tgt := 30) hc dX7_judged_23 (by decide) (fun c_4 => ?_) (fun c_4 => ?_)
    ·
      refine sw_iconst (pc := 30) (v := 0) hc dX7_judged_30 (by decide) ?_
      refine sw_istore (pc := 31) hc dX7_judged_31 (by decide) (lv' := [(4, .int 0), (3, .int 0), (2, .ref (ad 15 (iN x))), (0, .ref (ad 0 0)), (1, .int x)]) rfl ?_
      refine sw_iload_n (pc := 33) hc dX7_judged_33 rfl 1 rfl ?_
      refine sw_iload (pc := 34) hc dX7_judged_34 0 rfl ?_
      refine sw_iadd (pc := 36) hc dX7_judged_36 ?_
      have h21 : σ 21 (iN x) = 0 := c_4
      exact sw_iret (pc := 37) hc hlk hrt rfl ⟨congrArg (fun z => some (Value.int z)) (show 0 + 0 = vJudged σ x by rw [vJudged_c o_1, bI_f p_3, h21]; decide), kIn_y o_1, PH.q hQ hW hg (f42 _)⟩ (Nat.le_of_ble_eq_true rfl) (Nat.le_of_ble_eq_true rfl) dX7_judged_37
    ·
      refine sw_iconst (pc := 26) (v := 2) hc dX7_judged_26 (by decide) ?_
      refine sw_goto (pc := 27) (tgt := 31) hc dX7_judged_27 (by decide) ?_
      refine sw_istore (pc := 31) hc dX7_judged_31 (by decide) (lv' := [(4, .int 2), (3, .int 0), (2, .ref (ad 15 (iN x))), (0, .ref (ad 0 0)), (1, .int x)]) rfl ?_
      refine sw_iload_n (pc := 33) hc dX7_judged_33 rfl 1 rfl ?_
      refine sw_iload (pc := 34) hc dX7_judged_34 0 rfl ?_
      refine sw_iadd (pc := 36) hc dX7_judged_36 ?_
      have h21 : σ 21 (iN x) = 1 := (hW.2.2.2.2.1.2 (iN x)).resolve_left c_4
      exact sw_iret (pc := 37) hc hlk hrt rfl ⟨congrArg (fun z => some (Value.int z)) (show 0 + 2 = vJudged σ x by rw [vJudged_c o_1, bI_f p_3, h21]; decide), kIn_y o_1, PH.q hQ hW hg (f42 _)⟩ (Nat.le_of_ble_eq_true rfl) (Nat.le_of_ble_eq_true rfl) dX7_judged_37
  ·
    have p_5 : rRef σ (iN x) := bI_n c_2
    refine sw_iconst (pc := 13) (v := 1) hc dX7_judged_13 (by decide) ?_
    refine sw_goto (pc := 14) (tgt := 18) hc dX7_judged_14 (by decide) ?_
    refine sw_istore_n (pc := 18) hc dX7_judged_18 rfl (by decide) (lv' := [(3, .int 1), (2, .ref (ad 15 (iN x))), (0, .ref (ad 0 0)), (1, .int x)]) rfl ?_
    refine sw_aload_n (pc := 19) hc dX7_judged_19 rfl 1 rfl ?_
    refine sw_get (pc := 20) (v := .int (σ 21 (iN x))) hc fl_RX7_217 (hQ.at (ct15 (k := (iN x)) o_1_l)) rfl dX7_judged_20 ?_
    refine sw_if_eq (pc := 23) (tgt := 30) hc dX7_judged_23 (by decide) (fun c_6 => ?_) (fun c_6 => ?_)
    ·
      refine sw_iconst (pc := 30) (v := 0) hc dX7_judged_30 (by decide) ?_
      refine sw_istore (pc := 31) hc dX7_judged_31 (by decide) (lv' := [(4, .int 0), (3, .int 1), (2, .ref (ad 15 (iN x))), (0, .ref (ad 0 0)), (1, .int x)]) rfl ?_
      refine sw_iload_n (pc := 33) hc dX7_judged_33 rfl 1 rfl ?_
      refine sw_iload (pc := 34) hc dX7_judged_34 0 rfl ?_
      refine sw_iadd (pc := 36) hc dX7_judged_36 ?_
      have h21 : σ 21 (iN x) = 0 := c_6
      exact sw_iret (pc := 37) hc hlk hrt rfl ⟨congrArg (fun z => some (Value.int z)) (show 1 + 0 = vJudged σ x by rw [vJudged_c o_1, bI_t p_5, h21]; decide), kIn_y o_1, PH.q hQ hW hg (f42 _)⟩ (Nat.le_of_ble_eq_true rfl) (Nat.le_of_ble_eq_true rfl) dX7_judged_37
    ·
      refine sw_iconst (pc := 26) (v := 2) hc dX7_judged_26 (by decide) ?_
      refine sw_goto (pc := 27) (tgt := 31) hc dX7_judged_27 (by decide) ?_
      refine sw_istore (pc := 31) hc dX7_judged_31 (by decide) (lv' := [(4, .int 2), (3, .int 1), (2, .ref (ad 15 (iN x))), (0, .ref (ad 0 0)), (1, .int x)]) rfl ?_
      refine sw_iload_n (pc := 33) hc dX7_judged_33 rfl 1 rfl ?_
      refine sw_iload (pc := 34) hc dX7_judged_34 0 rfl ?_
      refine sw_iadd (pc := 36) hc dX7_judged_36 ?_
      have h21 : σ 21 (iN x) = 1 := (hW.2.2.2.2.1.2 (iN x)).resolve_left c_6
      exact sw_iret (pc := 37) hc hlk hrt rfl ⟨congrArg (fun z => some (Value.int z)) (show 1 + 2 = vJudged σ x by rw [vJudged_c o_1, bI_t p_5, h21]; decide), kIn_y o_1, PH.q hQ hW hg (f42 _)⟩ (Nat.le_of_ble_eq_true rfl) (Nat.le_of_ble_eq_true rfl) dX7_judged_37

set_option maxHeartbeats 4000000 in
set_option maxRecDepth 100000 in
theorem c_X7_place (l : Launch) (g : sg_G) (C : Nat → Option va_E) (ad : Ad) (own : Nat → Option (Nat × Nat)) (gh : Gh) (σ : Mem) (x : Int32) (y : Int32) (hQ : Pic g ad own gh σ C) (hW : WX σ) (hg : gOk gh) (hst : l.stackTraces = false) : sg_Met l yX7_place cX7_place 4 (some .int) 8 183 16 96 g [.ref (ad 0 0), .int x, .int y] C (fun v C' => v = some (.int (vPlace σ x y)) ∧ ¬ 0 < kPair σ x y ∧ PH g (ad 0 0) own C (fPair σ x y) C') (fun E C' => ((E = "java/lang/IndexOutOfBoundsException" ∧ kPair σ x y = 1)) ∧ PH g (ad 0 0) own C (fPair σ x y) C') := by
  refine sg_ofW (by decide) rfl ?_ (Nat.le_of_ble_eq_true rfl)
  intro p e s m below meth c hc hlk hrt hin2 htb
  have hc : sg_Cx p s m _ c cX7_place 4 RX7 g := hc
  show sg_W p l e _ s m _ below meth c 4 g 0 0 _ C 0 [(0, .ref (ad 0 0)), (1, .int x), (2, .int y)] []
  refine sw_aload_n (pc := 0) hc dX7_place_0 rfl 0 rfl ?_
  refine sw_iload_n (pc := 1) hc dX7_place_1 rfl 1 rfl ?_
  refine sw_callV (pc := 2) (rest := []) hc (c_X7_categoryOf l g C ad own gh σ x hQ hW hst) md_X7_categoryOf ml_RX7_171 im_X7_categoryOf sl_X7_categoryOf (hQ.at ct0) rfl rfl rfl (Nat.le_of_ble_eq_true rfl) dX7_place_2 ⟨Nat.le_of_ble_eq_true rfl, Nat.le_of_ble_eq_true rfl, Nat.le_of_ble_eq_true rfl, Nat.le_of_ble_eq_true rfl⟩ (fun v C' hP => ?_) (fun E C' hX => sx_out htb hlk (⟨⟨hX.1, if_neg (fun q => hX.2.1 q.1)⟩, by rw [hX.2.2]; exact PH.q hQ hW hg (f42 _)⟩) (Nat.le_of_ble_eq_true rfl) (Nat.le_of_ble_eq_true rfl))
  obtain ⟨rfl, o_1, hCC⟩ := hP
  refine sw_eq (C' := C) hCC ?_
  obtain ⟨o_1_x, o_1_l⟩ := rIn_x hW.1.2.2.1 (by decide) o_1
  refine sw_st (st' := [.ref (ad 11 (iN x))]) rfl ?_
  refine sw_astore_n (pc := 5) hc dX7_place_5 rfl (by decide) (lv' := [(3, .ref (ad 11 (iN x))), (0, .ref (ad 0 0)), (1, .int x), (2, .int y)]) rfl ?_
  refine sw_iload_n (pc := 6) hc dX7_place_6 rfl 3 rfl ?_
  refine sw_callS (pc := 7) (rest := []) hc (c_X7_requireRunner l g C y hst) md_X7_requireRunner ml_RX7_191 st_X7_requireRunner rfl rfl (Nat.le_of_ble_eq_true rfl) dX7_place_7 ⟨Nat.le_of_ble_eq_true rfl, Nat.le_of_ble_eq_true rfl, Nat.le_of_ble_eq_true rfl, Nat.le_of_ble_eq_true rfl⟩ (fun v C' hP => ?_) (fun E C' hX => sx_out htb hlk (⟨⟨hX.1, if_neg (fun q => hX.2.1 q.2)⟩, by rw [hX.2.2]; exact PH.q hQ hW hg (f42 _)⟩) (Nat.le_of_ble_eq_true rfl) (Nat.le_of_ble_eq_true rfl))
  obtain ⟨rfl, o_2, hCC⟩ := hP
  refine sw_eq (C' := C) hCC ?_
  refine sw_st (st' := []) rfl ?_
  refine sw_aload_n (pc := 10) hc dX7_place_10 rfl 1 rfl ?_
  refine sw_aload_n (pc := 11) hc dX7_place_11 rfl 0 rfl ?_
  refine sw_iload_n (pc := 12) hc dX7_place_12 rfl 3 rfl ?_
  refine sw_null (pc := 13) hc dX7_place_13 ?_
  refine sw_callV (pc := 14) (rest := []) hc (c_X7_placeFor l g C ad own gh σ (iN x) y (-1) hQ hW o_1_l (.inl (by decide))) md_X7_placeFor ml_RX7_253 im_X7_placeFor sl_X7_placeFor (hQ.at ct0) rfl rfl rfl (Nat.le_of_ble_eq_true rfl) dX7_place_14 ⟨Nat.le_of_ble_eq_true rfl, Nat.le_of_ble_eq_true rfl, Nat.le_of_ble_eq_true rfl, Nat.le_of_ble_eq_true rfl⟩ (fun v C' hP => ?_) (fun _ _ h => h.elim)
  obtain ⟨rfl, hCC⟩ := hP
  refine sw_eq (C' := C) hCC ?_
  refine sw_st (st' := [.int (rSpot σ (nI (iN x)) y (-1))]) rfl ?_
  have hpr : rPair σ x y := ⟨o_1, o_2⟩
  have hxx : nI (iN x) = x := o_1_x.symm
  exact sw_iret (pc := 17) hc hlk hrt rfl ⟨congrArg (fun z => some (Value.int z)) (show rSpot σ (nI (iN x)) y (-1) = vPlace σ x y by rw [vPlace_c hpr, hxx]), kPair_y hpr, PH.q hQ hW hg (f42 _)⟩ (Nat.le_of_ble_eq_true rfl) (Nat.le_of_ble_eq_true rfl) dX7_place_17

set_option maxHeartbeats 4000000 in
set_option maxRecDepth 100000 in
theorem c_X7_estimate (l : Launch) (g : sg_G) (C : Nat → Option va_E) (ad : Ad) (own : Nat → Option (Nat × Nat)) (gh : Gh) (σ : Mem) (x : Int32) (y : Int32) (hQ : Pic g ad own gh σ C) (hW : WX σ) (hg : gOk gh) (hst : l.stackTraces = false) : sg_Met l yX7_estimate cX7_estimate 4 (some .int) 7 156 16 96 g [.ref (ad 0 0), .int x, .int y] C (fun v C' => v = some (.int (vEst σ x y)) ∧ ¬ 0 < kPair σ x y ∧ PH g (ad 0 0) own C (fPair σ x y) C') (fun E C' => ((E = "java/lang/IndexOutOfBoundsException" ∧ kPair σ x y = 1)) ∧ PH g (ad 0 0) own C (fPair σ x y) C') := by
  refine sg_ofW (by decide) rfl ?_ (Nat.le_of_ble_eq_true rfl)
  intro p e s m below meth c hc hlk hrt hin2 htb
  have hc : sg_Cx p s m _ c cX7_estimate 4 RX7 g := hc
  show sg_W p l e _ s m _ below meth c 4 g 0 0 _ C 0 [(0, .ref (ad 0 0)), (1, .int x), (2, .int y)] []
  refine sw_aload_n (pc := 0) hc dX7_estimate_0 rfl 0 rfl ?_
  refine sw_iload_n (pc := 1) hc dX7_estimate_1 rfl 1 rfl ?_
  refine sw_callV (pc := 2) (rest := []) hc (c_X7_categoryOf l g C ad own gh σ x hQ hW hst) md_X7_categoryOf ml_RX7_171 im_X7_categoryOf sl_X7_categoryOf (hQ.at ct0) rfl rfl rfl (Nat.le_of_ble_eq_true rfl) dX7_estimate_2 ⟨Nat.le_of_ble_eq_true rfl, Nat.le_of_ble_eq_true rfl, Nat.le_of_ble_eq_true rfl, Nat.le_of_ble_eq_true rfl⟩ (fun v C' hP => ?_) (fun E C' hX => sx_out htb hlk (⟨⟨hX.1, if_neg (fun q => hX.2.1 q.1)⟩, by rw [hX.2.2]; exact PH.q hQ hW hg (f42 _)⟩) (Nat.le_of_ble_eq_true rfl) (Nat.le_of_ble_eq_true rfl))
  obtain ⟨rfl, o_1, hCC⟩ := hP
  refine sw_eq (C' := C) hCC ?_
  obtain ⟨o_1_x, o_1_l⟩ := rIn_x hW.1.2.2.1 (by decide) o_1
  refine sw_st (st' := [.ref (ad 11 (iN x))]) rfl ?_
  refine sw_astore_n (pc := 5) hc dX7_estimate_5 rfl (by decide) (lv' := [(3, .ref (ad 11 (iN x))), (0, .ref (ad 0 0)), (1, .int x), (2, .int y)]) rfl ?_
  refine sw_iload_n (pc := 6) hc dX7_estimate_6 rfl 3 rfl ?_
  refine sw_callS (pc := 7) (rest := []) hc (c_X7_requireRunner l g C y hst) md_X7_requireRunner ml_RX7_191 st_X7_requireRunner rfl rfl (Nat.le_of_ble_eq_true rfl) dX7_estimate_7 ⟨Nat.le_of_ble_eq_true rfl, Nat.le_of_ble_eq_true rfl, Nat.le_of_ble_eq_true rfl, Nat.le_of_ble_eq_true rfl⟩ (fun v C' hP => ?_) (fun E C' hX => sx_out htb hlk (⟨⟨hX.1, if_neg (fun q => hX.2.1 q.2)⟩, by rw [hX.2.2]; exact PH.q hQ hW hg (f42 _)⟩) (Nat.le_of_ble_eq_true rfl) (Nat.le_of_ble_eq_true rfl))
  obtain ⟨rfl, o_2, hCC⟩ := hP
  refine sw_eq (C' := C) hCC ?_
  refine sw_st (st' := []) rfl ?_
  refine sw_aload_n (pc := 10) hc dX7_estimate_10 rfl 1 rfl ?_
  refine sw_aload_n (pc := 11) hc dX7_estimate_11 rfl 0 rfl ?_
  refine sw_iload_n (pc := 12) hc dX7_estimate_12 rfl 3 rfl ?_
  refine sw_callV (pc := 13) (rest := []) hc (c_X7_estimateFor l g C ad own gh σ (iN x) y hQ hW o_1_l) md_X7_estimateFor ml_RX7_273 im_X7_estimateFor sl_X7_estimateFor (hQ.at ct0) rfl rfl rfl (Nat.le_of_ble_eq_true rfl) dX7_estimate_13 ⟨Nat.le_of_ble_eq_true rfl, Nat.le_of_ble_eq_true rfl, Nat.le_of_ble_eq_true rfl, Nat.le_of_ble_eq_true rfl⟩ (fun v C' hP => ?_) (fun _ _ h => h.elim)
  obtain ⟨rfl, hCC⟩ := hP
  refine sw_eq (C' := C) hCC ?_
  refine sw_st (st' := [.int (rGuess σ (nI (iN x)) y)]) rfl ?_
  have hpr : rPair σ x y := ⟨o_1, o_2⟩
  have hxx : nI (iN x) = x := o_1_x.symm
  exact sw_iret (pc := 16) hc hlk hrt rfl ⟨congrArg (fun z => some (Value.int z)) (show rGuess σ (nI (iN x)) y = vEst σ x y by rw [vEst_c hpr, hxx]), kPair_y hpr, PH.q hQ hW hg (f42 _)⟩ (Nat.le_of_ble_eq_true rfl) (Nat.le_of_ble_eq_true rfl) dX7_estimate_16

set_option maxHeartbeats 4000000 in
set_option maxRecDepth 100000 in
theorem c_X7_best (l : Launch) (g : sg_G) (C : Nat → Option va_E) (ad : Ad) (own : Nat → Option (Nat × Nat)) (gh : Gh) (σ : Mem) (x : Int32) (y : Int32) (hQ : Pic g ad own gh σ C) (hW : WX σ) (hg : gOk gh) (hst : l.stackTraces = false) : sg_Met l yX7_best cX7_best 5 (some .int) 7 156 16 96 g [.ref (ad 0 0), .int x, .int y] C (fun v C' => v = some (.int (vBest2 σ x y)) ∧ ¬ 0 < kPair σ x y ∧ PH g (ad 0 0) own C (fPair σ x y) C') (fun E C' => ((E = "java/lang/IndexOutOfBoundsException" ∧ kPair σ x y = 1)) ∧ PH g (ad 0 0) own C (fPair σ x y) C') := by
  refine sg_ofW (by decide) rfl ?_ (Nat.le_of_ble_eq_true rfl)
  intro p e s m below meth c hc hlk hrt hin2 htb
  have hc : sg_Cx p s m _ c cX7_best 5 RX7 g := hc
  show sg_W p l e _ s m _ below meth c 5 g 0 0 _ C 0 [(0, .ref (ad 0 0)), (1, .int x), (2, .int y)] []
  refine sw_aload_n (pc := 0) hc dX7_best_0 rfl 0 rfl ?_
  refine sw_iload_n (pc := 1) hc dX7_best_1 rfl 1 rfl ?_
  refine sw_callV (pc := 2) (rest := []) hc (c_X7_categoryOf l g C ad own gh σ x hQ hW hst) md_X7_categoryOf ml_RX7_171 im_X7_categoryOf sl_X7_categoryOf (hQ.at ct0) rfl rfl rfl (Nat.le_of_ble_eq_true rfl) dX7_best_2 ⟨Nat.le_of_ble_eq_true rfl, Nat.le_of_ble_eq_true rfl, Nat.le_of_ble_eq_true rfl, Nat.le_of_ble_eq_true rfl⟩ (fun v C' hP => ?_) (fun E C' hX => sx_out htb hlk (⟨⟨hX.1, if_neg (fun q => hX.2.1 q.1)⟩, by rw [hX.2.2]; exact PH.q hQ hW hg (f42 _)⟩) (Nat.le_of_ble_eq_true rfl) (Nat.le_of_ble_eq_true rfl))
  obtain ⟨rfl, o_1, hCC⟩ := hP
  refine sw_eq (C' := C) hCC ?_
  obtain ⟨o_1_x, o_1_l⟩ := rIn_x hW.1.2.2.1 (by decide) o_1
  refine sw_st (st' := [.ref (ad 11 (iN x))]) rfl ?_
  refine sw_astore_n (pc := 5) hc dX7_best_5 rfl (by decide) (lv' := [(3, .ref (ad 11 (iN x))), (0, .ref (ad 0 0)), (1, .int x), (2, .int y)]) rfl ?_
  refine sw_iload_n (pc := 6) hc dX7_best_6 rfl 3 rfl ?_
  refine sw_callS (pc := 7) (rest := []) hc (c_X7_requireRunner l g C y hst) md_X7_requireRunner ml_RX7_191 st_X7_requireRunner rfl rfl (Nat.le_of_ble_eq_true rfl) dX7_best_7 ⟨Nat.le_of_ble_eq_true rfl, Nat.le_of_ble_eq_true rfl, Nat.le_of_ble_eq_true rfl, Nat.le_of_ble_eq_true rfl⟩ (fun v C' hP => ?_) (fun E C' hX => sx_out htb hlk (⟨⟨hX.1, if_neg (fun q => hX.2.1 q.2)⟩, by rw [hX.2.2]; exact PH.q hQ hW hg (f42 _)⟩) (Nat.le_of_ble_eq_true rfl) (Nat.le_of_ble_eq_true rfl))
  obtain ⟨rfl, o_2, hCC⟩ := hP
  refine sw_eq (C' := C) hCC ?_
  refine sw_st (st' := []) rfl ?_
  refine sw_aload_n (pc := 10) hc dX7_best_10 rfl 1 rfl ?_
  refine sw_aload_n (pc := 11) hc dX7_best_11 rfl 0 rfl ?_
  refine sw_iload_n (pc := 12) hc dX7_best_12 rfl 3 rfl ?_
  refine sw_null (pc := 13) hc dX7_best_13 ?_
  refine sw_callV (pc := 14) (rest := []) hc (c_X7_bestRun l g C ad own gh σ (iN x) y (-1) hQ hW o_1_l (.inl (by decide))) md_X7_bestRun ml_RX7_239 im_X7_bestRun sl_X7_bestRun (hQ.at ct0) rfl rfl rfl (Nat.le_of_ble_eq_true rfl) dX7_best_14 ⟨Nat.le_of_ble_eq_true rfl, Nat.le_of_ble_eq_true rfl, Nat.le_of_ble_eq_true rfl, Nat.le_of_ble_eq_true rfl⟩ (fun v C' hP => ?_) (fun _ _ h => h.elim)
  obtain ⟨rfl, hCC⟩ := hP
  refine sw_eq (C' := C) hCC ?_
  refine sw_st (st' := [va_rf (wrf ad (rTopN σ (nI (iN x)) y (-1)))]) rfl ?_
  refine sw_astoreq (pc := 17) hc dX7_best_17 (by decide) (lv' := [(4, va_rf (wrf ad (rTopN σ (nI (iN x)) y (-1)))), (3, .ref (ad 11 (iN x))), (0, .ref (ad 0 0)), (1, .int x), (2, .int y)]) (by first | rfl | (simp [va_rf_c, cat_r, cat_i, cat_n]; done) | (simp [va_rf_c, cat_r, cat_i, cat_n]; rfl)) ?_
  refine sw_aloadq (pc := 19) hc dX7_best_19 0 rfl ?_
  refine sw_ifnonnullq (pc := 21) (tgt := 28) hc dX7_best_21 (by decide) (fun a_4 c_3 => ?_) (fun c_3 => ?_)
  ·
    obtain ⟨hb, hb_a⟩ := wrf_s c_3
    obtain ⟨hb_x, hb_i⟩ := rTop_x (σ := σ) (n := iN (σ 26 0)) (by have := hW.b3; have h9 : lsN σ 3 = iN (σ 26 0) := rfl; omega) (rfl : rTopN σ (nI (iN x)) y (-1) = _) hb
    have hb_e : (wrf ad (rTopN σ (nI (iN x)) y (-1))) = some (ad 15 (iN (rTopN σ (nI (iN x)) y (-1)))) := by rw [c_3, hb_a]
    refine sw_sub (ks := [0, 1, 2, 3, 4]) (lv' := [(4, .ref (ad 15 (iN (rTopN σ (nI (iN x)) y (-1))))), (3, .ref (ad 11 (iN x))), (0, .ref (ad 0 0)), (1, .int x), (2, .int y)]) (congrArg (fun zq => ([(4, va_rf zq), (3, .ref (ad 11 (iN x))), (0, .ref (ad 0 0)), (1, .int x), (2, .int y)] : List (Nat × Value))) hb_e) ?_
    refine sw_aload (pc := 28) hc dX7_best_28 0 rfl ?_
    refine sw_get (pc := 30) (v := .int (nI (iN (rTopN σ (nI (iN x)) y (-1))))) hc fl_RX7_243 (hQ.at (ct15 (k := (iN (rTopN σ (nI (iN x)) y (-1)))) hb_i)) rfl dX7_best_30 ?_
    have hpr : rPair σ x y := ⟨o_1, o_2⟩
    have hxx : nI (iN x) = x := o_1_x.symm
    exact sw_iret (pc := 33) hc hlk hrt rfl ⟨congrArg (fun z => some (Value.int z)) (show nI (iN (rTopN σ (nI (iN x)) y (-1))) = vBest2 σ x y by rw [vBest2_c hpr, ← hb_x, hxx]), kPair_y hpr, PH.q hQ hW hg (f42 _)⟩ (Nat.le_of_ble_eq_true rfl) (Nat.le_of_ble_eq_true rfl) dX7_best_33
  ·
    have hb : rTopN σ (nI (iN x)) y (-1) < 0 := wrf_n c_3
    refine sw_iconst (pc := 24) (v := (-1)) hc dX7_best_24 (by decide) ?_
    refine sw_goto (pc := 25) (tgt := 33) hc dX7_best_25 (by decide) ?_
    have hpr : rPair σ x y := ⟨o_1, o_2⟩
    have hxx : nI (iN x) = x := o_1_x.symm
    have hz : rTopN σ (nI (iN x)) y (-1) = -1 := by rcases rTop_v σ (nI (iN x)) y (-1) (iN (σ 26 0)) with h | ⟨j, h1, h2⟩; exact h; exact absurd hb (by rw [show rTopN σ (nI (iN x)) y (-1) = nI j from h2]; exact nI_pos (by have := hW.b3; have h9 : lsN σ 3 = iN (σ 26 0) := rfl; omega))
    exact sw_iret (pc := 33) hc hlk hrt rfl ⟨congrArg (fun z => some (Value.int z)) (show (-1 : Int32) = vBest2 σ x y by rw [vBest2_c hpr, ← hxx, hz]), kPair_y hpr, PH.q hQ hW hg (f42 _)⟩ (Nat.le_of_ble_eq_true rfl) (Nat.le_of_ble_eq_true rfl) dX7_best_33

set_option maxHeartbeats 4000000 in
set_option maxRecDepth 100000 in
theorem c_X7_placeWithout (l : Launch) (g : sg_G) (C : Nat → Option va_E) (ad : Ad) (own : Nat → Option (Nat × Nat)) (gh : Gh) (σ : Mem) (x : Int32) (hQ : Pic g ad own gh σ C) (hW : WX σ) (hg : gOk gh) (hst : l.stackTraces = false) : sg_Met l yX7_placeWithout cX7_placeWithout 3 (some .int) 8 183 16 96 g [.ref (ad 0 0), .int x] C (fun v C' => v = some (.int (vPlaceW σ x)) ∧ ¬ 0 < kIn σ 26 x ∧ PH g (ad 0 0) own C (fIn σ 26 x) C') (fun E C' => ((E = "java/lang/IndexOutOfBoundsException" ∧ kIn σ 26 x = 1)) ∧ PH g (ad 0 0) own C (fIn σ 26 x) C') := by
  refine sg_ofW (by decide) rfl ?_ (Nat.le_of_ble_eq_true rfl)
  intro p e s m below meth c hc hlk hrt hin2 htb
  have hc : sg_Cx p s m _ c cX7_placeWithout 3 RX7 g := hc
  show sg_W p l e _ s m _ below meth c 3 g 0 0 _ C 0 [(0, .ref (ad 0 0)), (1, .int x)] []
  refine sw_aload_n (pc := 0) hc dX7_placeWithout_0 rfl 0 rfl ?_
  refine sw_iload_n (pc := 1) hc dX7_placeWithout_1 rfl 1 rfl ?_
  refine sw_callV (pc := 2) (rest := []) hc (c_X7_runOf l g C ad own gh σ x hQ hW hst) md_X7_runOf ml_RX7_209 im_X7_runOf sl_X7_runOf (hQ.at ct0) rfl rfl rfl (Nat.le_of_ble_eq_true rfl) dX7_placeWithout_2 ⟨Nat.le_of_ble_eq_true rfl, Nat.le_of_ble_eq_true rfl, Nat.le_of_ble_eq_true rfl, Nat.le_of_ble_eq_true rfl⟩ (fun v C' hP => ?_) (fun E C' hX => sx_out htb hlk (⟨⟨hX.1, if_neg hX.2.1⟩, by rw [hX.2.2]; exact PH.q hQ hW hg (f42 _)⟩) (Nat.le_of_ble_eq_true rfl) (Nat.le_of_ble_eq_true rfl))
  obtain ⟨rfl, o_1, hCC⟩ := hP
  refine sw_eq (C' := C) hCC ?_
  obtain ⟨o_1_x, o_1_l⟩ := rIn_x hW.1.2.2.2.1 (by decide) o_1
  refine sw_st (st' := [.ref (ad 15 (iN x))]) rfl ?_
  refine sw_astore_n (pc := 5) hc dX7_placeWithout_5 rfl (by decide) (lv' := [(2, .ref (ad 15 (iN x))), (0, .ref (ad 0 0)), (1, .int x)]) rfl ?_
  refine sw_aload_n (pc := 6) hc dX7_placeWithout_6 rfl 1 rfl ?_
  refine sw_aload_n (pc := 7) hc dX7_placeWithout_7 rfl 0 rfl ?_
  refine sw_get (pc := 8) (v := .ref (ad 11 (iN (σ 19 (iN x))))) hc fl_RX7_226 (hQ.at (ct15 (k := (iN x)) o_1_l)) rfl dX7_placeWithout_8 ?_
  refine sw_aload_n (pc := 11) hc dX7_placeWithout_11 rfl 0 rfl ?_
  refine sw_get (pc := 12) (v := .int (σ 18 (iN x))) hc fl_RX7_263 (hQ.at (ct15 (k := (iN x)) o_1_l)) rfl dX7_placeWithout_12 ?_
  refine sw_aload_n (pc := 15) hc dX7_placeWithout_15 rfl 0 rfl ?_
  have hwx : .ref (ad 15 (iN x)) = va_rf (wrf ad x) := congrArg va_rf ((wrf_i hQ hW o_1_l).symm.trans (congrArg (wrf ad) o_1_x.symm))
  refine sw_st (st' := [va_rf (wrf ad x), .int (σ 18 (iN x)), .ref (ad 11 (iN (σ 19 (iN x)))), .ref (ad 0 0)]) (congrArg (fun z => (z :: [.int (σ 18 (iN x)), .ref (ad 11 (iN (σ 19 (iN x)))), .ref (ad 0 0)] : List Value)) hwx) ?_
  have hwo : wok σ x := .inr ⟨o_1_x, o_1_l⟩
  refine sw_callV (pc := 16) (rest := []) hc (c_X7_placeFor l g C ad own gh σ (iN (σ 19 (iN x))) (σ 18 (iN x)) x hQ hW (hW.wc o_1_l) hwo) md_X7_placeFor ml_RX7_253 im_X7_placeFor sl_X7_placeFor (hQ.at ct0) rfl rfl rfl (Nat.le_of_ble_eq_true rfl) dX7_placeWithout_16 ⟨Nat.le_of_ble_eq_true rfl, Nat.le_of_ble_eq_true rfl, Nat.le_of_ble_eq_true rfl, Nat.le_of_ble_eq_true rfl⟩ (fun v C' hP => ?_) (fun _ _ h => h.elim)
  obtain ⟨rfl, hCC⟩ := hP
  refine sw_eq (C' := C) hCC ?_
  refine sw_st (st' := [.int (rSpot σ (nI (iN (σ 19 (iN x)))) (σ 18 (iN x)) x)]) rfl ?_
  exact sw_iret (pc := 19) hc hlk hrt rfl ⟨congrArg (fun z => some (Value.int z)) (show rSpot σ (nI (iN (σ 19 (iN x)))) (σ 18 (iN x)) x = vPlaceW σ x by rw [vPlaceW_c o_1, ← (hW.1.2.2.2.2.2.2.2.2.2.2.2.1 (iN x) o_1_l).1]), kIn_y o_1, PH.q hQ hW hg (f42 _)⟩ (Nat.le_of_ble_eq_true rfl) (Nat.le_of_ble_eq_true rfl) dX7_placeWithout_19
