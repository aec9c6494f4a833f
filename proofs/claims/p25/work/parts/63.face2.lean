/-! the face: strike, gift, pass -/

theorem fp_7_6 : sg_FP 7 6 false .boolean := ⟨RX6, TX6, 7, rfl, rfl, by decide +kernel, rfl⟩
theorem fp_4_2 : sg_FP 4 2 false .int := ⟨RX3, TX3, 3, rfl, rfl, by decide +kernel, rfl⟩
set_option maxRecDepth 1000000 in
theorem th_RX7_50 : sg_TH RX7 "java/lang/IllegalStateException" 50 54 := ⟨by decide +kernel, sg_mem (i := 172) (by decide +kernel) rfl, sg_mem (i := 34) (by decide +kernel) rfl, th_in (by decide +kernel), th_ot (by decide +kernel)⟩
theorem fl_RX7_42 : sg_FL RX7 42 8 5 := ⟨RX7, TX7, 9, "SplitGate", rfl, by decide, ti_8, .inl rfl, .inl (sg_mem (i := 140) (by decide +kernel) rfl)⟩
theorem ty_8 : sg_TY 8 := ⟨RX7, TX7, 9, tyX7, rfl, tyX7_ok, nmX7⟩
theorem fp_8_5 : sg_FP 8 5 false .int := ⟨RX7, TX7, 9, rfl, rfl, by decide +kernel, rfl⟩
set_option maxHeartbeats 4000000 in
set_option maxRecDepth 100000 in
theorem c_X7_strike (l : Launch) (g : sg_G) (C : Nat → Option va_E) (ad : Ad) (own : Nat → Option (Nat × Nat)) (gh : Gh) (σ : Mem) (x : Int32) (hQ : Pic g ad own gh σ C) (hW : WX σ) (hg : gOk gh) (hst : l.stackTraces = false) : sg_Met l yX7_strike cX7_strike 3 (some .boolean) 7 103 16 96 g [.ref (ad 0 0), .int x] C (fun v C' => v = some (.int (bI (pStrike σ x))) ∧ ¬ 0 < kIn σ 26 x ∧ PH g (ad 0 0) own C (fStrike σ x) C') (fun E C' => ((E = "java/lang/IndexOutOfBoundsException" ∧ kIn σ 26 x = 1)) ∧ PH g (ad 0 0) own C (fStrike σ x) C') := by
  refine sg_ofW (by decide) rfl ?_ (Nat.le_of_ble_eq_true rfl)
  intro p e s m below meth c hc hlk hrt hin2 htb
  have hc : sg_Cx p s m _ c cX7_strike 3 RX7 g := hc
  show sg_W p l e _ s m _ below meth c 3 g 0 0 _ C 0 [(0, .ref (ad 0 0)), (1, .int x)] []
  refine sw_aload_n (pc := 0) hc dX7_strike_0 rfl 0 rfl ?_
  refine sw_iload_n (pc := 1) hc dX7_strike_1 rfl 1 rfl ?_
  refine sw_callV (pc := 2) (rest := []) hc (c_X7_runOf l g C ad own gh σ x hQ hW hst) md_X7_runOf ml_RX7_209 im_X7_runOf sl_X7_runOf (hQ.at ct0) rfl rfl rfl (Nat.le_of_ble_eq_true rfl) dX7_strike_2 ⟨Nat.le_of_ble_eq_true rfl, Nat.le_of_ble_eq_true rfl, Nat.le_of_ble_eq_true rfl, Nat.le_of_ble_eq_true rfl⟩ (fun v C' hP => ?_) (fun E C' hX => sx_out htb hlk (⟨⟨hX.1, if_neg hX.2.1⟩, by rw [hX.2.2]; exact PH.q hQ hW hg (by rw [show fStrike σ x = st2 σ 42 0 (kIn σ 26 x) from if_pos (by rw [show kIn σ 26 x = 1 from if_neg hX.2.1]; decide)]; exact f42 _)⟩) (Nat.le_of_ble_eq_true rfl) (Nat.le_of_ble_eq_true rfl))
  obtain ⟨rfl, o_1, hCC⟩ := hP
  refine sw_eq (C' := C) hCC ?_
  obtain ⟨o_1_x, o_1_l⟩ := rIn_x hW.1.2.2.2.1 (by decide) o_1
  refine sw_st (st' := [.ref (ad 15 (iN x))]) rfl ?_
  refine sw_astore_n (pc := 5) hc dX7_strike_5 rfl (by decide) (lv' := [(2, .ref (ad 15 (iN x))), (0, .ref (ad 0 0)), (1, .int x)]) rfl ?_
  refine sw_aload_n (pc := 6) hc dX7_strike_6 rfl 0 rfl ?_
  refine sw_aload_n (pc := 7) hc dX7_strike_7 rfl 0 rfl ?_
  refine sw_get (pc := 8) (v := .int (σ 21 (iN x))) hc fl_RX7_217 (hQ.at (ct15 (k := (iN x)) o_1_l)) rfl dX7_strike_8 ?_
  refine sw_if_ne (pc := 11) (tgt := 18) hc dX7_strike_11 (by decide) (fun c_2 => ?_) (fun c_2 => ?_)
  ·
    refine sw_iconst (pc := 18) (v := 0) hc dX7_strike_18 (by decide) ?_
    have hN : sg_nd [ad 15 (iN x)] := ⟨List.not_mem_nil, trivial⟩
    refine sw_eq (C' := sg_ov C [(ad 15 (iN x), .inr (7, [.int (nI (iN x)), .int (σ 18 (iN x)), .ref (ad 7 (iN (σ 17 (iN x)))), .ref (ad 11 (iN (σ 19 (iN x)))), .int (σ 20 (iN x)), .int (σ 22 (iN x)), .int (σ 21 (iN x))]))]) (sg_ov_self2 (List.forall_mem_cons.mpr ⟨(hQ.at (ct15 (k := (iN x)) o_1_l)), fun _ h => absurd h List.not_mem_nil⟩)).symm ?_
    refine sw_putO (pc := 19) (k := 6) (fs' := [.int (nI (iN x)), .int (σ 18 (iN x)), .ref (ad 7 (iN (σ 17 (iN x)))), .ref (ad 11 (iN (σ 19 (iN x)))), .int (σ 20 (iN x)), .int (σ 22 (iN x)), .int 0]) (L := [(ad 15 (iN x), .inr (7, [.int (nI (iN x)), .int (σ 18 (iN x)), .ref (ad 7 (iN (σ 17 (iN x)))), .ref (ad 11 (iN (σ 19 (iN x)))), .int (σ 20 (iN x)), .int (σ 22 (iN x)), .int (σ 21 (iN x))]))]) (l' := [(ad 15 (iN x), .inr (7, [.int (nI (iN x)), .int (σ 18 (iN x)), .ref (ad 7 (iN (σ 17 (iN x)))), .ref (ad 11 (iN (σ 19 (iN x)))), .int (σ 20 (iN x)), .int (σ 22 (iN x)), .int 0]))]) hc fl_RX7_217 ty_7 fp_7_6 hN (q0 := 0) rfl rfl rfl (Nat.le_of_ble_eq_true rfl) rfl rfl dX7_strike_19 ?_
    refine sw_aload_n (pc := 22) hc dX7_strike_22 rfl 0 rfl ?_
    refine sw_get (pc := 23) (v := .int 0) hc fl_RX7_217 (sg_ov_at hN (k := 0) rfl) rfl dX7_strike_23 ?_
    have hu : (0 : Int32) = 1 - σ 21 (iN x) := by rw [(hW.2.2.2.2.1.2 (iN x)).resolve_left c_2]; decide
    exact sw_iret (pc := 26) hc hlk hrt rfl ⟨congrArg (fun z => some (Value.int z)) (bI_f (P := pStrike σ x) (fun q => absurd (hu.trans q.2) (by decide))).symm, kIn_y o_1, ph_strike hQ hW hg o_1 hu⟩ (Nat.le_of_ble_eq_true rfl) (Nat.le_of_ble_eq_true rfl) dX7_strike_26
  ·
    refine sw_iconst (pc := 14) (v := 1) hc dX7_strike_14 (by decide) ?_
    refine sw_goto (pc := 15) (tgt := 19) hc dX7_strike_15 (by decide) ?_
    have hN : sg_nd [ad 15 (iN x)] := ⟨List.not_mem_nil, trivial⟩
    refine sw_eq (C' := sg_ov C [(ad 15 (iN x), .inr (7, [.int (nI (iN x)), .int (σ 18 (iN x)), .ref (ad 7 (iN (σ 17 (iN x)))), .ref (ad 11 (iN (σ 19 (iN x)))), .int (σ 20 (iN x)), .int (σ 22 (iN x)), .int (σ 21 (iN x))]))]) (sg_ov_self2 (List.forall_mem_cons.mpr ⟨(hQ.at (ct15 (k := (iN x)) o_1_l)), fun _ h => absurd h List.not_mem_nil⟩)).symm ?_
    refine sw_putO (pc := 19) (k := 6) (fs' := [.int (nI (iN x)), .int (σ 18 (iN x)), .ref (ad 7 (iN (σ 17 (iN x)))), .ref (ad 11 (iN (σ 19 (iN x)))), .int (σ 20 (iN x)), .int (σ 22 (iN x)), .int 1]) (L := [(ad 15 (iN x), .inr (7, [.int (nI (iN x)), .int (σ 18 (iN x)), .ref (ad 7 (iN (σ 17 (iN x)))), .ref (ad 11 (iN (σ 19 (iN x)))), .int (σ 20 (iN x)), .int (σ 22 (iN x)), .int (σ 21 (iN x))]))]) (l' := [(ad 15 (iN x), .inr (7, [.int (nI (iN x)), .int (σ 18 (iN x)), .ref (ad 7 (iN (σ 17 (iN x)))), .ref (ad 11 (iN (σ 19 (iN x)))), .int (σ 20 (iN x)), .int (σ 22 (iN x)), .int 1]))]) hc fl_RX7_217 ty_7 fp_7_6 hN (q0 := 0) rfl rfl rfl (Nat.le_of_ble_eq_true rfl) rfl rfl dX7_strike_19 ?_
    refine sw_aload_n (pc := 22) hc dX7_strike_22 rfl 0 rfl ?_
    refine sw_get (pc := 23) (v := .int 1) hc fl_RX7_217 (sg_ov_at hN (k := 0) rfl) rfl dX7_strike_23 ?_
    have hu : (1 : Int32) = 1 - σ 21 (iN x) := by rw [c_2]; decide
    exact sw_iret (pc := 26) hc hlk hrt rfl ⟨congrArg (fun z => some (Value.int z)) (bI_t (P := pStrike σ x) ⟨kIn_y o_1, hu.symm⟩).symm, kIn_y o_1, ph_strike hQ hW hg o_1 hu⟩ (Nat.le_of_ble_eq_true rfl) (Nat.le_of_ble_eq_true rfl) dX7_strike_26

set_option maxHeartbeats 4000000 in
set_option maxRecDepth 100000 in
theorem c_X7_gift (l : Launch) (g : sg_G) (C : Nat → Option va_E) (ad : Ad) (own : Nat → Option (Nat × Nat)) (gh : Gh) (σ : Mem) (x : Int32) (a : Int32) (hQ : Pic g ad own gh σ C) (hW : WX σ) (hg : gOk gh) (hst : l.stackTraces = false) : sg_Met l yX7_gift cX7_gift 4 (some .int) 7 156 16 96 g [.ref (ad 0 0), .int x, .int a] C (fun v C' => v = some (.int (vGift σ x a)) ∧ ¬ 0 < kGift σ x a ∧ PH g (ad 0 0) own C (fGift σ x a) C') (fun E C' => ((E = "java/lang/IndexOutOfBoundsException" ∧ kGift σ x a = 1) ∨ (E = "java/lang/IllegalArgumentException" ∧ kGift σ x a = 2) ∨ (E = "java/lang/IllegalStateException" ∧ kGift σ x a = 3)) ∧ PH g (ad 0 0) own C (fGift σ x a) C') := by
  refine sg_ofW (by decide) rfl ?_ (Nat.le_of_ble_eq_true rfl)
  intro p e s m below meth c hc hlk hrt hin2 htb
  have hc : sg_Cx p s m _ c cX7_gift 4 RX7 g := hc
  show sg_W p l e _ s m _ below meth c 4 g 0 0 _ C 0 [(0, .ref (ad 0 0)), (1, .int x), (2, .int a)] []
  refine sw_iload_n (pc := 0) hc dX7_gift_0 rfl 1 rfl ?_
  refine sw_iconst (pc := 1) (v := 0) hc dX7_gift_1 (by decide) ?_
  refine sw_aload_n (pc := 2) hc dX7_gift_2 rfl 0 rfl ?_
  refine sw_get (pc := 3) (v := .ref (ad 1 4)) hc fl_RX7_25 (hQ.at ct0) rfl dX7_gift_3 ?_
  refine sw_callV (pc := 6) (rest := [.int 0, .int x]) hc (c_Jx4a65c_size_8abf5 l g C (ad 1 4) (nI (iN (σ 30 0))) (if iN (σ 30 0) = 0 then g.2.2.2 0 else ad 2 4) (nI (iN (σ 30 0))) (hQ.at (ct1 (k := 4) (by decide)))) md_Jx4a65c_size_8abf5 ml_RX7_46 im_Jx4a65c_size_8abf5 sl_Jx4a65c_size_8abf5 (hQ.at (ct1 (k := 4) (by decide))) rfl rfl rfl (Nat.le_of_ble_eq_true rfl) dX7_gift_6 ⟨Nat.le_of_ble_eq_true rfl, Nat.le_of_ble_eq_true rfl, Nat.le_of_ble_eq_true rfl, Nat.le_of_ble_eq_true rfl⟩ (fun v C' hP => ?_) (fun _ _ h => h.elim)
  obtain ⟨rfl, hCC⟩ := hP
  refine sw_eq (C' := C) hCC ?_
  refine sw_st (st' := [.int (nI (iN (σ 30 0))), .int 0, .int x]) rfl ?_
  refine sw_st (st' := [.int (σ 30 0), .int 0, .int x]) (congrArg (fun z => ([.int z, .int 0, .int x] : List Value)) (hW.nO.symm : (nI (iN (σ 30 0))) = σ 30 0)) ?_
  refine sw_iconst (pc := 9) (v := 1) hc dX7_gift_9 (by decide) ?_
  refine sw_isub (pc := 10) hc dX7_gift_10 ?_
  refine sw_callS (pc := 11) (rest := []) hc (c_X7_isWithin l g C x 0 ((σ 30 0) - 1) ) md_X7_isWithin ml_RX7_68 st_X7_isWithin rfl rfl (Nat.le_of_ble_eq_true rfl) dX7_gift_11 ⟨Nat.le_of_ble_eq_true rfl, Nat.le_of_ble_eq_true rfl, Nat.le_of_ble_eq_true rfl, Nat.le_of_ble_eq_true rfl⟩ (fun v C' hP => ?_) (fun _ _ h => h.elim)
  obtain ⟨rfl, hCC⟩ := hP
  refine sw_eq (C' := C) hCC ?_
  refine sw_st (st' := [.int (bI (0 ≤ x ∧ x ≤ ((σ 30 0) - 1)))]) rfl ?_
  refine sw_if_ne (pc := 14) (tgt := 28) hc dX7_gift_14 (by decide) (fun c_1 => ?_) (fun c_1 => ?_)
  ·
    have p_2 : 0 ≤ x ∧ x ≤ ((σ 30 0) - 1) := bI_n c_1
    obtain ⟨hx_x, hx_l⟩ := rIn_x hW.1.2.2.2.2.1 (by decide) p_2
    refine sw_aload_n (pc := 28) hc dX7_gift_28 rfl 0 rfl ?_
    refine sw_get (pc := 29) (v := .ref (ad 1 4)) hc fl_RX7_25 (hQ.at ct0) rfl dX7_gift_29 ?_
    refine sw_iload_n (pc := 32) hc dX7_gift_32 rfl 1 rfl ?_
    refine sw_st (st' := [.int (nI (iN x)), .ref (ad 1 4)]) (congrArg (fun z => ([.int z, .ref (ad 1 4)] : List Value)) hx_x) ?_
    refine sw_callV (pc := 33) (rest := []) hc (c_get1 (k := 4) l hQ (by decide) (i := iN x) hx_l hW.b4) md_Jx4a65c_get_915e3 ml_RX7_156 im_Jx4a65c_get_915e3 sl_Jx4a65c_get_915e3 (hQ.at (ct1 (k := 4) (by decide))) rfl rfl rfl (Nat.le_of_ble_eq_true rfl) dX7_gift_33 ⟨Nat.le_of_ble_eq_true rfl, Nat.le_of_ble_eq_true rfl, Nat.le_of_ble_eq_true rfl, Nat.le_of_ble_eq_true rfl⟩ (fun v C' hP => ?_) (fun _ _ h => h.elim)
    obtain ⟨rfl, hCC⟩ := hP
    refine sw_eq (C' := C) hCC ?_
    refine sw_st (st' := [.ref (ad 16 (iN x))]) rfl ?_
    refine sw_cast (pc := 36) hc kl_RX7_282 (hQ.at (ct16 (k := (iN x)) hx_l)) rfl dX7_gift_36 ?_
    refine sw_astore_n (pc := 39) hc dX7_gift_39 rfl (by decide) (lv' := [(3, .ref (ad 16 (iN x))), (0, .ref (ad 0 0)), (1, .int x), (2, .int a)]) rfl ?_
    refine sw_iload_n (pc := 40) hc dX7_gift_40 rfl 3 rfl ?_
    refine sw_iconst (pc := 41) (v := 1) hc dX7_gift_41 (by decide) ?_
    refine sw_sipush (pc := 42) (v := 1000) hc dX7_gift_42 (by decide) ?_
    refine sw_callS (pc := 45) (rest := []) hc (c_X7_isWithin l g C a 1 1000 ) md_X7_isWithin ml_RX7_68 st_X7_isWithin rfl rfl (Nat.le_of_ble_eq_true rfl) dX7_gift_45 ⟨Nat.le_of_ble_eq_true rfl, Nat.le_of_ble_eq_true rfl, Nat.le_of_ble_eq_true rfl, Nat.le_of_ble_eq_true rfl⟩ (fun v C' hP => ?_) (fun _ _ h => h.elim)
    obtain ⟨rfl, hCC⟩ := hP
    refine sw_eq (C' := C) hCC ?_
    refine sw_st (st' := [.int (bI (1 ≤ a ∧ a ≤ 1000))]) rfl ?_
    refine sw_callS (pc := 48) (rest := []) hc (c_X7_requireArgument l g C (bI (1 ≤ a ∧ a ≤ 1000)) hst) md_X7_requireArgument ml_RX7_77 st_X7_requireArgument rfl rfl (Nat.le_of_ble_eq_true rfl) dX7_gift_48 ⟨Nat.le_of_ble_eq_true rfl, Nat.le_of_ble_eq_true rfl, Nat.le_of_ble_eq_true rfl, Nat.le_of_ble_eq_true rfl⟩ (fun v C' hP => ?_) (fun E C' hX => sx_out htb hlk (⟨.inr (.inl (⟨hX.1, (if_neg (fun q => q p_2)).trans (if_pos (bI_0 hX.2.1))⟩)), by rw [hX.2.2]; exact PH.q hQ hW hg (by rw [show fGift σ x a = st2 σ 42 0 (kGift σ x a) from if_pos (by rw [show kGift σ x a = 2 from (if_neg (fun q => q p_2)).trans (if_pos (bI_0 hX.2.1))]; decide)]; exact f42 _)⟩) (Nat.le_of_ble_eq_true rfl) (Nat.le_of_ble_eq_true rfl))
    obtain ⟨rfl, o_3, hCC⟩ := hP
    refine sw_eq (C' := C) hCC ?_
    refine sw_st (st' := []) rfl ?_
    refine sw_aload_n (pc := 51) hc dX7_gift_51 rfl 1 rfl ?_
    refine sw_aload_n (pc := 52) hc dX7_gift_52 rfl 0 rfl ?_
    refine sw_get (pc := 53) (v := .ref (ad 11 (iN (σ 27 (iN x))))) hc fl_RX7_289 (hQ.at (ct16 (k := (iN x)) hx_l)) rfl dX7_gift_53 ?_
    refine sw_aload_n (pc := 56) hc dX7_gift_56 rfl 0 rfl ?_
    refine sw_get (pc := 57) (v := .int (σ 28 (iN x))) hc fl_RX7_290 (hQ.at (ct16 (k := (iN x)) hx_l)) rfl dX7_gift_57 ?_
    refine sw_null (pc := 60) hc dX7_gift_60 ?_
    refine sw_callV (pc := 61) (rest := []) hc (c_X7_bestRun l g C ad own gh σ (iN (σ 27 (iN x))) (σ 28 (iN x)) (-1) hQ hW (hW.wo hx_l) (.inl (by decide))) md_X7_bestRun ml_RX7_239 im_X7_bestRun sl_X7_bestRun (hQ.at ct0) rfl rfl rfl (Nat.le_of_ble_eq_true rfl) dX7_gift_61 ⟨Nat.le_of_ble_eq_true rfl, Nat.le_of_ble_eq_true rfl, Nat.le_of_ble_eq_true rfl, Nat.le_of_ble_eq_true rfl⟩ (fun v C' hP => ?_) (fun _ _ h => h.elim)
    obtain ⟨rfl, hCC⟩ := hP
    refine sw_eq (C' := C) hCC ?_
    refine sw_st (st' := [va_rf (wrf ad (rTopN σ (nI (iN (σ 27 (iN x)))) (σ 28 (iN x)) (-1)))]) rfl ?_
    refine sw_ifnonnullq (pc := 64) (tgt := 78) hc dX7_gift_64 (by decide) (fun a_5 c_4 => ?_) (fun c_4 => ?_)
    ·
      obtain ⟨hb, -⟩ := wrf_s c_4
      have hN : sg_nd [ad 16 (iN x)] := ⟨List.not_mem_nil, trivial⟩
      refine sw_eq (C' := sg_ov C [(ad 16 (iN x), .inr (4, [.ref (ad 11 (iN (σ 27 (iN x)))), .int (σ 28 (iN x)), .int (σ 29 (iN x))]))]) (sg_ov_self2 (List.forall_mem_cons.mpr ⟨(hQ.at (ct16 (k := (iN x)) hx_l)), fun _ h => absurd h List.not_mem_nil⟩)).symm ?_
      refine sw_aload_n (pc := 78) hc dX7_gift_78 rfl 0 rfl ?_
      refine sw_dup (pc := 79) hc dX7_gift_79 rfl ?_
      refine sw_get (pc := 80) (v := .int (σ 29 (iN x))) hc fl_RX7_293 (sg_ov_at hN (k := 0) rfl) rfl dX7_gift_80 ?_
      refine sw_iload_n (pc := 83) hc dX7_gift_83 rfl 3 rfl ?_
      refine sw_iadd (pc := 84) hc dX7_gift_84 ?_
      refine sw_putO (pc := 85) (k := 2) (fs' := [.ref (ad 11 (iN (σ 27 (iN x)))), .int (σ 28 (iN x)), .int ((σ 29 (iN x)) + a)]) (L := [(ad 16 (iN x), .inr (4, [.ref (ad 11 (iN (σ 27 (iN x)))), .int (σ 28 (iN x)), .int (σ 29 (iN x))]))]) (l' := [(ad 16 (iN x), .inr (4, [.ref (ad 11 (iN (σ 27 (iN x)))), .int (σ 28 (iN x)), .int ((σ 29 (iN x)) + a)]))]) hc fl_RX7_293 ty_4 fp_4_2 hN (q0 := 0) rfl rfl rfl (Nat.le_of_ble_eq_true rfl) rfl rfl dX7_gift_85 ?_
      refine sw_aload_n (pc := 88) hc dX7_gift_88 rfl 0 rfl ?_
      refine sw_get (pc := 89) (v := .int ((σ 29 (iN x)) + a)) hc fl_RX7_293 (sg_ov_at hN (k := 0) rfl) rfl dX7_gift_89 ?_
      have hkk : kGift σ x a = 0 := (if_neg (fun q => q p_2)).trans ((if_neg (fun q => q (bI_n o_3))).trans (if_pos (show 0 ≤ rTopN σ (σ 27 (iN x)) (σ 28 (iN x)) (-1) by rw [(hW.1.2.2.2.2.2.2.2.2.2.2.2.2 (iN x) hx_l).1]; exact Int32.not_lt.mp hb)))
      have hk : ¬ 0 < kGift σ x a := by rw [hkk]; decide
      exact sw_iret (pc := 92) hc hlk hrt rfl ⟨congrArg (fun z => some (Value.int z)) (if_neg hk).symm, hk, ph_gift hQ hW hg hx_l hk⟩ (Nat.le_of_ble_eq_true rfl) (Nat.le_of_ble_eq_true rfl) dX7_gift_92
    ·
      have hb : rTopN σ (nI (iN (σ 27 (iN x)))) (σ 28 (iN x)) (-1) < 0 := wrf_n c_4
      have hkk : kGift σ x a = 3 := (if_neg (fun q => q p_2)).trans ((if_neg (fun q => q (bI_n o_3))).trans (if_neg (fun q => absurd (show 0 ≤ rTopN σ (nI (iN (σ 27 (iN x)))) (σ 28 (iN x)) (-1) by rw [← (hW.1.2.2.2.2.2.2.2.2.2.2.2.2 (iN x) hx_l).1]; exact q) (Int32.not_le.mpr hb))))
      exact sw_throwW (pc := 67) hc hst th_RX7_50 (text := "the offer is not open") (by decide +kernel) dX7_gift_67 dX7_gift_70 dX7_gift_71 dX7_gift_74 dX7_gift_77 htb hlk ⟨Nat.le_of_ble_eq_true rfl, Nat.le_of_ble_eq_true rfl, Nat.le_of_ble_eq_true rfl, Nat.le_of_ble_eq_true rfl⟩ ⟨.inr (.inr (⟨rfl, hkk⟩)), PH.q hQ hW hg (by rw [show fGift σ x a = st2 σ 42 0 (kGift σ x a) from if_pos (by rw [show kGift σ x a = 3 from hkk]; decide)]; exact f42 _)⟩ (Nat.le_of_ble_eq_true rfl) (Nat.le_of_ble_eq_true rfl)
  ·
    have p_6 : ¬ (0 ≤ x ∧ x ≤ ((σ 30 0) - 1)) := bI_0 c_1
    have hkk : kGift σ x a = 1 := if_pos p_6
    exact sw_throwW (pc := 17) hc hst th_RX7_72 (text := "no such offer") (by decide +kernel) dX7_gift_17 dX7_gift_20 dX7_gift_21 dX7_gift_24 dX7_gift_27 htb hlk ⟨Nat.le_of_ble_eq_true rfl, Nat.le_of_ble_eq_true rfl, Nat.le_of_ble_eq_true rfl, Nat.le_of_ble_eq_true rfl⟩ ⟨.inl (⟨rfl, hkk⟩), PH.q hQ hW hg (by rw [show fGift σ x a = st2 σ 42 0 (kGift σ x a) from if_pos (by rw [show kGift σ x a = 1 from hkk]; decide)]; exact f42 _)⟩ (Nat.le_of_ble_eq_true rfl) (Nat.le_of_ble_eq_true rfl)

set_option maxHeartbeats 4000000 in
set_option maxRecDepth 100000 in
theorem c_X7_pass (l : Launch) (g : sg_G) (C : Nat → Option va_E) (ad : Ad) (own : Nat → Option (Nat × Nat)) (gh : Gh) (σ : Mem) (x : Int32) (hQ : Pic g ad own gh σ C) (hW : WX σ) (hg : gOk gh) (hst : l.stackTraces = false) : sg_Met l yX7_pass cX7_pass 2 (some .int) 7 102 16 96 g [.ref (ad 0 0), .int x] C (fun v C' => v = some (.int (vPass σ x)) ∧ ¬ 0 < kPass σ x ∧ PH g (ad 0 0) own C (fPass σ x) C') (fun E C' => ((E = "java/lang/IllegalArgumentException" ∧ kPass σ x = 1) ∨ (E = "java/lang/IllegalStateException" ∧ kPass σ x = 2)) ∧ PH g (ad 0 0) own C (fPass σ x) C') := by
  refine sg_ofW (by decide) rfl ?_ (Nat.le_of_ble_eq_true rfl)
  intro p e s m below meth c hc hlk hrt hin2 htb
  have hc : sg_Cx p s m _ c cX7_pass 2 RX7 g := hc
  show sg_W p l e _ s m _ below meth c 2 g 0 0 _ C 0 [(0, .ref (ad 0 0)), (1, .int x)] []
  refine sw_iload_n (pc := 0) hc dX7_pass_0 rfl 1 rfl ?_
  refine sw_iconst (pc := 1) (v := 1) hc dX7_pass_1 (by decide) ?_
  refine sw_bipush (pc := 2) (v := 100) hc dX7_pass_2 (by decide) ?_
  refine sw_callS (pc := 4) (rest := []) hc (c_X7_isWithin l g C x 1 100 ) md_X7_isWithin ml_RX7_68 st_X7_isWithin rfl rfl (Nat.le_of_ble_eq_true rfl) dX7_pass_4 ⟨Nat.le_of_ble_eq_true rfl, Nat.le_of_ble_eq_true rfl, Nat.le_of_ble_eq_true rfl, Nat.le_of_ble_eq_true rfl⟩ (fun v C' hP => ?_) (fun _ _ h => h.elim)
  obtain ⟨rfl, hCC⟩ := hP
  refine sw_eq (C' := C) hCC ?_
  refine sw_st (st' := [.int (bI (1 ≤ x ∧ x ≤ 100))]) rfl ?_
  refine sw_callS (pc := 7) (rest := []) hc (c_X7_requireArgument l g C (bI (1 ≤ x ∧ x ≤ 100)) hst) md_X7_requireArgument ml_RX7_77 st_X7_requireArgument rfl rfl (Nat.le_of_ble_eq_true rfl) dX7_pass_7 ⟨Nat.le_of_ble_eq_true rfl, Nat.le_of_ble_eq_true rfl, Nat.le_of_ble_eq_true rfl, Nat.le_of_ble_eq_true rfl⟩ (fun v C' hP => ?_) (fun E C' hX => sx_out htb hlk (⟨.inl (⟨hX.1, if_pos (bI_0 hX.2.1)⟩), by rw [hX.2.2]; exact PH.q hQ hW hg (by rw [show fPass σ x = st2 σ 42 0 (kPass σ x) from if_pos (by rw [show kPass σ x = 1 from if_pos (bI_0 hX.2.1)]; decide)]; exact f42 _)⟩) (Nat.le_of_ble_eq_true rfl) (Nat.le_of_ble_eq_true rfl))
  obtain ⟨rfl, o_1, hCC⟩ := hP
  refine sw_eq (C' := C) hCC ?_
  refine sw_st (st' := []) rfl ?_
  refine sw_aload_n (pc := 10) hc dX7_pass_10 rfl 0 rfl ?_
  refine sw_get (pc := 11) (v := .int (σ 31 0)) hc fl_RX7_42 (hQ.at ct0) rfl dX7_pass_11 ?_
  refine sw_iload_n (pc := 14) hc dX7_pass_14 rfl 1 rfl ?_
  refine sw_iadd (pc := 15) hc dX7_pass_15 ?_
  refine sw_sipush (pc := 16) (v := 1000) hc dX7_pass_16 (by decide) ?_
  refine sw_icmp_le (pc := 19) (tgt := 32) hc dX7_pass_19 (by decide) (fun c_2 => ?_) (fun c_2 => ?_)
  ·
    have c_2' := Int32.not_lt.mpr c_2
    refine sw_aload_n (pc := 32) hc dX7_pass_32 rfl 0 rfl ?_
    have hN : sg_nd [(ad 0 0)] := ⟨List.not_mem_nil, trivial⟩
    refine sw_eq (C' := sg_ov C [((ad 0 0), .inr (8, [.ref (ad 1 0), .ref (ad 1 1), .ref (ad 1 2), .ref (ad 1 3), .ref (ad 1 4), .int (σ 31 0), .ref (ad 17 0), .ref (ad 18 0), .ref (ad 19 0)]))]) (sg_ov_self2 (List.forall_mem_cons.mpr ⟨(hQ.at ct0), fun _ h => absurd h List.not_mem_nil⟩)).symm ?_
    refine sw_dup (pc := 33) hc dX7_pass_33 rfl ?_
    refine sw_get (pc := 34) (v := .int (σ 31 0)) hc fl_RX7_42 (sg_ov_at hN (k := 0) rfl) rfl dX7_pass_34 ?_
    refine sw_iload_n (pc := 37) hc dX7_pass_37 rfl 1 rfl ?_
    refine sw_iadd (pc := 38) hc dX7_pass_38 ?_
    refine sw_putO (pc := 39) (k := 5) (fs' := [.ref (ad 1 0), .ref (ad 1 1), .ref (ad 1 2), .ref (ad 1 3), .ref (ad 1 4), .int ((σ 31 0) + x), .ref (ad 17 0), .ref (ad 18 0), .ref (ad 19 0)]) (L := [((ad 0 0), .inr (8, [.ref (ad 1 0), .ref (ad 1 1), .ref (ad 1 2), .ref (ad 1 3), .ref (ad 1 4), .int (σ 31 0), .ref (ad 17 0), .ref (ad 18 0), .ref (ad 19 0)]))]) (l' := [((ad 0 0), .inr (8, [.ref (ad 1 0), .ref (ad 1 1), .ref (ad 1 2), .ref (ad 1 3), .ref (ad 1 4), .int ((σ 31 0) + x), .ref (ad 17 0), .ref (ad 18 0), .ref (ad 19 0)]))]) hc fl_RX7_42 ty_8 fp_8_5 hN (q0 := 0) rfl rfl rfl (Nat.le_of_ble_eq_true rfl) rfl rfl dX7_pass_39 ?_
    refine sw_aload_n (pc := 42) hc dX7_pass_42 rfl 0 rfl ?_
    refine sw_get (pc := 43) (v := .int ((σ 31 0) + x)) hc fl_RX7_42 (sg_ov_at hN (k := 0) rfl) rfl dX7_pass_43 ?_
    have hps := ph_pass hQ hW hg (bI_n o_1) (Int32.not_lt.mpr c_2)
    exact sw_iret (pc := 46) hc hlk hrt rfl ⟨congrArg (fun z => some (Value.int z)) hps.2.1.symm, hps.1, hps.2.2⟩ (Nat.le_of_ble_eq_true rfl) (Nat.le_of_ble_eq_true rfl) dX7_pass_46
  ·
    have c_2' := Int32.not_le.mp c_2
    exact sw_throw (pc := 22) hc hst th_RX7_50 (text := "no more days") (by decide +kernel) dX7_pass_22 dX7_pass_25 dX7_pass_26 dX7_pass_28 dX7_pass_31 htb hlk ⟨Nat.le_of_ble_eq_true rfl, Nat.le_of_ble_eq_true rfl, Nat.le_of_ble_eq_true rfl, Nat.le_of_ble_eq_true rfl⟩ ⟨.inr (⟨rfl, (if_neg (fun q => q (bI_n o_1))).trans (if_pos (Int32.not_le.mp c_2))⟩), PH.q hQ hW hg (by rw [show fPass σ x = st2 σ 42 0 (kPass σ x) from if_pos (by rw [show kPass σ x = 2 from (if_neg (fun q => q (bI_n o_1))).trans (if_pos (Int32.not_le.mp c_2))]; decide)]; exact f42 _)⟩ (Nat.le_of_ble_eq_true rfl) (Nat.le_of_ble_eq_true rfl)
