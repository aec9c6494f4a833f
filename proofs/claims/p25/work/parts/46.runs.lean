
/-! a hero runs a piece -/
def hRun (gp fl it : Nat → Int32) (b : Int32) : Nat → Her → Her
  | 0, h => h
  | n + 1, h => if ¬ h 11 = 0 then h else hRun gp fl it b n (hTick gp fl it h b)
theorem iN_lt {t : Int32} {n : Nat} (hn : n < 2 ^ 31) : nI n < t ↔ n < iN t := by
  unfold iN
  rcases Int32.lt_or_le t 0 with h | h
  · have h1 : t.toNatClampNeg = 0 := by
      show t.toInt.toNat = 0
      have := Int32.lt_iff_toInt_lt.mp h
      have h2 : (0 : Int32).toInt = 0 := rfl
      omega
    rw [h1]
    refine ⟨fun q => ?_, fun q => absurd q (Nat.not_lt_zero _)⟩
    have q1 := Int32.lt_iff_toInt_lt.mp q
    have q2 := Int32.lt_iff_toInt_lt.mp h
    rw [nI_toInt hn] at q1
    have h2 : (0 : Int32).toInt = 0 := rfl
    omega
  · obtain ⟨j, hj, rfl⟩ := nI_of (Int32.not_lt.mpr h)
    rw [nI_clamp hj]
    exact nI_ltI hn hj
theorem iN_b (t : Int32) : iN t < 2 ^ 31 := by
  show t.toInt.toNat < 2 ^ 31
  have := Int32.toInt_lt t
  omega
theorem hRun_o {gp fl it : Nat → Int32} {b : Int32} {h : Her} (ho : ¬ h 11 = 0) : ∀ n, hRun gp fl it b n h = h
  | 0 => rfl
  | _ + 1 => if_pos ho
theorem hRun_s {gp fl it : Nat → Int32} {b : Int32} {h : Her} {m n : Nat} (ho : ¬ ¬ h 11 = 0) (hn : n < m) : hRun gp fl it b (m - n) h = hRun gp fl it b (m - (n + 1)) (hTick gp fl it h b) := by
  rw [show m - n = (m - (n + 1)) + 1 by omega]
  exact if_neg ho

/-- a hero runs all of a replay's pieces, up to a tick -/
def hAgn (gp fl it fb ft : Nat → Int32) (til : Int32) (h : Her) : Nat → Her
  | 0 => hStart fl h
  | k + 1 => hRun gp fl it (fb k) (iN (jmin (ft k) (til - hAgn gp fl it fb ft til h k 10))) (hAgn gp fl it fb ft til h k)

theorem md_X1_isOver : sg_MD yX1_isOver cX1_isOver 1 (some .boolean) 0 := ⟨sg_mem (i := 512) (by decide +kernel) rfl, sg_mem (i := 30) (by decide +kernel) rfl, ⟨by decide, by decide⟩, by decide +kernel⟩
theorem ml_RX4_52 : sg_ML RX4 52 yX1_isOver := .inl (sg_mem (i := 509) (by decide +kernel) rfl)
theorem im_X1_isOver : Cond.instanceMethod yX1_isOver ∈ sg_T := sg_mem (i := 510) (by decide +kernel) rfl
theorem sl_X1_isOver : Cond.selects yX1_isOver.cls yX1_isOver yX1_isOver ∈ sg_T := sg_mem (i := 511) (by decide +kernel) rfl
theorem md_X1_tick : sg_MD yX1_tick cX1_tick 5 none 2 := ⟨sg_mem (i := 516) (by decide +kernel) rfl, sg_mem (i := 30) (by decide +kernel) rfl, ⟨by decide, by decide⟩, by decide +kernel⟩
theorem ml_RX4_56 : sg_ML RX4 56 yX1_tick := .inl (sg_mem (i := 513) (by decide +kernel) rfl)
theorem im_X1_tick : Cond.instanceMethod yX1_tick ∈ sg_T := sg_mem (i := 514) (by decide +kernel) rfl
theorem sl_X1_tick : Cond.selects yX1_tick.cls yX1_tick yX1_tick ∈ sg_T := sg_mem (i := 515) (by decide +kernel) rfl
theorem fp_5_4 : sg_FP 5 4 false .int := ⟨RX4, TX4, 7, rfl, rfl, by decide +kernel, rfl⟩
theorem fp_5_5 : sg_FP 5 5 false .int := ⟨RX4, TX4, 7, rfl, rfl, by decide +kernel, rfl⟩
theorem md_X4_runPiece : sg_MD yX4_runPiece cX4_runPiece 5 none 3 := ⟨sg_mem (i := 508) (by decide +kernel) rfl, sg_mem (i := 44) (by decide +kernel) rfl, ⟨by decide, by decide⟩, by decide +kernel⟩
theorem ml_RX4_40 : sg_ML RX4 40 yX4_runPiece := .inl (sg_mem (i := 505) (by decide +kernel) rfl)
theorem im_X4_runPiece : Cond.instanceMethod yX4_runPiece ∈ sg_T := sg_mem (i := 507) (by decide +kernel) rfl
theorem sl_X4_runPiece : Cond.selects yX4_runPiece.cls yX4_runPiece yX4_runPiece ∈ sg_T := sg_mem (i := 7) (by decide +kernel) rfl
theorem fl_RX4_44 : sg_FL RX4 44 2 10 := ⟨RX1, TX1, 12, "SplitGate$Hero", rfl, by decide, ti_2, .inl rfl, .inr ⟨"SplitGate", sg_memN (i := 106) (by decide +kernel) rfl⟩⟩
theorem mm_RX4_46 : sg_Mmin RX4 46 := ⟨sg_mem (i := 735) (by decide +kernel) rfl, sg_mem (i := 309) (by decide +kernel) rfl, sg_mem (i := 37) (by decide +kernel) rfl, sg_mem (i := 310) (by decide +kernel) rfl⟩
set_option maxHeartbeats 4000000 in
set_option maxRecDepth 100000 in
theorem c_X4_runPiece (l : Launch) (g : sg_G) (C : Nat → Option va_E) (a : Nat) (h : Nat) (b : Int32) (t : Int32) (lv : Nat) (r1 : Nat) (r2 : Nat) (r3 : Nat) (y4 : Int32) (y5 : Int32) (y6 : Int32) (hs : Nat → Int32) (ag : Nat) (af : Nat) (ai : Nat) (gp : Nat → Int32) (fl : Nat → Int32) (it : Nat → Int32) (hC_a : C a = some (.inr (5, [.ref lv, .ref r1, .ref r2, .ref r3, .int y4, .int y5, .int y6]))) (hC_h : C h = some (.inr (2, hfs hs))) (hC_lv : C lv = some (.inr (3, [.ref ag, .ref af, .ref ai]))) (hC_ag : C ag = some (sg_za g 32 gp)) (hC_af : C af = some (sg_ia g 32 fl)) (hC_ai : C ai = some (sg_ia g 32 it)) : sg_Met l yX4_runPiece cX4_runPiece 5 none 3 72 0 0 g [.ref a, .ref h, .int b, .int t] C (fun v C' => v = none ∧ C' = sg_ov C [(h, .inr (2, hfs (hRun gp fl it b (iN t) hs)))]) sg_no := by
  refine sg_ofW (by decide) rfl ?_ (Nat.le_of_ble_eq_true rfl)
  intro p e s m below meth c hc hlk hrt hin2 ht
  have hc : sg_Cx p s m _ c cX4_runPiece 5 RX4 g := hc
  show sg_W p l e _ s m _ below meth c 5 g 0 0 _ C 0 [(0, .ref a), (1, .ref h), (2, .int b), (3, .int t)] []
  have hN : sg_nd [h] := ⟨List.not_mem_nil, trivial⟩
  have hO_a : a ∉ [h] := sg_nin (sg_ne hC_a hC_h (Nat.ne_of_beq_eq_false rfl)) (List.not_mem_nil)
  have hO_lv : lv ∉ [h] := sg_nin (sg_ne hC_lv hC_h (Nat.ne_of_beq_eq_false rfl)) (List.not_mem_nil)
  have hO_ag : ag ∉ [h] := sg_nin (sg_ne hC_ag hC_h (Nat.ne_of_beq_eq_false rfl)) (List.not_mem_nil)
  have hO_af : af ∉ [h] := sg_nin (sg_ne hC_af hC_h (Nat.ne_of_beq_eq_false rfl)) (List.not_mem_nil)
  have hO_ai : ai ∉ [h] := sg_nin (sg_ne hC_ai hC_h (Nat.ne_of_beq_eq_false rfl)) (List.not_mem_nil)
  have K_3 : ∀ (n3 : Nat) (n : Nat) (h2 : Nat → Int32) (hn3 : iN t - n < n3) (hI : hRun gp fl it b (iN t - n) h2 = hRun gp fl it b (iN t) hs) (hJ : n ≤ iN t), sg_W p l e (sg_rm 3 72 0 0) s m ([.ref a, .ref h, .int b, .int t] : List Value).toArray below meth c 5 g 0 0 (sg_End below g (fun v C' => v = none ∧ C' = sg_ov C [(h, .inr (2, hfs (hRun gp fl it b (iN t) hs)))]) (sg_no) ([.ref a, .ref h, .int b, .int t] : List Value).toArray s 0 0) (sg_ov C [(h, .inr (2, hfs h2))]) 3 [(0, .ref a), (1, .ref h), (2, .int b), (3, .int t), (4, .int (nI n))] [] := by
    intro n3
    induction n3 with
    | zero => intro n h2 hn3 hI hJ; exact absurd hn3 (Nat.not_lt_zero _)
    | succ n3 ih3 =>
      intro n h2 hn3 hI hJ
      refine sw_iload (pc := 3) hc dX4_runPiece_3 4 rfl ?_
      refine sw_iload_n (pc := 5) hc dX4_runPiece_5 rfl 3 rfl ?_
      refine sw_icmp_ge (pc := 6) (tgt := 31) hc dX4_runPiece_6 (by decide) (fun c_1 => ?_) (fun c_1 => ?_)
      ·
        have c_1' := Int32.not_lt.mpr c_1
        have h_2 : h2 = hRun gp fl it b (iN t) hs := by rw [← hI, show iN t - n = 0 from by have := mt (iN_lt (t := t) (n := n) (by have := iN_b t; omega)).mpr (Int32.not_lt.mpr c_1); omega]; rfl
        exact sw_vret (pc := 31) hc hlk hrt ⟨rfl, congrArg (fun zz => sg_ov C [(h, .inr (2, hfs zz))]) h_2⟩ (Nat.le_of_ble_eq_true rfl) (Nat.le_of_ble_eq_true rfl) dX4_runPiece_31
      ·
        have c_1' := Int32.not_le.mp c_1
        have hlt : n < iN t := (iN_lt (by have := iN_b t; omega)).mp (Int32.not_le.mp c_1)
        refine sw_aload_n (pc := 9) hc dX4_runPiece_9 rfl 1 rfl ?_
        refine sw_callV (pc := 10) (rest := []) hc (c_X1_isOver l g (sg_ov C [(h, .inr (2, hfs h2))]) h h2 (sg_ov_at hN (k := 0) rfl)) md_X1_isOver ml_RX4_52 im_X1_isOver sl_X1_isOver (sg_ov_at hN (k := 0) rfl) rfl rfl rfl (Nat.le_of_ble_eq_true rfl) dX4_runPiece_10 ⟨Nat.le_of_ble_eq_true rfl, Nat.le_of_ble_eq_true rfl, Nat.le_of_ble_eq_true rfl, Nat.le_of_ble_eq_true rfl⟩ (fun v C' hP => ?_) (fun _ _ h => h.elim)
        obtain ⟨rfl, rfl⟩ := hP
        refine sw_st (st' := [.int (bI (¬ h2 11 = 0))]) rfl ?_
        refine sw_if_ne (pc := 13) (tgt := 31) hc dX4_runPiece_13 (by decide) (fun c_3 => ?_) (fun c_3 => ?_)
        ·
          have p_4 : ¬ h2 11 = 0 := bI_n c_3
          have h_5 : h2 = hRun gp fl it b (iN t) hs := (hRun_o p_4 _).symm.trans hI
          exact sw_vret (pc := 31) hc hlk hrt ⟨rfl, congrArg (fun zz => sg_ov C [(h, .inr (2, hfs zz))]) h_5⟩ (Nat.le_of_ble_eq_true rfl) (Nat.le_of_ble_eq_true rfl) dX4_runPiece_31
        ·
          have p_6 : ¬ (¬ h2 11 = 0) := bI_0 c_3
          refine sw_aload_n (pc := 16) hc dX4_runPiece_16 rfl 1 rfl ?_
          refine sw_aload_n (pc := 17) hc dX4_runPiece_17 rfl 0 rfl ?_
          refine sw_get (pc := 18) (v := .ref lv) hc fl_RX4_25 ((sg_ov_out hO_a).trans hC_a) rfl dX4_runPiece_18 ?_
          refine sw_iload_n (pc := 21) hc dX4_runPiece_21 rfl 2 rfl ?_
          refine sw_callV (pc := 22) (rest := []) hc (c_X1_tick l g (sg_ov C [(h, .inr (2, hfs h2))]) h lv b h2 ag af ai gp fl it (sg_ov_at hN (k := 0) rfl) ((sg_ov_out hO_lv).trans hC_lv) ((sg_ov_out hO_ag).trans hC_ag) ((sg_ov_out hO_af).trans hC_af) ((sg_ov_out hO_ai).trans hC_ai)) md_X1_tick ml_RX4_56 im_X1_tick sl_X1_tick (sg_ov_at hN (k := 0) rfl) rfl rfl rfl (Nat.le_of_ble_eq_true rfl) dX4_runPiece_22 ⟨Nat.le_of_ble_eq_true rfl, Nat.le_of_ble_eq_true rfl, Nat.le_of_ble_eq_true rfl, Nat.le_of_ble_eq_true rfl⟩ (fun v C' hP => ?_) (fun _ _ h => h.elim)
          obtain ⟨rfl, rfl⟩ := hP
          refine sw_eq (C' := sg_ov C [(h, .inr (2, hfs (hTick gp fl it h2 b)))]) (sg_ov_set (l := [(h, .inr (2, hfs h2))]) hN (k := 0) rfl) ?_
          refine sw_iinc (pc := 25) (v := nI (n + 1)) (lv' := [(4, .int (nI (n + 1))), (0, .ref a), (1, .ref h), (2, .int b), (3, .int t)]) hc dX4_runPiece_25 (k := 4) rfl (nI_1 _) (by decide) rfl ?_
          refine sw_goto (pc := 28) (tgt := 3) hc dX4_runPiece_28 (by decide) ?_
          have h_7 : hRun gp fl it b (iN t - (n + 1)) (hTick gp fl it h2 b) = hRun gp fl it b (iN t) hs := by rw [← hI, hRun_s p_6 hlt]
          have h_8 : (n + 1) ≤ iN t := by omega
          have h_9 : iN t - (n + 1) < n3 := by omega
          exact sw_sub (ks := [1, 2, 3, 4, 0]) rfl (ih3 (n + 1) (hTick gp fl it h2 b) h_9 h_7 h_8)
  refine sw_eq (C' := sg_ov C [(h, .inr (2, hfs hs))]) (sg_ov_self2 (List.forall_mem_cons.mpr ⟨hC_h, fun _ h => absurd h List.not_mem_nil⟩)).symm ?_
  refine sw_iconst (pc := 0) (v := 0) hc dX4_runPiece_0 (by decide) ?_
  refine sw_istore (pc := 1) hc dX4_runPiece_1 (by decide) (lv' := [(4, .int 0), (0, .ref a), (1, .ref h), (2, .int b), (3, .int t)]) rfl ?_
  have h_10 : hRun gp fl it b (iN t - 0) hs = hRun gp fl it b (iN t) hs := by rfl
  have h_11 : 0 ≤ iN t := by omega
  exact sw_sub (ks := [1, 2, 3, 4, 0]) rfl (K_3 _ 0 hs (Nat.lt_succ_self _) h_10 h_11)

set_option maxHeartbeats 4000000 in
set_option maxRecDepth 100000 in
theorem c_X4_addPiece (l : Launch) (g : sg_G) (C : Nat → Option va_E) (a : Nat) (b : Int32) (t : Int32) (lv : Nat) (r1 : Nat) (r2 : Nat) (h : Nat) (y5 : Int32) (y6 : Int32) (fb : Nat → Int32) (ft : Nat → Int32) (hs : Nat → Int32) (ag : Nat) (af : Nat) (ai : Nat) (gp : Nat → Int32) (fl : Nat → Int32) (it : Nat → Int32) (pn : Nat) (hC_a : C a = some (.inr (5, [.ref lv, .ref r1, .ref r2, .ref h, .int (nI pn), .int y5, .int y6]))) (hC_r1 : C r1 = some (sg_ia g 20 fb)) (hC_r2 : C r2 = some (sg_ia g 20 ft)) (hC_h : C h = some (.inr (2, hfs hs))) (hC_lv : C lv = some (.inr (3, [.ref ag, .ref af, .ref ai]))) (hC_ag : C ag = some (sg_za g 32 gp)) (hC_af : C af = some (sg_ia g 32 fl)) (hC_ai : C ai = some (sg_ia g 32 it)) (hp : pn < 20) (hN : sg_nd [a, r1, r2, h, lv, ag, af, ai]) : sg_Met l yX4_addPiece cX4_addPiece 3 none 4 96 0 0 g [.ref a, .int b, .int t] C (fun v C' => v = none ∧ C' = sg_ov C [(a, .inr (5, [.ref lv, .ref r1, .ref r2, .ref h, .int (nI (pn + 1)), .int (y5 + t), .int y6])), (r1, sg_ia g 20 (upd fb pn b)), (r2, sg_ia g 20 (upd ft pn t)), (h, .inr (2, hfs (hRun gp fl it b (iN t) hs))), (lv, .inr (3, [.ref ag, .ref af, .ref ai])), (ag, sg_za g 32 gp), (af, sg_ia g 32 fl), (ai, sg_ia g 32 it)]) sg_no := by
  refine sg_ofW (by decide) rfl ?_ (Nat.le_of_ble_eq_true rfl)
  intro p e s m below meth c hc hlk hrt hin2 ht
  have hc : sg_Cx p s m _ c cX4_addPiece 3 RX4 g := hc
  show sg_W p l e _ s m _ below meth c 3 g 0 0 _ C 0 [(0, .ref a), (1, .int b), (2, .int t)] []
  refine sw_eq (C' := sg_ov C [(a, .inr (5, [.ref lv, .ref r1, .ref r2, .ref h, .int (nI pn), .int y5, .int y6])), (r1, sg_ia g 20 fb), (r2, sg_ia g 20 ft), (h, .inr (2, hfs hs)), (lv, .inr (3, [.ref ag, .ref af, .ref ai])), (ag, sg_za g 32 gp), (af, sg_ia g 32 fl), (ai, sg_ia g 32 it)]) (sg_ov_self2 (List.forall_mem_cons.mpr ⟨hC_a, List.forall_mem_cons.mpr ⟨hC_r1, List.forall_mem_cons.mpr ⟨hC_r2, List.forall_mem_cons.mpr ⟨hC_h, List.forall_mem_cons.mpr ⟨hC_lv, List.forall_mem_cons.mpr ⟨hC_ag, List.forall_mem_cons.mpr ⟨hC_af, List.forall_mem_cons.mpr ⟨hC_ai, fun _ h => absurd h List.not_mem_nil⟩⟩⟩⟩⟩⟩⟩⟩)).symm ?_
  refine sw_aload_n (pc := 0) hc dX4_addPiece_0 rfl 0 rfl ?_
  refine sw_get (pc := 1) (v := .int (nI pn)) hc fl_RX4_33 (sg_ov_at hN (k := 0) rfl) rfl dX4_addPiece_1 ?_
  refine sw_if_lt (pc := 4) (tgt := 66) hc dX4_addPiece_4 (by decide) (fun c_1 => ?_) (fun c_1 => ?_)
  ·
    exact absurd c_1 (nI_pos (by omega))
  ·
    have c_1' := Int32.not_lt.mp c_1
    refine sw_aload_n (pc := 7) hc dX4_addPiece_7 rfl 0 rfl ?_
    refine sw_get (pc := 8) (v := .int (nI pn)) hc fl_RX4_33 (sg_ov_at hN (k := 0) rfl) rfl dX4_addPiece_8 ?_
    refine sw_bipush (pc := 11) (v := 20) hc dX4_addPiece_11 (by decide) ?_
    refine sw_icmp_ge (pc := 13) (tgt := 66) hc dX4_addPiece_13 (by decide) (fun c_2 => ?_) (fun c_2 => ?_)
    ·
      exact absurd c_2 (show ¬ (20 : Int32) ≤ nI pn from nI_ge (b := 20) hp (by decide))
    ·
      have c_2' := Int32.not_le.mp c_2
      refine sw_aload_n (pc := 16) hc dX4_addPiece_16 rfl 0 rfl ?_
      refine sw_get (pc := 17) (v := .ref r1) hc fl_RX4_9 (sg_ov_at hN (k := 0) rfl) rfl dX4_addPiece_17 ?_
      refine sw_aload_n (pc := 20) hc dX4_addPiece_20 rfl 0 rfl ?_
      refine sw_get (pc := 21) (v := .int (nI pn)) hc fl_RX4_33 (sg_ov_at hN (k := 0) rfl) rfl dX4_addPiece_21 ?_
      refine sw_iload_n (pc := 24) hc dX4_addPiece_24 rfl 1 rfl ?_
      refine sw_iastO (pc := 25) (j := pn) (L := [(a, .inr (5, [.ref lv, .ref r1, .ref r2, .ref h, .int (nI pn), .int y5, .int y6])), (r1, sg_ia g 20 fb), (r2, sg_ia g 20 ft), (h, .inr (2, hfs hs)), (lv, .inr (3, [.ref ag, .ref af, .ref ai])), (ag, sg_za g 32 gp), (af, sg_ia g 32 fl), (ai, sg_ia g 32 it)]) (l' := [(a, .inr (5, [.ref lv, .ref r1, .ref r2, .ref h, .int (nI pn), .int y5, .int y6])), (r1, sg_ia g 20 (upd fb pn b)), (r2, sg_ia g 20 ft), (h, .inr (2, hfs hs)), (lv, .inr (3, [.ref ag, .ref af, .ref ai])), (ag, sg_za g 32 gp), (af, sg_ia g 32 fl), (ai, sg_ia g 32 it)]) hc hN (q0 := 1) rfl rfl (by omega) (by decide) rfl dX4_addPiece_25 ?_
      refine sw_aload_n (pc := 26) hc dX4_addPiece_26 rfl 0 rfl ?_
      refine sw_get (pc := 27) (v := .ref r2) hc fl_RX4_15 (sg_ov_at hN (k := 0) rfl) rfl dX4_addPiece_27 ?_
      refine sw_aload_n (pc := 30) hc dX4_addPiece_30 rfl 0 rfl ?_
      refine sw_get (pc := 31) (v := .int (nI pn)) hc fl_RX4_33 (sg_ov_at hN (k := 0) rfl) rfl dX4_addPiece_31 ?_
      refine sw_iload_n (pc := 34) hc dX4_addPiece_34 rfl 2 rfl ?_
      refine sw_iastO (pc := 35) (j := pn) (L := [(a, .inr (5, [.ref lv, .ref r1, .ref r2, .ref h, .int (nI pn), .int y5, .int y6])), (r1, sg_ia g 20 (upd fb pn b)), (r2, sg_ia g 20 ft), (h, .inr (2, hfs hs)), (lv, .inr (3, [.ref ag, .ref af, .ref ai])), (ag, sg_za g 32 gp), (af, sg_ia g 32 fl), (ai, sg_ia g 32 it)]) (l' := [(a, .inr (5, [.ref lv, .ref r1, .ref r2, .ref h, .int (nI pn), .int y5, .int y6])), (r1, sg_ia g 20 (upd fb pn b)), (r2, sg_ia g 20 (upd ft pn t)), (h, .inr (2, hfs hs)), (lv, .inr (3, [.ref ag, .ref af, .ref ai])), (ag, sg_za g 32 gp), (af, sg_ia g 32 fl), (ai, sg_ia g 32 it)]) hc hN (q0 := 2) rfl rfl (by omega) (by decide) rfl dX4_addPiece_35 ?_
      refine sw_aload_n (pc := 36) hc dX4_addPiece_36 rfl 0 rfl ?_
      refine sw_dup (pc := 37) hc dX4_addPiece_37 rfl ?_
      refine sw_get (pc := 38) (v := .int (nI pn)) hc fl_RX4_33 (sg_ov_at hN (k := 0) rfl) rfl dX4_addPiece_38 ?_
      refine sw_iconst (pc := 41) (v := 1) hc dX4_addPiece_41 (by decide) ?_
      refine sw_iadd (pc := 42) hc dX4_addPiece_42 ?_
      refine sw_st (st' := [.int (nI (pn + 1)), .ref a]) (congrArg (fun z => ([.int z, .ref a] : List Value)) (nI_1 pn : (nI pn) + 1 = nI (pn + 1))) ?_
      refine sw_putO (pc := 43) (k := 4) (fs' := [.ref lv, .ref r1, .ref r2, .ref h, .int (nI (pn + 1)), .int y5, .int y6]) (L := [(a, .inr (5, [.ref lv, .ref r1, .ref r2, .ref h, .int (nI pn), .int y5, .int y6])), (r1, sg_ia g 20 (upd fb pn b)), (r2, sg_ia g 20 (upd ft pn t)), (h, .inr (2, hfs hs)), (lv, .inr (3, [.ref ag, .ref af, .ref ai])), (ag, sg_za g 32 gp), (af, sg_ia g 32 fl), (ai, sg_ia g 32 it)]) (l' := [(a, .inr (5, [.ref lv, .ref r1, .ref r2, .ref h, .int (nI (pn + 1)), .int y5, .int y6])), (r1, sg_ia g 20 (upd fb pn b)), (r2, sg_ia g 20 (upd ft pn t)), (h, .inr (2, hfs hs)), (lv, .inr (3, [.ref ag, .ref af, .ref ai])), (ag, sg_za g 32 gp), (af, sg_ia g 32 fl), (ai, sg_ia g 32 it)]) hc fl_RX4_33 ty_5 fp_5_4 hN (q0 := 0) rfl rfl rfl (Nat.le_of_ble_eq_true rfl) rfl rfl dX4_addPiece_43 ?_
      refine sw_aload_n (pc := 46) hc dX4_addPiece_46 rfl 0 rfl ?_
      refine sw_dup (pc := 47) hc dX4_addPiece_47 rfl ?_
      refine sw_get (pc := 48) (v := .int y5) hc fl_RX4_37 (sg_ov_at hN (k := 0) rfl) rfl dX4_addPiece_48 ?_
      refine sw_iload_n (pc := 51) hc dX4_addPiece_51 rfl 2 rfl ?_
      refine sw_iadd (pc := 52) hc dX4_addPiece_52 ?_
      refine sw_putO (pc := 53) (k := 5) (fs' := [.ref lv, .ref r1, .ref r2, .ref h, .int (nI (pn + 1)), .int (y5 + t), .int y6]) (L := [(a, .inr (5, [.ref lv, .ref r1, .ref r2, .ref h, .int (nI (pn + 1)), .int y5, .int y6])), (r1, sg_ia g 20 (upd fb pn b)), (r2, sg_ia g 20 (upd ft pn t)), (h, .inr (2, hfs hs)), (lv, .inr (3, [.ref ag, .ref af, .ref ai])), (ag, sg_za g 32 gp), (af, sg_ia g 32 fl), (ai, sg_ia g 32 it)]) (l' := [(a, .inr (5, [.ref lv, .ref r1, .ref r2, .ref h, .int (nI (pn + 1)), .int (y5 + t), .int y6])), (r1, sg_ia g 20 (upd fb pn b)), (r2, sg_ia g 20 (upd ft pn t)), (h, .inr (2, hfs hs)), (lv, .inr (3, [.ref ag, .ref af, .ref ai])), (ag, sg_za g 32 gp), (af, sg_ia g 32 fl), (ai, sg_ia g 32 it)]) hc fl_RX4_37 ty_5 fp_5_5 hN (q0 := 0) rfl rfl rfl (Nat.le_of_ble_eq_true rfl) rfl rfl dX4_addPiece_53 ?_
      refine sw_aload_n (pc := 56) hc dX4_addPiece_56 rfl 0 rfl ?_
      refine sw_aload_n (pc := 57) hc dX4_addPiece_57 rfl 0 rfl ?_
      refine sw_get (pc := 58) (v := .ref h) hc fl_RX4_21 (sg_ov_at hN (k := 0) rfl) rfl dX4_addPiece_58 ?_
      refine sw_iload_n (pc := 61) hc dX4_addPiece_61 rfl 1 rfl ?_
      refine sw_iload_n (pc := 62) hc dX4_addPiece_62 rfl 2 rfl ?_
      refine sw_callV (pc := 63) (rest := []) hc (c_X4_runPiece l g (sg_ov C [(a, .inr (5, [.ref lv, .ref r1, .ref r2, .ref h, .int (nI (pn + 1)), .int (y5 + t), .int y6])), (r1, sg_ia g 20 (upd fb pn b)), (r2, sg_ia g 20 (upd ft pn t)), (h, .inr (2, hfs hs)), (lv, .inr (3, [.ref ag, .ref af, .ref ai])), (ag, sg_za g 32 gp), (af, sg_ia g 32 fl), (ai, sg_ia g 32 it)]) a h b t lv r1 r2 h (nI (pn + 1)) (y5 + t) y6 hs ag af ai gp fl it (sg_ov_at hN (k := 0) rfl) (sg_ov_at hN (k := 3) rfl) (sg_ov_at hN (k := 4) rfl) (sg_ov_at hN (k := 5) rfl) (sg_ov_at hN (k := 6) rfl) (sg_ov_at hN (k := 7) rfl)) md_X4_runPiece ml_RX4_40 im_X4_runPiece sl_X4_runPiece (sg_ov_at hN (k := 0) rfl) rfl rfl rfl (Nat.le_of_ble_eq_true rfl) dX4_addPiece_63 ⟨Nat.le_of_ble_eq_true rfl, Nat.le_of_ble_eq_true rfl, Nat.le_of_ble_eq_true rfl, Nat.le_of_ble_eq_true rfl⟩ (fun v C' hP => ?_) (fun _ _ h => h.elim)
      obtain ⟨rfl, rfl⟩ := hP
      refine sw_eq (C' := sg_ov C [(a, .inr (5, [.ref lv, .ref r1, .ref r2, .ref h, .int (nI (pn + 1)), .int (y5 + t), .int y6])), (r1, sg_ia g 20 (upd fb pn b)), (r2, sg_ia g 20 (upd ft pn t)), (h, .inr (2, hfs (hRun gp fl it b (iN t) hs))), (lv, .inr (3, [.ref ag, .ref af, .ref ai])), (ag, sg_za g 32 gp), (af, sg_ia g 32 fl), (ai, sg_ia g 32 it)]) (sg_ov_set (l := [(a, .inr (5, [.ref lv, .ref r1, .ref r2, .ref h, .int (nI (pn + 1)), .int (y5 + t), .int y6])), (r1, sg_ia g 20 (upd fb pn b)), (r2, sg_ia g 20 (upd ft pn t)), (h, .inr (2, hfs hs)), (lv, .inr (3, [.ref ag, .ref af, .ref ai])), (ag, sg_za g 32 gp), (af, sg_ia g 32 fl), (ai, sg_ia g 32 it)]) hN (k := 3) rfl) ?_
      exact sw_vret (pc := 66) hc hlk hrt ⟨rfl, rfl⟩ (Nat.le_of_ble_eq_true rfl) (Nat.le_of_ble_eq_true rfl) dX4_addPiece_66

set_option maxHeartbeats 4000000 in
set_option maxRecDepth 100000 in
theorem c_X2_change (l : Launch) (g : sg_G) (C : Nat → Option va_E) (lv : Nat) (y : Int32) (z : Int32) (ag : Nat) (af : Nat) (ai : Nat) (gp : Nat → Int32) (fl : Nat → Int32) (it : Nat → Int32) (cl : Nat) (hC_lv : C lv = some (.inr (3, [.ref ag, .ref af, .ref ai]))) (hC_ag : C ag = some (sg_za g 32 gp)) (hC_af : C af = some (sg_ia g 32 fl)) (hC_ai : C ai = some (sg_ia g 32 it)) (hp : cl < 32) (hN : sg_nd [ag, af, ai]) : sg_Met l yX2_change cX2_change 4 none 0 0 0 0 g [.ref lv, .int (nI cl), .int y, .int z] C (fun v C' => v = none ∧ C' = sg_ov C [(ag, sg_za g 32 (upd gp cl (bI (y = -1)))), (af, sg_ia g 32 (upd fl cl (if y = -1 then 0 else 16 * y))), (ai, sg_ia g 32 (upd it cl z))]) sg_no := by
  refine sg_ofW (by decide) rfl ?_ (Nat.le_of_ble_eq_true rfl)
  intro p e s m below meth c hc hlk hrt hin2 ht
  have hc : sg_Cx p s m _ c cX2_change 4 RX2 g := hc
  show sg_W p l e _ s m _ below meth c 4 g 0 0 _ C 0 [(0, .ref lv), (1, .int (nI cl)), (2, .int y), (3, .int z)] []
  have hO_lv : lv ∉ [ag, af, ai] := sg_nin (sg_ne hC_lv hC_ag (Nat.ne_of_beq_eq_false rfl)) (sg_nin (sg_ne hC_lv hC_af (Nat.ne_of_beq_eq_false rfl)) (sg_nin (sg_ne hC_lv hC_ai (Nat.ne_of_beq_eq_false rfl)) (List.not_mem_nil)))
  refine sw_eq (C' := sg_ov C [(ag, sg_za g 32 gp), (af, sg_ia g 32 fl), (ai, sg_ia g 32 it)]) (sg_ov_self2 (List.forall_mem_cons.mpr ⟨hC_ag, List.forall_mem_cons.mpr ⟨hC_af, List.forall_mem_cons.mpr ⟨hC_ai, fun _ h => absurd h List.not_mem_nil⟩⟩⟩)).symm ?_
  refine sw_iload_n (pc := 0) hc dX2_change_0 rfl 1 rfl ?_
  refine sw_if_lt (pc := 1) (tgt := 52) hc dX2_change_1 (by decide) (fun c_1 => ?_) (fun c_1 => ?_)
  ·
    exact absurd c_1 (nI_pos (by omega))
  ·
    have c_1' := Int32.not_lt.mp c_1
    refine sw_iload_n (pc := 4) hc dX2_change_4 rfl 1 rfl ?_
    refine sw_bipush (pc := 5) (v := 32) hc dX2_change_5 (by decide) ?_
    refine sw_icmp_ge (pc := 7) (tgt := 52) hc dX2_change_7 (by decide) (fun c_2 => ?_) (fun c_2 => ?_)
    ·
      exact absurd c_2 (show ¬ (32 : Int32) ≤ nI cl from nI_ge (b := 32) hp (by decide))
    ·
      have c_2' := Int32.not_le.mp c_2
      refine sw_aload_n (pc := 10) hc dX2_change_10 rfl 0 rfl ?_
      refine sw_get (pc := 11) (v := .ref ag) hc fl_RX2_9 ((sg_ov_out hO_lv).trans hC_lv) rfl dX2_change_11 ?_
      refine sw_iload_n (pc := 14) hc dX2_change_14 rfl 1 rfl ?_
      refine sw_iload_n (pc := 15) hc dX2_change_15 rfl 2 rfl ?_
      refine sw_iconst (pc := 16) (v := (-1)) hc dX2_change_16 (by decide) ?_
      refine sw_icmp_ne (pc := 17) (tgt := 24) hc dX2_change_17 (by decide) (fun c_3 => ?_) (fun c_3 => ?_)
      ·
        refine sw_iconst (pc := 24) (v := 0) hc dX2_change_24 (by decide) ?_
        refine sw_zastO (pc := 25) (j := cl) (L := [(ag, sg_za g 32 gp), (af, sg_ia g 32 fl), (ai, sg_ia g 32 it)]) (l' := [(ag, sg_za g 32 (upd gp cl 0)), (af, sg_ia g 32 fl), (ai, sg_ia g 32 it)]) hc hN (q0 := 0) rfl rfl (by omega) (by decide) (.inl rfl) rfl dX2_change_25 ?_
        refine sw_aload_n (pc := 26) hc dX2_change_26 rfl 0 rfl ?_
        refine sw_get (pc := 27) (v := .ref af) hc fl_RX2_15 ((sg_ov_out hO_lv).trans hC_lv) rfl dX2_change_27 ?_
        refine sw_iload_n (pc := 30) hc dX2_change_30 rfl 1 rfl ?_
        refine sw_iload_n (pc := 31) hc dX2_change_31 rfl 2 rfl ?_
        refine sw_iconst (pc := 32) (v := (-1)) hc dX2_change_32 (by decide) ?_
        refine sw_icmp_ne (pc := 33) (tgt := 40) hc dX2_change_33 (by decide) (fun c_4 => ?_) (fun c_4 => ?_)
        ·
          refine sw_bipush (pc := 40) (v := 16) hc dX2_change_40 (by decide) ?_
          refine sw_iload_n (pc := 42) hc dX2_change_42 rfl 2 rfl ?_
          refine sw_imul (pc := 43) hc dX2_change_43 ?_
          refine sw_iastO (pc := 44) (j := cl) (L := [(ag, sg_za g 32 (upd gp cl 0)), (af, sg_ia g 32 fl), (ai, sg_ia g 32 it)]) (l' := [(ag, sg_za g 32 (upd gp cl 0)), (af, sg_ia g 32 (upd fl cl (16 * y))), (ai, sg_ia g 32 it)]) hc hN (q0 := 1) rfl rfl (by omega) (by decide) rfl dX2_change_44 ?_
          refine sw_aload_n (pc := 45) hc dX2_change_45 rfl 0 rfl ?_
          refine sw_get (pc := 46) (v := .ref ai) hc fl_RX2_19 ((sg_ov_out hO_lv).trans hC_lv) rfl dX2_change_46 ?_
          refine sw_iload_n (pc := 49) hc dX2_change_49 rfl 1 rfl ?_
          refine sw_iload_n (pc := 50) hc dX2_change_50 rfl 3 rfl ?_
          refine sw_iastO (pc := 51) (j := cl) (L := [(ag, sg_za g 32 (upd gp cl 0)), (af, sg_ia g 32 (upd fl cl (16 * y))), (ai, sg_ia g 32 it)]) (l' := [(ag, sg_za g 32 (upd gp cl 0)), (af, sg_ia g 32 (upd fl cl (16 * y))), (ai, sg_ia g 32 (upd it cl z))]) hc hN (q0 := 2) rfl rfl (by omega) (by decide) rfl dX2_change_51 ?_
          have h_5 : upd gp cl 0 = upd gp cl (bI (y = -1)) := by first | with_reducible rfl | (first | with_reducible rfl | (simp [-Int32.not_le, -Int32.not_lt, bI, st1_a, c_1, c_1', c_2, c_2', c_3, c_4]; done) | (((try simp only [st1_a, Nat.reduceBEq, cond_false, cond_true] at c_1 c_1' c_2 c_2' c_3 c_4) <;> simp [-Int32.not_le, -Int32.not_lt, bI, st1_a, c_1, c_1', c_2, c_2', c_3, c_4]); done) | ((try simp only [bI]); (repeat' split) <;> simp_all [-Int32.not_le, -Int32.not_lt, st1_a, lItem, lAbove, lGap]; done))
          have h_6 : upd fl cl (16 * y) = upd fl cl (if y = -1 then 0 else 16 * y) := by first | with_reducible rfl | (first | with_reducible rfl | (simp [-Int32.not_le, -Int32.not_lt, bI, st1_a, c_1, c_1', c_2, c_2', c_3, c_4]; done) | (((try simp only [st1_a, Nat.reduceBEq, cond_false, cond_true] at c_1 c_1' c_2 c_2' c_3 c_4) <;> simp [-Int32.not_le, -Int32.not_lt, bI, st1_a, c_1, c_1', c_2, c_2', c_3, c_4]); done) | ((try simp only [bI]); (repeat' split) <;> simp_all [-Int32.not_le, -Int32.not_lt, st1_a, lItem, lAbove, lGap]; done))
          exact sw_vret (pc := 52) hc hlk hrt ⟨rfl, ((congrArg (fun zz => sg_ov C [(ag, sg_za g 32 zz), (af, sg_ia g 32 (upd fl cl (16 * y))), (ai, sg_ia g 32 (upd it cl z))]) h_5).trans (congrArg (fun zz => sg_ov C [(ag, sg_za g 32 (upd gp cl (bI (y = -1)))), (af, sg_ia g 32 zz), (ai, sg_ia g 32 (upd it cl z))]) h_6))⟩ (Nat.le_of_ble_eq_true rfl) (Nat.le_of_ble_eq_true rfl) dX2_change_52
        ·
          refine sw_iconst (pc := 36) (v := 0) hc dX2_change_36 (by decide) ?_
          refine sw_goto (pc := 37) (tgt := 44) hc dX2_change_37 (by decide) ?_
          refine sw_iastO (pc := 44) (j := cl) (L := [(ag, sg_za g 32 (upd gp cl 0)), (af, sg_ia g 32 fl), (ai, sg_ia g 32 it)]) (l' := [(ag, sg_za g 32 (upd gp cl 0)), (af, sg_ia g 32 (upd fl cl 0)), (ai, sg_ia g 32 it)]) hc hN (q0 := 1) rfl rfl (by omega) (by decide) rfl dX2_change_44 ?_
          refine sw_aload_n (pc := 45) hc dX2_change_45 rfl 0 rfl ?_
          refine sw_get (pc := 46) (v := .ref ai) hc fl_RX2_19 ((sg_ov_out hO_lv).trans hC_lv) rfl dX2_change_46 ?_
          refine sw_iload_n (pc := 49) hc dX2_change_49 rfl 1 rfl ?_
          refine sw_iload_n (pc := 50) hc dX2_change_50 rfl 3 rfl ?_
          refine sw_iastO (pc := 51) (j := cl) (L := [(ag, sg_za g 32 (upd gp cl 0)), (af, sg_ia g 32 (upd fl cl 0)), (ai, sg_ia g 32 it)]) (l' := [(ag, sg_za g 32 (upd gp cl 0)), (af, sg_ia g 32 (upd fl cl 0)), (ai, sg_ia g 32 (upd it cl z))]) hc hN (q0 := 2) rfl rfl (by omega) (by decide) rfl dX2_change_51 ?_
          have h_7 : upd gp cl 0 = upd gp cl (bI (y = -1)) := by first | with_reducible rfl | (first | with_reducible rfl | (simp [-Int32.not_le, -Int32.not_lt, bI, st1_a, c_1, c_1', c_2, c_2', c_3, c_4]; done) | (((try simp only [st1_a, Nat.reduceBEq, cond_false, cond_true] at c_1 c_1' c_2 c_2' c_3 c_4) <;> simp [-Int32.not_le, -Int32.not_lt, bI, st1_a, c_1, c_1', c_2, c_2', c_3, c_4]); done) | ((try simp only [bI]); (repeat' split) <;> simp_all [-Int32.not_le, -Int32.not_lt, st1_a, lItem, lAbove, lGap]; done))
          have h_8 : upd fl cl 0 = upd fl cl (if y = -1 then 0 else 16 * y) := by first | with_reducible rfl | (first | with_reducible rfl | (simp [-Int32.not_le, -Int32.not_lt, bI, st1_a, c_1, c_1', c_2, c_2', c_3, c_4]; done) | (((try simp only [st1_a, Nat.reduceBEq, cond_false, cond_true] at c_1 c_1' c_2 c_2' c_3 c_4) <;> simp [-Int32.not_le, -Int32.not_lt, bI, st1_a, c_1, c_1', c_2, c_2', c_3, c_4]); done) | ((try simp only [bI]); (repeat' split) <;> simp_all [-Int32.not_le, -Int32.not_lt, st1_a, lItem, lAbove, lGap]; done))
          exact sw_vret (pc := 52) hc hlk hrt ⟨rfl, ((congrArg (fun zz => sg_ov C [(ag, sg_za g 32 zz), (af, sg_ia g 32 (upd fl cl 0)), (ai, sg_ia g 32 (upd it cl z))]) h_7).trans (congrArg (fun zz => sg_ov C [(ag, sg_za g 32 (upd gp cl (bI (y = -1)))), (af, sg_ia g 32 zz), (ai, sg_ia g 32 (upd it cl z))]) h_8))⟩ (Nat.le_of_ble_eq_true rfl) (Nat.le_of_ble_eq_true rfl) dX2_change_52
      ·
        refine sw_iconst (pc := 20) (v := 1) hc dX2_change_20 (by decide) ?_
        refine sw_goto (pc := 21) (tgt := 25) hc dX2_change_21 (by decide) ?_
        refine sw_zastO (pc := 25) (j := cl) (L := [(ag, sg_za g 32 gp), (af, sg_ia g 32 fl), (ai, sg_ia g 32 it)]) (l' := [(ag, sg_za g 32 (upd gp cl 1)), (af, sg_ia g 32 fl), (ai, sg_ia g 32 it)]) hc hN (q0 := 0) rfl rfl (by omega) (by decide) (.inr rfl) rfl dX2_change_25 ?_
        refine sw_aload_n (pc := 26) hc dX2_change_26 rfl 0 rfl ?_
        refine sw_get (pc := 27) (v := .ref af) hc fl_RX2_15 ((sg_ov_out hO_lv).trans hC_lv) rfl dX2_change_27 ?_
        refine sw_iload_n (pc := 30) hc dX2_change_30 rfl 1 rfl ?_
        refine sw_iload_n (pc := 31) hc dX2_change_31 rfl 2 rfl ?_
        refine sw_iconst (pc := 32) (v := (-1)) hc dX2_change_32 (by decide) ?_
        refine sw_icmp_ne (pc := 33) (tgt := 40) hc dX2_change_33 (by decide) (fun c_9 => ?_) (fun c_9 => ?_)
        ·
          refine sw_bipush (pc := 40) (v := 16) hc dX2_change_40 (by decide) ?_
          refine sw_iload_n (pc := 42) hc dX2_change_42 rfl 2 rfl ?_
          refine sw_imul (pc := 43) hc dX2_change_43 ?_
          refine sw_iastO (pc := 44) (j := cl) (L := [(ag, sg_za g 32 (upd gp cl 1)), (af, sg_ia g 32 fl), (ai, sg_ia g 32 it)]) (l' := [(ag, sg_za g 32 (upd gp cl 1)), (af, sg_ia g 32 (upd fl cl (16 * y))), (ai, sg_ia g 32 it)]) hc hN (q0 := 1) rfl rfl (by omega) (by decide) rfl dX2_change_44 ?_
          refine sw_aload_n (pc := 45) hc dX2_change_45 rfl 0 rfl ?_
          refine sw_get (pc := 46) (v := .ref ai) hc fl_RX2_19 ((sg_ov_out hO_lv).trans hC_lv) rfl dX2_change_46 ?_
          refine sw_iload_n (pc := 49) hc dX2_change_49 rfl 1 rfl ?_
          refine sw_iload_n (pc := 50) hc dX2_change_50 rfl 3 rfl ?_
          refine sw_iastO (pc := 51) (j := cl) (L := [(ag, sg_za g 32 (upd gp cl 1)), (af, sg_ia g 32 (upd fl cl (16 * y))), (ai, sg_ia g 32 it)]) (l' := [(ag, sg_za g 32 (upd gp cl 1)), (af, sg_ia g 32 (upd fl cl (16 * y))), (ai, sg_ia g 32 (upd it cl z))]) hc hN (q0 := 2) rfl rfl (by omega) (by decide) rfl dX2_change_51 ?_
          have h_10 : upd gp cl 1 = upd gp cl (bI (y = -1)) := by first | with_reducible rfl | (first | with_reducible rfl | (simp [-Int32.not_le, -Int32.not_lt, bI, st1_a, c_1, c_1', c_2, c_2', c_3, c_9]; done) | (((try simp only [st1_a, Nat.reduceBEq, cond_false, cond_true] at c_1 c_1' c_2 c_2' c_3 c_9) <;> simp [-Int32.not_le, -Int32.not_lt, bI, st1_a, c_1, c_1', c_2, c_2', c_3, c_9]); done) | ((try simp only [bI]); (repeat' split) <;> simp_all [-Int32.not_le, -Int32.not_lt, st1_a, lItem, lAbove, lGap]; done))
          have h_11 : upd fl cl (16 * y) = upd fl cl (if y = -1 then 0 else 16 * y) := by first | with_reducible rfl | (first | with_reducible rfl | (simp [-Int32.not_le, -Int32.not_lt, bI, st1_a, c_1, c_1', c_2, c_2', c_3, c_9]; done) | (((try simp only [st1_a, Nat.reduceBEq, cond_false, cond_true] at c_1 c_1' c_2 c_2' c_3 c_9) <;> simp [-Int32.not_le, -Int32.not_lt, bI, st1_a, c_1, c_1', c_2, c_2', c_3, c_9]); done) | ((try simp only [bI]); (repeat' split) <;> simp_all [-Int32.not_le, -Int32.not_lt, st1_a, lItem, lAbove, lGap]; done))
          exact sw_vret (pc := 52) hc hlk hrt ⟨rfl, ((congrArg (fun zz => sg_ov C [(ag, sg_za g 32 zz), (af, sg_ia g 32 (upd fl cl (16 * y))), (ai, sg_ia g 32 (upd it cl z))]) h_10).trans (congrArg (fun zz => sg_ov C [(ag, sg_za g 32 (upd gp cl (bI (y = -1)))), (af, sg_ia g 32 zz), (ai, sg_ia g 32 (upd it cl z))]) h_11))⟩ (Nat.le_of_ble_eq_true rfl) (Nat.le_of_ble_eq_true rfl) dX2_change_52
        ·
          refine sw_iconst (pc := 36) (v := 0) hc dX2_change_36 (by decide) ?_
          refine sw_goto (pc := 37) (tgt := 44) hc dX2_change_37 (by decide) ?_
          refine sw_iastO (pc := 44) (j := cl) (L := [(ag, sg_za g 32 (upd gp cl 1)), (af, sg_ia g 32 fl), (ai, sg_ia g 32 it)]) (l' := [(ag, sg_za g 32 (upd gp cl 1)), (af, sg_ia g 32 (upd fl cl 0)), (ai, sg_ia g 32 it)]) hc hN (q0 := 1) rfl rfl (by omega) (by decide) rfl dX2_change_44 ?_
          refine sw_aload_n (pc := 45) hc dX2_change_45 rfl 0 rfl ?_
          refine sw_get (pc := 46) (v := .ref ai) hc fl_RX2_19 ((sg_ov_out hO_lv).trans hC_lv) rfl dX2_change_46 ?_
          refine sw_iload_n (pc := 49) hc dX2_change_49 rfl 1 rfl ?_
          refine sw_iload_n (pc := 50) hc dX2_change_50 rfl 3 rfl ?_
          refine sw_iastO (pc := 51) (j := cl) (L := [(ag, sg_za g 32 (upd gp cl 1)), (af, sg_ia g 32 (upd fl cl 0)), (ai, sg_ia g 32 it)]) (l' := [(ag, sg_za g 32 (upd gp cl 1)), (af, sg_ia g 32 (upd fl cl 0)), (ai, sg_ia g 32 (upd it cl z))]) hc hN (q0 := 2) rfl rfl (by omega) (by decide) rfl dX2_change_51 ?_
          have h_12 : upd gp cl 1 = upd gp cl (bI (y = -1)) := by first | with_reducible rfl | (first | with_reducible rfl | (simp [-Int32.not_le, -Int32.not_lt, bI, st1_a, c_1, c_1', c_2, c_2', c_3, c_9]; done) | (((try simp only [st1_a, Nat.reduceBEq, cond_false, cond_true] at c_1 c_1' c_2 c_2' c_3 c_9) <;> simp [-Int32.not_le, -Int32.not_lt, bI, st1_a, c_1, c_1', c_2, c_2', c_3, c_9]); done) | ((try simp only [bI]); (repeat' split) <;> simp_all [-Int32.not_le, -Int32.not_lt, st1_a, lItem, lAbove, lGap]; done))
          have h_13 : upd fl cl 0 = upd fl cl (if y = -1 then 0 else 16 * y) := by first | with_reducible rfl | (first | with_reducible rfl | (simp [-Int32.not_le, -Int32.not_lt, bI, st1_a, c_1, c_1', c_2, c_2', c_3, c_9]; done) | (((try simp only [st1_a, Nat.reduceBEq, cond_false, cond_true] at c_1 c_1' c_2 c_2' c_3 c_9) <;> simp [-Int32.not_le, -Int32.not_lt, bI, st1_a, c_1, c_1', c_2, c_2', c_3, c_9]); done) | ((try simp only [bI]); (repeat' split) <;> simp_all [-Int32.not_le, -Int32.not_lt, st1_a, lItem, lAbove, lGap]; done))
          exact sw_vret (pc := 52) hc hlk hrt ⟨rfl, ((congrArg (fun zz => sg_ov C [(ag, sg_za g 32 zz), (af, sg_ia g 32 (upd fl cl 0)), (ai, sg_ia g 32 (upd it cl z))]) h_12).trans (congrArg (fun zz => sg_ov C [(ag, sg_za g 32 (upd gp cl (bI (y = -1)))), (af, sg_ia g 32 zz), (ai, sg_ia g 32 (upd it cl z))]) h_13))⟩ (Nat.le_of_ble_eq_true rfl) (Nat.le_of_ble_eq_true rfl) dX2_change_52

set_option maxHeartbeats 4000000 in
set_option maxRecDepth 100000 in
theorem c_X4_runAgain (l : Launch) (g : sg_G) (C : Nat → Option va_E) (a : Nat) (h : Nat) (til : Int32) (lv : Nat) (r1 : Nat) (r2 : Nat) (r3 : Nat) (y5 : Int32) (y6 : Int32) (fb : Nat → Int32) (ft : Nat → Int32) (hs : Nat → Int32) (ag : Nat) (af : Nat) (ai : Nat) (gp : Nat → Int32) (fl : Nat → Int32) (it : Nat → Int32) (pn : Nat) (hC_a : C a = some (.inr (5, [.ref lv, .ref r1, .ref r2, .ref r3, .int (nI pn), .int y5, .int y6]))) (hC_r1 : C r1 = some (sg_ia g 20 fb)) (hC_r2 : C r2 = some (sg_ia g 20 ft)) (hC_h : C h = some (.inr (2, hfs hs))) (hC_lv : C lv = some (.inr (3, [.ref ag, .ref af, .ref ai]))) (hC_ag : C ag = some (sg_za g 32 gp)) (hC_af : C af = some (sg_ia g 32 fl)) (hC_ai : C ai = some (sg_ia g 32 it)) (hp : pn ≤ 20) : sg_Met l yX4_runAgain cX4_runAgain 4 none 4 96 0 0 g [.ref a, .ref h, .int til] C (fun v C' => v = none ∧ C' = sg_ov C [(h, .inr (2, hfs (hAgn gp fl it fb ft til hs pn)))]) sg_no := by
  refine sg_ofW (by decide) rfl ?_ (Nat.le_of_ble_eq_true rfl)
  intro p e s m below meth c hc hlk hrt hin2 ht
  have hc : sg_Cx p s m _ c cX4_runAgain 4 RX4 g := hc
  show sg_W p l e _ s m _ below meth c 4 g 0 0 _ C 0 [(0, .ref a), (1, .ref h), (2, .int til)] []
  have hN : sg_nd [h] := ⟨List.not_mem_nil, trivial⟩
  have hO_a : a ∉ [h] := sg_nin (sg_ne hC_a hC_h (Nat.ne_of_beq_eq_false rfl)) (List.not_mem_nil)
  have hO_r1 : r1 ∉ [h] := sg_nin (sg_ne hC_r1 hC_h (Nat.ne_of_beq_eq_false rfl)) (List.not_mem_nil)
  have hO_r2 : r2 ∉ [h] := sg_nin (sg_ne hC_r2 hC_h (Nat.ne_of_beq_eq_false rfl)) (List.not_mem_nil)
  have hO_lv : lv ∉ [h] := sg_nin (sg_ne hC_lv hC_h (Nat.ne_of_beq_eq_false rfl)) (List.not_mem_nil)
  have hO_ag : ag ∉ [h] := sg_nin (sg_ne hC_ag hC_h (Nat.ne_of_beq_eq_false rfl)) (List.not_mem_nil)
  have hO_af : af ∉ [h] := sg_nin (sg_ne hC_af hC_h (Nat.ne_of_beq_eq_false rfl)) (List.not_mem_nil)
  have hO_ai : ai ∉ [h] := sg_nin (sg_ne hC_ai hC_h (Nat.ne_of_beq_eq_false rfl)) (List.not_mem_nil)
  have K_10 : ∀ (n10 : Nat) (k : Nat) (h2 : Nat → Int32) (hn10 : pn - k < n10) (eh2 : h2 = hAgn gp fl it fb ft til hs k) (hJ : k ≤ pn), sg_W p l e (sg_rm 4 96 0 0) s m ([.ref a, .ref h, .int til] : List Value).toArray below meth c 4 g 0 0 (sg_End below g (fun v C' => v = none ∧ C' = sg_ov C [(h, .inr (2, hfs (hAgn gp fl it fb ft til hs pn)))]) (sg_no) ([.ref a, .ref h, .int til] : List Value).toArray s 0 0) (sg_ov C [(h, .inr (2, hfs h2))]) 10 [(0, .ref a), (1, .ref h), (2, .int til), (3, .int (nI k))] [] := by
    intro n10
    induction n10 with
    | zero => intro k h2 hn10 eh2 hJ; exact absurd hn10 (Nat.not_lt_zero _)
    | succ n10 ih10 =>
      intro k h2 hn10 eh2 hJ
      refine sw_iload_n (pc := 10) hc dX4_runAgain_10 rfl 3 rfl ?_
      refine sw_aload_n (pc := 11) hc dX4_runAgain_11 rfl 0 rfl ?_
      refine sw_get (pc := 12) (v := .int (nI pn)) hc fl_RX4_33 ((sg_ov_out hO_a).trans hC_a) rfl dX4_runAgain_12 ?_
      refine sw_icmp_ge (pc := 15) (tgt := 56) hc dX4_runAgain_15 (by decide) (fun c_1 => ?_) (fun c_1 => ?_)
      ·
        have c_1' := Int32.not_lt.mpr c_1
        have h_2 : h2 = hAgn gp fl it fb ft til hs pn := by rw [eh2, show k = pn from Nat.le_antisymm hJ ((nI_leI (by omega) (by omega)).mp c_1)]
        exact sw_vret (pc := 56) hc hlk hrt ⟨rfl, congrArg (fun zz => sg_ov C [(h, .inr (2, hfs zz))]) h_2⟩ (Nat.le_of_ble_eq_true rfl) (Nat.le_of_ble_eq_true rfl) dX4_runAgain_56
      ·
        have c_1' := Int32.not_le.mp c_1
        have hlt : k < pn := (nI_ltI (a := k) (b := pn) (by omega) (by omega)).mp (Int32.not_le.mp c_1)
        refine sw_iload_n (pc := 18) hc dX4_runAgain_18 rfl 3 rfl ?_
        refine sw_bipush (pc := 19) (v := 20) hc dX4_runAgain_19 (by decide) ?_
        refine sw_icmp_ge (pc := 21) (tgt := 56) hc dX4_runAgain_21 (by decide) (fun c_3 => ?_) (fun c_3 => ?_)
        ·
          exact absurd c_3 (show ¬ (20 : Int32) ≤ nI k from nI_ge (b := 20) (by omega) (by decide))
        ·
          have c_3' := Int32.not_le.mp c_3
          refine sw_aload_n (pc := 24) hc dX4_runAgain_24 rfl 0 rfl ?_
          refine sw_aload_n (pc := 25) hc dX4_runAgain_25 rfl 1 rfl ?_
          refine sw_aload_n (pc := 26) hc dX4_runAgain_26 rfl 0 rfl ?_
          refine sw_get (pc := 27) (v := .ref r1) hc fl_RX4_9 ((sg_ov_out hO_a).trans hC_a) rfl dX4_runAgain_27 ?_
          refine sw_iload_n (pc := 30) hc dX4_runAgain_30 rfl 3 rfl ?_
          refine sw_iald (pc := 31) (j := k) hc ((sg_ov_out hO_r1).trans hC_r1) rfl (by omega) (by decide) dX4_runAgain_31 ?_
          refine sw_aload_n (pc := 32) hc dX4_runAgain_32 rfl 0 rfl ?_
          refine sw_get (pc := 33) (v := .ref r2) hc fl_RX4_15 ((sg_ov_out hO_a).trans hC_a) rfl dX4_runAgain_33 ?_
          refine sw_iload_n (pc := 36) hc dX4_runAgain_36 rfl 3 rfl ?_
          refine sw_iald (pc := 37) (j := k) hc ((sg_ov_out hO_r2).trans hC_r2) rfl (by omega) (by decide) dX4_runAgain_37 ?_
          refine sw_iload_n (pc := 38) hc dX4_runAgain_38 rfl 2 rfl ?_
          refine sw_aload_n (pc := 39) hc dX4_runAgain_39 rfl 1 rfl ?_
          refine sw_get (pc := 40) (v := .int (h2 10)) hc fl_RX4_44 (sg_ov_at hN (k := 0) rfl) rfl dX4_runAgain_40 ?_
          refine sw_isub (pc := 43) hc dX4_runAgain_43 ?_
          refine sw_mmin (pc := 44) hc mm_RX4_46 ⟨Nat.le_of_ble_eq_true rfl, Nat.le_of_ble_eq_true rfl, Nat.le_of_ble_eq_true rfl, Nat.le_of_ble_eq_true rfl⟩ dX4_runAgain_44 ?_
          refine sw_callV (pc := 47) (rest := []) hc (c_X4_runPiece l g (sg_ov C [(h, .inr (2, hfs h2))]) a h (fb k) (jmin (ft k) (til - (h2 10))) lv r1 r2 r3 (nI pn) y5 y6 h2 ag af ai gp fl it ((sg_ov_out hO_a).trans hC_a) (sg_ov_at hN (k := 0) rfl) ((sg_ov_out hO_lv).trans hC_lv) ((sg_ov_out hO_ag).trans hC_ag) ((sg_ov_out hO_af).trans hC_af) ((sg_ov_out hO_ai).trans hC_ai)) md_X4_runPiece ml_RX4_40 im_X4_runPiece sl_X4_runPiece ((sg_ov_out hO_a).trans hC_a) rfl rfl rfl (Nat.le_of_ble_eq_true rfl) dX4_runAgain_47 ⟨Nat.le_of_ble_eq_true rfl, Nat.le_of_ble_eq_true rfl, Nat.le_of_ble_eq_true rfl, Nat.le_of_ble_eq_true rfl⟩ (fun v C' hP => ?_) (fun _ _ h => h.elim)
          obtain ⟨rfl, rfl⟩ := hP
          refine sw_eq (C' := sg_ov C [(h, .inr (2, hfs (hRun gp fl it (fb k) (iN (jmin (ft k) (til - (h2 10)))) h2)))]) (sg_ov_set (l := [(h, .inr (2, hfs h2))]) hN (k := 0) rfl) ?_
          refine sw_iinc (pc := 50) (v := nI (k + 1)) (lv' := [(3, .int (nI (k + 1))), (0, .ref a), (1, .ref h), (2, .int til)]) hc dX4_runAgain_50 (k := 3) rfl (nI_1 _) (by decide) rfl ?_
          refine sw_goto (pc := 53) (tgt := 10) hc dX4_runAgain_53 (by decide) ?_
          have h_4 : hRun gp fl it (fb k) (iN (jmin (ft k) (til - (h2 10)))) h2 = hAgn gp fl it fb ft til hs (k + 1) := by first | rfl | (subst eh2; rfl)
          have h_5 : (k + 1) ≤ pn := by omega
          have h_6 : pn - (k + 1) < n10 := by omega
          exact sw_sub (ks := [1, 2, 3, 0]) rfl (ih10 (k + 1) (hRun gp fl it (fb k) (iN (jmin (ft k) (til - (h2 10)))) h2) h_6 h_4 h_5)
  refine sw_eq (C' := sg_ov C [(h, .inr (2, hfs hs))]) (sg_ov_self2 (List.forall_mem_cons.mpr ⟨hC_h, fun _ h => absurd h List.not_mem_nil⟩)).symm ?_
  refine sw_aload_n (pc := 0) hc dX4_runAgain_0 rfl 1 rfl ?_
  refine sw_aload_n (pc := 1) hc dX4_runAgain_1 rfl 0 rfl ?_
  refine sw_get (pc := 2) (v := .ref lv) hc fl_RX4_25 ((sg_ov_out hO_a).trans hC_a) rfl dX4_runAgain_2 ?_
  refine sw_callV (pc := 5) (rest := []) hc (c_X1_start l g (sg_ov C [(h, .inr (2, hfs hs))]) h lv hs ag af ai fl (sg_ov_at hN (k := 0) rfl) ((sg_ov_out hO_lv).trans hC_lv) ((sg_ov_out hO_af).trans hC_af)) md_X1_start ml_RX4_29 im_X1_start sl_X1_start (sg_ov_at hN (k := 0) rfl) rfl rfl rfl (Nat.le_of_ble_eq_true rfl) dX4_runAgain_5 ⟨Nat.le_of_ble_eq_true rfl, Nat.le_of_ble_eq_true rfl, Nat.le_of_ble_eq_true rfl, Nat.le_of_ble_eq_true rfl⟩ (fun v C' hP => ?_) (fun _ _ h => h.elim)
  obtain ⟨rfl, rfl⟩ := hP
  refine sw_eq (C' := sg_ov C [(h, .inr (2, hfs (hStart fl hs)))]) (sg_ov_set (l := [(h, .inr (2, hfs hs))]) hN (k := 0) rfl) ?_
  refine sw_iconst (pc := 8) (v := 0) hc dX4_runAgain_8 (by decide) ?_
  refine sw_istore_n (pc := 9) hc dX4_runAgain_9 rfl (by decide) (lv' := [(3, .int 0), (0, .ref a), (1, .ref h), (2, .int til)]) rfl ?_
  have h_7 : hStart fl hs = hAgn gp fl it fb ft til hs 0 := by first | rfl | (rfl)
  have h_8 : 0 ≤ pn := by omega
  exact sw_sub (ks := [1, 2, 3, 0]) rfl (K_10 _ 0 (hStart fl hs) (Nat.lt_succ_self _) h_7 h_8)
