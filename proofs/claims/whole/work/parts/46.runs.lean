
/-! a hero runs a piece -/
def hRun (gp fl it : Nat → Int32) (b : Int32) : Nat → Her → Her
  | 0, h => h
  | n + 1, h => if ¬ h 11 = 0 then h else hRun gp fl it b n (hTick gp fl it h b)
theorem iN_lt {t : Int32} {n : Nat} (hn : n < 2 ^ 31) : nI n < t ↔ n < iN t := by
  unfold iN
  rcases Int32.lt_or_le t 0 with h | h
  · have h1 : t.toNatClampNeg = 0 := by
      show t.toInt.toNat = 0
      have := Int32.lt_iff_toInt_lt.mp h
      have h2 : (0 : Int32).toInt = 0 := rfl
      omega
    rw [h1]
    refine ⟨fun q => ?_, fun q => absurd q (Nat.not_lt_zero _)⟩
    have q1 := Int32.lt_iff_toInt_lt.mp q
    have q2 := Int32.lt_iff_toInt_lt.mp h
    rw [nI_toInt hn] at q1
    have h2 : (0 : Int32).toInt = 0 := rfl
    omega
  · obtain ⟨j, hj, rfl⟩ := nI_of (Int32.not_lt.mpr h)
    rw [nI_clamp hj]
    exact nI_ltI hn hj
theorem iN_b (t : Int32) : iN t < 2 ^ 31 := by
  show t.toInt.toNat < 2 ^ 31
  have := Int32.toInt_lt t
  omega
theorem hRun_o {gp fl it : Nat → Int32} {b : Int32} {h : Her} (ho : ¬ h 11 = 0) : ∀ n, hRun gp fl it b n h = h
  | 0 => rfl
  | _ + 1 => if_pos ho
theorem hRun_s {gp fl it : Nat → Int32} {b : Int32} {h : Her} {m n : Nat} (ho : ¬ ¬ h 11 = 0) (hn : n < m) : hRun gp fl it b (m - n) h = hRun gp fl it b (m - (n + 1)) (hTick gp fl it h b) := by
  rw [show m - n = (m - (n + 1)) + 1 by omega]
  exact if_neg ho

theorem md_X1_isOver : sg_MD yX1_isOver cX1_isOver 1 (some .boolean) 0 := ⟨sg_mem (i := 506) (by decide +kernel) rfl, sg_mem (i := 58) (by decide +kernel) rfl, ⟨by decide, by decide⟩, by decide +kernel⟩
theorem ml_RX4_52 : sg_ML RX4 52 yX1_isOver := .inl (sg_mem (i := 503) (by decide +kernel) rfl)
theorem im_X1_isOver : Cond.instanceMethod yX1_isOver ∈ sg_T := sg_mem (i := 504) (by decide +kernel) rfl
theorem sl_X1_isOver : Cond.selects yX1_isOver.cls yX1_isOver yX1_isOver ∈ sg_T := sg_mem (i := 505) (by decide +kernel) rfl
theorem md_X1_tick : sg_MD yX1_tick cX1_tick 5 none 2 := ⟨sg_mem (i := 510) (by decide +kernel) rfl, sg_mem (i := 58) (by decide +kernel) rfl, ⟨by decide, by decide⟩, by decide +kernel⟩
theorem ml_RX4_56 : sg_ML RX4 56 yX1_tick := .inl (sg_mem (i := 507) (by decide +kernel) rfl)
theorem im_X1_tick : Cond.instanceMethod yX1_tick ∈ sg_T := sg_mem (i := 508) (by decide +kernel) rfl
theorem sl_X1_tick : Cond.selects yX1_tick.cls yX1_tick yX1_tick ∈ sg_T := sg_mem (i := 509) (by decide +kernel) rfl
set_option maxHeartbeats 4000000 in
set_option maxRecDepth 100000 in
theorem c_X4_runPiece (l : Launch) (g : sg_G) (C : Nat → Option va_E) (a : Nat) (h : Nat) (b : Int32) (t : Int32) (lv : Nat) (r1 : Nat) (r2 : Nat) (r3 : Nat) (y4 : Int32) (y5 : Int32) (y6 : Int32) (hs : Nat → Int32) (ag : Nat) (af : Nat) (ai : Nat) (gp : Nat → Int32) (fl : Nat → Int32) (it : Nat → Int32) (hC_a : C a = some (.inr (5, [.ref lv, .ref r1, .ref r2, .ref r3, .int y4, .int y5, .int y6]))) (hC_h : C h = some (.inr (2, hfs hs))) (hC_lv : C lv = some (.inr (3, [.ref ag, .ref af, .ref ai]))) (hC_ag : C ag = some (sg_za g 32 gp)) (hC_af : C af = some (sg_ia g 32 fl)) (hC_ai : C ai = some (sg_ia g 32 it)) : sg_Met l yX4_runPiece cX4_runPiece 5 none 3 72 0 0 g [.ref a, .ref h, .int b, .int t] C (fun v C' => v = none ∧ C' = sg_ov C [(h, .inr (2, hfs (hRun gp fl it b (iN t) hs)))]) sg_no := by
  refine sg_ofW (by decide) rfl ?_ (Nat.le_of_ble_eq_true rfl)
  intro p e s m below meth c hc hlk hrt hin2 ht
  have hc : sg_Cx p s m _ c cX4_runPiece 5 RX4 g := hc
  show sg_W p l e _ s m _ below meth c 5 g 0 0 _ C 0 [(0, .ref a), (1, .ref h), (2, .int b), (3, .int t)] []
  have hN : sg_nd [h] := ⟨List.not_mem_nil, trivial⟩
  have hO_a : a ∉ [h] := sg_nin (sg_ne hC_a hC_h (Nat.ne_of_beq_eq_false rfl)) (List.not_mem_nil)
  have hO_lv : lv ∉ [h] := sg_nin (sg_ne hC_lv hC_h (Nat.ne_of_beq_eq_false rfl)) (List.not_mem_nil)
  have hO_ag : ag ∉ [h] := sg_nin (sg_ne hC_ag hC_h (Nat.ne_of_beq_eq_false rfl)) (List.not_mem_nil)
  have hO_af : af ∉ [h] := sg_nin (sg_ne hC_af hC_h (Nat.ne_of_beq_eq_false rfl)) (List.not_mem_nil)
  have hO_ai : ai ∉ [h] := sg_nin (sg_ne hC_ai hC_h (Nat.ne_of_beq_eq_false rfl)) (List.not_mem_nil)
  have K_3 : ∀ (n3 : Nat) (n : Nat) (h2 : Nat → Int32) (hn3 : iN t - n < n3) (hI : hRun gp fl it b (iN t - n) h2 = hRun gp fl it b (iN t) hs) (hJ : n ≤ iN t), sg_W p l e (sg_rm 3 72 0 0) s m ([.ref a, .ref h, .int b, .int t] : List Value).toArray below meth c 5 g 0 0 (sg_End below g (fun v C' => v = none ∧ C' = sg_ov C [(h, .inr (2, hfs (hRun gp fl it b (iN t) hs)))]) (sg_no) ([.ref a, .ref h, .int b, .int t] : List Value).toArray s 0 0) (sg_ov C [(h, .inr (2, hfs h2))]) 3 [(0, .ref a), (1, .ref h), (2, .int b), (3, .int t), (4, .int (nI n))] [] := by
    intro n3
    induction n3 with
    | zero => intro n h2 hn3 hI hJ; exact absurd hn3 (Nat.not_lt_zero _)
    | succ n3 ih3 =>
      intro n h2 hn3 hI hJ
      refine sw_iload (pc := 3) hc dX4_runPiece_3 4 rfl ?_
      refine sw_iload_n (pc := 5) hc dX4_runPiece_5 rfl 3 rfl ?_
      refine sw_icmp_ge (pc := 6) (tgt := 31) hc dX4_runPiece_6 (by decide) (fun c_1 => ?_) (fun c_1 => ?_)
      ·
        have c_1' := Int32.not_lt.mpr c_1
        have h_2 : h2 = hRun gp fl it b (iN t) hs := by rw [← hI, show iN t - n = 0 from by have := mt (iN_lt (t := t) (n := n) (by have := iN_b t; omega)).mpr (Int32.not_lt.mpr c_1); omega]; rfl
        exact sw_vret (pc := 31) hc hlk hrt ⟨rfl, congrArg (fun zz => sg_ov C [(h, .inr (2, hfs zz))]) h_2⟩ (Nat.le_of_ble_eq_true rfl) (Nat.le_of_ble_eq_true rfl) dX4_runPiece_31
      ·
        have c_1' := Int32.not_le.mp c_1
        have hlt : n < iN t := (iN_lt (by have := iN_b t; omega)).mp (Int32.not_le.mp c_1)
        refine sw_aload_n (pc := 9) hc dX4_runPiece_9 rfl 1 rfl ?_
        refine sw_callV (pc := 10) (rest := []) hc (c_X1_isOver l g (sg_ov C [(h, .inr (2, hfs h2))]) h h2 (sg_ov_at hN (k := 0) rfl)) md_X1_isOver ml_RX4_52 im_X1_isOver sl_X1_isOver (sg_ov_at hN (k := 0) rfl) rfl rfl rfl (Nat.le_of_ble_eq_true rfl) dX4_runPiece_10 ⟨Nat.le_of_ble_eq_true rfl, Nat.le_of_ble_eq_true rfl, Nat.le_of_ble_eq_true rfl, Nat.le_of_ble_eq_true rfl⟩ (fun v C' hP => ?_) (fun _ _ h => h.elim)
        obtain ⟨rfl, rfl⟩ := hP
        refine sw_st (st' := [.int (bI (¬ h2 11 = 0))]) rfl ?_
        refine sw_if_ne (pc := 13) (tgt := 31) hc dX4_runPiece_13 (by decide) (fun c_3 => ?_) (fun c_3 => ?_)
        ·
          have p_4 : ¬ h2 11 = 0 := bI_n c_3
          have h_5 : h2 = hRun gp fl it b (iN t) hs := (hRun_o p_4 _).symm.trans hI
          exact sw_vret (pc := 31) hc hlk hrt ⟨rfl, congrArg (fun zz => sg_ov C [(h, .inr (2, hfs zz))]) h_5⟩ (Nat.le_of_ble_eq_true rfl) (Nat.le_of_ble_eq_true rfl) dX4_runPiece_31
        ·
          have p_6 : ¬ (¬ h2 11 = 0) := bI_0 c_3
          refine sw_aload_n (pc := 16) hc dX4_runPiece_16 rfl 1 rfl ?_
          refine sw_aload_n (pc := 17) hc dX4_runPiece_17 rfl 0 rfl ?_
          refine sw_get (pc := 18) (v := .ref lv) hc fl_RX4_25 ((sg_ov_out hO_a).trans hC_a) rfl dX4_runPiece_18 ?_
          refine sw_iload_n (pc := 21) hc dX4_runPiece_21 rfl 2 rfl ?_
          refine sw_callV (pc := 22) (rest := []) hc (c_X1_tick l g (sg_ov C [(h, .inr (2, hfs h2))]) h lv b h2 ag af ai gp fl it (sg_ov_at hN (k := 0) rfl) ((sg_ov_out hO_lv).trans hC_lv) ((sg_ov_out hO_ag).trans hC_ag) ((sg_ov_out hO_af).trans hC_af) ((sg_ov_out hO_ai).trans hC_ai)) md_X1_tick ml_RX4_56 im_X1_tick sl_X1_tick (sg_ov_at hN (k := 0) rfl) rfl rfl rfl (Nat.le_of_ble_eq_true rfl) dX4_runPiece_22 ⟨Nat.le_of_ble_eq_true rfl, Nat.le_of_ble_eq_true rfl, Nat.le_of_ble_eq_true rfl, Nat.le_of_ble_eq_true rfl⟩ (fun v C' hP => ?_) (fun _ _ h => h.elim)
          obtain ⟨rfl, rfl⟩ := hP
          refine sw_eq (C' := sg_ov C [(h, .inr (2, hfs (hTick gp fl it h2 b)))]) (sg_ov_set (l := [(h, .inr (2, hfs h2))]) hN (k := 0) rfl) ?_
          refine sw_iinc (pc := 25) (v := nI (n + 1)) (lv' := [(4, .int (nI (n + 1))), (0, .ref a), (1, .ref h), (2, .int b), (3, .int t)]) hc dX4_runPiece_25 (k := 4) rfl (nI_1 _) (by decide) rfl ?_
          refine sw_goto (pc := 28) (tgt := 3) hc dX4_runPiece_28 (by decide) ?_
          have h_7 : hRun gp fl it b (iN t - (n + 1)) (hTick gp fl it h2 b) = hRun gp fl it b (iN t) hs := by rw [← hI, hRun_s p_6 hlt]
          have h_8 : (n + 1) ≤ iN t := by omega
          have h_9 : iN t - (n + 1) < n3 := by omega
          exact sw_sub (ks := [1, 2, 3, 4, 0]) rfl (ih3 (n + 1) (hTick gp fl it h2 b) h_9 h_7 h_8)
  refine sw_eq (C' := sg_ov C [(h, .inr (2, hfs hs))]) (sg_ov_self2 (List.forall_mem_cons.mpr ⟨hC_h, fun _ h => absurd h List.not_mem_nil⟩)).symm ?_
  refine sw_iconst (pc := 0) (v := 0) hc dX4_runPiece_0 (by decide) ?_
  refine sw_istore (pc := 1) hc dX4_runPiece_1 (by decide) (lv' := [(4, .int 0), (0, .ref a), (1, .ref h), (2, .int b), (3, .int t)]) rfl ?_
  have h_10 : hRun gp fl it b (iN t - 0) hs = hRun gp fl it b (iN t) hs := by rfl
  have h_11 : 0 ≤ iN t := by omega
  exact sw_sub (ks := [1, 2, 3, 4, 0]) rfl (K_3 _ 0 hs (Nat.lt_succ_self _) h_10 h_11)

