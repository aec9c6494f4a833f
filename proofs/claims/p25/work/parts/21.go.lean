
theorem hClip_0 {gp fl : Nat → Int32} {t i : Int32} {h : Her} (c : t ≤ i) : hClip gp fl (t.toInt - i.toInt).toNat i h = h := by
  have := Int32.le_iff_toInt_le.mp c
  rw [show (t.toInt - i.toInt).toNat = 0 by omega]; rfl
theorem hClip_c {gp fl : Nat → Int32} {t i : Int32} {h : Her} (c : ¬ t ≤ i) : hClip gp fl (t.toInt - i.toInt).toNat i h = hClip gp fl (t.toInt - (i + 1).toInt).toNat (i + 1) (if lAbove gp fl i (h 1) then st1 h 9 (h 9 ||| 4) else h) := by
  have q1 := i32_succ (Int32.not_le.mp c)
  have q2 := Int32.lt_iff_toInt_lt.mp (Int32.not_le.mp c)
  rw [show (t.toInt - i.toInt).toNat = (t.toInt - (i + 1).toInt).toNat + 1 by omega]; rfl
theorem hClip_s {gp fl : Nat → Int32} {t i : Int32} {h h' : Her} (c : ¬ t ≤ i) (e : h' = if lAbove gp fl i (h 1) then st1 h 9 (h 9 ||| 4) else h) : hClip gp fl (t.toInt - i.toInt).toNat i h = hClip gp fl (t.toInt - (i + 1).toInt).toNat (i + 1) h' := by
  rw [e]; exact hClip_c c

theorem md_X2_isFloorAbove : sg_MD yX2_isFloorAbove cX2_isFloorAbove 3 (some .boolean) 2 := ⟨sg_mem (i := 534) (by decide +kernel) rfl, sg_mem (i := 35) (by decide +kernel) rfl, ⟨by decide, by decide⟩, by decide +kernel⟩
theorem ml_RX1_86 : sg_ML RX1 86 yX2_isFloorAbove := .inl (sg_mem (i := 531) (by decide +kernel) rfl)
theorem im_X2_isFloorAbove : Cond.instanceMethod yX2_isFloorAbove ∈ sg_T := sg_mem (i := 532) (by decide +kernel) rfl
theorem sl_X2_isFloorAbove : Cond.selects yX2_isFloorAbove.cls yX2_isFloorAbove yX2_isFloorAbove ∈ sg_T := sg_mem (i := 533) (by decide +kernel) rfl
theorem mm_RX1_73 : sg_Mmin RX1 73 := ⟨sg_mem (i := 525) (by decide +kernel) rfl, sg_mem (i := 309) (by decide +kernel) rfl, sg_mem (i := 37) (by decide +kernel) rfl, sg_mem (i := 310) (by decide +kernel) rfl⟩
theorem md_X1_takeCoin : sg_MD yX1_takeCoin cX1_takeCoin 4 none 1 := ⟨sg_mem (i := 546) (by decide +kernel) rfl, sg_mem (i := 30) (by decide +kernel) rfl, ⟨by decide, by decide⟩, by decide +kernel⟩
theorem ml_RX1_67 : sg_ML RX1 67 yX1_takeCoin := .inl (sg_mem (i := 543) (by decide +kernel) rfl)
theorem im_X1_takeCoin : Cond.instanceMethod yX1_takeCoin ∈ sg_T := sg_mem (i := 545) (by decide +kernel) rfl
theorem sl_X1_takeCoin : Cond.selects yX1_takeCoin.cls yX1_takeCoin yX1_takeCoin ∈ sg_T := sg_mem (i := 12) (by decide +kernel) rfl
theorem md_X1_finish : sg_MD yX1_finish cX1_finish 2 none 1 := ⟨sg_mem (i := 554) (by decide +kernel) rfl, sg_mem (i := 30) (by decide +kernel) rfl, ⟨by decide, by decide⟩, by decide +kernel⟩
theorem ml_RX1_70 : sg_ML RX1 70 yX1_finish := .inl (sg_mem (i := 551) (by decide +kernel) rfl)
theorem im_X1_finish : Cond.instanceMethod yX1_finish ∈ sg_T := sg_mem (i := 553) (by decide +kernel) rfl
theorem sl_X1_finish : Cond.selects yX1_finish.cls yX1_finish yX1_finish ∈ sg_T := sg_mem (i := 13) (by decide +kernel) rfl
theorem md_X1_go : sg_MD yX1_go cX1_go 7 none 2 := ⟨sg_mem (i := 524) (by decide +kernel) rfl, sg_mem (i := 30) (by decide +kernel) rfl, ⟨by decide, by decide⟩, by decide +kernel⟩
theorem ml_RX1_59 : sg_ML RX1 59 yX1_go := .inl (sg_mem (i := 521) (by decide +kernel) rfl)
theorem im_X1_go : Cond.instanceMethod yX1_go ∈ sg_T := sg_mem (i := 523) (by decide +kernel) rfl
theorem sl_X1_go : Cond.selects yX1_go.cls yX1_go yX1_go ∈ sg_T := sg_mem (i := 9) (by decide +kernel) rfl
theorem md_X1_fall : sg_MD yX1_fall cX1_fall 5 none 1 := ⟨sg_mem (i := 538) (by decide +kernel) rfl, sg_mem (i := 30) (by decide +kernel) rfl, ⟨by decide, by decide⟩, by decide +kernel⟩
theorem ml_RX1_63 : sg_ML RX1 63 yX1_fall := .inl (sg_mem (i := 535) (by decide +kernel) rfl)
theorem im_X1_fall : Cond.instanceMethod yX1_fall ∈ sg_T := sg_mem (i := 537) (by decide +kernel) rfl
theorem sl_X1_fall : Cond.selects yX1_fall.cls yX1_fall yX1_fall ∈ sg_T := sg_mem (i := 11) (by decide +kernel) rfl
theorem md_X1_choose : sg_MD yX1_choose cX1_choose 4 (some .int) 2 := ⟨sg_mem (i := 520) (by decide +kernel) rfl, sg_mem (i := 30) (by decide +kernel) rfl, ⟨by decide, by decide⟩, by decide +kernel⟩
theorem ml_RX1_55 : sg_ML RX1 55 yX1_choose := .inl (sg_mem (i := 517) (by decide +kernel) rfl)
theorem im_X1_choose : Cond.instanceMethod yX1_choose ∈ sg_T := sg_mem (i := 519) (by decide +kernel) rfl
theorem sl_X1_choose : Cond.selects yX1_choose.cls yX1_choose yX1_choose ∈ sg_T := sg_mem (i := 8) (by decide +kernel) rfl
set_option maxHeartbeats 4000000 in
set_option maxRecDepth 100000 in
theorem c_X1_go (l : Launch) (g : sg_G) (C : Nat → Option va_E) (h : Nat) (lv : Nat) (w : Int32) (hs : Nat → Int32) (ag : Nat) (af : Nat) (ai : Nat) (gp : Nat → Int32) (fl : Nat → Int32) (hC_h : C h = some (.inr (2, hfs hs))) (hC_lv : C lv = some (.inr (3, [.ref ag, .ref af, .ref ai]))) (hC_ag : C ag = some (sg_za g 32 gp)) (hC_af : C af = some (sg_ia g 32 fl)) : sg_Met l yX1_go cX1_go 7 none 1 22 0 0 g [.ref h, .ref lv, .int w] C (fun v C' => v = none ∧ C' = sg_ov C [(h, .inr (2, hfs (hGo gp fl hs w)))]) sg_no := by
  refine sg_ofW (by decide) rfl ?_ (Nat.le_of_ble_eq_true rfl)
  intro p e s m below meth c hc hlk hrt hin2 ht
  have hc : sg_Cx p s m _ c cX1_go 7 RX1 g := hc
  show sg_W p l e _ s m _ below meth c 7 g 0 0 _ C 0 [(0, .ref h), (1, .ref lv), (2, .int w)] []
  have hN : sg_nd [h] := ⟨List.not_mem_nil, trivial⟩
  have hO_lv : lv ∉ [h] := sg_nin (sg_ne hC_lv hC_h (Nat.ne_of_beq_eq_false rfl)) (List.not_mem_nil)
  have hO_ag : ag ∉ [h] := sg_nin (sg_ne hC_ag hC_h (Nat.ne_of_beq_eq_false rfl)) (List.not_mem_nil)
  have hO_af : af ∉ [h] := sg_nin (sg_ne hC_af hC_h (Nat.ne_of_beq_eq_false rfl)) (List.not_mem_nil)
  have K_59 : ∀ (n59 : Nat) (i : Int32) (h2 : Nat → Int32) (hn59 : ((jmax (hs 0 / 16) (hAim hs w / 16)).toInt - i.toInt).toNat < n59) (hG : hClip gp fl ((jmax (hs 0 / 16) (hAim hs w / 16)).toInt - i.toInt).toNat i h2 = hGo gp fl hs w), sg_W p l e (sg_rm 1 22 0 0) s m ([.ref h, .ref lv, .int w] : List Value).toArray below meth c 7 g 0 0 (sg_End below g (fun v C' => v = none ∧ C' = sg_ov C [(h, .inr (2, hfs (hGo gp fl hs w)))]) sg_no ([.ref h, .ref lv, .int w] : List Value).toArray s 0 0) (sg_ov C [(h, .inr (2, hfs h2))]) 59 [(0, .ref h), (1, .ref lv), (4, .int (hs 0 / 16)), (5, .int (hAim hs w / 16)), (6, .int i)] [] := by
    intro n59
    induction n59 with
    | zero => intro i h2 hn59 hG; exact absurd hn59 (Nat.not_lt_zero _)
    | succ n59 ih59 =>
      intro i h2 hn59 hG
      refine sw_iload (pc := 59) hc dX1_go_59 4 rfl ?_
      refine sw_iload (pc := 61) hc dX1_go_61 2 rfl ?_
      refine sw_iload (pc := 63) hc dX1_go_63 3 rfl ?_
      refine sw_mmax (pc := 65) hc mm_RX1_79 ⟨Nat.le_of_ble_eq_true rfl, Nat.le_of_ble_eq_true rfl, Nat.le_of_ble_eq_true rfl, Nat.le_of_ble_eq_true rfl⟩ dX1_go_65 ?_
      refine sw_icmp_ge (pc := 68) (tgt := 100) hc dX1_go_68 (by decide) (fun c_1 => ?_) (fun c_1 => ?_)
      ·
        have c_1' := Int32.not_lt.mpr c_1
        have hz : h2 = hGo gp fl hs w := by rw [← hG]; exact (hClip_0 c_1).symm
        exact sw_vret (pc := 100) hc hlk hrt ⟨rfl, congrArg (fun zz => sg_ov C [(h, .inr (2, hfs zz))]) hz⟩ (Nat.le_of_ble_eq_true rfl) (Nat.le_of_ble_eq_true rfl) dX1_go_100
      ·
        have c_1' := Int32.not_le.mp c_1
        refine sw_aload_n (pc := 71) hc dX1_go_71 rfl 1 rfl ?_
        refine sw_iload (pc := 72) hc dX1_go_72 4 rfl ?_
        refine sw_aload_n (pc := 74) hc dX1_go_74 rfl 0 rfl ?_
        refine sw_get (pc := 75) (v := .int (h2 1)) hc fl_RX1_21 (sg_ov_at hN (k := 0) rfl) rfl dX1_go_75 ?_
        refine sw_callV (pc := 78) (rest := []) hc (c_X2_isFloorAbove l g (sg_ov C [(h, .inr (2, hfs h2))]) lv i (h2 1) ag af ai gp fl ((sg_ov_out hO_lv).trans hC_lv) ((sg_ov_out hO_ag).trans hC_ag) ((sg_ov_out hO_af).trans hC_af)) md_X2_isFloorAbove ml_RX1_86 im_X2_isFloorAbove sl_X2_isFloorAbove ((sg_ov_out hO_lv).trans hC_lv) rfl rfl rfl (Nat.le_of_ble_eq_true rfl) dX1_go_78 ⟨Nat.le_of_ble_eq_true rfl, Nat.le_of_ble_eq_true rfl, Nat.le_of_ble_eq_true rfl, Nat.le_of_ble_eq_true rfl⟩ (fun v C' hP => ?_) (fun _ _ h => h.elim)
        obtain ⟨rfl, rfl⟩ := hP
        refine sw_st (st' := [.int (bI (lAbove gp fl i (h2 1)))]) rfl ?_
        refine sw_if_eq (pc := 81) (tgt := 94) hc dX1_go_81 (by decide) (fun c_2 => ?_) (fun c_2 => ?_)
        ·
          have p_3 : ¬ (lAbove gp fl i (h2 1)) := bI_0 c_2
          refine sw_iinc (pc := 94) (v := i + 1) (lv' := [(6, .int (i + 1)), (0, .ref h), (1, .ref lv), (4, .int (hs 0 / 16)), (5, .int (hAim hs w / 16))]) hc dX1_go_94 (k := 4) rfl (by rfl) (by decide) rfl ?_
          refine sw_goto (pc := 97) (tgt := 59) hc dX1_go_97 (by decide) ?_
          have h_4 : hClip gp fl ((jmax (hs 0 / 16) (hAim hs w / 16)).toInt - (i + 1).toInt).toNat (i + 1) h2 = hGo gp fl hs w := by rw [← hG]; exact (hClip_s c_1 (by simp [p_3])).symm
          have h_5 : ((jmax (hs 0 / 16) (hAim hs w / 16)).toInt - (i + 1).toInt).toNat < n59 := by have q1 := i32_succ (Int32.not_le.mp c_1); have q2 := Int32.lt_iff_toInt_lt.mp (Int32.not_le.mp c_1); rw [q1]; omega
          exact sw_sub (ks := [1, 2, 3, 4, 0]) rfl (ih59 (i + 1) h2 h_5 h_4)
        ·
          have p_6 : lAbove gp fl i (h2 1) := bI_n c_2
          refine sw_aload_n (pc := 84) hc dX1_go_84 rfl 0 rfl ?_
          refine sw_dup (pc := 85) hc dX1_go_85 rfl ?_
          refine sw_get (pc := 86) (v := .int (h2 9)) hc fl_RX1_46 (sg_ov_at hN (k := 0) rfl) rfl dX1_go_86 ?_
          refine sw_iconst (pc := 89) (v := 4) hc dX1_go_89 (by decide) ?_
          refine sw_ior (pc := 90) hc dX1_go_90 ?_
          refine sw_putO (pc := 91) (k := 9) (fs' := hfs (st1 h2 9 ((h2 9) ||| 4))) (L := [(h, .inr (2, hfs h2))]) (l' := [(h, .inr (2, hfs (st1 h2 9 ((h2 9) ||| 4))))]) hc fl_RX1_46 ty_2 fp_2_9 hN (q0 := 0) rfl rfl rfl (Nat.le_of_ble_eq_true rfl) rfl rfl dX1_go_91 ?_
          refine sw_iinc (pc := 94) (v := i + 1) (lv' := [(6, .int (i + 1)), (0, .ref h), (1, .ref lv), (4, .int (hs 0 / 16)), (5, .int (hAim hs w / 16))]) hc dX1_go_94 (k := 4) rfl (by rfl) (by decide) rfl ?_
          refine sw_goto (pc := 97) (tgt := 59) hc dX1_go_97 (by decide) ?_
          have h_7 : hClip gp fl ((jmax (hs 0 / 16) (hAim hs w / 16)).toInt - (i + 1).toInt).toNat (i + 1) (st1 h2 9 ((h2 9) ||| 4)) = hGo gp fl hs w := by rw [← hG]; exact (hClip_s c_1 (by simp [p_6])).symm
          have h_8 : ((jmax (hs 0 / 16) (hAim hs w / 16)).toInt - (i + 1).toInt).toNat < n59 := by have q1 := i32_succ (Int32.not_le.mp c_1); have q2 := Int32.lt_iff_toInt_lt.mp (Int32.not_le.mp c_1); rw [q1]; omega
          exact sw_sub (ks := [1, 2, 3, 4, 0]) rfl (ih59 (i + 1) (st1 h2 9 ((h2 9) ||| 4)) h_8 h_7)
  refine sw_eq (C' := sg_ov C [(h, .inr (2, hfs hs))]) (sg_ov_self2 (List.forall_mem_cons.mpr ⟨hC_h, fun _ h => absurd h List.not_mem_nil⟩)).symm ?_
  refine sw_iconst (pc := 0) (v := 0) hc dX1_go_0 (by decide) ?_
  refine sw_sipush (pc := 1) (v := 511) hc dX1_go_1 (by decide) ?_
  refine sw_aload_n (pc := 4) hc dX1_go_4 rfl 0 rfl ?_
  refine sw_get (pc := 5) (v := .int (hs 0)) hc fl_RX1_11 (sg_ov_at hN (k := 0) rfl) rfl dX1_go_5 ?_
  refine sw_iload_n (pc := 8) hc dX1_go_8 rfl 2 rfl ?_
  refine sw_iadd (pc := 9) hc dX1_go_9 ?_
  refine sw_mmin (pc := 10) hc mm_RX1_73 ⟨Nat.le_of_ble_eq_true rfl, Nat.le_of_ble_eq_true rfl, Nat.le_of_ble_eq_true rfl, Nat.le_of_ble_eq_true rfl⟩ dX1_go_10 ?_
  refine sw_mmax (pc := 13) hc mm_RX1_79 ⟨Nat.le_of_ble_eq_true rfl, Nat.le_of_ble_eq_true rfl, Nat.le_of_ble_eq_true rfl, Nat.le_of_ble_eq_true rfl⟩ dX1_go_13 ?_
  refine sw_st (st' := [.int (hAim hs w)]) rfl ?_
  refine sw_istore_n (pc := 16) hc dX1_go_16 rfl (by decide) (lv' := [(3, .int (hAim hs w)), (0, .ref h), (1, .ref lv), (2, .int w)]) rfl ?_
  refine sw_aload_n (pc := 17) hc dX1_go_17 rfl 1 rfl ?_
  refine sw_callV (pc := 18) (rest := []) hc (c_X1_columnHere l g (sg_ov C [(h, .inr (2, hfs hs))]) h hs (sg_ov_at hN (k := 0) rfl)) md_X1_columnHere ml_RX1_82 im_X1_columnHere sl_X1_columnHere (sg_ov_at hN (k := 0) rfl) rfl rfl rfl (Nat.le_of_ble_eq_true rfl) dX1_go_18 ⟨Nat.le_of_ble_eq_true rfl, Nat.le_of_ble_eq_true rfl, Nat.le_of_ble_eq_true rfl, Nat.le_of_ble_eq_true rfl⟩ (fun v C' hP => ?_) (fun _ _ h => h.elim)
  obtain ⟨rfl, rfl⟩ := hP
  refine sw_st (st' := [.int (hs 0 / 16)]) rfl ?_
  refine sw_istore (pc := 21) hc dX1_go_21 (by decide) (lv' := [(4, .int (hs 0 / 16)), (3, .int (hAim hs w)), (0, .ref h), (1, .ref lv), (2, .int w)]) rfl ?_
  refine sw_iload_n (pc := 23) hc dX1_go_23 rfl 1 rfl ?_
  refine sw_bipush (pc := 24) (v := 16) hc dX1_go_24 (by decide) ?_
  refine sw_idiv (pc := 26) hc dX1_go_26 (by decide) ?_
  refine sw_istore (pc := 27) hc dX1_go_27 (by decide) (lv' := [(5, .int ((hAim hs w) / 16)), (4, .int (hs 0 / 16)), (3, .int (hAim hs w)), (0, .ref h), (1, .ref lv), (2, .int w)]) rfl ?_
  refine sw_aload_n (pc := 29) hc dX1_go_29 rfl 4 rfl ?_
  refine sw_iload (pc := 30) hc dX1_go_30 0 rfl ?_
  refine sw_aload_n (pc := 32) hc dX1_go_32 rfl 3 rfl ?_
  refine sw_get (pc := 33) (v := .int (hs 1)) hc fl_RX1_21 (sg_ov_at hN (k := 0) rfl) rfl dX1_go_33 ?_
  refine sw_callV (pc := 36) (rest := []) hc (c_X2_isFloorAbove l g (sg_ov C [(h, .inr (2, hfs hs))]) lv ((hAim hs w) / 16) (hs 1) ag af ai gp fl ((sg_ov_out hO_lv).trans hC_lv) ((sg_ov_out hO_ag).trans hC_ag) ((sg_ov_out hO_af).trans hC_af)) md_X2_isFloorAbove ml_RX1_86 im_X2_isFloorAbove sl_X2_isFloorAbove ((sg_ov_out hO_lv).trans hC_lv) rfl rfl rfl (Nat.le_of_ble_eq_true rfl) dX1_go_36 ⟨Nat.le_of_ble_eq_true rfl, Nat.le_of_ble_eq_true rfl, Nat.le_of_ble_eq_true rfl, Nat.le_of_ble_eq_true rfl⟩ (fun v C' hP => ?_) (fun _ _ h => h.elim)
  obtain ⟨rfl, rfl⟩ := hP
  refine sw_st (st' := [.int (bI (lAbove gp fl ((hAim hs w) / 16) (hs 1)))]) rfl ?_
  refine sw_if_eq (pc := 39) (tgt := 43) hc dX1_go_39 (by decide) (fun c_9 => ?_) (fun c_9 => ?_)
  ·
    have p_10 : ¬ (lAbove gp fl ((hAim hs w) / 16) (hs 1)) := bI_0 c_9
    refine sw_aload_n (pc := 43) hc dX1_go_43 rfl 3 rfl ?_
    refine sw_iload_n (pc := 44) hc dX1_go_44 rfl 2 rfl ?_
    refine sw_putO (pc := 45) (k := 0) (fs' := hfs (st1 hs 0 (hAim hs w))) (L := [(h, .inr (2, hfs hs))]) (l' := [(h, .inr (2, hfs (st1 hs 0 (hAim hs w))))]) hc fl_RX1_11 ty_2 fp_2_0 hN (q0 := 0) rfl rfl rfl (Nat.le_of_ble_eq_true rfl) rfl rfl dX1_go_45 ?_
    refine sw_iload (pc := 48) hc dX1_go_48 1 rfl ?_
    refine sw_iload (pc := 50) hc dX1_go_50 0 rfl ?_
    refine sw_mmin (pc := 52) hc mm_RX1_73 ⟨Nat.le_of_ble_eq_true rfl, Nat.le_of_ble_eq_true rfl, Nat.le_of_ble_eq_true rfl, Nat.le_of_ble_eq_true rfl⟩ dX1_go_52 ?_
    refine sw_iconst (pc := 55) (v := 1) hc dX1_go_55 (by decide) ?_
    refine sw_iadd (pc := 56) hc dX1_go_56 ?_
    refine sw_top (fun x_11 ex_11 => ?_)
    refine sw_istore (pc := 57) hc dX1_go_57 (by decide) (lv' := [(6, .int x_11), (5, .int ((hAim hs w) / 16)), (4, .int (hs 0 / 16)), (3, .int (hAim hs w)), (0, .ref h), (1, .ref lv), (2, .int w)]) rfl ?_
    have h_12 : hClip gp fl ((jmax (hs 0 / 16) (hAim hs w / 16)).toInt - x_11.toInt).toNat x_11 (st1 hs 0 (hAim hs w)) = hGo gp fl hs w := by (subst ex_11; unfold hGo; rw [if_neg (by assumption)])
    exact sw_sub (ks := [4, 5, 2, 1, 0]) rfl (K_59 _ x_11 (st1 hs 0 (hAim hs w)) (Nat.lt_succ_self _) h_12)
  ·
    have p_13 : lAbove gp fl ((hAim hs w) / 16) (hs 1) := bI_n c_9
    have h_14 : hs = hGo gp fl hs w := by first | rfl | (unfold hGo; rw [if_pos (by assumption)]) | (unfold hGo; rw [if_neg (by assumption)])
    exact sw_vret (pc := 42) hc hlk hrt ⟨rfl, (congrArg (fun zz => sg_ov C [(h, .inr (2, hfs zz))]) h_14)⟩ (Nat.le_of_ble_eq_true rfl) (Nat.le_of_ble_eq_true rfl) dX1_go_42

set_option maxHeartbeats 4000000 in
set_option maxRecDepth 100000 in
theorem c_X1_tick (l : Launch) (g : sg_G) (C : Nat → Option va_E) (h : Nat) (lv : Nat) (b : Int32) (hs : Nat → Int32) (ag : Nat) (af : Nat) (ai : Nat) (gp : Nat → Int32) (fl : Nat → Int32) (it : Nat → Int32) (hC_h : C h = some (.inr (2, hfs hs))) (hC_lv : C lv = some (.inr (3, [.ref ag, .ref af, .ref ai]))) (hC_ag : C ag = some (sg_za g 32 gp)) (hC_af : C af = some (sg_ia g 32 fl)) (hC_ai : C ai = some (sg_ia g 32 it)) : sg_Met l yX1_tick cX1_tick 5 none 2 48 0 0 g [.ref h, .ref lv, .int b] C (fun v C' => v = none ∧ C' = sg_ov C [(h, .inr (2, hfs (hTick gp fl it hs b)))]) sg_no := by
  refine sg_ofW (by decide) rfl ?_ (Nat.le_of_ble_eq_true rfl)
  intro p e s m below meth c hc hlk hrt hin2 ht
  have hc : sg_Cx p s m _ c cX1_tick 5 RX1 g := hc
  show sg_W p l e _ s m _ below meth c 5 g 0 0 _ C 0 [(0, .ref h), (1, .ref lv), (2, .int b)] []
  have hN : sg_nd [h] := ⟨List.not_mem_nil, trivial⟩
  have hO_lv : lv ∉ [h] := sg_nin (sg_ne hC_lv hC_h (Nat.ne_of_beq_eq_false rfl)) (List.not_mem_nil)
  have hO_ag : ag ∉ [h] := sg_nin (sg_ne hC_ag hC_h (Nat.ne_of_beq_eq_false rfl)) (List.not_mem_nil)
  have hO_af : af ∉ [h] := sg_nin (sg_ne hC_af hC_h (Nat.ne_of_beq_eq_false rfl)) (List.not_mem_nil)
  have hO_ai : ai ∉ [h] := sg_nin (sg_ne hC_ai hC_h (Nat.ne_of_beq_eq_false rfl)) (List.not_mem_nil)
  have K_91 : ∀ (h3 : Nat → Int32) (eh3 : h3 = hCan (hFall gp fl (hGo gp fl (hJump (hChoose (st1 hs 5 b) b (hDn hs b)) (hNew hs b)) (hWay2 (st1 hs 5 b) (hDn hs b) (hWay b))))), sg_W p l e (sg_rm 2 48 0 0) s m ([.ref h, .ref lv, .int b] : List Value).toArray below meth c 5 g 0 0 (sg_End below g (fun v C' => v = none ∧ C' = sg_ov C [(h, .inr (2, hfs (hTick gp fl it hs b)))]) sg_no ([.ref h, .ref lv, .int b] : List Value).toArray s 0 0) (sg_ov C [(h, .inr (2, hfs h3))]) 91 [(0, .ref h), (1, .ref lv)] [] := by
    intro h3 eh3
    refine sw_aload_n (pc := 91) hc dX1_tick_91 rfl 0 rfl ?_
    refine sw_aload_n (pc := 92) hc dX1_tick_92 rfl 1 rfl ?_
    refine sw_callV (pc := 93) (rest := []) hc (c_X1_takeCoin l g (sg_ov C [(h, .inr (2, hfs h3))]) h lv h3 ag af ai fl it (sg_ov_at hN (k := 0) rfl) ((sg_ov_out hO_lv).trans hC_lv) ((sg_ov_out hO_af).trans hC_af) ((sg_ov_out hO_ai).trans hC_ai)) md_X1_takeCoin ml_RX1_67 im_X1_takeCoin sl_X1_takeCoin (sg_ov_at hN (k := 0) rfl) rfl rfl rfl (Nat.le_of_ble_eq_true rfl) dX1_tick_93 ⟨Nat.le_of_ble_eq_true rfl, Nat.le_of_ble_eq_true rfl, Nat.le_of_ble_eq_true rfl, Nat.le_of_ble_eq_true rfl⟩ (fun v C' hP => ?_) (fun _ _ h => h.elim)
    obtain ⟨rfl, rfl⟩ := hP
    refine sw_eq (C' := sg_ov C [(h, .inr (2, hfs (hCoin fl it h3)))]) (sg_ov_set (l := [(h, .inr (2, hfs h3))]) hN (k := 0) rfl) ?_
    refine sw_aload_n (pc := 96) hc dX1_tick_96 rfl 0 rfl ?_
    refine sw_dup (pc := 97) hc dX1_tick_97 rfl ?_
    refine sw_get (pc := 98) (v := .int ((hCoin fl it h3) 10)) hc fl_RX1_49 (sg_ov_at hN (k := 0) rfl) rfl dX1_tick_98 ?_
    refine sw_iconst (pc := 101) (v := 1) hc dX1_tick_101 (by decide) ?_
    refine sw_iadd (pc := 102) hc dX1_tick_102 ?_
    refine sw_putO (pc := 103) (k := 10) (fs' := hfs (st1 (hCoin fl it h3) 10 (((hCoin fl it h3) 10) + 1))) (L := [(h, .inr (2, hfs (hCoin fl it h3)))]) (l' := [(h, .inr (2, hfs (st1 (hCoin fl it h3) 10 (((hCoin fl it h3) 10) + 1))))]) hc fl_RX1_49 ty_2 fp_2_10 hN (q0 := 0) rfl rfl rfl (Nat.le_of_ble_eq_true rfl) rfl rfl dX1_tick_103 ?_
    refine sw_aload_n (pc := 106) hc dX1_tick_106 rfl 0 rfl ?_
    refine sw_aload_n (pc := 107) hc dX1_tick_107 rfl 1 rfl ?_
    refine sw_callV (pc := 108) (rest := []) hc (c_X1_finish l g (sg_ov C [(h, .inr (2, hfs (st1 (hCoin fl it h3) 10 (((hCoin fl it h3) 10) + 1))))]) h lv (st1 (hCoin fl it h3) 10 (((hCoin fl it h3) 10) + 1)) ag af ai it (sg_ov_at hN (k := 0) rfl) ((sg_ov_out hO_lv).trans hC_lv) ((sg_ov_out hO_ai).trans hC_ai)) md_X1_finish ml_RX1_70 im_X1_finish sl_X1_finish (sg_ov_at hN (k := 0) rfl) rfl rfl rfl (Nat.le_of_ble_eq_true rfl) dX1_tick_108 ⟨Nat.le_of_ble_eq_true rfl, Nat.le_of_ble_eq_true rfl, Nat.le_of_ble_eq_true rfl, Nat.le_of_ble_eq_true rfl⟩ (fun v C' hP => ?_) (fun _ _ h => h.elim)
    obtain ⟨rfl, rfl⟩ := hP
    refine sw_eq (C' := sg_ov C [(h, .inr (2, hfs (hFin it (st1 (hCoin fl it h3) 10 (((hCoin fl it h3) 10) + 1)))))]) (sg_ov_set (l := [(h, .inr (2, hfs (st1 (hCoin fl it h3) 10 (((hCoin fl it h3) 10) + 1))))]) hN (k := 0) rfl) ?_
    have h_1 : hFin it (st1 (hCoin fl it h3) 10 (((hCoin fl it h3) 10) + 1)) = hTick gp fl it hs b := by (subst eh3; rfl)
    exact sw_vret (pc := 111) hc hlk hrt ⟨rfl, (congrArg (fun zz => sg_ov C [(h, .inr (2, hfs zz))]) h_1)⟩ (Nat.le_of_ble_eq_true rfl) (Nat.le_of_ble_eq_true rfl) dX1_tick_111
  have K_67 : ∀ (w2 : Int32) (h2 : Nat → Int32) (ew2 : w2 = hWay2 (st1 hs 5 b) (hDn hs b) (hWay b)) (eh2 : h2 = hJump (hChoose (st1 hs 5 b) b (hDn hs b)) (hNew hs b)), sg_W p l e (sg_rm 2 48 0 0) s m ([.ref h, .ref lv, .int b] : List Value).toArray below meth c 5 g 0 0 (sg_End below g (fun v C' => v = none ∧ C' = sg_ov C [(h, .inr (2, hfs (hTick gp fl it hs b)))]) sg_no ([.ref h, .ref lv, .int b] : List Value).toArray s 0 0) (sg_ov C [(h, .inr (2, hfs h2))]) 67 [(0, .ref h), (1, .ref lv), (4, .int w2)] [] := by
    intro w2 h2 ew2 eh2
    refine sw_aload_n (pc := 67) hc dX1_tick_67 rfl 0 rfl ?_
    refine sw_aload_n (pc := 68) hc dX1_tick_68 rfl 1 rfl ?_
    refine sw_iload (pc := 69) hc dX1_tick_69 2 rfl ?_
    refine sw_callV (pc := 71) (rest := []) hc (c_X1_go l g (sg_ov C [(h, .inr (2, hfs h2))]) h lv w2 h2 ag af ai gp fl (sg_ov_at hN (k := 0) rfl) ((sg_ov_out hO_lv).trans hC_lv) ((sg_ov_out hO_ag).trans hC_ag) ((sg_ov_out hO_af).trans hC_af)) md_X1_go ml_RX1_59 im_X1_go sl_X1_go (sg_ov_at hN (k := 0) rfl) rfl rfl rfl (Nat.le_of_ble_eq_true rfl) dX1_tick_71 ⟨Nat.le_of_ble_eq_true rfl, Nat.le_of_ble_eq_true rfl, Nat.le_of_ble_eq_true rfl, Nat.le_of_ble_eq_true rfl⟩ (fun v C' hP => ?_) (fun _ _ h => h.elim)
    obtain ⟨rfl, rfl⟩ := hP
    refine sw_eq (C' := sg_ov C [(h, .inr (2, hfs (hGo gp fl h2 w2)))]) (sg_ov_set (l := [(h, .inr (2, hfs h2))]) hN (k := 0) rfl) ?_
    refine sw_aload_n (pc := 74) hc dX1_tick_74 rfl 0 rfl ?_
    refine sw_aload_n (pc := 75) hc dX1_tick_75 rfl 1 rfl ?_
    refine sw_callV (pc := 76) (rest := []) hc (c_X1_fall l g (sg_ov C [(h, .inr (2, hfs (hGo gp fl h2 w2)))]) h lv (hGo gp fl h2 w2) ag af ai gp fl (sg_ov_at hN (k := 0) rfl) ((sg_ov_out hO_lv).trans hC_lv) ((sg_ov_out hO_ag).trans hC_ag) ((sg_ov_out hO_af).trans hC_af)) md_X1_fall ml_RX1_63 im_X1_fall sl_X1_fall (sg_ov_at hN (k := 0) rfl) rfl rfl rfl (Nat.le_of_ble_eq_true rfl) dX1_tick_76 ⟨Nat.le_of_ble_eq_true rfl, Nat.le_of_ble_eq_true rfl, Nat.le_of_ble_eq_true rfl, Nat.le_of_ble_eq_true rfl⟩ (fun v C' hP => ?_) (fun _ _ h => h.elim)
    obtain ⟨rfl, rfl⟩ := hP
    refine sw_eq (C' := sg_ov C [(h, .inr (2, hfs (hFall gp fl (hGo gp fl h2 w2))))]) (sg_ov_set (l := [(h, .inr (2, hfs (hGo gp fl h2 w2)))]) hN (k := 0) rfl) ?_
    refine sw_aload_n (pc := 79) hc dX1_tick_79 rfl 0 rfl ?_
    refine sw_get (pc := 80) (v := .int ((hFall gp fl (hGo gp fl h2 w2)) 3)) hc fl_RX1_27 (sg_ov_at hN (k := 0) rfl) rfl dX1_tick_80 ?_
    refine sw_if_eq (pc := 83) (tgt := 91) hc dX1_tick_83 (by decide) (fun c_2 => ?_) (fun c_2 => ?_)
    ·
      have h_3 : hFall gp fl (hGo gp fl h2 w2) = hCan (hFall gp fl (hGo gp fl (hJump (hChoose (st1 hs 5 b) b (hDn hs b)) (hNew hs b)) (hWay2 (st1 hs 5 b) (hDn hs b) (hWay b)))) := by first | with_reducible rfl | (subst eh2 ew2; first | with_reducible rfl | (simp [-Int32.not_le, -Int32.not_lt, hCan, st1_a, c_2]; done) | (((try simp only [st1_a, Nat.reduceBEq, cond_false, cond_true] at c_2) <;> simp [-Int32.not_le, -Int32.not_lt, hCan, st1_a, c_2]); done) | ((try simp only [hCan]); (repeat' split) <;> simp_all [-Int32.not_le, -Int32.not_lt, st1_a, lItem, lAbove, lGap]; done))
      exact sw_sub (ks := [0, 1]) rfl (K_91 (hFall gp fl (hGo gp fl h2 w2)) h_3)
    ·
      refine sw_aload_n (pc := 86) hc dX1_tick_86 rfl 0 rfl ?_
      refine sw_iconst (pc := 87) (v := 1) hc dX1_tick_87 (by decide) ?_
      refine sw_putO (pc := 88) (k := 4) (fs' := hfs (st1 (hFall gp fl (hGo gp fl h2 w2)) 4 1)) (L := [(h, .inr (2, hfs (hFall gp fl (hGo gp fl h2 w2))))]) (l' := [(h, .inr (2, hfs (st1 (hFall gp fl (hGo gp fl h2 w2)) 4 1)))]) hc fl_RX1_31 ty_2 fp_2_4 hN (q0 := 0) rfl rfl rfl (Nat.le_of_ble_eq_true rfl) rfl rfl dX1_tick_88 ?_
      have h_4 : st1 (hFall gp fl (hGo gp fl h2 w2)) 4 1 = hCan (hFall gp fl (hGo gp fl (hJump (hChoose (st1 hs 5 b) b (hDn hs b)) (hNew hs b)) (hWay2 (st1 hs 5 b) (hDn hs b) (hWay b)))) := by first | with_reducible rfl | (subst eh2 ew2; first | with_reducible rfl | (simp [-Int32.not_le, -Int32.not_lt, hCan, st1_a, c_2]; done) | (((try simp only [st1_a, Nat.reduceBEq, cond_false, cond_true] at c_2) <;> simp [-Int32.not_le, -Int32.not_lt, hCan, st1_a, c_2]); done) | ((try simp only [hCan]); (repeat' split) <;> simp_all [-Int32.not_le, -Int32.not_lt, st1_a, lItem, lAbove, lGap]; done))
      exact sw_sub (ks := [0, 1]) rfl (K_91 (st1 (hFall gp fl (hGo gp fl h2 w2)) 4 1) h_4)
  have K_28 : ∀ (dn : Int32) (edn : dn = hDn hs b), sg_W p l e (sg_rm 2 48 0 0) s m ([.ref h, .ref lv, .int b] : List Value).toArray below meth c 5 g 0 0 (sg_End below g (fun v C' => v = none ∧ C' = sg_ov C [(h, .inr (2, hfs (hTick gp fl it hs b)))]) sg_no ([.ref h, .ref lv, .int b] : List Value).toArray s 0 0) (sg_ov C [(h, .inr (2, hfs (st1 hs 5 b)))]) 28 [(0, .ref h), (1, .ref lv), (2, .int b), (3, .int (hNew hs b))] [.int dn, .int b, .ref h] := by
    intro dn edn
    refine sw_callV (pc := 28) (rest := []) hc (c_X1_choose l g (sg_ov C [(h, .inr (2, hfs (st1 hs 5 b)))]) h b dn (st1 hs 5 b) (sg_ov_at hN (k := 0) rfl)) md_X1_choose ml_RX1_55 im_X1_choose sl_X1_choose (sg_ov_at hN (k := 0) rfl) rfl rfl rfl (Nat.le_of_ble_eq_true rfl) dX1_tick_28 ⟨Nat.le_of_ble_eq_true rfl, Nat.le_of_ble_eq_true rfl, Nat.le_of_ble_eq_true rfl, Nat.le_of_ble_eq_true rfl⟩ (fun v C' hP => ?_) (fun _ _ h => h.elim)
    obtain ⟨rfl, rfl⟩ := hP
    refine sw_eq (C' := sg_ov C [(h, .inr (2, hfs (hChoose (st1 hs 5 b) b dn)))]) (sg_ov_set (l := [(h, .inr (2, hfs (st1 hs 5 b)))]) hN (k := 0) rfl) ?_
    refine sw_st (st' := [.int (hWay2 (st1 hs 5 b) dn (hWay b))]) rfl ?_
    refine sw_istore (pc := 31) hc dX1_tick_31 (by decide) (lv' := [(4, .int (hWay2 (st1 hs 5 b) dn (hWay b))), (0, .ref h), (1, .ref lv), (2, .int b), (3, .int (hNew hs b))]) rfl ?_
    refine sw_iload_n (pc := 33) hc dX1_tick_33 rfl 4 rfl ?_
    refine sw_iconst (pc := 34) (v := 4) hc dX1_tick_34 (by decide) ?_
    refine sw_iand (pc := 35) hc dX1_tick_35 ?_
    refine sw_if_eq (pc := 36) (tgt := 67) hc dX1_tick_36 (by decide) (fun c_5 => ?_) (fun c_5 => ?_)
    ·
      have h_6 : hWay2 (st1 hs 5 b) dn (hWay b) = hWay2 (st1 hs 5 b) (hDn hs b) (hWay b) := by first | with_reducible rfl | (subst edn; first | with_reducible rfl | (simp [-Int32.not_le, -Int32.not_lt, hJump, st1_a, c_5]; done) | (((try simp only [st1_a, Nat.reduceBEq, cond_false, cond_true] at c_5) <;> simp [-Int32.not_le, -Int32.not_lt, hJump, st1_a, c_5]); done) | ((try simp only [hJump]); (repeat' split) <;> simp_all [-Int32.not_le, -Int32.not_lt, st1_a, lItem, lAbove, lGap]; done))
      have h_7 : hChoose (st1 hs 5 b) b dn = hJump (hChoose (st1 hs 5 b) b (hDn hs b)) (hNew hs b) := by first | with_reducible rfl | (subst edn; first | with_reducible rfl | (simp [-Int32.not_le, -Int32.not_lt, hJump, st1_a, c_5]; done) | (((try simp only [st1_a, Nat.reduceBEq, cond_false, cond_true] at c_5) <;> simp [-Int32.not_le, -Int32.not_lt, hJump, st1_a, c_5]); done) | ((try simp only [hJump]); (repeat' split) <;> simp_all [-Int32.not_le, -Int32.not_lt, st1_a, lItem, lAbove, lGap]; done))
      exact sw_sub (ks := [1, 2, 0]) rfl (K_67 (hWay2 (st1 hs 5 b) dn (hWay b)) (hChoose (st1 hs 5 b) b dn) h_6 h_7)
    ·
      refine sw_aload_n (pc := 39) hc dX1_tick_39 rfl 1 rfl ?_
      refine sw_get (pc := 40) (v := .int ((hChoose (st1 hs 5 b) b dn) 3)) hc fl_RX1_27 (sg_ov_at hN (k := 0) rfl) rfl dX1_tick_40 ?_
      refine sw_if_eq (pc := 43) (tgt := 67) hc dX1_tick_43 (by decide) (fun c_8 => ?_) (fun c_8 => ?_)
      ·
        have h_9 : hWay2 (st1 hs 5 b) dn (hWay b) = hWay2 (st1 hs 5 b) (hDn hs b) (hWay b) := by first | with_reducible rfl | (subst edn; first | with_reducible rfl | (simp [-Int32.not_le, -Int32.not_lt, hJump, st1_a, c_5, c_8]; done) | (((try simp only [st1_a, Nat.reduceBEq, cond_false, cond_true] at c_5 c_8) <;> simp [-Int32.not_le, -Int32.not_lt, hJump, st1_a, c_5, c_8]); done) | ((try simp only [hJump]); (repeat' split) <;> simp_all [-Int32.not_le, -Int32.not_lt, st1_a, lItem, lAbove, lGap]; done))
        have h_10 : hChoose (st1 hs 5 b) b dn = hJump (hChoose (st1 hs 5 b) b (hDn hs b)) (hNew hs b) := by first | with_reducible rfl | (subst edn; first | with_reducible rfl | (simp [-Int32.not_le, -Int32.not_lt, hJump, st1_a, c_5, c_8]; done) | (((try simp only [st1_a, Nat.reduceBEq, cond_false, cond_true] at c_5 c_8) <;> simp [-Int32.not_le, -Int32.not_lt, hJump, st1_a, c_5, c_8]); done) | ((try simp only [hJump]); (repeat' split) <;> simp_all [-Int32.not_le, -Int32.not_lt, st1_a, lItem, lAbove, lGap]; done))
        exact sw_sub (ks := [1, 2, 0]) rfl (K_67 (hWay2 (st1 hs 5 b) dn (hWay b)) (hChoose (st1 hs 5 b) b dn) h_9 h_10)
      ·
        refine sw_aload_n (pc := 46) hc dX1_tick_46 rfl 1 rfl ?_
        refine sw_bipush (pc := 47) (v := 14) hc dX1_tick_47 (by decide) ?_
        refine sw_putO (pc := 49) (k := 2) (fs' := hfs (st1 (hChoose (st1 hs 5 b) b dn) 2 14)) (L := [(h, .inr (2, hfs (hChoose (st1 hs 5 b) b dn)))]) (l' := [(h, .inr (2, hfs (st1 (hChoose (st1 hs 5 b) b dn) 2 14)))]) hc fl_RX1_24 ty_2 fp_2_2 hN (q0 := 0) rfl rfl rfl (Nat.le_of_ble_eq_true rfl) rfl rfl dX1_tick_49 ?_
        refine sw_aload_n (pc := 52) hc dX1_tick_52 rfl 1 rfl ?_
        refine sw_iconst (pc := 53) (v := 0) hc dX1_tick_53 (by decide) ?_
        refine sw_putO (pc := 54) (k := 3) (fs' := hfs (st1 (st1 (hChoose (st1 hs 5 b) b dn) 2 14) 3 0)) (L := [(h, .inr (2, hfs (st1 (hChoose (st1 hs 5 b) b dn) 2 14)))]) (l' := [(h, .inr (2, hfs (st1 (st1 (hChoose (st1 hs 5 b) b dn) 2 14) 3 0)))]) hc fl_RX1_27 ty_2 fp_2_3 hN (q0 := 0) rfl rfl rfl (Nat.le_of_ble_eq_true rfl) rfl rfl dX1_tick_54 ?_
        refine sw_aload_n (pc := 57) hc dX1_tick_57 rfl 1 rfl ?_
        refine sw_dup (pc := 58) hc dX1_tick_58 rfl ?_
        refine sw_get (pc := 59) (v := .int ((st1 (st1 (hChoose (st1 hs 5 b) b dn) 2 14) 3 0) 8)) hc fl_RX1_43 (sg_ov_at hN (k := 0) rfl) rfl dX1_tick_59 ?_
        refine sw_iconst (pc := 62) (v := 1) hc dX1_tick_62 (by decide) ?_
        refine sw_iadd (pc := 63) hc dX1_tick_63 ?_
        refine sw_putO (pc := 64) (k := 8) (fs' := hfs (st1 (st1 (st1 (hChoose (st1 hs 5 b) b dn) 2 14) 3 0) 8 (((st1 (st1 (hChoose (st1 hs 5 b) b dn) 2 14) 3 0) 8) + 1))) (L := [(h, .inr (2, hfs (st1 (st1 (hChoose (st1 hs 5 b) b dn) 2 14) 3 0)))]) (l' := [(h, .inr (2, hfs (st1 (st1 (st1 (hChoose (st1 hs 5 b) b dn) 2 14) 3 0) 8 (((st1 (st1 (hChoose (st1 hs 5 b) b dn) 2 14) 3 0) 8) + 1))))]) hc fl_RX1_43 ty_2 fp_2_8 hN (q0 := 0) rfl rfl rfl (Nat.le_of_ble_eq_true rfl) rfl rfl dX1_tick_64 ?_
        have h_11 : hWay2 (st1 hs 5 b) dn (hWay b) = hWay2 (st1 hs 5 b) (hDn hs b) (hWay b) := by first | with_reducible rfl | (subst edn; first | with_reducible rfl | (simp [-Int32.not_le, -Int32.not_lt, hJump, st1_a, c_5, c_8]; done) | (((try simp only [st1_a, Nat.reduceBEq, cond_false, cond_true] at c_5 c_8) <;> simp [-Int32.not_le, -Int32.not_lt, hJump, st1_a, c_5, c_8]); done) | ((try simp only [hJump]); (repeat' split) <;> simp_all [-Int32.not_le, -Int32.not_lt, st1_a, lItem, lAbove, lGap]; done))
        have h_12 : st1 (st1 (st1 (hChoose (st1 hs 5 b) b dn) 2 14) 3 0) 8 (((st1 (st1 (hChoose (st1 hs 5 b) b dn) 2 14) 3 0) 8) + 1) = hJump (hChoose (st1 hs 5 b) b (hDn hs b)) (hNew hs b) := by first | with_reducible rfl | (subst edn; first | with_reducible rfl | (simp [-Int32.not_le, -Int32.not_lt, hJump, st1_a, c_5, c_8]; done) | (((try simp only [st1_a, Nat.reduceBEq, cond_false, cond_true] at c_5 c_8) <;> simp [-Int32.not_le, -Int32.not_lt, hJump, st1_a, c_5, c_8]); done) | ((try simp only [hJump]); (repeat' split) <;> simp_all [-Int32.not_le, -Int32.not_lt, st1_a, lItem, lAbove, lGap]; done))
        exact sw_sub (ks := [1, 2, 0]) rfl (K_67 (hWay2 (st1 hs 5 b) dn (hWay b)) (st1 (st1 (st1 (hChoose (st1 hs 5 b) b dn) 2 14) 3 0) 8 (((st1 (st1 (hChoose (st1 hs 5 b) b dn) 2 14) 3 0) 8) + 1)) h_11 h_12)
  refine sw_eq (C' := sg_ov C [(h, .inr (2, hfs hs))]) (sg_ov_self2 (List.forall_mem_cons.mpr ⟨hC_h, fun _ h => absurd h List.not_mem_nil⟩)).symm ?_
  refine sw_iload_n (pc := 0) hc dX1_tick_0 rfl 2 rfl ?_
  refine sw_aload_n (pc := 1) hc dX1_tick_1 rfl 0 rfl ?_
  refine sw_get (pc := 2) (v := .int (hs 5)) hc fl_RX1_34 (sg_ov_at hN (k := 0) rfl) rfl dX1_tick_2 ?_
  refine sw_iconst (pc := 5) (v := (-1)) hc dX1_tick_5 (by decide) ?_
  refine sw_ixor (pc := 6) hc dX1_tick_6 ?_
  refine sw_iand (pc := 7) hc dX1_tick_7 ?_
  refine sw_istore_n (pc := 8) hc dX1_tick_8 rfl (by decide) (lv' := [(3, .int (b &&& ((hs 5) ^^^ (-1)))), (0, .ref h), (1, .ref lv), (2, .int b)]) rfl ?_
  refine sw_aload_n (pc := 9) hc dX1_tick_9 rfl 1 rfl ?_
  refine sw_iload_n (pc := 10) hc dX1_tick_10 rfl 3 rfl ?_
  refine sw_putO (pc := 11) (k := 5) (fs' := hfs (st1 hs 5 b)) (L := [(h, .inr (2, hfs hs))]) (l' := [(h, .inr (2, hfs (st1 hs 5 b)))]) hc fl_RX1_34 ty_2 fp_2_5 hN (q0 := 0) rfl rfl rfl (Nat.le_of_ble_eq_true rfl) rfl rfl dX1_tick_11 ?_
  refine sw_aload_n (pc := 14) hc dX1_tick_14 rfl 1 rfl ?_
  refine sw_iload_n (pc := 15) hc dX1_tick_15 rfl 3 rfl ?_
  refine sw_iload_n (pc := 16) hc dX1_tick_16 rfl 0 rfl ?_
  refine sw_bipush (pc := 17) (v := 8) hc dX1_tick_17 (by decide) ?_
  refine sw_iand (pc := 19) hc dX1_tick_19 ?_
  refine sw_if_eq (pc := 20) (tgt := 27) hc dX1_tick_20 (by decide) (fun c_13 => ?_) (fun c_13 => ?_)
  ·
    refine sw_iconst (pc := 27) (v := 0) hc dX1_tick_27 (by decide) ?_
    have h_14 : 0 = hDn hs b := by first | with_reducible rfl | (first | with_reducible rfl | (simp [-Int32.not_le, -Int32.not_lt, hDn, hNew, bI, st1_a, c_13]; done) | (((try simp only [st1_a, Nat.reduceBEq, cond_false, cond_true] at c_13) <;> simp [-Int32.not_le, -Int32.not_lt, hDn, hNew, bI, st1_a, c_13]); done) | ((try simp only [hDn, hNew, bI]); (repeat' split) <;> simp_all [-Int32.not_le, -Int32.not_lt, st1_a, lItem, lAbove, lGap]; done))
    exact sw_sub (ks := [1, 2, 3, 0]) rfl (K_28 0 h_14)
  ·
    refine sw_iconst (pc := 23) (v := 1) hc dX1_tick_23 (by decide) ?_
    refine sw_goto (pc := 24) (tgt := 28) hc dX1_tick_24 (by decide) ?_
    have h_15 : 1 = hDn hs b := by first | with_reducible rfl | (first | with_reducible rfl | (simp [-Int32.not_le, -Int32.not_lt, hDn, hNew, bI, st1_a, c_13]; done) | (((try simp only [st1_a, Nat.reduceBEq, cond_false, cond_true] at c_13) <;> simp [-Int32.not_le, -Int32.not_lt, hDn, hNew, bI, st1_a, c_13]); done) | ((try simp only [hDn, hNew, bI]); (repeat' split) <;> simp_all [-Int32.not_le, -Int32.not_lt, st1_a, lItem, lAbove, lGap]; done))
    exact sw_sub (ks := [1, 2, 3, 0]) rfl (K_28 1 h_15)
