
theorem rClip_c {a hi i : Nat} {σ : Mem} (h : i < hi) : rClip a (hi - i) i σ = rClip a (hi - (i + 1)) (i + 1) (st2 σ 39 0 (σ 39 0 ||| if rWall σ a i then 4 else 0)) := by
  rw [show hi - i = (hi - (i + 1)) + 1 by omega]; rfl
theorem rClip_32 {a : Nat} : ∀ {n i : Nat} {σ : Mem}, rClip a n i σ 32 0 = σ 32 0
  | 0, _, _ => rfl
  | n + 1, i, σ => (rClip_32 (n := n) (i := i + 1)).trans rfl
theorem rHiN_lt {x y : Int32} (h1 : ∃ k : Nat, k < 512 ∧ x = nI k) (h2 : ∃ k : Nat, k < 512 ∧ y = nI k) : rHiN x y < 32 ∧ rLoN x y < 32 := by
  unfold rHiN rLoN
  have := (cN_x h1).2
  have := (cN_x h2).2
  split <;> exact ⟨by assumption, by assumption⟩
/-- the hero's memory alone: a state is the same but for 32 .. 42 -/

theorem md_X8_wall : sg_MD yX8_wall cX8_wall 3 (some .boolean) 2 := ⟨sg_mem (i := 1069) (by decide +kernel) rfl, sg_mem (i := 59) (by decide +kernel) rfl, ⟨by decide, by decide⟩, by decide +kernel⟩
theorem ml_RX8_147 : sg_ML RX8 147 yX8_wall := .inl (sg_mem (i := 1066) (by decide +kernel) rfl)
theorem im_X8_wall : Cond.instanceMethod yX8_wall ∈ sg_T := sg_mem (i := 1068) (by decide +kernel) rfl
theorem sl_X8_wall : Cond.selects yX8_wall.cls yX8_wall yX8_wall ∈ sg_T := sg_mem (i := 37) (by decide +kernel) rfl
theorem md_X8_go : sg_MD yX8_go cX8_go 7 none 2 := ⟨sg_mem (i := 1065) (by decide +kernel) rfl, sg_mem (i := 59) (by decide +kernel) rfl, ⟨by decide, by decide⟩, by decide +kernel⟩
theorem ml_RX8_153 : sg_ML RX8 153 yX8_go := .inl (sg_mem (i := 1062) (by decide +kernel) rfl)
theorem im_X8_go : Cond.instanceMethod yX8_go ∈ sg_T := sg_mem (i := 1064) (by decide +kernel) rfl
theorem sl_X8_go : Cond.selects yX8_go.cls yX8_go yX8_go ∈ sg_T := sg_mem (i := 36) (by decide +kernel) rfl
theorem md_X8_fall : sg_MD yX8_fall cX8_fall 3 none 1 := ⟨sg_mem (i := 1073) (by decide +kernel) rfl, sg_mem (i := 59) (by decide +kernel) rfl, ⟨by decide, by decide⟩, by decide +kernel⟩
theorem ml_RX8_157 : sg_ML RX8 157 yX8_fall := .inl (sg_mem (i := 1070) (by decide +kernel) rfl)
theorem im_X8_fall : Cond.instanceMethod yX8_fall ∈ sg_T := sg_mem (i := 1072) (by decide +kernel) rfl
theorem sl_X8_fall : Cond.selects yX8_fall.cls yX8_fall yX8_fall ∈ sg_T := sg_mem (i := 38) (by decide +kernel) rfl
theorem md_X8_meet : sg_MD yX8_meet cX8_meet 5 none 1 := ⟨sg_mem (i := 1077) (by decide +kernel) rfl, sg_mem (i := 59) (by decide +kernel) rfl, ⟨by decide, by decide⟩, by decide +kernel⟩
theorem ml_RX8_161 : sg_ML RX8 161 yX8_meet := .inl (sg_mem (i := 1074) (by decide +kernel) rfl)
theorem im_X8_meet : Cond.instanceMethod yX8_meet ∈ sg_T := sg_mem (i := 1076) (by decide +kernel) rfl
theorem sl_X8_meet : Cond.selects yX8_meet.cls yX8_meet yX8_meet ∈ sg_T := sg_mem (i := 39) (by decide +kernel) rfl
theorem md_X8_way : sg_MD yX8_way cX8_way 4 (some .int) 2 := ⟨sg_mem (i := 1061) (by decide +kernel) rfl, sg_mem (i := 59) (by decide +kernel) rfl, ⟨by decide, by decide⟩, by decide +kernel⟩
theorem ml_RX8_150 : sg_ML RX8 150 yX8_way := .inl (sg_mem (i := 1058) (by decide +kernel) rfl)
theorem im_X8_way : Cond.instanceMethod yX8_way ∈ sg_T := sg_mem (i := 1060) (by decide +kernel) rfl
theorem sl_X8_way : Cond.selects yX8_way.cls yX8_way yX8_way ∈ sg_T := sg_mem (i := 35) (by decide +kernel) rfl
set_option maxHeartbeats 4000000 in
set_option maxRecDepth 100000 in
theorem c_X8_go (l : Launch) (g : sg_G) (C : Nat → Option va_E) (m0 : Nat) (q : Nat → Nat) (σ : Mem) (a : Nat) (w : Int32) (hN : mN m0 q) (ha : a < 3) (hw : rHW σ) : sg_Met l yX8_go cX8_go 7 none 2 44 0 0 g [.ref m0, .int (nI a), .int w] (sg_ov C (mW g m0 q σ)) (fun v C' => v = none ∧ C' = sg_ov C (mW g m0 q (rGo σ a w))) sg_no := by
  refine sg_ofW (by decide) rfl ?_ (Nat.le_of_ble_eq_true rfl)
  intro p e s m below meth c hc hlk hrt hin2 htb
  have hc : sg_Cx p s m _ c cX8_go 7 RX8 g := hc
  show sg_W p l e _ s m _ below meth c 7 g 0 0 _ (sg_ov C (mW g m0 q σ)) 0 [(0, .ref m0), (1, .int (nI a)), (2, .int w)] []
  have K_97 : ∀ (n97 : Nat) (τ : Mem) (i : Nat) (hi : Nat) (hn97 : (hi - i) < n97) (ehi : hi = rHiN (σ 32 0) (rTo (σ 32 0 + w))) (hnw : ¬ rWall σ a (cN (rTo (σ 32 0 + w)))) (hG : rClip a (hi - i) i τ = rClip a (hi - (rLoN (σ 32 0) (rTo (σ 32 0 + w)) + 1)) (rLoN (σ 32 0) (rTo (σ 32 0 + w)) + 1) σ) (hi32 : hi < 32) (hlo : i < 33), sg_W p l e (sg_rm 2 44 0 0) s m ([.ref m0, .int (nI a), .int w] : List Value).toArray below meth c 7 g 0 0 (sg_End below g (fun v C' => v = none ∧ C' = sg_ov C (mW g m0 q (rGo σ a w))) sg_no ([.ref m0, .int (nI a), .int w] : List Value).toArray s 0 0) (sg_ov C (mW g m0 q τ)) 97 [(0, .ref m0), (1, .int (nI a)), (3, .int (rTo (σ 32 0 + w))), (5, .int (nI hi)), (6, .int (nI i))] [] := by
    intro n97
    induction n97 with
    | zero => intro τ i hi hn97 ehi hnw hG hi32 hlo; exact absurd hn97 (Nat.not_lt_zero _)
    | succ n97 ih97 =>
      intro τ i hi hn97 ehi hnw hG hi32 hlo
      refine sw_iload (pc := 97) hc dX8_go_97 4 rfl ?_
      refine sw_iload (pc := 99) hc dX8_go_99 3 rfl ?_
      refine sw_icmp_ge (pc := 101) (tgt := 134) hc dX8_go_101 (by decide) (fun c_1 => ?_) (fun c_1 => ?_)
      ·
        have n_2 : hi ≤ i := (nI_leI (a := hi) (b := i) (by omega) (by omega)).mp c_1
        have c_1' := Int32.not_lt.mpr c_1
        refine sw_aload_n (pc := 134) hc dX8_go_134 rfl 0 rfl ?_
        refine sw_iload_n (pc := 135) hc dX8_go_135 rfl 2 rfl ?_
        refine sw_put (pc := 136) (k := 32) hc fl_RX8_119 ty_9 fp_9_32 (mW_o hN) rfl rfl (Nat.le_of_ble_eq_true rfl) rfl dX8_go_136 ?_
        refine sw_eq (mW_p32 hN) ?_
        have hz : st2 τ 32 0 (rTo (σ 32 0 + w)) = rGo σ a w := by
          have h0 : hi - i = 0 := by omega
          rw [h0] at hG
          rw [show τ = rClip a (hi - (rLoN (σ 32 0) (rTo (σ 32 0 + w)) + 1)) (rLoN (σ 32 0) (rTo (σ 32 0 + w)) + 1) σ from hG, ehi]; unfold rGo; exact (if_neg hnw).symm
        exact sw_vret (pc := 139) hc hlk hrt ⟨rfl, congrArg (fun z => sg_ov C (mW g m0 q z)) hz⟩ (Nat.le_of_ble_eq_true rfl) (Nat.le_of_ble_eq_true rfl) dX8_go_139
      ·
        have n_3 : ¬ (hi ≤ i) := fun z => c_1 ((nI_leI (a := hi) (b := i) (by omega) (by omega)).mpr z)
        have c_1' := Int32.not_le.mp c_1
        refine sw_aload_n (pc := 104) hc dX8_go_104 rfl 0 rfl ?_
        refine sw_dup (pc := 105) hc dX8_go_105 rfl ?_
        refine sw_get (pc := 106) (v := .int (τ 39 0)) hc fl_RX8_138 (mW_o hN) rfl dX8_go_106 ?_
        refine sw_aload_n (pc := 109) hc dX8_go_109 rfl 0 rfl ?_
        refine sw_iload_n (pc := 110) hc dX8_go_110 rfl 1 rfl ?_
        refine sw_iload (pc := 111) hc dX8_go_111 4 rfl ?_
        refine sw_callV (pc := 113) (rest := [.int (τ 39 0), .ref m0]) hc (c_X8_wall l g C m0 q τ a i hN (by omega)) md_X8_wall ml_RX8_147 im_X8_wall sl_X8_wall (mW_o hN) rfl rfl rfl (Nat.le_of_ble_eq_true rfl) dX8_go_113 ⟨Nat.le_of_ble_eq_true rfl, Nat.le_of_ble_eq_true rfl, Nat.le_of_ble_eq_true rfl, Nat.le_of_ble_eq_true rfl⟩ (fun v C' hP => ?_) (fun _ _ h => h.elim)
        obtain ⟨rfl, rfl⟩ := hP
        refine sw_st (st' := [.int (bI (rWall τ a i)), .int (τ 39 0), .ref m0]) rfl ?_
        refine sw_if_eq (pc := 116) (tgt := 123) hc dX8_go_116 (by decide) (fun c_4 => ?_) (fun c_4 => ?_)
        ·
          have p_5 : ¬ (rWall τ a i) := bI_0 c_4
          refine sw_iconst (pc := 123) (v := 0) hc dX8_go_123 (by decide) ?_
          refine sw_ior (pc := 124) hc dX8_go_124 ?_
          refine sw_put (pc := 125) (k := 39) hc fl_RX8_138 ty_9 fp_9_39 (mW_o hN) rfl rfl (Nat.le_of_ble_eq_true rfl) rfl dX8_go_125 ?_
          refine sw_eq (mW_p39 hN) ?_
          refine sw_iinc (pc := 128) (v := nI (i + 1)) (lv' := [(6, .int (nI (i + 1))), (0, .ref m0), (1, .int (nI a)), (3, .int (rTo (σ 32 0 + w))), (5, .int (nI hi))]) hc dX8_go_128 (k := 4) rfl (nI_1 _) (by decide) rfl ?_
          refine sw_goto (pc := 131) (tgt := 97) hc dX8_go_131 (by decide) ?_
          have h_6 : hi = rHiN (σ 32 0) (rTo (σ 32 0 + w)) := by first | with_reducible rfl | (subst ehi; first | with_reducible rfl | (simp [-Int32.not_le, -Int32.not_lt, st2_a, hnw, hG, hi32, hlo, c_1, n_3, c_1', p_5]; done) | (((try simp only [st2_a, Nat.reduceBEq, Bool.false_and, Bool.true_and, beq_self_eq_true, cond_false, cond_true] at hnw hG hi32 hlo c_1 n_3 c_1' p_5) <;> simp [-Int32.not_le, -Int32.not_lt, st2_a, hnw, hG, hi32, hlo, c_1, n_3, c_1', p_5]); done) | ((repeat' split) <;> simp_all [-Int32.not_le, -Int32.not_lt, st2_a, rGap, rWall]; done))
          have h_7 : ¬ rWall σ a (cN (rTo (σ 32 0 + w))) := by assumption
          have h_8 : rClip a (hi - (i + 1)) (i + 1) (st2 τ 39 0 ((τ 39 0) ||| 0)) = rClip a (hi - (rLoN (σ 32 0) (rTo (σ 32 0 + w)) + 1)) (rLoN (σ 32 0) (rTo (σ 32 0 + w)) + 1) σ := by rw [← hG, rClip_c (Nat.not_le.mp n_3)]; first | rw [if_pos p_5] | rw [if_neg p_5]
          have h_9 : hi < 32 := by exact hi32
          have h_10 : (i + 1) < 33 := by omega
          have h_11 : (hi - (i + 1)) < n97 := by omega
          exact sw_sub (ks := [1, 2, 3, 4, 0]) rfl (ih97 (st2 τ 39 0 ((τ 39 0) ||| 0)) (i + 1) hi h_11 h_6 h_7 h_8 h_9 h_10)
        ·
          have p_12 : rWall τ a i := bI_n c_4
          refine sw_iconst (pc := 119) (v := 4) hc dX8_go_119 (by decide) ?_
          refine sw_goto (pc := 120) (tgt := 124) hc dX8_go_120 (by decide) ?_
          refine sw_ior (pc := 124) hc dX8_go_124 ?_
          refine sw_put (pc := 125) (k := 39) hc fl_RX8_138 ty_9 fp_9_39 (mW_o hN) rfl rfl (Nat.le_of_ble_eq_true rfl) rfl dX8_go_125 ?_
          refine sw_eq (mW_p39 hN) ?_
          refine sw_iinc (pc := 128) (v := nI (i + 1)) (lv' := [(6, .int (nI (i + 1))), (0, .ref m0), (1, .int (nI a)), (3, .int (rTo (σ 32 0 + w))), (5, .int (nI hi))]) hc dX8_go_128 (k := 4) rfl (nI_1 _) (by decide) rfl ?_
          refine sw_goto (pc := 131) (tgt := 97) hc dX8_go_131 (by decide) ?_
          have h_13 : hi = rHiN (σ 32 0) (rTo (σ 32 0 + w)) := by first | with_reducible rfl | (subst ehi; first | with_reducible rfl | (simp [-Int32.not_le, -Int32.not_lt, st2_a, hnw, hG, hi32, hlo, c_1, n_3, c_1', p_12]; done) | (((try simp only [st2_a, Nat.reduceBEq, Bool.false_and, Bool.true_and, beq_self_eq_true, cond_false, cond_true] at hnw hG hi32 hlo c_1 n_3 c_1' p_12) <;> simp [-Int32.not_le, -Int32.not_lt, st2_a, hnw, hG, hi32, hlo, c_1, n_3, c_1', p_12]); done) | ((repeat' split) <;> simp_all [-Int32.not_le, -Int32.not_lt, st2_a, rGap, rWall]; done))
          have h_14 : ¬ rWall σ a (cN (rTo (σ 32 0 + w))) := by assumption
          have h_15 : rClip a (hi - (i + 1)) (i + 1) (st2 τ 39 0 ((τ 39 0) ||| 4)) = rClip a (hi - (rLoN (σ 32 0) (rTo (σ 32 0 + w)) + 1)) (rLoN (σ 32 0) (rTo (σ 32 0 + w)) + 1) σ := by rw [← hG, rClip_c (Nat.not_le.mp n_3)]; first | rw [if_pos p_12] | rw [if_neg p_12]
          have h_16 : hi < 32 := by exact hi32
          have h_17 : (i + 1) < 33 := by omega
          have h_18 : (hi - (i + 1)) < n97 := by omega
          exact sw_sub (ks := [1, 2, 3, 4, 0]) rfl (ih97 (st2 τ 39 0 ((τ 39 0) ||| 4)) (i + 1) hi h_18 h_13 h_14 h_15 h_16 h_17)
  have K_89 : ∀ (lo : Nat) (hi : Nat) (elo : lo = rLoN (σ 32 0) (rTo (σ 32 0 + w))) (ehi : hi = rHiN (σ 32 0) (rTo (σ 32 0 + w))) (hnw : ¬ rWall σ a (cN (rTo (σ 32 0 + w)))), sg_W p l e (sg_rm 2 44 0 0) s m ([.ref m0, .int (nI a), .int w] : List Value).toArray below meth c 7 g 0 0 (sg_End below g (fun v C' => v = none ∧ C' = sg_ov C (mW g m0 q (rGo σ a w))) sg_no ([.ref m0, .int (nI a), .int w] : List Value).toArray s 0 0) (sg_ov C (mW g m0 q σ)) 89 [(0, .ref m0), (1, .int (nI a)), (3, .int (rTo (σ 32 0 + w))), (4, .int (nI lo))] [.int (nI hi)] := by
    intro lo hi elo ehi hnw
    refine sw_istore (pc := 89) hc dX8_go_89 (by decide) (lv' := [(5, .int (nI hi)), (0, .ref m0), (1, .int (nI a)), (3, .int (rTo (σ 32 0 + w))), (4, .int (nI lo))]) rfl ?_
    refine sw_iload (pc := 91) hc dX8_go_91 4 rfl ?_
    refine sw_iconst (pc := 93) (v := 1) hc dX8_go_93 (by decide) ?_
    refine sw_iadd (pc := 94) hc dX8_go_94 ?_
    refine sw_st (st' := [.int (nI (lo + 1))]) (by rw [show (nI lo) + 1 = nI (lo + 1) from nI_1 _]) ?_
    refine sw_istore (pc := 95) hc dX8_go_95 (by decide) (lv' := [(6, .int (nI (lo + 1))), (5, .int (nI hi)), (0, .ref m0), (1, .int (nI a)), (3, .int (rTo (σ 32 0 + w))), (4, .int (nI lo))]) rfl ?_
    have h_19 : hi = rHiN (σ 32 0) (rTo (σ 32 0 + w)) := by first | with_reducible rfl | (subst ehi elo; first | with_reducible rfl | (simp [-Int32.not_le, -Int32.not_lt, st2_a, hnw]; done) | (((try simp only [st2_a, Nat.reduceBEq, Bool.false_and, Bool.true_and, beq_self_eq_true, cond_false, cond_true] at hnw) <;> simp [-Int32.not_le, -Int32.not_lt, st2_a, hnw]); done) | ((repeat' split) <;> simp_all [-Int32.not_le, -Int32.not_lt, st2_a, rGap, rWall]; done))
    have h_20 : ¬ rWall σ a (cN (rTo (σ 32 0 + w))) := by assumption
    have h_21 : rClip a (hi - (lo + 1)) (lo + 1) σ = rClip a (hi - (rLoN (σ 32 0) (rTo (σ 32 0 + w)) + 1)) (rLoN (σ 32 0) (rTo (σ 32 0 + w)) + 1) σ := by (subst elo ehi; rfl)
    have h_22 : hi < 32 := by (subst ehi; exact (rHiN_lt hw.1 (rTo_x _)).1)
    have h_23 : (lo + 1) < 33 := by (subst elo; have := (rHiN_lt hw.1 (rTo_x (σ 32 0 + w))).2; omega)
    exact sw_sub (ks := [2, 3, 4, 1, 0]) rfl (K_97 _ σ (lo + 1) hi (Nat.lt_succ_self _) h_19 h_20 h_21 h_22 h_23)
  have K_65 : ∀ (lo : Nat) (elo : lo = rLoN (σ 32 0) (rTo (σ 32 0 + w))) (hnw : ¬ rWall σ a (cN (rTo (σ 32 0 + w)))), sg_W p l e (sg_rm 2 44 0 0) s m ([.ref m0, .int (nI a), .int w] : List Value).toArray below meth c 7 g 0 0 (sg_End below g (fun v C' => v = none ∧ C' = sg_ov C (mW g m0 q (rGo σ a w))) sg_no ([.ref m0, .int (nI a), .int w] : List Value).toArray s 0 0) (sg_ov C (mW g m0 q σ)) 65 [(0, .ref m0), (1, .int (nI a)), (3, .int (rTo (σ 32 0 + w)))] [.int (nI lo)] := by
    intro lo elo hnw
    refine sw_istore (pc := 65) hc dX8_go_65 (by decide) (lv' := [(4, .int (nI lo)), (0, .ref m0), (1, .int (nI a)), (3, .int (rTo (σ 32 0 + w)))]) rfl ?_
    refine sw_aload_n (pc := 67) hc dX8_go_67 rfl 1 rfl ?_
    refine sw_get (pc := 68) (v := .int (σ 32 0)) hc fl_RX8_119 (mW_o hN) rfl dX8_go_68 ?_
    refine sw_iload_n (pc := 71) hc dX8_go_71 rfl 3 rfl ?_
    refine sw_icmp_ge (pc := 72) (tgt := 82) hc dX8_go_72 (by decide) (fun c_24 => ?_) (fun c_24 => ?_)
    ·
      have c_24' := Int32.not_lt.mpr c_24
      refine sw_aload_n (pc := 82) hc dX8_go_82 rfl 1 rfl ?_
      refine sw_get (pc := 83) (v := .int (σ 32 0)) hc fl_RX8_119 (mW_o hN) rfl dX8_go_83 ?_
      refine sw_bipush (pc := 86) (v := 16) hc dX8_go_86 (by decide) ?_
      refine sw_idiv (pc := 88) hc dX8_go_88 (by decide) ?_
      refine sw_st (st' := [.int (nI (cN (σ 32 0)))]) (by rw [show (σ 32 0) / 16 = nI (cN (σ 32 0)) from (cN_x hw.1).1]) ?_
      have h_25 : lo = rLoN (σ 32 0) (rTo (σ 32 0 + w)) := by first | with_reducible rfl | (subst elo; first | with_reducible rfl | (simp [-Int32.not_le, -Int32.not_lt, rHiN, st2_a, hnw, c_24, c_24']; done) | (((try simp only [st2_a, Nat.reduceBEq, Bool.false_and, Bool.true_and, beq_self_eq_true, cond_false, cond_true] at hnw c_24 c_24') <;> simp [-Int32.not_le, -Int32.not_lt, rHiN, st2_a, hnw, c_24, c_24']); done) | ((try simp only [rHiN]); (repeat' split) <;> simp_all [-Int32.not_le, -Int32.not_lt, st2_a, rGap, rWall]; done))
      have h_26 : (cN (σ 32 0)) = rHiN (σ 32 0) (rTo (σ 32 0 + w)) := by first | with_reducible rfl | (subst elo; first | with_reducible rfl | (simp [-Int32.not_le, -Int32.not_lt, rHiN, st2_a, hnw, c_24, c_24']; done) | (((try simp only [st2_a, Nat.reduceBEq, Bool.false_and, Bool.true_and, beq_self_eq_true, cond_false, cond_true] at hnw c_24 c_24') <;> simp [-Int32.not_le, -Int32.not_lt, rHiN, st2_a, hnw, c_24, c_24']); done) | ((try simp only [rHiN]); (repeat' split) <;> simp_all [-Int32.not_le, -Int32.not_lt, st2_a, rGap, rWall]; done))
      have h_27 : ¬ rWall σ a (cN (rTo (σ 32 0 + w))) := by assumption
      exact sw_sub (ks := [1, 2, 3, 0]) rfl (K_89 lo (cN (σ 32 0)) h_25 h_26 h_27)
    ·
      have c_24' := Int32.not_le.mp c_24
      refine sw_iload_n (pc := 75) hc dX8_go_75 rfl 3 rfl ?_
      refine sw_bipush (pc := 76) (v := 16) hc dX8_go_76 (by decide) ?_
      refine sw_idiv (pc := 78) hc dX8_go_78 (by decide) ?_
      refine sw_st (st' := [.int (nI (cN (rTo (σ 32 0 + w))))]) (by rw [show (rTo (σ 32 0 + w)) / 16 = nI (cN (rTo (σ 32 0 + w))) from (cN_x (rTo_x _)).1]) ?_
      refine sw_goto (pc := 79) (tgt := 89) hc dX8_go_79 (by decide) ?_
      have h_28 : lo = rLoN (σ 32 0) (rTo (σ 32 0 + w)) := by first | with_reducible rfl | (subst elo; first | with_reducible rfl | (simp [-Int32.not_le, -Int32.not_lt, rHiN, st2_a, hnw, c_24, c_24']; done) | (((try simp only [st2_a, Nat.reduceBEq, Bool.false_and, Bool.true_and, beq_self_eq_true, cond_false, cond_true] at hnw c_24 c_24') <;> simp [-Int32.not_le, -Int32.not_lt, rHiN, st2_a, hnw, c_24, c_24']); done) | ((try simp only [rHiN]); (repeat' split) <;> simp_all [-Int32.not_le, -Int32.not_lt, st2_a, rGap, rWall]; done))
      have h_29 : (cN (rTo (σ 32 0 + w))) = rHiN (σ 32 0) (rTo (σ 32 0 + w)) := by first | with_reducible rfl | (subst elo; first | with_reducible rfl | (simp [-Int32.not_le, -Int32.not_lt, rHiN, st2_a, hnw, c_24, c_24']; done) | (((try simp only [st2_a, Nat.reduceBEq, Bool.false_and, Bool.true_and, beq_self_eq_true, cond_false, cond_true] at hnw c_24 c_24') <;> simp [-Int32.not_le, -Int32.not_lt, rHiN, st2_a, hnw, c_24, c_24']); done) | ((try simp only [rHiN]); (repeat' split) <;> simp_all [-Int32.not_le, -Int32.not_lt, st2_a, rGap, rWall]; done))
      have h_30 : ¬ rWall σ a (cN (rTo (σ 32 0 + w))) := by assumption
      exact sw_sub (ks := [1, 2, 3, 0]) rfl (K_89 lo (cN (rTo (σ 32 0 + w))) h_28 h_29 h_30)
  have K_29 : sg_W p l e (sg_rm 2 44 0 0) s m ([.ref m0, .int (nI a), .int w] : List Value).toArray below meth c 7 g 0 0 (sg_End below g (fun v C' => v = none ∧ C' = sg_ov C (mW g m0 q (rGo σ a w))) sg_no ([.ref m0, .int (nI a), .int w] : List Value).toArray s 0 0) (sg_ov C (mW g m0 q σ)) 29 [(0, .ref m0), (1, .int (nI a))] [.int (rTo (σ 32 0 + w))] := by
    refine sw_istore_n (pc := 29) hc dX8_go_29 rfl (by decide) (lv' := [(3, .int (rTo (σ 32 0 + w))), (0, .ref m0), (1, .int (nI a))]) rfl ?_
    refine sw_aload_n (pc := 30) hc dX8_go_30 rfl 1 rfl ?_
    refine sw_iload_n (pc := 31) hc dX8_go_31 rfl 2 rfl ?_
    refine sw_iload_n (pc := 32) hc dX8_go_32 rfl 0 rfl ?_
    refine sw_bipush (pc := 33) (v := 16) hc dX8_go_33 (by decide) ?_
    refine sw_idiv (pc := 35) hc dX8_go_35 (by decide) ?_
    refine sw_st (st' := [.int (nI (cN (rTo (σ 32 0 + w)))), .int (nI a), .ref m0]) (by rw [show (rTo (σ 32 0 + w)) / 16 = nI (cN (rTo (σ 32 0 + w))) from (cN_x (rTo_x _)).1]) ?_
    refine sw_callV (pc := 36) (rest := []) hc (c_X8_wall l g C m0 q σ a (cN (rTo (σ 32 0 + w))) hN (by have := (cN_x (rTo_x (σ 32 0 + w))).2; omega)) md_X8_wall ml_RX8_147 im_X8_wall sl_X8_wall (mW_o hN) rfl rfl rfl (Nat.le_of_ble_eq_true rfl) dX8_go_36 ⟨Nat.le_of_ble_eq_true rfl, Nat.le_of_ble_eq_true rfl, Nat.le_of_ble_eq_true rfl, Nat.le_of_ble_eq_true rfl⟩ (fun v C' hP => ?_) (fun _ _ h => h.elim)
    obtain ⟨rfl, rfl⟩ := hP
    refine sw_st (st' := [.int (bI (rWall σ a (cN (rTo (σ 32 0 + w)))))]) rfl ?_
    refine sw_if_eq (pc := 39) (tgt := 43) hc dX8_go_39 (by decide) (fun c_31 => ?_) (fun c_31 => ?_)
    ·
      have p_32 : ¬ (rWall σ a (cN (rTo (σ 32 0 + w)))) := bI_0 c_31
      refine sw_aload_n (pc := 43) hc dX8_go_43 rfl 1 rfl ?_
      refine sw_get (pc := 44) (v := .int (σ 32 0)) hc fl_RX8_119 (mW_o hN) rfl dX8_go_44 ?_
      refine sw_iload_n (pc := 47) hc dX8_go_47 rfl 0 rfl ?_
      refine sw_icmp_ge (pc := 48) (tgt := 61) hc dX8_go_48 (by decide) (fun c_33 => ?_) (fun c_33 => ?_)
      ·
        have c_33' := Int32.not_lt.mpr c_33
        refine sw_iload_n (pc := 61) hc dX8_go_61 rfl 0 rfl ?_
        refine sw_bipush (pc := 62) (v := 16) hc dX8_go_62 (by decide) ?_
        refine sw_idiv (pc := 64) hc dX8_go_64 (by decide) ?_
        refine sw_st (st' := [.int (nI (cN (rTo (σ 32 0 + w))))]) (by rw [show (rTo (σ 32 0 + w)) / 16 = nI (cN (rTo (σ 32 0 + w))) from (cN_x (rTo_x _)).1]) ?_
        have h_34 : (cN (rTo (σ 32 0 + w))) = rLoN (σ 32 0) (rTo (σ 32 0 + w)) := by first | with_reducible rfl | (first | with_reducible rfl | (simp [-Int32.not_le, -Int32.not_lt, rLoN, st2_a, p_32, c_33, c_33']; done) | (((try simp only [st2_a, Nat.reduceBEq, Bool.false_and, Bool.true_and, beq_self_eq_true, cond_false, cond_true] at p_32 c_33 c_33') <;> simp [-Int32.not_le, -Int32.not_lt, rLoN, st2_a, p_32, c_33, c_33']); done) | ((try simp only [rLoN]); (repeat' split) <;> simp_all [-Int32.not_le, -Int32.not_lt, st2_a, rGap, rWall]; done))
        have h_35 : ¬ rWall σ a (cN (rTo (σ 32 0 + w))) := by assumption
        exact sw_sub (ks := [1, 2, 0]) rfl (K_65 (cN (rTo (σ 32 0 + w))) h_34 h_35)
      ·
        have c_33' := Int32.not_le.mp c_33
        refine sw_aload_n (pc := 51) hc dX8_go_51 rfl 1 rfl ?_
        refine sw_get (pc := 52) (v := .int (σ 32 0)) hc fl_RX8_119 (mW_o hN) rfl dX8_go_52 ?_
        refine sw_bipush (pc := 55) (v := 16) hc dX8_go_55 (by decide) ?_
        refine sw_idiv (pc := 57) hc dX8_go_57 (by decide) ?_
        refine sw_st (st' := [.int (nI (cN (σ 32 0)))]) (by rw [show (σ 32 0) / 16 = nI (cN (σ 32 0)) from (cN_x hw.1).1]) ?_
        refine sw_goto (pc := 58) (tgt := 65) hc dX8_go_58 (by decide) ?_
        have h_36 : (cN (σ 32 0)) = rLoN (σ 32 0) (rTo (σ 32 0 + w)) := by first | with_reducible rfl | (first | with_reducible rfl | (simp [-Int32.not_le, -Int32.not_lt, rLoN, st2_a, p_32, c_33, c_33']; done) | (((try simp only [st2_a, Nat.reduceBEq, Bool.false_and, Bool.true_and, beq_self_eq_true, cond_false, cond_true] at p_32 c_33 c_33') <;> simp [-Int32.not_le, -Int32.not_lt, rLoN, st2_a, p_32, c_33, c_33']); done) | ((try simp only [rLoN]); (repeat' split) <;> simp_all [-Int32.not_le, -Int32.not_lt, st2_a, rGap, rWall]; done))
        have h_37 : ¬ rWall σ a (cN (rTo (σ 32 0 + w))) := by assumption
        exact sw_sub (ks := [1, 2, 0]) rfl (K_65 (cN (σ 32 0)) h_36 h_37)
    ·
      have p_38 : rWall σ a (cN (rTo (σ 32 0 + w))) := bI_n c_31
      have h_39 : σ = rGo σ a w := by (unfold rGo; first | exact (if_pos (by assumption)).symm | exact (if_neg (by assumption)).symm)
      exact sw_vret (pc := 42) hc hlk hrt ⟨rfl, (congrArg (fun z => sg_ov C (mW g m0 q z)) h_39)⟩ (Nat.le_of_ble_eq_true rfl) (Nat.le_of_ble_eq_true rfl) dX8_go_42
  refine sw_aload_n (pc := 0) hc dX8_go_0 rfl 0 rfl ?_
  refine sw_get (pc := 1) (v := .int (σ 32 0)) hc fl_RX8_119 (mW_o hN) rfl dX8_go_1 ?_
  refine sw_iload_n (pc := 4) hc dX8_go_4 rfl 2 rfl ?_
  refine sw_iadd (pc := 5) hc dX8_go_5 ?_
  refine sw_istore_n (pc := 6) hc dX8_go_6 rfl (by decide) (lv' := [(3, .int ((σ 32 0) + w)), (0, .ref m0), (1, .int (nI a)), (2, .int w)]) rfl ?_
  refine sw_iload_n (pc := 7) hc dX8_go_7 rfl 0 rfl ?_
  refine sw_if_ge (pc := 8) (tgt := 15) hc dX8_go_8 (by decide) (fun c_40 => ?_) (fun c_40 => ?_)
  ·
    have c_40' := Int32.not_lt.mpr c_40
    refine sw_iload_n (pc := 15) hc dX8_go_15 rfl 0 rfl ?_
    refine sw_sipush (pc := 16) (v := 511) hc dX8_go_16 (by decide) ?_
    refine sw_icmp_le (pc := 19) (tgt := 28) hc dX8_go_19 (by decide) (fun c_41 => ?_) (fun c_41 => ?_)
    ·
      have c_41' := Int32.not_lt.mpr c_41
      refine sw_iload_n (pc := 28) hc dX8_go_28 rfl 0 rfl ?_
      have h_42 : (σ 32 0) + w = rTo (σ 32 0 + w) := by first | with_reducible rfl | (first | with_reducible rfl | (simp [-Int32.not_le, -Int32.not_lt, rTo, st2_a, c_40, c_40', c_41, c_41']; done) | (((try simp only [st2_a, Nat.reduceBEq, Bool.false_and, Bool.true_and, beq_self_eq_true, cond_false, cond_true] at c_40 c_40' c_41 c_41') <;> simp [-Int32.not_le, -Int32.not_lt, rTo, st2_a, c_40, c_40', c_41, c_41']); done) | ((try simp only [rTo]); (repeat' split) <;> simp_all [-Int32.not_le, -Int32.not_lt, st2_a, rGap, rWall]; done))
      refine sw_st (st' := [.int (rTo (σ 32 0 + w))]) (congrArg (fun z => ([.int z] : List Value)) h_42) ?_
      exact sw_sub (ks := [1, 2]) rfl (K_29 )
    ·
      have c_41' := Int32.not_le.mp c_41
      refine sw_sipush (pc := 22) (v := 511) hc dX8_go_22 (by decide) ?_
      refine sw_goto (pc := 25) (tgt := 29) hc dX8_go_25 (by decide) ?_
      have h_43 : 511 = rTo (σ 32 0 + w) := by first | with_reducible rfl | (first | with_reducible rfl | (simp [-Int32.not_le, -Int32.not_lt, rTo, st2_a, c_40, c_40', c_41, c_41']; done) | (((try simp only [st2_a, Nat.reduceBEq, Bool.false_and, Bool.true_and, beq_self_eq_true, cond_false, cond_true] at c_40 c_40' c_41 c_41') <;> simp [-Int32.not_le, -Int32.not_lt, rTo, st2_a, c_40, c_40', c_41, c_41']); done) | ((try simp only [rTo]); (repeat' split) <;> simp_all [-Int32.not_le, -Int32.not_lt, st2_a, rGap, rWall]; done))
      refine sw_st (st' := [.int (rTo (σ 32 0 + w))]) (congrArg (fun z => ([.int z] : List Value)) h_43) ?_
      exact sw_sub (ks := [1, 2]) rfl (K_29 )
  ·
    have c_40' := Int32.not_le.mp c_40
    refine sw_iconst (pc := 11) (v := 0) hc dX8_go_11 (by decide) ?_
    refine sw_goto (pc := 12) (tgt := 29) hc dX8_go_12 (by decide) ?_
    have h_44 : 0 = rTo (σ 32 0 + w) := by first | with_reducible rfl | (first | with_reducible rfl | (simp [-Int32.not_le, -Int32.not_lt, rTo, st2_a, c_40, c_40']; done) | (((try simp only [st2_a, Nat.reduceBEq, Bool.false_and, Bool.true_and, beq_self_eq_true, cond_false, cond_true] at c_40 c_40') <;> simp [-Int32.not_le, -Int32.not_lt, rTo, st2_a, c_40, c_40']); done) | ((try simp only [rTo]); (repeat' split) <;> simp_all [-Int32.not_le, -Int32.not_lt, st2_a, rGap, rWall]; done))
    refine sw_st (st' := [.int (rTo (σ 32 0 + w))]) (congrArg (fun z => ([.int z] : List Value)) h_44) ?_
    exact sw_sub (ks := [1, 2]) rfl (K_29 )

set_option maxHeartbeats 4000000 in
set_option maxRecDepth 100000 in
theorem c_X8_tick (l : Launch) (g : sg_G) (C : Nat → Option va_E) (m0 : Nat) (q : Nat → Nat) (σ : Mem) (a : Nat) (b : Int32) (f : Int32) (hN : mN m0 q) (ha : a < 3) (hw : rHW σ) : sg_Met l yX8_tick cX8_tick 6 none 3 70 0 0 g [.ref m0, .int (nI a), .int b, .int f] (sg_ov C (mW g m0 q σ)) (fun v C' => v = none ∧ C' = sg_ov C (mW g m0 q (rTick σ a b f))) sg_no := by
  refine sg_ofW (by decide) rfl ?_ (Nat.le_of_ble_eq_true rfl)
  intro p e s m below meth c hc hlk hrt hin2 htb
  have hc : sg_Cx p s m _ c cX8_tick 6 RX8 g := hc
  show sg_W p l e _ s m _ below meth c 6 g 0 0 _ (sg_ov C (mW g m0 q σ)) 0 [(0, .ref m0), (1, .int (nI a)), (2, .int b), (3, .int f)] []
  have K_51 : ∀ (τ : Mem) (eτ : τ = rJump (rWayS σ b (rNew b f)) (rNew b f)), sg_W p l e (sg_rm 3 70 0 0) s m ([.ref m0, .int (nI a), .int b, .int f] : List Value).toArray below meth c 6 g 0 0 (sg_End below g (fun v C' => v = none ∧ C' = sg_ov C (mW g m0 q (rTick σ a b f))) sg_no ([.ref m0, .int (nI a), .int b, .int f] : List Value).toArray s 0 0) (sg_ov C (mW g m0 q τ)) 51 [(0, .ref m0), (1, .int (nI a)), (5, .int (rWay σ b (rNew b f)))] [] := by
    intro τ eτ
    refine sw_aload_n (pc := 51) hc dX8_tick_51 rfl 0 rfl ?_
    refine sw_iload_n (pc := 52) hc dX8_tick_52 rfl 1 rfl ?_
    refine sw_iload (pc := 53) hc dX8_tick_53 2 rfl ?_
    refine sw_callV (pc := 55) (rest := []) hc (c_X8_go l g C m0 q τ a (rWay σ b (rNew b f)) hN (by omega) ((by subst eτ; exact rHW_jump (rHW_way hw)))) md_X8_go ml_RX8_153 im_X8_go sl_X8_go (mW_o hN) rfl rfl rfl (Nat.le_of_ble_eq_true rfl) dX8_tick_55 ⟨Nat.le_of_ble_eq_true rfl, Nat.le_of_ble_eq_true rfl, Nat.le_of_ble_eq_true rfl, Nat.le_of_ble_eq_true rfl⟩ (fun v C' hP => ?_) (fun _ _ h => h.elim)
    obtain ⟨rfl, rfl⟩ := hP
    refine sw_st (st' := []) rfl ?_
    refine sw_aload_n (pc := 58) hc dX8_tick_58 rfl 0 rfl ?_
    refine sw_iload_n (pc := 59) hc dX8_tick_59 rfl 1 rfl ?_
    refine sw_callV (pc := 60) (rest := []) hc (c_X8_fall l g C m0 q (rGo τ a (rWay σ b (rNew b f))) a hN (by omega) ((by subst eτ; exact rHW_go (rHW_jump (rHW_way hw))))) md_X8_fall ml_RX8_157 im_X8_fall sl_X8_fall (mW_o hN) rfl rfl rfl (Nat.le_of_ble_eq_true rfl) dX8_tick_60 ⟨Nat.le_of_ble_eq_true rfl, Nat.le_of_ble_eq_true rfl, Nat.le_of_ble_eq_true rfl, Nat.le_of_ble_eq_true rfl⟩ (fun v C' hP => ?_) (fun _ _ h => h.elim)
    obtain ⟨rfl, rfl⟩ := hP
    refine sw_st (st' := []) rfl ?_
    refine sw_aload_n (pc := 63) hc dX8_tick_63 rfl 0 rfl ?_
    refine sw_iload_n (pc := 64) hc dX8_tick_64 rfl 1 rfl ?_
    refine sw_callV (pc := 65) (rest := []) hc (c_X8_meet l g C m0 q (rFall (rGo τ a (rWay σ b (rNew b f))) a) a hN (by omega) ((by subst eτ; exact rHW_fall (rHW_go (rHW_jump (rHW_way hw)))))) md_X8_meet ml_RX8_161 im_X8_meet sl_X8_meet (mW_o hN) rfl rfl rfl (Nat.le_of_ble_eq_true rfl) dX8_tick_65 ⟨Nat.le_of_ble_eq_true rfl, Nat.le_of_ble_eq_true rfl, Nat.le_of_ble_eq_true rfl, Nat.le_of_ble_eq_true rfl⟩ (fun v C' hP => ?_) (fun _ _ h => h.elim)
    obtain ⟨rfl, rfl⟩ := hP
    refine sw_st (st' := []) rfl ?_
    refine sw_aload_n (pc := 68) hc dX8_tick_68 rfl 0 rfl ?_
    refine sw_dup (pc := 69) hc dX8_tick_69 rfl ?_
    refine sw_get (pc := 70) (v := .int ((rMeet (rFall (rGo τ a (rWay σ b (rNew b f))) a) a) 40 0)) hc fl_RX8_141 (mW_o hN) rfl dX8_tick_70 ?_
    refine sw_iconst (pc := 73) (v := 1) hc dX8_tick_73 (by decide) ?_
    refine sw_iadd (pc := 74) hc dX8_tick_74 ?_
    refine sw_top (fun x_1 ex_1 => ?_)
    refine sw_put (pc := 75) (k := 40) hc fl_RX8_141 ty_9 fp_9_40 (mW_o hN) rfl rfl (Nat.le_of_ble_eq_true rfl) rfl dX8_tick_75 ?_
    refine sw_eq (mW_p40 hN) ?_
    have h_2 : st2 (rMeet (rFall (rGo τ a (rWay σ b (rNew b f))) a) a) 40 0 x_1 = rTick σ a b f := by (subst eτ ex_1; rfl)
    exact sw_vret (pc := 78) hc hlk hrt ⟨rfl, (congrArg (fun z => sg_ov C (mW g m0 q z)) h_2)⟩ (Nat.le_of_ble_eq_true rfl) (Nat.le_of_ble_eq_true rfl) dX8_tick_78
  refine sw_iload_n (pc := 0) hc dX8_tick_0 rfl 2 rfl ?_
  refine sw_iload_n (pc := 1) hc dX8_tick_1 rfl 3 rfl ?_
  refine sw_iconst (pc := 2) (v := (-1)) hc dX8_tick_2 (by decide) ?_
  refine sw_ixor (pc := 3) hc dX8_tick_3 ?_
  refine sw_iand (pc := 4) hc dX8_tick_4 ?_
  refine sw_st (st' := [.int (rNew b f)]) rfl ?_
  refine sw_istore (pc := 5) hc dX8_tick_5 (by decide) (lv' := [(4, .int (rNew b f)), (0, .ref m0), (1, .int (nI a)), (2, .int b), (3, .int f)]) rfl ?_
  refine sw_aload_n (pc := 7) hc dX8_tick_7 rfl 1 rfl ?_
  refine sw_iload_n (pc := 8) hc dX8_tick_8 rfl 3 rfl ?_
  refine sw_iload (pc := 9) hc dX8_tick_9 0 rfl ?_
  refine sw_callV (pc := 11) (rest := []) hc (c_X8_way l g C m0 q σ b (rNew b f) hN ) md_X8_way ml_RX8_150 im_X8_way sl_X8_way (mW_o hN) rfl rfl rfl (Nat.le_of_ble_eq_true rfl) dX8_tick_11 ⟨Nat.le_of_ble_eq_true rfl, Nat.le_of_ble_eq_true rfl, Nat.le_of_ble_eq_true rfl, Nat.le_of_ble_eq_true rfl⟩ (fun v C' hP => ?_) (fun _ _ h => h.elim)
  obtain ⟨rfl, rfl⟩ := hP
  refine sw_st (st' := [.int (rWay σ b (rNew b f))]) rfl ?_
  refine sw_istore (pc := 14) hc dX8_tick_14 (by decide) (lv' := [(5, .int (rWay σ b (rNew b f))), (4, .int (rNew b f)), (0, .ref m0), (1, .int (nI a)), (2, .int b), (3, .int f)]) rfl ?_
  refine sw_iload (pc := 16) hc dX8_tick_16 1 rfl ?_
  refine sw_iconst (pc := 18) (v := 4) hc dX8_tick_18 (by decide) ?_
  refine sw_iand (pc := 19) hc dX8_tick_19 ?_
  refine sw_if_le (pc := 20) (tgt := 51) hc dX8_tick_20 (by decide) (fun c_3 => ?_) (fun c_3 => ?_)
  ·
    have c_3' := Int32.not_lt.mpr c_3
    have h_4 : rWayS σ b (rNew b f) = rJump (rWayS σ b (rNew b f)) (rNew b f) := by first | with_reducible rfl | (first | with_reducible rfl | (simp [-Int32.not_le, -Int32.not_lt, rJump, st2_a, c_3, c_3']; done) | (((try simp only [st2_a, Nat.reduceBEq, Bool.false_and, Bool.true_and, beq_self_eq_true, cond_false, cond_true] at c_3 c_3') <;> simp [-Int32.not_le, -Int32.not_lt, rJump, st2_a, c_3, c_3']); done) | ((try simp only [rJump]); (repeat' split) <;> simp_all [-Int32.not_le, -Int32.not_lt, st2_a, rGap, rWall]; done))
    exact sw_sub (ks := [2, 3, 0]) rfl (K_51 (rWayS σ b (rNew b f)) h_4)
  ·
    have c_3' := Int32.not_le.mp c_3
    refine sw_aload_n (pc := 23) hc dX8_tick_23 rfl 2 rfl ?_
    refine sw_get (pc := 24) (v := .int ((rWayS σ b (rNew b f)) 35 0)) hc fl_RX8_125 (mW_o hN) rfl dX8_tick_24 ?_
    refine sw_if_eq (pc := 27) (tgt := 51) hc dX8_tick_27 (by decide) (fun c_5 => ?_) (fun c_5 => ?_)
    ·
      have h_6 : rWayS σ b (rNew b f) = rJump (rWayS σ b (rNew b f)) (rNew b f) := by first | with_reducible rfl | (first | with_reducible rfl | (simp [-Int32.not_le, -Int32.not_lt, rJump, st2_a, c_3, c_3', c_5]; done) | (((try simp only [st2_a, Nat.reduceBEq, Bool.false_and, Bool.true_and, beq_self_eq_true, cond_false, cond_true] at c_3 c_3' c_5) <;> simp [-Int32.not_le, -Int32.not_lt, rJump, st2_a, c_3, c_3', c_5]); done) | ((try simp only [rJump]); (repeat' split) <;> simp_all [-Int32.not_le, -Int32.not_lt, st2_a, rGap, rWall]; done))
      exact sw_sub (ks := [2, 3, 0]) rfl (K_51 (rWayS σ b (rNew b f)) h_6)
    ·
      refine sw_aload_n (pc := 30) hc dX8_tick_30 rfl 2 rfl ?_
      refine sw_bipush (pc := 31) (v := 14) hc dX8_tick_31 (by decide) ?_
      refine sw_put (pc := 33) (k := 34) hc fl_RX8_122 ty_9 fp_9_34 (mW_o hN) rfl rfl (Nat.le_of_ble_eq_true rfl) rfl dX8_tick_33 ?_
      refine sw_eq (mW_p34 hN) ?_
      refine sw_aload_n (pc := 36) hc dX8_tick_36 rfl 2 rfl ?_
      refine sw_iconst (pc := 37) (v := 0) hc dX8_tick_37 (by decide) ?_
      refine sw_put (pc := 38) (k := 35) hc fl_RX8_125 ty_9 fp_9_35 (mW_o hN) rfl rfl (Nat.le_of_ble_eq_true rfl) rfl dX8_tick_38 ?_
      refine sw_eq (mW_p35 hN) ?_
      refine sw_aload_n (pc := 41) hc dX8_tick_41 rfl 2 rfl ?_
      refine sw_dup (pc := 42) hc dX8_tick_42 rfl ?_
      refine sw_get (pc := 43) (v := .int ((rWayS σ b (rNew b f)) 38 0)) hc fl_RX8_135 (mW_o hN) rfl dX8_tick_43 ?_
      refine sw_iconst (pc := 46) (v := 1) hc dX8_tick_46 (by decide) ?_
      refine sw_iadd (pc := 47) hc dX8_tick_47 ?_
      refine sw_put (pc := 48) (k := 38) hc fl_RX8_135 ty_9 fp_9_38 (mW_o hN) rfl rfl (Nat.le_of_ble_eq_true rfl) rfl dX8_tick_48 ?_
      refine sw_eq (mW_p38 hN) ?_
      have h_7 : st2 (st2 (st2 (rWayS σ b (rNew b f)) 34 0 14) 35 0 0) 38 0 (((rWayS σ b (rNew b f)) 38 0) + 1) = rJump (rWayS σ b (rNew b f)) (rNew b f) := by first | with_reducible rfl | (first | with_reducible rfl | (simp [-Int32.not_le, -Int32.not_lt, rJump, st2_a, c_3, c_3', c_5]; done) | (((try simp only [st2_a, Nat.reduceBEq, Bool.false_and, Bool.true_and, beq_self_eq_true, cond_false, cond_true] at c_3 c_3' c_5) <;> simp [-Int32.not_le, -Int32.not_lt, rJump, st2_a, c_3, c_3', c_5]); done) | ((try simp only [rJump]); (repeat' split) <;> simp_all [-Int32.not_le, -Int32.not_lt, st2_a, rGap, rWall]; done))
      exact sw_sub (ks := [2, 3, 0]) rfl (K_51 (st2 (st2 (st2 (rWayS σ b (rNew b f)) 34 0 14) 35 0 0) 38 0 (((rWayS σ b (rNew b f)) 38 0) + 1)) h_7)

