
theorem Pic.inj {g : sg_G} {ad : Ad} {own : Nat → Option (Nat × Nat)} {gh : Gh} {σ : Mem} {C : Nat → Option va_E} (hP : Pic g ad own gh σ C) {i a b : Nat} {x x' : va_E} (h : cont g ad gh σ i a = some x) (h' : cont g ad gh σ i b = some x') (e : ad i a = ad i b) : a = b := by
  have := (hP i a x h).2.symm.trans ((congrArg own e).trans (hP i b x' h').2)
  exact congrArg Prod.snd (Option.some.inj this)
theorem WX.run {σ : Mem} (hW : WX σ) {k : Nat} (hk : k < iN (σ 26 0)) : σ 6 (iN (σ 17 k)) = 1 ∧ σ 22 k = heroR σ (iN (σ 17 k)) 10 ∧ σ 23 k = heroR σ (iN (σ 17 k)) 7 ∧ σ 24 k = heroR σ (iN (σ 17 k)) 8 ∧ σ 25 k = heroR σ (iN (σ 17 k)) 9 ∧ heroR σ (iN (σ 17 k)) 11 = 1 := hW.2.2.2.2.2.2 k hk
theorem cRf_run {σ : Mem} {k : Nat} (hW : WX σ) (hk : k < iN (σ 26 0)) : (cRf σ (iN (σ 19 k)) (σ 20 k) (heroR σ (iN (σ 17 k))) (iN (σ 11 (iN (σ 19 k))))).2 = bI (rRef σ k) := cRf_ref hW hk (hW.run hk).2.2.1 (hW.run hk).2.2.2.1 (hW.run hk).2.2.2.2.1

theorem ad11 {g : sg_G} {ad : Ad} {own : Nat → Option (Nat × Nat)} {gh : Gh} {σ : Mem} {C : Nat → Option va_E} (hQ : Pic g ad own gh σ C) (hW : WX σ) {i k : Nat} (hi : i < iN (σ 26 0)) (hk : k < iN (σ 16 0)) : ad 11 (iN (σ 19 i)) = ad 11 k ↔ σ 19 i = nI k := by
  have hw := hW.1.2.2.2.2.2.2.2.2.2.2.2.1 i hi
  have hb : iN (σ 16 0) < 7 := hW.1.2.2.1.2
  constructor
  · intro q
    rw [← hQ.inj (ct11 (k := iN (σ 19 i)) (hW.wc hi)) (ct11 hk) q]
    exact hw.1
  · intro q
    rw [q, show iN (nI k) = k from nI_clamp (by omega)]
theorem rRfC_s (σ : Mem) (x : Int32) (k : Nat) : rRfC σ x (k + 1) = rRfC σ x k + if σ 19 k = x ∧ rRef σ k then 1 else 0 := rfl

theorem fl_RX7_226 : sg_FL RX7 226 7 3 := ⟨RX6, TX6, 7, "SplitGate$Run", rfl, by decide, ti_7, .inl rfl, .inr ⟨"SplitGate", sg_memN (i := 606) (by decide +kernel) rfl⟩⟩
theorem fl_RX7_230 : sg_FL RX7 230 7 4 := ⟨RX6, TX6, 7, "SplitGate$Run", rfl, by decide, ti_7, .inl rfl, .inr ⟨"SplitGate", sg_memN (i := 608) (by decide +kernel) rfl⟩⟩
theorem fl_RX7_231 : sg_FL RX7 231 7 2 := ⟨RX6, TX6, 7, "SplitGate$Run", rfl, by decide, ti_7, .inl rfl, .inr ⟨"SplitGate", sg_memN (i := 604) (by decide +kernel) rfl⟩⟩
theorem fl_RX7_119 : sg_FL RX7 119 5 3 := ⟨RX4, TX4, 7, "SplitGate$Replay", rfl, by decide, ti_5, .inl rfl, .inr ⟨"SplitGate", sg_memN (i := 380) (by decide +kernel) rfl⟩⟩
theorem md_X0_refuses : sg_MD yX0_refuses cX0_refuses 7 (some .boolean) 2 := ⟨sg_mem (i := 447) (by decide +kernel) rfl, sg_mem (i := 45) (by decide +kernel) rfl, ⟨by decide, by decide⟩, by decide +kernel⟩
theorem ml_RX7_235 : sg_ML RX7 235 yX0_refuses := .inl (sg_mem (i := 444) (by decide +kernel) rfl)
theorem im_X0_refuses : Cond.instanceMethod yX0_refuses ∈ sg_T := sg_mem (i := 445) (by decide +kernel) rfl
theorem sl_X0_refuses : Cond.selects yX0_refuses.cls yX0_refuses yX0_refuses ∈ sg_T := sg_mem (i := 446) (by decide +kernel) rfl
theorem fl_RX7_217 : sg_FL RX7 217 7 6 := ⟨RX6, TX6, 7, "SplitGate$Run", rfl, by decide, ti_7, .inl rfl, .inr ⟨"SplitGate", sg_memN (i := 611) (by decide +kernel) rfl⟩⟩
theorem md_X7_isRefused : sg_MD yX7_isRefused cX7_isRefused 1 (some .boolean) 1 := ⟨sg_mem (i := 443) (by decide +kernel) rfl, sg_mem (i := 26) (by decide +kernel) rfl, ⟨by decide, by decide⟩, by decide +kernel⟩
theorem ml_RX7_213 : sg_ML RX7 213 yX7_isRefused := .inl (sg_mem (i := 441) (by decide +kernel) rfl)
theorem st_X7_isRefused : Cond.static yX7_isRefused ∈ sg_T := sg_mem (i := 442) (by decide +kernel) rfl
set_option maxHeartbeats 4000000 in
set_option maxRecDepth 100000 in
theorem c_X7_isRefused (l : Launch) (g : sg_G) (C : Nat → Option va_E) (ad : Ad) (own : Nat → Option (Nat × Nat)) (gh : Gh) (σ : Mem) (k : Nat) (hQ : Pic g ad own gh σ C) (hW : WX σ) (hk : k < iN (σ 26 0)) : sg_Met l yX7_isRefused cX7_isRefused 1 (some .boolean) 4 90 0 0 g [.ref (ad 15 k)] C (fun v C' => v = some (.int (bI (rRef σ k))) ∧ C' = C) (sg_no) := by
  refine sg_ofW (by decide) rfl ?_ (Nat.le_of_ble_eq_true rfl)
  intro p e s m below meth c hc hlk hrt hin2 htb
  have hc : sg_Cx p s m _ c cX7_isRefused 1 RX7 g := hc
  show sg_W p l e _ s m _ below meth c 1 g 0 0 _ C 0 [(0, .ref (ad 15 k))] []
  refine sw_aload_n (pc := 0) hc dX7_isRefused_0 rfl 0 rfl ?_
  refine sw_get (pc := 1) (v := .ref (ad 11 (iN (σ 19 k)))) hc fl_RX7_226 (hQ.at (ct15 (k := k) hk)) rfl dX7_isRefused_1 ?_
  refine sw_aload_n (pc := 4) hc dX7_isRefused_4 rfl 0 rfl ?_
  refine sw_get (pc := 5) (v := .int (σ 20 k)) hc fl_RX7_230 (hQ.at (ct15 (k := k) hk)) rfl dX7_isRefused_5 ?_
  refine sw_aload_n (pc := 8) hc dX7_isRefused_8 rfl 0 rfl ?_
  refine sw_get (pc := 9) (v := .ref (ad 7 (iN (σ 17 k)))) hc fl_RX7_231 (hQ.at (ct15 (k := k) hk)) rfl dX7_isRefused_9 ?_
  refine sw_get (pc := 12) (v := .ref (ad 10 (iN (σ 17 k)))) hc fl_RX7_119 (hQ.at (ct7 (k := (iN (σ 17 k))) (hW.wt hk))) rfl dX7_isRefused_12 ?_
  refine sw_callV (pc := 15) (rest := []) hc (c_X0_refuses l g C ad own gh σ (iN (σ 19 k)) (σ 20 k) (ad 10 (iN (σ 17 k))) (heroR σ (iN (σ 17 k))) hQ hW (hW.wc hk) (hQ.at (ct10 (k := (iN (σ 17 k))) (hW.wt hk)))) md_X0_refuses ml_RX7_235 im_X0_refuses sl_X0_refuses (hQ.at (ct11 (k := (iN (σ 19 k))) (hW.wc hk))) rfl rfl rfl (Nat.le_of_ble_eq_true rfl) dX7_isRefused_15 ⟨Nat.le_of_ble_eq_true rfl, Nat.le_of_ble_eq_true rfl, Nat.le_of_ble_eq_true rfl, Nat.le_of_ble_eq_true rfl⟩ (fun v C' hP => ?_) (fun _ _ h => h.elim)
  obtain ⟨rfl, hCC⟩ := hP
  refine sw_eq (C' := C) hCC ?_
  refine sw_st (st' := [.int ((cRf σ (iN (σ 19 k)) (σ 20 k) (heroR σ (iN (σ 17 k))) (iN (σ 11 (iN (σ 19 k))))).2)]) rfl ?_
  refine sw_st (st' := [.int (bI (rRef σ k))]) (congrArg (fun z => ([.int z] : List Value)) (cRf_run hW hk : (cRf σ (iN (σ 19 k)) (σ 20 k) (heroR σ (iN (σ 17 k))) (iN (σ 11 (iN (σ 19 k))))).2 = bI (rRef σ k))) ?_
  exact sw_iret (pc := 18) hc hlk hrt (nar_01 bI_01) ⟨rfl, rfl⟩ (Nat.le_of_ble_eq_true rfl) (Nat.le_of_ble_eq_true rfl) dX7_isRefused_18

set_option maxHeartbeats 4000000 in
set_option maxRecDepth 100000 in
theorem c_X7_counts (l : Launch) (g : sg_G) (C : Nat → Option va_E) (ad : Ad) (own : Nat → Option (Nat × Nat)) (gh : Gh) (σ : Mem) (k : Nat) (hQ : Pic g ad own gh σ C) (hW : WX σ) (hk : k < iN (σ 26 0)) : sg_Met l yX7_counts cX7_counts 1 (some .boolean) 5 110 0 0 g [.ref (ad 15 k)] C (fun v C' => v = some (.int (bI (rCnt σ k))) ∧ C' = C) (sg_no) := by
  refine sg_ofW (by decide) rfl ?_ (Nat.le_of_ble_eq_true rfl)
  intro p e s m below meth c hc hlk hrt hin2 htb
  have hc : sg_Cx p s m _ c cX7_counts 1 RX7 g := hc
  show sg_W p l e _ s m _ below meth c 1 g 0 0 _ C 0 [(0, .ref (ad 15 k))] []
  refine sw_aload_n (pc := 0) hc dX7_counts_0 rfl 0 rfl ?_
  refine sw_get (pc := 1) (v := .int (σ 21 k)) hc fl_RX7_217 (hQ.at (ct15 (k := k) hk)) rfl dX7_counts_1 ?_
  refine sw_if_ne (pc := 4) (tgt := 18) hc dX7_counts_4 (by decide) (fun c_1 => ?_) (fun c_1 => ?_)
  ·
    refine sw_iconst (pc := 18) (v := 0) hc dX7_counts_18 (by decide) ?_
    exact sw_iret (pc := 19) hc hlk hrt rfl ⟨congrArg (fun z => some (Value.int z)) (bI_f (P := rCnt σ k) (fun q => c_1 q.1)).symm, rfl⟩ (Nat.le_of_ble_eq_true rfl) (Nat.le_of_ble_eq_true rfl) dX7_counts_19
  ·
    refine sw_aload_n (pc := 7) hc dX7_counts_7 rfl 0 rfl ?_
    refine sw_callS (pc := 8) (rest := []) hc (c_X7_isRefused l g C ad own gh σ k hQ hW hk) md_X7_isRefused ml_RX7_213 st_X7_isRefused rfl rfl (Nat.le_of_ble_eq_true rfl) dX7_counts_8 ⟨Nat.le_of_ble_eq_true rfl, Nat.le_of_ble_eq_true rfl, Nat.le_of_ble_eq_true rfl, Nat.le_of_ble_eq_true rfl⟩ (fun v C' hP => ?_) (fun _ _ h => h.elim)
    obtain ⟨rfl, hCC⟩ := hP
    refine sw_eq (C' := C) hCC ?_
    refine sw_st (st' := [.int (bI (rRef σ k))]) rfl ?_
    refine sw_if_ne (pc := 11) (tgt := 18) hc dX7_counts_11 (by decide) (fun c_2 => ?_) (fun c_2 => ?_)
    ·
      have p_3 : rRef σ k := bI_n c_2
      refine sw_iconst (pc := 18) (v := 0) hc dX7_counts_18 (by decide) ?_
      exact sw_iret (pc := 19) hc hlk hrt rfl ⟨congrArg (fun z => some (Value.int z)) (bI_f (P := rCnt σ k) (fun q => q.2 p_3)).symm, rfl⟩ (Nat.le_of_ble_eq_true rfl) (Nat.le_of_ble_eq_true rfl) dX7_counts_19
    ·
      have p_4 : ¬ (rRef σ k) := bI_0 c_2
      refine sw_iconst (pc := 14) (v := 1) hc dX7_counts_14 (by decide) ?_
      refine sw_goto (pc := 15) (tgt := 19) hc dX7_counts_15 (by decide) ?_
      exact sw_iret (pc := 19) hc hlk hrt rfl ⟨congrArg (fun z => some (Value.int z)) (bI_t (P := rCnt σ k) ⟨c_1, p_4⟩).symm, rfl⟩ (Nat.le_of_ble_eq_true rfl) (Nat.le_of_ble_eq_true rfl) dX7_counts_19

set_option maxHeartbeats 4000000 in
set_option maxRecDepth 100000 in
theorem c_X7_countRefused (l : Launch) (g : sg_G) (C : Nat → Option va_E) (ad : Ad) (own : Nat → Option (Nat × Nat)) (gh : Gh) (σ : Mem) (k : Nat) (hQ : Pic g ad own gh σ C) (hW : WX σ) (hk : k < iN (σ 16 0)) : sg_Met l yX7_countRefused cX7_countRefused 5 (some .int) 5 110 0 0 g [.ref (ad 0 0), .ref (ad 11 k)] C (fun v C' => v = some (.int (rRfC σ (nI k) (iN (σ 26 0)))) ∧ C' = C) (sg_no) := by
  refine sg_ofW (by decide) rfl ?_ (Nat.le_of_ble_eq_true rfl)
  intro p e s m below meth c hc hlk hrt hin2 htb
  have hc : sg_Cx p s m _ c cX7_countRefused 5 RX7 g := hc
  show sg_W p l e _ s m _ below meth c 5 g 0 0 _ C 0 [(0, .ref (ad 0 0)), (1, .ref (ad 11 k))] []
  have K_4 : ∀ (n4 : Nat) (i : Nat) (x : Int32) (hn4 : iN (σ 26 0) - i < n4) (ex : x = rRfC σ (nI k) i) (hJ : i ≤ iN (σ 26 0)), sg_W p l e (sg_rm 5 110 0 0) s m ([.ref (ad 0 0), .ref (ad 11 k)] : List Value).toArray below meth c 5 g 0 0 (sg_End below g (fun v C' => v = some (.int (rRfC σ (nI k) (iN (σ 26 0)))) ∧ C' = C) (sg_no) ([.ref (ad 0 0), .ref (ad 11 k)] : List Value).toArray s 0 0) (C) 4 [(0, .ref (ad 0 0)), (1, .ref (ad 11 k)), (2, .int x), (3, .int (nI i))] [] := by
    intro n4
    induction n4 with
    | zero => intro i x hn4 ex hJ; exact absurd hn4 (Nat.not_lt_zero _)
    | succ n4 ih4 =>
      intro i x hn4 ex hJ
      refine sw_iload_n (pc := 4) hc dX7_countRefused_4 rfl 3 rfl ?_
      refine sw_aload_n (pc := 5) hc dX7_countRefused_5 rfl 0 rfl ?_
      refine sw_get (pc := 6) (v := .ref (ad 1 3)) hc fl_RX7_22 (hQ.at ct0) rfl dX7_countRefused_6 ?_
      refine sw_callV (pc := 9) (rest := [.int (nI i)]) hc (c_Jx4a65c_size_8abf5 l g C (ad 1 3) (nI (iN (σ 26 0))) (if iN (σ 26 0) = 0 then g.2.2.2 0 else ad 2 3) (nI (iN (σ 26 0))) (hQ.at (ct1 (k := 3) (by decide)))) md_Jx4a65c_size_8abf5 ml_RX7_46 im_Jx4a65c_size_8abf5 sl_Jx4a65c_size_8abf5 (hQ.at (ct1 (k := 3) (by decide))) rfl rfl rfl (Nat.le_of_ble_eq_true rfl) dX7_countRefused_9 ⟨Nat.le_of_ble_eq_true rfl, Nat.le_of_ble_eq_true rfl, Nat.le_of_ble_eq_true rfl, Nat.le_of_ble_eq_true rfl⟩ (fun v C' hP => ?_) (fun _ _ h => h.elim)
      obtain ⟨rfl, hCC⟩ := hP
      refine sw_eq (C' := C) hCC ?_
      refine sw_st (st' := [.int (nI (iN (σ 26 0))), .int (nI i)]) rfl ?_
      refine sw_icmp_ge (pc := 12) (tgt := 54) hc dX7_countRefused_12 (by decide) (fun c_1 => ?_) (fun c_1 => ?_)
      ·
        have c_1' := Int32.not_lt.mpr c_1
        refine sw_iload_n (pc := 54) hc dX7_countRefused_54 rfl 2 rfl ?_
        exact sw_iret (pc := 55) hc hlk hrt rfl ⟨by rw [ex, show i = iN (σ 26 0) from Nat.le_antisymm hJ ((nI_leI (by have := hW.b3; have h9 : lsN σ 3 = iN (σ 26 0) := rfl; omega) (by have := hW.b3; have h9 : lsN σ 3 = iN (σ 26 0) := rfl; omega)).mp c_1)], rfl⟩ (Nat.le_of_ble_eq_true rfl) (Nat.le_of_ble_eq_true rfl) dX7_countRefused_55
      ·
        have c_1' := Int32.not_le.mp c_1
        have hlt : i < iN (σ 26 0) := (nI_ltI (a := i) (b := iN (σ 26 0)) (by have := hW.b3; have h9 : lsN σ 3 = iN (σ 26 0) := rfl; omega) (by have := hW.b3; have h9 : lsN σ 3 = iN (σ 26 0) := rfl; omega)).mp (Int32.not_le.mp c_1)
        refine sw_aload_n (pc := 15) hc dX7_countRefused_15 rfl 0 rfl ?_
        refine sw_get (pc := 16) (v := .ref (ad 1 3)) hc fl_RX7_22 (hQ.at ct0) rfl dX7_countRefused_16 ?_
        refine sw_iload_n (pc := 19) hc dX7_countRefused_19 rfl 3 rfl ?_
        refine sw_callV (pc := 20) (rest := []) hc (c_get1 (k := 3) l hQ (by decide) (i := i) hlt hW.b3) md_Jx4a65c_get_915e3 ml_RX7_156 im_Jx4a65c_get_915e3 sl_Jx4a65c_get_915e3 (hQ.at (ct1 (k := 3) (by decide))) rfl rfl rfl (Nat.le_of_ble_eq_true rfl) dX7_countRefused_20 ⟨Nat.le_of_ble_eq_true rfl, Nat.le_of_ble_eq_true rfl, Nat.le_of_ble_eq_true rfl, Nat.le_of_ble_eq_true rfl⟩ (fun v C' hP => ?_) (fun _ _ h => h.elim)
        obtain ⟨rfl, hCC⟩ := hP
        refine sw_eq (C' := C) hCC ?_
        refine sw_st (st' := [.ref (ad 15 i)]) rfl ?_
        refine sw_cast (pc := 23) hc kl_RX7_204 (hQ.at (ct15 (k := i) hlt)) rfl dX7_countRefused_23 ?_
        refine sw_astore (pc := 26) hc dX7_countRefused_26 (by decide) (lv' := [(4, .ref (ad 15 i)), (0, .ref (ad 0 0)), (1, .ref (ad 11 k)), (2, .int x), (3, .int (nI i))]) rfl ?_
        refine sw_aload (pc := 28) hc dX7_countRefused_28 0 rfl ?_
        refine sw_get (pc := 30) (v := .ref (ad 11 (iN (σ 19 i)))) hc fl_RX7_226 (hQ.at (ct15 (k := i) hlt)) rfl dX7_countRefused_30 ?_
        refine sw_aload_n (pc := 33) hc dX7_countRefused_33 rfl 2 rfl ?_
        refine sw_acmp_ne (pc := 34) (rx := (some (ad 11 (iN (σ 19 i))))) (ry := (some (ad 11 k))) (tgt := 48) hc dX7_countRefused_34 (by decide) (fun c_2 => ?_) (fun c_2 => ?_)
        ·
          have hst : rRfC σ (nI k) (i + 1) = rRfC σ (nI k) i := by rw [rRfC_s, if_neg (fun q => c_2 (congrArg some ((ad11 hQ hW hlt hk).mpr q.1))), Int32.add_zero]
          refine sw_iinc (pc := 48) (v := nI (i + 1)) (lv' := [(3, .int (nI (i + 1))), (4, .ref (ad 15 i)), (0, .ref (ad 0 0)), (1, .ref (ad 11 k)), (2, .int x)]) hc dX7_countRefused_48 (k := 4) rfl (nI_1 _) (by decide) rfl ?_
          refine sw_goto (pc := 51) (tgt := 4) hc dX7_countRefused_51 (by decide) ?_
          have h_3 : x = rRfC σ (nI k) (i + 1) := by first | rfl | (rw [hst]; first | done | (rw [ex]) | exact ex)
          have h_4 : (i + 1) ≤ iN (σ 26 0) := by omega
          have h_5 : iN (σ 26 0) - (i + 1) < n4 := by omega
          exact sw_sub (ks := [2, 3, 4, 0]) rfl (ih4 (i + 1) x h_5 h_3 h_4)
        ·
          refine sw_aload (pc := 37) hc dX7_countRefused_37 0 rfl ?_
          refine sw_callS (pc := 39) (rest := []) hc (c_X7_isRefused l g C ad own gh σ i hQ hW hlt) md_X7_isRefused ml_RX7_213 st_X7_isRefused rfl rfl (Nat.le_of_ble_eq_true rfl) dX7_countRefused_39 ⟨Nat.le_of_ble_eq_true rfl, Nat.le_of_ble_eq_true rfl, Nat.le_of_ble_eq_true rfl, Nat.le_of_ble_eq_true rfl⟩ (fun v C' hP => ?_) (fun _ _ h => h.elim)
          obtain ⟨rfl, hCC⟩ := hP
          refine sw_eq (C' := C) hCC ?_
          refine sw_st (st' := [.int (bI (rRef σ i))]) rfl ?_
          refine sw_if_eq (pc := 42) (tgt := 48) hc dX7_countRefused_42 (by decide) (fun c_6 => ?_) (fun c_6 => ?_)
          ·
            have p_7 : ¬ (rRef σ i) := bI_0 c_6
            have hst : rRfC σ (nI k) (i + 1) = rRfC σ (nI k) i := by rw [rRfC_s, if_neg (fun q => p_7 q.2), Int32.add_zero]
            refine sw_iinc (pc := 48) (v := nI (i + 1)) (lv' := [(3, .int (nI (i + 1))), (4, .ref (ad 15 i)), (0, .ref (ad 0 0)), (1, .ref (ad 11 k)), (2, .int x)]) hc dX7_countRefused_48 (k := 4) rfl (nI_1 _) (by decide) rfl ?_
            refine sw_goto (pc := 51) (tgt := 4) hc dX7_countRefused_51 (by decide) ?_
            have h_8 : x = rRfC σ (nI k) (i + 1) := by first | rfl | (rw [hst]; first | done | (rw [ex]) | exact ex)
            have h_9 : (i + 1) ≤ iN (σ 26 0) := by omega
            have h_10 : iN (σ 26 0) - (i + 1) < n4 := by omega
            exact sw_sub (ks := [2, 3, 4, 0]) rfl (ih4 (i + 1) x h_10 h_8 h_9)
          ·
            have p_11 : rRef σ i := bI_n c_6
            refine sw_iinc (pc := 45) (v := x + 1) (lv' := [(2, .int (x + 1)), (4, .ref (ad 15 i)), (0, .ref (ad 0 0)), (1, .ref (ad 11 k)), (3, .int (nI i))]) hc dX7_countRefused_45 (k := 3) rfl (by rfl) (by decide) rfl ?_
            have hst : rRfC σ (nI k) (i + 1) = rRfC σ (nI k) i + 1 := by rw [rRfC_s, if_pos ⟨(ad11 hQ hW hlt hk).mp (Option.some.inj c_2), p_11⟩]
            refine sw_iinc (pc := 48) (v := nI (i + 1)) (lv' := [(3, .int (nI (i + 1))), (2, .int (x + 1)), (4, .ref (ad 15 i)), (0, .ref (ad 0 0)), (1, .ref (ad 11 k))]) hc dX7_countRefused_48 (k := 4) rfl (nI_1 _) (by decide) rfl ?_
            refine sw_goto (pc := 51) (tgt := 4) hc dX7_countRefused_51 (by decide) ?_
            have h_12 : x + 1 = rRfC σ (nI k) (i + 1) := by first | rfl | (rw [hst]; first | done | (rw [ex]) | exact ex)
            have h_13 : (i + 1) ≤ iN (σ 26 0) := by omega
            have h_14 : iN (σ 26 0) - (i + 1) < n4 := by omega
            exact sw_sub (ks := [3, 4, 1, 0]) rfl (ih4 (i + 1) (x + 1) h_14 h_12 h_13)
  refine sw_iconst (pc := 0) (v := 0) hc dX7_countRefused_0 (by decide) ?_
  refine sw_istore_n (pc := 1) hc dX7_countRefused_1 rfl (by decide) (lv' := [(2, .int 0), (0, .ref (ad 0 0)), (1, .ref (ad 11 k))]) rfl ?_
  refine sw_iconst (pc := 2) (v := 0) hc dX7_countRefused_2 (by decide) ?_
  refine sw_istore_n (pc := 3) hc dX7_countRefused_3 rfl (by decide) (lv' := [(3, .int 0), (2, .int 0), (0, .ref (ad 0 0)), (1, .ref (ad 11 k))]) rfl ?_
  have h_15 : 0 = rRfC σ (nI k) 0 := by first | rfl | (rw [hst]; first | done | (rw [ex]) | exact ex)
  have h_16 : 0 ≤ iN (σ 26 0) := by omega
  exact sw_sub (ks := [2, 3, 1, 0]) rfl (K_4 _ 0 0 (Nat.lt_succ_self _) h_15 h_16)
