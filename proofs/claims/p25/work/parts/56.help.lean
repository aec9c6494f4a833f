
/-! the gate's further helpers -/
theorem ad3 {g : sg_G} {ad : Ad} {own : Nat → Option (Nat × Nat)} {gh : Gh} {σ : Mem} {C : Nat → Option va_E} (hQ : Pic g ad own gh σ C) (hW : WX σ) {i k : Nat} (hi : i < iN (σ 9 0)) (hk : k < iN (σ 2 0)) : ad 3 (iN (σ 3 i)) = ad 3 k ↔ σ 3 i = nI k := by
  have hw := hW.1.2.2.2.2.2.1 i hi
  have hb : iN (σ 2 0) < 4 := hW.1.1.2
  constructor
  · intro q
    rw [← hQ.inj (ct3 (k := iN (σ 3 i)) (hW.wl hi)) (ct3 hk) q]
    exact hw.1
  · intro q
    rw [q, show iN (nI k) = k from nI_clamp (by omega)]
theorem ad11o {g : sg_G} {ad : Ad} {own : Nat → Option (Nat × Nat)} {gh : Gh} {σ : Mem} {C : Nat → Option va_E} (hQ : Pic g ad own gh σ C) (hW : WX σ) {i k : Nat} (hi : i < iN (σ 30 0)) (hk : k < iN (σ 16 0)) : ad 11 (iN (σ 27 i)) = ad 11 k ↔ σ 27 i = nI k := by
  have hw := hW.1.2.2.2.2.2.2.2.2.2.2.2.2 i hi
  have hb : iN (σ 16 0) < 7 := hW.1.2.2.1.2
  constructor
  · intro q
    rw [← hQ.inj (ct11 (k := iN (σ 27 i)) (hW.wo hi)) (ct11 hk) q]
    exact hw.1
  · intro q
    rw [q, show iN (nI k) = k from nI_clamp (by omega)]
theorem bor_1 {x y : Int32} (h1 : x = 0 ∨ x = 1) (h2 : y = 1) : x ||| y = 1 := by rcases h1 with rfl | rfl <;> rw [h2] <;> decide
theorem bor_1' {x y : Int32} (h1 : y = 0 ∨ y = 1) (h2 : x = 1) : x ||| y = 1 := by rcases h1 with rfl | rfl <;> rw [h2] <;> decide
theorem rUsd_1 {σ : Mem} {x : Int32} {i : Nat} (h : σ 3 i = x) : ∀ n, i < n → rUsd σ x n = 1
  | n + 1, hn => by
    show rUsd σ x n ||| bI (σ 3 n = x) = 1
    rcases Nat.lt_or_ge i n with q | q
    · exact bor_1' bI_01 (rUsd_1 h n q)
    · rw [show n = i by omega]
      exact bor_1 (rUsd_01 σ x i) (bI_t h)
theorem rUsd_0 {σ : Mem} {x : Int32} {i : Nat} (h0 : rUsd σ x i = 0) (h : ¬ σ 3 i = x) : rUsd σ x (i + 1) = 0 := by
  show rUsd σ x i ||| bI (σ 3 i = x) = 0
  rw [h0, bI_f h]
  decide
theorem rAgn_1 {σ : Mem} {x y : Int32} {i : Nat} (h : σ 27 i = x ∧ σ 28 i = y) : ∀ n, i < n → rAgn σ x y n = 1
  | n + 1, hn => by
    show rAgn σ x y n ||| bI (σ 27 n = x ∧ σ 28 n = y) = 1
    rcases Nat.lt_or_ge i n with q | q
    · exact bor_1' bI_01 (rAgn_1 h n q)
    · rw [show n = i by omega]
      exact bor_1 (rAgn_01 σ x y i) (bI_t h)
theorem rAgn_0 {σ : Mem} {x y : Int32} {i : Nat} (h0 : rAgn σ x y i = 0) (h : ¬ (σ 27 i = x ∧ σ 28 i = y)) : rAgn σ x y (i + 1) = 0 := by
  show rAgn σ x y i ||| bI (σ 27 i = x ∧ σ 28 i = y) = 0
  rw [h0, bI_f h]
  decide
theorem rSpotL_y {σ : Mem} {x w own p : Int32} {j : Nat} (e : p = rSpotL σ x w own j) (h : rLess σ own (rTopN σ x (nI j) w)) : p + 1 = rSpotL σ x w own (j + 1) := by
  show _ = rSpotL σ x w own j + (if _ then _ else _)
  rw [if_pos h, e]
theorem rSpotL_n {σ : Mem} {x w own p : Int32} {j : Nat} (e : p = rSpotL σ x w own j) (h : ¬ rLess σ own (rTopN σ x (nI j) w)) : p = rSpotL σ x w own (j + 1) := by
  show _ = rSpotL σ x w own j + (if _ then _ else _)
  rw [if_neg h, e, Int32.add_zero]
theorem rAtB_n {σ : Mem} {x own b : Int32} {j : Nat} (e : b = rAtB σ x own j) (h : ¬ (0 ≤ rTopN σ x (nI j) (-1) ∧ rAhd σ (iN (rTopN σ x (nI j) (-1))) (iN own))) : b = rAtB σ x own (j + 1) := by
  rw [← rAtB_2 e h, Int32.add_zero]
/-- what a gate reads as an offer's length: more than any room, if it is not open -/
def cCost (σ : Mem) (k : Nat) : Int32 := if rGuess σ (σ 27 k) (σ 28 k) = -1 then 10001 else rGuess σ (σ 27 k) (σ 28 k)

theorem fl_RX7_162 : sg_FL RX7 162 5 0 := ⟨RX4, TX4, 7, "SplitGate$Replay", rfl, by decide, ti_5, .inl rfl, .inr ⟨"SplitGate", sg_memN (i := 375) (by decide +kernel) rfl⟩⟩
theorem fl_RX7_25 : sg_FL RX7 25 8 4 := ⟨RX7, TX7, 9, "SplitGate", rfl, by decide, ti_8, .inl rfl, .inl (sg_mem (i := 139) (by decide +kernel) rfl)⟩
theorem kl_RX7_282 : Cond.classLink RX7 282 "SplitGate$Offer" ∈ sg_T := sg_mem (i := 681) (by decide +kernel) rfl
theorem fl_RX7_289 : sg_FL RX7 289 4 0 := ⟨RX3, TX3, 3, "SplitGate$Offer", rfl, by decide, ti_4, .inl rfl, .inr ⟨"SplitGate", sg_memN (i := 794) (by decide +kernel) rfl⟩⟩
theorem fl_RX7_290 : sg_FL RX7 290 4 1 := ⟨RX3, TX3, 3, "SplitGate$Offer", rfl, by decide, ti_4, .inl rfl, .inr ⟨"SplitGate", sg_memN (i := 796) (by decide +kernel) rfl⟩⟩
theorem fl_RX7_272 : sg_FL RX7 272 7 5 := ⟨RX6, TX6, 7, "SplitGate$Run", rfl, by decide, ti_7, .inl rfl, .inr ⟨"SplitGate", sg_memN (i := 610) (by decide +kernel) rfl⟩⟩
theorem md_X7_estimateFor : sg_MD yX7_estimateFor cX7_estimateFor 7 (some .int) 2 := ⟨sg_mem (i := 689) (by decide +kernel) rfl, sg_mem (i := 26) (by decide +kernel) rfl, ⟨by decide, by decide⟩, by decide +kernel⟩
theorem ml_RX7_273 : sg_ML RX7 273 yX7_estimateFor := .inl (sg_mem (i := 686) (by decide +kernel) rfl)
theorem im_X7_estimateFor : Cond.instanceMethod yX7_estimateFor ∈ sg_T := sg_mem (i := 688) (by decide +kernel) rfl
theorem sl_X7_estimateFor : Cond.selects yX7_estimateFor.cls yX7_estimateFor yX7_estimateFor ∈ sg_T := sg_mem (i := 19) (by decide +kernel) rfl
theorem md_X7_bestRun : sg_MD yX7_bestRun cX7_bestRun 7 (some (.object "SplitGate$Run")) 3 := ⟨sg_mem (i := 707) (by decide +kernel) rfl, sg_mem (i := 26) (by decide +kernel) rfl, ⟨by decide, by decide⟩, by decide +kernel⟩
theorem ml_RX7_239 : sg_ML RX7 239 yX7_bestRun := .inl (sg_mem (i := 704) (by decide +kernel) rfl)
theorem im_X7_bestRun : Cond.instanceMethod yX7_bestRun ∈ sg_T := sg_mem (i := 706) (by decide +kernel) rfl
theorem sl_X7_bestRun : Cond.selects yX7_bestRun.cls yX7_bestRun yX7_bestRun ∈ sg_T := sg_mem (i := 20) (by decide +kernel) rfl
set_option maxHeartbeats 4000000 in
set_option maxRecDepth 100000 in
theorem c_X7_hasReplay (l : Launch) (g : sg_G) (C : Nat → Option va_E) (ad : Ad) (own : Nat → Option (Nat × Nat)) (gh : Gh) (σ : Mem) (k : Nat) (hQ : Pic g ad own gh σ C) (hW : WX σ) (hk : k < iN (σ 2 0)) : sg_Met l yX7_hasReplay cX7_hasReplay 3 (some .boolean) 3 64 0 0 g [.ref (ad 0 0), .ref (ad 3 k)] C (fun v C' => v = some (.int (rUsed σ (nI k))) ∧ C' = C) (sg_no) := by
  refine sg_ofW (by decide) rfl ?_ (Nat.le_of_ble_eq_true rfl)
  intro p e s m below meth c hc hlk hrt hin2 htb
  have hc : sg_Cx p s m _ c cX7_hasReplay 3 RX7 g := hc
  show sg_W p l e _ s m _ below meth c 3 g 0 0 _ C 0 [(0, .ref (ad 0 0)), (1, .ref (ad 3 k))] []
  have K_2 : ∀ (n2 : Nat) (i : Nat) (hn2 : iN (σ 9 0) - i < n2) (hJ : i ≤ iN (σ 9 0)) (hU : rUsd σ (nI k) i = 0), sg_W p l e (sg_rm 3 64 0 0) s m ([.ref (ad 0 0), .ref (ad 3 k)] : List Value).toArray below meth c 3 g 0 0 (sg_End below g (fun v C' => v = some (.int (rUsed σ (nI k))) ∧ C' = C) (sg_no) ([.ref (ad 0 0), .ref (ad 3 k)] : List Value).toArray s 0 0) (C) 2 [(0, .ref (ad 0 0)), (1, .ref (ad 3 k)), (2, .int (nI i))] [] := by
    intro n2
    induction n2 with
    | zero => intro i hn2 hJ hU; exact absurd hn2 (Nat.not_lt_zero _)
    | succ n2 ih2 =>
      intro i hn2 hJ hU
      refine sw_iload_n (pc := 2) hc dX7_hasReplay_2 rfl 2 rfl ?_
      refine sw_aload_n (pc := 3) hc dX7_hasReplay_3 rfl 0 rfl ?_
      refine sw_get (pc := 4) (v := .ref (ad 1 1)) hc fl_RX7_16 (hQ.at ct0) rfl dX7_hasReplay_4 ?_
      refine sw_callV (pc := 7) (rest := [.int (nI i)]) hc (c_Jx4a65c_size_8abf5 l g C (ad 1 1) (nI (iN (σ 9 0))) (if iN (σ 9 0) = 0 then g.2.2.2 0 else ad 2 1) (nI (iN (σ 9 0))) (hQ.at (ct1 (k := 1) (by decide)))) md_Jx4a65c_size_8abf5 ml_RX7_46 im_Jx4a65c_size_8abf5 sl_Jx4a65c_size_8abf5 (hQ.at (ct1 (k := 1) (by decide))) rfl rfl rfl (Nat.le_of_ble_eq_true rfl) dX7_hasReplay_7 ⟨Nat.le_of_ble_eq_true rfl, Nat.le_of_ble_eq_true rfl, Nat.le_of_ble_eq_true rfl, Nat.le_of_ble_eq_true rfl⟩ (fun v C' hP => ?_) (fun _ _ h => h.elim)
      obtain ⟨rfl, hCC⟩ := hP
      refine sw_eq (C' := C) hCC ?_
      refine sw_st (st' := [.int (nI (iN (σ 9 0))), .int (nI i)]) rfl ?_
      refine sw_icmp_ge (pc := 10) (tgt := 39) hc dX7_hasReplay_10 (by decide) (fun c_1 => ?_) (fun c_1 => ?_)
      ·
        have c_1' := Int32.not_lt.mpr c_1
        refine sw_iconst (pc := 39) (v := 0) hc dX7_hasReplay_39 (by decide) ?_
        exact sw_iret (pc := 40) hc hlk hrt rfl ⟨congrArg (fun z => some (Value.int z)) (show (0 : Int32) = rUsd σ (nI k) (iN (σ 9 0)) by rw [show iN (σ 9 0) = i from Nat.le_antisymm ((nI_leI (by have := hW.b1; have h9 : lsN σ 1 = iN (σ 9 0) := rfl; omega) (by have := hW.b1; have h9 : lsN σ 1 = iN (σ 9 0) := rfl; omega)).mp c_1) hJ]; exact hU.symm), rfl⟩ (Nat.le_of_ble_eq_true rfl) (Nat.le_of_ble_eq_true rfl) dX7_hasReplay_40
      ·
        have c_1' := Int32.not_le.mp c_1
        have hlt : i < iN (σ 9 0) := (nI_ltI (a := i) (b := iN (σ 9 0)) (by have := hW.b1; have h9 : lsN σ 1 = iN (σ 9 0) := rfl; omega) (by have := hW.b1; have h9 : lsN σ 1 = iN (σ 9 0) := rfl; omega)).mp (Int32.not_le.mp c_1)
        refine sw_aload_n (pc := 13) hc dX7_hasReplay_13 rfl 0 rfl ?_
        refine sw_get (pc := 14) (v := .ref (ad 1 1)) hc fl_RX7_16 (hQ.at ct0) rfl dX7_hasReplay_14 ?_
        refine sw_iload_n (pc := 17) hc dX7_hasReplay_17 rfl 2 rfl ?_
        refine sw_callV (pc := 18) (rest := []) hc (c_get1 (k := 1) l hQ (by decide) (i := i) hlt hW.b1) md_Jx4a65c_get_915e3 ml_RX7_156 im_Jx4a65c_get_915e3 sl_Jx4a65c_get_915e3 (hQ.at (ct1 (k := 1) (by decide))) rfl rfl rfl (Nat.le_of_ble_eq_true rfl) dX7_hasReplay_18 ⟨Nat.le_of_ble_eq_true rfl, Nat.le_of_ble_eq_true rfl, Nat.le_of_ble_eq_true rfl, Nat.le_of_ble_eq_true rfl⟩ (fun v C' hP => ?_) (fun _ _ h => h.elim)
        obtain ⟨rfl, hCC⟩ := hP
        refine sw_eq (C' := C) hCC ?_
        refine sw_st (st' := [.ref (ad 7 i)]) rfl ?_
        refine sw_cast (pc := 21) hc kl_RX7_93 (hQ.at (ct7 (k := i) hlt)) rfl dX7_hasReplay_21 ?_
        refine sw_get (pc := 24) (v := .ref (ad 3 (iN (σ 3 i)))) hc fl_RX7_162 (hQ.at (ct7 (k := i) hlt)) rfl dX7_hasReplay_24 ?_
        refine sw_aload_n (pc := 27) hc dX7_hasReplay_27 rfl 1 rfl ?_
        refine sw_acmp_ne (pc := 28) (rx := (some (ad 3 (iN (σ 3 i))))) (ry := (some (ad 3 k))) (tgt := 33) hc dX7_hasReplay_28 (by decide) (fun c_2 => ?_) (fun c_2 => ?_)
        ·
          refine sw_iinc (pc := 33) (v := nI (i + 1)) (lv' := [(2, .int (nI (i + 1))), (0, .ref (ad 0 0)), (1, .ref (ad 3 k))]) hc dX7_hasReplay_33 (k := 2) rfl (nI_1 _) (by decide) rfl ?_
          refine sw_goto (pc := 36) (tgt := 2) hc dX7_hasReplay_36 (by decide) ?_
          have h_3 : (i + 1) ≤ iN (σ 9 0) := by omega
          have h_4 : rUsd σ (nI k) (i + 1) = 0 := by exact rUsd_0 hU (fun q => c_2 (congrArg some ((ad3 hQ hW hlt hk).mpr q)))
          have h_5 : iN (σ 9 0) - (i + 1) < n2 := by omega
          exact sw_sub (ks := [1, 2, 0]) rfl (ih2 (i + 1) h_5 h_3 h_4)
        ·
          refine sw_iconst (pc := 31) (v := 1) hc dX7_hasReplay_31 (by decide) ?_
          exact sw_iret (pc := 32) hc hlk hrt rfl ⟨congrArg (fun z => some (Value.int z)) (rUsd_1 ((ad3 hQ hW hlt hk).mp (Option.some.inj c_2)) _ hlt).symm, rfl⟩ (Nat.le_of_ble_eq_true rfl) (Nat.le_of_ble_eq_true rfl) dX7_hasReplay_32
  refine sw_iconst (pc := 0) (v := 0) hc dX7_hasReplay_0 (by decide) ?_
  refine sw_istore_n (pc := 1) hc dX7_hasReplay_1 rfl (by decide) (lv' := [(2, .int 0), (0, .ref (ad 0 0)), (1, .ref (ad 3 k))]) rfl ?_
  have h_6 : 0 ≤ iN (σ 9 0) := by omega
  have h_7 : rUsd σ (nI k) 0 = 0 := by rfl
  exact sw_sub (ks := [1, 2, 0]) rfl (K_2 _ 0 (Nat.lt_succ_self _) h_6 h_7)

set_option maxHeartbeats 4000000 in
set_option maxRecDepth 100000 in
theorem c_X7_hasOffered (l : Launch) (g : sg_G) (C : Nat → Option va_E) (ad : Ad) (own : Nat → Option (Nat × Nat)) (gh : Gh) (σ : Mem) (k : Nat) (y : Int32) (hQ : Pic g ad own gh σ C) (hW : WX σ) (hk : k < iN (σ 16 0)) : sg_Met l yX7_hasOffered cX7_hasOffered 5 (some .boolean) 3 64 0 0 g [.ref (ad 0 0), .ref (ad 11 k), .int y] C (fun v C' => v = some (.int (rAgn σ (nI k) y (iN (σ 30 0)))) ∧ C' = C) (sg_no) := by
  refine sg_ofW (by decide) rfl ?_ (Nat.le_of_ble_eq_true rfl)
  intro p e s m below meth c hc hlk hrt hin2 htb
  have hc : sg_Cx p s m _ c cX7_hasOffered 5 RX7 g := hc
  show sg_W p l e _ s m _ below meth c 5 g 0 0 _ C 0 [(0, .ref (ad 0 0)), (1, .ref (ad 11 k)), (2, .int y)] []
  have K_2 : ∀ (n2 : Nat) (i : Nat) (hn2 : iN (σ 30 0) - i < n2) (hJ : i ≤ iN (σ 30 0)) (hU : rAgn σ (nI k) y i = 0), sg_W p l e (sg_rm 3 64 0 0) s m ([.ref (ad 0 0), .ref (ad 11 k), .int y] : List Value).toArray below meth c 5 g 0 0 (sg_End below g (fun v C' => v = some (.int (rAgn σ (nI k) y (iN (σ 30 0)))) ∧ C' = C) (sg_no) ([.ref (ad 0 0), .ref (ad 11 k), .int y] : List Value).toArray s 0 0) (C) 2 [(0, .ref (ad 0 0)), (1, .ref (ad 11 k)), (2, .int y), (3, .int (nI i))] [] := by
    intro n2
    induction n2 with
    | zero => intro i hn2 hJ hU; exact absurd hn2 (Nat.not_lt_zero _)
    | succ n2 ih2 =>
      intro i hn2 hJ hU
      refine sw_iload_n (pc := 2) hc dX7_hasOffered_2 rfl 3 rfl ?_
      refine sw_aload_n (pc := 3) hc dX7_hasOffered_3 rfl 0 rfl ?_
      refine sw_get (pc := 4) (v := .ref (ad 1 4)) hc fl_RX7_25 (hQ.at ct0) rfl dX7_hasOffered_4 ?_
      refine sw_callV (pc := 7) (rest := [.int (nI i)]) hc (c_Jx4a65c_size_8abf5 l g C (ad 1 4) (nI (iN (σ 30 0))) (if iN (σ 30 0) = 0 then g.2.2.2 0 else ad 2 4) (nI (iN (σ 30 0))) (hQ.at (ct1 (k := 4) (by decide)))) md_Jx4a65c_size_8abf5 ml_RX7_46 im_Jx4a65c_size_8abf5 sl_Jx4a65c_size_8abf5 (hQ.at (ct1 (k := 4) (by decide))) rfl rfl rfl (Nat.le_of_ble_eq_true rfl) dX7_hasOffered_7 ⟨Nat.le_of_ble_eq_true rfl, Nat.le_of_ble_eq_true rfl, Nat.le_of_ble_eq_true rfl, Nat.le_of_ble_eq_true rfl⟩ (fun v C' hP => ?_) (fun _ _ h => h.elim)
      obtain ⟨rfl, hCC⟩ := hP
      refine sw_eq (C' := C) hCC ?_
      refine sw_st (st' := [.int (nI (iN (σ 30 0))), .int (nI i)]) rfl ?_
      refine sw_icmp_ge (pc := 10) (tgt := 52) hc dX7_hasOffered_10 (by decide) (fun c_1 => ?_) (fun c_1 => ?_)
      ·
        have c_1' := Int32.not_lt.mpr c_1
        refine sw_iconst (pc := 52) (v := 0) hc dX7_hasOffered_52 (by decide) ?_
        exact sw_iret (pc := 53) hc hlk hrt rfl ⟨congrArg (fun z => some (Value.int z)) (show (0 : Int32) = rAgn σ (nI k) y (iN (σ 30 0)) by rw [show iN (σ 30 0) = i from Nat.le_antisymm ((nI_leI (by have := hW.b4; have h9 : lsN σ 4 = iN (σ 30 0) := rfl; omega) (by have := hW.b4; have h9 : lsN σ 4 = iN (σ 30 0) := rfl; omega)).mp c_1) hJ]; exact hU.symm), rfl⟩ (Nat.le_of_ble_eq_true rfl) (Nat.le_of_ble_eq_true rfl) dX7_hasOffered_53
      ·
        have c_1' := Int32.not_le.mp c_1
        have hlt : i < iN (σ 30 0) := (nI_ltI (a := i) (b := iN (σ 30 0)) (by have := hW.b4; have h9 : lsN σ 4 = iN (σ 30 0) := rfl; omega) (by have := hW.b4; have h9 : lsN σ 4 = iN (σ 30 0) := rfl; omega)).mp (Int32.not_le.mp c_1)
        refine sw_aload_n (pc := 13) hc dX7_hasOffered_13 rfl 0 rfl ?_
        refine sw_get (pc := 14) (v := .ref (ad 1 4)) hc fl_RX7_25 (hQ.at ct0) rfl dX7_hasOffered_14 ?_
        refine sw_iload_n (pc := 17) hc dX7_hasOffered_17 rfl 3 rfl ?_
        refine sw_callV (pc := 18) (rest := []) hc (c_get1 (k := 4) l hQ (by decide) (i := i) hlt hW.b4) md_Jx4a65c_get_915e3 ml_RX7_156 im_Jx4a65c_get_915e3 sl_Jx4a65c_get_915e3 (hQ.at (ct1 (k := 4) (by decide))) rfl rfl rfl (Nat.le_of_ble_eq_true rfl) dX7_hasOffered_18 ⟨Nat.le_of_ble_eq_true rfl, Nat.le_of_ble_eq_true rfl, Nat.le_of_ble_eq_true rfl, Nat.le_of_ble_eq_true rfl⟩ (fun v C' hP => ?_) (fun _ _ h => h.elim)
        obtain ⟨rfl, hCC⟩ := hP
        refine sw_eq (C' := C) hCC ?_
        refine sw_st (st' := [.ref (ad 16 i)]) rfl ?_
        refine sw_cast (pc := 21) hc kl_RX7_282 (hQ.at (ct16 (k := i) hlt)) rfl dX7_hasOffered_21 ?_
        refine sw_astore (pc := 24) hc dX7_hasOffered_24 (by decide) (lv' := [(4, .ref (ad 16 i)), (0, .ref (ad 0 0)), (1, .ref (ad 11 k)), (2, .int y), (3, .int (nI i))]) rfl ?_
        refine sw_aload (pc := 26) hc dX7_hasOffered_26 0 rfl ?_
        refine sw_get (pc := 28) (v := .ref (ad 11 (iN (σ 27 i)))) hc fl_RX7_289 (hQ.at (ct16 (k := i) hlt)) rfl dX7_hasOffered_28 ?_
        refine sw_aload_n (pc := 31) hc dX7_hasOffered_31 rfl 2 rfl ?_
        refine sw_acmp_ne (pc := 32) (rx := (some (ad 11 (iN (σ 27 i))))) (ry := (some (ad 11 k))) (tgt := 46) hc dX7_hasOffered_32 (by decide) (fun c_2 => ?_) (fun c_2 => ?_)
        ·
          refine sw_iinc (pc := 46) (v := nI (i + 1)) (lv' := [(3, .int (nI (i + 1))), (4, .ref (ad 16 i)), (0, .ref (ad 0 0)), (1, .ref (ad 11 k)), (2, .int y)]) hc dX7_hasOffered_46 (k := 4) rfl (nI_1 _) (by decide) rfl ?_
          refine sw_goto (pc := 49) (tgt := 2) hc dX7_hasOffered_49 (by decide) ?_
          have h_3 : (i + 1) ≤ iN (σ 30 0) := by omega
          have h_4 : rAgn σ (nI k) y (i + 1) = 0 := by exact rAgn_0 hU (fun q => c_2 (congrArg some ((ad11o hQ hW hlt hk).mpr q.1)))
          have h_5 : iN (σ 30 0) - (i + 1) < n2 := by omega
          exact sw_sub (ks := [2, 3, 4, 0]) rfl (ih2 (i + 1) h_5 h_3 h_4)
        ·
          refine sw_aload (pc := 35) hc dX7_hasOffered_35 0 rfl ?_
          refine sw_get (pc := 37) (v := .int (σ 28 i)) hc fl_RX7_290 (hQ.at (ct16 (k := i) hlt)) rfl dX7_hasOffered_37 ?_
          refine sw_iload_n (pc := 40) hc dX7_hasOffered_40 rfl 3 rfl ?_
          refine sw_icmp_ne (pc := 41) (tgt := 46) hc dX7_hasOffered_41 (by decide) (fun c_6 => ?_) (fun c_6 => ?_)
          ·
            refine sw_iinc (pc := 46) (v := nI (i + 1)) (lv' := [(3, .int (nI (i + 1))), (4, .ref (ad 16 i)), (0, .ref (ad 0 0)), (1, .ref (ad 11 k)), (2, .int y)]) hc dX7_hasOffered_46 (k := 4) rfl (nI_1 _) (by decide) rfl ?_
            refine sw_goto (pc := 49) (tgt := 2) hc dX7_hasOffered_49 (by decide) ?_
            have h_7 : (i + 1) ≤ iN (σ 30 0) := by omega
            have h_8 : rAgn σ (nI k) y (i + 1) = 0 := by exact rAgn_0 hU (fun q => c_6 q.2)
            have h_9 : iN (σ 30 0) - (i + 1) < n2 := by omega
            exact sw_sub (ks := [2, 3, 4, 0]) rfl (ih2 (i + 1) h_9 h_7 h_8)
          ·
            refine sw_iconst (pc := 44) (v := 1) hc dX7_hasOffered_44 (by decide) ?_
            exact sw_iret (pc := 45) hc hlk hrt rfl ⟨congrArg (fun z => some (Value.int z)) (rAgn_1 ⟨(ad11o hQ hW hlt hk).mp (Option.some.inj c_2), c_6⟩ _ hlt).symm, rfl⟩ (Nat.le_of_ble_eq_true rfl) (Nat.le_of_ble_eq_true rfl) dX7_hasOffered_45
  refine sw_iconst (pc := 0) (v := 0) hc dX7_hasOffered_0 (by decide) ?_
  refine sw_istore_n (pc := 1) hc dX7_hasOffered_1 rfl (by decide) (lv' := [(3, .int 0), (0, .ref (ad 0 0)), (1, .ref (ad 11 k)), (2, .int y)]) rfl ?_
  have h_10 : 0 ≤ iN (σ 30 0) := by omega
  have h_11 : rAgn σ (nI k) y 0 = 0 := by rfl
  exact sw_sub (ks := [1, 2, 3, 0]) rfl (K_2 _ 0 (Nat.lt_succ_self _) h_10 h_11)

set_option maxHeartbeats 4000000 in
set_option maxRecDepth 100000 in
theorem c_X7_estimateFor (l : Launch) (g : sg_G) (C : Nat → Option va_E) (ad : Ad) (own : Nat → Option (Nat × Nat)) (gh : Gh) (σ : Mem) (k : Nat) (y : Int32) (hQ : Pic g ad own gh σ C) (hW : WX σ) (hk : k < iN (σ 16 0)) : sg_Met l yX7_estimateFor cX7_estimateFor 7 (some .int) 6 130 0 0 g [.ref (ad 0 0), .ref (ad 11 k), .int y] C (fun v C' => v = some (.int (rGuess σ (nI k) y)) ∧ C' = C) (sg_no) := by
  refine sg_ofW (by decide) rfl ?_ (Nat.le_of_ble_eq_true rfl)
  intro p e s m below meth c hc hlk hrt hin2 htb
  have hc : sg_Cx p s m _ c cX7_estimateFor 7 RX7 g := hc
  show sg_W p l e _ s m _ below meth c 7 g 0 0 _ C 0 [(0, .ref (ad 0 0)), (1, .ref (ad 11 k)), (2, .int y)] []
  have K_16 : ∀ (n16 : Nat) (n : Nat) (z : Int32) (u : Int32) (v : Int32) (hn16 : n < n16) (ez : z = nI n - 1) (hG : rGs σ (nI k) y n (u, v) = rGsN σ (nI k) y) (hnb : n ≤ iN (σ 26 0)) (hv : ∃ j, j ≤ 3 ∧ v = nI j), sg_W p l e (sg_rm 6 130 0 0) s m ([.ref (ad 0 0), .ref (ad 11 k), .int y] : List Value).toArray below meth c 7 g 0 0 (sg_End below g (fun v C' => v = some (.int (rGuess σ (nI k) y)) ∧ C' = C) (sg_no) ([.ref (ad 0 0), .ref (ad 11 k), .int y] : List Value).toArray s 0 0) (C) 16 [(0, .ref (ad 0 0)), (1, .ref (ad 11 k)), (2, .int y), (3, .int u), (4, .int v), (5, .int z)] [] := by
    intro n16
    induction n16 with
    | zero => intro n z u v hn16 ez hG hnb hv; exact absurd hn16 (Nat.not_lt_zero _)
    | succ n16 ih16 =>
      intro n z u v hn16 ez hG hnb hv
      refine sw_iload (pc := 16) hc dX7_estimateFor_16 5 rfl ?_
      refine sw_if_lt (pc := 18) (tgt := 76) hc dX7_estimateFor_18 (by decide) (fun c_1 => ?_) (fun c_1 => ?_)
      ·
        have c_1' := Int32.not_le.mpr c_1
        refine sw_iload (pc := 76) hc dX7_estimateFor_76 4 rfl ?_
        refine sw_if_ne (pc := 78) (tgt := 85) hc dX7_estimateFor_78 (by decide) (fun c_2 => ?_) (fun c_2 => ?_)
        ·
          refine sw_bipush (pc := 85) (v := 11) hc dX7_estimateFor_85 (by decide) ?_
          refine sw_iload_n (pc := 87) hc dX7_estimateFor_87 rfl 3 rfl ?_
          refine sw_imul (pc := 88) hc dX7_estimateFor_88 ?_
          refine sw_bipush (pc := 89) (v := 10) hc dX7_estimateFor_89 (by decide) ?_
          refine sw_iload (pc := 91) hc dX7_estimateFor_91 4 rfl ?_
          refine sw_imul (pc := 93) hc dX7_estimateFor_93 ?_
          refine sw_iadd (pc := 94) hc dX7_estimateFor_94 ?_
          refine sw_iconst (pc := 95) (v := 1) hc dX7_estimateFor_95 (by decide) ?_
          refine sw_isub (pc := 96) hc dX7_estimateFor_96 ?_
          refine sw_bipush (pc := 97) (v := 10) hc dX7_estimateFor_97 (by decide) ?_
          refine sw_iload (pc := 99) hc dX7_estimateFor_99 4 rfl ?_
          refine sw_imul (pc := 101) hc dX7_estimateFor_101 ?_
          refine sw_idiv (pc := 102) hc dX7_estimateFor_102 (v_10 hv (by assumption)) ?_
          have hn0 : n = 0 := by
            rcases Nat.eq_zero_or_pos n with q | q
            · exact q
            · exfalso; rw [ez, show n = (n - 1) + 1 by omega, nI_pred] at c_1; exact nI_pos (by have := hW.b3; have h9 : lsN σ 3 = iN (σ 26 0) := rfl; omega) c_1
          have hu : (u, v) = rGsN σ (nI k) y := by rw [← hG, hn0]; rfl
          have hz : (((11 * u) + (10 * v)) - 1) / (10 * v) = rGuess σ (nI k) y := by unfold rGuess; rw [← hu]; first | exact (if_neg (by assumption)).symm | exact (if_pos (by assumption)).symm
          exact sw_iret (pc := 103) hc hlk hrt rfl ⟨congrArg (fun z => some (Value.int z)) hz, rfl⟩ (Nat.le_of_ble_eq_true rfl) (Nat.le_of_ble_eq_true rfl) dX7_estimateFor_103
        ·
          refine sw_iconst (pc := 81) (v := (-1)) hc dX7_estimateFor_81 (by decide) ?_
          refine sw_goto (pc := 82) (tgt := 103) hc dX7_estimateFor_82 (by decide) ?_
          have hn0 : n = 0 := by
            rcases Nat.eq_zero_or_pos n with q | q
            · exact q
            · exfalso; rw [ez, show n = (n - 1) + 1 by omega, nI_pred] at c_1; exact nI_pos (by have := hW.b3; have h9 : lsN σ 3 = iN (σ 26 0) := rfl; omega) c_1
          have hu : (u, v) = rGsN σ (nI k) y := by rw [← hG, hn0]; rfl
          have hz : (-1) = rGuess σ (nI k) y := by unfold rGuess; rw [← hu]; first | exact (if_neg (by assumption)).symm | exact (if_pos (by assumption)).symm
          exact sw_iret (pc := 103) hc hlk hrt rfl ⟨congrArg (fun z => some (Value.int z)) hz, rfl⟩ (Nat.le_of_ble_eq_true rfl) (Nat.le_of_ble_eq_true rfl) dX7_estimateFor_103
      ·
        have c_1' := Int32.not_lt.mp c_1
        refine sw_iload (pc := 21) hc dX7_estimateFor_21 4 rfl ?_
        refine sw_iconst (pc := 23) (v := 3) hc dX7_estimateFor_23 (by decide) ?_
        refine sw_icmp_ge (pc := 24) (tgt := 76) hc dX7_estimateFor_24 (by decide) (fun c_3 => ?_) (fun c_3 => ?_)
        ·
          have c_3' := Int32.not_lt.mpr c_3
          refine sw_iload (pc := 76) hc dX7_estimateFor_76 4 rfl ?_
          refine sw_if_ne (pc := 78) (tgt := 85) hc dX7_estimateFor_78 (by decide) (fun c_4 => ?_) (fun c_4 => ?_)
          ·
            refine sw_bipush (pc := 85) (v := 11) hc dX7_estimateFor_85 (by decide) ?_
            refine sw_iload_n (pc := 87) hc dX7_estimateFor_87 rfl 3 rfl ?_
            refine sw_imul (pc := 88) hc dX7_estimateFor_88 ?_
            refine sw_bipush (pc := 89) (v := 10) hc dX7_estimateFor_89 (by decide) ?_
            refine sw_iload (pc := 91) hc dX7_estimateFor_91 4 rfl ?_
            refine sw_imul (pc := 93) hc dX7_estimateFor_93 ?_
            refine sw_iadd (pc := 94) hc dX7_estimateFor_94 ?_
            refine sw_iconst (pc := 95) (v := 1) hc dX7_estimateFor_95 (by decide) ?_
            refine sw_isub (pc := 96) hc dX7_estimateFor_96 ?_
            refine sw_bipush (pc := 97) (v := 10) hc dX7_estimateFor_97 (by decide) ?_
            refine sw_iload (pc := 99) hc dX7_estimateFor_99 4 rfl ?_
            refine sw_imul (pc := 101) hc dX7_estimateFor_101 ?_
            refine sw_idiv (pc := 102) hc dX7_estimateFor_102 (v_10 hv (by assumption)) ?_
            have hu : (u, v) = rGsN σ (nI k) y := by rw [← hG]; exact (rGs_x (Int32.not_lt.mpr c_3)).symm
            have hz : (((11 * u) + (10 * v)) - 1) / (10 * v) = rGuess σ (nI k) y := by unfold rGuess; rw [← hu]; first | exact (if_neg (by assumption)).symm | exact (if_pos (by assumption)).symm
            exact sw_iret (pc := 103) hc hlk hrt rfl ⟨congrArg (fun z => some (Value.int z)) hz, rfl⟩ (Nat.le_of_ble_eq_true rfl) (Nat.le_of_ble_eq_true rfl) dX7_estimateFor_103
          ·
            refine sw_iconst (pc := 81) (v := (-1)) hc dX7_estimateFor_81 (by decide) ?_
            refine sw_goto (pc := 82) (tgt := 103) hc dX7_estimateFor_82 (by decide) ?_
            have hu : (u, v) = rGsN σ (nI k) y := by rw [← hG]; exact (rGs_x (Int32.not_lt.mpr c_3)).symm
            have hz : (-1) = rGuess σ (nI k) y := by unfold rGuess; rw [← hu]; first | exact (if_neg (by assumption)).symm | exact (if_pos (by assumption)).symm
            exact sw_iret (pc := 103) hc hlk hrt rfl ⟨congrArg (fun z => some (Value.int z)) hz, rfl⟩ (Nat.le_of_ble_eq_true rfl) (Nat.le_of_ble_eq_true rfl) dX7_estimateFor_103
        ·
          have c_3' := Int32.not_le.mp c_3
          obtain ⟨n1, en1, ek1⟩ := nI_m1 (by have := hW.b3; have h9 : lsN σ 3 = iN (σ 26 0) := rfl; omega) (show ¬ nI n - 1 < 0 by rw [← ez]; exact c_1)
          have ek2 : z = nI n1 := ez.trans ek1
          subst en1
          have hlt : n1 < iN (σ 26 0) := by omega
          refine sw_aload_n (pc := 27) hc dX7_estimateFor_27 rfl 0 rfl ?_
          refine sw_get (pc := 28) (v := .ref (ad 1 3)) hc fl_RX7_22 (hQ.at ct0) rfl dX7_estimateFor_28 ?_
          refine sw_iload (pc := 31) hc dX7_estimateFor_31 5 rfl ?_
          refine sw_st (st' := [.int (nI n1), .ref (ad 1 3)]) (congrArg (fun z => ([.int z, .ref (ad 1 3)] : List Value)) (ek2 : z = nI n1)) ?_
          refine sw_callV (pc := 33) (rest := []) hc (c_get1 (k := 3) l hQ (by decide) (i := n1) hlt hW.b3) md_Jx4a65c_get_915e3 ml_RX7_156 im_Jx4a65c_get_915e3 sl_Jx4a65c_get_915e3 (hQ.at (ct1 (k := 3) (by decide))) rfl rfl rfl (Nat.le_of_ble_eq_true rfl) dX7_estimateFor_33 ⟨Nat.le_of_ble_eq_true rfl, Nat.le_of_ble_eq_true rfl, Nat.le_of_ble_eq_true rfl, Nat.le_of_ble_eq_true rfl⟩ (fun v C' hP => ?_) (fun _ _ h => h.elim)
          obtain ⟨rfl, hCC⟩ := hP
          refine sw_eq (C' := C) hCC ?_
          refine sw_st (st' := [.ref (ad 15 n1)]) rfl ?_
          refine sw_cast (pc := 36) hc kl_RX7_204 (hQ.at (ct15 (k := n1) hlt)) rfl dX7_estimateFor_36 ?_
          refine sw_astore (pc := 39) hc dX7_estimateFor_39 (by decide) (lv' := [(6, .ref (ad 15 n1)), (0, .ref (ad 0 0)), (1, .ref (ad 11 k)), (2, .int y), (3, .int u), (4, .int v), (5, .int z)]) rfl ?_
          refine sw_aload (pc := 41) hc dX7_estimateFor_41 0 rfl ?_
          refine sw_aload_n (pc := 43) hc dX7_estimateFor_43 rfl 2 rfl ?_
          refine sw_iload_n (pc := 44) hc dX7_estimateFor_44 rfl 3 rfl ?_
          refine sw_callV (pc := 45) (rest := []) hc (c_X6_isFor l g C (ad 15 n1) (ad 11 k) y (nI n1) (σ 18 n1) (ad 7 (iN (σ 17 n1))) (ad 11 (iN (σ 19 n1))) (σ 20 n1) (σ 22 n1) (σ 21 n1) (hQ.at (ct15 (k := n1) hlt))) md_X6_isFor ml_RX7_246 im_X6_isFor sl_X6_isFor (hQ.at (ct15 (k := n1) hlt)) rfl rfl rfl (Nat.le_of_ble_eq_true rfl) dX7_estimateFor_45 ⟨Nat.le_of_ble_eq_true rfl, Nat.le_of_ble_eq_true rfl, Nat.le_of_ble_eq_true rfl, Nat.le_of_ble_eq_true rfl⟩ (fun v C' hP => ?_) (fun _ _ h => h.elim)
          obtain ⟨rfl, hCC⟩ := hP
          refine sw_eq (C' := C) hCC ?_
          refine sw_st (st' := [.int (bI ((ad 11 (iN (σ 19 n1))) = (ad 11 k) ∧ (σ 18 n1) = y))]) rfl ?_
          refine sw_if_eq (pc := 48) (tgt := 70) hc dX7_estimateFor_48 (by decide) (fun c_5 => ?_) (fun c_5 => ?_)
          ·
            have p_6 : ¬ ((ad 11 (iN (σ 19 n1))) = (ad 11 k) ∧ (σ 18 n1) = y) := bI_0 c_5
            refine sw_iinc (pc := 70) (v := z + (-1)) (lv' := [(5, .int (z + (-1))), (6, .ref (ad 15 n1)), (0, .ref (ad 0 0)), (1, .ref (ad 11 k)), (2, .int y), (3, .int u), (4, .int v)]) hc dX7_estimateFor_70 (k := 6) rfl (by rfl) (by decide) rfl ?_
            refine sw_goto (pc := 73) (tgt := 16) hc dX7_estimateFor_73 (by decide) ?_
            have h_7 : z + (-1) = nI n1 - 1 := by first | with_reducible rfl | (rw [ek2, Int32.sub_eq_add_neg])
            have h_8 : rGs σ (nI k) y n1 (u, v) = rGsN σ (nI k) y := by exact (rGs_n c_3' (fun q => p_6 ⟨(ad11 hQ hW hlt hk).mpr q.1, q.2.1⟩)).trans hG
            have h_9 : n1 ≤ iN (σ 26 0) := by omega
            have h_10 : ∃ j, j ≤ 3 ∧ v = nI j := by exact hv
            have h_11 : n1 < n16 := by omega
            exact sw_sub (ks := [2, 3, 4, 5, 6, 0]) rfl (ih16 n1 (z + (-1)) u v h_11 h_7 h_8 h_9 h_10)
          ·
            have p_12 : (ad 11 (iN (σ 19 n1))) = (ad 11 k) ∧ (σ 18 n1) = y := bI_n c_5
            refine sw_aload (pc := 51) hc dX7_estimateFor_51 0 rfl ?_
            refine sw_callS (pc := 53) (rest := []) hc (c_X7_counts l g C ad own gh σ n1 hQ hW hlt) md_X7_counts ml_RX7_266 st_X7_counts rfl rfl (Nat.le_of_ble_eq_true rfl) dX7_estimateFor_53 ⟨Nat.le_of_ble_eq_true rfl, Nat.le_of_ble_eq_true rfl, Nat.le_of_ble_eq_true rfl, Nat.le_of_ble_eq_true rfl⟩ (fun v C' hP => ?_) (fun _ _ h => h.elim)
            obtain ⟨rfl, hCC⟩ := hP
            refine sw_eq (C' := C) hCC ?_
            refine sw_st (st' := [.int (bI (rCnt σ n1))]) rfl ?_
            refine sw_if_eq (pc := 56) (tgt := 70) hc dX7_estimateFor_56 (by decide) (fun c_13 => ?_) (fun c_13 => ?_)
            ·
              have p_14 : ¬ (rCnt σ n1) := bI_0 c_13
              refine sw_iinc (pc := 70) (v := z + (-1)) (lv' := [(5, .int (z + (-1))), (6, .ref (ad 15 n1)), (0, .ref (ad 0 0)), (1, .ref (ad 11 k)), (2, .int y), (3, .int u), (4, .int v)]) hc dX7_estimateFor_70 (k := 6) rfl (by rfl) (by decide) rfl ?_
              refine sw_goto (pc := 73) (tgt := 16) hc dX7_estimateFor_73 (by decide) ?_
              have h_15 : z + (-1) = nI n1 - 1 := by first | with_reducible rfl | (rw [ek2, Int32.sub_eq_add_neg])
              have h_16 : rGs σ (nI k) y n1 (u, v) = rGsN σ (nI k) y := by exact (rGs_n c_3' (fun q => p_14 q.2.2)).trans hG
              have h_17 : n1 ≤ iN (σ 26 0) := by omega
              have h_18 : ∃ j, j ≤ 3 ∧ v = nI j := by exact hv
              have h_19 : n1 < n16 := by omega
              exact sw_sub (ks := [2, 3, 4, 5, 6, 0]) rfl (ih16 n1 (z + (-1)) u v h_19 h_15 h_16 h_17 h_18)
            ·
              have p_20 : rCnt σ n1 := bI_n c_13
              refine sw_iload_n (pc := 59) hc dX7_estimateFor_59 rfl 4 rfl ?_
              refine sw_aload (pc := 60) hc dX7_estimateFor_60 0 rfl ?_
              refine sw_get (pc := 62) (v := .int (σ 22 n1)) hc fl_RX7_272 (hQ.at (ct15 (k := n1) hlt)) rfl dX7_estimateFor_62 ?_
              refine sw_iadd (pc := 65) hc dX7_estimateFor_65 ?_
              refine sw_istore_n (pc := 66) hc dX7_estimateFor_66 rfl (by decide) (lv' := [(3, .int (u + (σ 22 n1))), (6, .ref (ad 15 n1)), (0, .ref (ad 0 0)), (1, .ref (ad 11 k)), (2, .int y), (4, .int v), (5, .int z)]) rfl ?_
              refine sw_iinc (pc := 67) (v := v + 1) (lv' := [(4, .int (v + 1)), (3, .int (u + (σ 22 n1))), (6, .ref (ad 15 n1)), (0, .ref (ad 0 0)), (1, .ref (ad 11 k)), (2, .int y), (5, .int z)]) hc dX7_estimateFor_67 (k := 5) rfl (by rfl) (by decide) rfl ?_
              refine sw_iinc (pc := 70) (v := z + (-1)) (lv' := [(5, .int (z + (-1))), (4, .int (v + 1)), (3, .int (u + (σ 22 n1))), (6, .ref (ad 15 n1)), (0, .ref (ad 0 0)), (1, .ref (ad 11 k)), (2, .int y)]) hc dX7_estimateFor_70 (k := 6) rfl (by rfl) (by decide) rfl ?_
              refine sw_goto (pc := 73) (tgt := 16) hc dX7_estimateFor_73 (by decide) ?_
              have h_21 : z + (-1) = nI n1 - 1 := by first | with_reducible rfl | (rw [ek2, Int32.sub_eq_add_neg])
              have h_22 : rGs σ (nI k) y n1 ((u + (σ 22 n1)), (v + 1)) = rGsN σ (nI k) y := by exact (rGs_y c_3' ⟨(ad11 hQ hW hlt hk).mp p_12.1, p_12.2, p_20⟩).trans hG
              have h_23 : n1 ≤ iN (σ 26 0) := by omega
              have h_24 : ∃ j, j ≤ 3 ∧ (v + 1) = nI j := by exact v_up hv c_3'
              have h_25 : n1 < n16 := by omega
              exact sw_sub (ks := [4, 5, 6, 2, 1, 0]) rfl (ih16 n1 (z + (-1)) (u + (σ 22 n1)) (v + 1) h_25 h_21 h_22 h_23 h_24)
  refine sw_iconst (pc := 0) (v := 0) hc dX7_estimateFor_0 (by decide) ?_
  refine sw_istore_n (pc := 1) hc dX7_estimateFor_1 rfl (by decide) (lv' := [(3, .int 0), (0, .ref (ad 0 0)), (1, .ref (ad 11 k)), (2, .int y)]) rfl ?_
  refine sw_iconst (pc := 2) (v := 0) hc dX7_estimateFor_2 (by decide) ?_
  refine sw_istore (pc := 3) hc dX7_estimateFor_3 (by decide) (lv' := [(4, .int 0), (3, .int 0), (0, .ref (ad 0 0)), (1, .ref (ad 11 k)), (2, .int y)]) rfl ?_
  refine sw_aload_n (pc := 5) hc dX7_estimateFor_5 rfl 2 rfl ?_
  refine sw_get (pc := 6) (v := .ref (ad 1 3)) hc fl_RX7_22 (hQ.at ct0) rfl dX7_estimateFor_6 ?_
  refine sw_callV (pc := 9) (rest := []) hc (c_Jx4a65c_size_8abf5 l g C (ad 1 3) (nI (iN (σ 26 0))) (if iN (σ 26 0) = 0 then g.2.2.2 0 else ad 2 3) (nI (iN (σ 26 0))) (hQ.at (ct1 (k := 3) (by decide)))) md_Jx4a65c_size_8abf5 ml_RX7_46 im_Jx4a65c_size_8abf5 sl_Jx4a65c_size_8abf5 (hQ.at (ct1 (k := 3) (by decide))) rfl rfl rfl (Nat.le_of_ble_eq_true rfl) dX7_estimateFor_9 ⟨Nat.le_of_ble_eq_true rfl, Nat.le_of_ble_eq_true rfl, Nat.le_of_ble_eq_true rfl, Nat.le_of_ble_eq_true rfl⟩ (fun v C' hP => ?_) (fun _ _ h => h.elim)
  obtain ⟨rfl, hCC⟩ := hP
  refine sw_eq (C' := C) hCC ?_
  refine sw_st (st' := [.int (nI (iN (σ 26 0)))]) rfl ?_
  refine sw_iconst (pc := 12) (v := 1) hc dX7_estimateFor_12 (by decide) ?_
  refine sw_isub (pc := 13) hc dX7_estimateFor_13 ?_
  refine sw_istore (pc := 14) hc dX7_estimateFor_14 (by decide) (lv' := [(5, .int ((nI (iN (σ 26 0))) - 1)), (4, .int 0), (3, .int 0), (0, .ref (ad 0 0)), (1, .ref (ad 11 k)), (2, .int y)]) rfl ?_
  have h_26 : (nI (iN (σ 26 0))) - 1 = nI (iN (σ 26 0)) - 1 := by first | with_reducible rfl | (rw [ek2, Int32.sub_eq_add_neg])
  have h_27 : rGs σ (nI k) y (iN (σ 26 0)) (0, 0) = rGsN σ (nI k) y := by rfl
  have h_28 : (iN (σ 26 0)) ≤ iN (σ 26 0) := by omega
  have h_29 : ∃ j, j ≤ 3 ∧ 0 = nI j := by exact ⟨0, by omega, rfl⟩
  exact sw_sub (ks := [3, 4, 5, 2, 1, 0]) rfl (K_16 _ (iN (σ 26 0)) ((nI (iN (σ 26 0))) - 1) 0 0 (Nat.lt_succ_self _) h_26 h_27 h_28 h_29)

set_option maxHeartbeats 4000000 in
set_option maxRecDepth 100000 in
theorem c_X7_costOf (l : Launch) (g : sg_G) (C : Nat → Option va_E) (ad : Ad) (own : Nat → Option (Nat × Nat)) (gh : Gh) (σ : Mem) (k : Nat) (hQ : Pic g ad own gh σ C) (hW : WX σ) (hk : k < iN (σ 30 0)) : sg_Met l yX7_costOf cX7_costOf 3 (some .int) 7 156 0 0 g [.ref (ad 0 0), .ref (ad 16 k)] C (fun v C' => v = some (.int (cCost σ k)) ∧ C' = C) (sg_no) := by
  refine sg_ofW (by decide) rfl ?_ (Nat.le_of_ble_eq_true rfl)
  intro p e s m below meth c hc hlk hrt hin2 htb
  have hc : sg_Cx p s m _ c cX7_costOf 3 RX7 g := hc
  show sg_W p l e _ s m _ below meth c 3 g 0 0 _ C 0 [(0, .ref (ad 0 0)), (1, .ref (ad 16 k))] []
  refine sw_aload_n (pc := 0) hc dX7_costOf_0 rfl 0 rfl ?_
  refine sw_aload_n (pc := 1) hc dX7_costOf_1 rfl 1 rfl ?_
  refine sw_get (pc := 2) (v := .ref (ad 11 (iN (σ 27 k)))) hc fl_RX7_289 (hQ.at (ct16 (k := k) hk)) rfl dX7_costOf_2 ?_
  refine sw_aload_n (pc := 5) hc dX7_costOf_5 rfl 1 rfl ?_
  refine sw_get (pc := 6) (v := .int (σ 28 k)) hc fl_RX7_290 (hQ.at (ct16 (k := k) hk)) rfl dX7_costOf_6 ?_
  refine sw_callV (pc := 9) (rest := []) hc (c_X7_estimateFor l g C ad own gh σ (iN (σ 27 k)) (σ 28 k) hQ hW (hW.wo hk)) md_X7_estimateFor ml_RX7_273 im_X7_estimateFor sl_X7_estimateFor (hQ.at ct0) rfl rfl rfl (Nat.le_of_ble_eq_true rfl) dX7_costOf_9 ⟨Nat.le_of_ble_eq_true rfl, Nat.le_of_ble_eq_true rfl, Nat.le_of_ble_eq_true rfl, Nat.le_of_ble_eq_true rfl⟩ (fun v C' hP => ?_) (fun _ _ h => h.elim)
  obtain ⟨rfl, hCC⟩ := hP
  refine sw_eq (C' := C) hCC ?_
  refine sw_st (st' := [.int (rGuess σ (nI (iN (σ 27 k))) (σ 28 k))]) rfl ?_
  refine sw_st (st' := [.int (rGuess σ (σ 27 k) (σ 28 k))]) (congrArg (fun z => ([.int z] : List Value)) ((congrArg (fun z => rGuess σ z (σ 28 k)) (hW.1.2.2.2.2.2.2.2.2.2.2.2.2 k hk).1.symm) : rGuess σ (nI (iN (σ 27 k))) (σ 28 k) = rGuess σ (σ 27 k) (σ 28 k))) ?_
  refine sw_istore_n (pc := 12) hc dX7_costOf_12 rfl (by decide) (lv' := [(2, .int (rGuess σ (σ 27 k) (σ 28 k))), (0, .ref (ad 0 0)), (1, .ref (ad 16 k))]) rfl ?_
  refine sw_iload_n (pc := 13) hc dX7_costOf_13 rfl 0 rfl ?_
  refine sw_iconst (pc := 14) (v := (-1)) hc dX7_costOf_14 (by decide) ?_
  refine sw_icmp_ne (pc := 15) (tgt := 24) hc dX7_costOf_15 (by decide) (fun c_1 => ?_) (fun c_1 => ?_)
  ·
    refine sw_iload_n (pc := 24) hc dX7_costOf_24 rfl 0 rfl ?_
    exact sw_iret (pc := 25) hc hlk hrt rfl ⟨congrArg (fun z => some (Value.int z)) (if_neg c_1).symm, rfl⟩ (Nat.le_of_ble_eq_true rfl) (Nat.le_of_ble_eq_true rfl) dX7_costOf_25
  ·
    refine sw_sipush (pc := 18) (v := 10001) hc dX7_costOf_18 (by decide) ?_
    refine sw_goto (pc := 21) (tgt := 25) hc dX7_costOf_21 (by decide) ?_
    exact sw_iret (pc := 25) hc hlk hrt rfl ⟨congrArg (fun z => some (Value.int z)) (if_pos c_1).symm, rfl⟩ (Nat.le_of_ble_eq_true rfl) (Nat.le_of_ble_eq_true rfl) dX7_costOf_25

set_option maxHeartbeats 4000000 in
set_option maxRecDepth 100000 in
theorem c_X7_placeFor (l : Launch) (g : sg_G) (C : Nat → Option va_E) (ad : Ad) (own : Nat → Option (Nat × Nat)) (gh : Gh) (σ : Mem) (k : Nat) (y : Int32) (w : Int32) (hQ : Pic g ad own gh σ C) (hW : WX σ) (hk : k < iN (σ 16 0)) (hwo : wok σ w) : sg_Met l yX7_placeFor cX7_placeFor 8 (some .int) 7 156 0 0 g [.ref (ad 0 0), .ref (ad 11 k), .int y, va_rf (wrf ad w)] C (fun v C' => v = some (.int (rSpot σ (nI k) y w)) ∧ C' = C) (sg_no) := by
  refine sg_ofW (by decide) rfl ?_ (by generalize (wrf ad w) = z; cases z <;> exact Nat.le_of_ble_eq_true rfl)
  intro p e s m below meth c hc hlk hrt hin2 htb
  have hc : sg_Cx p s m _ c cX7_placeFor 8 RX7 g := hc
  show sg_W p l e _ s m _ below meth c 8 g 0 0 _ C 0 [(0, .ref (ad 0 0)), (1, .ref (ad 11 k)), (2, .int y), (3, va_rf (wrf ad w))] []
  have K_22 : ∀ (n22 : Nat) (j : Nat) (pl : Int32) (hn22 : 8 - j < n22) (epl : pl = rSpotL σ (nI k) w (rTopN σ (nI k) y w) j) (hJ : j ≤ 8) (hown : ¬ rTopN σ (nI k) y w < 0) (hoi : iN (rTopN σ (nI k) y w) < iN (σ 26 0)), sg_W p l e (sg_rm 7 156 0 0) s m ([.ref (ad 0 0), .ref (ad 11 k), .int y, va_rf (wrf ad w)] : List Value).toArray below meth c 8 g 0 0 (sg_End below g (fun v C' => v = some (.int (rSpot σ (nI k) y w)) ∧ C' = C) (sg_no) ([.ref (ad 0 0), .ref (ad 11 k), .int y, va_rf (wrf ad w)] : List Value).toArray s 0 0) (C) 22 [(0, .ref (ad 0 0)), (1, .ref (ad 11 k)), (3, va_rf (wrf ad w)), (4, .ref (ad 15 (iN (rTopN σ (nI k) y w)))), (5, .int pl), (6, .int (nI j))] [] := by
    intro n22
    induction n22 with
    | zero => intro j pl hn22 epl hJ hown hoi; exact absurd hn22 (Nat.not_lt_zero _)
    | succ n22 ih22 =>
      intro j pl hn22 epl hJ hown hoi
      refine sw_iload (pc := 22) hc dX7_placeFor_22 5 rfl ?_
      refine sw_bipush (pc := 24) (v := 8) hc dX7_placeFor_24 (by decide) ?_
      refine sw_icmp_ge (pc := 26) (tgt := 66) hc dX7_placeFor_26 (by decide) (fun c_1 => ?_) (fun c_1 => ?_)
      ·
        have c_1' := Int32.not_lt.mpr c_1
        refine sw_iload (pc := 66) hc dX7_placeFor_66 4 rfl ?_
        have hj8 : j = 8 := by have := (nI_leI (a := 8) (b := j) (by decide) (by omega)).mp c_1; omega
        subst hj8
        exact sw_iret (pc := 68) hc hlk hrt rfl ⟨congrArg (fun z => some (Value.int z)) (show pl = rSpot σ (nI k) y w by rw [epl]; exact (if_neg hown).symm), rfl⟩ (Nat.le_of_ble_eq_true rfl) (Nat.le_of_ble_eq_true rfl) dX7_placeFor_68
      ·
        have c_1' := Int32.not_le.mp c_1
        have hj8 : j < 8 := (nI_ltI (a := j) (b := 8) (by omega) (by decide)).mp (Int32.not_le.mp c_1)
        refine sw_aload_n (pc := 29) hc dX7_placeFor_29 rfl 0 rfl ?_
        refine sw_aload_n (pc := 30) hc dX7_placeFor_30 rfl 1 rfl ?_
        refine sw_iload (pc := 31) hc dX7_placeFor_31 5 rfl ?_
        refine sw_aload_nq (pc := 33) hc dX7_placeFor_33 rfl 2 rfl ?_
        refine sw_callV (pc := 34) (rest := []) hc (c_X7_bestRun l g C ad own gh σ k (nI j) w hQ hW hk hwo) md_X7_bestRun ml_RX7_239 im_X7_bestRun sl_X7_bestRun (hQ.at ct0) rfl rfl rfl (Nat.le_of_ble_eq_true rfl) dX7_placeFor_34 ⟨Nat.le_of_ble_eq_true rfl, Nat.le_of_ble_eq_true rfl, Nat.le_of_ble_eq_true rfl, Nat.le_of_ble_eq_true rfl⟩ (fun v C' hP => ?_) (fun _ _ h => h.elim)
        obtain ⟨rfl, hCC⟩ := hP
        refine sw_eq (C' := C) hCC ?_
        refine sw_st (st' := [va_rf (wrf ad (rTopN σ (nI k) (nI j) w))]) rfl ?_
        refine sw_astoreq (pc := 37) hc dX7_placeFor_37 (by decide) (lv' := [(7, va_rf (wrf ad (rTopN σ (nI k) (nI j) w))), (0, .ref (ad 0 0)), (1, .ref (ad 11 k)), (3, va_rf (wrf ad w)), (4, .ref (ad 15 (iN (rTopN σ (nI k) y w)))), (5, .int pl), (6, .int (nI j))]) (by first | rfl | (simp [va_rf_c, cat_r, cat_i, cat_n]; done) | (simp [va_rf_c, cat_r, cat_i, cat_n]; rfl)) ?_
        refine sw_aloadq (pc := 39) hc dX7_placeFor_39 0 rfl ?_
        refine sw_ifnullq (pc := 41) (tgt := 60) hc dX7_placeFor_41 (by decide) (fun c_2 => ?_) (fun a_3 c_2 => ?_)
        ·
          have hb : rTopN σ (nI k) (nI j) w < 0 := wrf_n c_2
          have hst : pl = rSpotL σ (nI k) w (rTopN σ (nI k) y w) (j + 1) := rSpotL_n epl (fun q => absurd hb (Int32.not_lt.mpr q.2.1))
          refine sw_iinc (pc := 60) (v := nI (j + 1)) (lv' := [(6, .int (nI (j + 1))), (7, va_rf (wrf ad (rTopN σ (nI k) (nI j) w))), (0, .ref (ad 0 0)), (1, .ref (ad 11 k)), (3, va_rf (wrf ad w)), (4, .ref (ad 15 (iN (rTopN σ (nI k) y w)))), (5, .int pl)]) hc dX7_placeFor_60 (k := 6) rfl (nI_1 _) (by decide) (by first | rfl | (simp [va_rf_c, cat_r, cat_i, cat_n]; done) | (simp [va_rf_c, cat_r, cat_i, cat_n]; rfl)) ?_
          refine sw_goto (pc := 63) (tgt := 22) hc dX7_placeFor_63 (by decide) ?_
          have h_4 : pl = rSpotL σ (nI k) w (rTopN σ (nI k) y w) (j + 1) := by first | rfl | exact hst
          have h_5 : (j + 1) ≤ 8 := by omega
          have h_6 : ¬ rTopN σ (nI k) y w < 0 := by exact hown
          have h_7 : iN (rTopN σ (nI k) y w) < iN (σ 26 0) := by exact hoi
          have h_8 : 8 - (j + 1) < n22 := by omega
          exact sw_sub (ks := [2, 3, 4, 5, 6, 0]) rfl (ih22 (j + 1) pl h_8 h_4 h_5 h_6 h_7)
        ·
          obtain ⟨hb, hb_a⟩ := wrf_s c_2
          obtain ⟨hb_x, hb_i⟩ := rTop_x (σ := σ) (n := iN (σ 26 0)) (by have := hW.b3; have h9 : lsN σ 3 = iN (σ 26 0) := rfl; omega) (rfl : rTopN σ (nI k) (nI j) w = _) hb
          have hb_e : (wrf ad (rTopN σ (nI k) (nI j) w)) = some (ad 15 (iN (rTopN σ (nI k) (nI j) w))) := by rw [c_2, hb_a]
          refine sw_sub (ks := [0, 1, 2, 3, 4, 5, 6]) (lv' := [(7, .ref (ad 15 (iN (rTopN σ (nI k) (nI j) w)))), (0, .ref (ad 0 0)), (1, .ref (ad 11 k)), (3, va_rf (wrf ad w)), (4, .ref (ad 15 (iN (rTopN σ (nI k) y w)))), (5, .int pl), (6, .int (nI j))]) (congrArg (fun z => ([(7, va_rf z), (0, .ref (ad 0 0)), (1, .ref (ad 11 k)), (3, va_rf (wrf ad w)), (4, .ref (ad 15 (iN (rTopN σ (nI k) y w)))), (5, .int pl), (6, .int (nI j))] : List (Nat × Value))) hb_e) ?_
          refine sw_aload (pc := 44) hc dX7_placeFor_44 0 rfl ?_
          refine sw_get (pc := 46) (v := .int (σ 22 (iN (rTopN σ (nI k) (nI j) w)))) hc fl_RX7_272 (hQ.at (ct15 (k := (iN (rTopN σ (nI k) (nI j) w))) hb_i)) rfl dX7_placeFor_46 ?_
          refine sw_aload (pc := 49) hc dX7_placeFor_49 4 rfl ?_
          refine sw_get (pc := 51) (v := .int (σ 22 (iN (rTopN σ (nI k) y w)))) hc fl_RX7_272 (hQ.at (ct15 (k := (iN (rTopN σ (nI k) y w))) hoi)) rfl dX7_placeFor_51 ?_
          refine sw_icmp_ge (pc := 54) (tgt := 60) hc dX7_placeFor_54 (by decide) (fun c_9 => ?_) (fun c_9 => ?_)
          ·
            have c_9' := Int32.not_lt.mpr c_9
            have hst : pl = rSpotL σ (nI k) w (rTopN σ (nI k) y w) (j + 1) := rSpotL_n epl (fun q => absurd q.2.2 (Int32.not_lt.mpr c_9))
            refine sw_iinc (pc := 60) (v := nI (j + 1)) (lv' := [(6, .int (nI (j + 1))), (7, .ref (ad 15 (iN (rTopN σ (nI k) (nI j) w)))), (0, .ref (ad 0 0)), (1, .ref (ad 11 k)), (3, va_rf (wrf ad w)), (4, .ref (ad 15 (iN (rTopN σ (nI k) y w)))), (5, .int pl)]) hc dX7_placeFor_60 (k := 6) rfl (nI_1 _) (by decide) (by first | rfl | (simp [va_rf_c, cat_r, cat_i, cat_n]; done) | (simp [va_rf_c, cat_r, cat_i, cat_n]; rfl)) ?_
            refine sw_goto (pc := 63) (tgt := 22) hc dX7_placeFor_63 (by decide) ?_
            have h_10 : pl = rSpotL σ (nI k) w (rTopN σ (nI k) y w) (j + 1) := by first | rfl | exact hst
            have h_11 : (j + 1) ≤ 8 := by omega
            have h_12 : ¬ rTopN σ (nI k) y w < 0 := by exact hown
            have h_13 : iN (rTopN σ (nI k) y w) < iN (σ 26 0) := by exact hoi
            have h_14 : 8 - (j + 1) < n22 := by omega
            exact sw_sub (ks := [2, 3, 4, 5, 6, 0]) rfl (ih22 (j + 1) pl h_14 h_10 h_11 h_12 h_13)
          ·
            have c_9' := Int32.not_le.mp c_9
            refine sw_iinc (pc := 57) (v := pl + 1) (lv' := [(5, .int (pl + 1)), (7, .ref (ad 15 (iN (rTopN σ (nI k) (nI j) w)))), (0, .ref (ad 0 0)), (1, .ref (ad 11 k)), (3, va_rf (wrf ad w)), (4, .ref (ad 15 (iN (rTopN σ (nI k) y w)))), (6, .int (nI j))]) hc dX7_placeFor_57 (k := 5) rfl (by rfl) (by decide) (by first | rfl | (simp [va_rf_c, cat_r, cat_i, cat_n]; done) | (simp [va_rf_c, cat_r, cat_i, cat_n]; rfl)) ?_
            have hst : pl + 1 = rSpotL σ (nI k) w (rTopN σ (nI k) y w) (j + 1) := rSpotL_y epl ⟨Int32.not_lt.mp hown, Int32.not_lt.mp hb, Int32.not_le.mp c_9⟩
            refine sw_iinc (pc := 60) (v := nI (j + 1)) (lv' := [(6, .int (nI (j + 1))), (5, .int (pl + 1)), (7, .ref (ad 15 (iN (rTopN σ (nI k) (nI j) w)))), (0, .ref (ad 0 0)), (1, .ref (ad 11 k)), (3, va_rf (wrf ad w)), (4, .ref (ad 15 (iN (rTopN σ (nI k) y w))))]) hc dX7_placeFor_60 (k := 6) rfl (nI_1 _) (by decide) (by first | rfl | (simp [va_rf_c, cat_r, cat_i, cat_n]; done) | (simp [va_rf_c, cat_r, cat_i, cat_n]; rfl)) ?_
            refine sw_goto (pc := 63) (tgt := 22) hc dX7_placeFor_63 (by decide) ?_
            have h_15 : pl + 1 = rSpotL σ (nI k) w (rTopN σ (nI k) y w) (j + 1) := by first | rfl | exact hst
            have h_16 : (j + 1) ≤ 8 := by omega
            have h_17 : ¬ rTopN σ (nI k) y w < 0 := by exact hown
            have h_18 : iN (rTopN σ (nI k) y w) < iN (σ 26 0) := by exact hoi
            have h_19 : 8 - (j + 1) < n22 := by omega
            exact sw_sub (ks := [3, 4, 5, 6, 1, 0]) rfl (ih22 (j + 1) (pl + 1) h_19 h_15 h_16 h_17 h_18)
  refine sw_aload_n (pc := 0) hc dX7_placeFor_0 rfl 0 rfl ?_
  refine sw_aload_n (pc := 1) hc dX7_placeFor_1 rfl 1 rfl ?_
  refine sw_iload_n (pc := 2) hc dX7_placeFor_2 rfl 2 rfl ?_
  refine sw_aload_nq (pc := 3) hc dX7_placeFor_3 rfl 3 rfl ?_
  refine sw_callV (pc := 4) (rest := []) hc (c_X7_bestRun l g C ad own gh σ k y w hQ hW hk hwo) md_X7_bestRun ml_RX7_239 im_X7_bestRun sl_X7_bestRun (hQ.at ct0) rfl rfl rfl (Nat.le_of_ble_eq_true rfl) dX7_placeFor_4 ⟨Nat.le_of_ble_eq_true rfl, Nat.le_of_ble_eq_true rfl, Nat.le_of_ble_eq_true rfl, Nat.le_of_ble_eq_true rfl⟩ (fun v C' hP => ?_) (fun _ _ h => h.elim)
  obtain ⟨rfl, hCC⟩ := hP
  refine sw_eq (C' := C) hCC ?_
  refine sw_st (st' := [va_rf (wrf ad (rTopN σ (nI k) y w))]) rfl ?_
  refine sw_astoreq (pc := 7) hc dX7_placeFor_7 (by decide) (lv' := [(4, va_rf (wrf ad (rTopN σ (nI k) y w))), (0, .ref (ad 0 0)), (1, .ref (ad 11 k)), (2, .int y), (3, va_rf (wrf ad w))]) (by first | rfl | (simp [va_rf_c, cat_r, cat_i, cat_n]; done) | (simp [va_rf_c, cat_r, cat_i, cat_n]; rfl)) ?_
  refine sw_aloadq (pc := 9) hc dX7_placeFor_9 0 rfl ?_
  refine sw_ifnonnullq (pc := 11) (tgt := 16) hc dX7_placeFor_11 (by decide) (fun a_21 c_20 => ?_) (fun c_20 => ?_)
  ·
    obtain ⟨hown, hown_a⟩ := wrf_s c_20
    obtain ⟨hown_x, hown_i⟩ := rTop_x (σ := σ) (n := iN (σ 26 0)) (by have := hW.b3; have h9 : lsN σ 3 = iN (σ 26 0) := rfl; omega) (rfl : rTopN σ (nI k) y w = _) hown
    have hown_e : (wrf ad (rTopN σ (nI k) y w)) = some (ad 15 (iN (rTopN σ (nI k) y w))) := by rw [c_20, hown_a]
    refine sw_sub (ks := [0, 1, 2, 3, 4]) (lv' := [(4, .ref (ad 15 (iN (rTopN σ (nI k) y w)))), (0, .ref (ad 0 0)), (1, .ref (ad 11 k)), (2, .int y), (3, va_rf (wrf ad w))]) (congrArg (fun z => ([(4, va_rf z), (0, .ref (ad 0 0)), (1, .ref (ad 11 k)), (2, .int y), (3, va_rf (wrf ad w))] : List (Nat × Value))) hown_e) ?_
    refine sw_iconst (pc := 16) (v := 1) hc dX7_placeFor_16 (by decide) ?_
    refine sw_istore (pc := 17) hc dX7_placeFor_17 (by decide) (lv' := [(5, .int 1), (4, .ref (ad 15 (iN (rTopN σ (nI k) y w)))), (0, .ref (ad 0 0)), (1, .ref (ad 11 k)), (2, .int y), (3, va_rf (wrf ad w))]) (by first | rfl | (simp [va_rf_c, cat_r, cat_i, cat_n]; done) | (simp [va_rf_c, cat_r, cat_i, cat_n]; rfl)) ?_
    refine sw_iconst (pc := 19) (v := 0) hc dX7_placeFor_19 (by decide) ?_
    refine sw_istore (pc := 20) hc dX7_placeFor_20 (by decide) (lv' := [(6, .int 0), (5, .int 1), (4, .ref (ad 15 (iN (rTopN σ (nI k) y w)))), (0, .ref (ad 0 0)), (1, .ref (ad 11 k)), (2, .int y), (3, va_rf (wrf ad w))]) (by first | rfl | (simp [va_rf_c, cat_r, cat_i, cat_n]; done) | (simp [va_rf_c, cat_r, cat_i, cat_n]; rfl)) ?_
    have h_22 : 1 = rSpotL σ (nI k) w (rTopN σ (nI k) y w) 0 := by first | rfl | exact hst
    have h_23 : 0 ≤ 8 := by omega
    have h_24 : ¬ rTopN σ (nI k) y w < 0 := by exact hown
    have h_25 : iN (rTopN σ (nI k) y w) < iN (σ 26 0) := by exact hown_i
    exact sw_sub (ks := [3, 4, 6, 2, 1, 0]) rfl (K_22 _ 0 1 (Nat.lt_succ_self _) h_22 h_23 h_24 h_25)
  ·
    have hown : rTopN σ (nI k) y w < 0 := wrf_n c_20
    refine sw_iconst (pc := 14) (v := (-1)) hc dX7_placeFor_14 (by decide) ?_
    exact sw_iret (pc := 15) hc hlk hrt rfl ⟨congrArg (fun z => some (Value.int z)) (show (-1 : Int32) = rSpot σ (nI k) y w from (if_pos hown).symm), rfl⟩ (Nat.le_of_ble_eq_true rfl) (Nat.le_of_ble_eq_true rfl) dX7_placeFor_15

set_option maxHeartbeats 4000000 in
set_option maxRecDepth 100000 in
theorem c_X7_countAhead (l : Launch) (g : sg_G) (C : Nat → Option va_E) (ad : Ad) (own : Nat → Option (Nat × Nat)) (gh : Gh) (σ : Mem) (r : Nat) (hQ : Pic g ad own gh σ C) (hW : WX σ) (hr : r < iN (σ 26 0)) : sg_Met l yX7_countAhead cX7_countAhead 5 (some .int) 7 156 0 0 g [.ref (ad 0 0), .ref (ad 15 r)] C (fun v C' => v = some (.int (rAtB σ (nI (iN (σ 19 r))) (nI r) 8)) ∧ C' = C) (sg_no) := by
  refine sg_ofW (by decide) rfl ?_ (Nat.le_of_ble_eq_true rfl)
  intro p e s m below meth c hc hlk hrt hin2 htb
  have hc : sg_Cx p s m _ c cX7_countAhead 5 RX7 g := hc
  show sg_W p l e _ s m _ below meth c 5 g 0 0 _ C 0 [(0, .ref (ad 0 0)), (1, .ref (ad 15 r))] []
  have hrr : iN (nI r) = r := nI_clamp (by have := hW.b3; have h9 : lsN σ 3 = iN (σ 26 0) := rfl; omega)
  have K_4 : ∀ (n4 : Nat) (j : Nat) (a : Int32) (hn4 : 8 - j < n4) (ea : a = rAtB σ (nI (iN (σ 19 r))) (nI r) j) (hJ : j ≤ 8), sg_W p l e (sg_rm 7 156 0 0) s m ([.ref (ad 0 0), .ref (ad 15 r)] : List Value).toArray below meth c 5 g 0 0 (sg_End below g (fun v C' => v = some (.int (rAtB σ (nI (iN (σ 19 r))) (nI r) 8)) ∧ C' = C) (sg_no) ([.ref (ad 0 0), .ref (ad 15 r)] : List Value).toArray s 0 0) (C) 4 [(0, .ref (ad 0 0)), (1, .ref (ad 15 r)), (2, .int a), (3, .int (nI j))] [] := by
    intro n4
    induction n4 with
    | zero => intro j a hn4 ea hJ; exact absurd hn4 (Nat.not_lt_zero _)
    | succ n4 ih4 =>
      intro j a hn4 ea hJ
      refine sw_iload_n (pc := 4) hc dX7_countAhead_4 rfl 3 rfl ?_
      refine sw_bipush (pc := 5) (v := 8) hc dX7_countAhead_5 (by decide) ?_
      refine sw_icmp_ge (pc := 7) (tgt := 45) hc dX7_countAhead_7 (by decide) (fun c_1 => ?_) (fun c_1 => ?_)
      ·
        have c_1' := Int32.not_lt.mpr c_1
        refine sw_iload_n (pc := 45) hc dX7_countAhead_45 rfl 2 rfl ?_
        have hj8 : j = 8 := by have := (nI_leI (a := 8) (b := j) (by decide) (by omega)).mp c_1; omega
        subst hj8
        exact sw_iret (pc := 46) hc hlk hrt rfl ⟨congrArg (fun z => some (Value.int z)) ea, rfl⟩ (Nat.le_of_ble_eq_true rfl) (Nat.le_of_ble_eq_true rfl) dX7_countAhead_46
      ·
        have c_1' := Int32.not_le.mp c_1
        have hj8 : j < 8 := (nI_ltI (a := j) (b := 8) (by omega) (by decide)).mp (Int32.not_le.mp c_1)
        refine sw_aload_n (pc := 10) hc dX7_countAhead_10 rfl 0 rfl ?_
        refine sw_aload_n (pc := 11) hc dX7_countAhead_11 rfl 1 rfl ?_
        refine sw_get (pc := 12) (v := .ref (ad 11 (iN (σ 19 r)))) hc fl_RX7_226 (hQ.at (ct15 (k := r) hr)) rfl dX7_countAhead_12 ?_
        refine sw_iload_n (pc := 15) hc dX7_countAhead_15 rfl 3 rfl ?_
        refine sw_null (pc := 16) hc dX7_countAhead_16 ?_
        refine sw_callV (pc := 17) (rest := []) hc (c_X7_bestRun l g C ad own gh σ (iN (σ 19 r)) (nI j) (-1) hQ hW (hW.wc hr) (.inl (by decide))) md_X7_bestRun ml_RX7_239 im_X7_bestRun sl_X7_bestRun (hQ.at ct0) rfl rfl rfl (Nat.le_of_ble_eq_true rfl) dX7_countAhead_17 ⟨Nat.le_of_ble_eq_true rfl, Nat.le_of_ble_eq_true rfl, Nat.le_of_ble_eq_true rfl, Nat.le_of_ble_eq_true rfl⟩ (fun v C' hP => ?_) (fun _ _ h => h.elim)
        obtain ⟨rfl, hCC⟩ := hP
        refine sw_eq (C' := C) hCC ?_
        refine sw_st (st' := [va_rf (wrf ad (rTopN σ (nI (iN (σ 19 r))) (nI j) (-1)))]) rfl ?_
        refine sw_astoreq (pc := 20) hc dX7_countAhead_20 (by decide) (lv' := [(4, va_rf (wrf ad (rTopN σ (nI (iN (σ 19 r))) (nI j) (-1)))), (0, .ref (ad 0 0)), (1, .ref (ad 15 r)), (2, .int a), (3, .int (nI j))]) (by first | rfl | (simp [va_rf_c, cat_r, cat_i, cat_n]; done) | (simp [va_rf_c, cat_r, cat_i, cat_n]; rfl)) ?_
        refine sw_aloadq (pc := 22) hc dX7_countAhead_22 0 rfl ?_
        refine sw_ifnullq (pc := 24) (tgt := 39) hc dX7_countAhead_24 (by decide) (fun c_2 => ?_) (fun a_3 c_2 => ?_)
        ·
          have hb : rTopN σ (nI (iN (σ 19 r))) (nI j) (-1) < 0 := wrf_n c_2
          have hst : a = rAtB σ (nI (iN (σ 19 r))) (nI r) (j + 1) := rAtB_n ea (fun q => absurd hb (Int32.not_lt.mpr q.1))
          refine sw_iinc (pc := 39) (v := nI (j + 1)) (lv' := [(3, .int (nI (j + 1))), (4, va_rf (wrf ad (rTopN σ (nI (iN (σ 19 r))) (nI j) (-1)))), (0, .ref (ad 0 0)), (1, .ref (ad 15 r)), (2, .int a)]) hc dX7_countAhead_39 (k := 4) rfl (nI_1 _) (by decide) (by first | rfl | (simp [va_rf_c, cat_r, cat_i, cat_n]; done) | (simp [va_rf_c, cat_r, cat_i, cat_n]; rfl)) ?_
          refine sw_goto (pc := 42) (tgt := 4) hc dX7_countAhead_42 (by decide) ?_
          have h_4 : a = rAtB σ (nI (iN (σ 19 r))) (nI r) (j + 1) := by first | rfl | exact hst
          have h_5 : (j + 1) ≤ 8 := by omega
          have h_6 : 8 - (j + 1) < n4 := by omega
          exact sw_sub (ks := [2, 3, 4, 0]) rfl (ih4 (j + 1) a h_6 h_4 h_5)
        ·
          obtain ⟨hb, hb_a⟩ := wrf_s c_2
          obtain ⟨hb_x, hb_i⟩ := rTop_x (σ := σ) (n := iN (σ 26 0)) (by have := hW.b3; have h9 : lsN σ 3 = iN (σ 26 0) := rfl; omega) (rfl : rTopN σ (nI (iN (σ 19 r))) (nI j) (-1) = _) hb
          have hb_e : (wrf ad (rTopN σ (nI (iN (σ 19 r))) (nI j) (-1))) = some (ad 15 (iN (rTopN σ (nI (iN (σ 19 r))) (nI j) (-1)))) := by rw [c_2, hb_a]
          refine sw_sub (ks := [0, 1, 2, 3, 4]) (lv' := [(4, .ref (ad 15 (iN (rTopN σ (nI (iN (σ 19 r))) (nI j) (-1))))), (0, .ref (ad 0 0)), (1, .ref (ad 15 r)), (2, .int a), (3, .int (nI j))]) (congrArg (fun z => ([(4, va_rf z), (0, .ref (ad 0 0)), (1, .ref (ad 15 r)), (2, .int a), (3, .int (nI j))] : List (Nat × Value))) hb_e) ?_
          refine sw_aload (pc := 27) hc dX7_countAhead_27 0 rfl ?_
          refine sw_aload_n (pc := 29) hc dX7_countAhead_29 rfl 2 rfl ?_
          refine sw_callV (pc := 30) (rest := []) hc (c_X6_isAheadOf l g C (ad 15 (iN (rTopN σ (nI (iN (σ 19 r))) (nI j) (-1)))) (ad 15 r) (nI (iN (rTopN σ (nI (iN (σ 19 r))) (nI j) (-1)))) (σ 18 (iN (rTopN σ (nI (iN (σ 19 r))) (nI j) (-1)))) (ad 7 (iN (σ 17 (iN (rTopN σ (nI (iN (σ 19 r))) (nI j) (-1)))))) (ad 11 (iN (σ 19 (iN (rTopN σ (nI (iN (σ 19 r))) (nI j) (-1)))))) (σ 20 (iN (rTopN σ (nI (iN (σ 19 r))) (nI j) (-1)))) (σ 22 (iN (rTopN σ (nI (iN (σ 19 r))) (nI j) (-1)))) (σ 21 (iN (rTopN σ (nI (iN (σ 19 r))) (nI j) (-1)))) (nI r) (σ 18 r) (ad 7 (iN (σ 17 r))) (ad 11 (iN (σ 19 r))) (σ 20 r) (σ 22 r) (σ 21 r) (hQ.at (ct15 (k := (iN (rTopN σ (nI (iN (σ 19 r))) (nI j) (-1)))) hb_i)) (hQ.at (ct15 (k := r) hr))) md_X6_isAheadOf ml_RX7_269 im_X6_isAheadOf sl_X6_isAheadOf (hQ.at (ct15 (k := (iN (rTopN σ (nI (iN (σ 19 r))) (nI j) (-1)))) hb_i)) rfl rfl rfl (Nat.le_of_ble_eq_true rfl) dX7_countAhead_30 ⟨Nat.le_of_ble_eq_true rfl, Nat.le_of_ble_eq_true rfl, Nat.le_of_ble_eq_true rfl, Nat.le_of_ble_eq_true rfl⟩ (fun v C' hP => ?_) (fun _ _ h => h.elim)
          obtain ⟨rfl, hCC⟩ := hP
          refine sw_eq (C' := C) hCC ?_
          refine sw_st (st' := [.int (bI ((σ 22 (iN (rTopN σ (nI (iN (σ 19 r))) (nI j) (-1)))) < (σ 22 r) ∨ ((σ 22 (iN (rTopN σ (nI (iN (σ 19 r))) (nI j) (-1)))) = (σ 22 r) ∧ (nI (iN (rTopN σ (nI (iN (σ 19 r))) (nI j) (-1)))) < (nI r))))]) rfl ?_
          refine sw_if_eq (pc := 33) (tgt := 39) hc dX7_countAhead_33 (by decide) (fun c_7 => ?_) (fun c_7 => ?_)
          ·
            have p_8 : ¬ ((σ 22 (iN (rTopN σ (nI (iN (σ 19 r))) (nI j) (-1)))) < (σ 22 r) ∨ ((σ 22 (iN (rTopN σ (nI (iN (σ 19 r))) (nI j) (-1)))) = (σ 22 r) ∧ (nI (iN (rTopN σ (nI (iN (σ 19 r))) (nI j) (-1)))) < (nI r))) := bI_0 c_7
            have hst : a = rAtB σ (nI (iN (σ 19 r))) (nI r) (j + 1) := rAtB_n ea (fun q => p_8 ((ahd_eq hW hb_i hr).mpr (by have q2 := q.2; rw [hrr] at q2; exact q2)))
            refine sw_iinc (pc := 39) (v := nI (j + 1)) (lv' := [(3, .int (nI (j + 1))), (4, .ref (ad 15 (iN (rTopN σ (nI (iN (σ 19 r))) (nI j) (-1))))), (0, .ref (ad 0 0)), (1, .ref (ad 15 r)), (2, .int a)]) hc dX7_countAhead_39 (k := 4) rfl (nI_1 _) (by decide) rfl ?_
            refine sw_goto (pc := 42) (tgt := 4) hc dX7_countAhead_42 (by decide) ?_
            have h_9 : a = rAtB σ (nI (iN (σ 19 r))) (nI r) (j + 1) := by first | rfl | exact hst
            have h_10 : (j + 1) ≤ 8 := by omega
            have h_11 : 8 - (j + 1) < n4 := by omega
            exact sw_sub (ks := [2, 3, 4, 0]) rfl (ih4 (j + 1) a h_11 h_9 h_10)
          ·
            have p_12 : (σ 22 (iN (rTopN σ (nI (iN (σ 19 r))) (nI j) (-1)))) < (σ 22 r) ∨ ((σ 22 (iN (rTopN σ (nI (iN (σ 19 r))) (nI j) (-1)))) = (σ 22 r) ∧ (nI (iN (rTopN σ (nI (iN (σ 19 r))) (nI j) (-1)))) < (nI r)) := bI_n c_7
            refine sw_iinc (pc := 36) (v := a + 1) (lv' := [(2, .int (a + 1)), (4, .ref (ad 15 (iN (rTopN σ (nI (iN (σ 19 r))) (nI j) (-1))))), (0, .ref (ad 0 0)), (1, .ref (ad 15 r)), (3, .int (nI j))]) hc dX7_countAhead_36 (k := 3) rfl (by rfl) (by decide) rfl ?_
            have hst : a + 1 = rAtB σ (nI (iN (σ 19 r))) (nI r) (j + 1) := rAtB_1 ea (Int32.not_lt.mp hb) (by rw [hrr]; exact (ahd_eq hW hb_i hr).mp p_12)
            refine sw_iinc (pc := 39) (v := nI (j + 1)) (lv' := [(3, .int (nI (j + 1))), (2, .int (a + 1)), (4, .ref (ad 15 (iN (rTopN σ (nI (iN (σ 19 r))) (nI j) (-1))))), (0, .ref (ad 0 0)), (1, .ref (ad 15 r))]) hc dX7_countAhead_39 (k := 4) rfl (nI_1 _) (by decide) rfl ?_
            refine sw_goto (pc := 42) (tgt := 4) hc dX7_countAhead_42 (by decide) ?_
            have h_13 : a + 1 = rAtB σ (nI (iN (σ 19 r))) (nI r) (j + 1) := by first | rfl | exact hst
            have h_14 : (j + 1) ≤ 8 := by omega
            have h_15 : 8 - (j + 1) < n4 := by omega
            exact sw_sub (ks := [3, 4, 1, 0]) rfl (ih4 (j + 1) (a + 1) h_15 h_13 h_14)
  refine sw_iconst (pc := 0) (v := 0) hc dX7_countAhead_0 (by decide) ?_
  refine sw_istore_n (pc := 1) hc dX7_countAhead_1 rfl (by decide) (lv' := [(2, .int 0), (0, .ref (ad 0 0)), (1, .ref (ad 15 r))]) rfl ?_
  refine sw_iconst (pc := 2) (v := 0) hc dX7_countAhead_2 (by decide) ?_
  refine sw_istore_n (pc := 3) hc dX7_countAhead_3 rfl (by decide) (lv' := [(3, .int 0), (2, .int 0), (0, .ref (ad 0 0)), (1, .ref (ad 15 r))]) rfl ?_
  have h_16 : 0 = rAtB σ (nI (iN (σ 19 r))) (nI r) 0 := by first | rfl | exact hst
  have h_17 : 0 ≤ 8 := by omega
  exact sw_sub (ks := [2, 3, 1, 0]) rfl (K_4 _ 0 0 (Nat.lt_succ_self _) h_16 h_17)
