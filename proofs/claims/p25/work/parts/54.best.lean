
/-! the best run of a runner -/
theorem cat_r (a : Nat) : (Value.ref a).category = 1 := rfl
theorem cat_i (a : Int32) : (Value.int a).category = 1 := rfl
theorem cat_n : Value.null.category = 1 := rfl
def wrf (ad : Ad) (w : Int32) : Option Nat := if w < 0 then none else some (ad 15 (iN w))
theorem wrf_s {ad : Ad} {w : Int32} {a : Nat} (h : wrf ad w = some a) : ¬ w < 0 ∧ a = ad 15 (iN w) := by
  unfold wrf at h
  split at h
  · cases h
  · next hw => exact ⟨hw, (Option.some.inj h).symm⟩
theorem wrf_n {ad : Ad} {w : Int32} (h : wrf ad w = none) : w < 0 := by
  unfold wrf at h
  split at h
  · assumption
  · cases h
theorem wrf_i {g : sg_G} {ad : Ad} {own : Nat → Option (Nat × Nat)} {gh : Gh} {σ : Mem} {C : Nat → Option va_E} (hQ : Pic g ad own gh σ C) (hW : WX σ) {i : Nat} (hi : i < iN (σ 26 0)) : wrf ad (nI i) = some (ad 15 i) := by
  have hb : iN (σ 26 0) < 41 := hW.1.2.2.2.1.2
  unfold wrf
  rw [if_neg (nI_pos (by omega)), show iN (nI i) = i from nI_clamp (by omega)]
/-- a run that may be missing: its number is one of the runs', or it is -1 -/
def wok (σ : Mem) (w : Int32) : Prop := w < 0 ∨ (w = nI (iN w) ∧ iN w < iN (σ 26 0))
theorem wrf_eq {g : sg_G} {ad : Ad} {own : Nat → Option (Nat × Nat)} {gh : Gh} {σ : Mem} {C : Nat → Option va_E} (hQ : Pic g ad own gh σ C) (hW : WX σ) {i : Nat} {w : Int32} (hi : i < iN (σ 26 0)) (hw : wok σ w) : some (ad 15 i) = wrf ad w ↔ nI i = w := by
  have hb : iN (σ 26 0) < 41 := hW.1.2.2.2.1.2
  constructor
  · intro q
    obtain ⟨h1, h2⟩ := wrf_s q.symm
    rcases hw with h | ⟨h3, h4⟩
    · exact absurd h h1
    · rw [hQ.inj (ct15 hi) (ct15 h4) h2]
      exact h3.symm
  · intro q
    rw [← q]
    exact (wrf_i hQ hW hi).symm
/-- the class puts the fewer ticks first, of as many the lower number; days go up with the numbers -/
theorem ahd_eq {σ : Mem} (hW : WX σ) {i j : Nat} (hi : i < iN (σ 26 0)) (hj : j < iN (σ 26 0)) : (σ 22 i < σ 22 j ∨ (σ 22 i = σ 22 j ∧ nI i < nI j)) ↔ rAhd σ i j := by
  have hb : iN (σ 26 0) < 41 := hW.1.2.2.2.1.2
  have hd := hW.2.1.1
  show _ ↔ (if σ 22 i = σ 22 j then (if σ 20 i = σ 20 j then nI i < nI j else σ 20 i < σ 20 j) else σ 22 i < σ 22 j)
  by_cases h1 : σ 22 i = σ 22 j
  · rw [if_pos h1]
    by_cases h2 : σ 20 i = σ 20 j
    · rw [if_pos h2]
      exact ⟨fun q => q.elim (fun q => absurd h1 (Int32.ne_of_lt q)) And.right, fun q => .inr ⟨h1, q⟩⟩
    · rw [if_neg h2]
      constructor
      · intro q
        rcases q with q | q
        · exact absurd h1 (Int32.ne_of_lt q)
        · have q3 := (nI_ltI (by omega) (by omega)).mp q.2
          exact Int32.lt_of_le_of_ne (hd j i (by omega) hj) h2
      · intro q
        refine .inr ⟨h1, (nI_ltI (by omega) (by omega)).mpr ?_⟩
        rcases Nat.lt_or_ge i j with h3 | h3
        · exact h3
        · exact (Int32.lt_irrefl (Int32.lt_of_lt_of_le q (hd i j h3 hi))).elim
  · rw [if_neg h1]
    exact ⟨fun q => q.elim id (fun q => absurd q.1 h1), .inl⟩
theorem rTop_s (σ : Mem) (x y w : Int32) (k : Nat) : rTop σ x y w (k + 1) = if (¬ nI k = w ∧ σ 19 k = x ∧ σ 18 k = y ∧ rCnt σ k) ∧ (rTop σ x y w k < 0 ∨ rAhd σ k (iN (rTop σ x y w k))) then nI k else rTop σ x y w k := rfl

theorem md_X6_isFor : sg_MD yX6_isFor cX6_isFor 3 (some .boolean) 2 := ⟨sg_mem (i := 693) (by decide +kernel) rfl, sg_mem (i := 46) (by decide +kernel) rfl, ⟨by decide, by decide⟩, by decide +kernel⟩
theorem ml_RX7_246 : sg_ML RX7 246 yX6_isFor := .inl (sg_mem (i := 690) (by decide +kernel) rfl)
theorem im_X6_isFor : Cond.instanceMethod yX6_isFor ∈ sg_T := sg_mem (i := 691) (by decide +kernel) rfl
theorem sl_X6_isFor : Cond.selects yX6_isFor.cls yX6_isFor yX6_isFor ∈ sg_T := sg_mem (i := 692) (by decide +kernel) rfl
theorem md_X7_counts : sg_MD yX7_counts cX7_counts 1 (some .boolean) 1 := ⟨sg_mem (i := 696) (by decide +kernel) rfl, sg_mem (i := 26) (by decide +kernel) rfl, ⟨by decide, by decide⟩, by decide +kernel⟩
theorem ml_RX7_266 : sg_ML RX7 266 yX7_counts := .inl (sg_mem (i := 694) (by decide +kernel) rfl)
theorem st_X7_counts : Cond.static yX7_counts ∈ sg_T := sg_mem (i := 695) (by decide +kernel) rfl
theorem md_X6_isAheadOf : sg_MD yX6_isAheadOf cX6_isAheadOf 2 (some .boolean) 1 := ⟨sg_mem (i := 711) (by decide +kernel) rfl, sg_mem (i := 46) (by decide +kernel) rfl, ⟨by decide, by decide⟩, by decide +kernel⟩
theorem ml_RX7_269 : sg_ML RX7 269 yX6_isAheadOf := .inl (sg_mem (i := 708) (by decide +kernel) rfl)
theorem im_X6_isAheadOf : Cond.instanceMethod yX6_isAheadOf ∈ sg_T := sg_mem (i := 709) (by decide +kernel) rfl
theorem sl_X6_isAheadOf : Cond.selects yX6_isAheadOf.cls yX6_isAheadOf yX6_isAheadOf ∈ sg_T := sg_mem (i := 710) (by decide +kernel) rfl
set_option maxHeartbeats 4000000 in
set_option maxRecDepth 100000 in
theorem c_X7_bestRun (l : Launch) (g : sg_G) (C : Nat → Option va_E) (ad : Ad) (own : Nat → Option (Nat × Nat)) (gh : Gh) (σ : Mem) (k : Nat) (y : Int32) (w : Int32) (hQ : Pic g ad own gh σ C) (hW : WX σ) (hk : k < iN (σ 16 0)) (hwo : wok σ w) : sg_Met l yX7_bestRun cX7_bestRun 7 (some (.object "SplitGate$Run")) 6 130 0 0 g [.ref (ad 0 0), .ref (ad 11 k), .int y, va_rf (wrf ad w)] C (fun v C' => v = some (va_rf (wrf ad (rTopN σ (nI k) y w))) ∧ C' = C) (sg_no) := by
  refine sg_ofW (by decide) rfl ?_ (by generalize (wrf ad w) = z; cases z <;> exact Nat.le_of_ble_eq_true rfl)
  intro p e s m below meth c hc hlk hrt hin2 htb
  have hc : sg_Cx p s m _ c cX7_bestRun 7 RX7 g := hc
  show sg_W p l e _ s m _ below meth c 7 g 0 0 _ C 0 [(0, .ref (ad 0 0)), (1, .ref (ad 11 k)), (2, .int y), (3, va_rf (wrf ad w))] []
  have K_6 : ∀ (n6 : Nat) (i : Nat) (b : Option Nat) (hn6 : iN (σ 26 0) - i < n6) (eb : b = wrf ad (rTop σ (nI k) y w i)) (hJ : i ≤ iN (σ 26 0)), sg_W p l e (sg_rm 6 130 0 0) s m ([.ref (ad 0 0), .ref (ad 11 k), .int y, va_rf (wrf ad w)] : List Value).toArray below meth c 7 g 0 0 (sg_End below g (fun v C' => v = some (va_rf (wrf ad (rTopN σ (nI k) y w))) ∧ C' = C) (sg_no) ([.ref (ad 0 0), .ref (ad 11 k), .int y, va_rf (wrf ad w)] : List Value).toArray s 0 0) (C) 6 [(0, .ref (ad 0 0)), (1, .ref (ad 11 k)), (2, .int y), (3, va_rf (wrf ad w)), (4, va_rf b), (5, .int (nI i))] [] := by
    intro n6
    induction n6 with
    | zero => intro i b hn6 eb hJ; exact absurd hn6 (Nat.not_lt_zero _)
    | succ n6 ih6 =>
      intro i b hn6 eb hJ
      refine sw_iload (pc := 6) hc dX7_bestRun_6 5 rfl ?_
      refine sw_aload_n (pc := 8) hc dX7_bestRun_8 rfl 0 rfl ?_
      refine sw_get (pc := 9) (v := .ref (ad 1 3)) hc fl_RX7_22 (hQ.at ct0) rfl dX7_bestRun_9 ?_
      refine sw_callV (pc := 12) (rest := [.int (nI i)]) hc (c_Jx4a65c_size_8abf5 l g C (ad 1 3) (nI (iN (σ 26 0))) (if iN (σ 26 0) = 0 then g.2.2.2 0 else ad 2 3) (nI (iN (σ 26 0))) (hQ.at (ct1 (k := 3) (by decide)))) md_Jx4a65c_size_8abf5 ml_RX7_46 im_Jx4a65c_size_8abf5 sl_Jx4a65c_size_8abf5 (hQ.at (ct1 (k := 3) (by decide))) rfl rfl rfl (Nat.le_of_ble_eq_true rfl) dX7_bestRun_12 ⟨Nat.le_of_ble_eq_true rfl, Nat.le_of_ble_eq_true rfl, Nat.le_of_ble_eq_true rfl, Nat.le_of_ble_eq_true rfl⟩ (fun v C' hP => ?_) (fun _ _ h => h.elim)
      obtain ⟨rfl, hCC⟩ := hP
      refine sw_eq (C' := C) hCC ?_
      refine sw_st (st' := [.int (nI (iN (σ 26 0))), .int (nI i)]) rfl ?_
      refine sw_icmp_ge (pc := 15) (tgt := 81) hc dX7_bestRun_15 (by decide) (fun c_1 => ?_) (fun c_1 => ?_)
      ·
        have c_1' := Int32.not_lt.mpr c_1
        refine sw_aloadq (pc := 81) hc dX7_bestRun_81 4 rfl ?_
        exact sw_aret (pc := 83) hc hlk hrt (.inl ⟨_, rfl⟩) (va_rf_or _) ⟨by rw [eb, show i = iN (σ 26 0) from Nat.le_antisymm hJ ((nI_leI (by have := hW.b3; have h9 : lsN σ 3 = iN (σ 26 0) := rfl; omega) (by have := hW.b3; have h9 : lsN σ 3 = iN (σ 26 0) := rfl; omega)).mp c_1)]; rfl, rfl⟩ (Nat.le_of_ble_eq_true rfl) (Nat.le_of_ble_eq_true rfl) dX7_bestRun_83
      ·
        have c_1' := Int32.not_le.mp c_1
        have hlt : i < iN (σ 26 0) := (nI_ltI (a := i) (b := iN (σ 26 0)) (by have := hW.b3; have h9 : lsN σ 3 = iN (σ 26 0) := rfl; omega) (by have := hW.b3; have h9 : lsN σ 3 = iN (σ 26 0) := rfl; omega)).mp (Int32.not_le.mp c_1)
        refine sw_aload_n (pc := 18) hc dX7_bestRun_18 rfl 0 rfl ?_
        refine sw_get (pc := 19) (v := .ref (ad 1 3)) hc fl_RX7_22 (hQ.at ct0) rfl dX7_bestRun_19 ?_
        refine sw_iload (pc := 22) hc dX7_bestRun_22 5 rfl ?_
        refine sw_callV (pc := 24) (rest := []) hc (c_get1 (k := 3) l hQ (by decide) (i := i) hlt hW.b3) md_Jx4a65c_get_915e3 ml_RX7_156 im_Jx4a65c_get_915e3 sl_Jx4a65c_get_915e3 (hQ.at (ct1 (k := 3) (by decide))) rfl rfl rfl (Nat.le_of_ble_eq_true rfl) dX7_bestRun_24 ⟨Nat.le_of_ble_eq_true rfl, Nat.le_of_ble_eq_true rfl, Nat.le_of_ble_eq_true rfl, Nat.le_of_ble_eq_true rfl⟩ (fun v C' hP => ?_) (fun _ _ h => h.elim)
        obtain ⟨rfl, hCC⟩ := hP
        refine sw_eq (C' := C) hCC ?_
        refine sw_st (st' := [.ref (ad 15 i)]) rfl ?_
        refine sw_cast (pc := 27) hc kl_RX7_204 (hQ.at (ct15 (k := i) hlt)) rfl dX7_bestRun_27 ?_
        refine sw_astore (pc := 30) hc dX7_bestRun_30 (by decide) (lv' := [(6, .ref (ad 15 i)), (0, .ref (ad 0 0)), (1, .ref (ad 11 k)), (2, .int y), (3, va_rf (wrf ad w)), (4, va_rf b), (5, .int (nI i))]) (by first | rfl | (simp [va_rf_c, cat_r, cat_i, cat_n]; done) | (simp [va_rf_c, cat_r, cat_i, cat_n]; rfl)) ?_
        refine sw_aload (pc := 32) hc dX7_bestRun_32 0 rfl ?_
        refine sw_aload_nq (pc := 34) hc dX7_bestRun_34 rfl 4 rfl ?_
        refine sw_acmp_eq (pc := 35) (rx := (some (ad 15 i))) (ry := (wrf ad w)) (tgt := 75) hc dX7_bestRun_35 (by decide) (fun c_2 => ?_) (fun c_2 => ?_)
        ·
          have hst : rTop σ (nI k) y w (i + 1) = rTop σ (nI k) y w i := by rw [rTop_s, if_neg (fun q => q.1.1 ((wrf_eq hQ hW hlt hwo).mp c_2))]
          refine sw_iinc (pc := 75) (v := nI (i + 1)) (lv' := [(5, .int (nI (i + 1))), (6, .ref (ad 15 i)), (0, .ref (ad 0 0)), (1, .ref (ad 11 k)), (2, .int y), (3, va_rf (wrf ad w)), (4, va_rf b)]) hc dX7_bestRun_75 (k := 6) rfl (nI_1 _) (by decide) (by first | rfl | (simp [va_rf_c, cat_r, cat_i, cat_n]; done) | (simp [va_rf_c, cat_r, cat_i, cat_n]; rfl)) ?_
          refine sw_goto (pc := 78) (tgt := 6) hc dX7_bestRun_78 (by decide) ?_
          have h_3 : b = wrf ad (rTop σ (nI k) y w (i + 1)) := by first | rfl | (rw [hst]; done) | (rw [hst]; exact eb) | (rw [hst]; exact (wrf_i hQ hW hlt).symm) | (rw [hst]; rfl) | exact (if_pos (show (-1 : Int32) < 0 from by decide)).symm
          have h_4 : (i + 1) ≤ iN (σ 26 0) := by omega
          have h_5 : iN (σ 26 0) - (i + 1) < n6 := by omega
          exact sw_sub (ks := [2, 3, 4, 5, 6, 0]) rfl (ih6 (i + 1) b h_5 h_3 h_4)
        ·
          refine sw_aload (pc := 38) hc dX7_bestRun_38 0 rfl ?_
          refine sw_aload_n (pc := 40) hc dX7_bestRun_40 rfl 2 rfl ?_
          refine sw_iload_n (pc := 41) hc dX7_bestRun_41 rfl 3 rfl ?_
          refine sw_callV (pc := 42) (rest := []) hc (c_X6_isFor l g C (ad 15 i) (ad 11 k) y (nI i) (σ 18 i) (ad 7 (iN (σ 17 i))) (ad 11 (iN (σ 19 i))) (σ 20 i) (σ 22 i) (σ 21 i) (hQ.at (ct15 (k := i) hlt))) md_X6_isFor ml_RX7_246 im_X6_isFor sl_X6_isFor (hQ.at (ct15 (k := i) hlt)) rfl rfl rfl (Nat.le_of_ble_eq_true rfl) dX7_bestRun_42 ⟨Nat.le_of_ble_eq_true rfl, Nat.le_of_ble_eq_true rfl, Nat.le_of_ble_eq_true rfl, Nat.le_of_ble_eq_true rfl⟩ (fun v C' hP => ?_) (fun _ _ h => h.elim)
          obtain ⟨rfl, hCC⟩ := hP
          refine sw_eq (C' := C) hCC ?_
          refine sw_st (st' := [.int (bI ((ad 11 (iN (σ 19 i))) = (ad 11 k) ∧ (σ 18 i) = y))]) rfl ?_
          refine sw_if_eq (pc := 45) (tgt := 75) hc dX7_bestRun_45 (by decide) (fun c_6 => ?_) (fun c_6 => ?_)
          ·
            have p_7 : ¬ ((ad 11 (iN (σ 19 i))) = (ad 11 k) ∧ (σ 18 i) = y) := bI_0 c_6
            have hst : rTop σ (nI k) y w (i + 1) = rTop σ (nI k) y w i := by rw [rTop_s, if_neg (fun q => p_7 ⟨(ad11 hQ hW hlt hk).mpr q.1.2.1, q.1.2.2.1⟩)]
            refine sw_iinc (pc := 75) (v := nI (i + 1)) (lv' := [(5, .int (nI (i + 1))), (6, .ref (ad 15 i)), (0, .ref (ad 0 0)), (1, .ref (ad 11 k)), (2, .int y), (3, va_rf (wrf ad w)), (4, va_rf b)]) hc dX7_bestRun_75 (k := 6) rfl (nI_1 _) (by decide) (by first | rfl | (simp [va_rf_c, cat_r, cat_i, cat_n]; done) | (simp [va_rf_c, cat_r, cat_i, cat_n]; rfl)) ?_
            refine sw_goto (pc := 78) (tgt := 6) hc dX7_bestRun_78 (by decide) ?_
            have h_8 : b = wrf ad (rTop σ (nI k) y w (i + 1)) := by first | rfl | (rw [hst]; done) | (rw [hst]; exact eb) | (rw [hst]; exact (wrf_i hQ hW hlt).symm) | (rw [hst]; rfl) | exact (if_pos (show (-1 : Int32) < 0 from by decide)).symm
            have h_9 : (i + 1) ≤ iN (σ 26 0) := by omega
            have h_10 : iN (σ 26 0) - (i + 1) < n6 := by omega
            exact sw_sub (ks := [2, 3, 4, 5, 6, 0]) rfl (ih6 (i + 1) b h_10 h_8 h_9)
          ·
            have p_11 : (ad 11 (iN (σ 19 i))) = (ad 11 k) ∧ (σ 18 i) = y := bI_n c_6
            refine sw_aload (pc := 48) hc dX7_bestRun_48 0 rfl ?_
            refine sw_callS (pc := 50) (rest := []) hc (c_X7_counts l g C ad own gh σ i hQ hW hlt) md_X7_counts ml_RX7_266 st_X7_counts rfl rfl (Nat.le_of_ble_eq_true rfl) dX7_bestRun_50 ⟨Nat.le_of_ble_eq_true rfl, Nat.le_of_ble_eq_true rfl, Nat.le_of_ble_eq_true rfl, Nat.le_of_ble_eq_true rfl⟩ (fun v C' hP => ?_) (fun _ _ h => h.elim)
            obtain ⟨rfl, hCC⟩ := hP
            refine sw_eq (C' := C) hCC ?_
            refine sw_st (st' := [.int (bI (rCnt σ i))]) rfl ?_
            refine sw_if_eq (pc := 53) (tgt := 75) hc dX7_bestRun_53 (by decide) (fun c_12 => ?_) (fun c_12 => ?_)
            ·
              have p_13 : ¬ (rCnt σ i) := bI_0 c_12
              have hst : rTop σ (nI k) y w (i + 1) = rTop σ (nI k) y w i := by rw [rTop_s, if_neg (fun q => p_13 q.1.2.2.2)]
              refine sw_iinc (pc := 75) (v := nI (i + 1)) (lv' := [(5, .int (nI (i + 1))), (6, .ref (ad 15 i)), (0, .ref (ad 0 0)), (1, .ref (ad 11 k)), (2, .int y), (3, va_rf (wrf ad w)), (4, va_rf b)]) hc dX7_bestRun_75 (k := 6) rfl (nI_1 _) (by decide) (by first | rfl | (simp [va_rf_c, cat_r, cat_i, cat_n]; done) | (simp [va_rf_c, cat_r, cat_i, cat_n]; rfl)) ?_
              refine sw_goto (pc := 78) (tgt := 6) hc dX7_bestRun_78 (by decide) ?_
              have h_14 : b = wrf ad (rTop σ (nI k) y w (i + 1)) := by first | rfl | (rw [hst]; done) | (rw [hst]; exact eb) | (rw [hst]; exact (wrf_i hQ hW hlt).symm) | (rw [hst]; rfl) | exact (if_pos (show (-1 : Int32) < 0 from by decide)).symm
              have h_15 : (i + 1) ≤ iN (σ 26 0) := by omega
              have h_16 : iN (σ 26 0) - (i + 1) < n6 := by omega
              exact sw_sub (ks := [2, 3, 4, 5, 6, 0]) rfl (ih6 (i + 1) b h_16 h_14 h_15)
            ·
              have p_17 : rCnt σ i := bI_n c_12
              refine sw_aloadq (pc := 56) hc dX7_bestRun_56 5 rfl ?_
              refine sw_ifnullq (pc := 58) (tgt := 71) hc dX7_bestRun_58 (by decide) (fun c_18 => ?_) (fun a_19 c_18 => ?_)
              ·
                have hbn : rTop σ (nI k) y w i < 0 := wrf_n (eb.symm.trans c_18)
                refine sw_aload (pc := 71) hc dX7_bestRun_71 0 rfl ?_
                refine sw_astore (pc := 73) hc dX7_bestRun_73 (by decide) (lv' := [(4, .ref (ad 15 i)), (6, .ref (ad 15 i)), (0, .ref (ad 0 0)), (1, .ref (ad 11 k)), (2, .int y), (3, va_rf (wrf ad w)), (5, .int (nI i))]) (by first | rfl | (simp [va_rf_c, cat_r, cat_i, cat_n]; done) | (simp [va_rf_c, cat_r, cat_i, cat_n]; rfl)) ?_
                have hst : rTop σ (nI k) y w (i + 1) = nI i := by rw [rTop_s, if_pos ⟨⟨fun q => c_2 ((wrf_eq hQ hW hlt hwo).mpr q), (ad11 hQ hW hlt hk).mp p_11.1, p_11.2, p_17⟩, .inl hbn⟩]
                refine sw_iinc (pc := 75) (v := nI (i + 1)) (lv' := [(5, .int (nI (i + 1))), (4, .ref (ad 15 i)), (6, .ref (ad 15 i)), (0, .ref (ad 0 0)), (1, .ref (ad 11 k)), (2, .int y), (3, va_rf (wrf ad w))]) hc dX7_bestRun_75 (k := 6) rfl (nI_1 _) (by decide) (by first | rfl | (simp [va_rf_c, cat_r, cat_i, cat_n]; done) | (simp [va_rf_c, cat_r, cat_i, cat_n]; rfl)) ?_
                refine sw_goto (pc := 78) (tgt := 6) hc dX7_bestRun_78 (by decide) ?_
                have h_20 : (some (ad 15 i)) = wrf ad (rTop σ (nI k) y w (i + 1)) := by first | rfl | (rw [hst]; done) | (rw [hst]; exact eb) | (rw [hst]; exact (wrf_i hQ hW hlt).symm) | (rw [hst]; rfl) | exact (if_pos (show (-1 : Int32) < 0 from by decide)).symm
                have h_21 : (i + 1) ≤ iN (σ 26 0) := by omega
                have h_22 : iN (σ 26 0) - (i + 1) < n6 := by omega
                exact sw_sub (ks := [3, 4, 5, 6, 1, 0]) rfl (ih6 (i + 1) (some (ad 15 i)) h_22 h_20 h_21)
              ·
                obtain ⟨hbn, hba⟩ := wrf_s (eb.symm.trans c_18)
                obtain ⟨hbx, hbi⟩ := rTop_x (by have := hW.b3; have h9 : lsN σ 3 = iN (σ 26 0) := rfl; omega) rfl hbn
                have hbj : iN (rTop σ (nI k) y w i) < iN (σ 26 0) := Nat.lt_trans hbi hlt
                have eb2 : b = some (ad 15 (iN (rTop σ (nI k) y w i))) := by rw [c_18, hba]
                subst eb2
                refine sw_aload (pc := 61) hc dX7_bestRun_61 0 rfl ?_
                refine sw_aload (pc := 63) hc dX7_bestRun_63 5 rfl ?_
                refine sw_callV (pc := 65) (rest := []) hc (c_X6_isAheadOf l g C (ad 15 i) (ad 15 (iN (rTop σ (nI k) y w i))) (nI i) (σ 18 i) (ad 7 (iN (σ 17 i))) (ad 11 (iN (σ 19 i))) (σ 20 i) (σ 22 i) (σ 21 i) (nI (iN (rTop σ (nI k) y w i))) (σ 18 (iN (rTop σ (nI k) y w i))) (ad 7 (iN (σ 17 (iN (rTop σ (nI k) y w i))))) (ad 11 (iN (σ 19 (iN (rTop σ (nI k) y w i))))) (σ 20 (iN (rTop σ (nI k) y w i))) (σ 22 (iN (rTop σ (nI k) y w i))) (σ 21 (iN (rTop σ (nI k) y w i))) (hQ.at (ct15 (k := i) hlt)) (hQ.at (ct15 (k := (iN (rTop σ (nI k) y w i))) hbj))) md_X6_isAheadOf ml_RX7_269 im_X6_isAheadOf sl_X6_isAheadOf (hQ.at (ct15 (k := i) hlt)) rfl rfl rfl (Nat.le_of_ble_eq_true rfl) dX7_bestRun_65 ⟨Nat.le_of_ble_eq_true rfl, Nat.le_of_ble_eq_true rfl, Nat.le_of_ble_eq_true rfl, Nat.le_of_ble_eq_true rfl⟩ (fun v C' hP => ?_) (fun _ _ h => h.elim)
                obtain ⟨rfl, hCC⟩ := hP
                refine sw_eq (C' := C) hCC ?_
                refine sw_st (st' := [.int (bI ((σ 22 i) < (σ 22 (iN (rTop σ (nI k) y w i))) ∨ ((σ 22 i) = (σ 22 (iN (rTop σ (nI k) y w i))) ∧ (nI i) < (nI (iN (rTop σ (nI k) y w i))))))]) rfl ?_
                refine sw_if_eq (pc := 68) (tgt := 75) hc dX7_bestRun_68 (by decide) (fun c_23 => ?_) (fun c_23 => ?_)
                ·
                  have p_24 : ¬ ((σ 22 i) < (σ 22 (iN (rTop σ (nI k) y w i))) ∨ ((σ 22 i) = (σ 22 (iN (rTop σ (nI k) y w i))) ∧ (nI i) < (nI (iN (rTop σ (nI k) y w i))))) := bI_0 c_23
                  have hst : rTop σ (nI k) y w (i + 1) = rTop σ (nI k) y w i := by rw [rTop_s, if_neg (fun q => q.2.elim hbn (fun q => p_24 ((ahd_eq hW hlt hbj).mpr q)))]
                  refine sw_iinc (pc := 75) (v := nI (i + 1)) (lv' := [(5, .int (nI (i + 1))), (6, .ref (ad 15 i)), (0, .ref (ad 0 0)), (1, .ref (ad 11 k)), (2, .int y), (3, va_rf (wrf ad w)), (4, .ref (ad 15 (iN (rTop σ (nI k) y w i))))]) hc dX7_bestRun_75 (k := 6) rfl (nI_1 _) (by decide) (by first | rfl | (simp [va_rf_c, cat_r, cat_i, cat_n]; done) | (simp [va_rf_c, cat_r, cat_i, cat_n]; rfl)) ?_
                  refine sw_goto (pc := 78) (tgt := 6) hc dX7_bestRun_78 (by decide) ?_
                  have h_25 : (some (ad 15 (iN (rTop σ (nI k) y w i)))) = wrf ad (rTop σ (nI k) y w (i + 1)) := by first | rfl | (rw [hst]; done) | (rw [hst]; exact eb) | (rw [hst]; exact (wrf_i hQ hW hlt).symm) | (rw [hst]; rfl) | exact (if_pos (show (-1 : Int32) < 0 from by decide)).symm
                  have h_26 : (i + 1) ≤ iN (σ 26 0) := by omega
                  have h_27 : iN (σ 26 0) - (i + 1) < n6 := by omega
                  exact sw_sub (ks := [2, 3, 4, 5, 6, 0]) rfl (ih6 (i + 1) (some (ad 15 (iN (rTop σ (nI k) y w i)))) h_27 h_25 h_26)
                ·
                  have p_28 : (σ 22 i) < (σ 22 (iN (rTop σ (nI k) y w i))) ∨ ((σ 22 i) = (σ 22 (iN (rTop σ (nI k) y w i))) ∧ (nI i) < (nI (iN (rTop σ (nI k) y w i)))) := bI_n c_23
                  refine sw_aload (pc := 71) hc dX7_bestRun_71 0 rfl ?_
                  refine sw_astore (pc := 73) hc dX7_bestRun_73 (by decide) (lv' := [(4, .ref (ad 15 i)), (6, .ref (ad 15 i)), (0, .ref (ad 0 0)), (1, .ref (ad 11 k)), (2, .int y), (3, va_rf (wrf ad w)), (5, .int (nI i))]) (by first | rfl | (simp [va_rf_c, cat_r, cat_i, cat_n]; done) | (simp [va_rf_c, cat_r, cat_i, cat_n]; rfl)) ?_
                  have hst : rTop σ (nI k) y w (i + 1) = nI i := by rw [rTop_s, if_pos ⟨⟨fun q => c_2 ((wrf_eq hQ hW hlt hwo).mpr q), (ad11 hQ hW hlt hk).mp p_11.1, p_11.2, p_17⟩, .inr ((ahd_eq hW hlt hbj).mp p_28)⟩]
                  refine sw_iinc (pc := 75) (v := nI (i + 1)) (lv' := [(5, .int (nI (i + 1))), (4, .ref (ad 15 i)), (6, .ref (ad 15 i)), (0, .ref (ad 0 0)), (1, .ref (ad 11 k)), (2, .int y), (3, va_rf (wrf ad w))]) hc dX7_bestRun_75 (k := 6) rfl (nI_1 _) (by decide) (by first | rfl | (simp [va_rf_c, cat_r, cat_i, cat_n]; done) | (simp [va_rf_c, cat_r, cat_i, cat_n]; rfl)) ?_
                  refine sw_goto (pc := 78) (tgt := 6) hc dX7_bestRun_78 (by decide) ?_
                  have h_29 : (some (ad 15 i)) = wrf ad (rTop σ (nI k) y w (i + 1)) := by first | rfl | (rw [hst]; done) | (rw [hst]; exact eb) | (rw [hst]; exact (wrf_i hQ hW hlt).symm) | (rw [hst]; rfl) | exact (if_pos (show (-1 : Int32) < 0 from by decide)).symm
                  have h_30 : (i + 1) ≤ iN (σ 26 0) := by omega
                  have h_31 : iN (σ 26 0) - (i + 1) < n6 := by omega
                  exact sw_sub (ks := [3, 4, 5, 6, 1, 0]) rfl (ih6 (i + 1) (some (ad 15 i)) h_31 h_29 h_30)
  refine sw_null (pc := 0) hc dX7_bestRun_0 ?_
  refine sw_astoreN (pc := 1) hc dX7_bestRun_1 (by decide) (lv' := [(4, .null), (0, .ref (ad 0 0)), (1, .ref (ad 11 k)), (2, .int y), (3, va_rf (wrf ad w))]) (by first | rfl | (simp [va_rf_c, cat_r, cat_i, cat_n]; done) | (simp [va_rf_c, cat_r, cat_i, cat_n]; rfl)) ?_
  refine sw_iconst (pc := 3) (v := 0) hc dX7_bestRun_3 (by decide) ?_
  refine sw_istore (pc := 4) hc dX7_bestRun_4 (by decide) (lv' := [(5, .int 0), (4, .null), (0, .ref (ad 0 0)), (1, .ref (ad 11 k)), (2, .int y), (3, va_rf (wrf ad w))]) (by first | rfl | (simp [va_rf_c, cat_r, cat_i, cat_n]; done) | (simp [va_rf_c, cat_r, cat_i, cat_n]; rfl)) ?_
  have h_32 : none = wrf ad (rTop σ (nI k) y w 0) := by first | rfl | (rw [hst]; done) | (rw [hst]; exact eb) | (rw [hst]; exact (wrf_i hQ hW hlt).symm) | (rw [hst]; rfl) | exact (if_pos (show (-1 : Int32) < 0 from by decide)).symm
  have h_33 : 0 ≤ iN (σ 26 0) := by omega
  exact sw_sub (ks := [2, 3, 4, 5, 1, 0]) rfl (K_6 _ 0 none (Nat.lt_succ_self _) h_32 h_33)
