
/-! a category's rules on a hero, as the class reads them -/
abbrev cBad (σ : Mem) (h : Her) (j : Nat) : Prop := ¬ h 9 &&& σ 13 j = 0 ∨ h 7 < σ 14 j ∨ σ 15 j < h 8
def cRf (σ : Mem) (a : Nat) (d : Int32) (h : Her) : Nat → Int32 × Int32
  | 0 => (0, 0)
  | i + 1 => if σ 12 (10 * a + i) ≤ d ∧ (cRf σ a d h i).1 ≤ σ 12 (10 * a + i) then (σ 12 (10 * a + i), bI (cBad σ h (10 * a + i))) else cRf σ a d h i
theorem cRf_01 (σ : Mem) (a : Nat) (d : Int32) (h : Her) : ∀ n, (cRf σ a d h n).2 = 0 ∨ (cRf σ a d h n).2 = 1
  | 0 => .inl rfl
  | n + 1 => by
    unfold cRf
    split
    · exact bI_01
    · exact cRf_01 σ a d h n

theorem cRf_y {σ : Mem} {a i : Nat} {d : Int32} {h : Her} (h1 : σ 12 (10 * a + i) ≤ d) (h2 : (cRf σ a d h i).1 ≤ σ 12 (10 * a + i)) : cRf σ a d h (i + 1) = (σ 12 (10 * a + i), bI (cBad σ h (10 * a + i))) := if_pos ⟨h1, h2⟩
theorem cRf_n1 {σ : Mem} {a i : Nat} {d : Int32} {h : Her} (h1 : ¬ σ 12 (10 * a + i) ≤ d) : cRf σ a d h (i + 1) = cRf σ a d h i := if_neg fun q => h1 q.1
theorem cRf_n2 {σ : Mem} {a i : Nat} {d : Int32} {h : Her} (h1 : ¬ (cRf σ a d h i).1 ≤ σ 12 (10 * a + i)) : cRf σ a d h (i + 1) = cRf σ a d h i := if_neg fun q => h1 q.2

theorem md_Jx4a65c_size_8abf5 : sg_MD yJx4a65c_size_8abf5 cJx4a65c_size_8abf5 1 (some .int) 0 := ⟨sg_mem (i := 171) (by decide +kernel) rfl, sg_mem (i := 29) (by decide +kernel) rfl, ⟨by decide, by decide⟩, by decide +kernel⟩
theorem ml_RX0_20 : sg_ML RX0 20 yJx4a65c_size_8abf5 := .inl (sg_mem (i := 448) (by decide +kernel) rfl)
theorem im_Jx4a65c_size_8abf5 : Cond.instanceMethod yJx4a65c_size_8abf5 ∈ sg_T := sg_mem (i := 169) (by decide +kernel) rfl
theorem sl_Jx4a65c_size_8abf5 : Cond.selects yJx4a65c_size_8abf5.cls yJx4a65c_size_8abf5 yJx4a65c_size_8abf5 ∈ sg_T := sg_mem (i := 170) (by decide +kernel) rfl
theorem md_Jx4a65c_get_915e3 : sg_MD yJx4a65c_get_915e3 cJx4a65c_get_915e3 2 (some (.object "java/lang/Object")) 1 := ⟨sg_mem (i := 346) (by decide +kernel) rfl, sg_mem (i := 29) (by decide +kernel) rfl, ⟨by decide, by decide⟩, by decide +kernel⟩
theorem ml_RX0_24 : sg_ML RX0 24 yJx4a65c_get_915e3 := .inl (sg_mem (i := 449) (by decide +kernel) rfl)
theorem im_Jx4a65c_get_915e3 : Cond.instanceMethod yJx4a65c_get_915e3 ∈ sg_T := sg_mem (i := 344) (by decide +kernel) rfl
theorem sl_Jx4a65c_get_915e3 : Cond.selects yJx4a65c_get_915e3.cls yJx4a65c_get_915e3 yJx4a65c_get_915e3 ∈ sg_T := sg_mem (i := 345) (by decide +kernel) rfl
theorem kl_RX0_28 : Cond.classLink RX0 28 "SplitGate$Rule" ∈ sg_T := sg_mem (i := 450) (by decide +kernel) rfl
theorem fl_RX0_30 : sg_FL RX0 30 6 0 := ⟨RX5, TX5, 4, "SplitGate$Rule", rfl, by decide, ti_6, .inl rfl, .inr ⟨"SplitGate", sg_memN (i := 642) (by decide +kernel) rfl⟩⟩
theorem md_X5_refuses : sg_MD yX5_refuses cX5_refuses 2 (some .boolean) 1 := ⟨sg_mem (i := 454) (by decide +kernel) rfl, sg_mem (i := 47) (by decide +kernel) rfl, ⟨by decide, by decide⟩, by decide +kernel⟩
theorem ml_RX0_34 : sg_ML RX0 34 yX5_refuses := .inl (sg_mem (i := 451) (by decide +kernel) rfl)
theorem im_X5_refuses : Cond.instanceMethod yX5_refuses ∈ sg_T := sg_mem (i := 452) (by decide +kernel) rfl
theorem sl_X5_refuses : Cond.selects yX5_refuses.cls yX5_refuses yX5_refuses ∈ sg_T := sg_mem (i := 453) (by decide +kernel) rfl
set_option maxHeartbeats 4000000 in
set_option maxRecDepth 100000 in
theorem c_X0_refuses (l : Launch) (g : sg_G) (C : Nat → Option va_E) (ad : Ad) (own : Nat → Option (Nat × Nat)) (gh : Gh) (σ : Mem) (k : Nat) (d : Int32) (h : Nat) (hs : Her) (hQ : Pic g ad own gh σ C) (hW : WX σ) (hk : k < iN (σ 16 0)) (hC_h : C h = some (.inr (2, hfs hs))) : sg_Met l yX0_refuses cX0_refuses 7 (some .boolean) 3 64 0 0 g [.ref (ad 11 k), .int d, .ref h] C (fun v C' => v = some (.int (cRf σ k d hs (iN (σ 11 k))).2) ∧ C' = C) (sg_no) := by
  refine sg_ofW (by decide) rfl ?_ (Nat.le_of_ble_eq_true rfl)
  intro p e s m below meth c hc hlk hrt hin2 htb
  have hc : sg_Cx p s m _ c cX0_refuses 7 RX0 g := hc
  show sg_W p l e _ s m _ below meth c 7 g 0 0 _ C 0 [(0, .ref (ad 11 k)), (1, .int d), (2, .ref h)] []
  have K_8 : ∀ (n8 : Nat) (i : Nat) (x : Int32) (y : Int32) (hn8 : iN (σ 11 k) - i < n8) (ex : x = (cRf σ k d hs i).2) (ey : y = (cRf σ k d hs i).1) (hJ : i ≤ iN (σ 11 k)), sg_W p l e (sg_rm 3 64 0 0) s m ([.ref (ad 11 k), .int d, .ref h] : List Value).toArray below meth c 7 g 0 0 (sg_End below g (fun v C' => v = some (.int (cRf σ k d hs (iN (σ 11 k))).2) ∧ C' = C) (sg_no) ([.ref (ad 11 k), .int d, .ref h] : List Value).toArray s 0 0) (C) 8 [(0, .ref (ad 11 k)), (1, .int d), (2, .ref h), (3, .int x), (4, .int y), (5, .int (nI i))] [] := by
    intro n8
    induction n8 with
    | zero => intro i x y hn8 ex ey hJ; exact absurd hn8 (Nat.not_lt_zero _)
    | succ n8 ih8 =>
      intro i x y hn8 ex ey hJ
      refine sw_iload (pc := 8) hc dX0_refuses_8 5 rfl ?_
      refine sw_aload_n (pc := 10) hc dX0_refuses_10 rfl 0 rfl ?_
      refine sw_get (pc := 11) (v := .ref (ad 12 k)) hc fl_RX0_10 (hQ.at (ct11 (k := k) hk)) rfl dX0_refuses_11 ?_
      refine sw_callV (pc := 14) (rest := [.int (nI i)]) hc (c_Jx4a65c_size_8abf5 l g C (ad 12 k) (nI (iN (σ 11 k))) (if iN (σ 11 k) = 0 then g.2.2.2 0 else ad 13 k) (nI (iN (σ 11 k))) (hQ.at (ct12 (k := k) hk))) md_Jx4a65c_size_8abf5 ml_RX0_20 im_Jx4a65c_size_8abf5 sl_Jx4a65c_size_8abf5 (hQ.at (ct12 (k := k) hk)) rfl rfl rfl (Nat.le_of_ble_eq_true rfl) dX0_refuses_14 ⟨Nat.le_of_ble_eq_true rfl, Nat.le_of_ble_eq_true rfl, Nat.le_of_ble_eq_true rfl, Nat.le_of_ble_eq_true rfl⟩ (fun v C' hP => ?_) (fun _ _ h => h.elim)
      obtain ⟨rfl, hCC⟩ := hP
      refine sw_eq (C' := C) hCC ?_
      refine sw_st (st' := [.int (nI (iN (σ 11 k))), .int (nI i)]) rfl ?_
      refine sw_icmp_ge (pc := 17) (tgt := 73) hc dX0_refuses_17 (by decide) (fun c_1 => ?_) (fun c_1 => ?_)
      ·
        have c_1' := Int32.not_lt.mpr c_1
        refine sw_iload_n (pc := 73) hc dX0_refuses_73 rfl 3 rfl ?_
        exact sw_iret (pc := 74) hc hlk hrt (nar_01 (by rw [ex]; exact cRf_01 _ _ _ _ _)) ⟨by rw [ex, show i = iN (σ 11 k) from Nat.le_antisymm hJ ((nI_leI (by have := hW.b5 k; omega) (by have := hW.b5 k; omega)).mp c_1)], rfl⟩ (Nat.le_of_ble_eq_true rfl) (Nat.le_of_ble_eq_true rfl) dX0_refuses_74
      ·
        have c_1' := Int32.not_le.mp c_1
        have hlt : i < iN (σ 11 k) := (nI_ltI (a := i) (b := iN (σ 11 k)) (by have := hW.b5 k; omega) (by have := hW.b5 k; omega)).mp (Int32.not_le.mp c_1)
        refine sw_aload_n (pc := 20) hc dX0_refuses_20 rfl 0 rfl ?_
        refine sw_get (pc := 21) (v := .ref (ad 12 k)) hc fl_RX0_10 (hQ.at (ct11 (k := k) hk)) rfl dX0_refuses_21 ?_
        refine sw_iload (pc := 24) hc dX0_refuses_24 5 rfl ?_
        refine sw_callV (pc := 26) (rest := []) hc (c_get2 (k := k) l hQ hk (i := i) hlt (hW.b5 k)) md_Jx4a65c_get_915e3 ml_RX0_24 im_Jx4a65c_get_915e3 sl_Jx4a65c_get_915e3 (hQ.at (ct12 (k := k) hk)) rfl rfl rfl (Nat.le_of_ble_eq_true rfl) dX0_refuses_26 ⟨Nat.le_of_ble_eq_true rfl, Nat.le_of_ble_eq_true rfl, Nat.le_of_ble_eq_true rfl, Nat.le_of_ble_eq_true rfl⟩ (fun v C' hP => ?_) (fun _ _ h => h.elim)
        obtain ⟨rfl, hCC⟩ := hP
        refine sw_eq (C' := C) hCC ?_
        refine sw_st (st' := [.ref (ad 14 (10 * k + i))]) rfl ?_
        refine sw_cast (pc := 29) hc kl_RX0_28 (hQ.at (ct14 hk hlt (hW.u10 hlt))) rfl dX0_refuses_29 ?_
        refine sw_astore (pc := 32) hc dX0_refuses_32 (by decide) (lv' := [(6, .ref (ad 14 (10 * k + i))), (0, .ref (ad 11 k)), (1, .int d), (2, .ref h), (3, .int x), (4, .int y), (5, .int (nI i))]) rfl ?_
        refine sw_aload (pc := 34) hc dX0_refuses_34 0 rfl ?_
        refine sw_get (pc := 36) (v := .int (σ 12 (10 * k + i))) hc fl_RX0_30 (hQ.at (ct14 hk hlt (hW.u10 hlt))) rfl dX0_refuses_36 ?_
        refine sw_iload_n (pc := 39) hc dX0_refuses_39 rfl 2 rfl ?_
        refine sw_icmp_gt (pc := 40) (tgt := 67) hc dX0_refuses_40 (by decide) (fun c_2 => ?_) (fun c_2 => ?_)
        ·
          have c_2' := Int32.not_le.mpr c_2
          have hst : cRf σ k d hs (i + 1) = _ := cRf_n1 (Int32.not_le.mpr c_2)
          refine sw_iinc (pc := 67) (v := nI (i + 1)) (lv' := [(5, .int (nI (i + 1))), (6, .ref (ad 14 (10 * k + i))), (0, .ref (ad 11 k)), (1, .int d), (2, .ref h), (3, .int x), (4, .int y)]) hc dX0_refuses_67 (k := 6) rfl (nI_1 _) (by decide) rfl ?_
          refine sw_goto (pc := 70) (tgt := 8) hc dX0_refuses_70 (by decide) ?_
          have h_3 : x = (cRf σ k d hs (i + 1)).2 := by first | rfl | (rw [hst]; done) | (rw [hst]; subst ex ey; rfl) | (rw [hst]; exact ex) | (rw [hst]; exact ey)
          have h_4 : y = (cRf σ k d hs (i + 1)).1 := by first | rfl | (rw [hst]; done) | (rw [hst]; subst ex ey; rfl) | (rw [hst]; exact ex) | (rw [hst]; exact ey)
          have h_5 : (i + 1) ≤ iN (σ 11 k) := by omega
          have h_6 : iN (σ 11 k) - (i + 1) < n8 := by omega
          exact sw_sub (ks := [2, 3, 4, 5, 6, 0]) rfl (ih8 (i + 1) x y h_6 h_3 h_4 h_5)
        ·
          have c_2' := Int32.not_lt.mp c_2
          refine sw_aload (pc := 43) hc dX0_refuses_43 0 rfl ?_
          refine sw_get (pc := 45) (v := .int (σ 12 (10 * k + i))) hc fl_RX0_30 (hQ.at (ct14 hk hlt (hW.u10 hlt))) rfl dX0_refuses_45 ?_
          refine sw_iload (pc := 48) hc dX0_refuses_48 5 rfl ?_
          refine sw_icmp_lt (pc := 50) (tgt := 67) hc dX0_refuses_50 (by decide) (fun c_7 => ?_) (fun c_7 => ?_)
          ·
            have c_7' := Int32.not_le.mpr c_7
            have hst : cRf σ k d hs (i + 1) = _ := cRf_n2 (by rw [← ey]; exact Int32.not_le.mpr c_7)
            refine sw_iinc (pc := 67) (v := nI (i + 1)) (lv' := [(5, .int (nI (i + 1))), (6, .ref (ad 14 (10 * k + i))), (0, .ref (ad 11 k)), (1, .int d), (2, .ref h), (3, .int x), (4, .int y)]) hc dX0_refuses_67 (k := 6) rfl (nI_1 _) (by decide) rfl ?_
            refine sw_goto (pc := 70) (tgt := 8) hc dX0_refuses_70 (by decide) ?_
            have h_8 : x = (cRf σ k d hs (i + 1)).2 := by first | rfl | (rw [hst]; done) | (rw [hst]; subst ex ey; rfl) | (rw [hst]; exact ex) | (rw [hst]; exact ey)
            have h_9 : y = (cRf σ k d hs (i + 1)).1 := by first | rfl | (rw [hst]; done) | (rw [hst]; subst ex ey; rfl) | (rw [hst]; exact ex) | (rw [hst]; exact ey)
            have h_10 : (i + 1) ≤ iN (σ 11 k) := by omega
            have h_11 : iN (σ 11 k) - (i + 1) < n8 := by omega
            exact sw_sub (ks := [2, 3, 4, 5, 6, 0]) rfl (ih8 (i + 1) x y h_11 h_8 h_9 h_10)
          ·
            have c_7' := Int32.not_lt.mp c_7
            refine sw_aload (pc := 53) hc dX0_refuses_53 0 rfl ?_
            refine sw_get (pc := 55) (v := .int (σ 12 (10 * k + i))) hc fl_RX0_30 (hQ.at (ct14 hk hlt (hW.u10 hlt))) rfl dX0_refuses_55 ?_
            refine sw_istore (pc := 58) hc dX0_refuses_58 (by decide) (lv' := [(4, .int (σ 12 (10 * k + i))), (6, .ref (ad 14 (10 * k + i))), (0, .ref (ad 11 k)), (1, .int d), (2, .ref h), (3, .int x), (5, .int (nI i))]) rfl ?_
            refine sw_aload (pc := 60) hc dX0_refuses_60 1 rfl ?_
            refine sw_aload_n (pc := 62) hc dX0_refuses_62 rfl 4 rfl ?_
            refine sw_callV (pc := 63) (rest := []) hc (c_X5_refuses l g C (ad 14 (10 * k + i)) h (σ 12 (10 * k + i)) (σ 13 (10 * k + i)) (σ 14 (10 * k + i)) (σ 15 (10 * k + i)) hs (hQ.at (ct14 hk hlt (hW.u10 hlt))) hC_h) md_X5_refuses ml_RX0_34 im_X5_refuses sl_X5_refuses (hQ.at (ct14 hk hlt (hW.u10 hlt))) rfl rfl rfl (Nat.le_of_ble_eq_true rfl) dX0_refuses_63 ⟨Nat.le_of_ble_eq_true rfl, Nat.le_of_ble_eq_true rfl, Nat.le_of_ble_eq_true rfl, Nat.le_of_ble_eq_true rfl⟩ (fun v C' hP => ?_) (fun _ _ h => h.elim)
            obtain ⟨rfl, hCC⟩ := hP
            refine sw_eq (C' := C) hCC ?_
            refine sw_st (st' := [.int (bI (¬ hs 9 &&& (σ 13 (10 * k + i)) = 0 ∨ hs 7 < (σ 14 (10 * k + i)) ∨ (σ 15 (10 * k + i)) < hs 8))]) rfl ?_
            refine sw_top (fun x_12 ex_12 => ?_)
            refine sw_istore_n (pc := 66) hc dX0_refuses_66 rfl (by decide) (lv' := [(3, .int x_12), (4, .int (σ 12 (10 * k + i))), (6, .ref (ad 14 (10 * k + i))), (0, .ref (ad 11 k)), (1, .int d), (2, .ref h), (5, .int (nI i))]) rfl ?_
            have hst : cRf σ k d hs (i + 1) = _ := cRf_y (Int32.not_lt.mp c_2) (by rw [← ey]; exact Int32.not_lt.mp c_7)
            refine sw_iinc (pc := 67) (v := nI (i + 1)) (lv' := [(5, .int (nI (i + 1))), (3, .int x_12), (4, .int (σ 12 (10 * k + i))), (6, .ref (ad 14 (10 * k + i))), (0, .ref (ad 11 k)), (1, .int d), (2, .ref h)]) hc dX0_refuses_67 (k := 6) rfl (nI_1 _) (by decide) rfl ?_
            refine sw_goto (pc := 70) (tgt := 8) hc dX0_refuses_70 (by decide) ?_
            have h_13 : x_12 = (cRf σ k d hs (i + 1)).2 := by first | rfl | (rw [hst]; done) | (rw [hst]; subst ex ey ex_12; rfl) | (rw [hst]; exact ex) | (rw [hst]; exact ey)
            have h_14 : σ 12 (10 * k + i) = (cRf σ k d hs (i + 1)).1 := by first | rfl | (rw [hst]; done) | (rw [hst]; subst ex ey ex_12; rfl) | (rw [hst]; exact ex) | (rw [hst]; exact ey)
            have h_15 : (i + 1) ≤ iN (σ 11 k) := by omega
            have h_16 : iN (σ 11 k) - (i + 1) < n8 := by omega
            exact sw_sub (ks := [4, 5, 6, 1, 2, 0]) rfl (ih8 (i + 1) x_12 (σ 12 (10 * k + i)) h_16 h_13 h_14 h_15)
  refine sw_iconst (pc := 0) (v := 0) hc dX0_refuses_0 (by decide) ?_
  refine sw_istore_n (pc := 1) hc dX0_refuses_1 rfl (by decide) (lv' := [(3, .int 0), (0, .ref (ad 11 k)), (1, .int d), (2, .ref h)]) rfl ?_
  refine sw_iconst (pc := 2) (v := 0) hc dX0_refuses_2 (by decide) ?_
  refine sw_istore (pc := 3) hc dX0_refuses_3 (by decide) (lv' := [(4, .int 0), (3, .int 0), (0, .ref (ad 11 k)), (1, .int d), (2, .ref h)]) rfl ?_
  refine sw_iconst (pc := 5) (v := 0) hc dX0_refuses_5 (by decide) ?_
  refine sw_istore (pc := 6) hc dX0_refuses_6 (by decide) (lv' := [(5, .int 0), (4, .int 0), (3, .int 0), (0, .ref (ad 11 k)), (1, .int d), (2, .ref h)]) rfl ?_
  have h_17 : 0 = (cRf σ k d hs 0).2 := by first | rfl | (rw [hst]; done) | (rw [hst]; rfl) | (rw [hst]; exact ex) | (rw [hst]; exact ey)
  have h_18 : 0 = (cRf σ k d hs 0).1 := by first | rfl | (rw [hst]; done) | (rw [hst]; rfl) | (rw [hst]; exact ex) | (rw [hst]; exact ey)
  have h_19 : 0 ≤ iN (σ 11 k) := by omega
  exact sw_sub (ks := [3, 4, 5, 2, 1, 0]) rfl (K_8 _ 0 0 0 (Nat.lt_succ_self _) h_17 h_18 h_19)
