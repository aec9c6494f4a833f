
/-! the face: what grows -/
theorem cnt_full {x : Int32} {B : Nat} (h : isN x (B + 1)) (hB : B < 1000) (c : ¬ nI (iN x) < nI B) : x = nI B := by
  have h2 := h.2
  have h3 : ¬ iN x < B := fun q => c ((nI_ltI (by omega) (by omega)).mpr q)
  rw [h.1, show iN x = B by omega]
theorem cnt_ok {x : Int32} {B : Nat} (h : isN x (B + 1)) (hB : B < 1000) (c : nI (iN x) < nI B) : ¬ x = nI B ∧ iN x < B := by
  have h2 := h.2
  have h3 : iN x < B := (nI_ltI (by omega) (by omega)).mp c
  exact ⟨fun q => by rw [q, show iN (nI B) = B from nI_clamp (by omega)] at h3; exact absurd h3 (Nat.lt_irrefl B), h3⟩
section PUSH
variable {g : sg_G} {ad : Ad} {own : Nat → Option (Nat × Nat)} {gh : Gh} {σ : Mem} {C : Nat → Option va_E}
theorem fresh_ne (hQ : Pic g ad own gh σ C) {j w : Nat} (hj : j < 5) (h : C w = none) : w ≠ ad 1 j ∧ (0 < lsN σ j → w ≠ ad 2 j) :=
  ⟨fun q => sg_nf (hQ.at (ct1 hj)) h q.symm, fun h0 q => sg_nf (hQ.at (ct2 hj h0)) h q.symm⟩
theorem nd_push {j b : Nat} {L : va_W} (hN : sg_nd (L.map Prod.fst)) (hb : (b = ad 2 j ∧ 0 < lsN σ j) ∨ sg_ov C L b = none) (hnd : sg_nd [b, ad 1 j]) (hL : ∀ x ∈ L.map Prod.fst, x ≠ ad 1 j ∧ (0 < lsN σ j → x ≠ ad 2 j)) : sg_nd (b :: ad 1 j :: L.map Prod.fst) := by
  refine ⟨fun q => ?_, fun q => (hL _ q).1 rfl, hN⟩
  rcases List.mem_cons.mp q with q | q
  · exact hnd.1 (by rw [q]; exact List.mem_singleton.mpr rfl)
  · rcases hb with ⟨h1, h2⟩ | h
    · exact (hL _ q).2 h2 h1
    · exact (sg_fresh h).1 q
theorem b_ne (hQ : Pic g ad own gh σ C) {j b : Nat} (hj : j < 5) (hb : (b = ad 2 j ∧ 0 < lsN σ j) ∨ C b = none) : (ad 0 0) ≠ b := by
  rcases hb with ⟨h1, h2⟩ | h
  · rw [h1]
    exact hQ.ne ct0 (ct2 hj h2) (fun q => absurd (congrArg Prod.fst q) (show (0 : Nat) ≠ 2 by decide))
  · exact sg_nf (hQ.at ct0) h
theorem fresh_ne2 (hQ : Pic g ad own gh σ C) {a w : Nat} (ha : a < iN (σ 16 0)) (h : C w = none) : w ≠ ad 12 a ∧ (0 < iN (σ 11 a) → w ≠ ad 13 a) :=
  ⟨fun q => sg_nf (hQ.at (ct12 ha)) h q.symm, fun h0 q => sg_nf (hQ.at (ct13 ha h0)) h q.symm⟩
theorem nd_push2 {a b : Nat} {L : va_W} (hN : sg_nd (L.map Prod.fst)) (hb : (b = ad 13 a ∧ 0 < iN (σ 11 a)) ∨ sg_ov C L b = none) (hnd : sg_nd [b, ad 12 a]) (hL : ∀ x ∈ L.map Prod.fst, x ≠ ad 12 a ∧ (0 < iN (σ 11 a) → x ≠ ad 13 a)) : sg_nd (b :: ad 12 a :: L.map Prod.fst) := by
  refine ⟨fun q => ?_, fun q => (hL _ q).1 rfl, hN⟩
  rcases List.mem_cons.mp q with q | q
  · exact hnd.1 (by rw [q]; exact List.mem_singleton.mpr rfl)
  · rcases hb with ⟨h1, h2⟩ | h
    · exact (hL _ q).2 h2 h1
    · exact (sg_fresh h).1 q
/-- a replay is marked as submitted -/
theorem pic_flag (hQ : Pic g ad own gh σ C) (hW : WX σ) {r : Nat} (hr : r < iN (σ 9 0)) : Pic g ad own gh (st2 σ 6 r 1) (sg_ov C [(ad 7 r, .inr (5, [.ref (ad 3 (iN (σ 3 r))), .ref (ad 8 r), .ref (ad 9 r), .ref (ad 10 r), .int (σ 4 r), .int (σ 5 r), .int 1]))]) := by
  have hh := heroR_lo (τ := st2 σ 6 r 1) hW rfl rfl rfl rfl rfl rfl
  exact (hQ.put (gh' := gh) (σ' := st2 σ 6 r 1) [((7, r), .inr (5, [.ref (ad 3 (iN (σ 3 r))), .ref (ad 8 r), .ref (ad 9 r), .ref (ad 10 r), .int (σ 4 r), .int (σ 5 r), .int 1]))] (fun t ht => by rcases List.mem_singleton.mp ht with rfl; exact ⟨_, ct7 hr⟩) ⟨List.not_mem_nil, trivial⟩ (fun t ht => by rcases List.mem_singleton.mp ht with rfl; exact (if_pos hr).trans (by rw [st2_s]; rfl)) (fun i k' hm => by
    rcases Nat.lt_or_ge i 20 with h20 | h20
    · match i, h20 with
      | 0, _ => first | (simp only [cont]; done) | (simp only [cont]; rfl)
      | 1, _ => first | (simp only [cont]; done) | (simp only [cont]; rfl)
      | 2, _ => first | (simp only [cont]; done) | (simp only [cont]; rfl)
      | 3, _ => first | (simp only [cont]; done) | (simp only [cont]; rfl)
      | 4, _ => first | (simp only [cont]; done) | (simp only [cont]; rfl)
      | 5, _ => first | (simp only [cont]; done) | (simp only [cont]; rfl)
      | 6, _ => first | (simp only [cont]; done) | (simp only [cont]; rfl)
      | 7, _ => have hk' : k' ≠ r := fun q => hm (by rw [q]; exact List.mem_singleton.mpr rfl); simp only [cont]; rw [st2_n hk']; rfl
      | 8, _ => first | (simp only [cont]; done) | (simp only [cont]; rfl)
      | 9, _ => first | (simp only [cont]; done) | (simp only [cont]; rfl)
      | 10, _ => simp only [cont]; first | (rw [hh]; done) | (rw [hh]; rfl)
      | 11, _ => first | (simp only [cont]; done) | (simp only [cont]; rfl)
      | 12, _ => first | (simp only [cont]; done) | (simp only [cont]; rfl)
      | 13, _ => first | (simp only [cont]; done) | (simp only [cont]; rfl)
      | 14, _ => first | (simp only [cont]; done) | (simp only [cont]; rfl)
      | 15, _ => first | (simp only [cont]; done) | (simp only [cont]; rfl)
      | 16, _ => first | (simp only [cont]; done) | (simp only [cont]; rfl)
      | 17, _ => first | (simp only [cont]; done) | (simp only [cont]; rfl)
      | 18, _ => first | (simp only [cont]; done) | (simp only [cont]; rfl)
      | 19, _ => first | (simp only [cont]; done) | (simp only [cont]; rfl)
      | n + 20, h => exact absurd h (by omega)
    · rw [cont_x i k' h20, cont_x i k' h20])).1
theorem ad33 (hQ : Pic g ad own gh σ C) (hW : WX σ) {r k : Nat} (hr : r < iN (σ 9 0)) (hk : k < iN (σ 16 0)) : ad 3 (iN (σ 3 r)) = ad 3 (iN (σ 10 k)) ↔ σ 3 r = σ 10 k := by
  constructor
  · intro q
    have e := hQ.inj (ct3 (hW.wl hr)) (ct3 (hW.wk hk)) q
    rw [(hW.1.2.2.2.2.2.1 r hr).1, (hW.1.2.2.2.2.2.2.2.2.1 k hk).1, e]
  · intro q
    rw [q]
end PUSH

theorem nw_RX7_57 : sg_NW RX7 57 3 3 [.null, .null, .null] := ⟨RX2, TX2, tyX2, rfl, ti_3, tyX2_ok, (fun j hj => match j, hj with | 0, _ => rfl | 1, _ => rfl | 2, _ => rfl | n + 3, h => absurd h (by omega)), sg_mem (i := 240) (by decide +kernel) rfl, sg_mem (i := 241) (by decide +kernel) rfl, sg_mem (i := 35) (by decide +kernel) rfl⟩
theorem md_X2_init : sg_MD yX2_init cX2_init 1 none 0 := ⟨sg_mem (i := 244) (by decide +kernel) rfl, sg_mem (i := 35) (by decide +kernel) rfl, ⟨by decide, by decide⟩, by decide +kernel⟩
theorem ml_RX7_59 : sg_ML RX7 59 yX2_init := .inr ⟨"SplitGate", sg_memN (i := 242) (by decide +kernel) rfl⟩
theorem im_X2_init : Cond.instanceMethod yX2_init ∈ sg_T := sg_mem (i := 243) (by decide +kernel) rfl
theorem ca_3 : Cond.castable RX2 "java/lang/Object" ∈ sg_N := sg_memN (i := 819) (by decide +kernel) rfl
theorem md_Jx4a65c_add_9ea2d : sg_MD yJx4a65c_add_9ea2d cJx4a65c_add_9ea2d 2 (some .boolean) 1 := ⟨sg_mem (i := 260) (by decide +kernel) rfl, sg_mem (i := 29) (by decide +kernel) rfl, ⟨by decide, by decide⟩, by decide +kernel⟩
theorem ml_RX7_60 : sg_ML RX7 60 yJx4a65c_add_9ea2d := .inl (sg_mem (i := 257) (by decide +kernel) rfl)
theorem im_Jx4a65c_add_9ea2d : Cond.instanceMethod yJx4a65c_add_9ea2d ∈ sg_T := sg_mem (i := 258) (by decide +kernel) rfl
theorem sl_Jx4a65c_add_9ea2d : Cond.selects yJx4a65c_add_9ea2d.cls yJx4a65c_add_9ea2d yJx4a65c_add_9ea2d ∈ sg_T := sg_mem (i := 259) (by decide +kernel) rfl
theorem nw_RX7_93 : sg_NW RX7 93 5 7 [.null, .null, .null, .null, .int 0, .int 0, .int 0] := ⟨RX4, TX4, tyX4, rfl, ti_5, tyX4_ok, (fun j hj => match j, hj with | 0, _ => rfl | 1, _ => rfl | 2, _ => rfl | 3, _ => rfl | 4, _ => rfl | 5, _ => rfl | 6, _ => rfl | n + 7, h => absurd h (by omega)), sg_mem (i := 358) (by decide +kernel) rfl, sg_mem (i := 359) (by decide +kernel) rfl, sg_mem (i := 44) (by decide +kernel) rfl⟩
theorem md_X4_init : sg_MD yX4_init cX4_init 2 none 1 := ⟨sg_mem (i := 362) (by decide +kernel) rfl, sg_mem (i := 44) (by decide +kernel) rfl, ⟨by decide, by decide⟩, by decide +kernel⟩
theorem ml_RX7_95 : sg_ML RX7 95 yX4_init := .inl (sg_mem (i := 360) (by decide +kernel) rfl)
theorem im_X4_init : Cond.instanceMethod yX4_init ∈ sg_T := sg_mem (i := 361) (by decide +kernel) rfl
theorem ca_5 : Cond.castable RX4 "java/lang/Object" ∈ sg_N := sg_memN (i := 822) (by decide +kernel) rfl
theorem nw_RX7_168 : sg_NW RX7 168 1 2 [.null, .null] := ⟨RX0, TX0, tyX0, rfl, ti_1, tyX0_ok, (fun j hj => match j, hj with | 0, _ => rfl | 1, _ => rfl | n + 2, h => absurd h (by omega)), sg_mem (i := 414) (by decide +kernel) rfl, sg_mem (i := 415) (by decide +kernel) rfl, sg_mem (i := 45) (by decide +kernel) rfl⟩
theorem md_X0_init : sg_MD yX0_init cX0_init 2 none 1 := ⟨sg_mem (i := 418) (by decide +kernel) rfl, sg_mem (i := 45) (by decide +kernel) rfl, ⟨by decide, by decide⟩, by decide +kernel⟩
theorem ml_RX7_170 : sg_ML RX7 170 yX0_init := .inl (sg_mem (i := 416) (by decide +kernel) rfl)
theorem im_X0_init : Cond.instanceMethod yX0_init ∈ sg_T := sg_mem (i := 417) (by decide +kernel) rfl
theorem ca_1 : Cond.castable RX0 "java/lang/Object" ∈ sg_N := sg_memN (i := 823) (by decide +kernel) rfl
theorem md_X7_hasOffered : sg_MD yX7_hasOffered cX7_hasOffered 5 (some .boolean) 2 := ⟨sg_mem (i := 786) (by decide +kernel) rfl, sg_mem (i := 26) (by decide +kernel) rfl, ⟨by decide, by decide⟩, by decide +kernel⟩
theorem ml_RX7_277 : sg_ML RX7 277 yX7_hasOffered := .inl (sg_mem (i := 783) (by decide +kernel) rfl)
theorem im_X7_hasOffered : Cond.instanceMethod yX7_hasOffered ∈ sg_T := sg_mem (i := 785) (by decide +kernel) rfl
theorem sl_X7_hasOffered : Cond.selects yX7_hasOffered.cls yX7_hasOffered yX7_hasOffered ∈ sg_T := sg_mem (i := 24) (by decide +kernel) rfl
theorem nw_RX7_282 : sg_NW RX7 282 4 3 [.null, .int 0, .int 0] := ⟨RX3, TX3, tyX3, rfl, ti_4, tyX3_ok, (fun j hj => match j, hj with | 0, _ => rfl | 1, _ => rfl | 2, _ => rfl | n + 3, h => absurd h (by omega)), sg_mem (i := 681) (by decide +kernel) rfl, sg_mem (i := 788) (by decide +kernel) rfl, sg_mem (i := 48) (by decide +kernel) rfl⟩
theorem md_X3_init : sg_MD yX3_init cX3_init 3 none 2 := ⟨sg_mem (i := 791) (by decide +kernel) rfl, sg_mem (i := 48) (by decide +kernel) rfl, ⟨by decide, by decide⟩, by decide +kernel⟩
theorem ml_RX7_284 : sg_ML RX7 284 yX3_init := .inl (sg_mem (i := 789) (by decide +kernel) rfl)
theorem im_X3_init : Cond.instanceMethod yX3_init ∈ sg_T := sg_mem (i := 790) (by decide +kernel) rfl
theorem ca_4 : Cond.castable RX3 "java/lang/Object" ∈ sg_N := sg_memN (i := 826) (by decide +kernel) rfl
theorem fl_RX7_195 : sg_FL RX7 195 1 0 := ⟨RX0, TX0, 2, "SplitGate$Category", rfl, by decide, ti_1, .inl rfl, .inr ⟨"SplitGate", sg_memN (i := 423) (by decide +kernel) rfl⟩⟩
theorem fp_5_6 : sg_FP 5 6 false .boolean := ⟨RX4, TX4, 7, rfl, rfl, by decide +kernel, rfl⟩
theorem nw_RX7_204 : sg_NW RX7 204 7 7 [.int 0, .int 0, .null, .null, .int 0, .int 0, .int 0] := ⟨RX6, TX6, tyX6, rfl, ti_7, tyX6_ok, (fun j hj => match j, hj with | 0, _ => rfl | 1, _ => rfl | 2, _ => rfl | 3, _ => rfl | 4, _ => rfl | 5, _ => rfl | 6, _ => rfl | n + 7, h => absurd h (by omega)), sg_mem (i := 440) (by decide +kernel) rfl, sg_mem (i := 594) (by decide +kernel) rfl, sg_mem (i := 46) (by decide +kernel) rfl⟩
theorem md_X6_init : sg_MD yX6_init cX6_init 6 none 5 := ⟨sg_mem (i := 597) (by decide +kernel) rfl, sg_mem (i := 46) (by decide +kernel) rfl, ⟨by decide, by decide⟩, by decide +kernel⟩
theorem ml_RX7_206 : sg_ML RX7 206 yX6_init := .inl (sg_mem (i := 595) (by decide +kernel) rfl)
theorem im_X6_init : Cond.instanceMethod yX6_init ∈ sg_T := sg_mem (i := 596) (by decide +kernel) rfl
theorem ca_7 : Cond.castable RX6 "java/lang/Object" ∈ sg_N := sg_memN (i := 824) (by decide +kernel) rfl
theorem fl_RX7_175 : sg_FL RX7 175 1 1 := ⟨RX0, TX0, 2, "SplitGate$Category", rfl, by decide, ti_1, .inl rfl, .inr ⟨"SplitGate", sg_memN (i := 425) (by decide +kernel) rfl⟩⟩
theorem nw_RX7_180 : sg_NW RX7 180 6 4 [.int 0, .int 0, .int 0, .int 0] := ⟨RX5, TX5, tyX5, rfl, ti_6, tyX5_ok, (fun j hj => match j, hj with | 0, _ => rfl | 1, _ => rfl | 2, _ => rfl | 3, _ => rfl | n + 4, h => absurd h (by omega)), sg_mem (i := 635) (by decide +kernel) rfl, sg_mem (i := 636) (by decide +kernel) rfl, sg_mem (i := 47) (by decide +kernel) rfl⟩
theorem md_X5_init : sg_MD yX5_init cX5_init 5 none 4 := ⟨sg_mem (i := 639) (by decide +kernel) rfl, sg_mem (i := 47) (by decide +kernel) rfl, ⟨by decide, by decide⟩, by decide +kernel⟩
theorem ml_RX7_182 : sg_ML RX7 182 yX5_init := .inl (sg_mem (i := 637) (by decide +kernel) rfl)
theorem im_X5_init : Cond.instanceMethod yX5_init ∈ sg_T := sg_mem (i := 638) (by decide +kernel) rfl
theorem ca_6 : Cond.castable RX5 "java/lang/Object" ∈ sg_N := sg_memN (i := 825) (by decide +kernel) rfl
theorem md_X7_countRefused : sg_MD yX7_countRefused cX7_countRefused 5 (some .int) 1 := ⟨sg_mem (i := 658) (by decide +kernel) rfl, sg_mem (i := 26) (by decide +kernel) rfl, ⟨by decide, by decide⟩, by decide +kernel⟩
theorem ml_RX7_185 : sg_ML RX7 185 yX7_countRefused := .inl (sg_mem (i := 655) (by decide +kernel) rfl)
theorem im_X7_countRefused : Cond.instanceMethod yX7_countRefused ∈ sg_T := sg_mem (i := 657) (by decide +kernel) rfl
theorem sl_X7_countRefused : Cond.selects yX7_countRefused.cls yX7_countRefused yX7_countRefused ∈ sg_T := sg_mem (i := 16) (by decide +kernel) rfl
set_option maxHeartbeats 4000000 in
set_option maxRecDepth 100000 in
theorem c_X7_level (l : Launch) (g : sg_G) (C : Nat → Option va_E) (ad : Ad) (own : Nat → Option (Nat × Nat)) (gh : Gh) (σ : Mem) (hQ : Pic g ad own gh σ C) (hW : WX σ) (hg : gOk gh) (hst : l.stackTraces = false) : sg_Met l yX7_level cX7_level 1 (some .int) 7 161 24 420 g [.ref (ad 0 0)] C (fun v C' => v = some (.int (vLevel σ)) ∧ ¬ 0 < kLevel σ ∧ PH g (ad 0 0) own C (fLevel σ) C') (fun E C' => ((E = "java/lang/IllegalStateException" ∧ kLevel σ = 1)) ∧ PH g (ad 0 0) own C (fLevel σ) C') := by
  refine sg_ofW (by decide) rfl ?_ (Nat.le_of_ble_eq_true rfl)
  intro p e s m below meth c hc hlk hrt hin2 htb
  have hc : sg_Cx p s m _ c cX7_level 1 RX7 g := hc
  show sg_W p l e _ s m _ below meth c 1 g 0 0 _ C 0 [(0, .ref (ad 0 0))] []
  refine sw_aload_n (pc := 0) hc dX7_level_0 rfl 0 rfl ?_
  refine sw_get (pc := 1) (v := .ref (ad 1 0)) hc fl_RX7_12 (hQ.at ct0) rfl dX7_level_1 ?_
  refine sw_callV (pc := 4) (rest := []) hc (c_Jx4a65c_size_8abf5 l g C (ad 1 0) (nI (iN (σ 2 0))) (if iN (σ 2 0) = 0 then g.2.2.2 0 else ad 2 0) (nI (iN (σ 2 0))) (hQ.at (ct1 (k := 0) (by decide)))) md_Jx4a65c_size_8abf5 ml_RX7_46 im_Jx4a65c_size_8abf5 sl_Jx4a65c_size_8abf5 (hQ.at (ct1 (k := 0) (by decide))) rfl rfl rfl (Nat.le_of_ble_eq_true rfl) dX7_level_4 ⟨Nat.le_of_ble_eq_true rfl, Nat.le_of_ble_eq_true rfl, Nat.le_of_ble_eq_true rfl, Nat.le_of_ble_eq_true rfl⟩ (fun v C' hP => ?_) (fun _ _ h => h.elim)
  obtain ⟨rfl, hCC⟩ := hP
  refine sw_eq (C' := C) hCC ?_
  refine sw_st (st' := [.int (nI (iN (σ 2 0)))]) rfl ?_
  refine sw_iconst (pc := 7) (v := 3) hc dX7_level_7 (by decide) ?_
  refine sw_icmp_lt (pc := 8) (tgt := 21) hc dX7_level_8 (by decide) (fun c_1 => ?_) (fun c_1 => ?_)
  ·
    have c_1' := Int32.not_le.mpr c_1
    refine sw_aload_n (pc := 21) hc dX7_level_21 rfl 0 rfl ?_
    refine sw_get (pc := 22) (v := .ref (ad 1 0)) hc fl_RX7_12 (hQ.at ct0) rfl dX7_level_22 ?_
    refine sw_new (pc := 25) hc nw_RX7_57 ⟨Nat.le_of_ble_eq_true rfl, Nat.le_of_ble_eq_true rfl⟩ dX7_level_25 (fun w2 hf_w2 => ?_)
    have fa_w2 : C w2 = none := (sg_fresh (C := C) (L := []) hf_w2).2
    have hN : sg_nd [w2] := ⟨(sg_fresh (C := C) (L := []) hf_w2).1, trivial⟩
    refine sw_eq (C' := sg_ov C [(w2, .inr (3, [.null, .null, .null]))]) rfl ?_
    refine sw_dup (pc := 28) hc dX7_level_28 rfl ?_
    refine sw_callI (pc := 29) (rest := [.ref w2, .ref (ad 1 0)]) hc (c_X2_init l g (sg_ov C [(w2, .inr (3, [.null, .null, .null]))]) w2 (sg_ov_at hN (k := 0) rfl)) md_X2_init ml_RX7_59 im_X2_init rfl rfl rfl (Nat.le_of_ble_eq_true rfl) dX7_level_29 ⟨Nat.le_of_ble_eq_true rfl, Nat.le_of_ble_eq_true rfl, Nat.le_of_ble_eq_true rfl, Nat.le_of_ble_eq_true rfl⟩ (fun v C' hP => ?_) (fun _ _ h => h.elim)
    obtain ⟨rfl, b1, b2, b3, hb_b1, hb_b2, hb_b3, hN, hCC⟩ := hP
    have fa_b1 : C b1 = none := (sg_fresh (C := C) (L := [(w2, .inr (3, [.null, .null, .null]))]) hb_b1).2
    have fa_b2 : C b2 = none := (sg_fresh (C := C) (L := [(w2, .inr (3, [.null, .null, .null]))]) hb_b2).2
    have fa_b3 : C b3 = none := (sg_fresh (C := C) (L := [(w2, .inr (3, [.null, .null, .null]))]) hb_b3).2
    refine sw_eq (C' := sg_ov C [(b3, sg_ia g 32 (fun _ => 0)), (b2, sg_ia g 32 (fun _ => 0)), (b1, sg_za g 32 (fun _ => 0)), (w2, .inr (3, [.ref b1, .ref b2, .ref b3]))]) (hCC.trans (ov_cov (fun x hx => by rcases List.mem_singleton.mp hx with rfl; simp))) ?_
    refine sw_st (st' := [.ref w2, .ref (ad 1 0)]) rfl ?_
    have hQ1 : Pic g ad own gh σ (sg_ov C [(b3, sg_ia g 32 (fun _ => 0)), (b2, sg_ia g 32 (fun _ => 0)), (b1, sg_za g 32 (fun _ => 0)), (w2, .inr (3, [.ref b1, .ref b2, .ref b3]))]) := (hQ.ext (L := [(b3, sg_ia g 32 (fun _ => 0)), (b2, sg_ia g 32 (fun _ => 0)), (b1, sg_za g 32 (fun _ => 0)), (w2, .inr (3, [.ref b1, .ref b2, .ref b3]))]) (List.forall_mem_cons.mpr ⟨fa_b3, List.forall_mem_cons.mpr ⟨fa_b2, List.forall_mem_cons.mpr ⟨fa_b1, List.forall_mem_cons.mpr ⟨fa_w2, fun _ h => absurd h List.not_mem_nil⟩⟩⟩⟩)).1
    refine sw_callV (pc := 32) (rest := []) hc (c_add1 l hQ1 (j := 0) (by decide) hW.b0 (ci := 3) (vr := (RX2, TX2, 3)) (fun i hi => ⟨_, hQ1.at (ct3 hi)⟩) rfl ca_3 ⟨by decide, by decide⟩ (sg_ov_at hN (k := 3) rfl)) md_Jx4a65c_add_9ea2d ml_RX7_60 im_Jx4a65c_add_9ea2d sl_Jx4a65c_add_9ea2d ((sg_ov_out (sg_nin (sg_nf (hQ.at (ct1 (k := 0) (by decide))) fa_b3) (sg_nin (sg_nf (hQ.at (ct1 (k := 0) (by decide))) fa_b2) (sg_nin (sg_nf (hQ.at (ct1 (k := 0) (by decide))) fa_b1) (sg_nin (sg_nf (hQ.at (ct1 (k := 0) (by decide))) fa_w2) List.not_mem_nil))))).trans (hQ.at (ct1 (k := 0) (by decide)))) rfl rfl rfl (Nat.le_of_ble_eq_true rfl) dX7_level_32 ⟨Nat.le_of_ble_eq_true rfl, Nat.le_of_ble_eq_true rfl, Nat.le_of_ble_eq_true rfl, Nat.le_of_ble_eq_true rfl⟩ (fun v C' hP => ?_) (fun _ _ h => h.elim)
    obtain ⟨rfl, b, hb, hnd, hCC⟩ := hP
    have hN2 : sg_nd [b, ad 1 0, b3, b2, b1, w2] := nd_push (L := [(b3, sg_ia g 32 (fun _ => 0)), (b2, sg_ia g 32 (fun _ => 0)), (b1, sg_za g 32 (fun _ => 0)), (w2, .inr (3, [.ref b1, .ref b2, .ref b3]))]) hN hb hnd (List.forall_mem_cons.mpr ⟨(fresh_ne hQ (j := 0) (by decide) fa_b3), List.forall_mem_cons.mpr ⟨(fresh_ne hQ (j := 0) (by decide) fa_b2), List.forall_mem_cons.mpr ⟨(fresh_ne hQ (j := 0) (by decide) fa_b1), List.forall_mem_cons.mpr ⟨(fresh_ne hQ (j := 0) (by decide) fa_w2), fun _ h => absurd h List.not_mem_nil⟩⟩⟩⟩)
    have hb2 := hb.imp id (fun zq => (sg_fresh (C := C) (L := [(b3, sg_ia g 32 (fun _ => 0)), (b2, sg_ia g 32 (fun _ => 0)), (b1, sg_za g 32 (fun _ => 0)), (w2, .inr (3, [.ref b1, .ref b2, .ref b3]))]) zq).2)
    have hN := hN2
    refine sw_eq (C' := sg_ov C [(b, sg_qa g (sg_cap (iN (σ 2 0) + 1)) (sg_tr (sg_fu (ad 3) (iN (σ 2 0)) w2) (iN (σ 2 0) + 1))), (ad 1 0, .inr (0, [.int (nI (iN (σ 2 0) + 1)), .ref b, .int (nI (iN (σ 2 0) + 1))])), (b3, sg_ia g 32 (fun _ => 0)), (b2, sg_ia g 32 (fun _ => 0)), (b1, sg_za g 32 (fun _ => 0)), (w2, .inr (3, [.ref b1, .ref b2, .ref b3]))]) (hCC.trans (ov_app _)) ?_
    have hb0 : ad 0 0 ≠ b := b_ne hQ (j := 0) (by decide) hb2
    refine sw_st (st' := [.int 1]) rfl ?_
    refine sw_pop (pc := 35) hc dX7_level_35 rfl ?_
    refine sw_aload_n (pc := 36) hc dX7_level_36 rfl 0 rfl ?_
    refine sw_get (pc := 37) (v := .ref (ad 1 0)) hc fl_RX7_12 ((sg_ov_out (sg_nin hb0 (sg_nin (hQ.ne ct0 (ct1 (k := 0) (by decide)) (fun z => absurd (congrArg Prod.fst z) (show (0 : Nat) ≠ 1 by decide))) (sg_nin (sg_nf (hQ.at ct0) fa_b3) (sg_nin (sg_nf (hQ.at ct0) fa_b2) (sg_nin (sg_nf (hQ.at ct0) fa_b1) (sg_nin (sg_nf (hQ.at ct0) fa_w2) List.not_mem_nil))))))).trans (hQ.at ct0)) rfl dX7_level_37 ?_
    refine sw_callV (pc := 40) (rest := []) hc (c_Jx4a65c_size_8abf5 l g (sg_ov C [(b, sg_qa g (sg_cap (iN (σ 2 0) + 1)) (sg_tr (sg_fu (ad 3) (iN (σ 2 0)) w2) (iN (σ 2 0) + 1))), (ad 1 0, .inr (0, [.int (nI (iN (σ 2 0) + 1)), .ref b, .int (nI (iN (σ 2 0) + 1))])), (b3, sg_ia g 32 (fun _ => 0)), (b2, sg_ia g 32 (fun _ => 0)), (b1, sg_za g 32 (fun _ => 0)), (w2, .inr (3, [.ref b1, .ref b2, .ref b3]))]) (ad 1 0) (nI (iN (σ 2 0) + 1)) b (nI (iN (σ 2 0) + 1)) (sg_ov_at hN (k := 1) rfl)) md_Jx4a65c_size_8abf5 ml_RX7_46 im_Jx4a65c_size_8abf5 sl_Jx4a65c_size_8abf5 (sg_ov_at hN (k := 1) rfl) rfl rfl rfl (Nat.le_of_ble_eq_true rfl) dX7_level_40 ⟨Nat.le_of_ble_eq_true rfl, Nat.le_of_ble_eq_true rfl, Nat.le_of_ble_eq_true rfl, Nat.le_of_ble_eq_true rfl⟩ (fun v C' hP => ?_) (fun _ _ h => h.elim)
    obtain ⟨rfl, rfl⟩ := hP
    refine sw_st (st' := [.int (nI (iN (σ 2 0) + 1))]) rfl ?_
    refine sw_iconst (pc := 43) (v := 1) hc dX7_level_43 (by decide) ?_
    refine sw_isub (pc := 44) hc dX7_level_44 ?_
    refine sw_st (st' := [.int (nI (iN (σ 2 0)))]) (congrArg (fun z => ([.int z] : List Value)) (nI_pred _ : (nI (iN (σ 2 0) + 1)) - 1 = nI (iN (σ 2 0)))) ?_
    have hz := ph_level hQ hW hg ((cnt_ok (B := 3) hW.1.1 (by decide) c_1).1) fa_w2 fa_b1 fa_b2 fa_b3 hb2 hN2
    exact sw_iret (pc := 45) hc hlk hrt rfl ⟨congrArg (fun z => some (Value.int z)) hz.2.1.symm, hz.1, hz.2.2⟩ (Nat.le_of_ble_eq_true rfl) (Nat.le_of_ble_eq_true rfl) dX7_level_45
  ·
    have c_1' := Int32.not_lt.mp c_1
    exact sw_throw (pc := 11) hc hst th_RX7_50 (text := "no more levels") (by decide +kernel) dX7_level_11 dX7_level_14 dX7_level_15 dX7_level_17 dX7_level_20 htb hlk ⟨Nat.le_of_ble_eq_true rfl, Nat.le_of_ble_eq_true rfl, Nat.le_of_ble_eq_true rfl, Nat.le_of_ble_eq_true rfl⟩ ⟨⟨rfl, if_pos (cnt_full (B := 3) hW.1.1 (by decide) c_1)⟩, PH.q hQ hW hg (by rw [show fLevel σ = st2 σ 42 0 (kLevel σ) from if_pos (by rw [show kLevel σ = 1 from if_pos (cnt_full (B := 3) hW.1.1 (by decide) c_1)]; decide)]; exact f42 _)⟩ (Nat.le_of_ble_eq_true rfl) (Nat.le_of_ble_eq_true rfl)

set_option maxHeartbeats 4000000 in
set_option maxRecDepth 100000 in
theorem c_X7_replay (l : Launch) (g : sg_G) (C : Nat → Option va_E) (ad : Ad) (own : Nat → Option (Nat × Nat)) (gh : Gh) (σ : Mem) (x : Int32) (hQ : Pic g ad own gh σ C) (hW : WX σ) (hg : gOk gh) (hst : l.stackTraces = false) : sg_Met l yX7_replay cX7_replay 3 (some .int) 7 161 24 420 g [.ref (ad 0 0), .int x] C (fun v C' => v = some (.int (vReplay σ x)) ∧ ¬ 0 < kReplay σ x ∧ PH g (ad 0 0) own C (fReplay σ x) C') (fun E C' => ((E = "java/lang/IndexOutOfBoundsException" ∧ kReplay σ x = 1) ∨ (E = "java/lang/IllegalStateException" ∧ kReplay σ x = 2)) ∧ PH g (ad 0 0) own C (fReplay σ x) C') := by
  refine sg_ofW (by decide) rfl ?_ (Nat.le_of_ble_eq_true rfl)
  intro p e s m below meth c hc hlk hrt hin2 htb
  have hc : sg_Cx p s m _ c cX7_replay 3 RX7 g := hc
  show sg_W p l e _ s m _ below meth c 3 g 0 0 _ C 0 [(0, .ref (ad 0 0)), (1, .int x)] []
  refine sw_aload_n (pc := 0) hc dX7_replay_0 rfl 0 rfl ?_
  refine sw_iload_n (pc := 1) hc dX7_replay_1 rfl 1 rfl ?_
  refine sw_callV (pc := 2) (rest := []) hc (c_X7_levelOf l g C ad own gh σ x hQ hW hst) md_X7_levelOf ml_RX7_64 im_X7_levelOf sl_X7_levelOf (hQ.at ct0) rfl rfl rfl (Nat.le_of_ble_eq_true rfl) dX7_replay_2 ⟨Nat.le_of_ble_eq_true rfl, Nat.le_of_ble_eq_true rfl, Nat.le_of_ble_eq_true rfl, Nat.le_of_ble_eq_true rfl⟩ (fun v C' hP => ?_) (fun E C' hX => sx_out htb hlk (⟨.inl (⟨hX.1, if_pos hX.2.1⟩), by rw [hX.2.2]; exact PH.q hQ hW hg (by rw [show fReplay σ x = st2 σ 42 0 (kReplay σ x) from if_pos (by rw [show kReplay σ x = 1 from if_pos hX.2.1]; decide)]; exact f42 _)⟩) (Nat.le_of_ble_eq_true rfl) (Nat.le_of_ble_eq_true rfl))
  obtain ⟨rfl, o_1, hCC⟩ := hP
  refine sw_eq (C' := C) hCC ?_
  obtain ⟨o_1_x, o_1_l⟩ := rIn_x hW.1.1 (by decide) o_1
  refine sw_st (st' := [.ref (ad 3 (iN x))]) rfl ?_
  refine sw_astore_n (pc := 5) hc dX7_replay_5 rfl (by decide) (lv' := [(2, .ref (ad 3 (iN x))), (0, .ref (ad 0 0)), (1, .int x)]) rfl ?_
  refine sw_aload_n (pc := 6) hc dX7_replay_6 rfl 1 rfl ?_
  refine sw_get (pc := 7) (v := .ref (ad 1 1)) hc fl_RX7_16 (hQ.at ct0) rfl dX7_replay_7 ?_
  refine sw_callV (pc := 10) (rest := []) hc (c_Jx4a65c_size_8abf5 l g C (ad 1 1) (nI (iN (σ 9 0))) (if iN (σ 9 0) = 0 then g.2.2.2 0 else ad 2 1) (nI (iN (σ 9 0))) (hQ.at (ct1 (k := 1) (by decide)))) md_Jx4a65c_size_8abf5 ml_RX7_46 im_Jx4a65c_size_8abf5 sl_Jx4a65c_size_8abf5 (hQ.at (ct1 (k := 1) (by decide))) rfl rfl rfl (Nat.le_of_ble_eq_true rfl) dX7_replay_10 ⟨Nat.le_of_ble_eq_true rfl, Nat.le_of_ble_eq_true rfl, Nat.le_of_ble_eq_true rfl, Nat.le_of_ble_eq_true rfl⟩ (fun v C' hP => ?_) (fun _ _ h => h.elim)
  obtain ⟨rfl, hCC⟩ := hP
  refine sw_eq (C' := C) hCC ?_
  refine sw_st (st' := [.int (nI (iN (σ 9 0)))]) rfl ?_
  refine sw_bipush (pc := 13) (v := 20) hc dX7_replay_13 (by decide) ?_
  refine sw_icmp_lt (pc := 15) (tgt := 28) hc dX7_replay_15 (by decide) (fun c_2 => ?_) (fun c_2 => ?_)
  ·
    have c_2' := Int32.not_le.mpr c_2
    refine sw_aload_n (pc := 28) hc dX7_replay_28 rfl 1 rfl ?_
    refine sw_get (pc := 29) (v := .ref (ad 1 1)) hc fl_RX7_16 (hQ.at ct0) rfl dX7_replay_29 ?_
    refine sw_new (pc := 32) hc nw_RX7_93 ⟨Nat.le_of_ble_eq_true rfl, Nat.le_of_ble_eq_true rfl⟩ dX7_replay_32 (fun w3 hf_w3 => ?_)
    have fa_w3 : C w3 = none := (sg_fresh (C := C) (L := []) hf_w3).2
    have hN : sg_nd [w3] := ⟨(sg_fresh (C := C) (L := []) hf_w3).1, trivial⟩
    refine sw_eq (C' := sg_ov C [(w3, .inr (5, [.null, .null, .null, .null, .int 0, .int 0, .int 0]))]) rfl ?_
    refine sw_dup (pc := 35) hc dX7_replay_35 rfl ?_
    refine sw_aload_n (pc := 36) hc dX7_replay_36 rfl 0 rfl ?_
    refine sw_callI (pc := 37) (rest := [.ref w3, .ref (ad 1 1)]) hc (c_X4_init l g (sg_ov C [(w3, .inr (5, [.null, .null, .null, .null, .int 0, .int 0, .int 0]))]) w3 (ad 3 (iN x)) (ad 4 (iN x)) (ad 5 (iN x)) (ad 6 (iN x)) (lvF σ (iN x)) (sg_ov_at hN (k := 0) rfl) ((sg_ov_out (sg_nin (sg_nf (hQ.at (ct3 (k := (iN x)) o_1_l)) fa_w3) List.not_mem_nil)).trans (hQ.at (ct3 (k := (iN x)) o_1_l))) ((sg_ov_out (sg_nin (sg_nf (hQ.at (ct5 (k := (iN x)) o_1_l)) fa_w3) List.not_mem_nil)).trans (hQ.at (ct5 (k := (iN x)) o_1_l)))) md_X4_init ml_RX7_95 im_X4_init rfl rfl rfl (Nat.le_of_ble_eq_true rfl) dX7_replay_37 ⟨Nat.le_of_ble_eq_true rfl, Nat.le_of_ble_eq_true rfl, Nat.le_of_ble_eq_true rfl, Nat.le_of_ble_eq_true rfl⟩ (fun v C' hP => ?_) (fun _ _ h => h.elim)
    obtain ⟨rfl, b1, b2, b3, hb_b1, hb_b2, hb_b3, hN, hCC⟩ := hP
    have fa_b1 : C b1 = none := (sg_fresh (C := C) (L := [(w3, .inr (5, [.null, .null, .null, .null, .int 0, .int 0, .int 0]))]) hb_b1).2
    have fa_b2 : C b2 = none := (sg_fresh (C := C) (L := [(w3, .inr (5, [.null, .null, .null, .null, .int 0, .int 0, .int 0]))]) hb_b2).2
    have fa_b3 : C b3 = none := (sg_fresh (C := C) (L := [(w3, .inr (5, [.null, .null, .null, .null, .int 0, .int 0, .int 0]))]) hb_b3).2
    refine sw_eq (C' := sg_ov C [(b3, .inr (2, hfs (hStart (lvF σ (iN x)) hz))), (b2, sg_ia g 20 (fun _ => 0)), (b1, sg_ia g 20 (fun _ => 0)), (w3, .inr (5, [.ref (ad 3 (iN x)), .ref b1, .ref b2, .ref b3, .int 0, .int 0, .int 0]))]) (hCC.trans (ov_cov (fun x hx => by rcases List.mem_singleton.mp hx with rfl; simp))) ?_
    refine sw_st (st' := [.ref w3, .ref (ad 1 1)]) rfl ?_
    have hQ1 : Pic g ad own gh σ (sg_ov C [(b3, .inr (2, hfs (hStart (lvF σ (iN x)) hz))), (b2, sg_ia g 20 (fun _ => 0)), (b1, sg_ia g 20 (fun _ => 0)), (w3, .inr (5, [.ref (ad 3 (iN x)), .ref b1, .ref b2, .ref b3, .int 0, .int 0, .int 0]))]) := (hQ.ext (L := [(b3, .inr (2, hfs (hStart (lvF σ (iN x)) hz))), (b2, sg_ia g 20 (fun _ => 0)), (b1, sg_ia g 20 (fun _ => 0)), (w3, .inr (5, [.ref (ad 3 (iN x)), .ref b1, .ref b2, .ref b3, .int 0, .int 0, .int 0]))]) (List.forall_mem_cons.mpr ⟨fa_b3, List.forall_mem_cons.mpr ⟨fa_b2, List.forall_mem_cons.mpr ⟨fa_b1, List.forall_mem_cons.mpr ⟨fa_w3, fun _ h => absurd h List.not_mem_nil⟩⟩⟩⟩)).1
    refine sw_callV (pc := 40) (rest := []) hc (c_add1 l hQ1 (j := 1) (by decide) hW.b1 (ci := 5) (vr := (RX4, TX4, 7)) (fun i hi => ⟨_, hQ1.at (ct7 hi)⟩) rfl ca_5 ⟨by decide, by decide⟩ (sg_ov_at hN (k := 3) rfl)) md_Jx4a65c_add_9ea2d ml_RX7_60 im_Jx4a65c_add_9ea2d sl_Jx4a65c_add_9ea2d ((sg_ov_out (sg_nin (sg_nf (hQ.at (ct1 (k := 1) (by decide))) fa_b3) (sg_nin (sg_nf (hQ.at (ct1 (k := 1) (by decide))) fa_b2) (sg_nin (sg_nf (hQ.at (ct1 (k := 1) (by decide))) fa_b1) (sg_nin (sg_nf (hQ.at (ct1 (k := 1) (by decide))) fa_w3) List.not_mem_nil))))).trans (hQ.at (ct1 (k := 1) (by decide)))) rfl rfl rfl (Nat.le_of_ble_eq_true rfl) dX7_replay_40 ⟨Nat.le_of_ble_eq_true rfl, Nat.le_of_ble_eq_true rfl, Nat.le_of_ble_eq_true rfl, Nat.le_of_ble_eq_true rfl⟩ (fun v C' hP => ?_) (fun _ _ h => h.elim)
    obtain ⟨rfl, b, hb, hnd, hCC⟩ := hP
    have hN2 : sg_nd [b, ad 1 1, b3, b2, b1, w3] := nd_push (L := [(b3, .inr (2, hfs (hStart (lvF σ (iN x)) hz))), (b2, sg_ia g 20 (fun _ => 0)), (b1, sg_ia g 20 (fun _ => 0)), (w3, .inr (5, [.ref (ad 3 (iN x)), .ref b1, .ref b2, .ref b3, .int 0, .int 0, .int 0]))]) hN hb hnd (List.forall_mem_cons.mpr ⟨(fresh_ne hQ (j := 1) (by decide) fa_b3), List.forall_mem_cons.mpr ⟨(fresh_ne hQ (j := 1) (by decide) fa_b2), List.forall_mem_cons.mpr ⟨(fresh_ne hQ (j := 1) (by decide) fa_b1), List.forall_mem_cons.mpr ⟨(fresh_ne hQ (j := 1) (by decide) fa_w3), fun _ h => absurd h List.not_mem_nil⟩⟩⟩⟩)
    have hb2 := hb.imp id (fun zq => (sg_fresh (C := C) (L := [(b3, .inr (2, hfs (hStart (lvF σ (iN x)) hz))), (b2, sg_ia g 20 (fun _ => 0)), (b1, sg_ia g 20 (fun _ => 0)), (w3, .inr (5, [.ref (ad 3 (iN x)), .ref b1, .ref b2, .ref b3, .int 0, .int 0, .int 0]))]) zq).2)
    have hN := hN2
    refine sw_eq (C' := sg_ov C [(b, sg_qa g (sg_cap (iN (σ 9 0) + 1)) (sg_tr (sg_fu (ad 7) (iN (σ 9 0)) w3) (iN (σ 9 0) + 1))), (ad 1 1, .inr (0, [.int (nI (iN (σ 9 0) + 1)), .ref b, .int (nI (iN (σ 9 0) + 1))])), (b3, .inr (2, hfs (hStart (lvF σ (iN x)) hz))), (b2, sg_ia g 20 (fun _ => 0)), (b1, sg_ia g 20 (fun _ => 0)), (w3, .inr (5, [.ref (ad 3 (iN x)), .ref b1, .ref b2, .ref b3, .int 0, .int 0, .int 0]))]) (hCC.trans (ov_app _)) ?_
    have hb0 : ad 0 0 ≠ b := b_ne hQ (j := 1) (by decide) hb2
    refine sw_st (st' := [.int 1]) rfl ?_
    refine sw_pop (pc := 43) hc dX7_replay_43 rfl ?_
    refine sw_aload_n (pc := 44) hc dX7_replay_44 rfl 1 rfl ?_
    refine sw_get (pc := 45) (v := .ref (ad 1 1)) hc fl_RX7_16 ((sg_ov_out (sg_nin hb0 (sg_nin (hQ.ne ct0 (ct1 (k := 1) (by decide)) (fun z => absurd (congrArg Prod.fst z) (show (0 : Nat) ≠ 1 by decide))) (sg_nin (sg_nf (hQ.at ct0) fa_b3) (sg_nin (sg_nf (hQ.at ct0) fa_b2) (sg_nin (sg_nf (hQ.at ct0) fa_b1) (sg_nin (sg_nf (hQ.at ct0) fa_w3) List.not_mem_nil))))))).trans (hQ.at ct0)) rfl dX7_replay_45 ?_
    refine sw_callV (pc := 48) (rest := []) hc (c_Jx4a65c_size_8abf5 l g (sg_ov C [(b, sg_qa g (sg_cap (iN (σ 9 0) + 1)) (sg_tr (sg_fu (ad 7) (iN (σ 9 0)) w3) (iN (σ 9 0) + 1))), (ad 1 1, .inr (0, [.int (nI (iN (σ 9 0) + 1)), .ref b, .int (nI (iN (σ 9 0) + 1))])), (b3, .inr (2, hfs (hStart (lvF σ (iN x)) hz))), (b2, sg_ia g 20 (fun _ => 0)), (b1, sg_ia g 20 (fun _ => 0)), (w3, .inr (5, [.ref (ad 3 (iN x)), .ref b1, .ref b2, .ref b3, .int 0, .int 0, .int 0]))]) (ad 1 1) (nI (iN (σ 9 0) + 1)) b (nI (iN (σ 9 0) + 1)) (sg_ov_at hN (k := 1) rfl)) md_Jx4a65c_size_8abf5 ml_RX7_46 im_Jx4a65c_size_8abf5 sl_Jx4a65c_size_8abf5 (sg_ov_at hN (k := 1) rfl) rfl rfl rfl (Nat.le_of_ble_eq_true rfl) dX7_replay_48 ⟨Nat.le_of_ble_eq_true rfl, Nat.le_of_ble_eq_true rfl, Nat.le_of_ble_eq_true rfl, Nat.le_of_ble_eq_true rfl⟩ (fun v C' hP => ?_) (fun _ _ h => h.elim)
    obtain ⟨rfl, rfl⟩ := hP
    refine sw_st (st' := [.int (nI (iN (σ 9 0) + 1))]) rfl ?_
    refine sw_iconst (pc := 51) (v := 1) hc dX7_replay_51 (by decide) ?_
    refine sw_isub (pc := 52) hc dX7_replay_52 ?_
    refine sw_st (st' := [.int (nI (iN (σ 9 0)))]) (congrArg (fun z => ([.int z] : List Value)) (nI_pred _ : (nI (iN (σ 9 0) + 1)) - 1 = nI (iN (σ 9 0)))) ?_
    have hz := ph_rep hQ hW hg o_1 ((cnt_ok (B := 20) hW.1.2.1 (by decide) c_2).1) fa_w3 fa_b1 fa_b2 fa_b3 hb2 hN2
    exact sw_iret (pc := 53) hc hlk hrt rfl ⟨congrArg (fun z => some (Value.int z)) hz.2.1.symm, hz.1, hz.2.2⟩ (Nat.le_of_ble_eq_true rfl) (Nat.le_of_ble_eq_true rfl) dX7_replay_53
  ·
    have c_2' := Int32.not_lt.mp c_2
    exact sw_throw (pc := 18) hc hst th_RX7_50 (text := "no more replays") (by decide +kernel) dX7_replay_18 dX7_replay_21 dX7_replay_22 dX7_replay_24 dX7_replay_27 htb hlk ⟨Nat.le_of_ble_eq_true rfl, Nat.le_of_ble_eq_true rfl, Nat.le_of_ble_eq_true rfl, Nat.le_of_ble_eq_true rfl⟩ ⟨.inr (⟨rfl, (if_neg (fun q => q o_1)).trans (if_pos (cnt_full (B := 20) hW.1.2.1 (by decide) c_2))⟩), PH.q hQ hW hg (by rw [show fReplay σ x = st2 σ 42 0 (kReplay σ x) from if_pos (by rw [show kReplay σ x = 2 from (if_neg (fun q => q o_1)).trans (if_pos (cnt_full (B := 20) hW.1.2.1 (by decide) c_2))]; decide)]; exact f42 _)⟩ (Nat.le_of_ble_eq_true rfl) (Nat.le_of_ble_eq_true rfl)

set_option maxHeartbeats 4000000 in
set_option maxRecDepth 100000 in
theorem c_X7_category (l : Launch) (g : sg_G) (C : Nat → Option va_E) (ad : Ad) (own : Nat → Option (Nat × Nat)) (gh : Gh) (σ : Mem) (x : Int32) (hQ : Pic g ad own gh σ C) (hW : WX σ) (hg : gOk gh) (hst : l.stackTraces = false) : sg_Met l yX7_category cX7_category 3 (some .int) 7 161 24 420 g [.ref (ad 0 0), .int x] C (fun v C' => v = some (.int (vCategory σ x)) ∧ ¬ 0 < kCategory σ x ∧ PH g (ad 0 0) own C (fCategory σ x) C') (fun E C' => ((E = "java/lang/IndexOutOfBoundsException" ∧ kCategory σ x = 1) ∨ (E = "java/lang/IllegalStateException" ∧ kCategory σ x = 2)) ∧ PH g (ad 0 0) own C (fCategory σ x) C') := by
  refine sg_ofW (by decide) rfl ?_ (Nat.le_of_ble_eq_true rfl)
  intro p e s m below meth c hc hlk hrt hin2 htb
  have hc : sg_Cx p s m _ c cX7_category 3 RX7 g := hc
  show sg_W p l e _ s m _ below meth c 3 g 0 0 _ C 0 [(0, .ref (ad 0 0)), (1, .int x)] []
  refine sw_aload_n (pc := 0) hc dX7_category_0 rfl 0 rfl ?_
  refine sw_iload_n (pc := 1) hc dX7_category_1 rfl 1 rfl ?_
  refine sw_callV (pc := 2) (rest := []) hc (c_X7_levelOf l g C ad own gh σ x hQ hW hst) md_X7_levelOf ml_RX7_64 im_X7_levelOf sl_X7_levelOf (hQ.at ct0) rfl rfl rfl (Nat.le_of_ble_eq_true rfl) dX7_category_2 ⟨Nat.le_of_ble_eq_true rfl, Nat.le_of_ble_eq_true rfl, Nat.le_of_ble_eq_true rfl, Nat.le_of_ble_eq_true rfl⟩ (fun v C' hP => ?_) (fun E C' hX => sx_out htb hlk (⟨.inl (⟨hX.1, if_pos hX.2.1⟩), by rw [hX.2.2]; exact PH.q hQ hW hg (by rw [show fCategory σ x = st2 σ 42 0 (kCategory σ x) from if_pos (by rw [show kCategory σ x = 1 from if_pos hX.2.1]; decide)]; exact f42 _)⟩) (Nat.le_of_ble_eq_true rfl) (Nat.le_of_ble_eq_true rfl))
  obtain ⟨rfl, o_1, hCC⟩ := hP
  refine sw_eq (C' := C) hCC ?_
  obtain ⟨o_1_x, o_1_l⟩ := rIn_x hW.1.1 (by decide) o_1
  refine sw_st (st' := [.ref (ad 3 (iN x))]) rfl ?_
  refine sw_astore_n (pc := 5) hc dX7_category_5 rfl (by decide) (lv' := [(2, .ref (ad 3 (iN x))), (0, .ref (ad 0 0)), (1, .int x)]) rfl ?_
  refine sw_aload_n (pc := 6) hc dX7_category_6 rfl 1 rfl ?_
  refine sw_get (pc := 7) (v := .ref (ad 1 2)) hc fl_RX7_19 (hQ.at ct0) rfl dX7_category_7 ?_
  refine sw_callV (pc := 10) (rest := []) hc (c_Jx4a65c_size_8abf5 l g C (ad 1 2) (nI (iN (σ 16 0))) (if iN (σ 16 0) = 0 then g.2.2.2 0 else ad 2 2) (nI (iN (σ 16 0))) (hQ.at (ct1 (k := 2) (by decide)))) md_Jx4a65c_size_8abf5 ml_RX7_46 im_Jx4a65c_size_8abf5 sl_Jx4a65c_size_8abf5 (hQ.at (ct1 (k := 2) (by decide))) rfl rfl rfl (Nat.le_of_ble_eq_true rfl) dX7_category_10 ⟨Nat.le_of_ble_eq_true rfl, Nat.le_of_ble_eq_true rfl, Nat.le_of_ble_eq_true rfl, Nat.le_of_ble_eq_true rfl⟩ (fun v C' hP => ?_) (fun _ _ h => h.elim)
  obtain ⟨rfl, hCC⟩ := hP
  refine sw_eq (C' := C) hCC ?_
  refine sw_st (st' := [.int (nI (iN (σ 16 0)))]) rfl ?_
  refine sw_bipush (pc := 13) (v := 6) hc dX7_category_13 (by decide) ?_
  refine sw_icmp_lt (pc := 15) (tgt := 28) hc dX7_category_15 (by decide) (fun c_2 => ?_) (fun c_2 => ?_)
  ·
    have c_2' := Int32.not_le.mpr c_2
    refine sw_aload_n (pc := 28) hc dX7_category_28 rfl 1 rfl ?_
    refine sw_get (pc := 29) (v := .ref (ad 1 2)) hc fl_RX7_19 (hQ.at ct0) rfl dX7_category_29 ?_
    refine sw_new (pc := 32) hc nw_RX7_168 ⟨Nat.le_of_ble_eq_true rfl, Nat.le_of_ble_eq_true rfl⟩ dX7_category_32 (fun w3 hf_w3 => ?_)
    have fa_w3 : C w3 = none := (sg_fresh (C := C) (L := []) hf_w3).2
    have hN : sg_nd [w3] := ⟨(sg_fresh (C := C) (L := []) hf_w3).1, trivial⟩
    refine sw_eq (C' := sg_ov C [(w3, .inr (1, [.null, .null]))]) rfl ?_
    refine sw_dup (pc := 35) hc dX7_category_35 rfl ?_
    refine sw_aload_n (pc := 36) hc dX7_category_36 rfl 0 rfl ?_
    refine sw_callI (pc := 37) (rest := [.ref w3, .ref (ad 1 2)]) hc (c_X0_init l g (sg_ov C [(w3, .inr (1, [.null, .null]))]) w3 (ad 3 (iN x)) (sg_ov_at hN (k := 0) rfl)) md_X0_init ml_RX7_170 im_X0_init rfl rfl rfl (Nat.le_of_ble_eq_true rfl) dX7_category_37 ⟨Nat.le_of_ble_eq_true rfl, Nat.le_of_ble_eq_true rfl, Nat.le_of_ble_eq_true rfl, Nat.le_of_ble_eq_true rfl⟩ (fun v C' hP => ?_) (fun _ _ h => h.elim)
    obtain ⟨rfl, b1, hb_b1, hN, hCC⟩ := hP
    have fa_b1 : C b1 = none := (sg_fresh (C := C) (L := [(w3, .inr (1, [.null, .null]))]) hb_b1).2
    refine sw_eq (C' := sg_ov C [(b1, .inr (0, [.int 0, .ref (g.2.2.2 0), .int 0])), (w3, .inr (1, [.ref (ad 3 (iN x)), .ref b1]))]) (hCC.trans (ov_cov (fun x hx => by rcases List.mem_singleton.mp hx with rfl; simp))) ?_
    refine sw_st (st' := [.ref w3, .ref (ad 1 2)]) rfl ?_
    have hQ1 : Pic g ad own gh σ (sg_ov C [(b1, .inr (0, [.int 0, .ref (g.2.2.2 0), .int 0])), (w3, .inr (1, [.ref (ad 3 (iN x)), .ref b1]))]) := (hQ.ext (L := [(b1, .inr (0, [.int 0, .ref (g.2.2.2 0), .int 0])), (w3, .inr (1, [.ref (ad 3 (iN x)), .ref b1]))]) (List.forall_mem_cons.mpr ⟨fa_b1, List.forall_mem_cons.mpr ⟨fa_w3, fun _ h => absurd h List.not_mem_nil⟩⟩)).1
    refine sw_callV (pc := 40) (rest := []) hc (c_add1 l hQ1 (j := 2) (by decide) hW.b2 (ci := 1) (vr := (RX0, TX0, 2)) (fun i hi => ⟨_, hQ1.at (ct11 hi)⟩) rfl ca_1 ⟨by decide, by decide⟩ (sg_ov_at hN (k := 1) rfl)) md_Jx4a65c_add_9ea2d ml_RX7_60 im_Jx4a65c_add_9ea2d sl_Jx4a65c_add_9ea2d ((sg_ov_out (sg_nin (sg_nf (hQ.at (ct1 (k := 2) (by decide))) fa_b1) (sg_nin (sg_nf (hQ.at (ct1 (k := 2) (by decide))) fa_w3) List.not_mem_nil))).trans (hQ.at (ct1 (k := 2) (by decide)))) rfl rfl rfl (Nat.le_of_ble_eq_true rfl) dX7_category_40 ⟨Nat.le_of_ble_eq_true rfl, Nat.le_of_ble_eq_true rfl, Nat.le_of_ble_eq_true rfl, Nat.le_of_ble_eq_true rfl⟩ (fun v C' hP => ?_) (fun _ _ h => h.elim)
    obtain ⟨rfl, b, hb, hnd, hCC⟩ := hP
    have hN2 : sg_nd [b, ad 1 2, b1, w3] := nd_push (L := [(b1, .inr (0, [.int 0, .ref (g.2.2.2 0), .int 0])), (w3, .inr (1, [.ref (ad 3 (iN x)), .ref b1]))]) hN hb hnd (List.forall_mem_cons.mpr ⟨(fresh_ne hQ (j := 2) (by decide) fa_b1), List.forall_mem_cons.mpr ⟨(fresh_ne hQ (j := 2) (by decide) fa_w3), fun _ h => absurd h List.not_mem_nil⟩⟩)
    have hb2 := hb.imp id (fun zq => (sg_fresh (C := C) (L := [(b1, .inr (0, [.int 0, .ref (g.2.2.2 0), .int 0])), (w3, .inr (1, [.ref (ad 3 (iN x)), .ref b1]))]) zq).2)
    have hN := hN2
    refine sw_eq (C' := sg_ov C [(b, sg_qa g (sg_cap (iN (σ 16 0) + 1)) (sg_tr (sg_fu (ad 11) (iN (σ 16 0)) w3) (iN (σ 16 0) + 1))), (ad 1 2, .inr (0, [.int (nI (iN (σ 16 0) + 1)), .ref b, .int (nI (iN (σ 16 0) + 1))])), (b1, .inr (0, [.int 0, .ref (g.2.2.2 0), .int 0])), (w3, .inr (1, [.ref (ad 3 (iN x)), .ref b1]))]) (hCC.trans (ov_app _)) ?_
    have hb0 : ad 0 0 ≠ b := b_ne hQ (j := 2) (by decide) hb2
    refine sw_st (st' := [.int 1]) rfl ?_
    refine sw_pop (pc := 43) hc dX7_category_43 rfl ?_
    refine sw_aload_n (pc := 44) hc dX7_category_44 rfl 1 rfl ?_
    refine sw_get (pc := 45) (v := .ref (ad 1 2)) hc fl_RX7_19 ((sg_ov_out (sg_nin hb0 (sg_nin (hQ.ne ct0 (ct1 (k := 2) (by decide)) (fun z => absurd (congrArg Prod.fst z) (show (0 : Nat) ≠ 1 by decide))) (sg_nin (sg_nf (hQ.at ct0) fa_b1) (sg_nin (sg_nf (hQ.at ct0) fa_w3) List.not_mem_nil))))).trans (hQ.at ct0)) rfl dX7_category_45 ?_
    refine sw_callV (pc := 48) (rest := []) hc (c_Jx4a65c_size_8abf5 l g (sg_ov C [(b, sg_qa g (sg_cap (iN (σ 16 0) + 1)) (sg_tr (sg_fu (ad 11) (iN (σ 16 0)) w3) (iN (σ 16 0) + 1))), (ad 1 2, .inr (0, [.int (nI (iN (σ 16 0) + 1)), .ref b, .int (nI (iN (σ 16 0) + 1))])), (b1, .inr (0, [.int 0, .ref (g.2.2.2 0), .int 0])), (w3, .inr (1, [.ref (ad 3 (iN x)), .ref b1]))]) (ad 1 2) (nI (iN (σ 16 0) + 1)) b (nI (iN (σ 16 0) + 1)) (sg_ov_at hN (k := 1) rfl)) md_Jx4a65c_size_8abf5 ml_RX7_46 im_Jx4a65c_size_8abf5 sl_Jx4a65c_size_8abf5 (sg_ov_at hN (k := 1) rfl) rfl rfl rfl (Nat.le_of_ble_eq_true rfl) dX7_category_48 ⟨Nat.le_of_ble_eq_true rfl, Nat.le_of_ble_eq_true rfl, Nat.le_of_ble_eq_true rfl, Nat.le_of_ble_eq_true rfl⟩ (fun v C' hP => ?_) (fun _ _ h => h.elim)
    obtain ⟨rfl, rfl⟩ := hP
    refine sw_st (st' := [.int (nI (iN (σ 16 0) + 1))]) rfl ?_
    refine sw_iconst (pc := 51) (v := 1) hc dX7_category_51 (by decide) ?_
    refine sw_isub (pc := 52) hc dX7_category_52 ?_
    refine sw_st (st' := [.int (nI (iN (σ 16 0)))]) (congrArg (fun z => ([.int z] : List Value)) (nI_pred _ : (nI (iN (σ 16 0) + 1)) - 1 = nI (iN (σ 16 0)))) ?_
    have hz := ph_cat hQ hW hg o_1 ((cnt_ok (B := 6) hW.1.2.2.1 (by decide) c_2).1) fa_w3 fa_b1 hb2 hN2
    exact sw_iret (pc := 53) hc hlk hrt rfl ⟨congrArg (fun z => some (Value.int z)) hz.2.1.symm, hz.1, hz.2.2⟩ (Nat.le_of_ble_eq_true rfl) (Nat.le_of_ble_eq_true rfl) dX7_category_53
  ·
    have c_2' := Int32.not_lt.mp c_2
    exact sw_throw (pc := 18) hc hst th_RX7_50 (text := "no more categories") (by decide +kernel) dX7_category_18 dX7_category_21 dX7_category_22 dX7_category_24 dX7_category_27 htb hlk ⟨Nat.le_of_ble_eq_true rfl, Nat.le_of_ble_eq_true rfl, Nat.le_of_ble_eq_true rfl, Nat.le_of_ble_eq_true rfl⟩ ⟨.inr (⟨rfl, (if_neg (fun q => q o_1)).trans (if_pos (cnt_full (B := 6) hW.1.2.2.1 (by decide) c_2))⟩), PH.q hQ hW hg (by rw [show fCategory σ x = st2 σ 42 0 (kCategory σ x) from if_pos (by rw [show kCategory σ x = 2 from (if_neg (fun q => q o_1)).trans (if_pos (cnt_full (B := 6) hW.1.2.2.1 (by decide) c_2))]; decide)]; exact f42 _)⟩ (Nat.le_of_ble_eq_true rfl) (Nat.le_of_ble_eq_true rfl)

set_option maxHeartbeats 4000000 in
set_option maxRecDepth 100000 in
theorem c_X7_offer (l : Launch) (g : sg_G) (C : Nat → Option va_E) (ad : Ad) (own : Nat → Option (Nat × Nat)) (gh : Gh) (σ : Mem) (x : Int32) (y : Int32) (hQ : Pic g ad own gh σ C) (hW : WX σ) (hg : gOk gh) (hst : l.stackTraces = false) : sg_Met l yX7_offer cX7_offer 4 (some .int) 7 161 24 420 g [.ref (ad 0 0), .int x, .int y] C (fun v C' => v = some (.int (vOffer σ x y)) ∧ ¬ 0 < kOffer σ x y ∧ PH g (ad 0 0) own C (fOffer σ x y) C') (fun E C' => ((E = "java/lang/IndexOutOfBoundsException" ∧ kOffer σ x y = 1) ∨ (E = "java/lang/IllegalStateException" ∧ kOffer σ x y = 2)) ∧ PH g (ad 0 0) own C (fOffer σ x y) C') := by
  refine sg_ofW (by decide) rfl ?_ (Nat.le_of_ble_eq_true rfl)
  intro p e s m below meth c hc hlk hrt hin2 htb
  have hc : sg_Cx p s m _ c cX7_offer 4 RX7 g := hc
  show sg_W p l e _ s m _ below meth c 4 g 0 0 _ C 0 [(0, .ref (ad 0 0)), (1, .int x), (2, .int y)] []
  refine sw_aload_n (pc := 0) hc dX7_offer_0 rfl 0 rfl ?_
  refine sw_iload_n (pc := 1) hc dX7_offer_1 rfl 1 rfl ?_
  refine sw_callV (pc := 2) (rest := []) hc (c_X7_categoryOf l g C ad own gh σ x hQ hW hst) md_X7_categoryOf ml_RX7_171 im_X7_categoryOf sl_X7_categoryOf (hQ.at ct0) rfl rfl rfl (Nat.le_of_ble_eq_true rfl) dX7_offer_2 ⟨Nat.le_of_ble_eq_true rfl, Nat.le_of_ble_eq_true rfl, Nat.le_of_ble_eq_true rfl, Nat.le_of_ble_eq_true rfl⟩ (fun v C' hP => ?_) (fun E C' hX => sx_out htb hlk (⟨.inl (⟨hX.1, if_pos (fun q => hX.2.1 q.1)⟩), by rw [hX.2.2]; exact PH.q hQ hW hg (by rw [show fOffer σ x y = st2 σ 42 0 (kOffer σ x y) from if_pos (by rw [show kOffer σ x y = 1 from if_pos (fun q => hX.2.1 q.1)]; decide)]; exact f42 _)⟩) (Nat.le_of_ble_eq_true rfl) (Nat.le_of_ble_eq_true rfl))
  obtain ⟨rfl, o_1, hCC⟩ := hP
  refine sw_eq (C' := C) hCC ?_
  obtain ⟨o_1_x, o_1_l⟩ := rIn_x hW.1.2.2.1 (by decide) o_1
  refine sw_st (st' := [.ref (ad 11 (iN x))]) rfl ?_
  refine sw_astore_n (pc := 5) hc dX7_offer_5 rfl (by decide) (lv' := [(3, .ref (ad 11 (iN x))), (0, .ref (ad 0 0)), (1, .int x), (2, .int y)]) rfl ?_
  refine sw_iload_n (pc := 6) hc dX7_offer_6 rfl 3 rfl ?_
  refine sw_callS (pc := 7) (rest := []) hc (c_X7_requireRunner l g C y hst) md_X7_requireRunner ml_RX7_191 st_X7_requireRunner rfl rfl (Nat.le_of_ble_eq_true rfl) dX7_offer_7 ⟨Nat.le_of_ble_eq_true rfl, Nat.le_of_ble_eq_true rfl, Nat.le_of_ble_eq_true rfl, Nat.le_of_ble_eq_true rfl⟩ (fun v C' hP => ?_) (fun E C' hX => sx_out htb hlk (⟨.inl (⟨hX.1, if_pos (fun q => hX.2.1 q.2)⟩), by rw [hX.2.2]; exact PH.q hQ hW hg (by rw [show fOffer σ x y = st2 σ 42 0 (kOffer σ x y) from if_pos (by rw [show kOffer σ x y = 1 from if_pos (fun q => hX.2.1 q.2)]; decide)]; exact f42 _)⟩) (Nat.le_of_ble_eq_true rfl) (Nat.le_of_ble_eq_true rfl))
  obtain ⟨rfl, o_2, hCC⟩ := hP
  refine sw_eq (C' := C) hCC ?_
  refine sw_st (st' := []) rfl ?_
  refine sw_aload_n (pc := 10) hc dX7_offer_10 rfl 1 rfl ?_
  refine sw_aload_n (pc := 11) hc dX7_offer_11 rfl 0 rfl ?_
  refine sw_iload_n (pc := 12) hc dX7_offer_12 rfl 3 rfl ?_
  refine sw_null (pc := 13) hc dX7_offer_13 ?_
  refine sw_callV (pc := 14) (rest := []) hc (c_X7_bestRun l g C ad own gh σ (iN x) y (-1) hQ hW o_1_l (.inl (by decide))) md_X7_bestRun ml_RX7_239 im_X7_bestRun sl_X7_bestRun (hQ.at ct0) rfl rfl rfl (Nat.le_of_ble_eq_true rfl) dX7_offer_14 ⟨Nat.le_of_ble_eq_true rfl, Nat.le_of_ble_eq_true rfl, Nat.le_of_ble_eq_true rfl, Nat.le_of_ble_eq_true rfl⟩ (fun v C' hP => ?_) (fun _ _ h => h.elim)
  obtain ⟨rfl, hCC⟩ := hP
  refine sw_eq (C' := C) hCC ?_
  refine sw_st (st' := [va_rf (wrf ad (rTopN σ (nI (iN x)) y (-1)))]) rfl ?_
  refine sw_ifnullq (pc := 17) (tgt := 41) hc dX7_offer_17 (by decide) (fun c_3 => ?_) (fun a_4 c_3 => ?_)
  ·
    have hb9 : rTopN σ (nI (iN x)) y (-1) < 0 := wrf_n c_3
    have hxx : nI (iN x) = x := o_1_x.symm
    exact sw_throwW (pc := 41) hc hst th_RX7_50 (text := "no such offer is possible") (by decide +kernel) dX7_offer_41 dX7_offer_44 dX7_offer_45 dX7_offer_48 dX7_offer_51 htb hlk ⟨Nat.le_of_ble_eq_true rfl, Nat.le_of_ble_eq_true rfl, Nat.le_of_ble_eq_true rfl, Nat.le_of_ble_eq_true rfl⟩ ⟨.inr (⟨rfl, (if_neg (fun q => q ⟨o_1, o_2⟩)).trans (if_pos ⟨⟨o_1, o_2⟩, .inr (.inr (by rw [← hxx]; exact hb9))⟩)⟩), PH.q hQ hW hg (by rw [show fOffer σ x y = st2 σ 42 0 (kOffer σ x y) from if_pos (by rw [show kOffer σ x y = 2 from (if_neg (fun q => q ⟨o_1, o_2⟩)).trans (if_pos ⟨⟨o_1, o_2⟩, .inr (.inr (by rw [← hxx]; exact hb9))⟩)]; decide)]; exact f42 _)⟩ (Nat.le_of_ble_eq_true rfl) (Nat.le_of_ble_eq_true rfl)
  ·
    obtain ⟨hb9, -⟩ := wrf_s c_3
    refine sw_aload_n (pc := 20) hc dX7_offer_20 rfl 1 rfl ?_
    refine sw_aload_n (pc := 21) hc dX7_offer_21 rfl 0 rfl ?_
    refine sw_iload_n (pc := 22) hc dX7_offer_22 rfl 3 rfl ?_
    refine sw_callV (pc := 23) (rest := []) hc (c_X7_hasOffered l g C ad own gh σ (iN x) y hQ hW o_1_l) md_X7_hasOffered ml_RX7_277 im_X7_hasOffered sl_X7_hasOffered (hQ.at ct0) rfl rfl rfl (Nat.le_of_ble_eq_true rfl) dX7_offer_23 ⟨Nat.le_of_ble_eq_true rfl, Nat.le_of_ble_eq_true rfl, Nat.le_of_ble_eq_true rfl, Nat.le_of_ble_eq_true rfl⟩ (fun v C' hP => ?_) (fun _ _ h => h.elim)
    obtain ⟨rfl, hCC⟩ := hP
    refine sw_eq (C' := C) hCC ?_
    refine sw_st (st' := [.int (rAgn σ (nI (iN x)) y (iN (σ 30 0)))]) rfl ?_
    refine sw_if_ne (pc := 26) (tgt := 41) hc dX7_offer_26 (by decide) (fun c_5 => ?_) (fun c_5 => ?_)
    ·
      have hxx : nI (iN x) = x := o_1_x.symm
      exact sw_throwW (pc := 41) hc hst th_RX7_50 (text := "no such offer is possible") (by decide +kernel) dX7_offer_41 dX7_offer_44 dX7_offer_45 dX7_offer_48 dX7_offer_51 htb hlk ⟨Nat.le_of_ble_eq_true rfl, Nat.le_of_ble_eq_true rfl, Nat.le_of_ble_eq_true rfl, Nat.le_of_ble_eq_true rfl⟩ ⟨.inr (⟨rfl, (if_neg (fun q => q ⟨o_1, o_2⟩)).trans (if_pos ⟨⟨o_1, o_2⟩, .inl (by rw [← hxx]; exact c_5)⟩)⟩), PH.q hQ hW hg (by rw [show fOffer σ x y = st2 σ 42 0 (kOffer σ x y) from if_pos (by rw [show kOffer σ x y = 2 from (if_neg (fun q => q ⟨o_1, o_2⟩)).trans (if_pos ⟨⟨o_1, o_2⟩, .inl (by rw [← hxx]; exact c_5)⟩)]; decide)]; exact f42 _)⟩ (Nat.le_of_ble_eq_true rfl) (Nat.le_of_ble_eq_true rfl)
    ·
      refine sw_aload_n (pc := 29) hc dX7_offer_29 rfl 1 rfl ?_
      refine sw_get (pc := 30) (v := .ref (ad 1 4)) hc fl_RX7_25 (hQ.at ct0) rfl dX7_offer_30 ?_
      refine sw_callV (pc := 33) (rest := []) hc (c_Jx4a65c_size_8abf5 l g C (ad 1 4) (nI (iN (σ 30 0))) (if iN (σ 30 0) = 0 then g.2.2.2 0 else ad 2 4) (nI (iN (σ 30 0))) (hQ.at (ct1 (k := 4) (by decide)))) md_Jx4a65c_size_8abf5 ml_RX7_46 im_Jx4a65c_size_8abf5 sl_Jx4a65c_size_8abf5 (hQ.at (ct1 (k := 4) (by decide))) rfl rfl rfl (Nat.le_of_ble_eq_true rfl) dX7_offer_33 ⟨Nat.le_of_ble_eq_true rfl, Nat.le_of_ble_eq_true rfl, Nat.le_of_ble_eq_true rfl, Nat.le_of_ble_eq_true rfl⟩ (fun v C' hP => ?_) (fun _ _ h => h.elim)
      obtain ⟨rfl, hCC⟩ := hP
      refine sw_eq (C' := C) hCC ?_
      refine sw_st (st' := [.int (nI (iN (σ 30 0)))]) rfl ?_
      refine sw_bipush (pc := 36) (v := 10) hc dX7_offer_36 (by decide) ?_
      refine sw_icmp_lt (pc := 38) (tgt := 52) hc dX7_offer_38 (by decide) (fun c_6 => ?_) (fun c_6 => ?_)
      ·
        have c_6' := Int32.not_le.mpr c_6
        refine sw_aload_n (pc := 52) hc dX7_offer_52 rfl 1 rfl ?_
        refine sw_get (pc := 53) (v := .ref (ad 1 4)) hc fl_RX7_25 (hQ.at ct0) rfl dX7_offer_53 ?_
        refine sw_new (pc := 56) hc nw_RX7_282 ⟨Nat.le_of_ble_eq_true rfl, Nat.le_of_ble_eq_true rfl⟩ dX7_offer_56 (fun w7 hf_w7 => ?_)
        have fa_w7 : C w7 = none := (sg_fresh (C := C) (L := []) hf_w7).2
        have hN : sg_nd [w7] := ⟨(sg_fresh (C := C) (L := []) hf_w7).1, trivial⟩
        refine sw_eq (C' := sg_ov C [(w7, .inr (4, [.null, .int 0, .int 0]))]) rfl ?_
        refine sw_dup (pc := 59) hc dX7_offer_59 rfl ?_
        refine sw_aload_n (pc := 60) hc dX7_offer_60 rfl 0 rfl ?_
        refine sw_iload_n (pc := 61) hc dX7_offer_61 rfl 3 rfl ?_
        refine sw_callI (pc := 62) (rest := [.ref w7, .ref (ad 1 4)]) hc (c_X3_init l g (sg_ov C [(w7, .inr (4, [.null, .int 0, .int 0]))]) w7 (ad 11 (iN x)) y (sg_ov_at hN (k := 0) rfl)) md_X3_init ml_RX7_284 im_X3_init rfl rfl rfl (Nat.le_of_ble_eq_true rfl) dX7_offer_62 ⟨Nat.le_of_ble_eq_true rfl, Nat.le_of_ble_eq_true rfl, Nat.le_of_ble_eq_true rfl, Nat.le_of_ble_eq_true rfl⟩ (fun v C' hP => ?_) (fun _ _ h => h.elim)
        obtain ⟨rfl, rfl⟩ := hP
        refine sw_eq (C' := sg_ov C [(w7, .inr (4, [.ref (ad 11 (iN x)), .int y, .int 0]))]) (sg_ov_set (l := [(w7, .inr (4, [.null, .int 0, .int 0]))]) hN (k := 0) rfl) ?_
        have hQ1 : Pic g ad own gh σ (sg_ov C [(w7, .inr (4, [.ref (ad 11 (iN x)), .int y, .int 0]))]) := (hQ.ext (L := [(w7, .inr (4, [.ref (ad 11 (iN x)), .int y, .int 0]))]) (List.forall_mem_cons.mpr ⟨fa_w7, fun _ h => absurd h List.not_mem_nil⟩)).1
        refine sw_callV (pc := 65) (rest := []) hc (c_add1 l hQ1 (j := 4) (by decide) hW.b4 (ci := 4) (vr := (RX3, TX3, 3)) (fun i hi => ⟨_, hQ1.at (ct16 hi)⟩) rfl ca_4 ⟨by decide, by decide⟩ (sg_ov_at hN (k := 0) rfl)) md_Jx4a65c_add_9ea2d ml_RX7_60 im_Jx4a65c_add_9ea2d sl_Jx4a65c_add_9ea2d ((sg_ov_out (sg_nin (sg_nf (hQ.at (ct1 (k := 4) (by decide))) fa_w7) List.not_mem_nil)).trans (hQ.at (ct1 (k := 4) (by decide)))) rfl rfl rfl (Nat.le_of_ble_eq_true rfl) dX7_offer_65 ⟨Nat.le_of_ble_eq_true rfl, Nat.le_of_ble_eq_true rfl, Nat.le_of_ble_eq_true rfl, Nat.le_of_ble_eq_true rfl⟩ (fun v C' hP => ?_) (fun _ _ h => h.elim)
        obtain ⟨rfl, b, hb, hnd, hCC⟩ := hP
        have hN2 : sg_nd [b, ad 1 4, w7] := nd_push (L := [(w7, .inr (4, [.ref (ad 11 (iN x)), .int y, .int 0]))]) hN hb hnd (List.forall_mem_cons.mpr ⟨(fresh_ne hQ (j := 4) (by decide) fa_w7), fun _ h => absurd h List.not_mem_nil⟩)
        have hb2 := hb.imp id (fun zq => (sg_fresh (C := C) (L := [(w7, .inr (4, [.ref (ad 11 (iN x)), .int y, .int 0]))]) zq).2)
        have hN := hN2
        refine sw_eq (C' := sg_ov C [(b, sg_qa g (sg_cap (iN (σ 30 0) + 1)) (sg_tr (sg_fu (ad 16) (iN (σ 30 0)) w7) (iN (σ 30 0) + 1))), (ad 1 4, .inr (0, [.int (nI (iN (σ 30 0) + 1)), .ref b, .int (nI (iN (σ 30 0) + 1))])), (w7, .inr (4, [.ref (ad 11 (iN x)), .int y, .int 0]))]) (hCC.trans (ov_app _)) ?_
        have hb0 : ad 0 0 ≠ b := b_ne hQ (j := 4) (by decide) hb2
        refine sw_st (st' := [.int 1]) rfl ?_
        refine sw_pop (pc := 68) hc dX7_offer_68 rfl ?_
        refine sw_aload_n (pc := 69) hc dX7_offer_69 rfl 1 rfl ?_
        refine sw_get (pc := 70) (v := .ref (ad 1 4)) hc fl_RX7_25 ((sg_ov_out (sg_nin hb0 (sg_nin (hQ.ne ct0 (ct1 (k := 4) (by decide)) (fun z => absurd (congrArg Prod.fst z) (show (0 : Nat) ≠ 1 by decide))) (sg_nin (sg_nf (hQ.at ct0) fa_w7) List.not_mem_nil)))).trans (hQ.at ct0)) rfl dX7_offer_70 ?_
        refine sw_callV (pc := 73) (rest := []) hc (c_Jx4a65c_size_8abf5 l g (sg_ov C [(b, sg_qa g (sg_cap (iN (σ 30 0) + 1)) (sg_tr (sg_fu (ad 16) (iN (σ 30 0)) w7) (iN (σ 30 0) + 1))), (ad 1 4, .inr (0, [.int (nI (iN (σ 30 0) + 1)), .ref b, .int (nI (iN (σ 30 0) + 1))])), (w7, .inr (4, [.ref (ad 11 (iN x)), .int y, .int 0]))]) (ad 1 4) (nI (iN (σ 30 0) + 1)) b (nI (iN (σ 30 0) + 1)) (sg_ov_at hN (k := 1) rfl)) md_Jx4a65c_size_8abf5 ml_RX7_46 im_Jx4a65c_size_8abf5 sl_Jx4a65c_size_8abf5 (sg_ov_at hN (k := 1) rfl) rfl rfl rfl (Nat.le_of_ble_eq_true rfl) dX7_offer_73 ⟨Nat.le_of_ble_eq_true rfl, Nat.le_of_ble_eq_true rfl, Nat.le_of_ble_eq_true rfl, Nat.le_of_ble_eq_true rfl⟩ (fun v C' hP => ?_) (fun _ _ h => h.elim)
        obtain ⟨rfl, rfl⟩ := hP
        refine sw_st (st' := [.int (nI (iN (σ 30 0) + 1))]) rfl ?_
        refine sw_iconst (pc := 76) (v := 1) hc dX7_offer_76 (by decide) ?_
        refine sw_isub (pc := 77) hc dX7_offer_77 ?_
        refine sw_st (st' := [.int (nI (iN (σ 30 0)))]) (congrArg (fun z => ([.int z] : List Value)) (nI_pred _ : (nI (iN (σ 30 0) + 1)) - 1 = nI (iN (σ 30 0)))) ?_
        have hxx : nI (iN x) = x := o_1_x.symm
        have hn10 := (cnt_ok (B := 10) hW.1.2.2.2.2.1 (by decide) c_6).1
        have hkk : kOffer σ x y = 0 := (if_neg (fun q => q ⟨o_1, o_2⟩)).trans (if_neg (by
          rintro ⟨-, q | q | q⟩
          · exact q (by rw [← hxx]; exact c_5)
          · exact hn10 q
          · exact hb9 (by rw [hxx]; exact q)))
        have hk : ¬ 0 < kOffer σ x y := by rw [hkk]; decide
        have hz := ph_off (y := y) hQ hW hg ⟨o_1_x, o_1_l⟩ hn10 hk fa_w7 hb2 hN2
        exact sw_iret (pc := 78) hc hlk hrt rfl ⟨congrArg (fun z => some (Value.int z)) hz.1.symm, hk, hz.2⟩ (Nat.le_of_ble_eq_true rfl) (Nat.le_of_ble_eq_true rfl) dX7_offer_78
      ·
        have c_6' := Int32.not_lt.mp c_6
        have hxx : nI (iN x) = x := o_1_x.symm
        exact sw_throwW (pc := 41) hc hst th_RX7_50 (text := "no such offer is possible") (by decide +kernel) dX7_offer_41 dX7_offer_44 dX7_offer_45 dX7_offer_48 dX7_offer_51 htb hlk ⟨Nat.le_of_ble_eq_true rfl, Nat.le_of_ble_eq_true rfl, Nat.le_of_ble_eq_true rfl, Nat.le_of_ble_eq_true rfl⟩ ⟨.inr (⟨rfl, (if_neg (fun q => q ⟨o_1, o_2⟩)).trans (if_pos ⟨⟨o_1, o_2⟩, .inr (.inl (cnt_full (B := 10) hW.1.2.2.2.2.1 (by decide) c_6))⟩)⟩), PH.q hQ hW hg (by rw [show fOffer σ x y = st2 σ 42 0 (kOffer σ x y) from if_pos (by rw [show kOffer σ x y = 2 from (if_neg (fun q => q ⟨o_1, o_2⟩)).trans (if_pos ⟨⟨o_1, o_2⟩, .inr (.inl (cnt_full (B := 10) hW.1.2.2.2.2.1 (by decide) c_6))⟩)]; decide)]; exact f42 _)⟩ (Nat.le_of_ble_eq_true rfl) (Nat.le_of_ble_eq_true rfl)

set_option maxHeartbeats 4000000 in
set_option maxRecDepth 100000 in
theorem c_X7_submit (l : Launch) (g : sg_G) (C : Nat → Option va_E) (ad : Ad) (own : Nat → Option (Nat × Nat)) (gh : Gh) (σ : Mem) (x : Int32) (y : Int32) (z : Int32) (hQ : Pic g ad own gh σ C) (hW : WX σ) (hg : gOk gh) (hst : l.stackTraces = false) : sg_Met l yX7_submit cX7_submit 7 (some .int) 7 161 24 420 g [.ref (ad 0 0), .int x, .int y, .int z] C (fun v C' => v = some (.int (vSubmit σ x y z)) ∧ ¬ 0 < kSubmit σ (rSub σ x y z) x y z ∧ PH g (ad 0 0) own C (fSubmit σ x y z) C') (fun E C' => ((E = "java/lang/IndexOutOfBoundsException" ∧ kSubmit σ (rSub σ x y z) x y z = 1) ∨ (E = "java/lang/IllegalArgumentException" ∧ kSubmit σ (rSub σ x y z) x y z = 2) ∨ (E = "java/lang/IllegalStateException" ∧ kSubmit σ (rSub σ x y z) x y z = 3)) ∧ PH g (ad 0 0) own C (fSubmit σ x y z) C') := by
  refine sg_ofW (by decide) rfl ?_ (Nat.le_of_ble_eq_true rfl)
  intro p e s m below meth c hc hlk hrt hin2 htb
  have hc : sg_Cx p s m _ c cX7_submit 7 RX7 g := hc
  show sg_W p l e _ s m _ below meth c 7 g 0 0 _ C 0 [(0, .ref (ad 0 0)), (1, .int x), (2, .int y), (3, .int z)] []
  refine sw_iload_n (pc := 0) hc dX7_submit_0 rfl 1 rfl ?_
  refine sw_callS (pc := 1) (rest := []) hc (c_X7_requireRunner l g C x hst) md_X7_requireRunner ml_RX7_191 st_X7_requireRunner rfl rfl (Nat.le_of_ble_eq_true rfl) dX7_submit_1 ⟨Nat.le_of_ble_eq_true rfl, Nat.le_of_ble_eq_true rfl, Nat.le_of_ble_eq_true rfl, Nat.le_of_ble_eq_true rfl⟩ (fun v C' hP => ?_) (fun E C' hX => sx_out htb hlk (⟨.inl (⟨hX.1, kSub_1 (fun q => hX.2.1 q.1) _⟩), by rw [hX.2.2]; exact PH.q hQ hW hg (fSub_k (by rw [show kSubmit σ (rSub σ x y z) x y z = 1 from kSub_1 (fun q => hX.2.1 q.1) _]; decide))⟩) (Nat.le_of_ble_eq_true rfl) (Nat.le_of_ble_eq_true rfl))
  obtain ⟨rfl, o_1, hCC⟩ := hP
  refine sw_eq (C' := C) hCC ?_
  refine sw_st (st' := []) rfl ?_
  refine sw_aload_n (pc := 4) hc dX7_submit_4 rfl 0 rfl ?_
  refine sw_iload_n (pc := 5) hc dX7_submit_5 rfl 2 rfl ?_
  refine sw_callV (pc := 6) (rest := []) hc (c_X7_replayOf l g C ad own gh σ y hQ hW hst) md_X7_replayOf ml_RX7_98 im_X7_replayOf sl_X7_replayOf (hQ.at ct0) rfl rfl rfl (Nat.le_of_ble_eq_true rfl) dX7_submit_6 ⟨Nat.le_of_ble_eq_true rfl, Nat.le_of_ble_eq_true rfl, Nat.le_of_ble_eq_true rfl, Nat.le_of_ble_eq_true rfl⟩ (fun v C' hP => ?_) (fun E C' hX => sx_out htb hlk (⟨.inl (⟨hX.1, kSub_1 (fun q => hX.2.1 q.2.1) _⟩), by rw [hX.2.2]; exact PH.q hQ hW hg (fSub_k (by rw [show kSubmit σ (rSub σ x y z) x y z = 1 from kSub_1 (fun q => hX.2.1 q.2.1) _]; decide))⟩) (Nat.le_of_ble_eq_true rfl) (Nat.le_of_ble_eq_true rfl))
  obtain ⟨rfl, o_2, hCC⟩ := hP
  refine sw_eq (C' := C) hCC ?_
  obtain ⟨o_2_x, o_2_l⟩ := rIn_x hW.1.2.1 (by decide) o_2
  refine sw_st (st' := [.ref (ad 7 (iN y))]) rfl ?_
  refine sw_astore (pc := 9) hc dX7_submit_9 (by decide) (lv' := [(4, .ref (ad 7 (iN y))), (0, .ref (ad 0 0)), (1, .int x), (2, .int y), (3, .int z)]) rfl ?_
  refine sw_aload_n (pc := 11) hc dX7_submit_11 rfl 1 rfl ?_
  refine sw_iload_n (pc := 12) hc dX7_submit_12 rfl 4 rfl ?_
  refine sw_callV (pc := 13) (rest := []) hc (c_X7_categoryOf l g C ad own gh σ z hQ hW hst) md_X7_categoryOf ml_RX7_171 im_X7_categoryOf sl_X7_categoryOf (hQ.at ct0) rfl rfl rfl (Nat.le_of_ble_eq_true rfl) dX7_submit_13 ⟨Nat.le_of_ble_eq_true rfl, Nat.le_of_ble_eq_true rfl, Nat.le_of_ble_eq_true rfl, Nat.le_of_ble_eq_true rfl⟩ (fun v C' hP => ?_) (fun E C' hX => sx_out htb hlk (⟨.inl (⟨hX.1, kSub_1 (fun q => hX.2.1 q.2.2) _⟩), by rw [hX.2.2]; exact PH.q hQ hW hg (fSub_k (by rw [show kSubmit σ (rSub σ x y z) x y z = 1 from kSub_1 (fun q => hX.2.1 q.2.2) _]; decide))⟩) (Nat.le_of_ble_eq_true rfl) (Nat.le_of_ble_eq_true rfl))
  obtain ⟨rfl, o_3, hCC⟩ := hP
  refine sw_eq (C' := C) hCC ?_
  obtain ⟨o_3_x, o_3_l⟩ := rIn_x hW.1.2.2.1 (by decide) o_3
  refine sw_st (st' := [.ref (ad 11 (iN z))]) rfl ?_
  refine sw_astore (pc := 16) hc dX7_submit_16 (by decide) (lv' := [(5, .ref (ad 11 (iN z))), (4, .ref (ad 7 (iN y))), (0, .ref (ad 0 0)), (1, .int x), (2, .int y), (3, .int z)]) rfl ?_
  refine sw_aload (pc := 18) hc dX7_submit_18 1 rfl ?_
  refine sw_get (pc := 20) (v := .ref (ad 3 (iN (σ 3 (iN y))))) hc fl_RX7_162 (hQ.at (ct7 (k := (iN y)) o_2_l)) rfl dX7_submit_20 ?_
  refine sw_aload (pc := 23) hc dX7_submit_23 0 rfl ?_
  refine sw_get (pc := 25) (v := .ref (ad 3 (iN (σ 10 (iN z))))) hc fl_RX7_195 (hQ.at (ct11 (k := (iN z)) o_3_l)) rfl dX7_submit_25 ?_
  refine sw_acmp_eq (pc := 28) (rx := (some (ad 3 (iN (σ 3 (iN y)))))) (ry := (some (ad 3 (iN (σ 10 (iN z)))))) (tgt := 41) hc dX7_submit_28 (by decide) (fun c_4 => ?_) (fun c_4 => ?_)
  ·
    refine sw_aload (pc := 41) hc dX7_submit_41 1 rfl ?_
    refine sw_get (pc := 43) (v := .ref (ad 10 (iN y))) hc fl_RX7_119 (hQ.at (ct7 (k := (iN y)) o_2_l)) rfl dX7_submit_43 ?_
    refine sw_callV (pc := 46) (rest := []) hc (c_X1_isHome l g C (ad 10 (iN y)) (heroR σ (iN y)) (hQ.at (ct10 (k := (iN y)) o_2_l))) md_X1_isHome ml_RX7_198 im_X1_isHome sl_X1_isHome (hQ.at (ct10 (k := (iN y)) o_2_l)) rfl rfl rfl (Nat.le_of_ble_eq_true rfl) dX7_submit_46 ⟨Nat.le_of_ble_eq_true rfl, Nat.le_of_ble_eq_true rfl, Nat.le_of_ble_eq_true rfl, Nat.le_of_ble_eq_true rfl⟩ (fun v C' hP => ?_) (fun _ _ h => h.elim)
    obtain ⟨rfl, hCC⟩ := hP
    refine sw_eq (C' := C) hCC ?_
    refine sw_st (st' := [.int (bI ((heroR σ (iN y)) 11 = 1))]) rfl ?_
    refine sw_if_eq (pc := 49) (tgt := 64) hc dX7_submit_49 (by decide) (fun c_5 => ?_) (fun c_5 => ?_)
    ·
      have p_6 : ¬ ((heroR σ (iN y)) 11 = 1) := bI_0 c_5
      exact sw_throw (pc := 64) hc hst th_RX7_50 (text := "not home, or no more runs") (by decide +kernel) dX7_submit_64 dX7_submit_67 dX7_submit_68 dX7_submit_70 dX7_submit_73 htb hlk ⟨Nat.le_of_ble_eq_true rfl, Nat.le_of_ble_eq_true rfl, Nat.le_of_ble_eq_true rfl, Nat.le_of_ble_eq_true rfl⟩ ⟨.inr (.inr (⟨rfl, kSub_3 ⟨o_1, o_2, o_3⟩ ((ad33 hQ hW o_2_l o_3_l).mp (Option.some.inj c_4)) (.inl p_6)⟩)), PH.q hQ hW hg (fSub_k (by rw [show kSubmit σ (rSub σ x y z) x y z = 3 from kSub_3 ⟨o_1, o_2, o_3⟩ ((ad33 hQ hW o_2_l o_3_l).mp (Option.some.inj c_4)) (.inl p_6)]; decide))⟩ (Nat.le_of_ble_eq_true rfl) (Nat.le_of_ble_eq_true rfl)
    ·
      have p_7 : (heroR σ (iN y)) 11 = 1 := bI_n c_5
      refine sw_aload_n (pc := 52) hc dX7_submit_52 rfl 2 rfl ?_
      refine sw_get (pc := 53) (v := .ref (ad 1 3)) hc fl_RX7_22 (hQ.at ct0) rfl dX7_submit_53 ?_
      refine sw_callV (pc := 56) (rest := []) hc (c_Jx4a65c_size_8abf5 l g C (ad 1 3) (nI (iN (σ 26 0))) (if iN (σ 26 0) = 0 then g.2.2.2 0 else ad 2 3) (nI (iN (σ 26 0))) (hQ.at (ct1 (k := 3) (by decide)))) md_Jx4a65c_size_8abf5 ml_RX7_46 im_Jx4a65c_size_8abf5 sl_Jx4a65c_size_8abf5 (hQ.at (ct1 (k := 3) (by decide))) rfl rfl rfl (Nat.le_of_ble_eq_true rfl) dX7_submit_56 ⟨Nat.le_of_ble_eq_true rfl, Nat.le_of_ble_eq_true rfl, Nat.le_of_ble_eq_true rfl, Nat.le_of_ble_eq_true rfl⟩ (fun v C' hP => ?_) (fun _ _ h => h.elim)
      obtain ⟨rfl, hCC⟩ := hP
      refine sw_eq (C' := C) hCC ?_
      refine sw_st (st' := [.int (nI (iN (σ 26 0)))]) rfl ?_
      refine sw_bipush (pc := 59) (v := 40) hc dX7_submit_59 (by decide) ?_
      refine sw_icmp_lt (pc := 61) (tgt := 74) hc dX7_submit_61 (by decide) (fun c_8 => ?_) (fun c_8 => ?_)
      ·
        have c_8' := Int32.not_le.mpr c_8
        have hN : sg_nd [ad 7 (iN y)] := ⟨List.not_mem_nil, trivial⟩
        refine sw_eq (C' := sg_ov C [(ad 7 (iN y), .inr (5, [.ref (ad 3 (iN (σ 3 (iN y)))), .ref (ad 8 (iN y)), .ref (ad 9 (iN y)), .ref (ad 10 (iN y)), .int (σ 4 (iN y)), .int (σ 5 (iN y)), .int (σ 6 (iN y))]))]) (sg_ov_self2 (List.forall_mem_cons.mpr ⟨(hQ.at (ct7 (k := (iN y)) o_2_l)), fun _ h => absurd h List.not_mem_nil⟩)).symm ?_
        refine sw_aload (pc := 74) hc dX7_submit_74 1 rfl ?_
        refine sw_iconst (pc := 76) (v := 1) hc dX7_submit_76 (by decide) ?_
        refine sw_putO (pc := 77) (k := 6) (fs' := [.ref (ad 3 (iN (σ 3 (iN y)))), .ref (ad 8 (iN y)), .ref (ad 9 (iN y)), .ref (ad 10 (iN y)), .int (σ 4 (iN y)), .int (σ 5 (iN y)), .int 1]) (L := [(ad 7 (iN y), .inr (5, [.ref (ad 3 (iN (σ 3 (iN y)))), .ref (ad 8 (iN y)), .ref (ad 9 (iN y)), .ref (ad 10 (iN y)), .int (σ 4 (iN y)), .int (σ 5 (iN y)), .int (σ 6 (iN y))]))]) (l' := [(ad 7 (iN y), .inr (5, [.ref (ad 3 (iN (σ 3 (iN y)))), .ref (ad 8 (iN y)), .ref (ad 9 (iN y)), .ref (ad 10 (iN y)), .int (σ 4 (iN y)), .int (σ 5 (iN y)), .int 1]))]) hc fl_RX7_102 ty_5 fp_5_6 hN (q0 := 0) rfl rfl rfl (Nat.le_of_ble_eq_true rfl) rfl rfl dX7_submit_77 ?_
        refine sw_aload_n (pc := 80) hc dX7_submit_80 rfl 2 rfl ?_
        refine sw_get (pc := 81) (v := .ref (ad 1 3)) hc fl_RX7_22 ((sg_ov_out (sg_nin (hQ.ne ct0 (ct7 (k := (iN y)) o_2_l) (fun z => absurd (congrArg Prod.fst z) (show (0 : Nat) ≠ 7 by decide))) List.not_mem_nil)).trans (hQ.at ct0)) rfl dX7_submit_81 ?_
        refine sw_callV (pc := 84) (rest := []) hc (c_Jx4a65c_size_8abf5 l g (sg_ov C [(ad 7 (iN y), .inr (5, [.ref (ad 3 (iN (σ 3 (iN y)))), .ref (ad 8 (iN y)), .ref (ad 9 (iN y)), .ref (ad 10 (iN y)), .int (σ 4 (iN y)), .int (σ 5 (iN y)), .int 1]))]) (ad 1 3) (nI (iN (σ 26 0))) (if iN (σ 26 0) = 0 then g.2.2.2 0 else ad 2 3) (nI (iN (σ 26 0))) ((sg_ov_out (sg_nin (hQ.ne (ct1 (k := 3) (by decide)) (ct7 (k := (iN y)) o_2_l) (fun z => absurd (congrArg Prod.fst z) (show (1 : Nat) ≠ 7 by decide))) List.not_mem_nil)).trans (hQ.at (ct1 (k := 3) (by decide))))) md_Jx4a65c_size_8abf5 ml_RX7_46 im_Jx4a65c_size_8abf5 sl_Jx4a65c_size_8abf5 ((sg_ov_out (sg_nin (hQ.ne (ct1 (k := 3) (by decide)) (ct7 (k := (iN y)) o_2_l) (fun z => absurd (congrArg Prod.fst z) (show (1 : Nat) ≠ 7 by decide))) List.not_mem_nil)).trans (hQ.at (ct1 (k := 3) (by decide)))) rfl rfl rfl (Nat.le_of_ble_eq_true rfl) dX7_submit_84 ⟨Nat.le_of_ble_eq_true rfl, Nat.le_of_ble_eq_true rfl, Nat.le_of_ble_eq_true rfl, Nat.le_of_ble_eq_true rfl⟩ (fun v C' hP => ?_) (fun _ _ h => h.elim)
        obtain ⟨rfl, rfl⟩ := hP
        refine sw_st (st' := [.int (nI (iN (σ 26 0)))]) rfl ?_
        refine sw_istore (pc := 87) hc dX7_submit_87 (by decide) (lv' := [(6, .int (nI (iN (σ 26 0)))), (5, .ref (ad 11 (iN z))), (4, .ref (ad 7 (iN y))), (0, .ref (ad 0 0)), (1, .int x), (2, .int y), (3, .int z)]) rfl ?_
        refine sw_aload_n (pc := 89) hc dX7_submit_89 rfl 3 rfl ?_
        refine sw_get (pc := 90) (v := .ref (ad 1 3)) hc fl_RX7_22 ((sg_ov_out (sg_nin (hQ.ne ct0 (ct7 (k := (iN y)) o_2_l) (fun z => absurd (congrArg Prod.fst z) (show (0 : Nat) ≠ 7 by decide))) List.not_mem_nil)).trans (hQ.at ct0)) rfl dX7_submit_90 ?_
        refine sw_new (pc := 93) hc nw_RX7_204 ⟨Nat.le_of_ble_eq_true rfl, Nat.le_of_ble_eq_true rfl⟩ dX7_submit_93 (fun w9 hf_w9 => ?_)
        have fa_w9 : C w9 = none := (sg_fresh (C := C) (L := [(ad 7 (iN y), .inr (5, [.ref (ad 3 (iN (σ 3 (iN y)))), .ref (ad 8 (iN y)), .ref (ad 9 (iN y)), .ref (ad 10 (iN y)), .int (σ 4 (iN y)), .int (σ 5 (iN y)), .int 1]))]) hf_w9).2
        have hN : sg_nd [w9, ad 7 (iN y)] := ⟨(sg_fresh (C := C) (L := [(ad 7 (iN y), .inr (5, [.ref (ad 3 (iN (σ 3 (iN y)))), .ref (ad 8 (iN y)), .ref (ad 9 (iN y)), .ref (ad 10 (iN y)), .int (σ 4 (iN y)), .int (σ 5 (iN y)), .int 1]))]) hf_w9).1, hN⟩
        refine sw_eq (C' := sg_ov C [(w9, .inr (7, [.int 0, .int 0, .null, .null, .int 0, .int 0, .int 0])), (ad 7 (iN y), .inr (5, [.ref (ad 3 (iN (σ 3 (iN y)))), .ref (ad 8 (iN y)), .ref (ad 9 (iN y)), .ref (ad 10 (iN y)), .int (σ 4 (iN y)), .int (σ 5 (iN y)), .int 1]))]) rfl ?_
        refine sw_dup (pc := 96) hc dX7_submit_96 rfl ?_
        refine sw_iload (pc := 97) hc dX7_submit_97 0 rfl ?_
        refine sw_iload_n (pc := 99) hc dX7_submit_99 rfl 4 rfl ?_
        refine sw_aload (pc := 100) hc dX7_submit_100 2 rfl ?_
        refine sw_aload (pc := 102) hc dX7_submit_102 1 rfl ?_
        refine sw_aload_n (pc := 104) hc dX7_submit_104 rfl 3 rfl ?_
        refine sw_get (pc := 105) (v := .int (σ 31 0)) hc fl_RX7_42 ((sg_ov_out (sg_nin (sg_nf (hQ.at ct0) fa_w9) (sg_nin (hQ.ne ct0 (ct7 (k := (iN y)) o_2_l) (fun z => absurd (congrArg Prod.fst z) (show (0 : Nat) ≠ 7 by decide))) List.not_mem_nil))).trans (hQ.at ct0)) rfl dX7_submit_105 ?_
        refine sw_callI (pc := 108) (rest := [.ref w9, .ref (ad 1 3)]) hc (c_X6_init l g (sg_ov C [(w9, .inr (7, [.int 0, .int 0, .null, .null, .int 0, .int 0, .int 0])), (ad 7 (iN y), .inr (5, [.ref (ad 3 (iN (σ 3 (iN y)))), .ref (ad 8 (iN y)), .ref (ad 9 (iN y)), .ref (ad 10 (iN y)), .int (σ 4 (iN y)), .int (σ 5 (iN y)), .int 1]))]) w9 (nI (iN (σ 26 0))) x (ad 7 (iN y)) (ad 11 (iN z)) (σ 31 0) (ad 3 (iN (σ 3 (iN y)))) (ad 8 (iN y)) (ad 9 (iN y)) (ad 10 (iN y)) (σ 4 (iN y)) (σ 5 (iN y)) 1 (heroR σ (iN y)) (sg_ov_at hN (k := 0) rfl) (sg_ov_at hN (k := 1) rfl) ((sg_ov_out (sg_nin (sg_nf (hQ.at (ct10 (k := (iN y)) o_2_l)) fa_w9) (sg_nin (hQ.ne (ct10 (k := (iN y)) o_2_l) (ct7 (k := (iN y)) o_2_l) (fun z => absurd (congrArg Prod.fst z) (show (10 : Nat) ≠ 7 by decide))) List.not_mem_nil))).trans (hQ.at (ct10 (k := (iN y)) o_2_l)))) md_X6_init ml_RX7_206 im_X6_init rfl rfl rfl (Nat.le_of_ble_eq_true rfl) dX7_submit_108 ⟨Nat.le_of_ble_eq_true rfl, Nat.le_of_ble_eq_true rfl, Nat.le_of_ble_eq_true rfl, Nat.le_of_ble_eq_true rfl⟩ (fun v C' hP => ?_) (fun _ _ h => h.elim)
        obtain ⟨rfl, rfl⟩ := hP
        refine sw_eq (C' := sg_ov C [(w9, .inr (7, [.int (nI (iN (σ 26 0))), .int x, .ref (ad 7 (iN y)), .ref (ad 11 (iN z)), .int (σ 31 0), .int ((heroR σ (iN y)) 10), .int 0])), (ad 7 (iN y), .inr (5, [.ref (ad 3 (iN (σ 3 (iN y)))), .ref (ad 8 (iN y)), .ref (ad 9 (iN y)), .ref (ad 10 (iN y)), .int (σ 4 (iN y)), .int (σ 5 (iN y)), .int 1]))]) (sg_ov_set (l := [(w9, .inr (7, [.int 0, .int 0, .null, .null, .int 0, .int 0, .int 0])), (ad 7 (iN y), .inr (5, [.ref (ad 3 (iN (σ 3 (iN y)))), .ref (ad 8 (iN y)), .ref (ad 9 (iN y)), .ref (ad 10 (iN y)), .int (σ 4 (iN y)), .int (σ 5 (iN y)), .int 1]))]) hN (k := 0) rfl) ?_
        have hQ1 : Pic g ad own gh (st2 σ 6 (iN y) 1) (sg_ov C [(w9, .inr (7, [.int (nI (iN (σ 26 0))), .int x, .ref (ad 7 (iN y)), .ref (ad 11 (iN z)), .int (σ 31 0), .int ((heroR σ (iN y)) 10), .int 0])), (ad 7 (iN y), .inr (5, [.ref (ad 3 (iN (σ 3 (iN y)))), .ref (ad 8 (iN y)), .ref (ad 9 (iN y)), .ref (ad 10 (iN y)), .int (σ 4 (iN y)), .int (σ 5 (iN y)), .int 1]))]) := by
          have h := ((pic_flag hQ hW o_2_l).ext (L := [(w9, .inr (7, [.int (nI (iN (σ 26 0))), .int x, .ref (ad 7 (iN y)), .ref (ad 11 (iN z)), .int (σ 31 0), .int ((heroR σ (iN y)) 10), .int 0]))]) (List.forall_mem_cons.mpr ⟨((sg_ov_out (fun z => sg_nf (hQ.at (ct7 o_2_l)) fa_w9 (List.mem_singleton.mp z).symm)).trans fa_w9), fun _ h => absurd h List.not_mem_nil⟩)).1
          rw [ov_app] at h
          exact h
        refine sw_callV (pc := 111) (rest := []) hc (c_add1 l hQ1 (j := 3) (by decide) hW.b3 (ci := 7) (vr := (RX6, TX6, 7)) (fun i hi => ⟨_, hQ1.at (ct15 hi)⟩) rfl ca_7 ⟨by decide, by decide⟩ (sg_ov_at hN (k := 0) rfl)) md_Jx4a65c_add_9ea2d ml_RX7_60 im_Jx4a65c_add_9ea2d sl_Jx4a65c_add_9ea2d ((sg_ov_out (sg_nin (sg_nf (hQ.at (ct1 (k := 3) (by decide))) fa_w9) (sg_nin (hQ.ne (ct1 (k := 3) (by decide)) (ct7 (k := (iN y)) o_2_l) (fun z => absurd (congrArg Prod.fst z) (show (1 : Nat) ≠ 7 by decide))) List.not_mem_nil))).trans (hQ.at (ct1 (k := 3) (by decide)))) rfl rfl rfl (Nat.le_of_ble_eq_true rfl) dX7_submit_111 ⟨Nat.le_of_ble_eq_true rfl, Nat.le_of_ble_eq_true rfl, Nat.le_of_ble_eq_true rfl, Nat.le_of_ble_eq_true rfl⟩ (fun v C' hP => ?_) (fun _ _ h => h.elim)
        obtain ⟨rfl, b, hb, hnd, hCC⟩ := hP
        have hN2 : sg_nd [b, ad 1 3, w9, ad 7 (iN y)] := nd_push (L := [(w9, .inr (7, [.int (nI (iN (σ 26 0))), .int x, .ref (ad 7 (iN y)), .ref (ad 11 (iN z)), .int (σ 31 0), .int ((heroR σ (iN y)) 10), .int 0])), (ad 7 (iN y), .inr (5, [.ref (ad 3 (iN (σ 3 (iN y)))), .ref (ad 8 (iN y)), .ref (ad 9 (iN y)), .ref (ad 10 (iN y)), .int (σ 4 (iN y)), .int (σ 5 (iN y)), .int 1]))]) hN hb hnd (List.forall_mem_cons.mpr ⟨(fresh_ne hQ (j := 3) (by decide) fa_w9), List.forall_mem_cons.mpr ⟨⟨fun z => hQ.ne (ct7 o_2_l) (ct1 (k := 3) (by decide)) (fun z => absurd (congrArg Prod.fst z) (show (7 : Nat) ≠ 1 by decide)) z, fun h0 z => hQ.ne (ct7 o_2_l) (ct2 (k := 3) (by decide) h0) (fun z => absurd (congrArg Prod.fst z) (show (7 : Nat) ≠ 2 by decide)) z⟩, fun _ h => absurd h List.not_mem_nil⟩⟩)
        have hb2 := hb.imp id (fun zq => (sg_fresh (C := C) (L := [(w9, .inr (7, [.int (nI (iN (σ 26 0))), .int x, .ref (ad 7 (iN y)), .ref (ad 11 (iN z)), .int (σ 31 0), .int ((heroR σ (iN y)) 10), .int 0])), (ad 7 (iN y), .inr (5, [.ref (ad 3 (iN (σ 3 (iN y)))), .ref (ad 8 (iN y)), .ref (ad 9 (iN y)), .ref (ad 10 (iN y)), .int (σ 4 (iN y)), .int (σ 5 (iN y)), .int 1]))]) zq).2)
        have hN := hN2
        refine sw_eq (C' := sg_ov C [(b, sg_qa g (sg_cap (iN (σ 26 0) + 1)) (sg_tr (sg_fu (ad 15) (iN (σ 26 0)) w9) (iN (σ 26 0) + 1))), (ad 1 3, .inr (0, [.int (nI (iN (σ 26 0) + 1)), .ref b, .int (nI (iN (σ 26 0) + 1))])), (w9, .inr (7, [.int (nI (iN (σ 26 0))), .int x, .ref (ad 7 (iN y)), .ref (ad 11 (iN z)), .int (σ 31 0), .int ((heroR σ (iN y)) 10), .int 0])), (ad 7 (iN y), .inr (5, [.ref (ad 3 (iN (σ 3 (iN y)))), .ref (ad 8 (iN y)), .ref (ad 9 (iN y)), .ref (ad 10 (iN y)), .int (σ 4 (iN y)), .int (σ 5 (iN y)), .int 1]))]) (hCC.trans (ov_app _)) ?_
        have hb0 : ad 0 0 ≠ b := b_ne hQ (j := 3) (by decide) hb2
        refine sw_st (st' := [.int 1]) rfl ?_
        refine sw_pop (pc := 114) hc dX7_submit_114 rfl ?_
        refine sw_iload (pc := 115) hc dX7_submit_115 0 rfl ?_
        have hz := ph_sub hQ hW hg ⟨o_1, o_2, o_3⟩ ((ad33 hQ hW o_2_l o_3_l).mp (Option.some.inj c_4)) p_7 ((cnt_ok (B := 40) hW.1.2.2.2.1 (by decide) c_8).1) fa_w9 hb2 hN2
        exact sw_iret (pc := 117) hc hlk hrt rfl ⟨congrArg (fun z => some (Value.int z)) hz.2.1.symm, hz.1, hz.2.2⟩ (Nat.le_of_ble_eq_true rfl) (Nat.le_of_ble_eq_true rfl) dX7_submit_117
      ·
        have c_8' := Int32.not_lt.mp c_8
        exact sw_throw (pc := 64) hc hst th_RX7_50 (text := "not home, or no more runs") (by decide +kernel) dX7_submit_64 dX7_submit_67 dX7_submit_68 dX7_submit_70 dX7_submit_73 htb hlk ⟨Nat.le_of_ble_eq_true rfl, Nat.le_of_ble_eq_true rfl, Nat.le_of_ble_eq_true rfl, Nat.le_of_ble_eq_true rfl⟩ ⟨.inr (.inr (⟨rfl, kSub_3 ⟨o_1, o_2, o_3⟩ ((ad33 hQ hW o_2_l o_3_l).mp (Option.some.inj c_4)) (.inr (cnt_full (B := 40) hW.1.2.2.2.1 (by decide) c_8))⟩)), PH.q hQ hW hg (fSub_k (by rw [show kSubmit σ (rSub σ x y z) x y z = 3 from kSub_3 ⟨o_1, o_2, o_3⟩ ((ad33 hQ hW o_2_l o_3_l).mp (Option.some.inj c_4)) (.inr (cnt_full (B := 40) hW.1.2.2.2.1 (by decide) c_8))]; decide))⟩ (Nat.le_of_ble_eq_true rfl) (Nat.le_of_ble_eq_true rfl)
  ·
    exact sw_throw (pc := 31) hc hst th_RX7_149 (text := "replay and category are for different levels") (by decide +kernel) dX7_submit_31 dX7_submit_34 dX7_submit_35 dX7_submit_37 dX7_submit_40 htb hlk ⟨Nat.le_of_ble_eq_true rfl, Nat.le_of_ble_eq_true rfl, Nat.le_of_ble_eq_true rfl, Nat.le_of_ble_eq_true rfl⟩ ⟨.inr (.inl (⟨rfl, kSub_2 ⟨o_1, o_2, o_3⟩ (rSub_fr σ x y z) (fun q => c_4 (congrArg some ((ad33 hQ hW o_2_l o_3_l).mpr q)))⟩)), PH.q hQ hW hg (fSub_k (by rw [show kSubmit σ (rSub σ x y z) x y z = 2 from kSub_2 ⟨o_1, o_2, o_3⟩ (rSub_fr σ x y z) (fun q => c_4 (congrArg some ((ad33 hQ hW o_2_l o_3_l).mpr q)))]; decide))⟩ (Nat.le_of_ble_eq_true rfl) (Nat.le_of_ble_eq_true rfl)

set_option maxHeartbeats 4000000 in
set_option maxRecDepth 100000 in
theorem c_X7_rule (l : Launch) (g : sg_G) (C : Nat → Option va_E) (ad : Ad) (own : Nat → Option (Nat × Nat)) (gh : Gh) (σ : Mem) (x : Int32) (d : Int32) (f : Int32) (pu : Int32) (j : Int32) (hQ : Pic g ad own gh σ C) (hW : WX σ) (hg : gOk gh) (hst : l.stackTraces = false) : sg_Met l yX7_rule cX7_rule 7 (some .int) 7 161 24 420 g [.ref (ad 0 0), .int x, .int d, .int f, .int pu, .int j] C (fun v C' => v = some (.int (vRule σ x d f pu j)) ∧ ¬ 0 < kRule σ x d f pu j ∧ PH g (ad 0 0) own C (fRule σ x d f pu j) C') (fun E C' => ((E = "java/lang/IndexOutOfBoundsException" ∧ kRule σ x d f pu j = 1) ∨ (E = "java/lang/IllegalArgumentException" ∧ kRule σ x d f pu j = 2) ∨ (E = "java/lang/IllegalStateException" ∧ kRule σ x d f pu j = 3)) ∧ PH g (ad 0 0) own C (fRule σ x d f pu j) C') := by
  refine sg_ofW (by decide) rfl ?_ (Nat.le_of_ble_eq_true rfl)
  intro p e s m below meth c hc hlk hrt hin2 htb
  have hc : sg_Cx p s m _ c cX7_rule 7 RX7 g := hc
  show sg_W p l e _ s m _ below meth c 7 g 0 0 _ C 0 [(0, .ref (ad 0 0)), (1, .int x), (2, .int d), (3, .int f), (4, .int pu), (5, .int j)] []
  refine sw_aload_n (pc := 0) hc dX7_rule_0 rfl 0 rfl ?_
  refine sw_iload_n (pc := 1) hc dX7_rule_1 rfl 1 rfl ?_
  refine sw_callV (pc := 2) (rest := []) hc (c_X7_categoryOf l g C ad own gh σ x hQ hW hst) md_X7_categoryOf ml_RX7_171 im_X7_categoryOf sl_X7_categoryOf (hQ.at ct0) rfl rfl rfl (Nat.le_of_ble_eq_true rfl) dX7_rule_2 ⟨Nat.le_of_ble_eq_true rfl, Nat.le_of_ble_eq_true rfl, Nat.le_of_ble_eq_true rfl, Nat.le_of_ble_eq_true rfl⟩ (fun v C' hP => ?_) (fun E C' hX => sx_out htb hlk (⟨.inl (⟨hX.1, if_pos hX.2.1⟩), by rw [hX.2.2]; exact PH.q hQ hW hg (by rw [show fRule σ x d f pu j = st2 σ 42 0 (kRule σ x d f pu j) from if_pos (by rw [show kRule σ x d f pu j = 1 from if_pos hX.2.1]; decide)]; exact f42 _)⟩) (Nat.le_of_ble_eq_true rfl) (Nat.le_of_ble_eq_true rfl))
  obtain ⟨rfl, o_1, hCC⟩ := hP
  refine sw_eq (C' := C) hCC ?_
  obtain ⟨o_1_x, o_1_l⟩ := rIn_x hW.1.2.2.1 (by decide) o_1
  refine sw_st (st' := [.ref (ad 11 (iN x))]) rfl ?_
  refine sw_astore (pc := 5) hc dX7_rule_5 (by decide) (lv' := [(6, .ref (ad 11 (iN x))), (0, .ref (ad 0 0)), (1, .int x), (2, .int d), (3, .int f), (4, .int pu), (5, .int j)]) rfl ?_
  refine sw_iload_n (pc := 7) hc dX7_rule_7 rfl 3 rfl ?_
  refine sw_iconst (pc := 8) (v := 0) hc dX7_rule_8 (by decide) ?_
  refine sw_sipush (pc := 9) (v := 1000) hc dX7_rule_9 (by decide) ?_
  refine sw_callS (pc := 12) (rest := []) hc (c_X7_isWithin l g C d 0 1000 ) md_X7_isWithin ml_RX7_68 st_X7_isWithin rfl rfl (Nat.le_of_ble_eq_true rfl) dX7_rule_12 ⟨Nat.le_of_ble_eq_true rfl, Nat.le_of_ble_eq_true rfl, Nat.le_of_ble_eq_true rfl, Nat.le_of_ble_eq_true rfl⟩ (fun v C' hP => ?_) (fun _ _ h => h.elim)
  obtain ⟨rfl, hCC⟩ := hP
  refine sw_eq (C' := C) hCC ?_
  refine sw_st (st' := [.int (bI (0 ≤ d ∧ d ≤ 1000))]) rfl ?_
  refine sw_callS (pc := 15) (rest := []) hc (c_X7_requireArgument l g C (bI (0 ≤ d ∧ d ≤ 1000)) hst) md_X7_requireArgument ml_RX7_77 st_X7_requireArgument rfl rfl (Nat.le_of_ble_eq_true rfl) dX7_rule_15 ⟨Nat.le_of_ble_eq_true rfl, Nat.le_of_ble_eq_true rfl, Nat.le_of_ble_eq_true rfl, Nat.le_of_ble_eq_true rfl⟩ (fun v C' hP => ?_) (fun E C' hX => sx_out htb hlk (⟨.inr (.inl (⟨hX.1, (if_neg (fun q => q o_1)).trans (if_pos (fun q => bI_0 hX.2.1 q.1))⟩)), by rw [hX.2.2]; exact PH.q hQ hW hg (by rw [show fRule σ x d f pu j = st2 σ 42 0 (kRule σ x d f pu j) from if_pos (by rw [show kRule σ x d f pu j = 2 from (if_neg (fun q => q o_1)).trans (if_pos (fun q => bI_0 hX.2.1 q.1))]; decide)]; exact f42 _)⟩) (Nat.le_of_ble_eq_true rfl) (Nat.le_of_ble_eq_true rfl))
  obtain ⟨rfl, o_2, hCC⟩ := hP
  refine sw_eq (C' := C) hCC ?_
  refine sw_st (st' := []) rfl ?_
  refine sw_iload_n (pc := 18) hc dX7_rule_18 rfl 4 rfl ?_
  refine sw_iconst (pc := 19) (v := 0) hc dX7_rule_19 (by decide) ?_
  refine sw_bipush (pc := 20) (v := 7) hc dX7_rule_20 (by decide) ?_
  refine sw_callS (pc := 22) (rest := []) hc (c_X7_isWithin l g C f 0 7 ) md_X7_isWithin ml_RX7_68 st_X7_isWithin rfl rfl (Nat.le_of_ble_eq_true rfl) dX7_rule_22 ⟨Nat.le_of_ble_eq_true rfl, Nat.le_of_ble_eq_true rfl, Nat.le_of_ble_eq_true rfl, Nat.le_of_ble_eq_true rfl⟩ (fun v C' hP => ?_) (fun _ _ h => h.elim)
  obtain ⟨rfl, hCC⟩ := hP
  refine sw_eq (C' := C) hCC ?_
  refine sw_st (st' := [.int (bI (0 ≤ f ∧ f ≤ 7))]) rfl ?_
  refine sw_callS (pc := 25) (rest := []) hc (c_X7_requireArgument l g C (bI (0 ≤ f ∧ f ≤ 7)) hst) md_X7_requireArgument ml_RX7_77 st_X7_requireArgument rfl rfl (Nat.le_of_ble_eq_true rfl) dX7_rule_25 ⟨Nat.le_of_ble_eq_true rfl, Nat.le_of_ble_eq_true rfl, Nat.le_of_ble_eq_true rfl, Nat.le_of_ble_eq_true rfl⟩ (fun v C' hP => ?_) (fun E C' hX => sx_out htb hlk (⟨.inr (.inl (⟨hX.1, (if_neg (fun q => q o_1)).trans (if_pos (fun q => bI_0 hX.2.1 q.2.1))⟩)), by rw [hX.2.2]; exact PH.q hQ hW hg (by rw [show fRule σ x d f pu j = st2 σ 42 0 (kRule σ x d f pu j) from if_pos (by rw [show kRule σ x d f pu j = 2 from (if_neg (fun q => q o_1)).trans (if_pos (fun q => bI_0 hX.2.1 q.2.1))]; decide)]; exact f42 _)⟩) (Nat.le_of_ble_eq_true rfl) (Nat.le_of_ble_eq_true rfl))
  obtain ⟨rfl, o_3, hCC⟩ := hP
  refine sw_eq (C' := C) hCC ?_
  refine sw_st (st' := []) rfl ?_
  refine sw_iload (pc := 28) hc dX7_rule_28 5 rfl ?_
  refine sw_iconst (pc := 30) (v := 0) hc dX7_rule_30 (by decide) ?_
  refine sw_bipush (pc := 31) (v := 32) hc dX7_rule_31 (by decide) ?_
  refine sw_callS (pc := 33) (rest := []) hc (c_X7_isWithin l g C pu 0 32 ) md_X7_isWithin ml_RX7_68 st_X7_isWithin rfl rfl (Nat.le_of_ble_eq_true rfl) dX7_rule_33 ⟨Nat.le_of_ble_eq_true rfl, Nat.le_of_ble_eq_true rfl, Nat.le_of_ble_eq_true rfl, Nat.le_of_ble_eq_true rfl⟩ (fun v C' hP => ?_) (fun _ _ h => h.elim)
  obtain ⟨rfl, hCC⟩ := hP
  refine sw_eq (C' := C) hCC ?_
  refine sw_st (st' := [.int (bI (0 ≤ pu ∧ pu ≤ 32))]) rfl ?_
  refine sw_callS (pc := 36) (rest := []) hc (c_X7_requireArgument l g C (bI (0 ≤ pu ∧ pu ≤ 32)) hst) md_X7_requireArgument ml_RX7_77 st_X7_requireArgument rfl rfl (Nat.le_of_ble_eq_true rfl) dX7_rule_36 ⟨Nat.le_of_ble_eq_true rfl, Nat.le_of_ble_eq_true rfl, Nat.le_of_ble_eq_true rfl, Nat.le_of_ble_eq_true rfl⟩ (fun v C' hP => ?_) (fun E C' hX => sx_out htb hlk (⟨.inr (.inl (⟨hX.1, (if_neg (fun q => q o_1)).trans (if_pos (fun q => bI_0 hX.2.1 q.2.2.1))⟩)), by rw [hX.2.2]; exact PH.q hQ hW hg (by rw [show fRule σ x d f pu j = st2 σ 42 0 (kRule σ x d f pu j) from if_pos (by rw [show kRule σ x d f pu j = 2 from (if_neg (fun q => q o_1)).trans (if_pos (fun q => bI_0 hX.2.1 q.2.2.1))]; decide)]; exact f42 _)⟩) (Nat.le_of_ble_eq_true rfl) (Nat.le_of_ble_eq_true rfl))
  obtain ⟨rfl, o_4, hCC⟩ := hP
  refine sw_eq (C' := C) hCC ?_
  refine sw_st (st' := []) rfl ?_
  refine sw_iload (pc := 39) hc dX7_rule_39 6 rfl ?_
  refine sw_iconst (pc := 41) (v := 0) hc dX7_rule_41 (by decide) ?_
  refine sw_sipush (pc := 42) (v := 500) hc dX7_rule_42 (by decide) ?_
  refine sw_callS (pc := 45) (rest := []) hc (c_X7_isWithin l g C j 0 500 ) md_X7_isWithin ml_RX7_68 st_X7_isWithin rfl rfl (Nat.le_of_ble_eq_true rfl) dX7_rule_45 ⟨Nat.le_of_ble_eq_true rfl, Nat.le_of_ble_eq_true rfl, Nat.le_of_ble_eq_true rfl, Nat.le_of_ble_eq_true rfl⟩ (fun v C' hP => ?_) (fun _ _ h => h.elim)
  obtain ⟨rfl, hCC⟩ := hP
  refine sw_eq (C' := C) hCC ?_
  refine sw_st (st' := [.int (bI (0 ≤ j ∧ j ≤ 500))]) rfl ?_
  refine sw_callS (pc := 48) (rest := []) hc (c_X7_requireArgument l g C (bI (0 ≤ j ∧ j ≤ 500)) hst) md_X7_requireArgument ml_RX7_77 st_X7_requireArgument rfl rfl (Nat.le_of_ble_eq_true rfl) dX7_rule_48 ⟨Nat.le_of_ble_eq_true rfl, Nat.le_of_ble_eq_true rfl, Nat.le_of_ble_eq_true rfl, Nat.le_of_ble_eq_true rfl⟩ (fun v C' hP => ?_) (fun E C' hX => sx_out htb hlk (⟨.inr (.inl (⟨hX.1, (if_neg (fun q => q o_1)).trans (if_pos (fun q => bI_0 hX.2.1 q.2.2.2))⟩)), by rw [hX.2.2]; exact PH.q hQ hW hg (by rw [show fRule σ x d f pu j = st2 σ 42 0 (kRule σ x d f pu j) from if_pos (by rw [show kRule σ x d f pu j = 2 from (if_neg (fun q => q o_1)).trans (if_pos (fun q => bI_0 hX.2.1 q.2.2.2))]; decide)]; exact f42 _)⟩) (Nat.le_of_ble_eq_true rfl) (Nat.le_of_ble_eq_true rfl))
  obtain ⟨rfl, o_5, hCC⟩ := hP
  refine sw_eq (C' := C) hCC ?_
  refine sw_st (st' := []) rfl ?_
  refine sw_aload (pc := 51) hc dX7_rule_51 0 rfl ?_
  refine sw_get (pc := 53) (v := .ref (ad 12 (iN x))) hc fl_RX7_175 (hQ.at (ct11 (k := (iN x)) o_1_l)) rfl dX7_rule_53 ?_
  refine sw_callV (pc := 56) (rest := []) hc (c_Jx4a65c_size_8abf5 l g C (ad 12 (iN x)) (nI (iN (σ 11 (iN x)))) (if iN (σ 11 (iN x)) = 0 then g.2.2.2 0 else ad 13 (iN x)) (nI (iN (σ 11 (iN x)))) (hQ.at (ct12 (k := (iN x)) o_1_l))) md_Jx4a65c_size_8abf5 ml_RX7_46 im_Jx4a65c_size_8abf5 sl_Jx4a65c_size_8abf5 (hQ.at (ct12 (k := (iN x)) o_1_l)) rfl rfl rfl (Nat.le_of_ble_eq_true rfl) dX7_rule_56 ⟨Nat.le_of_ble_eq_true rfl, Nat.le_of_ble_eq_true rfl, Nat.le_of_ble_eq_true rfl, Nat.le_of_ble_eq_true rfl⟩ (fun v C' hP => ?_) (fun _ _ h => h.elim)
  obtain ⟨rfl, hCC⟩ := hP
  refine sw_eq (C' := C) hCC ?_
  refine sw_st (st' := [.int (nI (iN (σ 11 (iN x))))]) rfl ?_
  refine sw_bipush (pc := 59) (v := 10) hc dX7_rule_59 (by decide) ?_
  refine sw_icmp_lt (pc := 61) (tgt := 74) hc dX7_rule_61 (by decide) (fun c_6 => ?_) (fun c_6 => ?_)
  ·
    have c_6' := Int32.not_le.mpr c_6
    refine sw_aload (pc := 74) hc dX7_rule_74 0 rfl ?_
    refine sw_get (pc := 76) (v := .ref (ad 12 (iN x))) hc fl_RX7_175 (hQ.at (ct11 (k := (iN x)) o_1_l)) rfl dX7_rule_76 ?_
    refine sw_new (pc := 79) hc nw_RX7_180 ⟨Nat.le_of_ble_eq_true rfl, Nat.le_of_ble_eq_true rfl⟩ dX7_rule_79 (fun w7 hf_w7 => ?_)
    have fa_w7 : C w7 = none := (sg_fresh (C := C) (L := []) hf_w7).2
    have hN : sg_nd [w7] := ⟨(sg_fresh (C := C) (L := []) hf_w7).1, trivial⟩
    refine sw_eq (C' := sg_ov C [(w7, .inr (6, [.int 0, .int 0, .int 0, .int 0]))]) rfl ?_
    refine sw_dup (pc := 82) hc dX7_rule_82 rfl ?_
    refine sw_iload_n (pc := 83) hc dX7_rule_83 rfl 3 rfl ?_
    refine sw_iload_n (pc := 84) hc dX7_rule_84 rfl 4 rfl ?_
    refine sw_iload (pc := 85) hc dX7_rule_85 5 rfl ?_
    refine sw_iload (pc := 87) hc dX7_rule_87 6 rfl ?_
    refine sw_callI (pc := 89) (rest := [.ref w7, .ref (ad 12 (iN x))]) hc (c_X5_init l g (sg_ov C [(w7, .inr (6, [.int 0, .int 0, .int 0, .int 0]))]) w7 d f pu j (sg_ov_at hN (k := 0) rfl)) md_X5_init ml_RX7_182 im_X5_init rfl rfl rfl (Nat.le_of_ble_eq_true rfl) dX7_rule_89 ⟨Nat.le_of_ble_eq_true rfl, Nat.le_of_ble_eq_true rfl, Nat.le_of_ble_eq_true rfl, Nat.le_of_ble_eq_true rfl⟩ (fun v C' hP => ?_) (fun _ _ h => h.elim)
    obtain ⟨rfl, rfl⟩ := hP
    refine sw_eq (C' := sg_ov C [(w7, .inr (6, [.int d, .int f, .int pu, .int j]))]) (sg_ov_set (l := [(w7, .inr (6, [.int 0, .int 0, .int 0, .int 0]))]) hN (k := 0) rfl) ?_
    have hQ1 : Pic g ad own gh σ (sg_ov C [(w7, .inr (6, [.int d, .int f, .int pu, .int j]))]) := (hQ.ext (L := [(w7, .inr (6, [.int d, .int f, .int pu, .int j]))]) (List.forall_mem_cons.mpr ⟨fa_w7, fun _ h => absurd h List.not_mem_nil⟩)).1
    refine sw_callV (pc := 92) (rest := []) hc (c_add2 l hQ1 o_1_l (hW.b5 (iN x)) (ci := 6) (vr := (RX5, TX5, 4)) (fun i hi => ⟨_, hQ1.at (ct14 o_1_l hi (hW.u10 hi))⟩) rfl ca_6 ⟨by decide, by decide⟩ (sg_ov_at hN (k := 0) rfl)) md_Jx4a65c_add_9ea2d ml_RX7_60 im_Jx4a65c_add_9ea2d sl_Jx4a65c_add_9ea2d ((sg_ov_out (sg_nin (sg_nf (hQ.at (ct12 (k := (iN x)) o_1_l)) fa_w7) List.not_mem_nil)).trans (hQ.at (ct12 (k := (iN x)) o_1_l))) rfl rfl rfl (Nat.le_of_ble_eq_true rfl) dX7_rule_92 ⟨Nat.le_of_ble_eq_true rfl, Nat.le_of_ble_eq_true rfl, Nat.le_of_ble_eq_true rfl, Nat.le_of_ble_eq_true rfl⟩ (fun v C' hP => ?_) (fun _ _ h => h.elim)
    obtain ⟨rfl, b, hb, hnd, hCC⟩ := hP
    have hN2 : sg_nd [b, ad 12 (iN x), w7] := nd_push2 (L := [(w7, .inr (6, [.int d, .int f, .int pu, .int j]))]) hN hb hnd (List.forall_mem_cons.mpr ⟨(fresh_ne2 hQ o_1_l fa_w7), fun _ h => absurd h List.not_mem_nil⟩)
    have hb2 := hb.imp id (fun zq => (sg_fresh (C := C) (L := [(w7, .inr (6, [.int d, .int f, .int pu, .int j]))]) zq).2)
    have hN := hN2
    refine sw_eq (C' := sg_ov C [(b, sg_qa g (sg_cap (iN (σ 11 (iN x)) + 1)) (sg_tr (sg_fu ((fun i => ad 14 (10 * (iN x) + i))) (iN (σ 11 (iN x))) w7) (iN (σ 11 (iN x)) + 1))), (ad 12 (iN x), .inr (0, [.int (nI (iN (σ 11 (iN x)) + 1)), .ref b, .int (nI (iN (σ 11 (iN x)) + 1))])), (w7, .inr (6, [.int d, .int f, .int pu, .int j]))]) (hCC.trans (ov_app _)) ?_
    refine sw_st (st' := [.int 1]) rfl ?_
    refine sw_pop (pc := 95) hc dX7_rule_95 rfl ?_
    have hn10 := cnt_ok (B := 10) (hW.1.2.2.2.2.2.2.2.2.2.1 (iN x)) (by decide) c_6
    have hz := vRule_c o_1 ⟨bI_n o_2, bI_n o_3, bI_n o_4, bI_n o_5⟩ hn10.1
    have hW0 := hW.fr (f42 (σ := σ) 0)
    have hp := pic_rule (σ := st2 σ 42 0 0) (x := x) (d := d) (f := f) (pu := pu) (j := j) (hQ.fr hW (f42 0)) hW0 (a := iN x) rfl o_1_l (n := iN (σ 11 (iN x))) rfl hn10.2 fa_w7 hb2 hN2
    have hwx := wx_rule (σ := st2 σ 42 0 0) (x := x) hW0 (a := iN x) rfl o_1_l (n := iN (σ 11 (iN x))) rfl hn10.2 ⟨bI_n o_2, bI_n o_3, bI_n o_4, bI_n o_5⟩
    revert hp
    rw [show sg_ov C ((T_rule g ad (iN x) (iN (σ 11 (iN x))) w7 b d f pu j).map (fun t => t.2)) = sg_ov C [(b, sg_qa g (sg_cap (iN (σ 11 (iN x)) + 1)) (sg_tr (sg_fu ((fun i => ad 14 (10 * (iN x) + i))) (iN (σ 11 (iN x))) w7) (iN (σ 11 (iN x)) + 1))), (ad 12 (iN x), .inr (0, [.int (nI (iN (σ 11 (iN x)) + 1)), .ref b, .int (nI (iN (σ 11 (iN x)) + 1))])), (w7, .inr (6, [.int d, .int f, .int pu, .int j]))] from rfl]
    generalize sg_ov C [(b, sg_qa g (sg_cap (iN (σ 11 (iN x)) + 1)) (sg_tr (sg_fu ((fun i => ad 14 (10 * (iN x) + i))) (iN (σ 11 (iN x))) w7) (iN (σ 11 (iN x)) + 1))), (ad 12 (iN x), .inr (0, [.int (nI (iN (σ 11 (iN x)) + 1)), .ref b, .int (nI (iN (σ 11 (iN x)) + 1))])), (w7, .inr (6, [.int d, .int f, .int pu, .int j]))] = Cr
    rintro ⟨hQr, hFr⟩
    have h00 : Cr (ad 0 0) = some (.inr (8, [.ref (ad 1 0), .ref (ad 1 1), .ref (ad 1 2), .ref (ad 1 3), .ref (ad 1 4), .int (σ 31 0), .ref (ad 17 0), .ref (ad 18 0), .ref (ad 19 0)])) := hQr.at ct0
    refine sw_aload_n (pc := 96) hc dX7_rule_96 rfl 1 rfl ?_
    refine sw_aload (pc := 97) hc dX7_rule_97 0 rfl ?_
    refine sw_callV (pc := 99) (rest := []) hc (c_X7_countRefused l g Cr (adT ad (T_rule g ad (iN x) (iN (σ 11 (iN x))) w7 b d f pu j)) (ownT own (T_rule g ad (iN x) (iN (σ 11 (iN x))) w7 b d f pu j)) gh (oRule (st2 σ 42 0 0) x d f pu j) (iN x) hQr hwx o_1_l) md_X7_countRefused ml_RX7_185 im_X7_countRefused sl_X7_countRefused h00 rfl rfl rfl (Nat.le_of_ble_eq_true rfl) dX7_rule_99 ⟨Nat.le_of_ble_eq_true rfl, Nat.le_of_ble_eq_true rfl, Nat.le_of_ble_eq_true rfl, Nat.le_of_ble_eq_true rfl⟩ (fun v C' hP => ?_) (fun _ _ h => h.elim)
    obtain ⟨rfl, hCC⟩ := hP
    refine sw_eq (C' := Cr) hCC ?_
    refine sw_st (st' := [.int (rRfC (oRule (st2 σ 42 0 0) x d f pu j) (nI (iN x)) (iN (σ 26 0)))]) rfl ?_
    exact sw_iret (pc := 102) hc hlk hrt rfl ⟨congrArg (fun z => some (Value.int z)) (show rRfC (oRule (st2 σ 42 0 0) x d f pu j) (nI (iN x)) (iN (σ 26 0)) = vRule σ x d f pu j by rw [hz.2.1, ← o_1_x]), hz.1, by rw [hz.2.2]; exact ⟨_, _, gh, hQr, hFr, hg, hwx, rfl⟩⟩ (Nat.le_of_ble_eq_true rfl) (Nat.le_of_ble_eq_true rfl) dX7_rule_102
  ·
    have c_6' := Int32.not_lt.mp c_6
    exact sw_throw (pc := 64) hc hst th_RX7_50 (text := "no more rules") (by decide +kernel) dX7_rule_64 dX7_rule_67 dX7_rule_68 dX7_rule_70 dX7_rule_73 htb hlk ⟨Nat.le_of_ble_eq_true rfl, Nat.le_of_ble_eq_true rfl, Nat.le_of_ble_eq_true rfl, Nat.le_of_ble_eq_true rfl⟩ ⟨.inr (.inr (⟨rfl, (if_neg (fun q => q o_1)).trans ((if_neg (fun q => q ⟨bI_n o_2, bI_n o_3, bI_n o_4, bI_n o_5⟩)).trans (if_pos (cnt_full (B := 10) (hW.1.2.2.2.2.2.2.2.2.2.1 (iN x)) (by decide) c_6)))⟩)), PH.q hQ hW hg (by rw [show fRule σ x d f pu j = st2 σ 42 0 (kRule σ x d f pu j) from if_pos (by rw [show kRule σ x d f pu j = 3 from (if_neg (fun q => q o_1)).trans ((if_neg (fun q => q ⟨bI_n o_2, bI_n o_3, bI_n o_4, bI_n o_5⟩)).trans (if_pos (cnt_full (B := 10) (hW.1.2.2.2.2.2.2.2.2.2.1 (iN x)) (by decide) c_6)))]; decide)]; exact f42 _)⟩ (Nat.le_of_ble_eq_true rfl) (Nat.le_of_ble_eq_true rfl)
