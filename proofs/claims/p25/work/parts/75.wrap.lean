/-! the law's ten calls that may be refused -/
theorem md_X7_input : sg_MD yX7_input cX7_input 5 (some .int) 3 := ⟨sg_mem (i := 476) (by decide +kernel) rfl, sg_mem (i := 26) (by decide +kernel) rfl, ⟨by decide, by decide⟩, by decide +kernel⟩
theorem ml_RL_9 : sg_ML RL 9 yX7_input := .inl (sg_mem (i := 473) (by decide +kernel) rfl)
theorem im_X7_input : Cond.instanceMethod yX7_input ∈ sg_T := sg_mem (i := 474) (by decide +kernel) rfl
theorem sl_X7_input : Cond.selects yX7_input.cls yX7_input yX7_input ∈ sg_T := sg_mem (i := 475) (by decide +kernel) rfl
theorem kl_RL_15 : Cond.classLink RL 15 "java/lang/IndexOutOfBoundsException" ∈ sg_T := sg_mem (i := 470) (by decide +kernel) rfl
theorem cc_IndexOutOfBoundsException : Cond.castable "java/lang/IndexOutOfBoundsException" "java/lang/IndexOutOfBoundsException" ∈ sg_N := sg_memN (i := 329) (by decide +kernel) rfl
theorem kl_RL_17 : Cond.classLink RL 17 "java/lang/IllegalArgumentException" ∈ sg_T := sg_mem (i := 471) (by decide +kernel) rfl
theorem cc_IllegalArgumentException : Cond.castable "java/lang/IllegalArgumentException" "java/lang/IllegalArgumentException" ∈ sg_N := sg_memN (i := 482) (by decide +kernel) rfl
theorem kl_RL_19 : Cond.classLink RL 19 "java/lang/IllegalStateException" ∈ sg_T := sg_mem (i := 472) (by decide +kernel) rfl
theorem cc_IllegalStateException : Cond.castable "java/lang/IllegalStateException" "java/lang/IllegalStateException" ∈ sg_N := sg_memN (i := 174) (by decide +kernel) rfl
theorem mdh_L_input : sg_MDH yL_input cL_input 5 (some .int) [(0, 7, 8, 15), (0, 7, 13, 17), (0, 7, 18, 19)] 4 := ⟨sg_mem (i := 469) (by decide +kernel) rfl, sg_mem (i := 25) (by decide +kernel) rfl, ⟨by decide, by decide⟩, by decide +kernel⟩
theorem md_X7_column : sg_MD yX7_column cX7_column 6 none 4 := ⟨sg_mem (i := 561) (by decide +kernel) rfl, sg_mem (i := 26) (by decide +kernel) rfl, ⟨by decide, by decide⟩, by decide +kernel⟩
theorem ml_RL_21 : sg_ML RL 21 yX7_column := .inl (sg_mem (i := 558) (by decide +kernel) rfl)
theorem im_X7_column : Cond.instanceMethod yX7_column ∈ sg_T := sg_mem (i := 559) (by decide +kernel) rfl
theorem sl_X7_column : Cond.selects yX7_column.cls yX7_column yX7_column ∈ sg_T := sg_mem (i := 560) (by decide +kernel) rfl
theorem mdh_L_column : sg_MDH yL_column cL_column 6 (some .int) [(0, 10, 11, 15), (0, 10, 16, 17), (0, 10, 21, 19)] 5 := ⟨sg_mem (i := 557) (by decide +kernel) rfl, sg_mem (i := 25) (by decide +kernel) rfl, ⟨by decide, by decide⟩, by decide +kernel⟩
theorem md_X7_submit : sg_MD yX7_submit cX7_submit 7 (some .int) 3 := ⟨sg_mem (i := 578) (by decide +kernel) rfl, sg_mem (i := 26) (by decide +kernel) rfl, ⟨by decide, by decide⟩, by decide +kernel⟩
theorem ml_RL_25 : sg_ML RL 25 yX7_submit := .inl (sg_mem (i := 575) (by decide +kernel) rfl)
theorem im_X7_submit : Cond.instanceMethod yX7_submit ∈ sg_T := sg_mem (i := 576) (by decide +kernel) rfl
theorem sl_X7_submit : Cond.selects yX7_submit.cls yX7_submit yX7_submit ∈ sg_T := sg_mem (i := 577) (by decide +kernel) rfl
theorem mdh_L_submit : sg_MDH yL_submit cL_submit 5 (some .int) [(0, 7, 8, 15), (0, 7, 13, 17), (0, 7, 18, 19)] 4 := ⟨sg_mem (i := 574) (by decide +kernel) rfl, sg_mem (i := 25) (by decide +kernel) rfl, ⟨by decide, by decide⟩, by decide +kernel⟩
theorem md_X7_rule : sg_MD yX7_rule cX7_rule 7 (some .int) 5 := ⟨sg_mem (i := 633) (by decide +kernel) rfl, sg_mem (i := 26) (by decide +kernel) rfl, ⟨by decide, by decide⟩, by decide +kernel⟩
theorem ml_RL_28 : sg_ML RL 28 yX7_rule := .inl (sg_mem (i := 630) (by decide +kernel) rfl)
theorem im_X7_rule : Cond.instanceMethod yX7_rule ∈ sg_T := sg_mem (i := 631) (by decide +kernel) rfl
theorem sl_X7_rule : Cond.selects yX7_rule.cls yX7_rule yX7_rule ∈ sg_T := sg_mem (i := 632) (by decide +kernel) rfl
theorem mdh_L_rule : sg_MDH yL_rule cL_rule 7 (some .int) [(0, 11, 12, 15), (0, 11, 17, 17), (0, 11, 22, 19)] 6 := ⟨sg_mem (i := 629) (by decide +kernel) rfl, sg_mem (i := 25) (by decide +kernel) rfl, ⟨by decide, by decide⟩, by decide +kernel⟩
theorem md_X7_offer : sg_MD yX7_offer cX7_offer 4 (some .int) 2 := ⟨sg_mem (i := 782) (by decide +kernel) rfl, sg_mem (i := 26) (by decide +kernel) rfl, ⟨by decide, by decide⟩, by decide +kernel⟩
theorem ml_RL_32 : sg_ML RL 32 yX7_offer := .inl (sg_mem (i := 779) (by decide +kernel) rfl)
theorem im_X7_offer : Cond.instanceMethod yX7_offer ∈ sg_T := sg_mem (i := 780) (by decide +kernel) rfl
theorem sl_X7_offer : Cond.selects yX7_offer.cls yX7_offer yX7_offer ∈ sg_T := sg_mem (i := 781) (by decide +kernel) rfl
theorem mdh_L_offer : sg_MDH yL_offer cL_offer 4 (some .int) [(0, 6, 7, 15), (0, 6, 11, 19)] 3 := ⟨sg_mem (i := 778) (by decide +kernel) rfl, sg_mem (i := 25) (by decide +kernel) rfl, ⟨by decide, by decide⟩, by decide +kernel⟩
theorem md_X7_gift : sg_MD yX7_gift cX7_gift 4 (some .int) 2 := ⟨sg_mem (i := 811) (by decide +kernel) rfl, sg_mem (i := 26) (by decide +kernel) rfl, ⟨by decide, by decide⟩, by decide +kernel⟩
theorem ml_RL_36 : sg_ML RL 36 yX7_gift := .inl (sg_mem (i := 808) (by decide +kernel) rfl)
theorem im_X7_gift : Cond.instanceMethod yX7_gift ∈ sg_T := sg_mem (i := 809) (by decide +kernel) rfl
theorem sl_X7_gift : Cond.selects yX7_gift.cls yX7_gift yX7_gift ∈ sg_T := sg_mem (i := 810) (by decide +kernel) rfl
theorem mdh_L_gift : sg_MDH yL_gift cL_gift 4 (some .int) [(0, 6, 7, 15), (0, 6, 11, 17), (0, 6, 15, 19)] 3 := ⟨sg_mem (i := 807) (by decide +kernel) rfl, sg_mem (i := 25) (by decide +kernel) rfl, ⟨by decide, by decide⟩, by decide +kernel⟩
theorem md_X7_pass : sg_MD yX7_pass cX7_pass 2 (some .int) 1 := ⟨sg_mem (i := 665) (by decide +kernel) rfl, sg_mem (i := 26) (by decide +kernel) rfl, ⟨by decide, by decide⟩, by decide +kernel⟩
theorem ml_RL_39 : sg_ML RL 39 yX7_pass := .inl (sg_mem (i := 662) (by decide +kernel) rfl)
theorem im_X7_pass : Cond.instanceMethod yX7_pass ∈ sg_T := sg_mem (i := 663) (by decide +kernel) rfl
theorem sl_X7_pass : Cond.selects yX7_pass.cls yX7_pass yX7_pass ∈ sg_T := sg_mem (i := 664) (by decide +kernel) rfl
theorem mdh_L_pass : sg_MDH yL_pass cL_pass 3 (some .int) [(0, 5, 6, 17), (0, 5, 10, 19)] 2 := ⟨sg_mem (i := 661) (by decide +kernel) rfl, sg_mem (i := 25) (by decide +kernel) rfl, ⟨by decide, by decide⟩, by decide +kernel⟩
theorem md_X7_judged : sg_MD yX7_judged cX7_judged 5 (some .int) 1 := ⟨sg_mem (i := 434) (by decide +kernel) rfl, sg_mem (i := 26) (by decide +kernel) rfl, ⟨by decide, by decide⟩, by decide +kernel⟩
theorem ml_RL_43 : sg_ML RL 43 yX7_judged := .inl (sg_mem (i := 431) (by decide +kernel) rfl)
theorem im_X7_judged : Cond.instanceMethod yX7_judged ∈ sg_T := sg_mem (i := 432) (by decide +kernel) rfl
theorem sl_X7_judged : Cond.selects yX7_judged.cls yX7_judged yX7_judged ∈ sg_T := sg_mem (i := 433) (by decide +kernel) rfl
theorem mdh_L_judged : sg_MDH yL_judged cL_judged 3 (some .int) [(0, 5, 6, 15)] 2 := ⟨sg_mem (i := 669) (by decide +kernel) rfl, sg_mem (i := 25) (by decide +kernel) rfl, ⟨by decide, by decide⟩, by decide +kernel⟩
theorem md_X7_plan : sg_MD yX7_plan cX7_plan 6 (some .int) 1 := ⟨sg_mem (i := 676) (by decide +kernel) rfl, sg_mem (i := 26) (by decide +kernel) rfl, ⟨by decide, by decide⟩, by decide +kernel⟩
theorem ml_RL_46 : sg_ML RL 46 yX7_plan := .inl (sg_mem (i := 673) (by decide +kernel) rfl)
theorem im_X7_plan : Cond.instanceMethod yX7_plan ∈ sg_T := sg_mem (i := 674) (by decide +kernel) rfl
theorem sl_X7_plan : Cond.selects yX7_plan.cls yX7_plan yX7_plan ∈ sg_T := sg_mem (i := 675) (by decide +kernel) rfl
theorem mdh_L_plan : sg_MDH yL_plan cL_plan 3 (some .int) [(0, 5, 6, 17)] 2 := ⟨sg_mem (i := 672) (by decide +kernel) rfl, sg_mem (i := 25) (by decide +kernel) rfl, ⟨by decide, by decide⟩, by decide +kernel⟩
theorem md_X7_at : sg_MD yX7_at cX7_at 6 (some .int) 2 := ⟨sg_mem (i := 767) (by decide +kernel) rfl, sg_mem (i := 26) (by decide +kernel) rfl, ⟨by decide, by decide⟩, by decide +kernel⟩
theorem ml_RL_49 : sg_ML RL 49 yX7_at := .inl (sg_mem (i := 764) (by decide +kernel) rfl)
theorem im_X7_at : Cond.instanceMethod yX7_at ∈ sg_T := sg_mem (i := 765) (by decide +kernel) rfl
theorem sl_X7_at : Cond.selects yX7_at.cls yX7_at yX7_at ∈ sg_T := sg_mem (i := 766) (by decide +kernel) rfl
theorem mdh_L_at : sg_MDH yL_at cL_at 4 (some .int) [(0, 6, 7, 15)] 3 := ⟨sg_mem (i := 763) (by decide +kernel) rfl, sg_mem (i := 25) (by decide +kernel) rfl, ⟨by decide, by decide⟩, by decide +kernel⟩
/-- what a refused call is told as -/
def x3 (k : Int32) : Int32 := if k = 1 then -2 else if k = 2 then -3 else -4
def x2 (k : Int32) : Int32 := if k = 1 then -2 else -4
def xp (k : Int32) : Int32 := if k = 1 then -3 else -4
def x1 (_ : Int32) : Int32 := -2
def xa (_ : Int32) : Int32 := -3

theorem fr_input {σ : Mem} {x b t : Int32} (hz0 : 0 < kInput σ x b t) : rFr σ (fInput σ x b t) := by
  unfold fInput
  rw [if_pos hz0]
  exact f42 _
theorem fr_column {σ : Mem} {x y h t : Int32} (hz0 : 0 < kColumn σ x y h t) : rFr σ (fColumn σ x y h t) := by
  unfold fColumn
  rw [if_pos hz0]
  exact f42 _
theorem fr_submit {σ : Mem} {x y z : Int32} (hz0 : 0 < kSubmit σ (rSub σ x y z) x y z) : rFr σ (fSubmit σ x y z) := by
  unfold fSubmit
  rw [if_pos hz0]
  exact (rSub_fr σ x y z).tr (f42 _)
theorem fr_rule {σ : Mem} {x d f pu j : Int32} (hz0 : 0 < kRule σ x d f pu j) : rFr σ (fRule σ x d f pu j) := by
  unfold fRule
  rw [if_pos hz0]
  exact f42 _
theorem fr_offer {σ : Mem} {x y : Int32} (hz0 : 0 < kOffer σ x y) : rFr σ (fOffer σ x y) := by
  unfold fOffer
  rw [if_pos hz0]
  exact f42 _
theorem fr_gift {σ : Mem} {x a : Int32} (hz0 : 0 < kGift σ x a) : rFr σ (fGift σ x a) := by
  unfold fGift
  rw [if_pos hz0]
  exact f42 _
theorem fr_pass {σ : Mem} {x : Int32} (hz0 : 0 < kPass σ x) : rFr σ (fPass σ x) := by
  unfold fPass
  rw [if_pos hz0]
  exact f42 _
set_option maxHeartbeats 4000000 in
set_option maxRecDepth 100000 in
theorem c_L_input (l : Launch) (g : sg_G) (C : Nat → Option va_E) (x0 : Nat) (σ : Mem) (K : va_W) (x : Int32) (b : Int32) (t : Int32) (hst : l.stackTraces = false) (hG : GK g x0 σ K C) : sg_MetH l yL_input cL_input 5 (some .int) [(0, 7, 8, 15), (0, 7, 13, 17), (0, 7, 18, 19)] 8 142 16 96 g [.ref x0, .int x, .int b, .int t] C (fun v C' => v = some (.int (if kInput σ x b t = 0 then vInput σ x b t else x3 (kInput σ x b t))) ∧ GK g x0 (if kInput σ x b t = 0 then fInput σ x b t else σ) K C') := by
  refine sg_ofWH (by decide) rfl ?_ (Nat.le_of_ble_eq_true rfl)
  intro p e s m below meth c hc hlk hrt htb
  have hc : sg_Cx p s m _ c cL_input 5 RL g := hc
  obtain ⟨⟨ad, own, gh, hQ, hg, hW, rfl, ho⟩, hK, hn⟩ := hG
  show sg_W p l e _ s m _ below meth c 5 g 0 0 _ C 0 [(0, .ref (ad 0 0)), (1, .int x), (2, .int b), (3, .int t)] []
  refine sw_aload_n (pc := 0) hc dL_input_0 rfl 0 rfl ?_
  refine sw_iload_n (pc := 1) hc dL_input_1 rfl 1 rfl ?_
  refine sw_iload_n (pc := 2) hc dL_input_2 rfl 2 rfl ?_
  refine sw_iload_n (pc := 3) hc dL_input_3 rfl 3 rfl ?_
  refine sw_callV (pc := 4) (rest := []) hc (c_X7_input l g C ad own gh σ x b t hQ hW hg hst) md_X7_input ml_RL_9 im_X7_input sl_X7_input (hQ.at ct0) rfl rfl rfl (Nat.le_of_ble_eq_true rfl) dL_input_4 ⟨Nat.le_of_ble_eq_true rfl, Nat.le_of_ble_eq_true rfl, Nat.le_of_ble_eq_true rfl, Nat.le_of_ble_eq_true rfl⟩ (fun v C1 hP => ?_) (fun E C1 hX => ?_)
  · obtain ⟨rfl, hk, hPH⟩ := hP
    have hk0 : kInput σ x b t = 0 := (z_kInput σ x b t).resolve_right hk
    refine sw_st (st' := [.int (vInput σ x b t)]) rfl ?_
    exact sw_iret (pc := 7) hc hlk hrt rfl ⟨congrArg (fun zq => some (Value.int zq)) (if_pos hk0).symm, by rw [if_pos hk0]; exact GK.ph ho hK hn hPH⟩ (Nat.le_of_ble_eq_true rfl) (Nat.le_of_ble_eq_true rfl) dL_input_7
  · obtain ⟨hE, hPH⟩ := hX
    rcases hE with ⟨rfl, hk⟩ | ⟨rfl, hk⟩ | ⟨rfl, hk⟩
    · refine sx_catch (name := "java/lang/IndexOutOfBoundsException") hc [] ⟨0, 7, 8, 15⟩ [⟨0, 7, 13, 17⟩, ⟨0, 7, 18, 19⟩] (htb.trans rfl) (fun z hz => absurd hz List.not_mem_nil) (by decide) (by decide) kl_RL_15 cc_IndexOutOfBoundsException (fun q => ?_)
      refine sw_astore (pc := 8) hc dL_input_8 (by decide) (lv' := [(4, .ref q), (0, .ref (ad 0 0)), (1, .int x), (2, .int b), (3, .int t)]) rfl ?_
      refine sw_bipush (pc := 10) (v := (-2)) hc dL_input_10 (by decide) ?_
      have he : (-2 : Int32) = if kInput σ x b t = 0 then vInput σ x b t else x3 (kInput σ x b t) := by rw [if_neg (by rw [hk]; decide), hk]; decide
      exact sw_iret (pc := 12) hc hlk hrt rfl ⟨congrArg (fun zq => some (Value.int zq)) he, by rw [if_neg (by rw [hk]; decide)]; exact (GK.ph ho hK hn hPH).fr (rFr.sy (fr_input (by rw [hk]; decide)))⟩ (Nat.le_of_ble_eq_true rfl) (Nat.le_of_ble_eq_true rfl) dL_input_12
    · refine sx_catch (name := "java/lang/IllegalArgumentException") hc [⟨0, 7, 8, 15⟩] ⟨0, 7, 13, 17⟩ [⟨0, 7, 18, 19⟩] (htb.trans rfl) (List.forall_mem_cons.mpr ⟨(.inr ⟨by decide, "java/lang/IndexOutOfBoundsException", kl_RL_15, by decide +kernel⟩), fun _ h => absurd h List.not_mem_nil⟩) (by decide) (by decide) kl_RL_17 cc_IllegalArgumentException (fun q => ?_)
      refine sw_astore (pc := 13) hc dL_input_13 (by decide) (lv' := [(4, .ref q), (0, .ref (ad 0 0)), (1, .int x), (2, .int b), (3, .int t)]) rfl ?_
      refine sw_bipush (pc := 15) (v := (-3)) hc dL_input_15 (by decide) ?_
      have he : (-3 : Int32) = if kInput σ x b t = 0 then vInput σ x b t else x3 (kInput σ x b t) := by rw [if_neg (by rw [hk]; decide), hk]; decide
      exact sw_iret (pc := 17) hc hlk hrt rfl ⟨congrArg (fun zq => some (Value.int zq)) he, by rw [if_neg (by rw [hk]; decide)]; exact (GK.ph ho hK hn hPH).fr (rFr.sy (fr_input (by rw [hk]; decide)))⟩ (Nat.le_of_ble_eq_true rfl) (Nat.le_of_ble_eq_true rfl) dL_input_17
    · refine sx_catch (name := "java/lang/IllegalStateException") hc [⟨0, 7, 8, 15⟩, ⟨0, 7, 13, 17⟩] ⟨0, 7, 18, 19⟩ [] (htb.trans rfl) (List.forall_mem_cons.mpr ⟨(.inr ⟨by decide, "java/lang/IndexOutOfBoundsException", kl_RL_15, by decide +kernel⟩), List.forall_mem_cons.mpr ⟨(.inr ⟨by decide, "java/lang/IllegalArgumentException", kl_RL_17, by decide +kernel⟩), fun _ h => absurd h List.not_mem_nil⟩⟩) (by decide) (by decide) kl_RL_19 cc_IllegalStateException (fun q => ?_)
      refine sw_astore (pc := 18) hc dL_input_18 (by decide) (lv' := [(4, .ref q), (0, .ref (ad 0 0)), (1, .int x), (2, .int b), (3, .int t)]) rfl ?_
      refine sw_bipush (pc := 20) (v := (-4)) hc dL_input_20 (by decide) ?_
      have he : (-4 : Int32) = if kInput σ x b t = 0 then vInput σ x b t else x3 (kInput σ x b t) := by rw [if_neg (by rw [hk]; decide), hk]; decide
      exact sw_iret (pc := 22) hc hlk hrt rfl ⟨congrArg (fun zq => some (Value.int zq)) he, by rw [if_neg (by rw [hk]; decide)]; exact (GK.ph ho hK hn hPH).fr (rFr.sy (fr_input (by rw [hk]; decide)))⟩ (Nat.le_of_ble_eq_true rfl) (Nat.le_of_ble_eq_true rfl) dL_input_22
set_option maxHeartbeats 4000000 in
set_option maxRecDepth 100000 in
theorem c_L_column (l : Launch) (g : sg_G) (C : Nat → Option va_E) (x0 : Nat) (σ : Mem) (K : va_W) (x : Int32) (y : Int32) (h : Int32) (t : Int32) (hst : l.stackTraces = false) (hG : GK g x0 σ K C) : sg_MetH l yL_column cL_column 6 (some .int) [(0, 10, 11, 15), (0, 10, 16, 17), (0, 10, 21, 19)] 8 128 16 96 g [.ref x0, .int x, .int y, .int h, .int t] C (fun v C' => v = some (.int (if kColumn σ x y h t = 0 then 0 else x3 (kColumn σ x y h t))) ∧ GK g x0 (if kColumn σ x y h t = 0 then fColumn σ x y h t else σ) K C') := by
  refine sg_ofWH (by decide) rfl ?_ (Nat.le_of_ble_eq_true rfl)
  intro p e s m below meth c hc hlk hrt htb
  have hc : sg_Cx p s m _ c cL_column 6 RL g := hc
  obtain ⟨⟨ad, own, gh, hQ, hg, hW, rfl, ho⟩, hK, hn⟩ := hG
  show sg_W p l e _ s m _ below meth c 6 g 0 0 _ C 0 [(0, .ref (ad 0 0)), (1, .int x), (2, .int y), (3, .int h), (4, .int t)] []
  refine sw_aload_n (pc := 0) hc dL_column_0 rfl 0 rfl ?_
  refine sw_iload_n (pc := 1) hc dL_column_1 rfl 1 rfl ?_
  refine sw_iload_n (pc := 2) hc dL_column_2 rfl 2 rfl ?_
  refine sw_iload_n (pc := 3) hc dL_column_3 rfl 3 rfl ?_
  refine sw_iload (pc := 4) hc dL_column_4 4 rfl ?_
  refine sw_callV (pc := 6) (rest := []) hc (c_X7_column l g C ad own gh σ x y h t hQ hW hg hst) md_X7_column ml_RL_21 im_X7_column sl_X7_column (hQ.at ct0) rfl rfl rfl (Nat.le_of_ble_eq_true rfl) dL_column_6 ⟨Nat.le_of_ble_eq_true rfl, Nat.le_of_ble_eq_true rfl, Nat.le_of_ble_eq_true rfl, Nat.le_of_ble_eq_true rfl⟩ (fun v C1 hP => ?_) (fun E C1 hX => ?_)
  · obtain ⟨rfl, hk, hPH⟩ := hP
    have hk0 : kColumn σ x y h t = 0 := (z_kColumn σ x y h t).resolve_right hk
    refine sw_st (st' := []) rfl ?_
    refine sw_iconst (pc := 9) (v := 0) hc dL_column_9 (by decide) ?_
    exact sw_iret (pc := 10) hc hlk hrt rfl ⟨congrArg (fun zq => some (Value.int zq)) (if_pos hk0).symm, by rw [if_pos hk0]; exact GK.ph ho hK hn hPH⟩ (Nat.le_of_ble_eq_true rfl) (Nat.le_of_ble_eq_true rfl) dL_column_10
  · obtain ⟨hE, hPH⟩ := hX
    rcases hE with ⟨rfl, hk⟩ | ⟨rfl, hk⟩ | ⟨rfl, hk⟩
    · refine sx_catch (name := "java/lang/IndexOutOfBoundsException") hc [] ⟨0, 10, 11, 15⟩ [⟨0, 10, 16, 17⟩, ⟨0, 10, 21, 19⟩] (htb.trans rfl) (fun z hz => absurd hz List.not_mem_nil) (by decide) (by decide) kl_RL_15 cc_IndexOutOfBoundsException (fun q => ?_)
      refine sw_astore (pc := 11) hc dL_column_11 (by decide) (lv' := [(5, .ref q), (0, .ref (ad 0 0)), (1, .int x), (2, .int y), (3, .int h), (4, .int t)]) rfl ?_
      refine sw_bipush (pc := 13) (v := (-2)) hc dL_column_13 (by decide) ?_
      have he : (-2 : Int32) = if kColumn σ x y h t = 0 then 0 else x3 (kColumn σ x y h t) := by rw [if_neg (by rw [hk]; decide), hk]; decide
      exact sw_iret (pc := 15) hc hlk hrt rfl ⟨congrArg (fun zq => some (Value.int zq)) he, by rw [if_neg (by rw [hk]; decide)]; exact (GK.ph ho hK hn hPH).fr (rFr.sy (fr_column (by rw [hk]; decide)))⟩ (Nat.le_of_ble_eq_true rfl) (Nat.le_of_ble_eq_true rfl) dL_column_15
    · refine sx_catch (name := "java/lang/IllegalArgumentException") hc [⟨0, 10, 11, 15⟩] ⟨0, 10, 16, 17⟩ [⟨0, 10, 21, 19⟩] (htb.trans rfl) (List.forall_mem_cons.mpr ⟨(.inr ⟨by decide, "java/lang/IndexOutOfBoundsException", kl_RL_15, by decide +kernel⟩), fun _ h => absurd h List.not_mem_nil⟩) (by decide) (by decide) kl_RL_17 cc_IllegalArgumentException (fun q => ?_)
      refine sw_astore (pc := 16) hc dL_column_16 (by decide) (lv' := [(5, .ref q), (0, .ref (ad 0 0)), (1, .int x), (2, .int y), (3, .int h), (4, .int t)]) rfl ?_
      refine sw_bipush (pc := 18) (v := (-3)) hc dL_column_18 (by decide) ?_
      have he : (-3 : Int32) = if kColumn σ x y h t = 0 then 0 else x3 (kColumn σ x y h t) := by rw [if_neg (by rw [hk]; decide), hk]; decide
      exact sw_iret (pc := 20) hc hlk hrt rfl ⟨congrArg (fun zq => some (Value.int zq)) he, by rw [if_neg (by rw [hk]; decide)]; exact (GK.ph ho hK hn hPH).fr (rFr.sy (fr_column (by rw [hk]; decide)))⟩ (Nat.le_of_ble_eq_true rfl) (Nat.le_of_ble_eq_true rfl) dL_column_20
    · refine sx_catch (name := "java/lang/IllegalStateException") hc [⟨0, 10, 11, 15⟩, ⟨0, 10, 16, 17⟩] ⟨0, 10, 21, 19⟩ [] (htb.trans rfl) (List.forall_mem_cons.mpr ⟨(.inr ⟨by decide, "java/lang/IndexOutOfBoundsException", kl_RL_15, by decide +kernel⟩), List.forall_mem_cons.mpr ⟨(.inr ⟨by decide, "java/lang/IllegalArgumentException", kl_RL_17, by decide +kernel⟩), fun _ h => absurd h List.not_mem_nil⟩⟩) (by decide) (by decide) kl_RL_19 cc_IllegalStateException (fun q => ?_)
      refine sw_astore (pc := 21) hc dL_column_21 (by decide) (lv' := [(5, .ref q), (0, .ref (ad 0 0)), (1, .int x), (2, .int y), (3, .int h), (4, .int t)]) rfl ?_
      refine sw_bipush (pc := 23) (v := (-4)) hc dL_column_23 (by decide) ?_
      have he : (-4 : Int32) = if kColumn σ x y h t = 0 then 0 else x3 (kColumn σ x y h t) := by rw [if_neg (by rw [hk]; decide), hk]; decide
      exact sw_iret (pc := 25) hc hlk hrt rfl ⟨congrArg (fun zq => some (Value.int zq)) he, by rw [if_neg (by rw [hk]; decide)]; exact (GK.ph ho hK hn hPH).fr (rFr.sy (fr_column (by rw [hk]; decide)))⟩ (Nat.le_of_ble_eq_true rfl) (Nat.le_of_ble_eq_true rfl) dL_column_25
set_option maxHeartbeats 4000000 in
set_option maxRecDepth 100000 in
theorem c_L_submit (l : Launch) (g : sg_G) (C : Nat → Option va_E) (x0 : Nat) (σ : Mem) (K : va_W) (x : Int32) (y : Int32) (z : Int32) (hst : l.stackTraces = false) (hG : GK g x0 σ K C) : sg_MetH l yL_submit cL_submit 5 (some .int) [(0, 7, 8, 15), (0, 7, 13, 17), (0, 7, 18, 19)] 8 187 24 420 g [.ref x0, .int x, .int y, .int z] C (fun v C' => v = some (.int (if kSubmit σ (rSub σ x y z) x y z = 0 then vSubmit σ x y z else x3 (kSubmit σ (rSub σ x y z) x y z))) ∧ GK g x0 (if kSubmit σ (rSub σ x y z) x y z = 0 then fSubmit σ x y z else σ) K C') := by
  refine sg_ofWH (by decide) rfl ?_ (Nat.le_of_ble_eq_true rfl)
  intro p e s m below meth c hc hlk hrt htb
  have hc : sg_Cx p s m _ c cL_submit 5 RL g := hc
  obtain ⟨⟨ad, own, gh, hQ, hg, hW, rfl, ho⟩, hK, hn⟩ := hG
  show sg_W p l e _ s m _ below meth c 5 g 0 0 _ C 0 [(0, .ref (ad 0 0)), (1, .int x), (2, .int y), (3, .int z)] []
  refine sw_aload_n (pc := 0) hc dL_submit_0 rfl 0 rfl ?_
  refine sw_iload_n (pc := 1) hc dL_submit_1 rfl 1 rfl ?_
  refine sw_iload_n (pc := 2) hc dL_submit_2 rfl 2 rfl ?_
  refine sw_iload_n (pc := 3) hc dL_submit_3 rfl 3 rfl ?_
  refine sw_callV (pc := 4) (rest := []) hc (c_X7_submit l g C ad own gh σ x y z hQ hW hg hst) md_X7_submit ml_RL_25 im_X7_submit sl_X7_submit (hQ.at ct0) rfl rfl rfl (Nat.le_of_ble_eq_true rfl) dL_submit_4 ⟨Nat.le_of_ble_eq_true rfl, Nat.le_of_ble_eq_true rfl, Nat.le_of_ble_eq_true rfl, Nat.le_of_ble_eq_true rfl⟩ (fun v C1 hP => ?_) (fun E C1 hX => ?_)
  · obtain ⟨rfl, hk, hPH⟩ := hP
    have hk0 : kSubmit σ (rSub σ x y z) x y z = 0 := (z_kSubmit σ (rSub σ x y z) x y z).resolve_right hk
    refine sw_st (st' := [.int (vSubmit σ x y z)]) rfl ?_
    exact sw_iret (pc := 7) hc hlk hrt rfl ⟨congrArg (fun zq => some (Value.int zq)) (if_pos hk0).symm, by rw [if_pos hk0]; exact GK.ph ho hK hn hPH⟩ (Nat.le_of_ble_eq_true rfl) (Nat.le_of_ble_eq_true rfl) dL_submit_7
  · obtain ⟨hE, hPH⟩ := hX
    rcases hE with ⟨rfl, hk⟩ | ⟨rfl, hk⟩ | ⟨rfl, hk⟩
    · refine sx_catch (name := "java/lang/IndexOutOfBoundsException") hc [] ⟨0, 7, 8, 15⟩ [⟨0, 7, 13, 17⟩, ⟨0, 7, 18, 19⟩] (htb.trans rfl) (fun z hz => absurd hz List.not_mem_nil) (by decide) (by decide) kl_RL_15 cc_IndexOutOfBoundsException (fun q => ?_)
      refine sw_astore (pc := 8) hc dL_submit_8 (by decide) (lv' := [(4, .ref q), (0, .ref (ad 0 0)), (1, .int x), (2, .int y), (3, .int z)]) rfl ?_
      refine sw_bipush (pc := 10) (v := (-2)) hc dL_submit_10 (by decide) ?_
      have he : (-2 : Int32) = if kSubmit σ (rSub σ x y z) x y z = 0 then vSubmit σ x y z else x3 (kSubmit σ (rSub σ x y z) x y z) := by rw [if_neg (by rw [hk]; decide), hk]; decide
      exact sw_iret (pc := 12) hc hlk hrt rfl ⟨congrArg (fun zq => some (Value.int zq)) he, by rw [if_neg (by rw [hk]; decide)]; exact (GK.ph ho hK hn hPH).fr (rFr.sy (fr_submit (by rw [hk]; decide)))⟩ (Nat.le_of_ble_eq_true rfl) (Nat.le_of_ble_eq_true rfl) dL_submit_12
    · refine sx_catch (name := "java/lang/IllegalArgumentException") hc [⟨0, 7, 8, 15⟩] ⟨0, 7, 13, 17⟩ [⟨0, 7, 18, 19⟩] (htb.trans rfl) (List.forall_mem_cons.mpr ⟨(.inr ⟨by decide, "java/lang/IndexOutOfBoundsException", kl_RL_15, by decide +kernel⟩), fun _ h => absurd h List.not_mem_nil⟩) (by decide) (by decide) kl_RL_17 cc_IllegalArgumentException (fun q => ?_)
      refine sw_astore (pc := 13) hc dL_submit_13 (by decide) (lv' := [(4, .ref q), (0, .ref (ad 0 0)), (1, .int x), (2, .int y), (3, .int z)]) rfl ?_
      refine sw_bipush (pc := 15) (v := (-3)) hc dL_submit_15 (by decide) ?_
      have he : (-3 : Int32) = if kSubmit σ (rSub σ x y z) x y z = 0 then vSubmit σ x y z else x3 (kSubmit σ (rSub σ x y z) x y z) := by rw [if_neg (by rw [hk]; decide), hk]; decide
      exact sw_iret (pc := 17) hc hlk hrt rfl ⟨congrArg (fun zq => some (Value.int zq)) he, by rw [if_neg (by rw [hk]; decide)]; exact (GK.ph ho hK hn hPH).fr (rFr.sy (fr_submit (by rw [hk]; decide)))⟩ (Nat.le_of_ble_eq_true rfl) (Nat.le_of_ble_eq_true rfl) dL_submit_17
    · refine sx_catch (name := "java/lang/IllegalStateException") hc [⟨0, 7, 8, 15⟩, ⟨0, 7, 13, 17⟩] ⟨0, 7, 18, 19⟩ [] (htb.trans rfl) (List.forall_mem_cons.mpr ⟨(.inr ⟨by decide, "java/lang/IndexOutOfBoundsException", kl_RL_15, by decide +kernel⟩), List.forall_mem_cons.mpr ⟨(.inr ⟨by decide, "java/lang/IllegalArgumentException", kl_RL_17, by decide +kernel⟩), fun _ h => absurd h List.not_mem_nil⟩⟩) (by decide) (by decide) kl_RL_19 cc_IllegalStateException (fun q => ?_)
      refine sw_astore (pc := 18) hc dL_submit_18 (by decide) (lv' := [(4, .ref q), (0, .ref (ad 0 0)), (1, .int x), (2, .int y), (3, .int z)]) rfl ?_
      refine sw_bipush (pc := 20) (v := (-4)) hc dL_submit_20 (by decide) ?_
      have he : (-4 : Int32) = if kSubmit σ (rSub σ x y z) x y z = 0 then vSubmit σ x y z else x3 (kSubmit σ (rSub σ x y z) x y z) := by rw [if_neg (by rw [hk]; decide), hk]; decide
      exact sw_iret (pc := 22) hc hlk hrt rfl ⟨congrArg (fun zq => some (Value.int zq)) he, by rw [if_neg (by rw [hk]; decide)]; exact (GK.ph ho hK hn hPH).fr (rFr.sy (fr_submit (by rw [hk]; decide)))⟩ (Nat.le_of_ble_eq_true rfl) (Nat.le_of_ble_eq_true rfl) dL_submit_22
set_option maxHeartbeats 4000000 in
set_option maxRecDepth 100000 in
theorem c_L_rule (l : Launch) (g : sg_G) (C : Nat → Option va_E) (x0 : Nat) (σ : Mem) (K : va_W) (x : Int32) (d : Int32) (f : Int32) (pu : Int32) (j : Int32) (hst : l.stackTraces = false) (hG : GK g x0 σ K C) : sg_MetH l yL_rule cL_rule 7 (some .int) [(0, 11, 12, 15), (0, 11, 17, 17), (0, 11, 22, 19)] 8 187 24 420 g [.ref x0, .int x, .int d, .int f, .int pu, .int j] C (fun v C' => v = some (.int (if kRule σ x d f pu j = 0 then vRule σ x d f pu j else x3 (kRule σ x d f pu j))) ∧ GK g x0 (if kRule σ x d f pu j = 0 then fRule σ x d f pu j else σ) K C') := by
  refine sg_ofWH (by decide) rfl ?_ (Nat.le_of_ble_eq_true rfl)
  intro p e s m below meth c hc hlk hrt htb
  have hc : sg_Cx p s m _ c cL_rule 7 RL g := hc
  obtain ⟨⟨ad, own, gh, hQ, hg, hW, rfl, ho⟩, hK, hn⟩ := hG
  show sg_W p l e _ s m _ below meth c 7 g 0 0 _ C 0 [(0, .ref (ad 0 0)), (1, .int x), (2, .int d), (3, .int f), (4, .int pu), (5, .int j)] []
  refine sw_aload_n (pc := 0) hc dL_rule_0 rfl 0 rfl ?_
  refine sw_iload_n (pc := 1) hc dL_rule_1 rfl 1 rfl ?_
  refine sw_iload_n (pc := 2) hc dL_rule_2 rfl 2 rfl ?_
  refine sw_iload_n (pc := 3) hc dL_rule_3 rfl 3 rfl ?_
  refine sw_iload (pc := 4) hc dL_rule_4 4 rfl ?_
  refine sw_iload (pc := 6) hc dL_rule_6 5 rfl ?_
  refine sw_callV (pc := 8) (rest := []) hc (c_X7_rule l g C ad own gh σ x d f pu j hQ hW hg hst) md_X7_rule ml_RL_28 im_X7_rule sl_X7_rule (hQ.at ct0) rfl rfl rfl (Nat.le_of_ble_eq_true rfl) dL_rule_8 ⟨Nat.le_of_ble_eq_true rfl, Nat.le_of_ble_eq_true rfl, Nat.le_of_ble_eq_true rfl, Nat.le_of_ble_eq_true rfl⟩ (fun v C1 hP => ?_) (fun E C1 hX => ?_)
  · obtain ⟨rfl, hk, hPH⟩ := hP
    have hk0 : kRule σ x d f pu j = 0 := (z_kRule σ x d f pu j).resolve_right hk
    refine sw_st (st' := [.int (vRule σ x d f pu j)]) rfl ?_
    exact sw_iret (pc := 11) hc hlk hrt rfl ⟨congrArg (fun zq => some (Value.int zq)) (if_pos hk0).symm, by rw [if_pos hk0]; exact GK.ph ho hK hn hPH⟩ (Nat.le_of_ble_eq_true rfl) (Nat.le_of_ble_eq_true rfl) dL_rule_11
  · obtain ⟨hE, hPH⟩ := hX
    rcases hE with ⟨rfl, hk⟩ | ⟨rfl, hk⟩ | ⟨rfl, hk⟩
    · refine sx_catch (name := "java/lang/IndexOutOfBoundsException") hc [] ⟨0, 11, 12, 15⟩ [⟨0, 11, 17, 17⟩, ⟨0, 11, 22, 19⟩] (htb.trans rfl) (fun z hz => absurd hz List.not_mem_nil) (by decide) (by decide) kl_RL_15 cc_IndexOutOfBoundsException (fun q => ?_)
      refine sw_astore (pc := 12) hc dL_rule_12 (by decide) (lv' := [(6, .ref q), (0, .ref (ad 0 0)), (1, .int x), (2, .int d), (3, .int f), (4, .int pu), (5, .int j)]) rfl ?_
      refine sw_bipush (pc := 14) (v := (-2)) hc dL_rule_14 (by decide) ?_
      have he : (-2 : Int32) = if kRule σ x d f pu j = 0 then vRule σ x d f pu j else x3 (kRule σ x d f pu j) := by rw [if_neg (by rw [hk]; decide), hk]; decide
      exact sw_iret (pc := 16) hc hlk hrt rfl ⟨congrArg (fun zq => some (Value.int zq)) he, by rw [if_neg (by rw [hk]; decide)]; exact (GK.ph ho hK hn hPH).fr (rFr.sy (fr_rule (by rw [hk]; decide)))⟩ (Nat.le_of_ble_eq_true rfl) (Nat.le_of_ble_eq_true rfl) dL_rule_16
    · refine sx_catch (name := "java/lang/IllegalArgumentException") hc [⟨0, 11, 12, 15⟩] ⟨0, 11, 17, 17⟩ [⟨0, 11, 22, 19⟩] (htb.trans rfl) (List.forall_mem_cons.mpr ⟨(.inr ⟨by decide, "java/lang/IndexOutOfBoundsException", kl_RL_15, by decide +kernel⟩), fun _ h => absurd h List.not_mem_nil⟩) (by decide) (by decide) kl_RL_17 cc_IllegalArgumentException (fun q => ?_)
      refine sw_astore (pc := 17) hc dL_rule_17 (by decide) (lv' := [(6, .ref q), (0, .ref (ad 0 0)), (1, .int x), (2, .int d), (3, .int f), (4, .int pu), (5, .int j)]) rfl ?_
      refine sw_bipush (pc := 19) (v := (-3)) hc dL_rule_19 (by decide) ?_
      have he : (-3 : Int32) = if kRule σ x d f pu j = 0 then vRule σ x d f pu j else x3 (kRule σ x d f pu j) := by rw [if_neg (by rw [hk]; decide), hk]; decide
      exact sw_iret (pc := 21) hc hlk hrt rfl ⟨congrArg (fun zq => some (Value.int zq)) he, by rw [if_neg (by rw [hk]; decide)]; exact (GK.ph ho hK hn hPH).fr (rFr.sy (fr_rule (by rw [hk]; decide)))⟩ (Nat.le_of_ble_eq_true rfl) (Nat.le_of_ble_eq_true rfl) dL_rule_21
    · refine sx_catch (name := "java/lang/IllegalStateException") hc [⟨0, 11, 12, 15⟩, ⟨0, 11, 17, 17⟩] ⟨0, 11, 22, 19⟩ [] (htb.trans rfl) (List.forall_mem_cons.mpr ⟨(.inr ⟨by decide, "java/lang/IndexOutOfBoundsException", kl_RL_15, by decide +kernel⟩), List.forall_mem_cons.mpr ⟨(.inr ⟨by decide, "java/lang/IllegalArgumentException", kl_RL_17, by decide +kernel⟩), fun _ h => absurd h List.not_mem_nil⟩⟩) (by decide) (by decide) kl_RL_19 cc_IllegalStateException (fun q => ?_)
      refine sw_astore (pc := 22) hc dL_rule_22 (by decide) (lv' := [(6, .ref q), (0, .ref (ad 0 0)), (1, .int x), (2, .int d), (3, .int f), (4, .int pu), (5, .int j)]) rfl ?_
      refine sw_bipush (pc := 24) (v := (-4)) hc dL_rule_24 (by decide) ?_
      have he : (-4 : Int32) = if kRule σ x d f pu j = 0 then vRule σ x d f pu j else x3 (kRule σ x d f pu j) := by rw [if_neg (by rw [hk]; decide), hk]; decide
      exact sw_iret (pc := 26) hc hlk hrt rfl ⟨congrArg (fun zq => some (Value.int zq)) he, by rw [if_neg (by rw [hk]; decide)]; exact (GK.ph ho hK hn hPH).fr (rFr.sy (fr_rule (by rw [hk]; decide)))⟩ (Nat.le_of_ble_eq_true rfl) (Nat.le_of_ble_eq_true rfl) dL_rule_26
set_option maxHeartbeats 4000000 in
set_option maxRecDepth 100000 in
theorem c_L_offer (l : Launch) (g : sg_G) (C : Nat → Option va_E) (x0 : Nat) (σ : Mem) (K : va_W) (x : Int32) (y : Int32) (hst : l.stackTraces = false) (hG : GK g x0 σ K C) : sg_MetH l yL_offer cL_offer 4 (some .int) [(0, 6, 7, 15), (0, 6, 11, 19)] 8 184 24 420 g [.ref x0, .int x, .int y] C (fun v C' => v = some (.int (if kOffer σ x y = 0 then vOffer σ x y else x2 (kOffer σ x y))) ∧ GK g x0 (if kOffer σ x y = 0 then fOffer σ x y else σ) K C') := by
  refine sg_ofWH (by decide) rfl ?_ (Nat.le_of_ble_eq_true rfl)
  intro p e s m below meth c hc hlk hrt htb
  have hc : sg_Cx p s m _ c cL_offer 4 RL g := hc
  obtain ⟨⟨ad, own, gh, hQ, hg, hW, rfl, ho⟩, hK, hn⟩ := hG
  show sg_W p l e _ s m _ below meth c 4 g 0 0 _ C 0 [(0, .ref (ad 0 0)), (1, .int x), (2, .int y)] []
  refine sw_aload_n (pc := 0) hc dL_offer_0 rfl 0 rfl ?_
  refine sw_iload_n (pc := 1) hc dL_offer_1 rfl 1 rfl ?_
  refine sw_iload_n (pc := 2) hc dL_offer_2 rfl 2 rfl ?_
  refine sw_callV (pc := 3) (rest := []) hc (c_X7_offer l g C ad own gh σ x y hQ hW hg hst) md_X7_offer ml_RL_32 im_X7_offer sl_X7_offer (hQ.at ct0) rfl rfl rfl (Nat.le_of_ble_eq_true rfl) dL_offer_3 ⟨Nat.le_of_ble_eq_true rfl, Nat.le_of_ble_eq_true rfl, Nat.le_of_ble_eq_true rfl, Nat.le_of_ble_eq_true rfl⟩ (fun v C1 hP => ?_) (fun E C1 hX => ?_)
  · obtain ⟨rfl, hk, hPH⟩ := hP
    have hk0 : kOffer σ x y = 0 := (z_kOffer σ x y).resolve_right hk
    refine sw_st (st' := [.int (vOffer σ x y)]) rfl ?_
    exact sw_iret (pc := 6) hc hlk hrt rfl ⟨congrArg (fun zq => some (Value.int zq)) (if_pos hk0).symm, by rw [if_pos hk0]; exact GK.ph ho hK hn hPH⟩ (Nat.le_of_ble_eq_true rfl) (Nat.le_of_ble_eq_true rfl) dL_offer_6
  · obtain ⟨hE, hPH⟩ := hX
    rcases hE with ⟨rfl, hk⟩ | ⟨rfl, hk⟩
    · refine sx_catch (name := "java/lang/IndexOutOfBoundsException") hc [] ⟨0, 6, 7, 15⟩ [⟨0, 6, 11, 19⟩] (htb.trans rfl) (fun z hz => absurd hz List.not_mem_nil) (by decide) (by decide) kl_RL_15 cc_IndexOutOfBoundsException (fun q => ?_)
      refine sw_astore_n (pc := 7) hc dL_offer_7 rfl (by decide) (lv' := [(3, .ref q), (0, .ref (ad 0 0)), (1, .int x), (2, .int y)]) rfl ?_
      refine sw_bipush (pc := 8) (v := (-2)) hc dL_offer_8 (by decide) ?_
      have he : (-2 : Int32) = if kOffer σ x y = 0 then vOffer σ x y else x2 (kOffer σ x y) := by rw [if_neg (by rw [hk]; decide), hk]; decide
      exact sw_iret (pc := 10) hc hlk hrt rfl ⟨congrArg (fun zq => some (Value.int zq)) he, by rw [if_neg (by rw [hk]; decide)]; exact (GK.ph ho hK hn hPH).fr (rFr.sy (fr_offer (by rw [hk]; decide)))⟩ (Nat.le_of_ble_eq_true rfl) (Nat.le_of_ble_eq_true rfl) dL_offer_10
    · refine sx_catch (name := "java/lang/IllegalStateException") hc [⟨0, 6, 7, 15⟩] ⟨0, 6, 11, 19⟩ [] (htb.trans rfl) (List.forall_mem_cons.mpr ⟨(.inr ⟨by decide, "java/lang/IndexOutOfBoundsException", kl_RL_15, by decide +kernel⟩), fun _ h => absurd h List.not_mem_nil⟩) (by decide) (by decide) kl_RL_19 cc_IllegalStateException (fun q => ?_)
      refine sw_astore_n (pc := 11) hc dL_offer_11 rfl (by decide) (lv' := [(3, .ref q), (0, .ref (ad 0 0)), (1, .int x), (2, .int y)]) rfl ?_
      refine sw_bipush (pc := 12) (v := (-4)) hc dL_offer_12 (by decide) ?_
      have he : (-4 : Int32) = if kOffer σ x y = 0 then vOffer σ x y else x2 (kOffer σ x y) := by rw [if_neg (by rw [hk]; decide), hk]; decide
      exact sw_iret (pc := 14) hc hlk hrt rfl ⟨congrArg (fun zq => some (Value.int zq)) he, by rw [if_neg (by rw [hk]; decide)]; exact (GK.ph ho hK hn hPH).fr (rFr.sy (fr_offer (by rw [hk]; decide)))⟩ (Nat.le_of_ble_eq_true rfl) (Nat.le_of_ble_eq_true rfl) dL_offer_14
set_option maxHeartbeats 4000000 in
set_option maxRecDepth 100000 in
theorem c_L_gift (l : Launch) (g : sg_G) (C : Nat → Option va_E) (x0 : Nat) (σ : Mem) (K : va_W) (x : Int32) (a : Int32) (hst : l.stackTraces = false) (hG : GK g x0 σ K C) : sg_MetH l yL_gift cL_gift 4 (some .int) [(0, 6, 7, 15), (0, 6, 11, 17), (0, 6, 15, 19)] 8 179 16 96 g [.ref x0, .int x, .int a] C (fun v C' => v = some (.int (if kGift σ x a = 0 then vGift σ x a else x3 (kGift σ x a))) ∧ GK g x0 (if kGift σ x a = 0 then fGift σ x a else σ) K C') := by
  refine sg_ofWH (by decide) rfl ?_ (Nat.le_of_ble_eq_true rfl)
  intro p e s m below meth c hc hlk hrt htb
  have hc : sg_Cx p s m _ c cL_gift 4 RL g := hc
  obtain ⟨⟨ad, own, gh, hQ, hg, hW, rfl, ho⟩, hK, hn⟩ := hG
  show sg_W p l e _ s m _ below meth c 4 g 0 0 _ C 0 [(0, .ref (ad 0 0)), (1, .int x), (2, .int a)] []
  refine sw_aload_n (pc := 0) hc dL_gift_0 rfl 0 rfl ?_
  refine sw_iload_n (pc := 1) hc dL_gift_1 rfl 1 rfl ?_
  refine sw_iload_n (pc := 2) hc dL_gift_2 rfl 2 rfl ?_
  refine sw_callV (pc := 3) (rest := []) hc (c_X7_gift l g C ad own gh σ x a hQ hW hg hst) md_X7_gift ml_RL_36 im_X7_gift sl_X7_gift (hQ.at ct0) rfl rfl rfl (Nat.le_of_ble_eq_true rfl) dL_gift_3 ⟨Nat.le_of_ble_eq_true rfl, Nat.le_of_ble_eq_true rfl, Nat.le_of_ble_eq_true rfl, Nat.le_of_ble_eq_true rfl⟩ (fun v C1 hP => ?_) (fun E C1 hX => ?_)
  · obtain ⟨rfl, hk, hPH⟩ := hP
    have hk0 : kGift σ x a = 0 := (z_kGift σ x a).resolve_right hk
    refine sw_st (st' := [.int (vGift σ x a)]) rfl ?_
    exact sw_iret (pc := 6) hc hlk hrt rfl ⟨congrArg (fun zq => some (Value.int zq)) (if_pos hk0).symm, by rw [if_pos hk0]; exact GK.ph ho hK hn hPH⟩ (Nat.le_of_ble_eq_true rfl) (Nat.le_of_ble_eq_true rfl) dL_gift_6
  · obtain ⟨hE, hPH⟩ := hX
    rcases hE with ⟨rfl, hk⟩ | ⟨rfl, hk⟩ | ⟨rfl, hk⟩
    · refine sx_catch (name := "java/lang/IndexOutOfBoundsException") hc [] ⟨0, 6, 7, 15⟩ [⟨0, 6, 11, 17⟩, ⟨0, 6, 15, 19⟩] (htb.trans rfl) (fun z hz => absurd hz List.not_mem_nil) (by decide) (by decide) kl_RL_15 cc_IndexOutOfBoundsException (fun q => ?_)
      refine sw_astore_n (pc := 7) hc dL_gift_7 rfl (by decide) (lv' := [(3, .ref q), (0, .ref (ad 0 0)), (1, .int x), (2, .int a)]) rfl ?_
      refine sw_bipush (pc := 8) (v := (-2)) hc dL_gift_8 (by decide) ?_
      have he : (-2 : Int32) = if kGift σ x a = 0 then vGift σ x a else x3 (kGift σ x a) := by rw [if_neg (by rw [hk]; decide), hk]; decide
      exact sw_iret (pc := 10) hc hlk hrt rfl ⟨congrArg (fun zq => some (Value.int zq)) he, by rw [if_neg (by rw [hk]; decide)]; exact (GK.ph ho hK hn hPH).fr (rFr.sy (fr_gift (by rw [hk]; decide)))⟩ (Nat.le_of_ble_eq_true rfl) (Nat.le_of_ble_eq_true rfl) dL_gift_10
    · refine sx_catch (name := "java/lang/IllegalArgumentException") hc [⟨0, 6, 7, 15⟩] ⟨0, 6, 11, 17⟩ [⟨0, 6, 15, 19⟩] (htb.trans rfl) (List.forall_mem_cons.mpr ⟨(.inr ⟨by decide, "java/lang/IndexOutOfBoundsException", kl_RL_15, by decide +kernel⟩), fun _ h => absurd h List.not_mem_nil⟩) (by decide) (by decide) kl_RL_17 cc_IllegalArgumentException (fun q => ?_)
      refine sw_astore_n (pc := 11) hc dL_gift_11 rfl (by decide) (lv' := [(3, .ref q), (0, .ref (ad 0 0)), (1, .int x), (2, .int a)]) rfl ?_
      refine sw_bipush (pc := 12) (v := (-3)) hc dL_gift_12 (by decide) ?_
      have he : (-3 : Int32) = if kGift σ x a = 0 then vGift σ x a else x3 (kGift σ x a) := by rw [if_neg (by rw [hk]; decide), hk]; decide
      exact sw_iret (pc := 14) hc hlk hrt rfl ⟨congrArg (fun zq => some (Value.int zq)) he, by rw [if_neg (by rw [hk]; decide)]; exact (GK.ph ho hK hn hPH).fr (rFr.sy (fr_gift (by rw [hk]; decide)))⟩ (Nat.le_of_ble_eq_true rfl) (Nat.le_of_ble_eq_true rfl) dL_gift_14
    · refine sx_catch (name := "java/lang/IllegalStateException") hc [⟨0, 6, 7, 15⟩, ⟨0, 6, 11, 17⟩] ⟨0, 6, 15, 19⟩ [] (htb.trans rfl) (List.forall_mem_cons.mpr ⟨(.inr ⟨by decide, "java/lang/IndexOutOfBoundsException", kl_RL_15, by decide +kernel⟩), List.forall_mem_cons.mpr ⟨(.inr ⟨by decide, "java/lang/IllegalArgumentException", kl_RL_17, by decide +kernel⟩), fun _ h => absurd h List.not_mem_nil⟩⟩) (by decide) (by decide) kl_RL_19 cc_IllegalStateException (fun q => ?_)
      refine sw_astore_n (pc := 15) hc dL_gift_15 rfl (by decide) (lv' := [(3, .ref q), (0, .ref (ad 0 0)), (1, .int x), (2, .int a)]) rfl ?_
      refine sw_bipush (pc := 16) (v := (-4)) hc dL_gift_16 (by decide) ?_
      have he : (-4 : Int32) = if kGift σ x a = 0 then vGift σ x a else x3 (kGift σ x a) := by rw [if_neg (by rw [hk]; decide), hk]; decide
      exact sw_iret (pc := 18) hc hlk hrt rfl ⟨congrArg (fun zq => some (Value.int zq)) he, by rw [if_neg (by rw [hk]; decide)]; exact (GK.ph ho hK hn hPH).fr (rFr.sy (fr_gift (by rw [hk]; decide)))⟩ (Nat.le_of_ble_eq_true rfl) (Nat.le_of_ble_eq_true rfl) dL_gift_18
set_option maxHeartbeats 4000000 in
set_option maxRecDepth 100000 in
theorem c_L_pass (l : Launch) (g : sg_G) (C : Nat → Option va_E) (x0 : Nat) (σ : Mem) (K : va_W) (x : Int32) (hst : l.stackTraces = false) (hG : GK g x0 σ K C) : sg_MetH l yL_pass cL_pass 3 (some .int) [(0, 5, 6, 17), (0, 5, 10, 19)] 8 123 16 96 g [.ref x0, .int x] C (fun v C' => v = some (.int (if kPass σ x = 0 then vPass σ x else xp (kPass σ x))) ∧ GK g x0 (if kPass σ x = 0 then fPass σ x else σ) K C') := by
  refine sg_ofWH (by decide) rfl ?_ (Nat.le_of_ble_eq_true rfl)
  intro p e s m below meth c hc hlk hrt htb
  have hc : sg_Cx p s m _ c cL_pass 3 RL g := hc
  obtain ⟨⟨ad, own, gh, hQ, hg, hW, rfl, ho⟩, hK, hn⟩ := hG
  show sg_W p l e _ s m _ below meth c 3 g 0 0 _ C 0 [(0, .ref (ad 0 0)), (1, .int x)] []
  refine sw_aload_n (pc := 0) hc dL_pass_0 rfl 0 rfl ?_
  refine sw_iload_n (pc := 1) hc dL_pass_1 rfl 1 rfl ?_
  refine sw_callV (pc := 2) (rest := []) hc (c_X7_pass l g C ad own gh σ x hQ hW hg hst) md_X7_pass ml_RL_39 im_X7_pass sl_X7_pass (hQ.at ct0) rfl rfl rfl (Nat.le_of_ble_eq_true rfl) dL_pass_2 ⟨Nat.le_of_ble_eq_true rfl, Nat.le_of_ble_eq_true rfl, Nat.le_of_ble_eq_true rfl, Nat.le_of_ble_eq_true rfl⟩ (fun v C1 hP => ?_) (fun E C1 hX => ?_)
  · obtain ⟨rfl, hk, hPH⟩ := hP
    have hk0 : kPass σ x = 0 := (z_kPass σ x).resolve_right hk
    refine sw_st (st' := [.int (vPass σ x)]) rfl ?_
    exact sw_iret (pc := 5) hc hlk hrt rfl ⟨congrArg (fun zq => some (Value.int zq)) (if_pos hk0).symm, by rw [if_pos hk0]; exact GK.ph ho hK hn hPH⟩ (Nat.le_of_ble_eq_true rfl) (Nat.le_of_ble_eq_true rfl) dL_pass_5
  · obtain ⟨hE, hPH⟩ := hX
    rcases hE with ⟨rfl, hk⟩ | ⟨rfl, hk⟩
    · refine sx_catch (name := "java/lang/IllegalArgumentException") hc [] ⟨0, 5, 6, 17⟩ [⟨0, 5, 10, 19⟩] (htb.trans rfl) (fun z hz => absurd hz List.not_mem_nil) (by decide) (by decide) kl_RL_17 cc_IllegalArgumentException (fun q => ?_)
      refine sw_astore_n (pc := 6) hc dL_pass_6 rfl (by decide) (lv' := [(2, .ref q), (0, .ref (ad 0 0)), (1, .int x)]) rfl ?_
      refine sw_bipush (pc := 7) (v := (-3)) hc dL_pass_7 (by decide) ?_
      have he : (-3 : Int32) = if kPass σ x = 0 then vPass σ x else xp (kPass σ x) := by rw [if_neg (by rw [hk]; decide), hk]; decide
      exact sw_iret (pc := 9) hc hlk hrt rfl ⟨congrArg (fun zq => some (Value.int zq)) he, by rw [if_neg (by rw [hk]; decide)]; exact (GK.ph ho hK hn hPH).fr (rFr.sy (fr_pass (by rw [hk]; decide)))⟩ (Nat.le_of_ble_eq_true rfl) (Nat.le_of_ble_eq_true rfl) dL_pass_9
    · refine sx_catch (name := "java/lang/IllegalStateException") hc [⟨0, 5, 6, 17⟩] ⟨0, 5, 10, 19⟩ [] (htb.trans rfl) (List.forall_mem_cons.mpr ⟨(.inr ⟨by decide, "java/lang/IllegalArgumentException", kl_RL_17, by decide +kernel⟩), fun _ h => absurd h List.not_mem_nil⟩) (by decide) (by decide) kl_RL_19 cc_IllegalStateException (fun q => ?_)
      refine sw_astore_n (pc := 10) hc dL_pass_10 rfl (by decide) (lv' := [(2, .ref q), (0, .ref (ad 0 0)), (1, .int x)]) rfl ?_
      refine sw_bipush (pc := 11) (v := (-4)) hc dL_pass_11 (by decide) ?_
      have he : (-4 : Int32) = if kPass σ x = 0 then vPass σ x else xp (kPass σ x) := by rw [if_neg (by rw [hk]; decide), hk]; decide
      exact sw_iret (pc := 13) hc hlk hrt rfl ⟨congrArg (fun zq => some (Value.int zq)) he, by rw [if_neg (by rw [hk]; decide)]; exact (GK.ph ho hK hn hPH).fr (rFr.sy (fr_pass (by rw [hk]; decide)))⟩ (Nat.le_of_ble_eq_true rfl) (Nat.le_of_ble_eq_true rfl) dL_pass_13
set_option maxHeartbeats 4000000 in
set_option maxRecDepth 100000 in
theorem c_L_judged (l : Launch) (g : sg_G) (C : Nat → Option va_E) (x0 : Nat) (σ : Mem) (K : va_W) (x : Int32) (hst : l.stackTraces = false) (hG : GK g x0 σ K C) : sg_MetH l yL_judged cL_judged 3 (some .int) [(0, 5, 6, 15)] 8 134 16 96 g [.ref x0, .int x] C (fun v C' => v = some (.int (if kIn σ 26 x = 0 then vJudged σ x else x1 (kIn σ 26 x))) ∧ GK g x0 σ K C') := by
  refine sg_ofWH (by decide) rfl ?_ (Nat.le_of_ble_eq_true rfl)
  intro p e s m below meth c hc hlk hrt htb
  have hc : sg_Cx p s m _ c cL_judged 3 RL g := hc
  obtain ⟨⟨ad, own, gh, hQ, hg, hW, rfl, ho⟩, hK, hn⟩ := hG
  show sg_W p l e _ s m _ below meth c 3 g 0 0 _ C 0 [(0, .ref (ad 0 0)), (1, .int x)] []
  refine sw_aload_n (pc := 0) hc dL_judged_0 rfl 0 rfl ?_
  refine sw_iload_n (pc := 1) hc dL_judged_1 rfl 1 rfl ?_
  refine sw_callV (pc := 2) (rest := []) hc (c_X7_judged l g C ad own gh σ x hQ hW hg hst) md_X7_judged ml_RL_43 im_X7_judged sl_X7_judged (hQ.at ct0) rfl rfl rfl (Nat.le_of_ble_eq_true rfl) dL_judged_2 ⟨Nat.le_of_ble_eq_true rfl, Nat.le_of_ble_eq_true rfl, Nat.le_of_ble_eq_true rfl, Nat.le_of_ble_eq_true rfl⟩ (fun v C1 hP => ?_) (fun E C1 hX => ?_)
  · obtain ⟨rfl, hk, hPH⟩ := hP
    have hk0 : kIn σ 26 x = 0 := (z_kIn σ 26 x).resolve_right hk
    refine sw_st (st' := [.int (vJudged σ x)]) rfl ?_
    exact sw_iret (pc := 5) hc hlk hrt rfl ⟨congrArg (fun zq => some (Value.int zq)) (if_pos hk0).symm, (GK.ph ho hK hn hPH).fr (rFr.sy (f42 _))⟩ (Nat.le_of_ble_eq_true rfl) (Nat.le_of_ble_eq_true rfl) dL_judged_5
  · obtain ⟨hE, hPH⟩ := hX
    obtain ⟨rfl, hk⟩ := hE
    refine sx_catch (name := "java/lang/IndexOutOfBoundsException") hc [] ⟨0, 5, 6, 15⟩ [] (htb.trans rfl) (fun z hz => absurd hz List.not_mem_nil) (by decide) (by decide) kl_RL_15 cc_IndexOutOfBoundsException (fun q => ?_)
    refine sw_astore_n (pc := 6) hc dL_judged_6 rfl (by decide) (lv' := [(2, .ref q), (0, .ref (ad 0 0)), (1, .int x)]) rfl ?_
    refine sw_bipush (pc := 7) (v := (-2)) hc dL_judged_7 (by decide) ?_
    have he : (-2 : Int32) = if kIn σ 26 x = 0 then vJudged σ x else x1 (kIn σ 26 x) := by rw [if_neg (by rw [hk]; decide), hk]; decide
    exact sw_iret (pc := 9) hc hlk hrt rfl ⟨congrArg (fun zq => some (Value.int zq)) he, (GK.ph ho hK hn hPH).fr (rFr.sy (f42 _))⟩ (Nat.le_of_ble_eq_true rfl) (Nat.le_of_ble_eq_true rfl) dL_judged_9
set_option maxHeartbeats 4000000 in
set_option maxRecDepth 100000 in
theorem c_L_plan (l : Launch) (g : sg_G) (C : Nat → Option va_E) (x0 : Nat) (σ : Mem) (K : va_W) (x : Int32) (hst : l.stackTraces = false) (hG : GK g x0 σ K C) : sg_MetH l yL_plan cL_plan 3 (some .int) [(0, 5, 6, 17)] 10 228 16 96 g [.ref x0, .int x] C (fun v C' => v = some (.int (if kPlan x = 0 then vPlan σ x else xa (kPlan x))) ∧ GK g x0 σ K C') := by
  refine sg_ofWH (by decide) rfl ?_ (Nat.le_of_ble_eq_true rfl)
  intro p e s m below meth c hc hlk hrt htb
  have hc : sg_Cx p s m _ c cL_plan 3 RL g := hc
  obtain ⟨⟨ad, own, gh, hQ, hg, hW, rfl, ho⟩, hK, hn⟩ := hG
  show sg_W p l e _ s m _ below meth c 3 g 0 0 _ C 0 [(0, .ref (ad 0 0)), (1, .int x)] []
  refine sw_aload_n (pc := 0) hc dL_plan_0 rfl 0 rfl ?_
  refine sw_iload_n (pc := 1) hc dL_plan_1 rfl 1 rfl ?_
  refine sw_callV (pc := 2) (rest := []) hc (c_X7_plan l g C ad own gh σ x hQ hW hg hst) md_X7_plan ml_RL_46 im_X7_plan sl_X7_plan (hQ.at ct0) rfl rfl rfl (Nat.le_of_ble_eq_true rfl) dL_plan_2 ⟨Nat.le_of_ble_eq_true rfl, Nat.le_of_ble_eq_true rfl, Nat.le_of_ble_eq_true rfl, Nat.le_of_ble_eq_true rfl⟩ (fun v C1 hP => ?_) (fun E C1 hX => ?_)
  · obtain ⟨rfl, hk, hPH⟩ := hP
    have hk0 : kPlan x = 0 := (z_kPlan x).resolve_right hk
    refine sw_st (st' := [.int (vPlan σ x)]) rfl ?_
    exact sw_iret (pc := 5) hc hlk hrt rfl ⟨congrArg (fun zq => some (Value.int zq)) (if_pos hk0).symm, (GK.ph ho hK hn hPH).fr (rFr.sy (f42 _))⟩ (Nat.le_of_ble_eq_true rfl) (Nat.le_of_ble_eq_true rfl) dL_plan_5
  · obtain ⟨hE, hPH⟩ := hX
    obtain ⟨rfl, hk⟩ := hE
    refine sx_catch (name := "java/lang/IllegalArgumentException") hc [] ⟨0, 5, 6, 17⟩ [] (htb.trans rfl) (fun z hz => absurd hz List.not_mem_nil) (by decide) (by decide) kl_RL_17 cc_IllegalArgumentException (fun q => ?_)
    refine sw_astore_n (pc := 6) hc dL_plan_6 rfl (by decide) (lv' := [(2, .ref q), (0, .ref (ad 0 0)), (1, .int x)]) rfl ?_
    refine sw_bipush (pc := 7) (v := (-3)) hc dL_plan_7 (by decide) ?_
    have he : (-3 : Int32) = if kPlan x = 0 then vPlan σ x else xa (kPlan x) := by rw [if_neg (by rw [hk]; decide), hk]; decide
    exact sw_iret (pc := 9) hc hlk hrt rfl ⟨congrArg (fun zq => some (Value.int zq)) he, (GK.ph ho hK hn hPH).fr (rFr.sy (f42 _))⟩ (Nat.le_of_ble_eq_true rfl) (Nat.le_of_ble_eq_true rfl) dL_plan_9
set_option maxHeartbeats 4000000 in
set_option maxRecDepth 100000 in
theorem c_L_at (l : Launch) (g : sg_G) (C : Nat → Option va_E) (x0 : Nat) (σ : Mem) (K : va_W) (x : Int32) (z : Int32) (hst : l.stackTraces = false) (hG : GK g x0 σ K C) : sg_MetH l yL_at cL_at 4 (some .int) [(0, 6, 7, 15)] 9 205 16 96 g [.ref x0, .int x, .int z] C (fun v C' => v = some (.int (if kAt σ x z = 0 then vAt σ x z else x1 (kAt σ x z))) ∧ GK g x0 σ K C') := by
  refine sg_ofWH (by decide) rfl ?_ (Nat.le_of_ble_eq_true rfl)
  intro p e s m below meth c hc hlk hrt htb
  have hc : sg_Cx p s m _ c cL_at 4 RL g := hc
  obtain ⟨⟨ad, own, gh, hQ, hg, hW, rfl, ho⟩, hK, hn⟩ := hG
  show sg_W p l e _ s m _ below meth c 4 g 0 0 _ C 0 [(0, .ref (ad 0 0)), (1, .int x), (2, .int z)] []
  refine sw_aload_n (pc := 0) hc dL_at_0 rfl 0 rfl ?_
  refine sw_iload_n (pc := 1) hc dL_at_1 rfl 1 rfl ?_
  refine sw_iload_n (pc := 2) hc dL_at_2 rfl 2 rfl ?_
  refine sw_callV (pc := 3) (rest := []) hc (c_X7_at l g C ad own gh σ x z hQ hW hg hst) md_X7_at ml_RL_49 im_X7_at sl_X7_at (hQ.at ct0) rfl rfl rfl (Nat.le_of_ble_eq_true rfl) dL_at_3 ⟨Nat.le_of_ble_eq_true rfl, Nat.le_of_ble_eq_true rfl, Nat.le_of_ble_eq_true rfl, Nat.le_of_ble_eq_true rfl⟩ (fun v C1 hP => ?_) (fun E C1 hX => ?_)
  · obtain ⟨rfl, hk, hPH⟩ := hP
    have hk0 : kAt σ x z = 0 := (z_kAt σ x z).resolve_right hk
    refine sw_st (st' := [.int (vAt σ x z)]) rfl ?_
    exact sw_iret (pc := 6) hc hlk hrt rfl ⟨congrArg (fun zq => some (Value.int zq)) (if_pos hk0).symm, (GK.ph ho hK hn hPH).fr (rFr.sy (f42 _))⟩ (Nat.le_of_ble_eq_true rfl) (Nat.le_of_ble_eq_true rfl) dL_at_6
  · obtain ⟨hE, hPH⟩ := hX
    obtain ⟨rfl, hk⟩ := hE
    refine sx_catch (name := "java/lang/IndexOutOfBoundsException") hc [] ⟨0, 6, 7, 15⟩ [] (htb.trans rfl) (fun z hz => absurd hz List.not_mem_nil) (by decide) (by decide) kl_RL_15 cc_IndexOutOfBoundsException (fun q => ?_)
    refine sw_astore_n (pc := 7) hc dL_at_7 rfl (by decide) (lv' := [(3, .ref q), (0, .ref (ad 0 0)), (1, .int x), (2, .int z)]) rfl ?_
    refine sw_bipush (pc := 8) (v := (-2)) hc dL_at_8 (by decide) ?_
    have he : (-2 : Int32) = if kAt σ x z = 0 then vAt σ x z else x1 (kAt σ x z) := by rw [if_neg (by rw [hk]; decide), hk]; decide
    exact sw_iret (pc := 10) hc hlk hrt rfl ⟨congrArg (fun zq => some (Value.int zq)) he, (GK.ph ho hK hn hPH).fr (rFr.sy (f42 _))⟩ (Nat.le_of_ble_eq_true rfl) (Nat.le_of_ble_eq_true rfl) dL_at_10
