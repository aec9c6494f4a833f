/-! the law's body -/
theorem st2_back {σ : Mem} {k i : Nat} {v : Int32} : st2 (st2 σ k i v) k i (σ k i) = σ := by
  funext k' i'
  by_cases q : k' = k
  · subst q
    by_cases q2 : i' = i
    · subst q2; exact st2_ss
    · rw [st2_i q2, st2_i q2]
  · rw [st2_x (beq_f q), st2_x (beq_f q)]
theorem strike_2 {σ : Mem} {r : Nat} (hW : WX σ) : st2 (st2 σ 21 r (1 - σ 21 r)) 21 r (1 - st2 σ 21 r (1 - σ 21 r) 21 r) = σ := by
  have e : 1 - st2 σ 21 r (1 - σ 21 r) 21 r = σ 21 r := by
    rw [st2_ss]
    rcases hW.2.2.2.2.1.2 r with h | h <;> rw [h] <;> decide
  rw [e]
  exact st2_back
theorem lawI_st {σ : Mem} {r k : Nat} {v : Int32} : rLawI (st2 σ 21 r v) k = rLawI σ k := by
  have h : ∀ (a : Nat) (d : Int32) n, rLaw (st2 σ 21 r v) a d n = rLaw σ a d n := by
    intro a d n
    induction n with
    | zero => rfl
    | succ n ih =>
      unfold rLaw
      rw [ih]
      rfl
  exact h _ _ _
theorem ref_st {σ : Mem} {r k : Nat} {v : Int32} : rRef (st2 σ 21 r v) k ↔ rRef σ k := by
  show (0 ≤ rLawI (st2 σ 21 r v) k ∧ rBad (st2 σ 21 r v) k (iN (rLawI (st2 σ 21 r v) k))) ↔ (0 ≤ rLawI σ k ∧ rBad σ k (iN (rLawI σ k)))
  rw [lawI_st]
  exact Iff.rfl
theorem jd_st {σ : Mem} {r : Nat} {v : Int32} : rJd (st2 σ 21 r v) r = bI (rRef σ r) + 2 * v := by
  unfold rJd
  rw [st2_ss]
  refine congrArg (fun z => z + 2 * v) ?_
  unfold bI
  exact ite_c ref_st rfl rfl
theorem tellF_j {σ : Mem} {r : Nat} (hr : r < iN (σ 26 0)) (h24 : r < 24) : tellF σ r = rJd σ r := by
  unfold tellF
  rw [pk_un (by omega), pk_un (by omega), pk_un (by omega), pk_un (by omega), pk_un (by omega), pk_un (by omega), pk_un (by omega), pk_un (by omega), pk_un (by omega), pk_un (by omega)]
  exact if_pos hr
theorem z_fin {σ : Mem} : (if kPlan (-1) = 0 then vPlan σ (-1) else xa (kPlan (-1))) = -3 ∧ (if kPlan 10001 = 0 then vPlan σ 10001 else xa (kPlan 10001)) = -3 := ⟨by rw [if_neg (by decide)]; rfl, by rw [if_neg (by decide)]; rfl⟩
theorem k_pass {σ : Mem} {x : Int32} (h : ¬ rRngP x) : kPass σ x = 1 := if_pos h
theorem k_sub {σ υ : Mem} (h9 : σ 9 0 = 4) : kSubmit σ υ 0 4 0 = 1 := by
  unfold kSubmit
  refine if_pos fun q => ?_
  have h := q.2.1.2
  rw [h9] at h
  exact absurd h (by decide)
theorem k_inp {σ : Mem} (h9 : σ 9 0 = 4) : kInput σ 4 0 1 = 1 := by
  unfold kInput
  refine if_pos fun q => ?_
  have h := q.2
  rw [h9] at h
  exact absurd h (by decide)
theorem k_col {σ : Mem} (hI : IV σ) (hW : WX σ) : kColumn σ 0 0 0 0 = 3 := by
  have hx : rIn σ 2 0 := rIn_k (n := 1) hI.1 (by decide) (by decide : 0 < 1)
  unfold kColumn
  rw [if_neg (fun q => q ⟨hx, by decide⟩), if_neg (fun q => q (by decide)), if_pos (fun q => used_all hI hW hx q)]
theorem k_rul {σ : Mem} (h16 : σ 16 0 = 2) : kRule σ 2 0 0 0 0 = 1 ∧ kRule σ 0 1001 0 0 0 = 2 := by
  constructor
  · unfold kRule
    refine if_pos fun q => ?_
    have h := q.2
    rw [h16] at h
    exact absurd h (by decide)
  · unfold kRule
    rw [if_neg (fun q => q (rIn_k (n := 2) h16 (by decide) (by decide : 0 < 2))), if_pos]
    decide
theorem k_jd {σ : Mem} : ¬ rIn σ 26 (-1) := fun q => absurd q.1 (by decide)
theorem GK.drop2 {g : sg_G} {x0 : Nat} {σ : Mem} {K : va_W} {C : Nat → Option va_E} {a b : Nat × va_E} (h : GK g x0 σ (a :: b :: K) C) : GK g x0 σ [a, b] C := by
  obtain ⟨⟨ad, own, gh, hP, hg, hW, hx, ho⟩, h2, h3⟩ := h
  have hm : ∀ y : Nat × va_E, y ∈ [a, b] → y ∈ a :: b :: K := by
    intro y hy
    simp only [List.mem_cons, List.not_mem_nil, or_false] at hy
    simp only [List.mem_cons]
    exact hy.elim .inl fun q => .inr (.inl q)
  refine ⟨⟨ad, own, gh, hP, hg, hW, hx, fun y hy => ?_⟩, fun y hy => h2 y (hm y hy), ?_⟩
  · obtain ⟨q, hq, rfl⟩ := List.mem_map.mp hy
    exact ho _ (List.mem_map.mpr ⟨q, hm q hq, rfl⟩)
  · obtain ⟨n1, n2, n3⟩ := h3
    simp only [List.map_cons, List.mem_cons, not_or] at n1
    refine ⟨?_, List.not_mem_nil, trivial⟩
    simp only [List.map_cons, List.map_nil, List.mem_cons, List.not_mem_nil, or_false]
    exact n1.1
theorem md_L_boards : sg_MD yL_boards cL_boards 9 (some .boolean) 3 := ⟨sg_mem (i := 744) (by decide +kernel) rfl, sg_mem (i := 25) (by decide +kernel) rfl, ⟨by decide, by decide⟩, by decide +kernel⟩
theorem ml_RL_140 : sg_ML RL 140 yL_boards := .inl (sg_mem (i := 742) (by decide +kernel) rfl)
theorem st_L_boards : Cond.static yL_boards ∈ sg_T := sg_mem (i := 743) (by decide +kernel) rfl
theorem md_L_steps : sg_MD yL_steps cL_steps 8 (some .boolean) 2 := ⟨sg_mem (i := 725) (by decide +kernel) rfl, sg_mem (i := 25) (by decide +kernel) rfl, ⟨by decide, by decide⟩, by decide +kernel⟩
theorem ml_RL_144 : sg_ML RL 144 yL_steps := .inl (sg_mem (i := 723) (by decide +kernel) rfl)
theorem st_L_steps : Cond.static yL_steps ∈ sg_T := sg_mem (i := 724) (by decide +kernel) rfl
theorem md_L_tell : sg_MD yL_tell cL_tell 5 (some (.array .int)) 2 := ⟨sg_mem (i := 699) (by decide +kernel) rfl, sg_mem (i := 25) (by decide +kernel) rfl, ⟨by decide, by decide⟩, by decide +kernel⟩
theorem ml_RL_124 : sg_ML RL 124 yL_tell := .inl (sg_mem (i := 697) (by decide +kernel) rfl)
theorem st_L_tell : Cond.static yL_tell ∈ sg_T := sg_mem (i := 698) (by decide +kernel) rfl
theorem md_X7_strike : sg_MD yX7_strike cX7_strike 3 (some .boolean) 1 := ⟨sg_mem (i := 458) (by decide +kernel) rfl, sg_mem (i := 26) (by decide +kernel) rfl, ⟨by decide, by decide⟩, by decide +kernel⟩
theorem ml_RL_136 : sg_ML RL 136 yX7_strike := .inl (sg_mem (i := 455) (by decide +kernel) rfl)
theorem im_X7_strike : Cond.instanceMethod yX7_strike ∈ sg_T := sg_mem (i := 456) (by decide +kernel) rfl
theorem sl_X7_strike : Cond.selects yX7_strike.cls yX7_strike yX7_strike ∈ sg_T := sg_mem (i := 457) (by decide +kernel) rfl
theorem md_L_same : sg_MD yL_same cL_same 3 (some .boolean) 2 := ⟨sg_mem (i := 722) (by decide +kernel) rfl, sg_mem (i := 25) (by decide +kernel) rfl, ⟨by decide, by decide⟩, by decide +kernel⟩
theorem ml_RL_132 : sg_ML RL 132 yL_same := .inl (sg_mem (i := 720) (by decide +kernel) rfl)
theorem st_L_same : Cond.static yL_same ∈ sg_T := sg_mem (i := 721) (by decide +kernel) rfl
set_option maxHeartbeats 4000000 in
set_option maxRecDepth 100000 in
theorem law_fin {p : Program} {l : Launch} {e : Env} {s : State} {m : MethodId} {below : List Frame} {meth : Method} {c : Code} {Q : State → Prop} {g : sg_G} {b L x0 nA wA : Nat} {xs : Nat → Int32} {scr : Cell} (hc : sg_Cx p s m #[.ref b] c cL_law 14 RL g) (hA : s.isArrayOf scr .int) (hX : Scr g b L xs scr) (hL : L ≤ 100000) (hst : l.stackTraces = false) {σ : Mem} {fn fw : Nat → Int32} {C : Nat → Option va_E} {k0 n0 : Nat} (hk0 : k0 ≤ 500000) (hn0 : n0 ≤ 7000000) (hI : IV σ) (hG : GK g x0 σ [(nA, sg_ia g 4 fn), (wA, sg_ia g 48 fw)] C) (kend : ∀ (C : Nat → Option va_E) (lv : List (Nat × Value)) (k n : Nat), k ≤ 600086 → n ≤ 7301442 → sg_W p l e room_1 s m #[.ref b] below meth c 14 g k n Q C 649 lv [.int 1]) : sg_W p l e room_1 s m (#[.ref b]) below meth c 14 g k0 n0 Q C 524 [(1, .ref x0), (2, .ref nA), (3, .ref wA)] [] := by
  have kp1 := k_pass (σ := σ) (x := 0) (by decide)
  have kp2 := k_pass (σ := σ) (x := 101) (by decide)
  have ks := k_sub (σ := σ) (υ := rSub σ 0 4 0) hI.2.1
  have ki := k_inp hI.2.1
  have kc := k_col hI hG.wx
  have kr1 := (k_rul hI.2.2.1).1
  have kr2 := (k_rul hI.2.2.1).2
  refine sw_aload_n (pc := 524) hc dL_law_524 rfl 0 rfl ?_
  refine sw_iconst (pc := 525) (v := (-1)) hc dL_law_525 (by decide) ?_
  refine sw_callSX (pc := 526) (rest := []) hc (c_L_plan l g _ x0 σ _ (-1) hst hG) mdh_L_plan lk_RL_84 st_L_plan rfl rfl (Nat.le_of_ble_eq_true rfl) dL_law_526 ⟨Nat.le_of_ble_eq_true rfl, Nat.le_of_ble_eq_true rfl, (by show k0 + 16 ≤ 600086; omega), (by show n0 + 96 ≤ 7301442; omega)⟩ (fun v1 C3 hP2 => ?_)
  obtain ⟨rfl, hG4⟩ := hP2
  refine sw_st (st' := [.int (if kPlan (-1) = 0 then vPlan σ (-1) else xa (kPlan (-1)))]) rfl ?_
  refine sw_cv (y := (-3)) z_fin.1 ?_
  refine sw_bipush (pc := 529) (v := (-3)) hc dL_law_529 (by decide) ?_
  refine sw_icmp_ne (pc := 531) (tgt := 648) hc dL_law_531 (by decide) (fun c5 => absurd c5 (fun zf => zf rfl)) (fun _ => ?_)
  refine sw_aload_n (pc := 534) hc dL_law_534 rfl 0 rfl ?_
  refine sw_sipush (pc := 535) (v := 10001) hc dL_law_535 (by decide) ?_
  refine sw_callSX (pc := 538) (rest := []) hc (c_L_plan l g _ x0 σ _ 10001 hst hG4) mdh_L_plan lk_RL_84 st_L_plan rfl rfl (Nat.le_of_ble_eq_true rfl) dL_law_538 ⟨Nat.le_of_ble_eq_true rfl, Nat.le_of_ble_eq_true rfl, (by show k0 + 16 + 16 ≤ 600086; omega), (by show n0 + 96 + 96 ≤ 7301442; omega)⟩ (fun v6 C8 hP7 => ?_)
  obtain ⟨rfl, hG9⟩ := hP7
  refine sw_st (st' := [.int (if kPlan 10001 = 0 then vPlan σ 10001 else xa (kPlan 10001))]) rfl ?_
  refine sw_cv (y := (-3)) z_fin.2 ?_
  refine sw_bipush (pc := 541) (v := (-3)) hc dL_law_541 (by decide) ?_
  refine sw_icmp_ne (pc := 543) (tgt := 648) hc dL_law_543 (by decide) (fun c10 => absurd c10 (fun zf => zf rfl)) (fun _ => ?_)
  refine sw_aload_n (pc := 546) hc dL_law_546 rfl 0 rfl ?_
  refine sw_iconst (pc := 547) (v := 0) hc dL_law_547 (by decide) ?_
  refine sw_callSX (pc := 548) (rest := []) hc (c_L_pass l g _ x0 σ _ 0 hst hG9) mdh_L_pass lk_RL_104 st_L_pass rfl rfl (Nat.le_of_ble_eq_true rfl) dL_law_548 ⟨Nat.le_of_ble_eq_true rfl, Nat.le_of_ble_eq_true rfl, (by show k0 + 16 + 16 + 16 ≤ 600086; omega), (by show n0 + 96 + 96 + 96 ≤ 7301442; omega)⟩ (fun v11 C13 hP12 => ?_)
  obtain ⟨rfl, hG14⟩ := hP12
  rw [if_neg (by rw [kp1]; decide)] at hG14
  refine sw_st (st' := [.int (if kPass σ 0 = 0 then vPass σ 0 else xp (kPass σ 0))]) rfl ?_
  refine sw_cv (y := (-3)) (by rw [kp1]; rfl) ?_
  refine sw_bipush (pc := 551) (v := (-3)) hc dL_law_551 (by decide) ?_
  refine sw_icmp_ne (pc := 553) (tgt := 648) hc dL_law_553 (by decide) (fun c15 => absurd c15 (fun zf => zf rfl)) (fun _ => ?_)
  refine sw_aload_n (pc := 556) hc dL_law_556 rfl 0 rfl ?_
  refine sw_bipush (pc := 557) (v := 101) hc dL_law_557 (by decide) ?_
  refine sw_callSX (pc := 559) (rest := []) hc (c_L_pass l g _ x0 σ _ 101 hst hG14) mdh_L_pass lk_RL_104 st_L_pass rfl rfl (Nat.le_of_ble_eq_true rfl) dL_law_559 ⟨Nat.le_of_ble_eq_true rfl, Nat.le_of_ble_eq_true rfl, (by show k0 + 16 + 16 + 16 + 16 ≤ 600086; omega), (by show n0 + 96 + 96 + 96 + 96 ≤ 7301442; omega)⟩ (fun v16 C18 hP17 => ?_)
  obtain ⟨rfl, hG19⟩ := hP17
  rw [if_neg (by rw [kp2]; decide)] at hG19
  refine sw_st (st' := [.int (if kPass σ 101 = 0 then vPass σ 101 else xp (kPass σ 101))]) rfl ?_
  refine sw_cv (y := (-3)) (by rw [kp2]; rfl) ?_
  refine sw_bipush (pc := 562) (v := (-3)) hc dL_law_562 (by decide) ?_
  refine sw_icmp_ne (pc := 564) (tgt := 648) hc dL_law_564 (by decide) (fun c20 => absurd c20 (fun zf => zf rfl)) (fun _ => ?_)
  refine sw_aload_n (pc := 567) hc dL_law_567 rfl 0 rfl ?_
  refine sw_iconst (pc := 568) (v := (-1)) hc dL_law_568 (by decide) ?_
  refine sw_callSX (pc := 569) (rest := []) hc (c_L_judged l g _ x0 σ _ (-1) hst hG19) mdh_L_judged lk_RL_87 st_L_judged rfl rfl (Nat.le_of_ble_eq_true rfl) dL_law_569 ⟨Nat.le_of_ble_eq_true rfl, Nat.le_of_ble_eq_true rfl, (by show k0 + 16 + 16 + 16 + 16 + 16 ≤ 600086; omega), (by show n0 + 96 + 96 + 96 + 96 + 96 ≤ 7301442; omega)⟩ (fun v21 C23 hP22 => ?_)
  obtain ⟨rfl, hG24⟩ := hP22
  refine sw_st (st' := [.int (if kIn σ 26 (-1) = 0 then vJudged σ (-1) else x1 (kIn σ 26 (-1)))]) rfl ?_
  refine sw_cv (y := (-2)) (vJd_n k_jd) ?_
  refine sw_bipush (pc := 572) (v := (-2)) hc dL_law_572 (by decide) ?_
  refine sw_icmp_ne (pc := 574) (tgt := 648) hc dL_law_574 (by decide) (fun c25 => absurd c25 (fun zf => zf rfl)) (fun _ => ?_)
  refine sw_aload_n (pc := 577) hc dL_law_577 rfl 0 rfl ?_
  refine sw_iconst (pc := 578) (v := 0) hc dL_law_578 (by decide) ?_
  refine sw_iconst (pc := 579) (v := 4) hc dL_law_579 (by decide) ?_
  refine sw_iconst (pc := 580) (v := 0) hc dL_law_580 (by decide) ?_
  refine sw_callSX (pc := 581) (rest := []) hc (c_L_submit l g _ x0 σ _ 0 4 0 hst hG24) mdh_L_submit lk_RL_95 st_L_submit rfl rfl (Nat.le_of_ble_eq_true rfl) dL_law_581 ⟨Nat.le_of_ble_eq_true rfl, Nat.le_of_ble_eq_true rfl, (by show k0 + 16 + 16 + 16 + 16 + 16 + 24 ≤ 600086; omega), (by show n0 + 96 + 96 + 96 + 96 + 96 + 420 ≤ 7301442; omega)⟩ (fun v26 C28 hP27 => ?_)
  obtain ⟨rfl, hG29⟩ := hP27
  rw [if_neg (by rw [ks]; decide)] at hG29
  refine sw_st (st' := [.int (if kSubmit σ (rSub σ 0 4 0) 0 4 0 = 0 then vSubmit σ 0 4 0 else x3 (kSubmit σ (rSub σ 0 4 0) 0 4 0))]) rfl ?_
  refine sw_cv (y := (-2)) (by rw [ks]; rfl) ?_
  refine sw_bipush (pc := 584) (v := (-2)) hc dL_law_584 (by decide) ?_
  refine sw_icmp_ne (pc := 586) (tgt := 648) hc dL_law_586 (by decide) (fun c30 => absurd c30 (fun zf => zf rfl)) (fun _ => ?_)
  refine sw_aload_n (pc := 589) hc dL_law_589 rfl 0 rfl ?_
  refine sw_iconst (pc := 590) (v := 4) hc dL_law_590 (by decide) ?_
  refine sw_iconst (pc := 591) (v := 0) hc dL_law_591 (by decide) ?_
  refine sw_iconst (pc := 592) (v := 1) hc dL_law_592 (by decide) ?_
  refine sw_callSX (pc := 593) (rest := []) hc (c_L_input l g _ x0 σ _ 4 0 1 hst hG29) mdh_L_input lk_RL_92 st_L_input rfl rfl (Nat.le_of_ble_eq_true rfl) dL_law_593 ⟨Nat.le_of_ble_eq_true rfl, Nat.le_of_ble_eq_true rfl, (by show k0 + 16 + 16 + 16 + 16 + 16 + 24 + 16 ≤ 600086; omega), (by show n0 + 96 + 96 + 96 + 96 + 96 + 420 + 96 ≤ 7301442; omega)⟩ (fun v31 C33 hP32 => ?_)
  obtain ⟨rfl, hG34⟩ := hP32
  rw [if_neg (by rw [ki]; decide)] at hG34
  refine sw_st (st' := [.int (if kInput σ 4 0 1 = 0 then vInput σ 4 0 1 else x3 (kInput σ 4 0 1))]) rfl ?_
  refine sw_cv (y := (-2)) (by rw [ki]; rfl) ?_
  refine sw_bipush (pc := 596) (v := (-2)) hc dL_law_596 (by decide) ?_
  refine sw_icmp_ne (pc := 598) (tgt := 648) hc dL_law_598 (by decide) (fun c35 => absurd c35 (fun zf => zf rfl)) (fun _ => ?_)
  refine sw_aload_n (pc := 601) hc dL_law_601 rfl 0 rfl ?_
  refine sw_iconst (pc := 602) (v := 0) hc dL_law_602 (by decide) ?_
  refine sw_iconst (pc := 603) (v := 0) hc dL_law_603 (by decide) ?_
  refine sw_iconst (pc := 604) (v := 0) hc dL_law_604 (by decide) ?_
  refine sw_iconst (pc := 605) (v := 0) hc dL_law_605 (by decide) ?_
  refine sw_callSX (pc := 606) (rest := []) hc (c_L_column l g _ x0 σ _ 0 0 0 0 hst hG34) mdh_L_column lk_RL_106 st_L_column rfl rfl (Nat.le_of_ble_eq_true rfl) dL_law_606 ⟨Nat.le_of_ble_eq_true rfl, Nat.le_of_ble_eq_true rfl, (by show k0 + 16 + 16 + 16 + 16 + 16 + 24 + 16 + 16 ≤ 600086; omega), (by show n0 + 96 + 96 + 96 + 96 + 96 + 420 + 96 + 96 ≤ 7301442; omega)⟩ (fun v36 C38 hP37 => ?_)
  obtain ⟨rfl, hG39⟩ := hP37
  rw [if_neg (by rw [kc]; decide)] at hG39
  refine sw_st (st' := [.int (if kColumn σ 0 0 0 0 = 0 then 0 else x3 (kColumn σ 0 0 0 0))]) rfl ?_
  refine sw_cv (y := (-4)) (by rw [kc]; rfl) ?_
  refine sw_bipush (pc := 609) (v := (-4)) hc dL_law_609 (by decide) ?_
  refine sw_icmp_ne (pc := 611) (tgt := 648) hc dL_law_611 (by decide) (fun c40 => absurd c40 (fun zf => zf rfl)) (fun _ => ?_)
  refine sw_aload_n (pc := 614) hc dL_law_614 rfl 0 rfl ?_
  refine sw_iconst (pc := 615) (v := 2) hc dL_law_615 (by decide) ?_
  refine sw_iconst (pc := 616) (v := 0) hc dL_law_616 (by decide) ?_
  refine sw_iconst (pc := 617) (v := 0) hc dL_law_617 (by decide) ?_
  refine sw_iconst (pc := 618) (v := 0) hc dL_law_618 (by decide) ?_
  refine sw_iconst (pc := 619) (v := 0) hc dL_law_619 (by decide) ?_
  refine sw_callSX (pc := 620) (rest := []) hc (c_L_rule l g _ x0 σ _ 2 0 0 0 0 hst hG39) mdh_L_rule lk_RL_97 st_L_rule rfl rfl (Nat.le_of_ble_eq_true rfl) dL_law_620 ⟨Nat.le_of_ble_eq_true rfl, Nat.le_of_ble_eq_true rfl, (by show k0 + 16 + 16 + 16 + 16 + 16 + 24 + 16 + 16 + 24 ≤ 600086; omega), (by show n0 + 96 + 96 + 96 + 96 + 96 + 420 + 96 + 96 + 420 ≤ 7301442; omega)⟩ (fun v41 C43 hP42 => ?_)
  obtain ⟨rfl, hG44⟩ := hP42
  rw [if_neg (by rw [kr1]; decide)] at hG44
  refine sw_st (st' := [.int (if kRule σ 2 0 0 0 0 = 0 then vRule σ 2 0 0 0 0 else x3 (kRule σ 2 0 0 0 0))]) rfl ?_
  refine sw_cv (y := (-2)) (by rw [kr1]; rfl) ?_
  refine sw_bipush (pc := 623) (v := (-2)) hc dL_law_623 (by decide) ?_
  refine sw_icmp_ne (pc := 625) (tgt := 648) hc dL_law_625 (by decide) (fun c45 => absurd c45 (fun zf => zf rfl)) (fun _ => ?_)
  refine sw_aload_n (pc := 628) hc dL_law_628 rfl 0 rfl ?_
  refine sw_iconst (pc := 629) (v := 0) hc dL_law_629 (by decide) ?_
  refine sw_sipush (pc := 630) (v := 1001) hc dL_law_630 (by decide) ?_
  refine sw_iconst (pc := 633) (v := 0) hc dL_law_633 (by decide) ?_
  refine sw_iconst (pc := 634) (v := 0) hc dL_law_634 (by decide) ?_
  refine sw_iconst (pc := 635) (v := 0) hc dL_law_635 (by decide) ?_
  refine sw_callSX (pc := 636) (rest := []) hc (c_L_rule l g _ x0 σ _ 0 1001 0 0 0 hst hG44) mdh_L_rule lk_RL_97 st_L_rule rfl rfl (Nat.le_of_ble_eq_true rfl) dL_law_636 ⟨Nat.le_of_ble_eq_true rfl, Nat.le_of_ble_eq_true rfl, (by show k0 + 16 + 16 + 16 + 16 + 16 + 24 + 16 + 16 + 24 + 24 ≤ 600086; omega), (by show n0 + 96 + 96 + 96 + 96 + 96 + 420 + 96 + 96 + 420 + 420 ≤ 7301442; omega)⟩ (fun v46 C48 hP47 => ?_)
  obtain ⟨rfl, hG49⟩ := hP47
  rw [if_neg (by rw [kr2]; decide)] at hG49
  refine sw_st (st' := [.int (if kRule σ 0 1001 0 0 0 = 0 then vRule σ 0 1001 0 0 0 else x3 (kRule σ 0 1001 0 0 0))]) rfl ?_
  refine sw_cv (y := (-3)) (by rw [kr2]; rfl) ?_
  refine sw_bipush (pc := 639) (v := (-3)) hc dL_law_639 (by decide) ?_
  refine sw_icmp_ne (pc := 641) (tgt := 648) hc dL_law_641 (by decide) (fun c50 => absurd c50 (fun zf => zf rfl)) (fun _ => ?_)
  refine sw_iconst (pc := 644) (v := 1) hc dL_law_644 (by decide) ?_
  refine sw_goto (pc := 645) (tgt := 649) hc dL_law_645 (by decide) ?_
  exact kend _ _ _ _ (by omega) (by omega)

set_option maxHeartbeats 4000000 in
set_option maxRecDepth 100000 in
theorem law_b {p : Program} {l : Launch} {e : Env} {s : State} {m : MethodId} {below : List Frame} {meth : Method} {c : Code} {Q : State → Prop} {g : sg_G} {b L x0 nA wA : Nat} {xs : Nat → Int32} {scr : Cell} (hc : sg_Cx p s m #[.ref b] c cL_law 14 RL g) (hA : s.isArrayOf scr .int) (hX : Scr g b L xs scr) (hL : L ≤ 100000) (hst : l.stackTraces = false) {σ : Mem} {fn fw : Nat → Int32} {e1 k0 n0 : Nat} {xx yy : Int32} (hI : IV σ) (hN : NA σ fn) (hw : WA σ fw) (kend : ∀ C, GK g x0 σ [(nA, sg_ia g 4 fn), (wA, sg_ia g 48 fw)] C → sg_W p l e room_1 s m #[.ref b] below meth c 14 g (k0 + 4600) (n0 + 27400) Q C 518 [(5, .int (nI e1)), (1, .ref x0), (2, .ref nA), (3, .ref wA), (0, .ref b)] []) {C : Nat → Option va_E} (hk0 : k0 ≤ 500000) (hn0 : n0 ≤ 6000000) (hG : GK g x0 σ [(nA, sg_ia g 4 fn), (wA, sg_ia g 48 fw)] C) : sg_W p l e room_1 s m (#[.ref b]) below meth c 14 g (k0 + 1500) (n0 + 9000) Q C 484 [(7, .int yy), (6, .int xx), (5, .int (nI e1)), (1, .ref x0), (2, .ref nA), (3, .ref wA), (0, .ref b)] [] := by
  refine sw_iload (pc := 484) hc dL_law_484 2 rfl ?_
  refine sw_iconst (pc := 486) (v := 5) hc dL_law_486 (by decide) ?_
  refine sw_irem (pc := 487) hc dL_law_487 (by decide) ?_
  refine sw_iconst (pc := 488) (v := 4) hc dL_law_488 (by decide) ?_
  refine sw_icmp_ne (pc := 489) (tgt := 518) hc dL_law_489 (by decide) (fun c1 => ?_) (fun c1 => ?_)
  ·
    exact sw_sub (ks := [2, 3, 4, 5, 6]) (lv' := [(5, .int (nI e1)), (1, .ref x0), (2, .ref nA), (3, .ref wA), (0, .ref b)]) rfl (sw_widen (by omega) (by omega) (kend _ hG))
  ·
    refine sw_aload_n (pc := 492) hc dL_law_492 rfl 3 rfl ?_
    refine sw_aload_n (pc := 493) hc dL_law_493 rfl 4 rfl ?_
    refine sw_aload_n (pc := 494) hc dL_law_494 rfl 5 rfl ?_
    refine sw_callS (pc := 495) (rest := []) hc (c_L_boards l g _ x0 nA wA σ _ fn fw hst hI hN hw hG) md_L_boards ml_RL_140 st_L_boards rfl rfl (Nat.le_of_ble_eq_true rfl) dL_law_495 ⟨Nat.le_of_ble_eq_true rfl, Nat.le_of_ble_eq_true rfl, (by show k0 + 1500 + 2800 ≤ 600086; omega), (by show n0 + 9000 + 16800 ≤ 7301442; omega)⟩ (fun v2 C4 hP3 => ?_) (fun _ _ hf => hf.elim)
    obtain ⟨rfl, hG5⟩ := hP3
    refine sw_st (st' := [.int 1]) rfl ?_
    refine sw_if_eq (pc := 498) (tgt := 516) hc dL_law_498 (by decide) (fun c6 => absurd c6 (by decide)) (fun _ => ?_)
    refine sw_aload_n (pc := 501) hc dL_law_501 rfl 3 rfl ?_
    refine sw_iload (pc := 502) hc dL_law_502 0 rfl ?_
    refine sw_iconst (pc := 504) (v := 5) hc dL_law_504 (by decide) ?_
    refine sw_ishr (pc := 505) hc dL_law_505 ?_
    refine sw_iconst (pc := 506) (v := 4) hc dL_law_506 (by decide) ?_
    refine sw_callS (pc := 507) (rest := [.ref x0]) hc (c_L_low l g _ (yy >>> (5 &&& 31)) 4 (by decide) (by decide)) md_L_low ml_RL_89 st_L_low rfl rfl (Nat.le_of_ble_eq_true rfl) dL_law_507 ⟨Nat.le_of_ble_eq_true rfl, Nat.le_of_ble_eq_true rfl, (by show k0 + 1500 + 2800 + 0 ≤ 600086; omega), (by show n0 + 9000 + 16800 + 0 ≤ 7301442; omega)⟩ (fun v7 C9 hP8 => ?_) (fun _ _ hf => hf.elim)
    obtain ⟨rfl, rfl⟩ := hP8
    refine sw_st (st' := [.int (nI (lowN (yy >>> (5 &&& 31)) 4)), .ref x0]) rfl ?_
    refine sw_callS (pc := 510) (rest := []) hc (c_L_steps l g _ x0 (lowN (yy >>> (5 &&& 31)) 4) σ _ hst hI (lowN_lt _ (by decide)) hG5) md_L_steps ml_RL_144 st_L_steps rfl rfl (Nat.le_of_ble_eq_true rfl) dL_law_510 ⟨Nat.le_of_ble_eq_true rfl, Nat.le_of_ble_eq_true rfl, (by show k0 + 1500 + 2800 + 0 + 260 ≤ 600086; omega), (by show n0 + 9000 + 16800 + 0 + 1560 ≤ 7301442; omega)⟩ (fun v10 C12 hP11 => ?_) (fun _ _ hf => hf.elim)
    obtain ⟨rfl, hG13⟩ := hP11
    refine sw_st (st' := [.int 1]) rfl ?_
    refine sw_if_ne (pc := 513) (tgt := 518) hc dL_law_513 (by decide) (fun _ => ?_) (fun c14 => absurd c14 (by decide))
    exact sw_sub (ks := [2, 3, 4, 5, 6]) (lv' := [(5, .int (nI e1)), (1, .ref x0), (2, .ref nA), (3, .ref wA), (0, .ref b)]) rfl (sw_widen (by omega) (by omega) (kend _ hG13))

set_option maxHeartbeats 4000000 in
set_option maxRecDepth 100000 in
theorem law_s {p : Program} {l : Launch} {e : Env} {s : State} {m : MethodId} {below : List Frame} {meth : Method} {c : Code} {Q : State → Prop} {g : sg_G} {b L x0 nA wA : Nat} {xs : Nat → Int32} {scr : Cell} (hc : sg_Cx p s m #[.ref b] c cL_law 14 RL g) (hA : s.isArrayOf scr .int) (hX : Scr g b L xs scr) (hL : L ≤ 100000) (hst : l.stackTraces = false) {σ : Mem} {fn fw : Nat → Int32} {e1 k0 n0 : Nat} {xx yy : Int32} (hI : IV σ) (hN : NA σ fn) (hw : WA σ fw) (kend : ∀ C, GK g x0 σ [(nA, sg_ia g 4 fn), (wA, sg_ia g 48 fw)] C → sg_W p l e room_1 s m #[.ref b] below meth c 14 g (k0 + 4600) (n0 + 27400) Q C 518 [(5, .int (nI e1)), (1, .ref x0), (2, .ref nA), (3, .ref wA), (0, .ref b)] []) {C : Nat → Option va_E} (hk0 : k0 ≤ 500000) (hn0 : n0 ≤ 6000000) (hG : GK g x0 σ [(nA, sg_ia g 4 fn), (wA, sg_ia g 48 fw)] C) : sg_W p l e room_1 s m (#[.ref b]) below meth c 14 g k0 n0 Q C 368 [(7, .int yy), (6, .int xx), (5, .int (nI e1)), (1, .ref x0), (2, .ref nA), (3, .ref wA), (0, .ref b)] [] := by
  refine sw_iload (pc := 368) hc dL_law_368 1 rfl ?_
  refine sw_iconst (pc := 370) (v := 3) hc dL_law_370 (by decide) ?_
  refine sw_callS (pc := 371) (rest := []) hc (c_L_low l g _ xx 3 (by decide) (by decide)) md_L_low ml_RL_89 st_L_low rfl rfl (Nat.le_of_ble_eq_true rfl) dL_law_371 ⟨Nat.le_of_ble_eq_true rfl, Nat.le_of_ble_eq_true rfl, (by show k0 + 0 ≤ 600086; omega), (by show n0 + 0 ≤ 7301442; omega)⟩ (fun v1 C3 hP2 => ?_) (fun _ _ hf => hf.elim)
  obtain ⟨rfl, rfl⟩ := hP2
  refine sw_st (st' := [.int (nI (lowN xx 3))]) rfl ?_
  refine sw_if_ne (pc := 374) (tgt := 484) hc dL_law_374 (by decide) (fun b1 => ?_) (fun b1 => ?_)
  ·
    exact sw_sub (ks := [0, 1, 2, 3, 4, 5, 6]) (lv' := [(7, .int yy), (6, .int xx), (5, .int (nI e1)), (1, .ref x0), (2, .ref nA), (3, .ref wA), (0, .ref b)]) rfl (sw_widen (by omega) (by omega) (law_b hc hA hX hL hst hI hN hw kend (k0 := k0) (n0 := n0) (by omega) (by omega) hG))
  ·
    refine sw_aload_n (pc := 377) hc dL_law_377 rfl 4 rfl ?_
    refine sw_iconst (pc := 378) (v := 2) hc dL_law_378 (by decide) ?_
    refine sw_iald (pc := 379) (j := 2) hc (hG.at 0 rfl) rfl (by decide) (by decide) dL_law_379 ?_
    refine sw_cv (y := nI (iN (σ 26 0))) hN.2.2.1 ?_
    refine sw_if_le (pc := 380) (tgt := 484) hc dL_law_380 (by decide) (fun b2 => ?_) (fun b2 => ?_)
    ·
      exact sw_sub (ks := [0, 1, 2, 3, 4, 5, 6]) (lv' := [(7, .int yy), (6, .int xx), (5, .int (nI e1)), (1, .ref x0), (2, .ref nA), (3, .ref wA), (0, .ref b)]) rfl (sw_widen (by omega) (by omega) (law_b hc hA hX hL hst hI hN hw kend (k0 := k0) (n0 := n0) (by omega) (by omega) hG))
    ·
      have hN0 : 0 < iN (σ 26 0) := Nat.pos_of_ne_zero fun z => b2 (by rw [z]; decide)
      have hN24 := hI.2.2.2.2.1
      refine sw_iload (pc := 383) hc dL_law_383 0 rfl ?_
      refine sw_aload_n (pc := 385) hc dL_law_385 rfl 4 rfl ?_
      refine sw_iconst (pc := 386) (v := 2) hc dL_law_386 (by decide) ?_
      refine sw_iald (pc := 387) (j := 2) hc (hG.at 0 rfl) rfl (by decide) (by decide) dL_law_387 ?_
      refine sw_cv (y := nI (iN (σ 26 0))) hN.2.2.1 ?_
      refine sw_callS (pc := 388) (rest := []) hc (c_L_low l g _ yy (iN (σ 26 0)) (by omega) (by omega)) md_L_low ml_RL_89 st_L_low rfl rfl (Nat.le_of_ble_eq_true rfl) dL_law_388 ⟨Nat.le_of_ble_eq_true rfl, Nat.le_of_ble_eq_true rfl, (by show k0 + 0 + 0 ≤ 600086; omega), (by show n0 + 0 + 0 ≤ 7301442; omega)⟩ (fun v4 C6 hP5 => ?_) (fun _ _ hf => hf.elim)
      obtain ⟨rfl, rfl⟩ := hP5
      refine sw_st (st' := [.int (nI (lowN yy (iN (σ 26 0))))]) rfl ?_
      have hr := lowN_lt yy (n := iN (σ 26 0)) hN0
      generalize lowN yy (iN (σ 26 0)) = r at hr
      refine sw_st (st' := [.int (nI r)]) rfl ?_
      refine sw_istore (pc := 391) hc dL_law_391 (by decide) (lv' := [(11, .int (nI r)), (7, .int yy), (6, .int xx), (5, .int (nI e1)), (1, .ref x0), (2, .ref nA), (3, .ref wA), (0, .ref b)]) rfl ?_
      refine sw_aload_n (pc := 393) hc dL_law_393 rfl 4 rfl ?_
      refine sw_aload_n (pc := 394) hc dL_law_394 rfl 5 rfl ?_
      refine sw_callS (pc := 395) (rest := []) hc (c_L_tell l g _ x0 nA σ _ fn hst hI hN hG) md_L_tell ml_RL_124 st_L_tell rfl rfl (Nat.le_of_ble_eq_true rfl) dL_law_395 ⟨Nat.le_of_ble_eq_true rfl, Nat.le_of_ble_eq_true rfl, (by show k0 + 0 + 0 + 700 ≤ 600086; omega), (by show n0 + 0 + 0 + 4200 ≤ 7301442; omega)⟩ (fun v7 C9 hP8 => ?_) (fun _ _ hf => hf.elim)
      obtain ⟨r10, rfl, hG11⟩ := hP8
      have hG12 := hG11.rot
      refine sw_st (st' := [.ref r10]) rfl ?_
      refine sw_astore (pc := 398) hc dL_law_398 (by decide) (lv' := [(12, .ref r10), (11, .int (nI r)), (7, .int yy), (6, .int xx), (5, .int (nI e1)), (1, .ref x0), (2, .ref nA), (3, .ref wA), (0, .ref b)]) rfl ?_
      refine sw_aload_n (pc := 400) hc dL_law_400 rfl 5 rfl ?_
      refine sw_iload (pc := 401) hc dL_law_401 1 rfl ?_
      obtain ⟨fs16, hx17⟩ := hG12.gate
      refine sw_callV (pc := 403) (rest := []) hc (m_strike l (nI r) hst hG12 (hG12.wx.run_in hr)) md_X7_strike ml_RL_136 im_X7_strike sl_X7_strike hx17 rfl rfl rfl (Nat.le_of_ble_eq_true rfl) dL_law_403 ⟨Nat.le_of_ble_eq_true rfl, Nat.le_of_ble_eq_true rfl, (by show k0 + 0 + 0 + 700 + 16 ≤ 600086; omega), (by show n0 + 0 + 0 + 4200 + 96 ≤ 7301442; omega)⟩ (fun v13 C15 hP14 => ?_) (fun _ _ hf => hf.elim)
      obtain ⟨rfl, hG18⟩ := hP14
      rw [iN_nI (show r < 2 ^ 31 by omega)] at hG18
      refine sw_st (st' := [.int (bI (1 - σ 21 (iN (nI r)) = 1))]) rfl ?_
      have hW := hG.wx
      rcases hW.2.2.2.2.1.2 r with hs | hs
      ·
        refine sw_cv (y := 1) (by rw [iN_nI (by omega), hs]; decide) ?_
        have hJ : rJd σ r = bI (rRef σ r) + 2 * 0 := by unfold rJd; rw [hs]
        have hJ2 : rJd (st2 σ 21 r (1 - σ 21 r)) r = bI (rRef σ r) + 2 * 1 := by rw [jd_st, hs]; rfl
        refine sw_istore (pc := 406) hc dL_law_406 (by decide) (lv' := [(13, .int 1), (12, .ref r10), (11, .int (nI r)), (7, .int yy), (6, .int xx), (5, .int (nI e1)), (1, .ref x0), (2, .ref nA), (3, .ref wA), (0, .ref b)]) rfl ?_
        refine sw_iload (pc := 408) hc dL_law_408 0 rfl ?_
        refine sw_aload (pc := 410) hc dL_law_410 1 rfl ?_
        refine sw_iload (pc := 412) hc dL_law_412 2 rfl ?_
        refine sw_iald (pc := 414) (j := r) hc (hG18.at 2 rfl) rfl (by omega) (by decide) dL_law_414 ?_
        refine sw_cv (y := rJd σ r) (tellF_j hr (by omega)) ?_
        refine sw_iconst (pc := 415) (v := 1) hc dL_law_415 (by decide) ?_
        refine sw_icmp_le (pc := 416) (tgt := 423) hc dL_law_416 (by decide) (fun _ => ?_) (fun c20 => absurd (by rw [hJ]; rcases bI_01 (P := rRef σ r) with q | q <;> rw [q] <;> decide) c20)
        refine sw_iconst (pc := 423) (v := 0) hc dL_law_423 (by decide) ?_
        refine sw_icmp_eq (pc := 424) (tgt := 482) hc dL_law_424 (by decide) (fun c21 => absurd c21 (by decide)) (fun _ => ?_)
        refine sw_aload_n (pc := 427) hc dL_law_427 rfl 6 rfl ?_
        refine sw_iload (pc := 428) hc dL_law_428 2 rfl ?_
        obtain ⟨fs25, hx26⟩ := hG18.gate
        refine sw_callV (pc := 430) (rest := []) hc (m_judged l (nI r) hst hG18 (hG18.wx.run_in (by exact hr))) md_X7_judged ml_RL_43 im_X7_judged sl_X7_judged hx26 rfl rfl rfl (Nat.le_of_ble_eq_true rfl) dL_law_430 ⟨Nat.le_of_ble_eq_true rfl, Nat.le_of_ble_eq_true rfl, (by show k0 + 0 + 0 + 700 + 16 + 16 ≤ 600086; omega), (by show n0 + 0 + 0 + 4200 + 96 + 96 ≤ 7301442; omega)⟩ (fun v22 C24 hP23 => ?_) (fun _ _ hf => hf.elim)
        obtain ⟨rfl, hG27⟩ := hP23
        refine sw_st (st' := [.int (rJd (st2 σ 21 r (1 - σ 21 r)) (iN (nI r)))]) rfl ?_
        refine sw_cv (y := bI (rRef σ r) + 2 * 1) (by rw [iN_nI (by omega), hJ2]) ?_
        refine sw_iload (pc := 433) hc dL_law_433 0 rfl ?_
        refine sw_if_eq (pc := 435) (tgt := 448) hc dL_law_435 (by decide) (fun c28 => absurd c28 (by decide)) (fun _ => ?_)
        refine sw_aload (pc := 438) hc dL_law_438 1 rfl ?_
        refine sw_iload (pc := 440) hc dL_law_440 2 rfl ?_
        refine sw_iald (pc := 442) (j := r) hc (hG27.at 2 rfl) rfl (by omega) (by decide) dL_law_442 ?_
        refine sw_cv (y := rJd σ r) (tellF_j hr (by omega)) ?_
        refine sw_iconst (pc := 443) (v := 2) hc dL_law_443 (by decide) ?_
        refine sw_iadd (pc := 444) hc dL_law_444 ?_
        refine sw_goto (pc := 445) (tgt := 455) hc dL_law_445 (by decide) ?_
        refine sw_icmp_ne (pc := 455) (tgt := 482) hc dL_law_455 (by decide) (fun c29 => absurd c29 (fun zf => zf (by rw [hJ]; rcases bI_01 (P := rRef σ r) with q | q <;> rw [q] <;> decide))) (fun _ => ?_)
        refine sw_aload_n (pc := 458) hc dL_law_458 rfl 6 rfl ?_
        refine sw_iload (pc := 459) hc dL_law_459 2 rfl ?_
        obtain ⟨fs33, hx34⟩ := hG27.gate
        refine sw_callV (pc := 461) (rest := []) hc (m_strike l (nI r) hst hG27 (hG27.wx.run_in (by exact hr))) md_X7_strike ml_RL_136 im_X7_strike sl_X7_strike hx34 rfl rfl rfl (Nat.le_of_ble_eq_true rfl) dL_law_461 ⟨Nat.le_of_ble_eq_true rfl, Nat.le_of_ble_eq_true rfl, (by show k0 + 0 + 0 + 700 + 16 + 16 + 16 ≤ 600086; omega), (by show n0 + 0 + 0 + 4200 + 96 + 96 + 96 ≤ 7301442; omega)⟩ (fun v30 C32 hP31 => ?_) (fun _ _ hf => hf.elim)
        obtain ⟨rfl, hG35⟩ := hP31
        rw [iN_nI (show r < 2 ^ 31 by omega), strike_2 hW] at hG35
        refine sw_st (st' := [.int (bI (1 - st2 σ 21 r (1 - σ 21 r) 21 (iN (nI r)) = 1))]) rfl ?_
        refine sw_cv (y := 0) (by rw [iN_nI (by omega), st2_ss, hs]; decide) ?_
        refine sw_iload (pc := 464) hc dL_law_464 0 rfl ?_
        refine sw_icmp_eq (pc := 466) (tgt := 482) hc dL_law_466 (by decide) (fun c36 => absurd c36 (by decide)) (fun _ => ?_)
        refine sw_aload (pc := 469) hc dL_law_469 1 rfl ?_
        refine sw_aload_n (pc := 471) hc dL_law_471 rfl 6 rfl ?_
        refine sw_aload_n (pc := 472) hc dL_law_472 rfl 7 rfl ?_
        refine sw_callS (pc := 473) (rest := [.ref r10]) hc (c_L_tell l g _ x0 nA σ _ fn hst hI hN hG35) md_L_tell ml_RL_124 st_L_tell rfl rfl (Nat.le_of_ble_eq_true rfl) dL_law_473 ⟨Nat.le_of_ble_eq_true rfl, Nat.le_of_ble_eq_true rfl, (by show k0 + 0 + 0 + 700 + 16 + 16 + 16 + 700 ≤ 600086; omega), (by show n0 + 0 + 0 + 4200 + 96 + 96 + 96 + 4200 ≤ 7301442; omega)⟩ (fun v37 C39 hP38 => ?_) (fun _ _ hf => hf.elim)
        obtain ⟨r40, rfl, hG41⟩ := hP38
        have hG42 := hG41.rot
        refine sw_st (st' := [.ref r40, .ref r10]) rfl ?_
        refine sw_callS (pc := 476) (rest := []) hc (c_L_same l g _ r10 r40 (tellF σ) (tellF σ) (hG42.at 3 rfl) (hG42.at 2 rfl)) md_L_same ml_RL_132 st_L_same rfl rfl (Nat.le_of_ble_eq_true rfl) dL_law_476 ⟨Nat.le_of_ble_eq_true rfl, Nat.le_of_ble_eq_true rfl, (by show k0 + 0 + 0 + 700 + 16 + 16 + 16 + 700 + 0 ≤ 600086; omega), (by show n0 + 0 + 0 + 4200 + 96 + 96 + 96 + 4200 + 0 ≤ 7301442; omega)⟩ (fun v43 C45 hP44 => ?_) (fun _ _ hf => hf.elim)
        obtain ⟨⟨sv1, rfl, hsv⟩, rfl⟩ := hP44
        have hsv1 := hsv (fun _ _ => rfl)
        subst hsv1
        refine sw_st (st' := [.int 1]) rfl ?_
        refine sw_if_ne (pc := 479) (tgt := 484) hc dL_law_479 (by decide) (fun _ => ?_) (fun c46 => absurd c46 (by decide))
        have hGd : GK g x0 σ [(nA, sg_ia g 4 fn), (wA, sg_ia g 48 fw)] _ := hG42.drop2
        exact sw_sub (ks := [3, 4, 5, 6, 7, 8, 9]) (lv' := [(7, .int yy), (6, .int xx), (5, .int (nI e1)), (1, .ref x0), (2, .ref nA), (3, .ref wA), (0, .ref b)]) rfl (sw_widen (by omega) (by omega) (law_b hc hA hX hL hst hI hN hw kend (k0 := k0) (n0 := n0) (by omega) (by omega) hGd))
      ·
        refine sw_cv (y := 0) (by rw [iN_nI (by omega), hs]; decide) ?_
        have hJ : rJd σ r = bI (rRef σ r) + 2 * 1 := by unfold rJd; rw [hs]
        have hJ2 : rJd (st2 σ 21 r (1 - σ 21 r)) r = bI (rRef σ r) + 2 * 0 := by rw [jd_st, hs]; rfl
        refine sw_istore (pc := 406) hc dL_law_406 (by decide) (lv' := [(13, .int 0), (12, .ref r10), (11, .int (nI r)), (7, .int yy), (6, .int xx), (5, .int (nI e1)), (1, .ref x0), (2, .ref nA), (3, .ref wA), (0, .ref b)]) rfl ?_
        refine sw_iload (pc := 408) hc dL_law_408 0 rfl ?_
        refine sw_aload (pc := 410) hc dL_law_410 1 rfl ?_
        refine sw_iload (pc := 412) hc dL_law_412 2 rfl ?_
        refine sw_iald (pc := 414) (j := r) hc (hG18.at 2 rfl) rfl (by omega) (by decide) dL_law_414 ?_
        refine sw_cv (y := rJd σ r) (tellF_j hr (by omega)) ?_
        refine sw_iconst (pc := 415) (v := 1) hc dL_law_415 (by decide) ?_
        refine sw_icmp_le (pc := 416) (tgt := 423) hc dL_law_416 (by decide) (fun c47 => absurd c47 (by rw [hJ]; rcases bI_01 (P := rRef σ r) with q | q <;> rw [q] <;> decide)) (fun _ => ?_)
        refine sw_iconst (pc := 419) (v := 1) hc dL_law_419 (by decide) ?_
        refine sw_goto (pc := 420) (tgt := 424) hc dL_law_420 (by decide) ?_
        refine sw_icmp_eq (pc := 424) (tgt := 482) hc dL_law_424 (by decide) (fun c48 => absurd c48 (by decide)) (fun _ => ?_)
        refine sw_aload_n (pc := 427) hc dL_law_427 rfl 6 rfl ?_
        refine sw_iload (pc := 428) hc dL_law_428 2 rfl ?_
        obtain ⟨fs52, hx53⟩ := hG18.gate
        refine sw_callV (pc := 430) (rest := []) hc (m_judged l (nI r) hst hG18 (hG18.wx.run_in (by exact hr))) md_X7_judged ml_RL_43 im_X7_judged sl_X7_judged hx53 rfl rfl rfl (Nat.le_of_ble_eq_true rfl) dL_law_430 ⟨Nat.le_of_ble_eq_true rfl, Nat.le_of_ble_eq_true rfl, (by show k0 + 0 + 0 + 700 + 16 + 16 ≤ 600086; omega), (by show n0 + 0 + 0 + 4200 + 96 + 96 ≤ 7301442; omega)⟩ (fun v49 C51 hP50 => ?_) (fun _ _ hf => hf.elim)
        obtain ⟨rfl, hG54⟩ := hP50
        refine sw_st (st' := [.int (rJd (st2 σ 21 r (1 - σ 21 r)) (iN (nI r)))]) rfl ?_
        refine sw_cv (y := bI (rRef σ r) + 2 * 0) (by rw [iN_nI (by omega), hJ2]) ?_
        refine sw_iload (pc := 433) hc dL_law_433 0 rfl ?_
        refine sw_if_eq (pc := 435) (tgt := 448) hc dL_law_435 (by decide) (fun _ => ?_) (fun c55 => absurd rfl c55)
        refine sw_aload (pc := 448) hc dL_law_448 1 rfl ?_
        refine sw_iload (pc := 450) hc dL_law_450 2 rfl ?_
        refine sw_iald (pc := 452) (j := r) hc (hG54.at 2 rfl) rfl (by omega) (by decide) dL_law_452 ?_
        refine sw_cv (y := rJd σ r) (tellF_j hr (by omega)) ?_
        refine sw_iconst (pc := 453) (v := 2) hc dL_law_453 (by decide) ?_
        refine sw_isub (pc := 454) hc dL_law_454 ?_
        refine sw_icmp_ne (pc := 455) (tgt := 482) hc dL_law_455 (by decide) (fun c56 => absurd c56 (fun zf => zf (by rw [hJ]; rcases bI_01 (P := rRef σ r) with q | q <;> rw [q] <;> decide))) (fun _ => ?_)
        refine sw_aload_n (pc := 458) hc dL_law_458 rfl 6 rfl ?_
        refine sw_iload (pc := 459) hc dL_law_459 2 rfl ?_
        obtain ⟨fs60, hx61⟩ := hG54.gate
        refine sw_callV (pc := 461) (rest := []) hc (m_strike l (nI r) hst hG54 (hG54.wx.run_in (by exact hr))) md_X7_strike ml_RL_136 im_X7_strike sl_X7_strike hx61 rfl rfl rfl (Nat.le_of_ble_eq_true rfl) dL_law_461 ⟨Nat.le_of_ble_eq_true rfl, Nat.le_of_ble_eq_true rfl, (by show k0 + 0 + 0 + 700 + 16 + 16 + 16 ≤ 600086; omega), (by show n0 + 0 + 0 + 4200 + 96 + 96 + 96 ≤ 7301442; omega)⟩ (fun v57 C59 hP58 => ?_) (fun _ _ hf => hf.elim)
        obtain ⟨rfl, hG62⟩ := hP58
        rw [iN_nI (show r < 2 ^ 31 by omega), strike_2 hW] at hG62
        refine sw_st (st' := [.int (bI (1 - st2 σ 21 r (1 - σ 21 r) 21 (iN (nI r)) = 1))]) rfl ?_
        refine sw_cv (y := 1) (by rw [iN_nI (by omega), st2_ss, hs]; decide) ?_
        refine sw_iload (pc := 464) hc dL_law_464 0 rfl ?_
        refine sw_icmp_eq (pc := 466) (tgt := 482) hc dL_law_466 (by decide) (fun c63 => absurd c63 (by decide)) (fun _ => ?_)
        refine sw_aload (pc := 469) hc dL_law_469 1 rfl ?_
        refine sw_aload_n (pc := 471) hc dL_law_471 rfl 6 rfl ?_
        refine sw_aload_n (pc := 472) hc dL_law_472 rfl 7 rfl ?_
        refine sw_callS (pc := 473) (rest := [.ref r10]) hc (c_L_tell l g _ x0 nA σ _ fn hst hI hN hG62) md_L_tell ml_RL_124 st_L_tell rfl rfl (Nat.le_of_ble_eq_true rfl) dL_law_473 ⟨Nat.le_of_ble_eq_true rfl, Nat.le_of_ble_eq_true rfl, (by show k0 + 0 + 0 + 700 + 16 + 16 + 16 + 700 ≤ 600086; omega), (by show n0 + 0 + 0 + 4200 + 96 + 96 + 96 + 4200 ≤ 7301442; omega)⟩ (fun v64 C66 hP65 => ?_) (fun _ _ hf => hf.elim)
        obtain ⟨r67, rfl, hG68⟩ := hP65
        have hG69 := hG68.rot
        refine sw_st (st' := [.ref r67, .ref r10]) rfl ?_
        refine sw_callS (pc := 476) (rest := []) hc (c_L_same l g _ r10 r67 (tellF σ) (tellF σ) (hG69.at 3 rfl) (hG69.at 2 rfl)) md_L_same ml_RL_132 st_L_same rfl rfl (Nat.le_of_ble_eq_true rfl) dL_law_476 ⟨Nat.le_of_ble_eq_true rfl, Nat.le_of_ble_eq_true rfl, (by show k0 + 0 + 0 + 700 + 16 + 16 + 16 + 700 + 0 ≤ 600086; omega), (by show n0 + 0 + 0 + 4200 + 96 + 96 + 96 + 4200 + 0 ≤ 7301442; omega)⟩ (fun v70 C72 hP71 => ?_) (fun _ _ hf => hf.elim)
        obtain ⟨⟨sv1, rfl, hsv⟩, rfl⟩ := hP71
        have hsv1 := hsv (fun _ _ => rfl)
        subst hsv1
        refine sw_st (st' := [.int 1]) rfl ?_
        refine sw_if_ne (pc := 479) (tgt := 484) hc dL_law_479 (by decide) (fun _ => ?_) (fun c73 => absurd c73 (by decide))
        have hGd : GK g x0 σ [(nA, sg_ia g 4 fn), (wA, sg_ia g 48 fw)] _ := hG69.drop2
        exact sw_sub (ks := [3, 4, 5, 6, 7, 8, 9]) (lv' := [(7, .int yy), (6, .int xx), (5, .int (nI e1)), (1, .ref x0), (2, .ref nA), (3, .ref wA), (0, .ref b)]) rfl (sw_widen (by omega) (by omega) (law_b hc hA hX hL hst hI hN hw kend (k0 := k0) (n0 := n0) (by omega) (by omega) hGd))

