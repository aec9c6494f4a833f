/-! the law's look at the boards -/
theorem pl1_0 {σ : Mem} (hW : WX σ) (s : Nat) : ∀ n, n ≤ 10 → (rPl1 σ s n).2.2 = 0 ∨ ∃ U : Nat, (rPl1 σ s n).2.1 = nI U ∧ U ≤ 1000 * n ∧ (U = 0 → (rPl1 σ s n).1 = 0)
  | 0, _ => .inr ⟨0, rfl, by decide, fun _ => rfl⟩
  | n + 1, hn => by
    have ih := pl1_0 hW s n (by omega)
    unfold rPl1
    by_cases q : rBit s n
    · rw [if_pos q]
      dsimp only
      rcases ih with h | ⟨U, h1, h2, h3⟩
      · rw [h]
        exact .inl Int32.zero_and
      · rcases est_c (x := σ 27 n) hW (σ 28 n) with ⟨e, -⟩ | ⟨E, e, e1, e2, -⟩
        · refine .inl ?_
          rw [e, bI_f (P := (0 : Int32) ≤ -1) (by decide)]
          exact Int32.and_zero
        · rw [e, h1]
          exact .inr ⟨U + E, nI_add _ _, by omega, fun z => by omega⟩
    · rw [if_neg q]
      rcases ih with h | ⟨U, h1, h2, h3⟩
      · exact .inl h
      · exact .inr ⟨U, h1, by omega, h3⟩
theorem plan_0 {σ : Mem} (hW : WX σ) : rPlan σ 0 = 0 := by
  have hO : iN (σ 30 0) ≤ 10 := by have := hW.1.2.2.2.2.1.2; omega
  have h : ∀ s, rPl2 σ 0 (iN (σ 30 0)) s = (0, 0, 0) := by
    intro s
    induction s with
    | zero => rfl
    | succ s ih =>
      unfold rPl2
      rw [ih, if_neg]
      intro q
      obtain ⟨q1, q2, q3⟩ := q
      rcases pl1_0 hW s _ hO with h | ⟨U, h1, h2, h3⟩
      · exact q1 h
      · rw [h1] at q2 q3
        have hU : U ≤ 0 := (nI_leI (b := 0) (by omega) (by decide)).mp q2
        have hU0 : U = 0 := by omega
        rw [h3 hU0, hU0] at q3
        rcases q3 with q3 | q3
        · exact absurd q3 (by decide)
        · exact absurd q3.2 (by decide)
  unfold rPlan
  rw [h]
theorem mny_s (σ : Mem) (x : Int32) (n : Nat) : mny σ x (n + 1) = mny σ x n + if pr σ x n then 1 else 0 := rfl
theorem vPlan_0 {σ : Mem} (hW : WX σ) : (if kPlan 0 = 0 then vPlan σ 0 else xa (kPlan 0)) = 0 := by
  rw [if_pos (show kPlan 0 = 0 from if_pos (by decide)), vPlan_d (by decide)]
  exact plan_0 hW
theorem vJd_n {σ : Mem} {x : Int32} (h : ¬ rIn σ 26 x) : (if kIn σ 26 x = 0 then vJudged σ x else x1 (kIn σ 26 x)) = -2 := by
  have hk : kIn σ 26 x = 1 := if_neg h
  rw [hk]
  rfl
theorem rIn_26n {σ : Mem} (hW : WX σ) : ¬ rIn σ 26 (nI (iN (σ 26 0))) := fun q => by
  have h := rIn_x hW.1.2.2.2.1 (by decide) q
  rw [iN_nI (by have := hW.n41; omega)] at h
  exact absurd h.2 (Nat.lt_irrefl _)
theorem rJd_0 {σ : Mem} {k : Nat} (h : rCnt σ k) : rJd σ k = 0 := by
  unfold rJd
  rw [bI_f h.2, h.1]
  rfl
theorem md_X7_bestAnew : sg_MD yX7_bestAnew cX7_bestAnew 8 (some .int) 2 := ⟨sg_mem (i := 748) (by decide +kernel) rfl, sg_mem (i := 26) (by decide +kernel) rfl, ⟨by decide, by decide⟩, by decide +kernel⟩
theorem ml_RL_72 : sg_ML RL 72 yX7_bestAnew := .inl (sg_mem (i := 745) (by decide +kernel) rfl)
theorem im_X7_bestAnew : Cond.instanceMethod yX7_bestAnew ∈ sg_T := sg_mem (i := 746) (by decide +kernel) rfl
theorem sl_X7_bestAnew : Cond.selects yX7_bestAnew.cls yX7_bestAnew yX7_bestAnew ∈ sg_T := sg_mem (i := 747) (by decide +kernel) rfl
theorem md_X7_estimate : sg_MD yX7_estimate cX7_estimate 4 (some .int) 2 := ⟨sg_mem (i := 756) (by decide +kernel) rfl, sg_mem (i := 26) (by decide +kernel) rfl, ⟨by decide, by decide⟩, by decide +kernel⟩
theorem ml_RL_75 : sg_ML RL 75 yX7_estimate := .inl (sg_mem (i := 753) (by decide +kernel) rfl)
theorem im_X7_estimate : Cond.instanceMethod yX7_estimate ∈ sg_T := sg_mem (i := 754) (by decide +kernel) rfl
theorem sl_X7_estimate : Cond.selects yX7_estimate.cls yX7_estimate yX7_estimate ∈ sg_T := sg_mem (i := 755) (by decide +kernel) rfl
theorem md_X7_placeWithout : sg_MD yX7_placeWithout cX7_placeWithout 3 (some .int) 1 := ⟨sg_mem (i := 760) (by decide +kernel) rfl, sg_mem (i := 26) (by decide +kernel) rfl, ⟨by decide, by decide⟩, by decide +kernel⟩
theorem ml_RL_78 : sg_ML RL 78 yX7_placeWithout := .inl (sg_mem (i := 757) (by decide +kernel) rfl)
theorem im_X7_placeWithout : Cond.instanceMethod yX7_placeWithout ∈ sg_T := sg_mem (i := 758) (by decide +kernel) rfl
theorem sl_X7_placeWithout : Cond.selects yX7_placeWithout.cls yX7_placeWithout yX7_placeWithout ∈ sg_T := sg_mem (i := 759) (by decide +kernel) rfl
theorem lk_RL_81 : Cond.methodLink RL 81 yL_at ∈ sg_T := sg_mem (i := 761) (by decide +kernel) rfl
theorem st_L_at : Cond.static yL_at ∈ sg_T := sg_mem (i := 762) (by decide +kernel) rfl
theorem lk_RL_84 : Cond.methodLink RL 84 yL_plan ∈ sg_T := sg_mem (i := 670) (by decide +kernel) rfl
theorem st_L_plan : Cond.static yL_plan ∈ sg_T := sg_mem (i := 671) (by decide +kernel) rfl
theorem lk_RL_87 : Cond.methodLink RL 87 yL_judged ∈ sg_T := sg_mem (i := 667) (by decide +kernel) rfl
theorem st_L_judged : Cond.static yL_judged ∈ sg_T := sg_mem (i := 668) (by decide +kernel) rfl
set_option maxHeartbeats 4000000 in
set_option maxRecDepth 100000 in
theorem bd_n {p : Program} {l : Launch} {e : Env} {s : State} {m : MethodId} {below : List Frame} {meth : Method} {c : Code} {Q : State → Prop} {args : Array Value} {g : sg_G} {x0 nA wA : Nat} {σ : Mem} {K : va_W} {fn fw : Nat → Int32} (hc : sg_Cx p s m args c cL_boards 9 RL g) (hst : l.stackTraces = false) (hI : IV σ) (hN : NA σ fn) (hw : WA σ fw) {d u k n : Nat} {C : Nat → Option va_E} (hd : d < 2) (hu : u < 8) (h1 : k + 112 ≤ 2800) (h2 : n + 672 ≤ 16800) (hp : ¬ pr σ (nI d) u) (hG : GK g x0 σ ((nA, sg_ia g 4 fn) :: (wA, sg_ia g 48 fw) :: K) C) (kk : ∀ C, GK g x0 σ ((nA, sg_ia g 4 fn) :: (wA, sg_ia g 48 fw) :: K) C → sg_W p l e (sg_rm 11 250 2800 16800) s m args below meth c 9 g (k + 112) (n + 672) Q C 194 [(5, .int (nI u)), (4, .int (nI (mny σ (nI d) (u + 1)))), (3, .int (nI d)), (0, .ref x0), (1, .ref nA), (2, .ref wA)] []) : sg_W p l e (sg_rm 11 250 2800 16800) s m args below meth c 9 g k n Q C 22 [(5, .int (nI u)), (4, .int (nI (mny σ (nI d) u))), (3, .int (nI d)), (0, .ref x0), (1, .ref nA), (2, .ref wA)] [] := by
  have hW := hG.wx
  have hn := pr_n hW hp
  refine sw_aload_n (pc := 22) hc dL_boards_22 rfl 3 rfl ?_
  refine sw_iload_n (pc := 23) hc dL_boards_23 rfl 2 rfl ?_
  refine sw_iload (pc := 24) hc dL_boards_24 0 rfl ?_
  obtain ⟨fs4, hx5⟩ := hG.gate
  refine sw_callV (pc := 26) (rest := []) hc (m_best l (nI d) (nI u) hst hG (hI.pair hd hu)) md_X7_best ml_RL_52 im_X7_best sl_X7_best hx5 rfl rfl rfl (Nat.le_of_ble_eq_true rfl) dL_boards_26 ⟨Nat.le_of_ble_eq_true rfl, Nat.le_of_ble_eq_true rfl, (by show k + 16 ≤ 2800; omega), (by show n + 96 ≤ 16800; omega)⟩ (fun v1 C3 hP2 => ?_) (fun _ _ hf => hf.elim)
  obtain ⟨rfl, hG6⟩ := hP2
  refine sw_st (st' := [.int (rTopN σ (nI d) (nI u) (-1))]) rfl ?_
  refine sw_cv (y := (-1)) hn.1 ?_
  refine sw_istore (pc := 29) hc dL_boards_29 (by decide) (lv' := [(6, .int (-1)), (5, .int (nI u)), (4, .int (nI (mny σ (nI d) u))), (3, .int (nI d)), (0, .ref x0), (1, .ref nA), (2, .ref wA)]) rfl ?_
  refine sw_aload_n (pc := 31) hc dL_boards_31 rfl 4 rfl ?_
  refine sw_iload_n (pc := 32) hc dL_boards_32 rfl 3 rfl ?_
  refine sw_iload (pc := 33) hc dL_boards_33 1 rfl ?_
  obtain ⟨fs10, hx11⟩ := hG6.gate
  refine sw_callV (pc := 35) (rest := []) hc (m_place l (nI d) (nI u) hst hG6 (hI.pair hd hu)) md_X7_place ml_RL_55 im_X7_place sl_X7_place hx11 rfl rfl rfl (Nat.le_of_ble_eq_true rfl) dL_boards_35 ⟨Nat.le_of_ble_eq_true rfl, Nat.le_of_ble_eq_true rfl, (by show k + 16 + 16 ≤ 2800; omega), (by show n + 96 + 96 ≤ 16800; omega)⟩ (fun v7 C9 hP8 => ?_) (fun _ _ hf => hf.elim)
  obtain ⟨rfl, hG12⟩ := hP8
  refine sw_st (st' := [.int (rSpot σ (nI d) (nI u) (-1))]) rfl ?_
  refine sw_cv (y := (-1)) (spot_n hW hp) ?_
  refine sw_istore (pc := 38) hc dL_boards_38 (by decide) (lv' := [(7, .int (-1)), (6, .int (-1)), (5, .int (nI u)), (4, .int (nI (mny σ (nI d) u))), (3, .int (nI d)), (0, .ref x0), (1, .ref nA), (2, .ref wA)]) rfl ?_
  refine sw_iload (pc := 40) hc dL_boards_40 3 rfl ?_
  refine sw_iload (pc := 42) hc dL_boards_42 1 rfl ?_
  refine sw_if_ge (pc := 44) (tgt := 51) hc dL_boards_44 (by decide) (fun c13 => absurd c13 (by decide)) (fun _ => ?_)
  refine sw_iconst (pc := 47) (v := 0) hc dL_boards_47 (by decide) ?_
  refine sw_goto (pc := 48) (tgt := 52) hc dL_boards_48 (by decide) ?_
  refine sw_iadd (pc := 52) hc dL_boards_52 ?_
  refine sw_cv (y := nI (mny σ (nI d) (u + 1))) (by rw [mny_s, if_neg hp]; exact nI_add _ 0) ?_
  refine sw_istore (pc := 53) hc dL_boards_53 (by decide) (lv' := [(4, .int (nI (mny σ (nI d) (u + 1)))), (7, .int (-1)), (6, .int (-1)), (5, .int (nI u)), (3, .int (nI d)), (0, .ref x0), (1, .ref nA), (2, .ref wA)]) rfl ?_
  refine sw_iload (pc := 55) hc dL_boards_55 2 rfl ?_
  refine sw_aload_n (pc := 57) hc dL_boards_57 rfl 5 rfl ?_
  refine sw_iload_n (pc := 58) hc dL_boards_58 rfl 4 rfl ?_
  refine sw_iload (pc := 59) hc dL_boards_59 3 rfl ?_
  obtain ⟨fs17, hx18⟩ := hG12.gate
  refine sw_callV (pc := 61) (rest := [.int (-1)]) hc (m_bestAnew l (nI d) (nI u) hst hG12 (hI.pair hd hu)) md_X7_bestAnew ml_RL_72 im_X7_bestAnew sl_X7_bestAnew hx18 rfl rfl rfl (Nat.le_of_ble_eq_true rfl) dL_boards_61 ⟨Nat.le_of_ble_eq_true rfl, Nat.le_of_ble_eq_true rfl, (by show k + 16 + 16 + 16 ≤ 2800; omega), (by show n + 96 + 96 + 96 ≤ 16800; omega)⟩ (fun v14 C16 hP15 => ?_) (fun _ _ hf => hf.elim)
  obtain ⟨rfl, hG19⟩ := hP15
  refine sw_st (st' := [.int ((cBA σ (nI d) (nI u) (iN (σ 26 0))).1), .int (-1)]) rfl ?_
  refine sw_cv (y := (-1)) ((anew_c hW _).trans hn.1) ?_
  refine sw_icmp_ne (pc := 64) (tgt := 125) hc dL_boards_64 (by decide) (fun c20 => absurd c20 (fun zf => zf rfl)) (fun _ => ?_)
  refine sw_iload (pc := 67) hc dL_boards_67 2 rfl ?_
  refine sw_if_ge (pc := 69) (tgt := 76) hc dL_boards_69 (by decide) (fun c21 => absurd c21 (by decide)) (fun _ => ?_)
  refine sw_iconst (pc := 72) (v := 1) hc dL_boards_72 (by decide) ?_
  refine sw_goto (pc := 73) (tgt := 77) hc dL_boards_73 (by decide) ?_
  refine sw_iload (pc := 77) hc dL_boards_77 1 rfl ?_
  refine sw_if_ge (pc := 79) (tgt := 86) hc dL_boards_79 (by decide) (fun c22 => absurd c22 (by decide)) (fun _ => ?_)
  refine sw_iconst (pc := 82) (v := 1) hc dL_boards_82 (by decide) ?_
  refine sw_goto (pc := 83) (tgt := 87) hc dL_boards_83 (by decide) ?_
  refine sw_icmp_ne (pc := 87) (tgt := 125) hc dL_boards_87 (by decide) (fun c23 => absurd c23 (fun zf => zf rfl)) (fun _ => ?_)
  refine sw_iload (pc := 90) hc dL_boards_90 2 rfl ?_
  refine sw_if_ge (pc := 92) (tgt := 99) hc dL_boards_92 (by decide) (fun c24 => absurd c24 (by decide)) (fun _ => ?_)
  refine sw_iconst (pc := 95) (v := 1) hc dL_boards_95 (by decide) ?_
  refine sw_goto (pc := 96) (tgt := 100) hc dL_boards_96 (by decide) ?_
  refine sw_aload_n (pc := 100) hc dL_boards_100 rfl 5 rfl ?_
  refine sw_iload_n (pc := 101) hc dL_boards_101 rfl 4 rfl ?_
  refine sw_iload (pc := 102) hc dL_boards_102 3 rfl ?_
  obtain ⟨fs28, hx29⟩ := hG19.gate
  refine sw_callV (pc := 104) (rest := [.int 1]) hc (m_estimate l (nI d) (nI u) hst hG19 (hI.pair hd hu)) md_X7_estimate ml_RL_75 im_X7_estimate sl_X7_estimate hx29 rfl rfl rfl (Nat.le_of_ble_eq_true rfl) dL_boards_104 ⟨Nat.le_of_ble_eq_true rfl, Nat.le_of_ble_eq_true rfl, (by show k + 16 + 16 + 16 + 16 ≤ 2800; omega), (by show n + 96 + 96 + 96 + 96 ≤ 16800; omega)⟩ (fun v25 C27 hP26 => ?_) (fun _ _ hf => hf.elim)
  obtain ⟨rfl, hG30⟩ := hP26
  refine sw_st (st' := [.int (rGuess σ (nI d) (nI u)), .int 1]) rfl ?_
  refine sw_cv (y := (-1)) (est_n hW hp) ?_
  refine sw_if_ge (pc := 107) (tgt := 114) hc dL_boards_107 (by decide) (fun c31 => absurd c31 (by decide)) (fun _ => ?_)
  refine sw_iconst (pc := 110) (v := 1) hc dL_boards_110 (by decide) ?_
  refine sw_goto (pc := 111) (tgt := 115) hc dL_boards_111 (by decide) ?_
  refine sw_icmp_ne (pc := 115) (tgt := 125) hc dL_boards_115 (by decide) (fun c32 => absurd c32 (fun zf => zf rfl)) (fun _ => ?_)
  refine sw_iload (pc := 118) hc dL_boards_118 1 rfl ?_
  refine sw_bipush (pc := 120) (v := 8) hc dL_boards_120 (by decide) ?_
  refine sw_icmp_le (pc := 122) (tgt := 127) hc dL_boards_122 (by decide) (fun _ => ?_) (fun c33 => absurd (by decide) c33)
  refine sw_iload (pc := 127) hc dL_boards_127 2 rfl ?_
  refine sw_if_lt (pc := 129) (tgt := 194) hc dL_boards_129 (by decide) (fun _ => ?_) (fun c34 => absurd (by decide) c34)
  refine sw_sub (ks := [3, 0, 4, 5, 6, 7]) (lv' := [(5, .int (nI u)), (4, .int (nI (mny σ (nI d) (u + 1)))), (3, .int (nI d)), (0, .ref x0), (1, .ref nA), (2, .ref wA)]) rfl ?_
  exact sw_widen (by omega) (by omega) (kk _ hG30)

set_option maxHeartbeats 4000000 in
set_option maxRecDepth 100000 in
theorem bd_y {p : Program} {l : Launch} {e : Env} {s : State} {m : MethodId} {below : List Frame} {meth : Method} {c : Code} {Q : State → Prop} {args : Array Value} {g : sg_G} {x0 nA wA : Nat} {σ : Mem} {K : va_W} {fn fw : Nat → Int32} (hc : sg_Cx p s m args c cL_boards 9 RL g) (hst : l.stackTraces = false) (hI : IV σ) (hN : NA σ fn) (hw : WA σ fw) {d u k n : Nat} {C : Nat → Option va_E} (hd : d < 2) (hu : u < 8) (h1 : k + 112 ≤ 2800) (h2 : n + 672 ≤ 16800) (hp : pr σ (nI d) u) (hG : GK g x0 σ ((nA, sg_ia g 4 fn) :: (wA, sg_ia g 48 fw) :: K) C) (kk : ∀ C, GK g x0 σ ((nA, sg_ia g 4 fn) :: (wA, sg_ia g 48 fw) :: K) C → sg_W p l e (sg_rm 11 250 2800 16800) s m args below meth c 9 g (k + 112) (n + 672) Q C 194 [(5, .int (nI u)), (4, .int (nI (mny σ (nI d) (u + 1)))), (3, .int (nI d)), (0, .ref x0), (1, .ref nA), (2, .ref wA)] []) : sg_W p l e (sg_rm 11 250 2800 16800) s m args below meth c 9 g k n Q C 22 [(5, .int (nI u)), (4, .int (nI (mny σ (nI d) u))), (3, .int (nI d)), (0, .ref x0), (1, .ref nA), (2, .ref wA)] [] := by
  have hW := hG.wx
  have h40 := hW.n41
  have hI24 := hI.2.2.2.2.1
  have hb := pr_y hW hp
  have hpw := pw_c hW hu hp
  have eP := spot_y hW hp
  have hP := plc_8 (σ := σ) (x := nI d) hu
  generalize bi σ (nI d) u = b at hb hpw
  generalize plc σ (nI d) u = P at hpw eP hP
  refine sw_aload_n (pc := 22) hc dL_boards_22 rfl 3 rfl ?_
  refine sw_iload_n (pc := 23) hc dL_boards_23 rfl 2 rfl ?_
  refine sw_iload (pc := 24) hc dL_boards_24 0 rfl ?_
  obtain ⟨fs4, hx5⟩ := hG.gate
  refine sw_callV (pc := 26) (rest := []) hc (m_best l (nI d) (nI u) hst hG (hI.pair hd hu)) md_X7_best ml_RL_52 im_X7_best sl_X7_best hx5 rfl rfl rfl (Nat.le_of_ble_eq_true rfl) dL_boards_26 ⟨Nat.le_of_ble_eq_true rfl, Nat.le_of_ble_eq_true rfl, (by show k + 16 ≤ 2800; omega), (by show n + 96 ≤ 16800; omega)⟩ (fun v1 C3 hP2 => ?_) (fun _ _ hf => hf.elim)
  obtain ⟨rfl, hG6⟩ := hP2
  refine sw_st (st' := [.int (rTopN σ (nI d) (nI u) (-1))]) rfl ?_
  refine sw_cv (y := nI b) hb.2.1 ?_
  refine sw_istore (pc := 29) hc dL_boards_29 (by decide) (lv' := [(6, .int (nI b)), (5, .int (nI u)), (4, .int (nI (mny σ (nI d) u))), (3, .int (nI d)), (0, .ref x0), (1, .ref nA), (2, .ref wA)]) rfl ?_
  refine sw_aload_n (pc := 31) hc dL_boards_31 rfl 4 rfl ?_
  refine sw_iload_n (pc := 32) hc dL_boards_32 rfl 3 rfl ?_
  refine sw_iload (pc := 33) hc dL_boards_33 1 rfl ?_
  obtain ⟨fs10, hx11⟩ := hG6.gate
  refine sw_callV (pc := 35) (rest := []) hc (m_place l (nI d) (nI u) hst hG6 (hI.pair hd hu)) md_X7_place ml_RL_55 im_X7_place sl_X7_place hx11 rfl rfl rfl (Nat.le_of_ble_eq_true rfl) dL_boards_35 ⟨Nat.le_of_ble_eq_true rfl, Nat.le_of_ble_eq_true rfl, (by show k + 16 + 16 ≤ 2800; omega), (by show n + 96 + 96 ≤ 16800; omega)⟩ (fun v7 C9 hP8 => ?_) (fun _ _ hf => hf.elim)
  obtain ⟨rfl, hG12⟩ := hP8
  refine sw_st (st' := [.int (rSpot σ (nI d) (nI u) (-1))]) rfl ?_
  refine sw_cv (y := nI P) eP ?_
  refine sw_istore (pc := 38) hc dL_boards_38 (by decide) (lv' := [(7, .int (nI P)), (6, .int (nI b)), (5, .int (nI u)), (4, .int (nI (mny σ (nI d) u))), (3, .int (nI d)), (0, .ref x0), (1, .ref nA), (2, .ref wA)]) rfl ?_
  refine sw_iload (pc := 40) hc dL_boards_40 3 rfl ?_
  refine sw_iload (pc := 42) hc dL_boards_42 1 rfl ?_
  refine sw_if_ge (pc := 44) (tgt := 51) hc dL_boards_44 (by decide) (fun _ => ?_) (fun c13 => absurd (nI_pos' (by omega)) c13)
  refine sw_iconst (pc := 51) (v := 1) hc dL_boards_51 (by decide) ?_
  refine sw_iadd (pc := 52) hc dL_boards_52 ?_
  refine sw_cv (y := nI (mny σ (nI d) (u + 1))) (by rw [mny_s, if_pos hp]; exact nI_add _ 1) ?_
  refine sw_istore (pc := 53) hc dL_boards_53 (by decide) (lv' := [(4, .int (nI (mny σ (nI d) (u + 1)))), (7, .int (nI P)), (6, .int (nI b)), (5, .int (nI u)), (3, .int (nI d)), (0, .ref x0), (1, .ref nA), (2, .ref wA)]) rfl ?_
  refine sw_iload (pc := 55) hc dL_boards_55 2 rfl ?_
  refine sw_aload_n (pc := 57) hc dL_boards_57 rfl 5 rfl ?_
  refine sw_iload_n (pc := 58) hc dL_boards_58 rfl 4 rfl ?_
  refine sw_iload (pc := 59) hc dL_boards_59 3 rfl ?_
  obtain ⟨fs17, hx18⟩ := hG12.gate
  refine sw_callV (pc := 61) (rest := [.int (nI b)]) hc (m_bestAnew l (nI d) (nI u) hst hG12 (hI.pair hd hu)) md_X7_bestAnew ml_RL_72 im_X7_bestAnew sl_X7_bestAnew hx18 rfl rfl rfl (Nat.le_of_ble_eq_true rfl) dL_boards_61 ⟨Nat.le_of_ble_eq_true rfl, Nat.le_of_ble_eq_true rfl, (by show k + 16 + 16 + 16 ≤ 2800; omega), (by show n + 96 + 96 + 96 ≤ 16800; omega)⟩ (fun v14 C16 hP15 => ?_) (fun _ _ hf => hf.elim)
  obtain ⟨rfl, hG19⟩ := hP15
  refine sw_st (st' := [.int ((cBA σ (nI d) (nI u) (iN (σ 26 0))).1), .int (nI b)]) rfl ?_
  refine sw_cv (y := nI b) ((anew_c hW _).trans hb.2.1) ?_
  refine sw_icmp_ne (pc := 64) (tgt := 125) hc dL_boards_64 (by decide) (fun c20 => absurd c20 (fun zf => zf rfl)) (fun _ => ?_)
  refine sw_iload (pc := 67) hc dL_boards_67 2 rfl ?_
  refine sw_if_ge (pc := 69) (tgt := 76) hc dL_boards_69 (by decide) (fun _ => ?_) (fun c21 => absurd (nI_pos' (by omega)) c21)
  refine sw_iconst (pc := 76) (v := 0) hc dL_boards_76 (by decide) ?_
  refine sw_iload (pc := 77) hc dL_boards_77 1 rfl ?_
  refine sw_if_ge (pc := 79) (tgt := 86) hc dL_boards_79 (by decide) (fun _ => ?_) (fun c22 => absurd (nI_pos' (by omega)) c22)
  refine sw_iconst (pc := 86) (v := 0) hc dL_boards_86 (by decide) ?_
  refine sw_icmp_ne (pc := 87) (tgt := 125) hc dL_boards_87 (by decide) (fun c23 => absurd c23 (fun zf => zf rfl)) (fun _ => ?_)
  refine sw_iload (pc := 90) hc dL_boards_90 2 rfl ?_
  refine sw_if_ge (pc := 92) (tgt := 99) hc dL_boards_92 (by decide) (fun _ => ?_) (fun c24 => absurd (nI_pos' (by omega)) c24)
  refine sw_iconst (pc := 99) (v := 0) hc dL_boards_99 (by decide) ?_
  refine sw_aload_n (pc := 100) hc dL_boards_100 rfl 5 rfl ?_
  refine sw_iload_n (pc := 101) hc dL_boards_101 rfl 4 rfl ?_
  refine sw_iload (pc := 102) hc dL_boards_102 3 rfl ?_
  obtain ⟨fs28, hx29⟩ := hG19.gate
  refine sw_callV (pc := 104) (rest := [.int 0]) hc (m_estimate l (nI d) (nI u) hst hG19 (hI.pair hd hu)) md_X7_estimate ml_RL_75 im_X7_estimate sl_X7_estimate hx29 rfl rfl rfl (Nat.le_of_ble_eq_true rfl) dL_boards_104 ⟨Nat.le_of_ble_eq_true rfl, Nat.le_of_ble_eq_true rfl, (by show k + 16 + 16 + 16 + 16 ≤ 2800; omega), (by show n + 96 + 96 + 96 + 96 ≤ 16800; omega)⟩ (fun v25 C27 hP26 => ?_) (fun _ _ hf => hf.elim)
  obtain ⟨rfl, hG30⟩ := hP26
  refine sw_st (st' := [.int (rGuess σ (nI d) (nI u)), .int 0]) rfl ?_
  refine sw_if_ge (pc := 107) (tgt := 114) hc dL_boards_107 (by decide) (fun _ => ?_) (fun c31 => absurd (Int32.not_lt.mp (est_y hW hp)) c31)
  refine sw_iconst (pc := 114) (v := 0) hc dL_boards_114 (by decide) ?_
  refine sw_icmp_ne (pc := 115) (tgt := 125) hc dL_boards_115 (by decide) (fun c32 => absurd c32 (fun zf => zf rfl)) (fun _ => ?_)
  refine sw_iload (pc := 118) hc dL_boards_118 1 rfl ?_
  refine sw_bipush (pc := 120) (v := 8) hc dL_boards_120 (by decide) ?_
  refine sw_icmp_le (pc := 122) (tgt := 127) hc dL_boards_122 (by decide) (fun _ => ?_) (fun c33 => absurd (nI_le (b := 8) (by omega) (by decide)) c33)
  refine sw_iload (pc := 127) hc dL_boards_127 2 rfl ?_
  refine sw_if_lt (pc := 129) (tgt := 194) hc dL_boards_129 (by decide) (fun c34 => absurd c34 (nI_pos (by omega))) (fun _ => ?_)
  refine sw_iload (pc := 132) hc dL_boards_132 2 rfl ?_
  refine sw_aload_n (pc := 134) hc dL_boards_134 rfl 6 rfl ?_
  refine sw_iconst (pc := 135) (v := 2) hc dL_boards_135 (by decide) ?_
  refine sw_iald (pc := 136) (j := 2) hc (hG30.at 0 rfl) rfl (by decide) (by decide) dL_boards_136 ?_
  refine sw_cv (y := nI (iN (σ 26 0))) hN.2.2.1 ?_
  refine sw_icmp_ge (pc := 137) (tgt := 192) hc dL_boards_137 (by decide) (fun c35 => absurd c35 (nI_ge hb.1 (by omega))) (fun _ => ?_)
  refine sw_aload_n (pc := 140) hc dL_boards_140 rfl 7 rfl ?_
  refine sw_iconst (pc := 141) (v := 2) hc dL_boards_141 (by decide) ?_
  refine sw_iload (pc := 142) hc dL_boards_142 2 rfl ?_
  refine sw_imul (pc := 144) hc dL_boards_144 ?_
  refine sw_iald (pc := 145) (j := 2 * b) hc (hG30.at 1 rfl) (pk_mul 2 b) (by omega) (by decide) dL_boards_145 ?_
  refine sw_cv (y := nI u) ((hw b hb.1).1.trans hb.2.2.1.2.2.1) ?_
  refine sw_iload (pc := 146) hc dL_boards_146 3 rfl ?_
  refine sw_icmp_ne (pc := 148) (tgt := 192) hc dL_boards_148 (by decide) (fun c36 => absurd c36 (fun zf => zf rfl)) (fun _ => ?_)
  refine sw_aload_n (pc := 151) hc dL_boards_151 rfl 7 rfl ?_
  refine sw_iconst (pc := 152) (v := 2) hc dL_boards_152 (by decide) ?_
  refine sw_iload (pc := 153) hc dL_boards_153 2 rfl ?_
  refine sw_imul (pc := 155) hc dL_boards_155 ?_
  refine sw_iconst (pc := 156) (v := 1) hc dL_boards_156 (by decide) ?_
  refine sw_iadd (pc := 157) hc dL_boards_157 ?_
  refine sw_iald (pc := 158) (j := 2 * b + 1) hc (hG30.at 1 rfl) ((congrArg (fun z => z + 1) (pk_mul 2 b)).trans (nI_1 _)) (by omega) (by decide) dL_boards_158 ?_
  refine sw_cv (y := nI d) ((hw b hb.1).2.trans hb.2.2.1.2.1) ?_
  refine sw_iload_n (pc := 159) hc dL_boards_159 rfl 4 rfl ?_
  refine sw_icmp_ne (pc := 160) (tgt := 192) hc dL_boards_160 (by decide) (fun c37 => absurd c37 (fun zf => zf rfl)) (fun _ => ?_)
  refine sw_aload_n (pc := 163) hc dL_boards_163 rfl 5 rfl ?_
  refine sw_iload (pc := 164) hc dL_boards_164 2 rfl ?_
  obtain ⟨fs41, hx42⟩ := hG30.gate
  refine sw_callV (pc := 166) (rest := []) hc (m_judged l (nI b) hst hG30 (hW.run_in hb.1)) md_X7_judged ml_RL_43 im_X7_judged sl_X7_judged hx42 rfl rfl rfl (Nat.le_of_ble_eq_true rfl) dL_boards_166 ⟨Nat.le_of_ble_eq_true rfl, Nat.le_of_ble_eq_true rfl, (by show k + 16 + 16 + 16 + 16 + 16 ≤ 2800; omega), (by show n + 96 + 96 + 96 + 96 + 96 ≤ 16800; omega)⟩ (fun v38 C40 hP39 => ?_) (fun _ _ hf => hf.elim)
  obtain ⟨rfl, hG43⟩ := hP39
  refine sw_st (st' := [.int (rJd σ (iN (nI b)))]) rfl ?_
  refine sw_cv (y := 0) (by rw [iN_nI (by omega)]; exact rJd_0 hb.2.2.1.2.2.2) ?_
  refine sw_if_ne (pc := 169) (tgt := 192) hc dL_boards_169 (by decide) (fun c44 => absurd c44 (fun zf => zf rfl)) (fun _ => ?_)
  refine sw_aload_n (pc := 172) hc dL_boards_172 rfl 5 rfl ?_
  refine sw_iload (pc := 173) hc dL_boards_173 2 rfl ?_
  obtain ⟨fs48, hx49⟩ := hG43.gate
  refine sw_callV (pc := 175) (rest := []) hc (m_placeWithout l (nI b) hst hG43 (hW.run_in hb.1)) md_X7_placeWithout ml_RL_78 im_X7_placeWithout sl_X7_placeWithout hx49 rfl rfl rfl (Nat.le_of_ble_eq_true rfl) dL_boards_175 ⟨Nat.le_of_ble_eq_true rfl, Nat.le_of_ble_eq_true rfl, (by show k + 16 + 16 + 16 + 16 + 16 + 16 ≤ 2800; omega), (by show n + 96 + 96 + 96 + 96 + 96 + 96 ≤ 16800; omega)⟩ (fun v45 C47 hP46 => ?_) (fun _ _ hf => hf.elim)
  obtain ⟨rfl, hG50⟩ := hP46
  refine sw_st (st' := [.int (rSpot σ (σ 19 (iN (nI b))) (σ 18 (iN (nI b))) (nI b))]) rfl ?_
  refine sw_cv (y := rSpot σ (nI d) (nI u) (nI b)) (by rw [iN_nI (by omega), hb.2.2.1.2.1, hb.2.2.1.2.2.1]) ?_
  rcases hpw with hq | ⟨P2, e2, p1, p2⟩
  ·
    refine sw_if_lt (pc := 178) (tgt := 194) hc dL_boards_178 (by decide) (fun _ => ?_) (fun c51 => absurd hq c51)
    refine sw_sub (ks := [3, 0, 4, 5, 6, 7]) (lv' := [(5, .int (nI u)), (4, .int (nI (mny σ (nI d) (u + 1)))), (3, .int (nI d)), (0, .ref x0), (1, .ref nA), (2, .ref wA)]) rfl ?_
    exact sw_widen (by omega) (by omega) (kk _ hG50)
  ·
    refine sw_if_lt (pc := 178) (tgt := 194) hc dL_boards_178 (by decide) (fun c52 => absurd c52 (by rw [e2]; exact nI_pos (by omega))) (fun _ => ?_)
    refine sw_aload_n (pc := 181) hc dL_boards_181 rfl 5 rfl ?_
    refine sw_iload (pc := 182) hc dL_boards_182 2 rfl ?_
    obtain ⟨fs56, hx57⟩ := hG50.gate
    refine sw_callV (pc := 184) (rest := []) hc (m_placeWithout l (nI b) hst hG50 (hW.run_in hb.1)) md_X7_placeWithout ml_RL_78 im_X7_placeWithout sl_X7_placeWithout hx57 rfl rfl rfl (Nat.le_of_ble_eq_true rfl) dL_boards_184 ⟨Nat.le_of_ble_eq_true rfl, Nat.le_of_ble_eq_true rfl, (by show k + 16 + 16 + 16 + 16 + 16 + 16 + 16 ≤ 2800; omega), (by show n + 96 + 96 + 96 + 96 + 96 + 96 + 96 ≤ 16800; omega)⟩ (fun v53 C55 hP54 => ?_) (fun _ _ hf => hf.elim)
    obtain ⟨rfl, hG58⟩ := hP54
    refine sw_st (st' := [.int (rSpot σ (σ 19 (iN (nI b))) (σ 18 (iN (nI b))) (nI b))]) rfl ?_
    refine sw_cv (y := rSpot σ (nI d) (nI u) (nI b)) (by rw [iN_nI (by omega), hb.2.2.1.2.1, hb.2.2.1.2.2.1]) ?_
    refine sw_iload (pc := 187) hc dL_boards_187 1 rfl ?_
    refine sw_icmp_ge (pc := 189) (tgt := 194) hc dL_boards_189 (by decide) (fun _ => ?_) (fun c59 => absurd (by rw [e2]; exact nI_le p1 (by omega)) c59)
    refine sw_sub (ks := [3, 0, 4, 5, 6, 7]) (lv' := [(5, .int (nI u)), (4, .int (nI (mny σ (nI d) (u + 1)))), (3, .int (nI d)), (0, .ref x0), (1, .ref nA), (2, .ref wA)]) rfl ?_
    exact sw_widen (by omega) (by omega) (kk _ hG58)

set_option maxHeartbeats 4000000 in
set_option maxRecDepth 100000 in
theorem bd_8 {p : Program} {l : Launch} {e : Env} {s : State} {m : MethodId} {below : List Frame} {meth : Method} {c : Code} {Q : State → Prop} {args : Array Value} {g : sg_G} {x0 nA wA : Nat} {σ : Mem} {K : va_W} {fn fw : Nat → Int32} (hc : sg_Cx p s m args c cL_boards 9 RL g) (hst : l.stackTraces = false) (hI : IV σ) (hN : NA σ fn) (hw : WA σ fw) {d k0 n0 : Nat} (hd : d < 2) (hk0 : k0 + 896 ≤ 2800) (hn0 : n0 + 5376 ≤ 16800) (kend : ∀ C, GK g x0 σ ((nA, sg_ia g 4 fn) :: (wA, sg_ia g 48 fw) :: K) C → sg_W p l e (sg_rm 11 250 2800 16800) s m args below meth c 9 g (k0 + 896) (n0 + 5376) Q C 200 [(4, .int (nI (mny σ (nI d) 8))), (3, .int (nI d)), (0, .ref x0), (1, .ref nA), (2, .ref wA)] []) (n : Nat) : ∀ u C, u + n = 8 → GK g x0 σ ((nA, sg_ia g 4 fn) :: (wA, sg_ia g 48 fw) :: K) C → sg_W p l e (sg_rm 11 250 2800 16800) s m args below meth c 9 g (k0 + 112 * u) (n0 + 672 * u) Q C 15 [(5, .int (nI u)), (4, .int (nI (mny σ (nI d) u))), (3, .int (nI d)), (0, .ref x0), (1, .ref nA), (2, .ref wA)] [] := by
  induction n with
  | zero =>
    intro u C hu8 hG
    have e8 : u = 8 := by omega
    subst e8
    refine sw_iload (pc := 15) hc dL_boards_15 0 rfl ?_
    refine sw_bipush (pc := 17) (v := 8) hc dL_boards_17 (by decide) ?_
    refine sw_icmp_ge (pc := 19) (tgt := 200) hc dL_boards_19 (by decide) (fun _ => ?_) (fun c1 => absurd (nI_le (a := 8) (b := 8) (by decide) (by decide)) c1)
    exact sw_sub (ks := [1, 2, 3, 4, 5]) (lv' := [(4, .int (nI (mny σ (nI d) 8))), (3, .int (nI d)), (0, .ref x0), (1, .ref nA), (2, .ref wA)]) rfl (kend _ hG)
  | succ n ih =>
    intro u C hu8 hG
    have hu : u < 8 := by omega
    refine sw_iload (pc := 15) hc dL_boards_15 0 rfl ?_
    refine sw_bipush (pc := 17) (v := 8) hc dL_boards_17 (by decide) ?_
    refine sw_icmp_ge (pc := 19) (tgt := 200) hc dL_boards_19 (by decide) (fun c1 => absurd c1 (nI_ge (b := 8) hu (by decide))) (fun _ => ?_)
    have kk : ∀ C, GK g x0 σ ((nA, sg_ia g 4 fn) :: (wA, sg_ia g 48 fw) :: K) C → sg_W p l e (sg_rm 11 250 2800 16800) s m args below meth c 9 g (k0 + 112 * u + 112) (n0 + 672 * u + 672) Q C 194 [(5, .int (nI u)), (4, .int (nI (mny σ (nI d) (u + 1)))), (3, .int (nI d)), (0, .ref x0), (1, .ref nA), (2, .ref wA)] [] := by
      intro C hG
      refine sw_iinc (pc := 194) (v := nI (u + 1)) (lv' := [(5, .int (nI (u + 1))), (4, .int (nI (mny σ (nI d) (u + 1)))), (3, .int (nI d)), (0, .ref x0), (1, .ref nA), (2, .ref wA)]) hc dL_boards_194 (k := 0) rfl (nI_1 u) (by decide) rfl ?_
      refine sw_goto (pc := 197) (tgt := 15) hc dL_boards_197 (by decide) ?_
      exact sw_widen (by omega) (by omega) (ih (u + 1) _ (by omega) hG)
    by_cases hp : pr σ (nI d) u
    · exact bd_y hc hst hI hN hw hd hu (by omega) (by omega) hp hG kk
    · exact bd_n hc hst hI hN hw hd hu (by omega) (by omega) hp hG kk

set_option maxHeartbeats 4000000 in
set_option maxRecDepth 100000 in
theorem bd_p {p : Program} {l : Launch} {e : Env} {s : State} {m : MethodId} {below : List Frame} {meth : Method} {c : Code} {Q : State → Prop} {args : Array Value} {g : sg_G} {x0 nA wA : Nat} {σ : Mem} {K : va_W} {fn fw : Nat → Int32} (hc : sg_Cx p s m args c cL_boards 9 RL g) (hst : l.stackTraces = false) (hI : IV σ) (hN : NA σ fn) (hw : WA σ fw) {d k0 n0 : Nat} (hd : d < 2) (hk0 : k0 + 384 ≤ 2800) (hn0 : n0 + 2304 ≤ 16800) (kend : ∀ C, GK g x0 σ ((nA, sg_ia g 4 fn) :: (wA, sg_ia g 48 fw) :: K) C → sg_W p l e (sg_rm 11 250 2800 16800) s m args below meth c 9 g (k0 + 384) (n0 + 2304) Q C 301 [(4, .int (nI (mny σ (nI d) 8))), (3, .int (nI d)), (0, .ref x0), (1, .ref nA), (2, .ref wA)] []) (n : Nat) : ∀ q f C, q + n = mny σ (nI d) 8 → f ≤ 8 → (∀ u, u < 8 → pr σ (nI d) u → q ≤ rnk σ (nI d) u → f ≤ plc σ (nI d) u) → GK g x0 σ ((nA, sg_ia g 4 fn) :: (wA, sg_ia g 48 fw) :: K) C → sg_W p l e (sg_rm 11 250 2800 16800) s m args below meth c 9 g (k0 + 48 * q) (n0 + 288 * q) Q C 206 [(6, .int (nI q)), (5, .int (nI f)), (4, .int (nI (mny σ (nI d) 8))), (3, .int (nI d)), (0, .ref x0), (1, .ref nA), (2, .ref wA)] [] := by
  induction n with
  | zero =>
    intro q f C hqn hf8 hf hG
    have hq : q = mny σ (nI d) 8 := by omega
    have hm8 : mny σ (nI d) 8 ≤ 8 := cn_le 8
    refine sw_iload (pc := 206) hc dL_boards_206 0 rfl ?_
    refine sw_iload (pc := 208) hc dL_boards_208 2 rfl ?_
    refine sw_icmp_ge (pc := 210) (tgt := 301) hc dL_boards_210 (by decide) (fun _ => ?_) (fun c1 => absurd (nI_le (by omega) (by omega)) c1)
    exact sw_sub (ks := [2, 3, 4, 5, 6]) (lv' := [(4, .int (nI (mny σ (nI d) 8))), (3, .int (nI d)), (0, .ref x0), (1, .ref nA), (2, .ref wA)]) rfl (sw_widen (by omega) (by omega) (kend _ hG))
  | succ n ih =>
    intro q f C hqn hf8 hf hG
    have hq : q < mny σ (nI d) 8 := by omega
    have hW := hG.wx
    have h40 := hW.n41
    have hI24 := hI.2.2.2.2.1
    have hm8 : mny σ (nI d) 8 ≤ 8 := cn_le 8
    obtain ⟨u, hu, hp, hr⟩ := rnk_ex hW hq
    have ha := at_y hW (x := nI d) (hI.pair hd hu).1 hu hp
    have hb := pr_y hW hp
    have h8 := plc_8 (σ := σ) (x := nI d) hu
    rw [hr] at ha
    generalize bi σ (nI d) u = b at ha hb
    refine sw_iload (pc := 206) hc dL_boards_206 0 rfl ?_
    refine sw_iload (pc := 208) hc dL_boards_208 2 rfl ?_
    refine sw_icmp_ge (pc := 210) (tgt := 301) hc dL_boards_210 (by decide) (fun c1 => absurd c1 (nI_ge hq (by omega))) (fun _ => ?_)
    refine sw_aload_n (pc := 213) hc dL_boards_213 rfl 4 rfl ?_
    refine sw_iload_n (pc := 214) hc dL_boards_214 rfl 3 rfl ?_
    refine sw_iload (pc := 215) hc dL_boards_215 0 rfl ?_
    refine sw_callSX (pc := 217) (rest := []) hc (c_L_at l g _ x0 σ _ (nI d) (nI q) hst hG) mdh_L_at lk_RL_81 st_L_at rfl rfl (Nat.le_of_ble_eq_true rfl) dL_boards_217 ⟨Nat.le_of_ble_eq_true rfl, Nat.le_of_ble_eq_true rfl, (by show k0 + 48 * q + 16 ≤ 2800; omega), (by show n0 + 288 * q + 96 ≤ 16800; omega)⟩ (fun v2 C4 hP3 => ?_)
    obtain ⟨rfl, hG5⟩ := hP3
    refine sw_st (st' := [.int (if kAt σ (nI d) (nI q) = 0 then vAt σ (nI d) (nI q) else x1 (kAt σ (nI d) (nI q)))]) rfl ?_
    refine sw_cv (y := nI b) ((if_pos ha.1).trans ha.2) ?_
    refine sw_istore (pc := 220) hc dL_boards_220 (by decide) (lv' := [(7, .int (nI b)), (6, .int (nI q)), (5, .int (nI f)), (4, .int (nI (mny σ (nI d) 8))), (3, .int (nI d)), (0, .ref x0), (1, .ref nA), (2, .ref wA)]) rfl ?_
    refine sw_iload (pc := 222) hc dL_boards_222 0 rfl ?_
    refine sw_if_lt (pc := 224) (tgt := 235) hc dL_boards_224 (by decide) (fun c6 => absurd c6 (nI_pos (by omega))) (fun _ => ?_)
    refine sw_iload (pc := 227) hc dL_boards_227 0 rfl ?_
    refine sw_aload_n (pc := 229) hc dL_boards_229 rfl 6 rfl ?_
    refine sw_iconst (pc := 230) (v := 2) hc dL_boards_230 (by decide) ?_
    refine sw_iald (pc := 231) (j := 2) hc (hG5.at 0 rfl) rfl (by decide) (by decide) dL_boards_231 ?_
    refine sw_cv (y := nI (iN (σ 26 0))) hN.2.2.1 ?_
    refine sw_icmp_lt (pc := 232) (tgt := 239) hc dL_boards_232 (by decide) (fun _ => ?_) (fun c7 => absurd (nI_lt hb.1 (by omega)) c7)
    refine sw_aload_n (pc := 239) hc dL_boards_239 rfl 5 rfl ?_
    refine sw_iload_n (pc := 240) hc dL_boards_240 rfl 4 rfl ?_
    refine sw_aload_n (pc := 241) hc dL_boards_241 rfl 7 rfl ?_
    refine sw_iconst (pc := 242) (v := 2) hc dL_boards_242 (by decide) ?_
    refine sw_iload (pc := 243) hc dL_boards_243 0 rfl ?_
    refine sw_imul (pc := 245) hc dL_boards_245 ?_
    refine sw_iald (pc := 246) (j := 2 * b) hc (hG5.at 1 rfl) (pk_mul 2 b) (by omega) (by decide) dL_boards_246 ?_
    refine sw_cv (y := nI u) ((hw b hb.1).1.trans hb.2.2.1.2.2.1) ?_
    obtain ⟨fs11, hx12⟩ := hG5.gate
    refine sw_callV (pc := 247) (rest := []) hc (m_place l (nI d) (nI u) hst hG5 (hI.pair hd hu)) md_X7_place ml_RL_55 im_X7_place sl_X7_place hx12 rfl rfl rfl (Nat.le_of_ble_eq_true rfl) dL_boards_247 ⟨Nat.le_of_ble_eq_true rfl, Nat.le_of_ble_eq_true rfl, (by show k0 + 48 * q + 16 + 16 ≤ 2800; omega), (by show n0 + 288 * q + 96 + 96 ≤ 16800; omega)⟩ (fun v8 C10 hP9 => ?_) (fun _ _ hf => hf.elim)
    obtain ⟨rfl, hG13⟩ := hP9
    refine sw_st (st' := [.int (rSpot σ (nI d) (nI u) (-1))]) rfl ?_
    refine sw_cv (y := nI (plc σ (nI d) u)) (spot_y hW hp) ?_
    refine sw_istore (pc := 250) hc dL_boards_250 (by decide) (lv' := [(8, .int (nI (plc σ (nI d) u))), (7, .int (nI b)), (6, .int (nI q)), (5, .int (nI f)), (4, .int (nI (mny σ (nI d) 8))), (3, .int (nI d)), (0, .ref x0), (1, .ref nA), (2, .ref wA)]) rfl ?_
    refine sw_iload (pc := 252) hc dL_boards_252 1 rfl ?_
    refine sw_if_lt (pc := 254) (tgt := 289) hc dL_boards_254 (by decide) (fun c14 => absurd c14 (nI_pos (by omega))) (fun _ => ?_)
    refine sw_aload_n (pc := 257) hc dL_boards_257 rfl 6 rfl ?_
    refine sw_iload_n (pc := 258) hc dL_boards_258 rfl 5 rfl ?_
    refine sw_aload_n (pc := 259) hc dL_boards_259 rfl 8 rfl ?_
    refine sw_iconst (pc := 260) (v := 2) hc dL_boards_260 (by decide) ?_
    refine sw_iload (pc := 261) hc dL_boards_261 1 rfl ?_
    refine sw_imul (pc := 263) hc dL_boards_263 ?_
    refine sw_iald (pc := 264) (j := 2 * b) hc (hG13.at 1 rfl) (pk_mul 2 b) (by omega) (by decide) dL_boards_264 ?_
    refine sw_cv (y := nI u) ((hw b hb.1).1.trans hb.2.2.1.2.2.1) ?_
    obtain ⟨fs18, hx19⟩ := hG13.gate
    refine sw_callV (pc := 265) (rest := []) hc (m_best l (nI d) (nI u) hst hG13 (hI.pair hd hu)) md_X7_best ml_RL_52 im_X7_best sl_X7_best hx19 rfl rfl rfl (Nat.le_of_ble_eq_true rfl) dL_boards_265 ⟨Nat.le_of_ble_eq_true rfl, Nat.le_of_ble_eq_true rfl, (by show k0 + 48 * q + 16 + 16 + 16 ≤ 2800; omega), (by show n0 + 288 * q + 96 + 96 + 96 ≤ 16800; omega)⟩ (fun v15 C17 hP16 => ?_) (fun _ _ hf => hf.elim)
    obtain ⟨rfl, hG20⟩ := hP16
    refine sw_st (st' := [.int (rTopN σ (nI d) (nI u) (-1))]) rfl ?_
    refine sw_cv (y := nI b) hb.2.1 ?_
    refine sw_iload (pc := 268) hc dL_boards_268 1 rfl ?_
    refine sw_icmp_ne (pc := 270) (tgt := 289) hc dL_boards_270 (by decide) (fun c21 => absurd c21 (fun zf => zf rfl)) (fun _ => ?_)
    refine sw_iload (pc := 273) hc dL_boards_273 0 rfl ?_
    refine sw_iload (pc := 275) hc dL_boards_275 3 rfl ?_
    refine sw_icmp_lt (pc := 277) (tgt := 289) hc dL_boards_277 (by decide) (fun c22 => absurd c22 (nI_nlt (hf u hu hp (by omega)) (by omega))) (fun _ => ?_)
    refine sw_iload (pc := 280) hc dL_boards_280 0 rfl ?_
    refine sw_iload (pc := 282) hc dL_boards_282 2 rfl ?_
    refine sw_iconst (pc := 284) (v := 1) hc dL_boards_284 (by decide) ?_
    refine sw_iadd (pc := 285) hc dL_boards_285 ?_
    refine sw_cv (y := nI (q + 1)) (nI_1 q) ?_
    refine sw_icmp_le (pc := 286) (tgt := 291) hc dL_boards_286 (by decide) (fun _ => ?_) (fun c23 => absurd (nI_le (by have := plc_rnk hW hp; omega) (by omega)) c23)
    refine sw_iload (pc := 291) hc dL_boards_291 0 rfl ?_
    refine sw_istore (pc := 293) hc dL_boards_293 (by decide) (lv' := [(5, .int (nI (plc σ (nI d) u))), (8, .int (nI (plc σ (nI d) u))), (7, .int (nI b)), (6, .int (nI q)), (4, .int (nI (mny σ (nI d) 8))), (3, .int (nI d)), (0, .ref x0), (1, .ref nA), (2, .ref wA)]) rfl ?_
    refine sw_iinc (pc := 295) (v := nI (q + 1)) (lv' := [(6, .int (nI (q + 1))), (5, .int (nI (plc σ (nI d) u))), (8, .int (nI (plc σ (nI d) u))), (7, .int (nI b)), (4, .int (nI (mny σ (nI d) 8))), (3, .int (nI d)), (0, .ref x0), (1, .ref nA), (2, .ref wA)]) hc dL_boards_295 (k := 3) rfl (nI_1 q) (by decide) rfl ?_
    refine sw_goto (pc := 298) (tgt := 206) hc dL_boards_298 (by decide) ?_
    refine sw_sub (ks := [0, 1, 4, 5, 6, 7, 8]) (lv' := [(6, .int (nI (q + 1))), (5, .int (nI (plc σ (nI d) u))), (4, .int (nI (mny σ (nI d) 8))), (3, .int (nI d)), (0, .ref x0), (1, .ref nA), (2, .ref wA)]) rfl ?_
    exact sw_widen (by omega) (by omega) (ih (q + 1) _ _ (by omega) h8.1 (fun v hv hv2 hv3 => plc_mono hW hp hv2 (by omega)) hG20)

set_option maxHeartbeats 4000000 in
set_option maxRecDepth 100000 in
theorem bd_c {p : Program} {l : Launch} {e : Env} {s : State} {m : MethodId} {below : List Frame} {meth : Method} {c : Code} {Q : State → Prop} {args : Array Value} {g : sg_G} {x0 nA wA : Nat} {σ : Mem} {K : va_W} {fn fw : Nat → Int32} (hc : sg_Cx p s m args c cL_boards 9 RL g) (hst : l.stackTraces = false) (hI : IV σ) (hN : NA σ fn) (hw : WA σ fw) {d k0 n0 : Nat} {C : Nat → Option va_E} (hd : d < 2) (hk0 : k0 + 1296 ≤ 2800) (hn0 : n0 + 7776 ≤ 16800) (hG : GK g x0 σ ((nA, sg_ia g 4 fn) :: (wA, sg_ia g 48 fw) :: K) C) (kend : ∀ C, GK g x0 σ ((nA, sg_ia g 4 fn) :: (wA, sg_ia g 48 fw) :: K) C → sg_W p l e (sg_rm 11 250 2800 16800) s m args below meth c 9 g (k0 + 1296) (n0 + 7776) Q C 315 [(3, .int (nI d)), (0, .ref x0), (1, .ref nA), (2, .ref wA)] []) : sg_W p l e (sg_rm 11 250 2800 16800) s m args below meth c 9 g k0 n0 Q C 9 [(3, .int (nI d)), (0, .ref x0), (1, .ref nA), (2, .ref wA)] [] := by
  refine sw_iconst (pc := 9) (v := 0) hc dL_boards_9 (by decide) ?_
  refine sw_istore (pc := 10) hc dL_boards_10 (by decide) (lv' := [(4, .int 0), (3, .int (nI d)), (0, .ref x0), (1, .ref nA), (2, .ref wA)]) rfl ?_
  refine sw_iconst (pc := 12) (v := 0) hc dL_boards_12 (by decide) ?_
  refine sw_istore (pc := 13) hc dL_boards_13 (by decide) (lv' := [(5, .int 0), (4, .int 0), (3, .int (nI d)), (0, .ref x0), (1, .ref nA), (2, .ref wA)]) rfl ?_
  refine sw_sub (ks := [0, 1, 2, 3, 4, 5]) (lv' := [(5, .int (nI 0)), (4, .int (nI (mny σ (nI d) 0))), (3, .int (nI d)), (0, .ref x0), (1, .ref nA), (2, .ref wA)]) rfl ?_
  refine bd_8 (k0 := k0) (n0 := n0) hc hst hI hN hw hd (by omega) (by omega) (fun C2 hG2 => ?_) 8 0 _ rfl hG
  refine sw_iconst (pc := 200) (v := 0) hc dL_boards_200 (by decide) ?_
  refine sw_istore (pc := 201) hc dL_boards_201 (by decide) (lv' := [(5, .int 0), (4, .int (nI (mny σ (nI d) 8))), (3, .int (nI d)), (0, .ref x0), (1, .ref nA), (2, .ref wA)]) rfl ?_
  refine sw_iconst (pc := 203) (v := 0) hc dL_boards_203 (by decide) ?_
  refine sw_istore (pc := 204) hc dL_boards_204 (by decide) (lv' := [(6, .int 0), (5, .int 0), (4, .int (nI (mny σ (nI d) 8))), (3, .int (nI d)), (0, .ref x0), (1, .ref nA), (2, .ref wA)]) rfl ?_
  refine sw_sub (ks := [0, 1, 2, 3, 4, 5, 6]) (lv' := [(6, .int (nI 0)), (5, .int (nI 0)), (4, .int (nI (mny σ (nI d) 8))), (3, .int (nI d)), (0, .ref x0), (1, .ref nA), (2, .ref wA)]) rfl ?_
  refine bd_p (k0 := k0 + 896) (n0 := n0 + 5376) hc hst hI hN hw hd (by omega) (by omega) (fun C3 hG3 => ?_) (mny σ (nI d) 8) 0 0 _ (Nat.zero_add _) (Nat.zero_le _) (fun _ _ _ _ => Nat.zero_le _) hG2
  refine sw_aload_n (pc := 301) hc dL_boards_301 rfl 2 rfl ?_
  refine sw_iload_n (pc := 302) hc dL_boards_302 rfl 1 rfl ?_
  refine sw_iload (pc := 303) hc dL_boards_303 0 rfl ?_
  refine sw_callSX (pc := 305) (rest := []) hc (c_L_at l g _ x0 σ _ (nI d) (nI (mny σ (nI d) 8)) hst hG3) mdh_L_at lk_RL_81 st_L_at rfl rfl (Nat.le_of_ble_eq_true rfl) dL_boards_305 ⟨Nat.le_of_ble_eq_true rfl, Nat.le_of_ble_eq_true rfl, (by show k0 + 896 + 384 + 16 ≤ 2800; omega), (by show n0 + 5376 + 2304 + 96 ≤ 16800; omega)⟩ (fun v1 C3 hP2 => ?_)
  obtain ⟨rfl, hG4⟩ := hP2
  refine sw_st (st' := [.int (if kAt σ (nI d) (nI (mny σ (nI d) 8)) = 0 then vAt σ (nI d) (nI (mny σ (nI d) 8)) else x1 (kAt σ (nI d) (nI (mny σ (nI d) 8))))]) rfl ?_
  refine sw_cv (y := (-2)) (by rw [at_n hG3.wx (hI.pair hd (u := 0) (by decide)).1]; rfl) ?_
  refine sw_bipush (pc := 308) (v := (-2)) hc dL_boards_308 (by decide) ?_
  refine sw_icmp_eq (pc := 310) (tgt := 315) hc dL_boards_310 (by decide) (fun _ => ?_) (fun c5 => absurd rfl c5)
  exact sw_sub (ks := [1, 2, 3, 4]) (lv' := [(3, .int (nI d)), (0, .ref x0), (1, .ref nA), (2, .ref wA)]) rfl (sw_widen (by omega) (by omega) (kend _ hG4))

set_option maxHeartbeats 4000000 in
set_option maxRecDepth 100000 in
theorem c_L_boards (l : Launch) (g : sg_G) (C : Nat → Option va_E) (x0 nA wA : Nat) (σ : Mem) (K : va_W) (fn fw : Nat → Int32) (hst : l.stackTraces = false) (hI : IV σ) (hN : NA σ fn) (hw : WA σ fw) (hG : GK g x0 σ ((nA, sg_ia g 4 fn) :: (wA, sg_ia g 48 fw) :: K) C) : sg_Met l yL_boards cL_boards 9 (some .boolean) 11 250 2800 16800 g [.ref x0, .ref nA, .ref wA] C (fun v C' => v = some (.int 1) ∧ GK g x0 σ ((nA, sg_ia g 4 fn) :: (wA, sg_ia g 48 fw) :: K) C') sg_no := by
  refine sg_ofW (by decide) rfl ?_ (Nat.le_of_ble_eq_true rfl)
  intro p e s m below meth c hc hlk hrt hin2 htb
  have hc : sg_Cx p s m _ c cL_boards 9 RL g := hc
  show sg_W p l e _ s m _ below meth c 9 g 0 0 _ C 0 [(0, .ref x0), (1, .ref nA), (2, .ref wA)] []
  refine sw_iconst (pc := 0) (v := 0) hc dL_boards_0 (by decide) ?_
  refine sw_istore_n (pc := 1) hc dL_boards_1 rfl (by decide) (lv' := [(3, .int 0), (0, .ref x0), (1, .ref nA), (2, .ref wA)]) rfl ?_
  refine sw_iload_n (pc := 2) hc dL_boards_2 rfl 0 rfl ?_
  refine sw_aload_n (pc := 3) hc dL_boards_3 rfl 2 rfl ?_
  refine sw_iconst (pc := 4) (v := 1) hc dL_boards_4 (by decide) ?_
  refine sw_iald (pc := 5) (j := 1) hc (hG.at 0 rfl) rfl (by decide) (by decide) dL_boards_5 ?_
  refine sw_cv (y := 2) hN.2.1 ?_
  refine sw_icmp_ge (pc := 6) (tgt := 321) hc dL_boards_6 (by decide) (fun c1 => absurd c1 (by decide)) (fun _ => ?_)
  refine sw_sub (ks := [0, 1, 2, 3]) (lv' := [(3, .int (nI 0)), (0, .ref x0), (1, .ref nA), (2, .ref wA)]) rfl ?_
  refine bd_c (d := 0) (k0 := 0) (n0 := 0) hc hst hI hN hw (by decide) (by decide) (by decide) hG (fun C2 hG3 => ?_)
  refine sw_widen (k := 1296) (n := 7776) (Nat.le_of_ble_eq_true rfl) (Nat.le_of_ble_eq_true rfl) ?_
  refine sw_iinc (pc := 315) (v := nI 1) (lv' := [(3, .int (nI 1)), (0, .ref x0), (1, .ref nA), (2, .ref wA)]) hc dL_boards_315 (k := 0) rfl (nI_1 0) (by decide) rfl ?_
  refine sw_goto (pc := 318) (tgt := 2) hc dL_boards_318 (by decide) ?_
  refine sw_iload_n (pc := 2) hc dL_boards_2 rfl 0 rfl ?_
  refine sw_aload_n (pc := 3) hc dL_boards_3 rfl 2 rfl ?_
  refine sw_iconst (pc := 4) (v := 1) hc dL_boards_4 (by decide) ?_
  refine sw_iald (pc := 5) (j := 1) hc (hG3.at 0 rfl) rfl (by decide) (by decide) dL_boards_5 ?_
  refine sw_cv (y := 2) hN.2.1 ?_
  refine sw_icmp_ge (pc := 6) (tgt := 321) hc dL_boards_6 (by decide) (fun c4 => absurd c4 (by decide)) (fun _ => ?_)
  refine sw_sub (ks := [0, 1, 2, 3]) (lv' := [(3, .int (nI 1)), (0, .ref x0), (1, .ref nA), (2, .ref wA)]) rfl ?_
  refine bd_c (d := 1) (k0 := 1296) (n0 := 7776) hc hst hI hN hw (by decide) (by decide) (by decide) hG3 (fun C5 hG6 => ?_)
  refine sw_widen (k := 2592) (n := 15552) (Nat.le_of_ble_eq_true rfl) (Nat.le_of_ble_eq_true rfl) ?_
  refine sw_iinc (pc := 315) (v := nI 2) (lv' := [(3, .int (nI 2)), (0, .ref x0), (1, .ref nA), (2, .ref wA)]) hc dL_boards_315 (k := 0) rfl (nI_1 1) (by decide) rfl ?_
  refine sw_goto (pc := 318) (tgt := 2) hc dL_boards_318 (by decide) ?_
  refine sw_iload_n (pc := 2) hc dL_boards_2 rfl 0 rfl ?_
  refine sw_aload_n (pc := 3) hc dL_boards_3 rfl 2 rfl ?_
  refine sw_iconst (pc := 4) (v := 1) hc dL_boards_4 (by decide) ?_
  refine sw_iald (pc := 5) (j := 1) hc (hG6.at 0 rfl) rfl (by decide) (by decide) dL_boards_5 ?_
  refine sw_cv (y := 2) hN.2.1 ?_
  refine sw_icmp_ge (pc := 6) (tgt := 321) hc dL_boards_6 (by decide) (fun _ => ?_) (fun c7 => absurd (by decide) c7)
  refine sw_aload_n (pc := 321) hc dL_boards_321 rfl 1 rfl ?_
  refine sw_iconst (pc := 322) (v := 0) hc dL_boards_322 (by decide) ?_
  refine sw_callSX (pc := 323) (rest := []) hc (c_L_plan l g _ x0 σ _ 0 hst hG6) mdh_L_plan lk_RL_84 st_L_plan rfl rfl (Nat.le_of_ble_eq_true rfl) dL_boards_323 ⟨Nat.le_of_ble_eq_true rfl, Nat.le_of_ble_eq_true rfl, Nat.le_of_ble_eq_true rfl, Nat.le_of_ble_eq_true rfl⟩ (fun v8 C10 hP9 => ?_)
  obtain ⟨rfl, hG11⟩ := hP9
  refine sw_st (st' := [.int (if kPlan 0 = 0 then vPlan σ 0 else xa (kPlan 0))]) rfl ?_
  refine sw_cv (y := 0) (vPlan_0 hG11.wx) ?_
  refine sw_if_ne (pc := 326) (tgt := 345) hc dL_boards_326 (by decide) (fun c12 => absurd c12 (fun zf => zf rfl)) (fun _ => ?_)
  refine sw_aload_n (pc := 329) hc dL_boards_329 rfl 1 rfl ?_
  refine sw_aload_n (pc := 330) hc dL_boards_330 rfl 2 rfl ?_
  refine sw_iconst (pc := 331) (v := 2) hc dL_boards_331 (by decide) ?_
  refine sw_iald (pc := 332) (j := 2) hc (hG11.at 0 rfl) rfl (by decide) (by decide) dL_boards_332 ?_
  refine sw_cv (y := nI (iN (σ 26 0))) hN.2.2.1 ?_
  refine sw_callSX (pc := 333) (rest := []) hc (c_L_judged l g _ x0 σ _ (nI (iN (σ 26 0))) hst hG11) mdh_L_judged lk_RL_87 st_L_judged rfl rfl (Nat.le_of_ble_eq_true rfl) dL_boards_333 ⟨Nat.le_of_ble_eq_true rfl, Nat.le_of_ble_eq_true rfl, Nat.le_of_ble_eq_true rfl, Nat.le_of_ble_eq_true rfl⟩ (fun v13 C15 hP14 => ?_)
  obtain ⟨rfl, hG16⟩ := hP14
  refine sw_st (st' := [.int (if kIn σ 26 (nI (iN (σ 26 0))) = 0 then vJudged σ (nI (iN (σ 26 0))) else x1 (kIn σ 26 (nI (iN (σ 26 0)))))]) rfl ?_
  refine sw_cv (y := (-2)) (vJd_n (rIn_26n hG16.wx)) ?_
  refine sw_bipush (pc := 336) (v := (-2)) hc dL_boards_336 (by decide) ?_
  refine sw_icmp_ne (pc := 338) (tgt := 345) hc dL_boards_338 (by decide) (fun c17 => absurd c17 (fun zf => zf rfl)) (fun _ => ?_)
  refine sw_iconst (pc := 341) (v := 1) hc dL_boards_341 (by decide) ?_
  refine sw_goto (pc := 342) (tgt := 346) hc dL_boards_342 (by decide) ?_
  exact sw_iret (pc := 346) hc hlk hrt rfl ⟨rfl, hG16⟩ (Nat.le_of_ble_eq_true rfl) (Nat.le_of_ble_eq_true rfl) dL_boards_346

