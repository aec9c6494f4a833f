/-! the hero goes no more than 20 in a tick, and no faster than its speed -/
theorem IV.flat {σ : Mem} (h : IV σ) : Flat σ := h.2.2.2.1
theorem IV.stage {σ : Mem} {r : Nat} (h : IV σ) (hW : WX σ) (hr : r < 4) : iN (σ 3 r) = 0 := by
  have h9 : iN (σ 9 0) = 4 := by rw [h.2.1]; rfl
  have h2 : iN (σ 2 0) = 1 := by rw [h.1]; rfl
  have := (hW.1.2.2.2.2.2.1 r (by rw [h9]; exact hr)).2
  omega
theorem df_hi {a b : Nat} {v : Int32} (ha : a < 2 ^ 29) (hb : b < 2 ^ 29) (h : (a : Int) - b ≤ v.toInt) : ¬ v < nI a - nI b := fun q => by
  have q2 := Int32.lt_iff_toInt_lt.mp q
  rw [pk_sub_toInt (by omega) (by omega)] at q2
  omega
theorem df_lo {a b : Nat} {v : Int32} (ha : a < 2 ^ 29) (hb : b < 2 ^ 29) (h : v.toInt ≤ (a : Int) - b) : ¬ nI a - nI b < v := fun q => by
  have q2 := Int32.lt_iff_toInt_lt.mp q
  rw [pk_sub_toInt (by omega) (by omega)] at q2
  omega
theorem wh_v {σ : Mem} {r T X Y : Nat} (h1 : heroT σ r (nI T) 0 = nI X) (h2 : heroT σ r (nI T) 1 = nI Y) : rWhr σ r T = nI (1000 * Y + X) := by
  unfold rWhr
  rw [h1, h2, show (1000 : Int32) = nI 1000 from rfl, pk_mul, nI_add]
theorem wh_step {σ : Mem} {r T : Nat} (hI : IV σ) (hW : WX σ) (hr : r < 4) (hT : T ≤ 100) : ∃ X Y X' Y' : Nat, rWhr σ r T = nI (1000 * Y + X) ∧ rWhr σ r (T + 1) = nI (1000 * Y' + X') ∧ X < 512 ∧ X' < 512 ∧ X' ≤ X + 20 ∧ X ≤ X' + 20 ∧ Y' ≤ Y + 12 ∧ Y ≤ Y' + 14 ∧ Y ≤ 1200 := by
  obtain ⟨X, Y, X', Y', h1, h2, h3, h4, h5⟩ := hero_step hI.flat hT (hI.stage hW hr)
  exact ⟨X, Y, X', Y', wh_v h1 h2, wh_v h3 h4, h5⟩
theorem md_X7_where : sg_MD yX7_where cX7_where 4 (some .int) 2 := ⟨sg_mem (i := 729) (by decide +kernel) rfl, sg_mem (i := 26) (by decide +kernel) rfl, ⟨by decide, by decide⟩, by decide +kernel⟩
theorem ml_RL_66 : sg_ML RL 66 yX7_where := .inl (sg_mem (i := 726) (by decide +kernel) rfl)
theorem im_X7_where : Cond.instanceMethod yX7_where ∈ sg_T := sg_mem (i := 727) (by decide +kernel) rfl
theorem sl_X7_where : Cond.selects yX7_where.cls yX7_where yX7_where ∈ sg_T := sg_mem (i := 728) (by decide +kernel) rfl
theorem md_L_up : sg_MD yL_up cL_up 1 (some .int) 1 := ⟨sg_mem (i := 741) (by decide +kernel) rfl, sg_mem (i := 25) (by decide +kernel) rfl, ⟨by decide, by decide⟩, by decide +kernel⟩
theorem ml_RL_69 : sg_ML RL 69 yL_up := .inl (sg_mem (i := 739) (by decide +kernel) rfl)
theorem st_L_up : Cond.static yL_up ∈ sg_T := sg_mem (i := 740) (by decide +kernel) rfl
set_option maxHeartbeats 4000000 in
set_option maxRecDepth 100000 in
theorem steps_l {p : Program} {l : Launch} {e : Env} {s : State} {m : MethodId} {below : List Frame} {meth : Method} {c : Code} {Q : State → Prop} {args : Array Value} {g : sg_G} {x0 : Nat} {σ : Mem} {K : va_W} {r t : Nat} (hc : sg_Cx p s m args c cL_steps 8 RL g) (hst : l.stackTraces = false) (hI : IV σ) (hr : r < 4) (ht : t ≤ 500) (h10 : heroR σ r 10 = nI t) (kend : ∀ C j, j ≤ 12 → GK g x0 σ K C → sg_W p l e (sg_rm 8 142 260 1560) s m args below meth c 8 g 240 1440 Q C 104 [(3, .int (rWhr σ r j)), (2, .int (nI t)), (0, .ref x0), (1, .int (nI r))] []) (n : Nat) : ∀ k C, k + n = 12 → GK g x0 σ K C → sg_W p l e (sg_rm 8 142 260 1560) s m args below meth c 8 g (16 + 16 * (k + 1)) (96 + 96 * (k + 1)) Q C 19 [(4, .int (nI (k + 1))), (3, .int (rWhr σ r k)), (2, .int (nI t)), (0, .ref x0), (1, .int (nI r))] [] := by
  induction n with
  | zero =>
    intro k C hk hG
    have hk : k = 12 := by omega
    subst hk
    refine sw_iload (pc := 19) hc dL_steps_19 0 rfl ?_
    refine sw_iload_n (pc := 21) hc dL_steps_21 rfl 2 rfl ?_
    refine sw_icmp_gt (pc := 22) (tgt := 104) hc dL_steps_22 (by decide) (fun b1 => ?_) (fun b1 => ?_)
    ·
      exact sw_sub (ks := [1, 2, 3, 4]) (lv' := [(3, .int (rWhr σ r 12)), (2, .int (nI t)), (0, .ref x0), (1, .int (nI r))]) rfl (sw_widen (by omega) (by omega) (kend _ 12 (by omega) hG))
    ·
      refine sw_iload (pc := 25) hc dL_steps_25 0 rfl ?_
      refine sw_bipush (pc := 27) (v := 12) hc dL_steps_27 (by decide) ?_
      refine sw_icmp_ge (pc := 29) (tgt := 104) hc dL_steps_29 (by decide) (fun _ => ?_) (fun c1 => absurd (nI_le (a := 12) (b := 12 + 1) (by decide) (by decide)) c1)
      exact sw_sub (ks := [1, 2, 3, 4]) (lv' := [(3, .int (rWhr σ r 12)), (2, .int (nI t)), (0, .ref x0), (1, .int (nI r))]) rfl (sw_widen (by omega) (by omega) (kend _ 12 (by omega) hG))
  | succ n ih =>
    intro k C hk hG
    refine sw_iload (pc := 19) hc dL_steps_19 0 rfl ?_
    refine sw_iload_n (pc := 21) hc dL_steps_21 rfl 2 rfl ?_
    refine sw_icmp_gt (pc := 22) (tgt := 104) hc dL_steps_22 (by decide) (fun b1 => ?_) (fun b1 => ?_)
    ·
      exact sw_sub (ks := [1, 2, 3, 4]) (lv' := [(3, .int (rWhr σ r k)), (2, .int (nI t)), (0, .ref x0), (1, .int (nI r))]) rfl (sw_widen (by omega) (by omega) (kend _ k (by omega) hG))
    ·
      refine sw_iload (pc := 25) hc dL_steps_25 0 rfl ?_
      refine sw_bipush (pc := 27) (v := 12) hc dL_steps_27 (by decide) ?_
      refine sw_icmp_ge (pc := 29) (tgt := 104) hc dL_steps_29 (by decide) (fun b2 => ?_) (fun b2 => ?_)
      ·
        exact sw_sub (ks := [1, 2, 3, 4]) (lv' := [(3, .int (rWhr σ r k)), (2, .int (nI t)), (0, .ref x0), (1, .int (nI r))]) rfl (sw_widen (by omega) (by omega) (kend _ k (by omega) hG))
      ·
        have q1 : k + 1 ≤ t := Nat.not_lt.mp fun z => b1 ((nI_ltI (by omega) (by omega)).mpr z)
        have q2 : k + 1 < 12 := Nat.not_le.mp fun z => b2 ((nI_leI (a := 12) (by omega) (by omega)).mpr z)
        obtain ⟨X, Y, X2, Y2, e1, e2, x1, x2, x3, x4, y1, y2, y3⟩ := wh_step (T := k) hI hG.wx hr (by omega)
        rw [e1]
        refine sw_aload_n (pc := 32) hc dL_steps_32 rfl 3 rfl ?_
        refine sw_iload_n (pc := 33) hc dL_steps_33 rfl 4 rfl ?_
        refine sw_iload (pc := 34) hc dL_steps_34 0 rfl ?_
        obtain ⟨fs4, hx5⟩ := hG.gate
        refine sw_callV (pc := 36) (rest := []) hc (m_where l (nI r) (T := k + 1) hst hG (hI.rep hr) ⟨nI_pos' (by omega), by rw [iN_nI (by omega), h10]; exact nI_le q1 (by omega)⟩ (by omega)) md_X7_where ml_RL_66 im_X7_where sl_X7_where hx5 rfl rfl rfl (Nat.le_of_ble_eq_true rfl) dL_steps_36 ⟨Nat.le_of_ble_eq_true rfl, Nat.le_of_ble_eq_true rfl, (by show 16 + 16 * (k + 1) + 16 ≤ 260; omega), (by show 96 + 96 * (k + 1) + 96 ≤ 1560; omega)⟩ (fun v1 C3 hP2 => ?_) (fun _ _ hf => hf.elim)
        obtain ⟨rfl, hG6⟩ := hP2
        refine sw_st (st' := [.int (rWhr σ (iN (nI r)) (k + 1))]) rfl ?_
        refine sw_cv (y := nI (1000 * Y2 + X2)) (by rw [iN_nI (by omega), e2]) ?_
        refine sw_istore (pc := 39) hc dL_steps_39 (by decide) (lv' := [(5, .int (nI (1000 * Y2 + X2))), (4, .int (nI (k + 1))), (3, .int (nI (1000 * Y + X))), (2, .int (nI t)), (0, .ref x0), (1, .int (nI r))]) rfl ?_
        refine sw_iload (pc := 41) hc dL_steps_41 0 rfl ?_
        refine sw_callS (pc := 43) (rest := []) hc (c_L_across l g _ (1000 * Y2 + X2) (by omega)) md_L_across ml_RL_61 st_L_across rfl rfl (Nat.le_of_ble_eq_true rfl) dL_steps_43 ⟨Nat.le_of_ble_eq_true rfl, Nat.le_of_ble_eq_true rfl, (by show 16 + 16 * (k + 1) + 16 + 0 ≤ 260; omega), (by show 96 + 96 * (k + 1) + 96 + 0 ≤ 1560; omega)⟩ (fun v7 C9 hP8 => ?_) (fun _ _ hf => hf.elim)
        obtain ⟨rfl, rfl⟩ := hP8
        refine sw_st (st' := [.int (nI ((1000 * Y2 + X2) % 1000))]) rfl ?_
        refine sw_cv (y := nI X2) (congrArg nI (by omega)) ?_
        refine sw_iload_n (pc := 46) hc dL_steps_46 rfl 2 rfl ?_
        refine sw_callS (pc := 47) (rest := [.int (nI X2)]) hc (c_L_across l g _ (1000 * Y + X) (by omega)) md_L_across ml_RL_61 st_L_across rfl rfl (Nat.le_of_ble_eq_true rfl) dL_steps_47 ⟨Nat.le_of_ble_eq_true rfl, Nat.le_of_ble_eq_true rfl, (by show 16 + 16 * (k + 1) + 16 + 0 + 0 ≤ 260; omega), (by show 96 + 96 * (k + 1) + 96 + 0 + 0 ≤ 1560; omega)⟩ (fun v10 C12 hP11 => ?_) (fun _ _ hf => hf.elim)
        obtain ⟨rfl, rfl⟩ := hP11
        refine sw_st (st' := [.int (nI ((1000 * Y + X) % 1000)), .int (nI X2)]) rfl ?_
        refine sw_cv (y := nI X) (congrArg nI (by omega)) ?_
        refine sw_isub (pc := 50) hc dL_steps_50 ?_
        refine sw_istore (pc := 51) hc dL_steps_51 (by decide) (lv' := [(6, .int ((nI X2) - (nI X))), (5, .int (nI (1000 * Y2 + X2))), (4, .int (nI (k + 1))), (3, .int (nI (1000 * Y + X))), (2, .int (nI t)), (0, .ref x0), (1, .int (nI r))]) rfl ?_
        refine sw_iload (pc := 53) hc dL_steps_53 1 rfl ?_
        refine sw_callS (pc := 55) (rest := []) hc (c_L_up l g _ (1000 * Y2 + X2) (by omega)) md_L_up ml_RL_69 st_L_up rfl rfl (Nat.le_of_ble_eq_true rfl) dL_steps_55 ⟨Nat.le_of_ble_eq_true rfl, Nat.le_of_ble_eq_true rfl, (by show 16 + 16 * (k + 1) + 16 + 0 + 0 + 0 ≤ 260; omega), (by show 96 + 96 * (k + 1) + 96 + 0 + 0 + 0 ≤ 1560; omega)⟩ (fun v13 C15 hP14 => ?_) (fun _ _ hf => hf.elim)
        obtain ⟨rfl, rfl⟩ := hP14
        refine sw_st (st' := [.int (nI ((1000 * Y2 + X2) / 1000))]) rfl ?_
        refine sw_cv (y := nI Y2) (congrArg nI (by omega)) ?_
        refine sw_iload_n (pc := 58) hc dL_steps_58 rfl 3 rfl ?_
        refine sw_callS (pc := 59) (rest := [.int (nI Y2)]) hc (c_L_up l g _ (1000 * Y + X) (by omega)) md_L_up ml_RL_69 st_L_up rfl rfl (Nat.le_of_ble_eq_true rfl) dL_steps_59 ⟨Nat.le_of_ble_eq_true rfl, Nat.le_of_ble_eq_true rfl, (by show 16 + 16 * (k + 1) + 16 + 0 + 0 + 0 + 0 ≤ 260; omega), (by show 96 + 96 * (k + 1) + 96 + 0 + 0 + 0 + 0 ≤ 1560; omega)⟩ (fun v16 C18 hP17 => ?_) (fun _ _ hf => hf.elim)
        obtain ⟨rfl, rfl⟩ := hP17
        refine sw_st (st' := [.int (nI ((1000 * Y + X) / 1000)), .int (nI Y2)]) rfl ?_
        refine sw_cv (y := nI Y) (congrArg nI (by omega)) ?_
        refine sw_isub (pc := 62) hc dL_steps_62 ?_
        refine sw_istore (pc := 63) hc dL_steps_63 (by decide) (lv' := [(7, .int ((nI Y2) - (nI Y))), (6, .int ((nI X2) - (nI X))), (5, .int (nI (1000 * Y2 + X2))), (4, .int (nI (k + 1))), (3, .int (nI (1000 * Y + X))), (2, .int (nI t)), (0, .ref x0), (1, .int (nI r))]) rfl ?_
        refine sw_iload (pc := 65) hc dL_steps_65 1 rfl ?_
        refine sw_bipush (pc := 67) (v := 20) hc dL_steps_67 (by decide) ?_
        refine sw_icmp_gt (pc := 69) (tgt := 93) hc dL_steps_69 (by decide) (fun c19 => absurd c19 (df_hi (by omega) (by omega) (by show _ ≤ (20 : Int); omega))) (fun _ => ?_)
        refine sw_iload (pc := 72) hc dL_steps_72 1 rfl ?_
        refine sw_bipush (pc := 74) (v := (-20)) hc dL_steps_74 (by decide) ?_
        refine sw_icmp_lt (pc := 76) (tgt := 93) hc dL_steps_76 (by decide) (fun c20 => absurd c20 (df_lo (by omega) (by omega) (by show (-20 : Int) ≤ _; omega))) (fun _ => ?_)
        refine sw_iload (pc := 79) hc dL_steps_79 0 rfl ?_
        refine sw_bipush (pc := 81) (v := 12) hc dL_steps_81 (by decide) ?_
        refine sw_icmp_gt (pc := 83) (tgt := 93) hc dL_steps_83 (by decide) (fun c21 => absurd c21 (df_hi (by omega) (by omega) (by show _ ≤ (12 : Int); omega))) (fun _ => ?_)
        refine sw_iload (pc := 86) hc dL_steps_86 0 rfl ?_
        refine sw_bipush (pc := 88) (v := (-126)) hc dL_steps_88 (by decide) ?_
        refine sw_icmp_ge (pc := 90) (tgt := 95) hc dL_steps_90 (by decide) (fun _ => ?_) (fun c22 => absurd (Int32.not_lt.mp (df_lo (v := -126) (by omega) (by omega) (by show (-126 : Int) ≤ _; omega))) c22)
        refine sw_iload (pc := 95) hc dL_steps_95 2 rfl ?_
        refine sw_istore_n (pc := 97) hc dL_steps_97 rfl (by decide) (lv' := [(3, .int (nI (1000 * Y2 + X2))), (7, .int ((nI Y2) - (nI Y))), (6, .int ((nI X2) - (nI X))), (5, .int (nI (1000 * Y2 + X2))), (4, .int (nI (k + 1))), (2, .int (nI t)), (0, .ref x0), (1, .int (nI r))]) rfl ?_
        refine sw_iinc (pc := 98) (v := nI (k + 1 + 1)) (lv' := [(4, .int (nI (k + 1 + 1))), (3, .int (nI (1000 * Y2 + X2))), (7, .int ((nI Y2) - (nI Y))), (6, .int ((nI X2) - (nI X))), (5, .int (nI (1000 * Y2 + X2))), (2, .int (nI t)), (0, .ref x0), (1, .int (nI r))]) hc dL_steps_98 (k := 4) rfl (nI_1 (k + 1)) (by decide) rfl ?_
        refine sw_goto (pc := 101) (tgt := 19) hc dL_steps_101 (by decide) ?_
        refine sw_sub (ks := [0, 1, 5, 6, 7]) (lv' := [(4, .int (nI (k + 1 + 1))), (3, .int (nI (1000 * Y2 + X2))), (2, .int (nI t)), (0, .ref x0), (1, .int (nI r))]) rfl ?_
        rw [← e2]
        exact sw_widen (by omega) (by omega) (ih (k + 1) _ (by omega) hG6)

set_option maxHeartbeats 4000000 in
set_option maxRecDepth 100000 in
theorem c_L_steps (l : Launch) (g : sg_G) (C : Nat → Option va_E) (x0 r : Nat) (σ : Mem) (K : va_W) (hst : l.stackTraces = false) (hI : IV σ) (hr : r < 4) (hG : GK g x0 σ K C) : sg_Met l yL_steps cL_steps 8 (some .boolean) 8 142 260 1560 g [.ref x0, .int (nI r)] C (fun v C' => v = some (.int 1) ∧ GK g x0 σ K C') sg_no := by
  refine sg_ofW (by decide) rfl ?_ (Nat.le_of_ble_eq_true rfl)
  intro p e s m below meth c hc hlk hrt hin2 htb
  have hc : sg_Cx p s m _ c cL_steps 8 RL g := hc
  obtain ⟨t, ph, ht, hph, h10, eR⟩ := res_end σ r
  show sg_W p l e _ s m _ below meth c 8 g 0 0 _ C 0 [(0, .ref x0), (1, .int (nI r))] []
  refine sw_aload_n (pc := 0) hc dL_steps_0 rfl 0 rfl ?_
  refine sw_iload_n (pc := 1) hc dL_steps_1 rfl 1 rfl ?_
  obtain ⟨fs4, hx5⟩ := hG.gate
  refine sw_callV (pc := 2) (rest := []) hc (m_result l (nI r) hst hG (hI.rep hr)) md_X7_result ml_RL_58 im_X7_result sl_X7_result hx5 rfl rfl rfl (Nat.le_of_ble_eq_true rfl) dL_steps_2 ⟨Nat.le_of_ble_eq_true rfl, Nat.le_of_ble_eq_true rfl, Nat.le_of_ble_eq_true rfl, Nat.le_of_ble_eq_true rfl⟩ (fun v1 C3 hP2 => ?_) (fun _ _ hf => hf.elim)
  obtain ⟨rfl, hG6⟩ := hP2
  refine sw_st (st' := [.int (rRes σ (iN (nI r)))]) rfl ?_
  refine sw_cv (y := nI (10 * t + ph)) (by rw [iN_nI (by omega), eR]) ?_
  refine sw_bipush (pc := 5) (v := 10) hc dL_steps_5 (by decide) ?_
  refine sw_idiv (pc := 7) hc dL_steps_7 (by decide) ?_
  refine sw_cv (y := nI t) ((pk_div (d := 10) (by omega) (by decide) (by decide)).trans (congrArg nI (by omega))) ?_
  refine sw_istore_n (pc := 8) hc dL_steps_8 rfl (by decide) (lv' := [(2, .int (nI t)), (0, .ref x0), (1, .int (nI r))]) rfl ?_
  refine sw_aload_n (pc := 9) hc dL_steps_9 rfl 1 rfl ?_
  refine sw_iload_n (pc := 10) hc dL_steps_10 rfl 2 rfl ?_
  refine sw_iconst (pc := 11) (v := 0) hc dL_steps_11 (by decide) ?_
  obtain ⟨fs10, hx11⟩ := hG6.gate
  refine sw_callV (pc := 12) (rest := []) hc (m_where l (nI r) (T := 0) hst hG6 (hI.rep hr) ⟨by decide, by rw [iN_nI (by omega), h10]; exact nI_le (a := 0) (Nat.zero_le _) (by omega)⟩ (by decide)) md_X7_where ml_RL_66 im_X7_where sl_X7_where hx11 rfl rfl rfl (Nat.le_of_ble_eq_true rfl) dL_steps_12 ⟨Nat.le_of_ble_eq_true rfl, Nat.le_of_ble_eq_true rfl, Nat.le_of_ble_eq_true rfl, Nat.le_of_ble_eq_true rfl⟩ (fun v7 C9 hP8 => ?_) (fun _ _ hf => hf.elim)
  obtain ⟨rfl, hG12⟩ := hP8
  refine sw_st (st' := [.int (rWhr σ (iN (nI r)) 0)]) rfl ?_
  refine sw_cv (y := rWhr σ r 0) (by rw [iN_nI (by omega)]) ?_
  refine sw_istore_n (pc := 15) hc dL_steps_15 rfl (by decide) (lv' := [(3, .int (rWhr σ r 0)), (2, .int (nI t)), (0, .ref x0), (1, .int (nI r))]) rfl ?_
  refine sw_iconst (pc := 16) (v := 1) hc dL_steps_16 (by decide) ?_
  refine sw_istore (pc := 17) hc dL_steps_17 (by decide) (lv' := [(4, .int 1), (3, .int (rWhr σ r 0)), (2, .int (nI t)), (0, .ref x0), (1, .int (nI r))]) rfl ?_
  refine sw_sub (ks := [0, 1, 2, 3, 4]) (lv' := [(4, .int (nI (0 + 1))), (3, .int (rWhr σ r 0)), (2, .int (nI t)), (0, .ref x0), (1, .int (nI r))]) rfl ?_
  refine steps_l hc hst hI hr ht h10 (fun C5 j hj hG5 => ?_) 12 0 _ rfl hG12
  obtain ⟨X, Y, X2, Y2, e1, e2, x1, x2, x3, x4, y1, y2, y3⟩ := wh_step (T := j) hI hG5.wx hr (by omega)
  rw [e1]
  refine sw_iload_n (pc := 104) hc dL_steps_104 rfl 0 rfl ?_
  refine sw_callS (pc := 105) (rest := []) hc (c_L_across l g _ (1000 * Y + X) (by omega)) md_L_across ml_RL_61 st_L_across rfl rfl (Nat.le_of_ble_eq_true rfl) dL_steps_105 ⟨Nat.le_of_ble_eq_true rfl, Nat.le_of_ble_eq_true rfl, Nat.le_of_ble_eq_true rfl, Nat.le_of_ble_eq_true rfl⟩ (fun v13 C15 hP14 => ?_) (fun _ _ hf => hf.elim)
  obtain ⟨rfl, rfl⟩ := hP14
  refine sw_st (st' := [.int (nI ((1000 * Y + X) % 1000))]) rfl ?_
  refine sw_cv (y := nI X) (congrArg nI (by omega)) ?_
  refine sw_sipush (pc := 108) (v := 512) hc dL_steps_108 (by decide) ?_
  refine sw_icmp_ge (pc := 111) (tgt := 130) hc dL_steps_111 (by decide) (fun c16 => absurd c16 (nI_ge (b := 512) x1 (by decide))) (fun _ => ?_)
  refine sw_aload_n (pc := 114) hc dL_steps_114 rfl 2 rfl ?_
  refine sw_iload_n (pc := 115) hc dL_steps_115 rfl 3 rfl ?_
  obtain ⟨fs20, hx21⟩ := hG5.gate
  refine sw_callV (pc := 116) (rest := []) hc (m_result l (nI r) hst hG5 (hI.rep hr)) md_X7_result ml_RL_58 im_X7_result sl_X7_result hx21 rfl rfl rfl (Nat.le_of_ble_eq_true rfl) dL_steps_116 ⟨Nat.le_of_ble_eq_true rfl, Nat.le_of_ble_eq_true rfl, Nat.le_of_ble_eq_true rfl, Nat.le_of_ble_eq_true rfl⟩ (fun v17 C19 hP18 => ?_) (fun _ _ hf => hf.elim)
  obtain ⟨rfl, hG22⟩ := hP18
  refine sw_st (st' := [.int (rRes σ (iN (nI r)))]) rfl ?_
  refine sw_cv (y := nI (10 * t + ph)) (by rw [iN_nI (by omega), eR]) ?_
  refine sw_bipush (pc := 119) (v := 10) hc dL_steps_119 (by decide) ?_
  refine sw_irem (pc := 121) hc dL_steps_121 (by decide) ?_
  refine sw_cv (y := nI ph) ((pk_rem (d := 10) (by omega) (by decide) (by decide)).trans (congrArg nI (by omega))) ?_
  refine sw_iconst (pc := 122) (v := 3) hc dL_steps_122 (by decide) ?_
  refine sw_icmp_ge (pc := 123) (tgt := 130) hc dL_steps_123 (by decide) (fun c23 => absurd c23 (nI_ge (b := 3) hph (by decide))) (fun _ => ?_)
  refine sw_iconst (pc := 126) (v := 1) hc dL_steps_126 (by decide) ?_
  refine sw_goto (pc := 127) (tgt := 131) hc dL_steps_127 (by decide) ?_
  exact sw_iret (pc := 131) hc hlk hrt rfl ⟨rfl, hG22⟩ (Nat.le_of_ble_eq_true rfl) (Nat.le_of_ble_eq_true rfl) dL_steps_131

