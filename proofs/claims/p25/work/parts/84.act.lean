/-! what the law does to the gate -/
/-- gifts stay small -/
def GB (σ : Mem) (n : Nat) : Prop := ∀ k, ∃ G : Nat, σ 29 k = nI G ∧ G ≤ 1000 * n
section SAM
variable {σ τ : Mem} {fn fw : Nat → Int32} {n : Nat}
theorem GB.up (h : GB σ n) : GB σ (n + 1) := fun k => by
  obtain ⟨G, h1, h2⟩ := h k
  exact ⟨G, h1, by omega⟩
theorem IV.same (h : IV σ) (e2 : τ 2 0 = σ 2 0) (e9 : τ 9 0 = σ 9 0) (e16 : τ 16 0 = σ 16 0) (e0 : τ 0 = σ 0) (e26 : τ 26 0 = σ 26 0) (e18 : τ 18 = σ 18) : IV τ := by
  unfold IV
  rw [e2, e9, e16, e0, e26, e18]
  exact h
theorem NA.same (h : NA σ fn) (e26 : τ 26 0 = σ 26 0) (e30 : τ 30 0 = σ 30 0) : NA τ fn := by
  unfold NA
  rw [e26, e30]
  exact h
theorem WA.same (h : WA σ fw) (e26 : τ 26 0 = σ 26 0) (e18 : τ 18 = σ 18) (e19 : τ 19 = σ 19) : WA τ fw := by
  unfold WA
  rw [e26, e18, e19]
  exact h
theorem GB.same (h : GB σ n) (e29 : τ 29 = σ 29) : GB τ n := by
  unfold GB
  rw [e29]
  exact h
end SAM
theorem sw_any {p : Program} {l : Launch} {e : Env} {R : Room} {s : State} {m : MethodId} {args : Array Value} {below : List Frame} {meth : Method} {c : Code} {cells slots : Nat} {Q : State → Prop} {nL : Nat} {g : sg_G} {C : Nat → Option va_E} {pc : Nat} {lv : List (Nat × Value)} {rest : List Value} {x : Int32} (kk : ∀ z : Int32, sg_W p l e R s m args below meth c nL g cells slots Q C pc lv (.int z :: rest)) : sg_W p l e R s m args below meth c nL g cells slots Q C pc lv (.int x :: rest) := kk x
theorem x3_n (k : Int32) : x3 k < 0 := by
  unfold x3
  split
  · decide
  · split <;> decide
theorem x2_n (k : Int32) : x2 k < 0 := by
  unfold x2
  split <;> decide
def actP (g : sg_G) (x0 nA wA : Nat) (σ : Mem) (K : va_W) (fn fw : Nat → Int32) (n : Nat) : Option Value → (Nat → Option va_E) → Prop := fun v C' =>
  ∃ z σ' fn' fw', v = some (.int z) ∧ GK g x0 σ' ((nA, sg_ia g 4 fn') :: (wA, sg_ia g 48 fw') :: K) C' ∧ IV σ' ∧ NA σ' fn' ∧ WA σ' fw' ∧ GB σ' (n + 1) ∧ (z < 0 → σ' = σ ∧ fn' = fn ∧ fw' = fw)
section ACT
variable {σ : Mem} {x y z b t d f pu j a : Int32} {fn fw : Nat → Int32} {n : Nat}
theorem fI_0 (h : kInput σ x b t = 0) : fInput σ x b t = oInput (st2 σ 42 0 (kInput σ x b t)) x b t := if_neg (by rw [h]; decide)
theorem fR_0 (h : kRule σ x d f pu j = 0) : fRule σ x d f pu j = oRule (st2 σ 42 0 (kRule σ x d f pu j)) x d f pu j := if_neg (by rw [h]; decide)
theorem fO_0 (h : kOffer σ x y = 0) : fOffer σ x y = oOffer (st2 σ 42 0 (kOffer σ x y)) x y := if_neg (by rw [h]; decide)
theorem fP_0 (h : kPass σ x = 0) : fPass σ x = st2 (st2 σ 42 0 (kPass σ x)) 31 0 (σ 31 0 + x) := if_neg (by rw [h]; decide)
theorem fG_0 (h : kGift σ x a = 0) : fGift σ x a = st2 (st2 σ 42 0 (kGift σ x a)) 29 (iN x) (σ 29 (iN x) + a) := if_neg (by rw [h]; decide)
theorem fS_0 (h : kSubmit σ (rSub σ x y z) x y z = 0) : fSubmit σ x y z = oSubmit (st2 (rSub σ x y z) 42 0 (kSubmit σ (rSub σ x y z) x y z)) x y z := if_neg (by rw [h]; decide)
theorem iv_input (h : kInput σ x b t = 0) (hI : IV σ) : IV (fInput σ x b t) := by
  rw [fI_0 h]
  exact hI.same rfl rfl rfl rfl rfl rfl
theorem na_input (h : kInput σ x b t = 0) (hN : NA σ fn) : NA (fInput σ x b t) fn := by
  rw [fI_0 h]
  exact hN.same rfl rfl
theorem wa_input (h : kInput σ x b t = 0) (hw : WA σ fw) : WA (fInput σ x b t) fw := by
  rw [fI_0 h]
  exact hw.same rfl rfl rfl
theorem gb_input (h : kInput σ x b t = 0) (hB : GB σ n) : GB (fInput σ x b t) n := by
  rw [fI_0 h]
  exact hB.same rfl
theorem v_input (h : kInput σ x b t = 0) (hW : WX (fInput σ x b t)) : ¬ vInput σ x b t < 0 := by
  have e : fInput σ x b t 5 (iN x) = vInput σ x b t := by
    rw [fI_0 h]
    unfold vInput
    rw [if_neg (by rw [h]; decide)]
    exact st2_ss
  obtain ⟨h1, h2⟩ := hW.2.2.2.2.2.1 (iN x)
  rw [e] at h1
  rw [h1]
  exact nI_pos (by omega)
theorem iv_rule (h : kRule σ x d f pu j = 0) (hI : IV σ) : IV (fRule σ x d f pu j) := by
  rw [fR_0 h]
  exact hI.same rfl rfl rfl rfl rfl rfl
theorem na_rule (h : kRule σ x d f pu j = 0) (hN : NA σ fn) : NA (fRule σ x d f pu j) fn := by
  rw [fR_0 h]
  exact hN.same rfl rfl
theorem wa_rule (h : kRule σ x d f pu j = 0) (hw : WA σ fw) : WA (fRule σ x d f pu j) fw := by
  rw [fR_0 h]
  exact hw.same rfl rfl rfl
theorem gb_rule (h : kRule σ x d f pu j = 0) (hB : GB σ n) : GB (fRule σ x d f pu j) n := by
  rw [fR_0 h]
  exact hB.same rfl
theorem rfc_c {τ : Mem} : ∀ m, rRfC τ x m = nI (cn (fun k => τ 19 k = x ∧ rRef τ k) m)
  | 0 => rfl
  | m + 1 => by
    show rRfC τ x m + (if _ then _ else _) = nI (cn _ m + if _ then _ else _)
    rw [rfc_c m]
    by_cases q : τ 19 m = x ∧ rRef τ m
    · rw [if_pos q, if_pos q]; exact nI_add _ 1
    · rw [if_neg q, if_neg q]; exact nI_add _ 0
theorem v_rule (h : kRule σ x d f pu j = 0) (hW : WX σ) : ¬ vRule σ x d f pu j < 0 := by
  unfold vRule
  rw [if_neg (by rw [h]; decide), rfc_c]
  have := cn_le (P := fun k => oRule (st2 σ 42 0 (kRule σ x d f pu j)) x d f pu j 19 k = x ∧ rRef (oRule (st2 σ 42 0 (kRule σ x d f pu j)) x d f pu j) k) (iN (σ 26 0))
  have h40 := hW.n41
  exact nI_pos (by omega)
theorem iv_pass (h : kPass σ x = 0) (hI : IV σ) : IV (fPass σ x) := by
  rw [fP_0 h]
  exact hI.same rfl rfl rfl rfl rfl rfl
theorem na_pass (h : kPass σ x = 0) (hN : NA σ fn) : NA (fPass σ x) fn := by
  rw [fP_0 h]
  exact hN.same rfl rfl
theorem wa_pass (h : kPass σ x = 0) (hw : WA σ fw) : WA (fPass σ x) fw := by
  rw [fP_0 h]
  exact hw.same rfl rfl rfl
theorem gb_pass (h : kPass σ x = 0) (hB : GB σ n) : GB (fPass σ x) n := by
  rw [fP_0 h]
  exact hB.same rfl
theorem v_pass (h : kPass σ x = 0) (hW : WX (fPass σ x)) : ¬ vPass σ x < 0 := by
  have e : fPass σ x 31 0 = vPass σ x := by
    rw [fP_0 h]
    unfold vPass
    rw [if_neg (by rw [h]; decide)]
    exact st2_ss
  have h1 := hW.2.1.2.2.1
  rw [e] at h1
  exact Int32.not_lt.mpr h1
theorem iv_gift (h : kGift σ x a = 0) (hI : IV σ) : IV (fGift σ x a) := by
  rw [fG_0 h]
  exact hI.same rfl rfl rfl rfl rfl rfl
theorem na_gift (h : kGift σ x a = 0) (hN : NA σ fn) : NA (fGift σ x a) fn := by
  rw [fG_0 h]
  exact hN.same rfl rfl
theorem wa_gift (h : kGift σ x a = 0) (hw : WA σ fw) : WA (fGift σ x a) fw := by
  rw [fG_0 h]
  exact hw.same rfl rfl rfl
theorem kG_a (h : kGift σ x a = 0) : ∃ A : Nat, a = nI A ∧ A ≤ 1000 := by
  have h2 := (kGift_0 (σ := σ) (x := x) (a := a) (by rw [h]; decide)).2.1
  obtain ⟨j, hj, e⟩ := nI_of2 (x := a) (M := 1000) (n := 1000) (by decide) (Int32.not_lt.mpr (Int32.le_trans (by decide) h2.1)) h2.2
  exact ⟨j, e, hj⟩
theorem v_gift (h : kGift σ x a = 0) (hB : GB σ n) (hn : n ≤ 1000) : ∃ G : Nat, vGift σ x a = nI G ∧ G ≤ 1000 * (n + 1) := by
  obtain ⟨A, rfl, hA⟩ := kG_a h
  obtain ⟨G, hG, hG2⟩ := hB (iN x)
  unfold vGift
  rw [if_neg (by rw [h]; decide), hG, nI_add]
  exact ⟨_, rfl, by omega⟩
theorem gb_gift (h : kGift σ x a = 0) (hB : GB σ n) (hn : n ≤ 1000) : GB (fGift σ x a) (n + 1) := by
  obtain ⟨G, hG, hG2⟩ := v_gift h hB hn
  unfold vGift at hG
  rw [if_neg (by rw [h]; decide)] at hG
  rw [fG_0 h]
  intro k
  by_cases q : k = iN x
  · subst q
    exact ⟨G, st2_ss.trans hG, hG2⟩
  · obtain ⟨G2, q1, q2⟩ := hB k
    refine ⟨G2, Eq.trans ?_ q1, by omega⟩
    show cond (Nat.beq 29 29 && Nat.beq k (iN x)) _ _ = _
    have hb : Nat.beq k (iN x) = false := by
      cases hb : Nat.beq k (iN x) with
      | false => rfl
      | true => exact absurd (Nat.eq_of_beq_eq_true hb) q
    rw [hb]
    rfl
theorem iv_offer (h : kOffer σ x y = 0) (hI : IV σ) : IV (fOffer σ x y) := by
  rw [fO_0 h]
  exact hI.same rfl rfl rfl rfl rfl rfl
theorem wa_offer (h : kOffer σ x y = 0) (hw : WA σ fw) : WA (fOffer σ x y) fw := by
  rw [fO_0 h]
  exact hw.same rfl rfl rfl
theorem gb_offer (h : kOffer σ x y = 0) (hB : GB σ n) : GB (fOffer σ x y) n := by
  rw [fO_0 h]
  exact hB.same rfl
theorem o_offer (h : kOffer σ x y = 0) (hW : WX σ) : fOffer σ x y 30 0 = nI (iN (σ 30 0) + 1) ∧ iN (σ 30 0) ≤ 10 := by
  have h2 := hW.1.2.2.2.2.1
  rw [fO_0 h]
  refine ⟨?_, by have := h2.2; omega⟩
  show σ 30 0 + 1 = _
  rw [← nI_1, ← h2.1]
theorem na_offer (h : kOffer σ x y = 0) (hW : WX σ) (hN : NA σ fn) : NA (fOffer σ x y) (upd fn 3 (fn 3 + 1)) := by
  obtain ⟨e, hO⟩ := o_offer h hW
  refine ⟨(if_neg (by decide)).trans hN.1, (if_neg (by decide)).trans hN.2.1, (if_neg (by decide)).trans ?_, ?_⟩
  · rw [fO_0 h]; exact hN.2.2.1
  · rw [e, iN_nI (by omega), pk_us, hN.2.2.2]
    exact nI_1 _
theorem v_offer (h : kOffer σ x y = 0) (hW : WX σ) : vOffer σ x y = nI (iN (σ 30 0)) := by
  have h2 := hW.1.2.2.2.2.1
  unfold vOffer
  rw [if_neg (by rw [h]; decide)]
  rw [h2.1, nI_1, nI_pred, iN_nI (by have := h2.2; omega)]
/-- a run more -/
theorem s_rows (h : kSubmit σ (rSub σ x y z) x y z = 0) (hW : WX σ) : fSubmit σ x y z 2 = σ 2 ∧ fSubmit σ x y z 9 = σ 9 ∧ fSubmit σ x y z 16 = σ 16 ∧ fSubmit σ x y z 0 = σ 0 ∧ fSubmit σ x y z 29 = σ 29 ∧ fSubmit σ x y z 30 = σ 30 ∧ fSubmit σ x y z 26 0 = nI (iN (σ 26 0) + 1) ∧
    fSubmit σ x y z 18 (iN (σ 26 0)) = x ∧ fSubmit σ x y z 19 (iN (σ 26 0)) = z ∧ (∀ r, r ≠ iN (σ 26 0) → fSubmit σ x y z 18 r = σ 18 r ∧ fSubmit σ x y z 19 r = σ 19 r) := by
  have hF := rSub_fr σ x y z
  have e26 : rSub σ x y z 26 = σ 26 := hF 26 (by decide)
  have h2 := hW.1.2.2.2.1
  rw [fS_0 h]
  refine ⟨hF 2 (by decide), hF 9 (by decide), hF 16 (by decide), hF 0 (by decide), hF 29 (by decide), hF 30 (by decide), ?_, ?_, ?_, fun r hr => ?_⟩
  · show rSub σ x y z 26 0 + 1 = _
    rw [e26, ← nI_1, ← h2.1]
  · show cond (Nat.beq 18 18 && Nat.beq (iN (σ 26 0)) (iN (rSub σ x y z 26 0))) x _ = x
    rw [e26, Nat.beq_refl, Nat.beq_refl]
    rfl
  · show cond (Nat.beq 19 19 && Nat.beq (iN (σ 26 0)) (iN (rSub σ x y z 26 0))) z _ = z
    rw [e26, Nat.beq_refl, Nat.beq_refl]
    rfl
  · have hb : Nat.beq r (iN (rSub σ x y z 26 0)) = false := by
      rw [e26]
      cases hb : Nat.beq r (iN (σ 26 0)) with
      | false => rfl
      | true => exact absurd (Nat.eq_of_beq_eq_true hb) hr
    constructor
    · show cond (Nat.beq 18 18 && Nat.beq r (iN (rSub σ x y z 26 0))) x (rSub σ x y z 18 r) = _
      rw [hb, hF 18 (by decide)]
      rfl
    · show cond (Nat.beq 19 19 && Nat.beq r (iN (rSub σ x y z 26 0))) z (rSub σ x y z 19 r) = _
      rw [hb, hF 19 (by decide)]
      rfl
theorem iv_submit (h : kSubmit σ (rSub σ x y z) x y z = 0) (hW : WX σ) (hN24 : iN (σ 26 0) < 24) (hI : IV σ) : IV (fSubmit σ x y z) := by
  obtain ⟨r2, r9, r16, r0, -, -, r26, r18, -, rr⟩ := s_rows h hW
  have hx := (kSubmit_0 (by rw [h]; decide)).1.1
  obtain ⟨e1, e2⟩ := rng_x (x := x) (n := 7) (by decide) hx
  refine ⟨by rw [r2]; exact hI.1, by rw [r9]; exact hI.2.1, by rw [r16]; exact hI.2.2.1, by rw [r0]; exact hI.2.2.2.1, ?_, ?_⟩
  · rw [r26, iN_nI (by omega)]
    omega
  · rw [r26, iN_nI (by omega)]
    intro r hr
    by_cases q : r = iN (σ 26 0)
    · rw [q, r18]
      exact ⟨e1, by omega⟩
    · rw [(rr r q).1]
      exact hI.2.2.2.2.2 r (by omega)
theorem na_submit (h : kSubmit σ (rSub σ x y z) x y z = 0) (hW : WX σ) (hN : NA σ fn) : NA (fSubmit σ x y z) (upd fn 2 (nI (iN (σ 26 0)) + 1)) := by
  obtain ⟨-, -, -, -, -, r30, r26, -⟩ := s_rows h hW
  have h40 := hW.n41
  refine ⟨(if_neg (by decide)).trans hN.1, (if_neg (by decide)).trans hN.2.1, ?_, (if_neg (by decide)).trans ?_⟩
  · rw [r26, iN_nI (by omega), pk_us]
    exact nI_1 _
  · rw [r30]; exact hN.2.2.2
theorem wa_submit (h : kSubmit σ (rSub σ x y z) x y z = 0) (hW : WX σ) (hw : WA σ fw) : WA (fSubmit σ x y z) (upd (upd fw (2 * iN (σ 26 0)) x) (2 * iN (σ 26 0) + 1) z) := by
  obtain ⟨-, -, -, -, -, -, r26, r18, r19, rr⟩ := s_rows h hW
  have h40 := hW.n41
  intro r hr
  rw [r26, iN_nI (by omega)] at hr
  by_cases q : r = iN (σ 26 0)
  · subst q
    rw [r18, r19, pk_us, pk_un (by omega), pk_us]
    exact ⟨rfl, rfl⟩
  · rw [(rr r q).1, (rr r q).2, pk_un (by omega), pk_un (by omega), pk_un (by omega), pk_un (by omega)]
    exact hw r (by omega)
theorem gb_submit (h : kSubmit σ (rSub σ x y z) x y z = 0) (hW : WX σ) (hB : GB σ n) : GB (fSubmit σ x y z) n := hB.same (s_rows h hW).2.2.2.2.1
theorem v_submit (h : kSubmit σ (rSub σ x y z) x y z = 0) (hW : WX σ) : vSubmit σ x y z = nI (iN (σ 26 0)) := by
  have h2 := hW.1.2.2.2.1
  have e26 : rSub σ x y z 26 = σ 26 := rSub_fr σ x y z 26 (by decide)
  unfold vSubmit
  rw [if_neg (by rw [h]; decide), e26, h2.1, nI_1, nI_pred, iN_nI (by have := h2.2; omega)]
theorem upd_0 {k : Nat} : upd fn k (fn k + 0) = fn := by
  funext i
  by_cases q : i = k
  · subst q
    rw [pk_us]
    exact Int32.add_zero _
  · exact pk_un q
end ACT
theorem used_all {σ : Mem} {x : Int32} (hI : IV σ) (hW : WX σ) (hx : rIn σ 2 x) (h : rUsed σ x = 0) : False := by
  have h2 : iN (σ 2 0) = 1 := by rw [hI.1]; rfl
  have h9 : iN (σ 9 0) = 4 := by rw [hI.2.1]; rfl
  obtain ⟨e, e2⟩ := rIn_x hW.1.1 (by decide) hx
  have e3 : x = 0 := by rw [e, show iN x = 0 by omega]; rfl
  have r := hW.1.2.2.2.2.2.1 3 (by omega)
  have r3 : σ 3 3 = 0 := by rw [r.1, show iN (σ 3 3) = 0 by have := r.2; omega]; rfl
  unfold rUsed at h
  rw [h9] at h
  have h1 : rUsd σ x 4 = rUsd σ x 3 ||| bI (σ 3 3 = x) := rfl
  rw [h1, bI_t (by rw [r3, e3])] at h
  rcases rUsd_01 σ x 3 with q | q
  · rw [q] at h; exact absurd h (by decide)
  · rw [q] at h; exact absurd h (by decide)
theorem md_L_low : sg_MD yL_low cL_low 2 (some .int) 2 := ⟨sg_mem (i := 465) (by decide +kernel) rfl, sg_mem (i := 25) (by decide +kernel) rfl, ⟨by decide, by decide⟩, by decide +kernel⟩
theorem ml_RL_89 : sg_ML RL 89 yL_low := .inl (sg_mem (i := 463) (by decide +kernel) rfl)
theorem st_L_low : Cond.static yL_low ∈ sg_T := sg_mem (i := 464) (by decide +kernel) rfl
theorem lk_RL_92 : Cond.methodLink RL 92 yL_input ∈ sg_T := sg_mem (i := 467) (by decide +kernel) rfl
theorem st_L_input : Cond.static yL_input ∈ sg_T := sg_mem (i := 468) (by decide +kernel) rfl
theorem lk_RL_104 : Cond.methodLink RL 104 yL_pass ∈ sg_T := sg_mem (i := 659) (by decide +kernel) rfl
theorem st_L_pass : Cond.static yL_pass ∈ sg_T := sg_mem (i := 660) (by decide +kernel) rfl
theorem lk_RL_102 : Cond.methodLink RL 102 yL_gift ∈ sg_T := sg_mem (i := 805) (by decide +kernel) rfl
theorem st_L_gift : Cond.static yL_gift ∈ sg_T := sg_mem (i := 806) (by decide +kernel) rfl
theorem lk_RL_106 : Cond.methodLink RL 106 yL_column ∈ sg_T := sg_mem (i := 555) (by decide +kernel) rfl
theorem st_L_column : Cond.static yL_column ∈ sg_T := sg_mem (i := 556) (by decide +kernel) rfl
theorem lk_RL_97 : Cond.methodLink RL 97 yL_rule ∈ sg_T := sg_mem (i := 627) (by decide +kernel) rfl
theorem st_L_rule : Cond.static yL_rule ∈ sg_T := sg_mem (i := 628) (by decide +kernel) rfl
theorem lk_RL_100 : Cond.methodLink RL 100 yL_offer ∈ sg_T := sg_mem (i := 776) (by decide +kernel) rfl
theorem st_L_offer : Cond.static yL_offer ∈ sg_T := sg_mem (i := 777) (by decide +kernel) rfl
theorem lk_RL_95 : Cond.methodLink RL 95 yL_submit ∈ sg_T := sg_mem (i := 572) (by decide +kernel) rfl
theorem st_L_submit : Cond.static yL_submit ∈ sg_T := sg_mem (i := 573) (by decide +kernel) rfl
set_option maxHeartbeats 4000000 in
set_option maxRecDepth 100000 in
theorem act_input {p : Program} {l : Launch} {e : Env} {s : State} {m : MethodId} {below : List Frame} {meth : Method} {c : Code} {args : Array Value} {g : sg_G} {x0 nA wA n : Nat} {σ : Mem} {K : va_W} {fn fw : Nat → Int32} {C : Nat → Option va_E} {y rp ct : Int32} (hc : sg_Cx p s m args c cL_act 10 RL g) (hlk : meth.locks = false) (hrt : meth.sig.returnType = some .int) (hst : l.stackTraces = false) (hI : IV σ) (hN : NA σ fn) (hw : WA σ fw) (hB : GB σ n) (hn : n ≤ 1000) (hG : GK g x0 σ ((nA, sg_ia g 4 fn) :: (wA, sg_ia g 48 fw) :: K) C) : sg_W p l e (sg_rm 9 213 24 420) s m args below meth c 10 g 0 0 (sg_End below g (actP g x0 nA wA σ K fn fw n) sg_no args s 24 420) C 116 [(7, .int ct), (6, .int rp), (0, .ref x0), (1, .ref nA), (2, .ref wA), (4, .int y)] [] := by
  refine sw_aload_n (pc := 116) hc dL_act_116 rfl 2 rfl ?_
  refine sw_iload (pc := 117) hc dL_act_117 1 rfl ?_
  refine sw_iload (pc := 119) hc dL_act_119 5 rfl ?_
  refine sw_iconst (pc := 121) (v := 3) hc dL_act_121 (by decide) ?_
  refine sw_ishr (pc := 122) hc dL_act_122 ?_
  refine sw_bipush (pc := 123) (v := 17) hc dL_act_123 (by decide) ?_
  refine sw_callS (pc := 125) (rest := [.int rp, .ref x0]) hc (c_L_low l g _ (y >>> (3 &&& 31)) 17 (by decide) (by decide)) md_L_low ml_RL_89 st_L_low rfl rfl (Nat.le_of_ble_eq_true rfl) dL_act_125 ⟨Nat.le_of_ble_eq_true rfl, Nat.le_of_ble_eq_true rfl, Nat.le_of_ble_eq_true rfl, Nat.le_of_ble_eq_true rfl⟩ (fun v1 C3 hP2 => ?_) (fun _ _ hf => hf.elim)
  obtain ⟨rfl, rfl⟩ := hP2
  refine sw_st (st' := [.int (nI (lowN (y >>> (3 &&& 31)) 17)), .int rp, .ref x0]) rfl ?_
  refine sw_iload (pc := 128) hc dL_act_128 5 rfl ?_
  refine sw_bipush (pc := 130) (v := 8) hc dL_act_130 (by decide) ?_
  refine sw_ishr (pc := 132) hc dL_act_132 ?_
  refine sw_bipush (pc := 133) (v := 110) hc dL_act_133 (by decide) ?_
  refine sw_callS (pc := 135) (rest := [.int (nI (lowN (y >>> (3 &&& 31)) 17)), .int rp, .ref x0]) hc (c_L_low l g _ (y >>> (8 &&& 31)) 110 (by decide) (by decide)) md_L_low ml_RL_89 st_L_low rfl rfl (Nat.le_of_ble_eq_true rfl) dL_act_135 ⟨Nat.le_of_ble_eq_true rfl, Nat.le_of_ble_eq_true rfl, Nat.le_of_ble_eq_true rfl, Nat.le_of_ble_eq_true rfl⟩ (fun v4 C6 hP5 => ?_) (fun _ _ hf => hf.elim)
  obtain ⟨rfl, rfl⟩ := hP5
  refine sw_st (st' := [.int (nI (lowN (y >>> (8 &&& 31)) 110)), .int (nI (lowN (y >>> (3 &&& 31)) 17)), .int rp, .ref x0]) rfl ?_
  refine sw_callSX (pc := 138) (rest := []) hc (c_L_input l g _ x0 σ _ rp (nI (lowN (y >>> (3 &&& 31)) 17)) (nI (lowN (y >>> (8 &&& 31)) 110)) hst hG) mdh_L_input lk_RL_92 st_L_input rfl rfl (Nat.le_of_ble_eq_true rfl) dL_act_138 ⟨Nat.le_of_ble_eq_true rfl, Nat.le_of_ble_eq_true rfl, Nat.le_of_ble_eq_true rfl, Nat.le_of_ble_eq_true rfl⟩ (fun v7 C9 hP8 => ?_)
  obtain ⟨rfl, hG10⟩ := hP8
  refine sw_st (st' := [.int (if kInput σ rp (nI (lowN (y >>> (3 &&& 31)) 17)) (nI (lowN (y >>> (8 &&& 31)) 110)) = 0 then vInput σ rp (nI (lowN (y >>> (3 &&& 31)) 17)) (nI (lowN (y >>> (8 &&& 31)) 110)) else x3 (kInput σ rp (nI (lowN (y >>> (3 &&& 31)) 17)) (nI (lowN (y >>> (8 &&& 31)) 110))))]) rfl ?_
  by_cases hk : kInput σ rp (nI (lowN (y >>> (3 &&& 31)) 17)) (nI (lowN (y >>> (8 &&& 31)) 110)) = 0
  · rw [if_pos hk] at hG10
    exact sw_iret (pc := 141) hc hlk hrt rfl ⟨_, fInput σ rp (nI (lowN (y >>> (3 &&& 31)) 17)) (nI (lowN (y >>> (8 &&& 31)) 110)), fn, fw, rfl, hG10, iv_input hk hI, na_input hk hN, wa_input hk hw, (gb_input hk hB).up, fun hz => absurd hz (by rw [if_pos hk]; exact v_input hk hG10.wx)⟩ (Nat.le_of_ble_eq_true rfl) (Nat.le_of_ble_eq_true rfl) dL_act_141
  · rw [if_neg hk] at hG10
    exact sw_iret (pc := 141) hc hlk hrt rfl ⟨_, σ, fn, fw, rfl, hG10, hI, hN, hw, hB.up, fun _ => ⟨rfl, rfl, rfl⟩⟩ (Nat.le_of_ble_eq_true rfl) (Nat.le_of_ble_eq_true rfl) dL_act_141

set_option maxHeartbeats 4000000 in
set_option maxRecDepth 100000 in
theorem act_pass {p : Program} {l : Launch} {e : Env} {s : State} {m : MethodId} {below : List Frame} {meth : Method} {c : Code} {args : Array Value} {g : sg_G} {x0 nA wA n : Nat} {σ : Mem} {K : va_W} {fn fw : Nat → Int32} {C : Nat → Option va_E} {y rp ct : Int32} (hc : sg_Cx p s m args c cL_act 10 RL g) (hlk : meth.locks = false) (hrt : meth.sig.returnType = some .int) (hst : l.stackTraces = false) (hI : IV σ) (hN : NA σ fn) (hw : WA σ fw) (hB : GB σ n) (hn : n ≤ 1000) (hG : GK g x0 σ ((nA, sg_ia g 4 fn) :: (wA, sg_ia g 48 fw) :: K) C) : sg_W p l e (sg_rm 9 213 24 420) s m args below meth c 10 g 0 0 (sg_End below g (actP g x0 nA wA σ K fn fw n) sg_no args s 24 420) C 358 [(7, .int ct), (6, .int rp), (0, .ref x0), (1, .ref nA), (2, .ref wA), (4, .int y)] [] := by
  refine sw_aload_n (pc := 358) hc dL_act_358 rfl 2 rfl ?_
  refine sw_iload (pc := 359) hc dL_act_359 5 rfl ?_
  refine sw_bipush (pc := 361) (v := 6) hc dL_act_361 (by decide) ?_
  refine sw_callS (pc := 363) (rest := [.ref x0]) hc (c_L_low l g _ y 6 (by decide) (by decide)) md_L_low ml_RL_89 st_L_low rfl rfl (Nat.le_of_ble_eq_true rfl) dL_act_363 ⟨Nat.le_of_ble_eq_true rfl, Nat.le_of_ble_eq_true rfl, Nat.le_of_ble_eq_true rfl, Nat.le_of_ble_eq_true rfl⟩ (fun v1 C3 hP2 => ?_) (fun _ _ hf => hf.elim)
  obtain ⟨rfl, rfl⟩ := hP2
  refine sw_st (st' := [.int (nI (lowN y 6)), .ref x0]) rfl ?_
  refine sw_callSX (pc := 366) (rest := []) hc (c_L_pass l g _ x0 σ _ (nI (lowN y 6)) hst hG) mdh_L_pass lk_RL_104 st_L_pass rfl rfl (Nat.le_of_ble_eq_true rfl) dL_act_366 ⟨Nat.le_of_ble_eq_true rfl, Nat.le_of_ble_eq_true rfl, Nat.le_of_ble_eq_true rfl, Nat.le_of_ble_eq_true rfl⟩ (fun v4 C6 hP5 => ?_)
  obtain ⟨rfl, hG7⟩ := hP5
  refine sw_st (st' := [.int (if kPass σ (nI (lowN y 6)) = 0 then vPass σ (nI (lowN y 6)) else xp (kPass σ (nI (lowN y 6))))]) rfl ?_
  by_cases hk : kPass σ (nI (lowN y 6)) = 0
  · rw [if_pos hk] at hG7
    exact sw_iret (pc := 369) hc hlk hrt rfl ⟨_, fPass σ (nI (lowN y 6)), fn, fw, rfl, hG7, iv_pass hk hI, na_pass hk hN, wa_pass hk hw, (gb_pass hk hB).up, fun hz => absurd hz (by rw [if_pos hk]; exact v_pass hk hG7.wx)⟩ (Nat.le_of_ble_eq_true rfl) (Nat.le_of_ble_eq_true rfl) dL_act_369
  · rw [if_neg hk] at hG7
    exact sw_iret (pc := 369) hc hlk hrt rfl ⟨_, σ, fn, fw, rfl, hG7, hI, hN, hw, hB.up, fun _ => ⟨rfl, rfl, rfl⟩⟩ (Nat.le_of_ble_eq_true rfl) (Nat.le_of_ble_eq_true rfl) dL_act_369

set_option maxHeartbeats 4000000 in
set_option maxRecDepth 100000 in
theorem act_gift {p : Program} {l : Launch} {e : Env} {s : State} {m : MethodId} {below : List Frame} {meth : Method} {c : Code} {args : Array Value} {g : sg_G} {x0 nA wA n : Nat} {σ : Mem} {K : va_W} {fn fw : Nat → Int32} {C : Nat → Option va_E} {y rp ct : Int32} (hc : sg_Cx p s m args c cL_act 10 RL g) (hlk : meth.locks = false) (hrt : meth.sig.returnType = some .int) (hst : l.stackTraces = false) (hI : IV σ) (hN : NA σ fn) (hw : WA σ fw) (hB : GB σ n) (hn : n ≤ 1000) (hG : GK g x0 σ ((nA, sg_ia g 4 fn) :: (wA, sg_ia g 48 fw) :: K) C) : sg_W p l e (sg_rm 9 213 24 420) s m args below meth c 10 g 0 0 (sg_End below g (actP g x0 nA wA σ K fn fw n) sg_no args s 24 420) C 333 [(7, .int ct), (6, .int rp), (0, .ref x0), (1, .ref nA), (2, .ref wA), (4, .int y)] [] := by
  have hO : iN (σ 30 0) < 11 := hG.wx.1.2.2.2.2.1.2
  refine sw_aload_n (pc := 333) hc dL_act_333 rfl 2 rfl ?_
  refine sw_iload (pc := 334) hc dL_act_334 5 rfl ?_
  refine sw_aload_n (pc := 336) hc dL_act_336 rfl 3 rfl ?_
  refine sw_iconst (pc := 337) (v := 3) hc dL_act_337 (by decide) ?_
  refine sw_iald (pc := 338) (j := 3) hc (hG.at 0 rfl) rfl (by decide) (by decide) dL_act_338 ?_
  refine sw_cv (y := nI (iN (σ 30 0))) hN.2.2.2 ?_
  refine sw_iconst (pc := 339) (v := 1) hc dL_act_339 (by decide) ?_
  refine sw_iadd (pc := 340) hc dL_act_340 ?_
  refine sw_cv (y := nI (iN (σ 30 0) + 1)) (nI_1 _) ?_
  refine sw_callS (pc := 341) (rest := [.ref x0]) hc (c_L_low l g _ y (iN (σ 30 0) + 1) (Nat.succ_pos _) (by omega)) md_L_low ml_RL_89 st_L_low rfl rfl (Nat.le_of_ble_eq_true rfl) dL_act_341 ⟨Nat.le_of_ble_eq_true rfl, Nat.le_of_ble_eq_true rfl, Nat.le_of_ble_eq_true rfl, Nat.le_of_ble_eq_true rfl⟩ (fun v1 C3 hP2 => ?_) (fun _ _ hf => hf.elim)
  obtain ⟨rfl, rfl⟩ := hP2
  refine sw_st (st' := [.int (nI (lowN y (iN (σ 30 0) + 1))), .ref x0]) rfl ?_
  refine sw_iload (pc := 344) hc dL_act_344 5 rfl ?_
  refine sw_iconst (pc := 346) (v := 4) hc dL_act_346 (by decide) ?_
  refine sw_ishr (pc := 347) hc dL_act_347 ?_
  refine sw_sipush (pc := 348) (v := 1002) hc dL_act_348 (by decide) ?_
  refine sw_callS (pc := 351) (rest := [.int (nI (lowN y (iN (σ 30 0) + 1))), .ref x0]) hc (c_L_low l g _ (y >>> (4 &&& 31)) 1002 (by decide) (by decide)) md_L_low ml_RL_89 st_L_low rfl rfl (Nat.le_of_ble_eq_true rfl) dL_act_351 ⟨Nat.le_of_ble_eq_true rfl, Nat.le_of_ble_eq_true rfl, Nat.le_of_ble_eq_true rfl, Nat.le_of_ble_eq_true rfl⟩ (fun v4 C6 hP5 => ?_) (fun _ _ hf => hf.elim)
  obtain ⟨rfl, rfl⟩ := hP5
  refine sw_st (st' := [.int (nI (lowN (y >>> (4 &&& 31)) 1002)), .int (nI (lowN y (iN (σ 30 0) + 1))), .ref x0]) rfl ?_
  refine sw_callSX (pc := 354) (rest := []) hc (c_L_gift l g _ x0 σ _ (nI (lowN y (iN (σ 30 0) + 1))) (nI (lowN (y >>> (4 &&& 31)) 1002)) hst hG) mdh_L_gift lk_RL_102 st_L_gift rfl rfl (Nat.le_of_ble_eq_true rfl) dL_act_354 ⟨Nat.le_of_ble_eq_true rfl, Nat.le_of_ble_eq_true rfl, Nat.le_of_ble_eq_true rfl, Nat.le_of_ble_eq_true rfl⟩ (fun v7 C9 hP8 => ?_)
  obtain ⟨rfl, hG10⟩ := hP8
  refine sw_st (st' := [.int (if kGift σ (nI (lowN y (iN (σ 30 0) + 1))) (nI (lowN (y >>> (4 &&& 31)) 1002)) = 0 then vGift σ (nI (lowN y (iN (σ 30 0) + 1))) (nI (lowN (y >>> (4 &&& 31)) 1002)) else x3 (kGift σ (nI (lowN y (iN (σ 30 0) + 1))) (nI (lowN (y >>> (4 &&& 31)) 1002))))]) rfl ?_
  by_cases hk : kGift σ (nI (lowN y (iN (σ 30 0) + 1))) (nI (lowN (y >>> (4 &&& 31)) 1002)) = 0
  · rw [if_pos hk] at hG10
    exact sw_iret (pc := 357) hc hlk hrt rfl ⟨_, fGift σ (nI (lowN y (iN (σ 30 0) + 1))) (nI (lowN (y >>> (4 &&& 31)) 1002)), fn, fw, rfl, hG10, iv_gift hk hI, na_gift hk hN, wa_gift hk hw, gb_gift hk hB hn, fun hz => absurd hz (by rw [if_pos hk]; exact (by obtain ⟨G, e, hg2⟩ := v_gift hk hB hn; rw [e]; exact nI_pos (by omega)))⟩ (Nat.le_of_ble_eq_true rfl) (Nat.le_of_ble_eq_true rfl) dL_act_357
  · rw [if_neg hk] at hG10
    exact sw_iret (pc := 357) hc hlk hrt rfl ⟨_, σ, fn, fw, rfl, hG10, hI, hN, hw, hB.up, fun _ => ⟨rfl, rfl, rfl⟩⟩ (Nat.le_of_ble_eq_true rfl) (Nat.le_of_ble_eq_true rfl) dL_act_357

set_option maxHeartbeats 4000000 in
set_option maxRecDepth 100000 in
theorem act_column {p : Program} {l : Launch} {e : Env} {s : State} {m : MethodId} {below : List Frame} {meth : Method} {c : Code} {args : Array Value} {g : sg_G} {x0 nA wA n : Nat} {σ : Mem} {K : va_W} {fn fw : Nat → Int32} {C : Nat → Option va_E} {y rp ct : Int32} (hc : sg_Cx p s m args c cL_act 10 RL g) (hlk : meth.locks = false) (hrt : meth.sig.returnType = some .int) (hst : l.stackTraces = false) (hI : IV σ) (hN : NA σ fn) (hw : WA σ fw) (hB : GB σ n) (hn : n ≤ 1000) (hG : GK g x0 σ ((nA, sg_ia g 4 fn) :: (wA, sg_ia g 48 fw) :: K) C) : sg_W p l e (sg_rm 9 213 24 420) s m args below meth c 10 g 0 0 (sg_End below g (actP g x0 nA wA σ K fn fw n) sg_no args s 24 420) C 370 [(7, .int ct), (6, .int rp), (0, .ref x0), (1, .ref nA), (2, .ref wA), (4, .int y)] [] := by
  refine sw_aload_n (pc := 370) hc dL_act_370 rfl 2 rfl ?_
  refine sw_iload (pc := 371) hc dL_act_371 5 rfl ?_
  refine sw_iconst (pc := 373) (v := 2) hc dL_act_373 (by decide) ?_
  refine sw_callS (pc := 374) (rest := [.ref x0]) hc (c_L_low l g _ y 2 (by decide) (by decide)) md_L_low ml_RL_89 st_L_low rfl rfl (Nat.le_of_ble_eq_true rfl) dL_act_374 ⟨Nat.le_of_ble_eq_true rfl, Nat.le_of_ble_eq_true rfl, Nat.le_of_ble_eq_true rfl, Nat.le_of_ble_eq_true rfl⟩ (fun v1 C3 hP2 => ?_) (fun _ _ hf => hf.elim)
  obtain ⟨rfl, rfl⟩ := hP2
  refine sw_st (st' := [.int (nI (lowN y 2)), .ref x0]) rfl ?_
  refine sw_iload (pc := 377) hc dL_act_377 5 rfl ?_
  refine sw_iconst (pc := 379) (v := 2) hc dL_act_379 (by decide) ?_
  refine sw_ishr (pc := 380) hc dL_act_380 ?_
  refine sw_bipush (pc := 381) (v := 33) hc dL_act_381 (by decide) ?_
  refine sw_callS (pc := 383) (rest := [.int (nI (lowN y 2)), .ref x0]) hc (c_L_low l g _ (y >>> (2 &&& 31)) 33 (by decide) (by decide)) md_L_low ml_RL_89 st_L_low rfl rfl (Nat.le_of_ble_eq_true rfl) dL_act_383 ⟨Nat.le_of_ble_eq_true rfl, Nat.le_of_ble_eq_true rfl, Nat.le_of_ble_eq_true rfl, Nat.le_of_ble_eq_true rfl⟩ (fun v4 C6 hP5 => ?_) (fun _ _ hf => hf.elim)
  obtain ⟨rfl, rfl⟩ := hP5
  refine sw_st (st' := [.int (nI (lowN (y >>> (2 &&& 31)) 33)), .int (nI (lowN y 2)), .ref x0]) rfl ?_
  refine sw_iload (pc := 386) hc dL_act_386 5 rfl ?_
  refine sw_iconst (pc := 388) (v := 5) hc dL_act_388 (by decide) ?_
  refine sw_ishr (pc := 389) hc dL_act_389 ?_
  refine sw_bipush (pc := 390) (v := 9) hc dL_act_390 (by decide) ?_
  refine sw_callS (pc := 392) (rest := [.int (nI (lowN (y >>> (2 &&& 31)) 33)), .int (nI (lowN y 2)), .ref x0]) hc (c_L_low l g _ (y >>> (5 &&& 31)) 9 (by decide) (by decide)) md_L_low ml_RL_89 st_L_low rfl rfl (Nat.le_of_ble_eq_true rfl) dL_act_392 ⟨Nat.le_of_ble_eq_true rfl, Nat.le_of_ble_eq_true rfl, Nat.le_of_ble_eq_true rfl, Nat.le_of_ble_eq_true rfl⟩ (fun v7 C9 hP8 => ?_) (fun _ _ hf => hf.elim)
  obtain ⟨rfl, rfl⟩ := hP8
  refine sw_st (st' := [.int (nI (lowN (y >>> (5 &&& 31)) 9)), .int (nI (lowN (y >>> (2 &&& 31)) 33)), .int (nI (lowN y 2)), .ref x0]) rfl ?_
  refine sw_iconst (pc := 395) (v := 1) hc dL_act_395 (by decide) ?_
  refine sw_isub (pc := 396) hc dL_act_396 ?_
  refine sw_iload (pc := 397) hc dL_act_397 5 rfl ?_
  refine sw_bipush (pc := 399) (v := 9) hc dL_act_399 (by decide) ?_
  refine sw_ishr (pc := 401) hc dL_act_401 ?_
  refine sw_iconst (pc := 402) (v := 4) hc dL_act_402 (by decide) ?_
  refine sw_callS (pc := 403) (rest := [.int ((nI (lowN (y >>> (5 &&& 31)) 9)) - 1), .int (nI (lowN (y >>> (2 &&& 31)) 33)), .int (nI (lowN y 2)), .ref x0]) hc (c_L_low l g _ (y >>> (9 &&& 31)) 4 (by decide) (by decide)) md_L_low ml_RL_89 st_L_low rfl rfl (Nat.le_of_ble_eq_true rfl) dL_act_403 ⟨Nat.le_of_ble_eq_true rfl, Nat.le_of_ble_eq_true rfl, Nat.le_of_ble_eq_true rfl, Nat.le_of_ble_eq_true rfl⟩ (fun v10 C12 hP11 => ?_) (fun _ _ hf => hf.elim)
  obtain ⟨rfl, rfl⟩ := hP11
  refine sw_st (st' := [.int (nI (lowN (y >>> (9 &&& 31)) 4)), .int ((nI (lowN (y >>> (5 &&& 31)) 9)) - 1), .int (nI (lowN (y >>> (2 &&& 31)) 33)), .int (nI (lowN y 2)), .ref x0]) rfl ?_
  refine sw_callSX (pc := 406) (rest := []) hc (c_L_column l g _ x0 σ _ (nI (lowN y 2)) (nI (lowN (y >>> (2 &&& 31)) 33)) ((nI (lowN (y >>> (5 &&& 31)) 9)) - 1) (nI (lowN (y >>> (9 &&& 31)) 4)) hst hG) mdh_L_column lk_RL_106 st_L_column rfl rfl (Nat.le_of_ble_eq_true rfl) dL_act_406 ⟨Nat.le_of_ble_eq_true rfl, Nat.le_of_ble_eq_true rfl, Nat.le_of_ble_eq_true rfl, Nat.le_of_ble_eq_true rfl⟩ (fun v13 C15 hP14 => ?_)
  obtain ⟨rfl, hG16⟩ := hP14
  refine sw_st (st' := [.int (if kColumn σ (nI (lowN y 2)) (nI (lowN (y >>> (2 &&& 31)) 33)) ((nI (lowN (y >>> (5 &&& 31)) 9)) - 1) (nI (lowN (y >>> (9 &&& 31)) 4)) = 0 then 0 else x3 (kColumn σ (nI (lowN y 2)) (nI (lowN (y >>> (2 &&& 31)) 33)) ((nI (lowN (y >>> (5 &&& 31)) 9)) - 1) (nI (lowN (y >>> (9 &&& 31)) 4))))]) rfl ?_
  have hk : ¬ kColumn σ (nI (lowN y 2)) (nI (lowN (y >>> (2 &&& 31)) 33)) ((nI (lowN (y >>> (5 &&& 31)) 9)) - 1) (nI (lowN (y >>> (9 &&& 31)) 4)) = 0 := fun hk => by
    have h9 : iN (σ 9 0) = 4 := by rw [hI.2.1]; rfl
    have hu := (kColumn_0 (by rw [hk]; decide)).2.2
    exact used_all hI hG.wx (kColumn_0 (by rw [hk]; decide)).1.1 hu
  rw [if_neg hk] at hG16
  exact sw_iret (pc := 409) hc hlk hrt rfl ⟨_, σ, fn, fw, rfl, hG16, hI, hN, hw, hB.up, fun _ => ⟨rfl, rfl, rfl⟩⟩ (Nat.le_of_ble_eq_true rfl) (Nat.le_of_ble_eq_true rfl) dL_act_409

set_option maxHeartbeats 4000000 in
set_option maxRecDepth 100000 in
theorem act_rule {p : Program} {l : Launch} {e : Env} {s : State} {m : MethodId} {below : List Frame} {meth : Method} {c : Code} {args : Array Value} {g : sg_G} {x0 nA wA n : Nat} {σ : Mem} {K : va_W} {fn fw : Nat → Int32} {C : Nat → Option va_E} {y rp ct : Int32} (hc : sg_Cx p s m args c cL_act 10 RL g) (hlk : meth.locks = false) (hrt : meth.sig.returnType = some .int) (hst : l.stackTraces = false) (hI : IV σ) (hN : NA σ fn) (hw : WA σ fw) (hB : GB σ n) (hn : n ≤ 1000) (hG : GK g x0 σ ((nA, sg_ia g 4 fn) :: (wA, sg_ia g 48 fw) :: K) C) : sg_W p l e (sg_rm 9 213 24 420) s m args below meth c 10 g 0 0 (sg_End below g (actP g x0 nA wA σ K fn fw n) sg_no args s 24 420) C 235 [(7, .int ct), (6, .int rp), (0, .ref x0), (1, .ref nA), (2, .ref wA), (4, .int y)] [] := by
  refine sw_aload_n (pc := 235) hc dL_act_235 rfl 2 rfl ?_
  refine sw_iload (pc := 236) hc dL_act_236 0 rfl ?_
  refine sw_iload (pc := 238) hc dL_act_238 5 rfl ?_
  refine sw_iconst (pc := 240) (v := 5) hc dL_act_240 (by decide) ?_
  refine sw_ishr (pc := 241) hc dL_act_241 ?_
  refine sw_bipush (pc := 242) (v := 40) hc dL_act_242 (by decide) ?_
  refine sw_callS (pc := 244) (rest := [.int ct, .ref x0]) hc (c_L_low l g _ (y >>> (5 &&& 31)) 40 (by decide) (by decide)) md_L_low ml_RL_89 st_L_low rfl rfl (Nat.le_of_ble_eq_true rfl) dL_act_244 ⟨Nat.le_of_ble_eq_true rfl, Nat.le_of_ble_eq_true rfl, Nat.le_of_ble_eq_true rfl, Nat.le_of_ble_eq_true rfl⟩ (fun v1 C3 hP2 => ?_) (fun _ _ hf => hf.elim)
  obtain ⟨rfl, rfl⟩ := hP2
  refine sw_st (st' := [.int (nI (lowN (y >>> (5 &&& 31)) 40)), .int ct, .ref x0]) rfl ?_
  refine sw_iconst (pc := 247) (v := 1) hc dL_act_247 (by decide) ?_
  refine sw_isub (pc := 248) hc dL_act_248 ?_
  refine sw_iload (pc := 249) hc dL_act_249 5 rfl ?_
  refine sw_bipush (pc := 251) (v := 6) hc dL_act_251 (by decide) ?_
  refine sw_ishr (pc := 253) hc dL_act_253 ?_
  refine sw_bipush (pc := 254) (v := 9) hc dL_act_254 (by decide) ?_
  refine sw_callS (pc := 256) (rest := [.int ((nI (lowN (y >>> (5 &&& 31)) 40)) - 1), .int ct, .ref x0]) hc (c_L_low l g _ (y >>> (6 &&& 31)) 9 (by decide) (by decide)) md_L_low ml_RL_89 st_L_low rfl rfl (Nat.le_of_ble_eq_true rfl) dL_act_256 ⟨Nat.le_of_ble_eq_true rfl, Nat.le_of_ble_eq_true rfl, Nat.le_of_ble_eq_true rfl, Nat.le_of_ble_eq_true rfl⟩ (fun v4 C6 hP5 => ?_) (fun _ _ hf => hf.elim)
  obtain ⟨rfl, rfl⟩ := hP5
  refine sw_st (st' := [.int (nI (lowN (y >>> (6 &&& 31)) 9)), .int ((nI (lowN (y >>> (5 &&& 31)) 40)) - 1), .int ct, .ref x0]) rfl ?_
  refine sw_iload (pc := 259) hc dL_act_259 5 rfl ?_
  refine sw_bipush (pc := 261) (v := 12) hc dL_act_261 (by decide) ?_
  refine sw_ishr (pc := 263) hc dL_act_263 ?_
  refine sw_iconst (pc := 264) (v := 3) hc dL_act_264 (by decide) ?_
  refine sw_callS (pc := 265) (rest := [.int (nI (lowN (y >>> (6 &&& 31)) 9)), .int ((nI (lowN (y >>> (5 &&& 31)) 40)) - 1), .int ct, .ref x0]) hc (c_L_low l g _ (y >>> (12 &&& 31)) 3 (by decide) (by decide)) md_L_low ml_RL_89 st_L_low rfl rfl (Nat.le_of_ble_eq_true rfl) dL_act_265 ⟨Nat.le_of_ble_eq_true rfl, Nat.le_of_ble_eq_true rfl, Nat.le_of_ble_eq_true rfl, Nat.le_of_ble_eq_true rfl⟩ (fun v7 C9 hP8 => ?_) (fun _ _ hf => hf.elim)
  obtain ⟨rfl, rfl⟩ := hP8
  refine sw_st (st' := [.int (nI (lowN (y >>> (12 &&& 31)) 3)), .int (nI (lowN (y >>> (6 &&& 31)) 9)), .int ((nI (lowN (y >>> (5 &&& 31)) 40)) - 1), .int ct, .ref x0]) rfl ?_
  have K284 : ∀ zz : Int32, sg_W p l e (sg_rm 9 213 24 420) s m args below meth c 10 g 0 0 (sg_End below g (actP g x0 nA wA σ K fn fw n) sg_no args s 24 420) C9 284 [(7, .int ct), (6, .int rp), (0, .ref x0), (1, .ref nA), (2, .ref wA), (4, .int y)] [.int zz, .int (nI (lowN (y >>> (6 &&& 31)) 9)), .int ((nI (lowN (y >>> (5 &&& 31)) 40)) - 1), .int ct, .ref x0] := by
    intro zz
    refine sw_iload (pc := 284) hc dL_act_284 5 rfl ?_
    refine sw_bipush (pc := 286) (v := 10) hc dL_act_286 (by decide) ?_
    refine sw_ishr (pc := 288) hc dL_act_288 ?_
    refine sw_iconst (pc := 289) (v := 4) hc dL_act_289 (by decide) ?_
    refine sw_callS (pc := 290) (rest := [.int zz, .int (nI (lowN (y >>> (6 &&& 31)) 9)), .int ((nI (lowN (y >>> (5 &&& 31)) 40)) - 1), .int ct, .ref x0]) hc (c_L_low l g _ (y >>> (10 &&& 31)) 4 (by decide) (by decide)) md_L_low ml_RL_89 st_L_low rfl rfl (Nat.le_of_ble_eq_true rfl) dL_act_290 ⟨Nat.le_of_ble_eq_true rfl, Nat.le_of_ble_eq_true rfl, Nat.le_of_ble_eq_true rfl, Nat.le_of_ble_eq_true rfl⟩ (fun v10 C12 hP11 => ?_) (fun _ _ hf => hf.elim)
    obtain ⟨rfl, rfl⟩ := hP11
    refine sw_st (st' := [.int (nI (lowN (y >>> (10 &&& 31)) 4)), .int zz, .int (nI (lowN (y >>> (6 &&& 31)) 9)), .int ((nI (lowN (y >>> (5 &&& 31)) 40)) - 1), .int ct, .ref x0]) rfl ?_
    refine sw_callSX (pc := 293) (rest := []) hc (c_L_rule l g _ x0 σ _ ct ((nI (lowN (y >>> (5 &&& 31)) 40)) - 1) (nI (lowN (y >>> (6 &&& 31)) 9)) zz (nI (lowN (y >>> (10 &&& 31)) 4)) hst hG) mdh_L_rule lk_RL_97 st_L_rule rfl rfl (Nat.le_of_ble_eq_true rfl) dL_act_293 ⟨Nat.le_of_ble_eq_true rfl, Nat.le_of_ble_eq_true rfl, Nat.le_of_ble_eq_true rfl, Nat.le_of_ble_eq_true rfl⟩ (fun v13 C15 hP14 => ?_)
    obtain ⟨rfl, hG16⟩ := hP14
    refine sw_st (st' := [.int (if kRule σ ct ((nI (lowN (y >>> (5 &&& 31)) 40)) - 1) (nI (lowN (y >>> (6 &&& 31)) 9)) zz (nI (lowN (y >>> (10 &&& 31)) 4)) = 0 then vRule σ ct ((nI (lowN (y >>> (5 &&& 31)) 40)) - 1) (nI (lowN (y >>> (6 &&& 31)) 9)) zz (nI (lowN (y >>> (10 &&& 31)) 4)) else x3 (kRule σ ct ((nI (lowN (y >>> (5 &&& 31)) 40)) - 1) (nI (lowN (y >>> (6 &&& 31)) 9)) zz (nI (lowN (y >>> (10 &&& 31)) 4))))]) rfl ?_
    by_cases hk : kRule σ ct ((nI (lowN (y >>> (5 &&& 31)) 40)) - 1) (nI (lowN (y >>> (6 &&& 31)) 9)) zz (nI (lowN (y >>> (10 &&& 31)) 4)) = 0
    · rw [if_pos hk] at hG16
      exact sw_iret (pc := 296) hc hlk hrt rfl ⟨_, fRule σ ct ((nI (lowN (y >>> (5 &&& 31)) 40)) - 1) (nI (lowN (y >>> (6 &&& 31)) 9)) zz (nI (lowN (y >>> (10 &&& 31)) 4)), fn, fw, rfl, hG16, iv_rule hk hI, na_rule hk hN, wa_rule hk hw, (gb_rule hk hB).up, fun hz => absurd hz (by rw [if_pos hk]; exact v_rule hk hG.wx)⟩ (Nat.le_of_ble_eq_true rfl) (Nat.le_of_ble_eq_true rfl) dL_act_296
    · rw [if_neg hk] at hG16
      exact sw_iret (pc := 296) hc hlk hrt rfl ⟨_, σ, fn, fw, rfl, hG16, hI, hN, hw, hB.up, fun _ => ⟨rfl, rfl, rfl⟩⟩ (Nat.le_of_ble_eq_true rfl) (Nat.le_of_ble_eq_true rfl) dL_act_296
  refine sw_if_ne (pc := 268) (tgt := 283) hc dL_act_268 (by decide) (fun c17 => ?_) (fun c17 => ?_)
  ·
    refine sw_iconst (pc := 283) (v := 0) hc dL_act_283 (by decide) ?_
    exact K284 _
  ·
    refine sw_iload (pc := 271) hc dL_act_271 5 rfl ?_
    refine sw_bipush (pc := 273) (v := 13) hc dL_act_273 (by decide) ?_
    refine sw_ishr (pc := 275) hc dL_act_275 ?_
    refine sw_iconst (pc := 276) (v := 3) hc dL_act_276 (by decide) ?_
    refine sw_callS (pc := 277) (rest := [.int (nI (lowN (y >>> (6 &&& 31)) 9)), .int ((nI (lowN (y >>> (5 &&& 31)) 40)) - 1), .int ct, .ref x0]) hc (c_L_low l g _ (y >>> (13 &&& 31)) 3 (by decide) (by decide)) md_L_low ml_RL_89 st_L_low rfl rfl (Nat.le_of_ble_eq_true rfl) dL_act_277 ⟨Nat.le_of_ble_eq_true rfl, Nat.le_of_ble_eq_true rfl, Nat.le_of_ble_eq_true rfl, Nat.le_of_ble_eq_true rfl⟩ (fun v18 C20 hP19 => ?_) (fun _ _ hf => hf.elim)
    obtain ⟨rfl, rfl⟩ := hP19
    refine sw_st (st' := [.int (nI (lowN (y >>> (13 &&& 31)) 3)), .int (nI (lowN (y >>> (6 &&& 31)) 9)), .int ((nI (lowN (y >>> (5 &&& 31)) 40)) - 1), .int ct, .ref x0]) rfl ?_
    refine sw_goto (pc := 280) (tgt := 284) hc dL_act_280 (by decide) ?_
    exact K284 _

set_option maxHeartbeats 4000000 in
set_option maxRecDepth 100000 in
theorem act_offer {p : Program} {l : Launch} {e : Env} {s : State} {m : MethodId} {below : List Frame} {meth : Method} {c : Code} {args : Array Value} {g : sg_G} {x0 nA wA n : Nat} {σ : Mem} {K : va_W} {fn fw : Nat → Int32} {C : Nat → Option va_E} {y rp ct : Int32} (hc : sg_Cx p s m args c cL_act 10 RL g) (hlk : meth.locks = false) (hrt : meth.sig.returnType = some .int) (hst : l.stackTraces = false) (hI : IV σ) (hN : NA σ fn) (hw : WA σ fw) (hB : GB σ n) (hn : n ≤ 1000) (hG : GK g x0 σ ((nA, sg_ia g 4 fn) :: (wA, sg_ia g 48 fw) :: K) C) : sg_W p l e (sg_rm 9 213 24 420) s m args below meth c 10 g 0 0 (sg_End below g (actP g x0 nA wA σ K fn fw n) sg_no args s 24 420) C 297 [(7, .int ct), (6, .int rp), (0, .ref x0), (1, .ref nA), (2, .ref wA), (4, .int y)] [] := by
  have hO : iN (σ 30 0) < 11 := hG.wx.1.2.2.2.2.1.2
  refine sw_aload_n (pc := 297) hc dL_act_297 rfl 2 rfl ?_
  refine sw_iload (pc := 298) hc dL_act_298 0 rfl ?_
  refine sw_iload (pc := 300) hc dL_act_300 5 rfl ?_
  refine sw_iconst (pc := 302) (v := 5) hc dL_act_302 (by decide) ?_
  refine sw_ishr (pc := 303) hc dL_act_303 ?_
  refine sw_bipush (pc := 304) (v := 9) hc dL_act_304 (by decide) ?_
  refine sw_callS (pc := 306) (rest := [.int ct, .ref x0]) hc (c_L_low l g _ (y >>> (5 &&& 31)) 9 (by decide) (by decide)) md_L_low ml_RL_89 st_L_low rfl rfl (Nat.le_of_ble_eq_true rfl) dL_act_306 ⟨Nat.le_of_ble_eq_true rfl, Nat.le_of_ble_eq_true rfl, Nat.le_of_ble_eq_true rfl, Nat.le_of_ble_eq_true rfl⟩ (fun v1 C3 hP2 => ?_) (fun _ _ hf => hf.elim)
  obtain ⟨rfl, rfl⟩ := hP2
  refine sw_st (st' := [.int (nI (lowN (y >>> (5 &&& 31)) 9)), .int ct, .ref x0]) rfl ?_
  refine sw_callSX (pc := 309) (rest := []) hc (c_L_offer l g _ x0 σ _ ct (nI (lowN (y >>> (5 &&& 31)) 9)) hst hG) mdh_L_offer lk_RL_100 st_L_offer rfl rfl (Nat.le_of_ble_eq_true rfl) dL_act_309 ⟨Nat.le_of_ble_eq_true rfl, Nat.le_of_ble_eq_true rfl, Nat.le_of_ble_eq_true rfl, Nat.le_of_ble_eq_true rfl⟩ (fun v4 C6 hP5 => ?_)
  obtain ⟨rfl, hG7⟩ := hP5
  refine sw_st (st' := [.int (if kOffer σ ct (nI (lowN (y >>> (5 &&& 31)) 9)) = 0 then vOffer σ ct (nI (lowN (y >>> (5 &&& 31)) 9)) else x2 (kOffer σ ct (nI (lowN (y >>> (5 &&& 31)) 9))))]) rfl ?_
  by_cases hk : kOffer σ ct (nI (lowN (y >>> (5 &&& 31)) 9)) = 0
  ·
    rw [if_pos hk] at hG7
    refine sw_cv (y := nI (iN (σ 30 0))) ((if_pos hk).trans (v_offer hk hG.wx)) ?_
    refine sw_istore (pc := 312) hc dL_act_312 (by decide) (lv' := [(8, .int (nI (iN (σ 30 0)))), (7, .int ct), (6, .int rp), (0, .ref x0), (1, .ref nA), (2, .ref wA), (4, .int y)]) rfl ?_
    refine sw_aload_n (pc := 314) hc dL_act_314 rfl 4 rfl ?_
    refine sw_iconst (pc := 315) (v := 3) hc dL_act_315 (by decide) ?_
    refine sw_dup2_11 (pc := 316) hc dL_act_316 rfl rfl ?_
    refine sw_iald (pc := 317) (j := 3) hc (hG7.at 0 rfl) rfl (by decide) (by decide) dL_act_317 ?_
    refine sw_iload (pc := 318) hc dL_act_318 0 rfl ?_
    refine sw_if_ge (pc := 320) (tgt := 327) hc dL_act_320 (by decide) (fun _ => ?_) (fun c8 => absurd (nI_pos' (by omega)) c8)
    refine sw_iconst (pc := 327) (v := 1) hc dL_act_327 (by decide) ?_
    refine sw_iadd (pc := 328) hc dL_act_328 ?_
    refine sw_iast (pc := 329) (j := 3) hc (hG7.at 0 rfl) rfl (by decide) (by decide) dL_act_329 ?_
    refine sw_gen (P := fun zC => GK g x0 (fOffer σ ct (nI (lowN (y >>> (5 &&& 31)) 9))) ((nA, sg_ia g 4 (upd fn 3 ((fn 3) + 1))) :: (wA, sg_ia g 48 fw) :: K) zC) (hG7.put 0 rfl) (fun C9 hG10 => ?_)
    refine sw_iload (pc := 330) hc dL_act_330 0 rfl ?_
    exact sw_iret (pc := 332) hc hlk hrt rfl ⟨_, fOffer σ ct (nI (lowN (y >>> (5 &&& 31)) 9)), _, fw, rfl, hG10, iv_offer hk hI, na_offer hk hG.wx hN, wa_offer hk hw, (gb_offer hk hB).up, fun hz => absurd hz (nI_pos (by omega))⟩ (Nat.le_of_ble_eq_true rfl) (Nat.le_of_ble_eq_true rfl) dL_act_332
  ·
    rw [if_neg hk] at hG7
    refine sw_cv (y := x2 (kOffer σ ct (nI (lowN (y >>> (5 &&& 31)) 9)))) (if_neg hk) ?_
    refine sw_istore (pc := 312) hc dL_act_312 (by decide) (lv' := [(8, .int (x2 (kOffer σ ct (nI (lowN (y >>> (5 &&& 31)) 9))))), (7, .int ct), (6, .int rp), (0, .ref x0), (1, .ref nA), (2, .ref wA), (4, .int y)]) rfl ?_
    refine sw_aload_n (pc := 314) hc dL_act_314 rfl 4 rfl ?_
    refine sw_iconst (pc := 315) (v := 3) hc dL_act_315 (by decide) ?_
    refine sw_dup2_11 (pc := 316) hc dL_act_316 rfl rfl ?_
    refine sw_iald (pc := 317) (j := 3) hc (hG7.at 0 rfl) rfl (by decide) (by decide) dL_act_317 ?_
    refine sw_iload (pc := 318) hc dL_act_318 0 rfl ?_
    refine sw_if_ge (pc := 320) (tgt := 327) hc dL_act_320 (by decide) (fun c11 => absurd c11 (Int32.not_le.mpr (x2_n _))) (fun _ => ?_)
    refine sw_iconst (pc := 323) (v := 0) hc dL_act_323 (by decide) ?_
    refine sw_goto (pc := 324) (tgt := 328) hc dL_act_324 (by decide) ?_
    refine sw_iadd (pc := 328) hc dL_act_328 ?_
    refine sw_iast (pc := 329) (j := 3) hc (hG7.at 0 rfl) rfl (by decide) (by decide) dL_act_329 ?_
    refine sw_gen (P := fun zC => GK g x0 σ ((nA, sg_ia g 4 (upd fn 3 ((fn 3) + 0))) :: (wA, sg_ia g 48 fw) :: K) zC) (hG7.put 0 rfl) (fun C12 hG13 => ?_)
    refine sw_iload (pc := 330) hc dL_act_330 0 rfl ?_
    rw [upd_0] at hG13
    exact sw_iret (pc := 332) hc hlk hrt rfl ⟨_, σ, fn, fw, rfl, hG13, hI, hN, hw, hB.up, fun _ => ⟨rfl, rfl, rfl⟩⟩ (Nat.le_of_ble_eq_true rfl) (Nat.le_of_ble_eq_true rfl) dL_act_332

set_option maxHeartbeats 4000000 in
set_option maxRecDepth 100000 in
theorem act_submit {p : Program} {l : Launch} {e : Env} {s : State} {m : MethodId} {below : List Frame} {meth : Method} {c : Code} {args : Array Value} {g : sg_G} {x0 nA wA n : Nat} {σ : Mem} {K : va_W} {fn fw : Nat → Int32} {C : Nat → Option va_E} {y rp ct : Int32} (hc : sg_Cx p s m args c cL_act 10 RL g) (hlk : meth.locks = false) (hrt : meth.sig.returnType = some .int) (hst : l.stackTraces = false) (hI : IV σ) (hN : NA σ fn) (hw : WA σ fw) (hB : GB σ n) (hn : n ≤ 1000) (hG : GK g x0 σ ((nA, sg_ia g 4 fn) :: (wA, sg_ia g 48 fw) :: K) C) : sg_W p l e (sg_rm 9 213 24 420) s m args below meth c 10 g 0 0 (sg_End below g (actP g x0 nA wA σ K fn fw n) sg_no args s 24 420) C 142 [(7, .int ct), (6, .int rp), (0, .ref x0), (1, .ref nA), (2, .ref wA), (4, .int y)] [] := by
  refine sw_iload (pc := 142) hc dL_act_142 5 rfl ?_
  refine sw_iconst (pc := 144) (v := 5) hc dL_act_144 (by decide) ?_
  refine sw_ishr (pc := 145) hc dL_act_145 ?_
  refine sw_bipush (pc := 146) (v := 11) hc dL_act_146 (by decide) ?_
  refine sw_callS (pc := 148) (rest := []) hc (c_L_low l g _ (y >>> (5 &&& 31)) 11 (by decide) (by decide)) md_L_low ml_RL_89 st_L_low rfl rfl (Nat.le_of_ble_eq_true rfl) dL_act_148 ⟨Nat.le_of_ble_eq_true rfl, Nat.le_of_ble_eq_true rfl, Nat.le_of_ble_eq_true rfl, Nat.le_of_ble_eq_true rfl⟩ (fun v1 C3 hP2 => ?_) (fun _ _ hf => hf.elim)
  obtain ⟨rfl, rfl⟩ := hP2
  refine sw_st (st' := [.int (nI (lowN (y >>> (5 &&& 31)) 11))]) rfl ?_
  have K168 : ∀ rn : Int32, sg_W p l e (sg_rm 9 213 24 420) s m args below meth c 10 g 0 0 (sg_End below g (actP g x0 nA wA σ K fn fw n) sg_no args s 24 420) C3 168 [(7, .int ct), (6, .int rp), (0, .ref x0), (1, .ref nA), (2, .ref wA), (4, .int y)] [.int rn] := by
    intro rn
    refine sw_istore (pc := 168) hc dL_act_168 (by decide) (lv' := [(8, .int rn), (7, .int ct), (6, .int rp), (0, .ref x0), (1, .ref nA), (2, .ref wA), (4, .int y)]) rfl ?_
    refine sw_aload_n (pc := 170) hc dL_act_170 rfl 4 rfl ?_
    refine sw_iconst (pc := 171) (v := 2) hc dL_act_171 (by decide) ?_
    refine sw_iald (pc := 172) (j := 2) hc (hG.at 0 rfl) rfl (by decide) (by decide) dL_act_172 ?_
    refine sw_cv (y := nI (iN (σ 26 0))) hN.2.2.1 ?_
    refine sw_bipush (pc := 173) (v := 24) hc dL_act_173 (by decide) ?_
    refine sw_icmp_ne (pc := 175) (tgt := 183) hc dL_act_175 (by decide) (fun b1 => ?_) (fun b1 => ?_)
    ·
      refine sw_aload_n (pc := 183) hc dL_act_183 rfl 3 rfl ?_
      refine sw_iload (pc := 184) hc dL_act_184 0 rfl ?_
      refine sw_iload (pc := 186) hc dL_act_186 6 rfl ?_
      refine sw_bipush (pc := 188) (v := 10) hc dL_act_188 (by decide) ?_
      refine sw_ishr (pc := 190) hc dL_act_190 ?_
      refine sw_iconst (pc := 191) (v := 4) hc dL_act_191 (by decide) ?_
      refine sw_callS (pc := 192) (rest := [.int rn, .ref x0]) hc (c_L_low l g _ (y >>> (10 &&& 31)) 4 (by decide) (by decide)) md_L_low ml_RL_89 st_L_low rfl rfl (Nat.le_of_ble_eq_true rfl) dL_act_192 ⟨Nat.le_of_ble_eq_true rfl, Nat.le_of_ble_eq_true rfl, Nat.le_of_ble_eq_true rfl, Nat.le_of_ble_eq_true rfl⟩ (fun v4 C6 hP5 => ?_) (fun _ _ hf => hf.elim)
      obtain ⟨rfl, rfl⟩ := hP5
      refine sw_st (st' := [.int (nI (lowN (y >>> (10 &&& 31)) 4)), .int rn, .ref x0]) rfl ?_
      refine sw_iload (pc := 195) hc dL_act_195 1 rfl ?_
      refine sw_callSX (pc := 197) (rest := []) hc (c_L_submit l g _ x0 σ _ rn (nI (lowN (y >>> (10 &&& 31)) 4)) ct hst hG) mdh_L_submit lk_RL_95 st_L_submit rfl rfl (Nat.le_of_ble_eq_true rfl) dL_act_197 ⟨Nat.le_of_ble_eq_true rfl, Nat.le_of_ble_eq_true rfl, Nat.le_of_ble_eq_true rfl, Nat.le_of_ble_eq_true rfl⟩ (fun v7 C9 hP8 => ?_)
      obtain ⟨rfl, hG10⟩ := hP8
      refine sw_st (st' := [.int (if kSubmit σ (rSub σ rn (nI (lowN (y >>> (10 &&& 31)) 4)) ct) rn (nI (lowN (y >>> (10 &&& 31)) 4)) ct = 0 then vSubmit σ rn (nI (lowN (y >>> (10 &&& 31)) 4)) ct else x3 (kSubmit σ (rSub σ rn (nI (lowN (y >>> (10 &&& 31)) 4)) ct) rn (nI (lowN (y >>> (10 &&& 31)) 4)) ct))]) rfl ?_
      have hN24 : iN (σ 26 0) < 24 := by
        have q1 := hI.2.2.2.2.1
        refine Nat.lt_of_le_of_ne q1 fun q => b1 (by rw [q]; rfl)
      by_cases hk : kSubmit σ (rSub σ rn (nI (lowN (y >>> (10 &&& 31)) 4)) ct) rn (nI (lowN (y >>> (10 &&& 31)) 4)) ct = 0
      ·
        rw [if_pos hk] at hG10
        refine sw_cv (y := nI (iN (σ 26 0))) ((if_pos hk).trans (v_submit hk hG.wx)) ?_
        refine sw_istore (pc := 200) hc dL_act_200 (by decide) (lv' := [(9, .int (nI (iN (σ 26 0)))), (8, .int rn), (7, .int ct), (6, .int rp), (0, .ref x0), (1, .ref nA), (2, .ref wA), (4, .int y)]) rfl ?_
        refine sw_iload (pc := 202) hc dL_act_202 0 rfl ?_
        refine sw_if_lt (pc := 204) (tgt := 232) hc dL_act_204 (by decide) (fun c11 => absurd c11 (nI_pos (by omega))) (fun _ => ?_)
        refine sw_aload_n (pc := 207) hc dL_act_207 rfl 6 rfl ?_
        refine sw_iconst (pc := 208) (v := 2) hc dL_act_208 (by decide) ?_
        refine sw_iload (pc := 209) hc dL_act_209 0 rfl ?_
        refine sw_imul (pc := 211) hc dL_act_211 ?_
        refine sw_iload (pc := 212) hc dL_act_212 1 rfl ?_
        refine sw_iast (pc := 214) (j := 2 * iN (σ 26 0)) hc (hG10.at 1 rfl) (pk_mul 2 _) (by omega) (by decide) dL_act_214 ?_
        refine sw_gen (P := fun zC => GK g x0 (fSubmit σ rn (nI (lowN (y >>> (10 &&& 31)) 4)) ct) ((nA, sg_ia g 4 fn) :: (wA, sg_ia g 48 (upd fw (2 * iN (σ 26 0)) rn)) :: K) zC) (hG10.put 1 rfl) (fun C12 hG13 => ?_)
        refine sw_aload_n (pc := 215) hc dL_act_215 rfl 6 rfl ?_
        refine sw_iconst (pc := 216) (v := 2) hc dL_act_216 (by decide) ?_
        refine sw_iload (pc := 217) hc dL_act_217 0 rfl ?_
        refine sw_imul (pc := 219) hc dL_act_219 ?_
        refine sw_iconst (pc := 220) (v := 1) hc dL_act_220 (by decide) ?_
        refine sw_iadd (pc := 221) hc dL_act_221 ?_
        refine sw_iload (pc := 222) hc dL_act_222 2 rfl ?_
        refine sw_iast (pc := 224) (j := 2 * iN (σ 26 0) + 1) hc (hG13.at 1 rfl) ((congrArg (fun z => z + 1) (pk_mul 2 _)).trans (nI_1 _)) (by omega) (by decide) dL_act_224 ?_
        refine sw_gen (P := fun zC => GK g x0 (fSubmit σ rn (nI (lowN (y >>> (10 &&& 31)) 4)) ct) ((nA, sg_ia g 4 fn) :: (wA, sg_ia g 48 (upd (upd fw (2 * iN (σ 26 0)) rn) (2 * iN (σ 26 0) + 1) ct)) :: K) zC) (hG13.put 1 rfl) (fun C14 hG15 => ?_)
        refine sw_aload_n (pc := 225) hc dL_act_225 rfl 5 rfl ?_
        refine sw_iconst (pc := 226) (v := 2) hc dL_act_226 (by decide) ?_
        refine sw_dup2_11 (pc := 227) hc dL_act_227 rfl rfl ?_
        refine sw_iald (pc := 228) (j := 2) hc (hG15.at 0 rfl) rfl (by decide) (by decide) dL_act_228 ?_
        refine sw_cv (y := nI (iN (σ 26 0))) hN.2.2.1 ?_
        refine sw_iconst (pc := 229) (v := 1) hc dL_act_229 (by decide) ?_
        refine sw_iadd (pc := 230) hc dL_act_230 ?_
        refine sw_iast (pc := 231) (j := 2) hc (hG15.at 0 rfl) rfl (by decide) (by decide) dL_act_231 ?_
        refine sw_gen (P := fun zC => GK g x0 (fSubmit σ rn (nI (lowN (y >>> (10 &&& 31)) 4)) ct) ((nA, sg_ia g 4 (upd fn 2 ((nI (iN (σ 26 0))) + 1))) :: (wA, sg_ia g 48 (upd (upd fw (2 * iN (σ 26 0)) rn) (2 * iN (σ 26 0) + 1) ct)) :: K) zC) (hG15.put 0 rfl) (fun C16 hG17 => ?_)
        refine sw_iload (pc := 232) hc dL_act_232 0 rfl ?_
        exact sw_iret (pc := 234) hc hlk hrt rfl ⟨_, fSubmit σ rn (nI (lowN (y >>> (10 &&& 31)) 4)) ct, _, _, rfl, hG17, iv_submit hk hG.wx hN24 hI, na_submit hk hG.wx hN, wa_submit hk hG.wx hw, (gb_submit hk hG.wx hB).up, fun hz => absurd hz (nI_pos (by omega))⟩ (Nat.le_of_ble_eq_true rfl) (Nat.le_of_ble_eq_true rfl) dL_act_234
      ·
        rw [if_neg hk] at hG10
        refine sw_cv (y := x3 (kSubmit σ (rSub σ rn (nI (lowN (y >>> (10 &&& 31)) 4)) ct) rn (nI (lowN (y >>> (10 &&& 31)) 4)) ct)) (if_neg hk) ?_
        refine sw_istore (pc := 200) hc dL_act_200 (by decide) (lv' := [(9, .int (x3 (kSubmit σ (rSub σ rn (nI (lowN (y >>> (10 &&& 31)) 4)) ct) rn (nI (lowN (y >>> (10 &&& 31)) 4)) ct))), (8, .int rn), (7, .int ct), (6, .int rp), (0, .ref x0), (1, .ref nA), (2, .ref wA), (4, .int y)]) rfl ?_
        refine sw_iload (pc := 202) hc dL_act_202 0 rfl ?_
        refine sw_if_lt (pc := 204) (tgt := 232) hc dL_act_204 (by decide) (fun _ => ?_) (fun c18 => absurd (x3_n _) c18)
        refine sw_iload (pc := 232) hc dL_act_232 0 rfl ?_
        exact sw_iret (pc := 234) hc hlk hrt rfl ⟨_, σ, fn, fw, rfl, hG10, hI, hN, hw, hB.up, fun _ => ⟨rfl, rfl, rfl⟩⟩ (Nat.le_of_ble_eq_true rfl) (Nat.le_of_ble_eq_true rfl) dL_act_234
    ·
      refine sw_bipush (pc := 178) (v := (-9)) hc dL_act_178 (by decide) ?_
      refine sw_goto (pc := 180) (tgt := 200) hc dL_act_180 (by decide) ?_
      refine sw_istore (pc := 200) hc dL_act_200 (by decide) (lv' := [(9, .int (-9)), (8, .int rn), (7, .int ct), (6, .int rp), (0, .ref x0), (1, .ref nA), (2, .ref wA), (4, .int y)]) rfl ?_
      refine sw_iload (pc := 202) hc dL_act_202 0 rfl ?_
      refine sw_if_lt (pc := 204) (tgt := 232) hc dL_act_204 (by decide) (fun _ => ?_) (fun c19 => absurd (by decide) c19)
      refine sw_iload (pc := 232) hc dL_act_232 0 rfl ?_
      exact sw_iret (pc := 234) hc hlk hrt rfl ⟨_, σ, fn, fw, rfl, hG, hI, hN, hw, hB.up, fun _ => ⟨rfl, rfl, rfl⟩⟩ (Nat.le_of_ble_eq_true rfl) (Nat.le_of_ble_eq_true rfl) dL_act_234
  refine sw_if_ne (pc := 151) (tgt := 159) hc dL_act_151 (by decide) (fun c20 => ?_) (fun c20 => ?_)
  ·
    refine sw_iload (pc := 159) hc dL_act_159 5 rfl ?_
    refine sw_bipush (pc := 161) (v := 6) hc dL_act_161 (by decide) ?_
    refine sw_ishr (pc := 163) hc dL_act_163 ?_
    refine sw_iconst (pc := 164) (v := 4) hc dL_act_164 (by decide) ?_
    refine sw_callS (pc := 165) (rest := []) hc (c_L_low l g _ (y >>> (6 &&& 31)) 4 (by decide) (by decide)) md_L_low ml_RL_89 st_L_low rfl rfl (Nat.le_of_ble_eq_true rfl) dL_act_165 ⟨Nat.le_of_ble_eq_true rfl, Nat.le_of_ble_eq_true rfl, Nat.le_of_ble_eq_true rfl, Nat.le_of_ble_eq_true rfl⟩ (fun v21 C23 hP22 => ?_) (fun _ _ hf => hf.elim)
    obtain ⟨rfl, rfl⟩ := hP22
    refine sw_st (st' := [.int (nI (lowN (y >>> (6 &&& 31)) 4))]) rfl ?_
    exact K168 _
  ·
    refine sw_bipush (pc := 154) (v := 8) hc dL_act_154 (by decide) ?_
    refine sw_goto (pc := 156) (tgt := 168) hc dL_act_156 (by decide) ?_
    exact K168 _

set_option maxHeartbeats 4000000 in
set_option maxRecDepth 100000 in
theorem c_L_act (l : Launch) (g : sg_G) (C : Nat → Option va_E) (x0 nA wA n kd : Nat) (σ : Mem) (K : va_W) (fn fw : Nat → Int32) (x y : Int32) (hst : l.stackTraces = false) (hkd : kd < 12) (hI : IV σ) (hN : NA σ fn) (hw : WA σ fw) (hB : GB σ n) (hn : n ≤ 1000) (hG : GK g x0 σ ((nA, sg_ia g 4 fn) :: (wA, sg_ia g 48 fw) :: K) C) : sg_Met l yL_act cL_act 10 (some .int) 9 213 24 420 g [.ref x0, .ref nA, .ref wA, .int x, .int y, .int (nI kd)] C (actP g x0 nA wA σ K fn fw n) sg_no := by
  refine sg_ofW (by decide) rfl ?_ (Nat.le_of_ble_eq_true rfl)
  intro p e s m below meth c hc hlk hrt hin2 htb
  have hc : sg_Cx p s m _ c cL_act 10 RL g := hc
  show sg_W p l e _ s m _ below meth c 10 g 0 0 _ C 0 [(0, .ref x0), (1, .ref nA), (2, .ref wA), (3, .int x), (4, .int y), (5, .int (nI kd))] []
  refine sw_iload (pc := 0) hc dL_act_0 4 rfl ?_
  refine sw_aload_n (pc := 2) hc dL_act_2 rfl 1 rfl ?_
  refine sw_iconst (pc := 3) (v := 0) hc dL_act_3 (by decide) ?_
  refine sw_iald (pc := 4) (j := 0) hc (hG.at 0 rfl) rfl (by decide) (by decide) dL_act_4 ?_
  refine sw_cv (y := 4) hN.1 ?_
  refine sw_iconst (pc := 5) (v := 1) hc dL_act_5 (by decide) ?_
  refine sw_iadd (pc := 6) hc dL_act_6 ?_
  refine sw_cv (y := 5) rfl ?_
  refine sw_callS (pc := 7) (rest := []) hc (c_L_low l g _ y 5 (by decide) (by decide)) md_L_low ml_RL_89 st_L_low rfl rfl (Nat.le_of_ble_eq_true rfl) dL_act_7 ⟨Nat.le_of_ble_eq_true rfl, Nat.le_of_ble_eq_true rfl, Nat.le_of_ble_eq_true rfl, Nat.le_of_ble_eq_true rfl⟩ (fun v1 C3 hP2 => ?_) (fun _ _ hf => hf.elim)
  obtain ⟨rfl, rfl⟩ := hP2
  refine sw_st (st' := [.int (nI (lowN y 5))]) rfl ?_
  refine sw_iload (pc := 10) hc dL_act_10 4 rfl ?_
  refine sw_bipush (pc := 12) (v := 9) hc dL_act_12 (by decide) ?_
  refine sw_ishr (pc := 14) hc dL_act_14 ?_
  refine sw_bipush (pc := 15) (v := 17) hc dL_act_15 (by decide) ?_
  refine sw_callS (pc := 17) (rest := [.int (nI (lowN y 5))]) hc (c_L_low l g _ (y >>> (9 &&& 31)) 17 (by decide) (by decide)) md_L_low ml_RL_89 st_L_low rfl rfl (Nat.le_of_ble_eq_true rfl) dL_act_17 ⟨Nat.le_of_ble_eq_true rfl, Nat.le_of_ble_eq_true rfl, Nat.le_of_ble_eq_true rfl, Nat.le_of_ble_eq_true rfl⟩ (fun v4 C6 hP5 => ?_) (fun _ _ hf => hf.elim)
  obtain ⟨rfl, rfl⟩ := hP5
  refine sw_st (st' := [.int (nI (lowN (y >>> (9 &&& 31)) 17)), .int (nI (lowN y 5))]) rfl ?_
  refine sw_bipush (pc := 20) (v := 16) hc dL_act_20 (by decide) ?_
  refine sw_idiv (pc := 22) hc dL_act_22 (by decide) ?_
  refine sw_isub (pc := 23) hc dL_act_23 ?_
  refine sw_any (fun rp => ?_)
  refine sw_istore (pc := 24) hc dL_act_24 (by decide) (lv' := [(6, .int rp), (0, .ref x0), (1, .ref nA), (2, .ref wA), (3, .int x), (4, .int y), (5, .int (nI kd))]) rfl ?_
  refine sw_iload (pc := 26) hc dL_act_26 5 rfl ?_
  refine sw_iconst (pc := 28) (v := 3) hc dL_act_28 (by decide) ?_
  refine sw_ishr (pc := 29) hc dL_act_29 ?_
  refine sw_bipush (pc := 30) (v := 13) hc dL_act_30 (by decide) ?_
  refine sw_callS (pc := 32) (rest := []) hc (c_L_low l g _ (y >>> (3 &&& 31)) 13 (by decide) (by decide)) md_L_low ml_RL_89 st_L_low rfl rfl (Nat.le_of_ble_eq_true rfl) dL_act_32 ⟨Nat.le_of_ble_eq_true rfl, Nat.le_of_ble_eq_true rfl, Nat.le_of_ble_eq_true rfl, Nat.le_of_ble_eq_true rfl⟩ (fun v7 C9 hP8 => ?_) (fun _ _ hf => hf.elim)
  obtain ⟨rfl, rfl⟩ := hP8
  refine sw_st (st' := [.int (nI (lowN (y >>> (3 &&& 31)) 13))]) rfl ?_
  have K54 : ∀ ct : Int32, sg_W p l e (sg_rm 9 213 24 420) s m (([.ref x0, .ref nA, .ref wA, .int x, .int y, .int (nI kd)] : List Value).toArray) below meth c 10 g 0 0 (sg_End below g (actP g x0 nA wA σ K fn fw n) sg_no (([.ref x0, .ref nA, .ref wA, .int x, .int y, .int (nI kd)] : List Value).toArray) s 24 420) C9 54 [(6, .int rp), (0, .ref x0), (1, .ref nA), (2, .ref wA), (3, .int x), (4, .int y), (5, .int (nI kd))] [.int ct] := by
    intro ct
    refine sw_istore (pc := 54) hc dL_act_54 (by decide) (lv' := [(7, .int ct), (6, .int rp), (0, .ref x0), (1, .ref nA), (2, .ref wA), (3, .int x), (4, .int y), (5, .int (nI kd))]) rfl ?_
    refine sw_iload (pc := 56) hc dL_act_56 7 rfl ?_
    have hks : kd = 0 ∨ kd = 1 ∨ kd = 2 ∨ kd = 3 ∨ kd = 4 ∨ kd = 5 ∨ kd = 6 ∨ kd = 7 ∨ kd = 8 ∨ kd = 9 ∨ kd = 10 ∨ kd = 11 := by omega
    rcases hks with rfl | rfl | rfl | rfl | rfl | rfl | rfl | rfl | rfl | rfl | rfl | rfl
    · exact sw_tableIn (pc := 58) (tgt := 116) (off := 58) hc dL_act_58 (by decide) (by decide) rfl (by decide) (sw_sub (ks := [0, 1, 2, 3, 4, 6]) rfl (act_input hc hlk hrt hst hI hN hw hB hn hG))
    · exact sw_tableIn (pc := 58) (tgt := 116) (off := 58) hc dL_act_58 (by decide) (by decide) rfl (by decide) (sw_sub (ks := [0, 1, 2, 3, 4, 6]) rfl (act_input hc hlk hrt hst hI hN hw hB hn hG))
    · exact sw_tableIn (pc := 58) (tgt := 142) (off := 84) hc dL_act_58 (by decide) (by decide) rfl (by decide) (sw_sub (ks := [0, 1, 2, 3, 4, 6]) rfl (act_submit hc hlk hrt hst hI hN hw hB hn hG))
    · exact sw_tableIn (pc := 58) (tgt := 142) (off := 84) hc dL_act_58 (by decide) (by decide) rfl (by decide) (sw_sub (ks := [0, 1, 2, 3, 4, 6]) rfl (act_submit hc hlk hrt hst hI hN hw hB hn hG))
    · exact sw_tableIn (pc := 58) (tgt := 142) (off := 84) hc dL_act_58 (by decide) (by decide) rfl (by decide) (sw_sub (ks := [0, 1, 2, 3, 4, 6]) rfl (act_submit hc hlk hrt hst hI hN hw hB hn hG))
    · exact sw_tableIn (pc := 58) (tgt := 142) (off := 84) hc dL_act_58 (by decide) (by decide) rfl (by decide) (sw_sub (ks := [0, 1, 2, 3, 4, 6]) rfl (act_submit hc hlk hrt hst hI hN hw hB hn hG))
    · exact sw_tableIn (pc := 58) (tgt := 235) (off := 177) hc dL_act_58 (by decide) (by decide) rfl (by decide) (sw_sub (ks := [0, 1, 2, 3, 4, 6]) rfl (act_rule hc hlk hrt hst hI hN hw hB hn hG))
    · exact sw_tableIn (pc := 58) (tgt := 235) (off := 177) hc dL_act_58 (by decide) (by decide) rfl (by decide) (sw_sub (ks := [0, 1, 2, 3, 4, 6]) rfl (act_rule hc hlk hrt hst hI hN hw hB hn hG))
    · exact sw_tableIn (pc := 58) (tgt := 297) (off := 239) hc dL_act_58 (by decide) (by decide) rfl (by decide) (sw_sub (ks := [0, 1, 2, 3, 4, 6]) rfl (act_offer hc hlk hrt hst hI hN hw hB hn hG))
    · exact sw_tableIn (pc := 58) (tgt := 333) (off := 275) hc dL_act_58 (by decide) (by decide) rfl (by decide) (sw_sub (ks := [0, 1, 2, 3, 4, 6]) rfl (act_gift hc hlk hrt hst hI hN hw hB hn hG))
    · exact sw_tableIn (pc := 58) (tgt := 358) (off := 300) hc dL_act_58 (by decide) (by decide) rfl (by decide) (sw_sub (ks := [0, 1, 2, 3, 4, 6]) rfl (act_pass hc hlk hrt hst hI hN hw hB hn hG))
    · exact sw_tableOut (pc := 58) (tgt := 370) hc dL_act_58 (by decide) (by decide) (sw_sub (ks := [0, 1, 2, 3, 4, 6]) rfl (act_column hc hlk hrt hst hI hN hw hB hn hG))
  refine sw_if_ne (pc := 35) (tgt := 44) hc dL_act_35 (by decide) (fun c10 => ?_) (fun c10 => ?_)
  ·
    refine sw_iload (pc := 44) hc dL_act_44 5 rfl ?_
    refine sw_iconst (pc := 46) (v := 4) hc dL_act_46 (by decide) ?_
    refine sw_ishr (pc := 47) hc dL_act_47 ?_
    refine sw_aload_n (pc := 48) hc dL_act_48 rfl 2 rfl ?_
    refine sw_iconst (pc := 49) (v := 1) hc dL_act_49 (by decide) ?_
    refine sw_iald (pc := 50) (j := 1) hc (hG.at 0 rfl) rfl (by decide) (by decide) dL_act_50 ?_
    refine sw_cv (y := 2) hN.2.1 ?_
    refine sw_callS (pc := 51) (rest := []) hc (c_L_low l g _ (y >>> (4 &&& 31)) 2 (by decide) (by decide)) md_L_low ml_RL_89 st_L_low rfl rfl (Nat.le_of_ble_eq_true rfl) dL_act_51 ⟨Nat.le_of_ble_eq_true rfl, Nat.le_of_ble_eq_true rfl, Nat.le_of_ble_eq_true rfl, Nat.le_of_ble_eq_true rfl⟩ (fun v11 C13 hP12 => ?_) (fun _ _ hf => hf.elim)
    obtain ⟨rfl, rfl⟩ := hP12
    refine sw_st (st' := [.int (nI (lowN (y >>> (4 &&& 31)) 2))]) rfl ?_
    exact K54 _
  ·
    refine sw_aload_n (pc := 38) hc dL_act_38 rfl 2 rfl ?_
    refine sw_iconst (pc := 39) (v := 1) hc dL_act_39 (by decide) ?_
    refine sw_iald (pc := 40) (j := 1) hc (hG.at 0 rfl) rfl (by decide) (by decide) dL_act_40 ?_
    refine sw_cv (y := 2) hN.2.1 ?_
    refine sw_goto (pc := 41) (tgt := 54) hc dL_act_41 (by decide) ?_
    exact K54 _

