
/-! the marathon's plan -/
theorem rBit_t {s k : Nat} (hs : s < 2 ^ 32) (hk : k < 32) : rBit s k ↔ s.testBit k = true := by
  show nI s >>> (nI k &&& 31) &&& 1 = 1 ↔ _
  rw [shr_1 _ hk]
  have e : (nI s).toBitVec.getLsbD k = s.testBit k := by
    show (BitVec.ofNat 32 s).getLsbD k = _
    rw [BitVec.getLsbD_ofNat]
    simp [hk]
  rw [e]
  cases s.testBit k
  · exact ⟨fun q => absurd q (by decide), fun q => absurd q (by decide)⟩
  · exact ⟨fun _ => rfl, fun _ => rfl⟩
def pC (σ : Mem) (s : Nat) : Nat → Int32
  | 0 => 0
  | k + 1 => if rBit s k then pC σ s k + cCost σ k else pC σ s k
def pG (σ : Mem) (s : Nat) : Nat → Int32
  | 0 => 0
  | k + 1 => if rBit s k then pG σ s k + σ 29 k else pG σ s k
section PLAN
variable {σ : Mem}
theorem pCG_eq {s t : Nat} : ∀ n, (∀ k, k < n → (rBit s k ↔ rBit t k)) → pC σ s n = pC σ t n ∧ pG σ s n = pG σ t n
  | 0, _ => ⟨rfl, rfl⟩
  | n + 1, h => by
    have ih := pCG_eq n (fun k hk => h k (by omega))
    exact ⟨ite_c (h n (by omega)) (by rw [ih.1]) ih.1, ite_c (h n (by omega)) (by rw [ih.2]) ih.2⟩
theorem pCG_lo {s i : Nat} (hs : s < 2 ^ i) (hi : i < 11) : pC σ s (i + 1) = pC σ s i ∧ pG σ s (i + 1) = pG σ s i := by
  have hp : 2 ^ i ≤ 2 ^ 11 := Nat.pow_le_pow_right (by decide) (by omega)
  have h : ¬ rBit s i := fun q => by
    have := (rBit_t (s := s) (k := i) (by omega) (by omega)).mp q
    rw [Nat.testBit_lt_two_pow hs] at this
    cases this
  exact ⟨if_neg h, if_neg h⟩
theorem pCG_hi {r i : Nat} (hr : r < 2 ^ i) (hi : i < 11) : pC σ (2 ^ i + r) (i + 1) = pC σ r i + cCost σ i ∧ pG σ (2 ^ i + r) (i + 1) = pG σ r i + σ 29 i := by
  have hp : 2 ^ i ≤ 2 ^ 11 := Nat.pow_le_pow_right (by decide) (by omega)
  have h : rBit (2 ^ i + r) i := (rBit_t (s := 2 ^ i + r) (k := i) (by omega) (by omega)).mpr (by
    rw [Nat.testBit_two_pow_add_eq, Nat.testBit_lt_two_pow hr]
    rfl)
  have h2 : ∀ k, k < i → (rBit (2 ^ i + r) k ↔ rBit r k) := fun k hk => by
    rw [rBit_t (by omega) (by omega), rBit_t (by omega) (by omega), Nat.testBit_two_pow_add_gt hk]
  have h3 := pCG_eq (σ := σ) i h2
  exact ⟨(if_pos h).trans (by rw [h3.1]), (if_pos h).trans (by rw [h3.2])⟩
theorem pCG_0 : ∀ n, n < 32 → pC σ 0 n = 0 ∧ pG σ 0 n = 0
  | 0, _ => ⟨rfl, rfl⟩
  | n + 1, hn => by
    have ih := pCG_0 n (by omega)
    have h : ¬ rBit 0 n := fun q => by
      have := (rBit_t (s := 0) (k := n) (by decide) (by omega)).mp q
      rw [Nat.zero_testBit] at this
      cases this
    exact ⟨(if_neg h).trans ih.1, (if_neg h).trans ih.2⟩
theorem rGs_b (hW : WX σ) (x y : Int32) : ∀ n, n ≤ iN (σ 26 0) → ∀ U j : Nat, U ≤ 500 * j → j ≤ 3 → ∃ U' j' : Nat, rGs σ x y n (nI U, nI j) = (nI U', nI j') ∧ U' ≤ 500 * j' ∧ j' ≤ 3
  | 0, _, U, j, h1, h2 => ⟨U, j, rfl, h1, h2⟩
  | n + 1, hn, U, j, h1, h2 => by
    by_cases c : nI j < 3
    · have hj : j < 3 := (nI_ltI (a := j) (b := 3) (by omega) (by decide)).mp c
      by_cases q : σ 19 n = x ∧ σ 18 n = y ∧ rCnt σ n
      · obtain ⟨t, ht, ht2, -⟩ := heroR_10 (r := iN (σ 17 n)) hW
        rw [← rGs_y c q, (hW.run (by omega)).2.1, ht, nI_add, nI_1]
        exact rGs_b hW x y n (by omega) (U + t) (j + 1) (by omega) (by omega)
      · rw [← rGs_n c q]
        exact rGs_b hW x y n (by omega) U j h1 h2
    · rw [rGs_x c]
      exact ⟨U, j, rfl, h1, h2⟩
theorem guess_b (hW : WX σ) (x y : Int32) : rGuess σ x y = -1 ∨ ∃ c : Nat, rGuess σ x y = nI c ∧ c ≤ 10000 := by
  obtain ⟨U, j, h1, h2, h3⟩ := rGs_b hW x y _ (Nat.le_refl _) 0 0 (by omega) (by omega)
  unfold rGuess rGsN
  rw [show ((0, 0) : Int32 × Int32) = (nI 0, nI 0) from rfl, h1]
  by_cases q : nI j = 0
  · exact .inl (if_pos q)
  · have hj : 0 < j := by
      rcases Nat.eq_zero_or_pos j with z | z
      · exact absurd (by rw [z]; rfl) q
      · exact z
    refine .inr ⟨(11 * U + 10 * j - 1) / (10 * j), ?_, ?_⟩
    · rw [if_neg q]
      show (nI 11 * nI U + nI 10 * nI j - nI 1) / (nI 10 * nI j) = _
      rw [pk_mul, pk_mul, nI_add, pk_sub (by omega), pk_div (by omega) (by omega) (by omega)]
    · refine Nat.div_le_of_le_mul ?_
      have : 10 * j * 10000 = 100000 * j := by omega
      omega
theorem cost_b (hW : WX σ) (k : Nat) : (¬ 0 ≤ rGuess σ (σ 27 k) (σ 28 k) ∧ cCost σ k = nI 10001) ∨ (0 ≤ rGuess σ (σ 27 k) (σ 28 k) ∧ cCost σ k = rGuess σ (σ 27 k) (σ 28 k) ∧ ∃ c : Nat, cCost σ k = nI c ∧ c ≤ 10000) := by
  rcases guess_b hW (σ 27 k) (σ 28 k) with h | ⟨c, h, hc⟩
  · exact .inl ⟨by rw [h]; decide, if_pos h⟩
  · have hn : ¬ rGuess σ (σ 27 k) (σ 28 k) = -1 := by
      rw [h]
      exact fun q => absurd (show nI c < 0 by rw [q]; decide) (nI_pos (by omega))
    exact .inr ⟨by rw [h]; exact nI_pos' (by omega), if_neg hn, c, (if_neg hn).trans h, hc⟩
/-- what the reference adds up is what the class adds up, while all are open; and too much for any room, if one isn't -/
theorem pl1_c (hW : WX σ) (s : Nat) : ∀ n, n ≤ 10 → (rPl1 σ s n).1 = pG σ s n ∧ ∃ c : Nat, pC σ s n = nI c ∧ c ≤ n * 10001 ∧
    (((rPl1 σ s n).2.2 = 1 ∧ (rPl1 σ s n).2.1 = pC σ s n) ∨ ((rPl1 σ s n).2.2 = 0 ∧ 10001 ≤ c))
  | 0, _ => ⟨rfl, 0, rfl, by omega, .inl ⟨rfl, rfl⟩⟩
  | n + 1, hn => by
    obtain ⟨h1, c, h2, h3, h4⟩ := pl1_c hW s n (by omega)
    by_cases q : rBit s n
    · have e1 : rPl1 σ s (n + 1) = ((rPl1 σ s n).1 + σ 29 n, (rPl1 σ s n).2.1 + rGuess σ (σ 27 n) (σ 28 n), (rPl1 σ s n).2.2 &&& bI (0 ≤ rGuess σ (σ 27 n) (σ 28 n))) := if_pos q
      have e2 : pC σ s (n + 1) = pC σ s n + cCost σ n := if_pos q
      have e3 : pG σ s (n + 1) = pG σ s n + σ 29 n := if_pos q
      rw [e1, e2, e3]
      refine ⟨by rw [h1], ?_⟩
      rcases cost_b hW n with ⟨k1, k2⟩ | ⟨k1, k2, d, k3, k4⟩
      · refine ⟨c + 10001, by rw [h2, k2, nI_add], by omega, .inr ⟨?_, by omega⟩⟩
        show _ &&& bI _ = 0
        rw [bI_f k1]
        exact Int32.and_zero
      · refine ⟨c + d, by rw [h2, k3, nI_add], by omega, ?_⟩
        rcases h4 with ⟨h5, h6⟩ | ⟨h5, h6⟩
        · refine .inl ⟨?_, ?_⟩
          · show _ &&& bI _ = 1
            rw [bI_t k1, h5]
            decide
          · show _ + _ = _ + _
            rw [h6, k2]
        · refine .inr ⟨?_, by omega⟩
          show _ &&& bI _ = 0
          rw [h5]
          exact Int32.zero_and
    · have e1 : rPl1 σ s (n + 1) = rPl1 σ s n := if_neg q
      have e2 : pC σ s (n + 1) = pC σ s n := if_neg q
      have e3 : pG σ s (n + 1) = pG σ s n := if_neg q
      rw [e1, e2, e3]
      exact ⟨h1, c, h2, Nat.le_trans h3 (Nat.mul_le_mul_right _ (Nat.le_succ n)), h4⟩
abbrev cBet (σ : Mem) (O s b : Nat) : Prop := pG σ b O < pG σ s O ∨ (pG σ s O = pG σ b O ∧ pC σ s O < pC σ b O)
/-- the best set up to s, as the class seeks it -/
def cPl (σ : Mem) (r : Int32) (O : Nat) : Nat → Nat
  | 0 => 0
  | s + 1 => if cBet σ O s (cPl σ r O s) ∧ pC σ s O ≤ r then s else cPl σ r O s
theorem cPl_lt (r : Int32) (O : Nat) : ∀ s, cPl σ r O (s + 1) ≤ s
  | 0 => by
    show (if _ then 0 else 0) ≤ 0
    split <;> exact Nat.le_refl _
  | s + 1 => by
    show (if _ then s + 1 else cPl σ r O (s + 1)) ≤ s + 1
    split
    · exact Nat.le_refl _
    · exact Nat.le_trans (cPl_lt r O s) (Nat.le_succ s)
theorem pl2_c (hW : WX σ) {r : Int32} {O : Nat} (hO : O ≤ 10) (hr : r ≤ 10000) : ∀ s, rPl2 σ r O s = (nI (cPl σ r O s), pG σ (cPl σ r O s) O, pC σ (cPl σ r O s) O)
  | 0 => by
    show ((0, 0, 0) : Int32 × Int32 × Int32) = (nI 0, pG σ 0 O, pC σ 0 O)
    rw [(pCG_0 O (by omega)).1, (pCG_0 O (by omega)).2]
    rfl
  | s + 1 => by
    have ih := pl2_c hW hO hr s
    obtain ⟨h1, c, h2, h3, h4⟩ := pl1_c hW s O hO
    have hi : rPlB r (rPl1 σ s O) (rPl2 σ r O s) ↔ (cBet σ O s (cPl σ r O s) ∧ pC σ s O ≤ r) := by
      show (¬ (rPl1 σ s O).2.2 = 0 ∧ (rPl1 σ s O).2.1 ≤ r ∧ ((rPl2 σ r O s).2.1 < (rPl1 σ s O).1 ∨ ((rPl1 σ s O).1 = (rPl2 σ r O s).2.1 ∧ (rPl1 σ s O).2.1 < (rPl2 σ r O s).2.2))) ↔ _
      rw [ih, h1]
      rcases h4 with ⟨h5, h6⟩ | ⟨h5, h6⟩
      · rw [h5, h6]
        exact ⟨fun q => ⟨q.2.2, q.2.1⟩, fun q => ⟨by decide, q.2, q.1⟩⟩
      · refine ⟨fun q => absurd h5 q.1, fun q => ?_⟩
        have h7 := Int32.le_trans q.2 hr
        rw [h2] at h7
        exact absurd ((nI_leI (a := c) (b := 10000) (by omega) (by decide)).mp h7) (by omega)
    by_cases q : cBet σ O s (cPl σ r O s) ∧ pC σ s O ≤ r
    · have e1 : cPl σ r O (s + 1) = s := if_pos q
      have e2 : rPl2 σ r O (s + 1) = (nI s, (rPl1 σ s O).1, (rPl1 σ s O).2.1) := if_pos (hi.mpr q)
      rw [e1, e2, h1]
      rcases h4 with ⟨h5, h6⟩ | ⟨h5, h6⟩
      · rw [h6]
      · exact absurd h5 (hi.mpr q).1
    · have e1 : cPl σ r O (s + 1) = cPl σ r O s := if_neg q
      have e2 : rPl2 σ r O (s + 1) = rPl2 σ r O s := if_neg (fun z => q (hi.mp z))
      rw [e1, e2, ih]
theorem vPlan_c (hW : WX σ) {r : Int32} (h : 0 ≤ r ∧ r ≤ 10000) : ¬ 0 < kPlan r ∧ vPlan σ r = nI (cPl σ r (iN (σ 30 0)) (2 ^ iN (σ 30 0))) := by
  have k : kPlan r = 0 := if_pos h
  have hO : iN (σ 30 0) ≤ 10 := by have := hW.1.2.2.2.2.1.2; omega
  refine ⟨by rw [k]; decide, ?_⟩
  unfold vPlan
  rw [k, if_neg (by decide), show fPlan σ r = st2 σ 42 0 (kPlan r) from rfl, rPl2_fr (f42 _), pl2_c hW hO h.2]
end PLAN
section TABS
variable {g : sg_G} {ad : Ad} {own : Nat → Option (Nat × Nat)} {hz : Her} {cs gs : Nat → Int32} {σ : Mem} {C : Nat → Option va_E}
theorem Pic.tab18 (hQ : Pic g ad own (hz, cs, gs) σ C) (f : Nat → Int32) : Pic g ad own (hz, f, gs) σ (sg_up C (ad 18 0) (sg_ia g 1024 f)) ∧ Frm own own C (sg_up C (ad 18 0) (sg_ia g 1024 f)) :=
  hQ.put (gh' := (hz, f, gs)) (σ' := σ) [((18, 0), sg_ia g 1024 f)] (fun t ht => by rcases List.mem_singleton.mp ht with rfl; exact ⟨_, ct18⟩) ⟨List.not_mem_nil, trivial⟩ (fun t ht => by rcases List.mem_singleton.mp ht with rfl; rfl) (fun i k hm => by
    rcases Nat.lt_or_ge i 17 with h | h
    · exact cont_gh i k h
    · rcases Nat.lt_or_ge i 20 with h2 | h2
      · have h3 : i = 17 ∨ i = 18 ∨ i = 19 := by omega
        rcases h3 with rfl | rfl | rfl
        · rfl
        · have hk : ¬ k = 0 := fun q => hm (by rw [q]; exact List.mem_singleton.mpr rfl)
          exact (if_neg hk).trans (if_neg hk).symm
        · rfl
      · rw [cont_x i k h2, cont_x i k h2])
theorem Pic.tab19 (hQ : Pic g ad own (hz, cs, gs) σ C) (f : Nat → Int32) : Pic g ad own (hz, cs, f) σ (sg_up C (ad 19 0) (sg_ia g 1024 f)) ∧ Frm own own C (sg_up C (ad 19 0) (sg_ia g 1024 f)) :=
  hQ.put (gh' := (hz, cs, f)) (σ' := σ) [((19, 0), sg_ia g 1024 f)] (fun t ht => by rcases List.mem_singleton.mp ht with rfl; exact ⟨_, ct19⟩) ⟨List.not_mem_nil, trivial⟩ (fun t ht => by rcases List.mem_singleton.mp ht with rfl; rfl) (fun i k hm => by
    rcases Nat.lt_or_ge i 17 with h | h
    · exact cont_gh i k h
    · rcases Nat.lt_or_ge i 20 with h2 | h2
      · have h3 : i = 17 ∨ i = 18 ∨ i = 19 := by omega
        rcases h3 with rfl | rfl | rfl
        · rfl
        · rfl
        · have hk : ¬ k = 0 := fun q => hm (by rw [q]; exact List.mem_singleton.mpr rfl)
          exact (if_neg hk).trans (if_neg hk).symm
      · rw [cont_x i k h2, cont_x i k h2])
end TABS

theorem fl_RX7_35 : sg_FL RX7 35 8 7 := ⟨RX7, TX7, 9, "SplitGate", rfl, by decide, ti_8, .inl rfl, .inl (sg_mem (i := 142) (by decide +kernel) rfl)⟩
theorem fl_RX7_39 : sg_FL RX7 39 8 8 := ⟨RX7, TX7, 9, "SplitGate", rfl, by decide, ti_8, .inl rfl, .inl (sg_mem (i := 143) (by decide +kernel) rfl)⟩
theorem fl_RX7_293 : sg_FL RX7 293 4 2 := ⟨RX3, TX3, 3, "SplitGate$Offer", rfl, by decide, ti_4, .inl rfl, .inr ⟨"SplitGate", sg_memN (i := 797) (by decide +kernel) rfl⟩⟩
theorem md_X7_costOf : sg_MD yX7_costOf cX7_costOf 3 (some .int) 1 := ⟨sg_mem (i := 685) (by decide +kernel) rfl, sg_mem (i := 26) (by decide +kernel) rfl, ⟨by decide, by decide⟩, by decide +kernel⟩
theorem ml_RX7_299 : sg_ML RX7 299 yX7_costOf := .inl (sg_mem (i := 682) (by decide +kernel) rfl)
theorem im_X7_costOf : Cond.instanceMethod yX7_costOf ∈ sg_T := sg_mem (i := 684) (by decide +kernel) rfl
theorem sl_X7_costOf : Cond.selects yX7_costOf.cls yX7_costOf yX7_costOf ∈ sg_T := sg_mem (i := 18) (by decide +kernel) rfl
theorem md_X7_requireArgument : sg_MD yX7_requireArgument cX7_requireArgument 1 none 1 := ⟨sg_mem (i := 479) (by decide +kernel) rfl, sg_mem (i := 26) (by decide +kernel) rfl, ⟨by decide, by decide⟩, by decide +kernel⟩
theorem ml_RX7_77 : sg_ML RX7 77 yX7_requireArgument := .inl (sg_mem (i := 477) (by decide +kernel) rfl)
theorem st_X7_requireArgument : Cond.static yX7_requireArgument ∈ sg_T := sg_mem (i := 478) (by decide +kernel) rfl
theorem md_X7_fillSets : sg_MD yX7_fillSets cX7_fillSets 6 (some .int) 0 := ⟨sg_mem (i := 680) (by decide +kernel) rfl, sg_mem (i := 26) (by decide +kernel) rfl, ⟨by decide, by decide⟩, by decide +kernel⟩
theorem ml_RX7_296 : sg_ML RX7 296 yX7_fillSets := .inl (sg_mem (i := 677) (by decide +kernel) rfl)
theorem im_X7_fillSets : Cond.instanceMethod yX7_fillSets ∈ sg_T := sg_mem (i := 679) (by decide +kernel) rfl
theorem sl_X7_fillSets : Cond.selects yX7_fillSets.cls yX7_fillSets yX7_fillSets ∈ sg_T := sg_mem (i := 17) (by decide +kernel) rfl
set_option maxHeartbeats 4000000 in
set_option maxRecDepth 100000 in
theorem c_X7_fillSets (l : Launch) (g : sg_G) (C : Nat → Option va_E) (ad : Ad) (own : Nat → Option (Nat × Nat)) (gh : Gh) (σ : Mem) (hQ : Pic g ad own gh σ C) (hW : WX σ) (hg : gOk gh) : sg_Met l yX7_fillSets cX7_fillSets 6 (some .int) 8 178 0 0 g [.ref (ad 0 0)] C (fun v C' => v = some (.int (nI (2 ^ iN (σ 30 0)))) ∧ ∃ cs gs, Pic g ad own (gh.1, cs, gs) σ C' ∧ Frm own own C C' ∧ ∀ s, s < 2 ^ iN (σ 30 0) → cs s = pC σ s (iN (σ 30 0)) ∧ gs s = pG σ s (iN (σ 30 0))) (sg_no) := by
  refine sg_ofW (by decide) rfl ?_ (Nat.le_of_ble_eq_true rfl)
  intro p e s m below meth c hc hlk hrt hin2 htb
  have hc : sg_Cx p s m _ c cX7_fillSets 6 RX7 g := hc
  show sg_W p l e _ s m _ below meth c 6 g 0 0 _ C 0 [(0, .ref (ad 0 0))] []
  have K_4 : ∀ (n4 : Nat) (i : Nat) (Cz : Nat → Option va_E) (cs : Nat → Int32) (gs : Nat → Int32) (hn4 : iN (σ 30 0) - i < n4) (hJ : i ≤ iN (σ 30 0)) (hQz : Pic g ad own (gh.1, cs, gs) σ Cz) (hFz : Frm own own C Cz) (hT : ∀ s, s < 2 ^ i → cs s = pC σ s i ∧ gs s = pG σ s i), sg_W p l e (sg_rm 8 178 0 0) s m ([.ref (ad 0 0)] : List Value).toArray below meth c 6 g 0 0 (sg_End below g (fun v C' => v = some (.int (nI (2 ^ iN (σ 30 0)))) ∧ ∃ cs gs, Pic g ad own (gh.1, cs, gs) σ C' ∧ Frm own own C C' ∧ ∀ s, s < 2 ^ iN (σ 30 0) → cs s = pC σ s (iN (σ 30 0)) ∧ gs s = pG σ s (iN (σ 30 0))) (sg_no) ([.ref (ad 0 0)] : List Value).toArray s 0 0) (Cz) 4 [(0, .ref (ad 0 0)), (1, .int (nI (2 ^ i))), (2, .int (nI i))] [] := by
    intro n4
    induction n4 with
    | zero => intro i Cz cs gs hn4 hJ hQz hFz hT; exact absurd hn4 (Nat.not_lt_zero _)
    | succ n4 ih4 =>
      intro i Cz cs gs hn4 hJ hQz hFz hT
      have K_46 : ∀ (n46 : Nat) (r : Nat) (Cy : Nat → Option va_E) (cs2 : Nat → Int32) (gs2 : Nat → Int32) (hn46 : 2 ^ i - r < n46) (hlt : i < iN (σ 30 0)) (hR : r ≤ 2 ^ i) (hQy : Pic g ad own (gh.1, cs2, gs2) σ Cy) (hFy : Frm own own C Cy) (hT1 : ∀ s, s < 2 ^ i → cs2 s = pC σ s i ∧ gs2 s = pG σ s i) (hT2 : ∀ s, s < r → cs2 (2 ^ i + s) = pC σ s i + cCost σ i ∧ gs2 (2 ^ i + s) = pG σ s i + σ 29 i), sg_W p l e (sg_rm 8 178 0 0) s m ([.ref (ad 0 0)] : List Value).toArray below meth c 6 g 0 0 (sg_End below g (fun v C' => v = some (.int (nI (2 ^ iN (σ 30 0)))) ∧ ∃ cs gs, Pic g ad own (gh.1, cs, gs) σ C' ∧ Frm own own C C' ∧ ∀ s, s < 2 ^ iN (σ 30 0) → cs s = pC σ s (iN (σ 30 0)) ∧ gs s = pG σ s (iN (σ 30 0))) (sg_no) ([.ref (ad 0 0)] : List Value).toArray s 0 0) (Cy) 46 [(0, .ref (ad 0 0)), (1, .int (nI (2 ^ i))), (2, .int (nI i)), (3, .ref (ad 16 i)), (4, .int (cCost σ i)), (5, .int (nI r))] [] := by
        intro n46
        induction n46 with
        | zero => intro r Cy cs2 gs2 hn46 hlt hR hQy hFy hT1 hT2; exact absurd hn46 (Nat.not_lt_zero _)
        | succ n46 ih46 =>
          intro r Cy cs2 gs2 hn46 hlt hR hQy hFy hT1 hT2
          have hi10 : i < 10 := by have := hW.1.2.2.2.2.1.2; omega
          have hp1 : 2 ^ (i + 1) ≤ 2 ^ 10 := Nat.pow_le_pow_right (by decide) (by omega)
          have hp2 : 2 ^ (i + 1) = 2 ^ i + 2 ^ i := by rw [Nat.pow_succ]; omega
          refine sw_iload (pc := 46) hc dX7_fillSets_46 5 rfl ?_
          refine sw_iload_n (pc := 48) hc dX7_fillSets_48 rfl 1 rfl ?_
          refine sw_icmp_ge (pc := 49) (tgt := 98) hc dX7_fillSets_49 (by decide) (fun c_1 => ?_) (fun c_1 => ?_)
          ·
            have c_1' := Int32.not_lt.mpr c_1
            refine sw_iload_n (pc := 98) hc dX7_fillSets_98 rfl 1 rfl ?_
            refine sw_iconst (pc := 99) (v := 2) hc dX7_fillSets_99 (by decide) ?_
            refine sw_imul (pc := 100) hc dX7_fillSets_100 ?_
            refine sw_st (st' := [.int (nI (2 ^ (i + 1)))]) (congrArg (fun z => ([.int z] : List Value)) (((pk_mul (2 ^ i) 2).trans (congrArg nI (by omega))) : (nI (2 ^ i)) * 2 = nI (2 ^ (i + 1)))) ?_
            refine sw_istore_n (pc := 101) hc dX7_fillSets_101 rfl (by decide) (lv' := [(1, .int (nI (2 ^ (i + 1)))), (0, .ref (ad 0 0)), (2, .int (nI i)), (3, .ref (ad 16 i)), (4, .int (cCost σ i)), (5, .int (nI r))]) rfl ?_
            refine sw_iinc (pc := 102) (v := nI (i + 1)) (lv' := [(2, .int (nI (i + 1))), (1, .int (nI (2 ^ (i + 1)))), (0, .ref (ad 0 0)), (3, .ref (ad 16 i)), (4, .int (cCost σ i)), (5, .int (nI r))]) hc dX7_fillSets_102 (k := 2) rfl (nI_1 _) (by decide) rfl ?_
            refine sw_goto (pc := 105) (tgt := 4) hc dX7_fillSets_105 (by decide) ?_
            have h_2 : (i + 1) ≤ iN (σ 30 0) := by omega
            have h_3 : Pic g ad own (gh.1, cs2, gs2) σ Cy := by exact hQy
            have h_4 : Frm own own C Cy := by exact hFy
            have hr2 : r = 2 ^ i := by have := (nI_leI (a := 2 ^ i) (b := r) (by omega) (by omega)).mp c_1; omega
            have h_5 : ∀ s, s < 2 ^ (i + 1) → cs2 s = pC σ s (i + 1) ∧ gs2 s = pG σ s (i + 1) := by intro s hs; rcases Nat.lt_or_ge s (2 ^ i) with q | q; exact ⟨(hT1 s q).1.trans (pCG_lo q (by omega)).1.symm, (hT1 s q).2.trans (pCG_lo q (by omega)).2.symm⟩; obtain ⟨u, rfl⟩ : ∃ u, s = 2 ^ i + u := ⟨s - 2 ^ i, by omega⟩; exact ⟨(hT2 u (by omega)).1.trans (pCG_hi (by omega) (by omega)).1.symm, (hT2 u (by omega)).2.trans (pCG_hi (by omega) (by omega)).2.symm⟩
            have h_6 : iN (σ 30 0) - (i + 1) < n4 := by omega
            exact sw_sub (ks := [2, 1, 0]) rfl (ih4 (i + 1) Cy cs2 gs2 h_6 h_2 h_3 h_4 h_5)
          ·
            have c_1' := Int32.not_le.mp c_1
            have hrl : r < 2 ^ i := (nI_ltI (a := r) (b := 2 ^ i) (by omega) (by omega)).mp (Int32.not_le.mp c_1)
            refine sw_aload_n (pc := 52) hc dX7_fillSets_52 rfl 0 rfl ?_
            refine sw_get (pc := 53) (v := .ref (ad 18 0)) hc fl_RX7_35 (hQy.at ct0) rfl dX7_fillSets_53 ?_
            refine sw_iload_n (pc := 56) hc dX7_fillSets_56 rfl 1 rfl ?_
            refine sw_iload (pc := 57) hc dX7_fillSets_57 5 rfl ?_
            refine sw_iadd (pc := 59) hc dX7_fillSets_59 ?_
            refine sw_st (st' := [.int (nI (2 ^ i + r)), .ref (ad 18 0)]) (congrArg (fun z => ([.int z, .ref (ad 18 0)] : List Value)) (nI_add _ _ : (nI (2 ^ i)) + (nI r) = nI (2 ^ i + r))) ?_
            refine sw_aload_n (pc := 60) hc dX7_fillSets_60 rfl 0 rfl ?_
            refine sw_get (pc := 61) (v := .ref (ad 18 0)) hc fl_RX7_35 (hQy.at ct0) rfl dX7_fillSets_61 ?_
            refine sw_iload (pc := 64) hc dX7_fillSets_64 5 rfl ?_
            refine sw_iald (pc := 66) (j := r) hc (show Cy (ad 18 0) = some (sg_ia g 1024 cs2) from hQy.at ct18) rfl (by omega) (by decide) dX7_fillSets_66 ?_
            refine sw_iload (pc := 67) hc dX7_fillSets_67 4 rfl ?_
            refine sw_iadd (pc := 69) hc dX7_fillSets_69 ?_
            refine sw_iast (pc := 70) (j := (2 ^ i + r)) hc (show Cy (ad 18 0) = some (sg_ia g 1024 cs2) from hQy.at ct18) rfl (by omega) (by decide) dX7_fillSets_70 ?_
            refine sw_eq (C' := sg_up Cy (ad 18 0) (sg_ia g 1024 (upd cs2 (2 ^ i + r) ((cs2 r) + (cCost σ i))))) rfl ?_
            have hQF3 := hQy.tab18 (upd cs2 (2 ^ i + r) ((cs2 r) + (cCost σ i)))
            revert hQF3
            generalize sg_up Cy (ad 18 0) (sg_ia g 1024 (upd cs2 (2 ^ i + r) ((cs2 r) + (cCost σ i)))) = Cz3
            rintro ⟨hQ3, hF3⟩
            refine sw_aload_n (pc := 71) hc dX7_fillSets_71 rfl 0 rfl ?_
            refine sw_get (pc := 72) (v := .ref (ad 19 0)) hc fl_RX7_39 (hQ3.at ct0) rfl dX7_fillSets_72 ?_
            refine sw_iload_n (pc := 75) hc dX7_fillSets_75 rfl 1 rfl ?_
            refine sw_iload (pc := 76) hc dX7_fillSets_76 5 rfl ?_
            refine sw_iadd (pc := 78) hc dX7_fillSets_78 ?_
            refine sw_st (st' := [.int (nI (2 ^ i + r)), .ref (ad 19 0)]) (congrArg (fun z => ([.int z, .ref (ad 19 0)] : List Value)) (nI_add _ _ : (nI (2 ^ i)) + (nI r) = nI (2 ^ i + r))) ?_
            refine sw_aload_n (pc := 79) hc dX7_fillSets_79 rfl 0 rfl ?_
            refine sw_get (pc := 80) (v := .ref (ad 19 0)) hc fl_RX7_39 (hQ3.at ct0) rfl dX7_fillSets_80 ?_
            refine sw_iload (pc := 83) hc dX7_fillSets_83 5 rfl ?_
            refine sw_iald (pc := 85) (j := r) hc (show Cz3 (ad 19 0) = some (sg_ia g 1024 gs2) from hQ3.at ct19) rfl (by omega) (by decide) dX7_fillSets_85 ?_
            refine sw_aload_n (pc := 86) hc dX7_fillSets_86 rfl 3 rfl ?_
            refine sw_get (pc := 87) (v := .int (σ 29 i)) hc fl_RX7_293 (hQ3.at (ct16 (k := i) hlt)) rfl dX7_fillSets_87 ?_
            refine sw_iadd (pc := 90) hc dX7_fillSets_90 ?_
            refine sw_iast (pc := 91) (j := (2 ^ i + r)) hc (show Cz3 (ad 19 0) = some (sg_ia g 1024 gs2) from hQ3.at ct19) rfl (by omega) (by decide) dX7_fillSets_91 ?_
            refine sw_eq (C' := sg_up Cz3 (ad 19 0) (sg_ia g 1024 (upd gs2 (2 ^ i + r) ((gs2 r) + (σ 29 i))))) rfl ?_
            have hQF4 := hQ3.tab19 (upd gs2 (2 ^ i + r) ((gs2 r) + (σ 29 i)))
            revert hQF4
            generalize sg_up Cz3 (ad 19 0) (sg_ia g 1024 (upd gs2 (2 ^ i + r) ((gs2 r) + (σ 29 i)))) = Cz4
            rintro ⟨hQ4, hF4⟩
            refine sw_iinc (pc := 92) (v := nI (r + 1)) (lv' := [(5, .int (nI (r + 1))), (0, .ref (ad 0 0)), (1, .int (nI (2 ^ i))), (2, .int (nI i)), (3, .ref (ad 16 i)), (4, .int (cCost σ i))]) hc dX7_fillSets_92 (k := 5) rfl (nI_1 _) (by decide) rfl ?_
            refine sw_goto (pc := 95) (tgt := 46) hc dX7_fillSets_95 (by decide) ?_
            have h_7 : i < iN (σ 30 0) := by exact hlt
            have h_8 : (r + 1) ≤ 2 ^ i := by first | omega | exact Nat.zero_le _
            have h_9 : Pic g ad own (gh.1, (upd cs2 (2 ^ i + r) ((cs2 r) + (cCost σ i))), (upd gs2 (2 ^ i + r) ((gs2 r) + (σ 29 i)))) σ Cz4 := by exact hQ4
            have h_10 : Frm own own C Cz4 := by exact ((hFy.trans hF3).trans hF4)
            have h_11 : ∀ s, s < 2 ^ i → (upd cs2 (2 ^ i + r) ((cs2 r) + (cCost σ i))) s = pC σ s i ∧ (upd gs2 (2 ^ i + r) ((gs2 r) + (σ 29 i))) s = pG σ s i := by intro s hs; exact ⟨(pk_un (by omega)).trans (hT1 s hs).1, (pk_un (by omega)).trans (hT1 s hs).2⟩
            have h_12 : ∀ s, s < (r + 1) → (upd cs2 (2 ^ i + r) ((cs2 r) + (cCost σ i))) (2 ^ i + s) = pC σ s i + cCost σ i ∧ (upd gs2 (2 ^ i + r) ((gs2 r) + (σ 29 i))) (2 ^ i + s) = pG σ s i + σ 29 i := by intro s hs; rcases Nat.lt_or_ge s r with q | q; exact ⟨(pk_un (by omega)).trans (hT2 s q).1, (pk_un (by omega)).trans (hT2 s q).2⟩; rw [show s = r by omega]; exact ⟨pk_us.trans (by rw [(hT1 r hrl).1]), pk_us.trans (by rw [(hT1 r hrl).2])⟩
            have h_13 : 2 ^ i - (r + 1) < n46 := by omega
            exact sw_sub (ks := [1, 2, 3, 4, 5, 0]) rfl (ih46 (r + 1) Cz4 (upd cs2 (2 ^ i + r) ((cs2 r) + (cCost σ i))) (upd gs2 (2 ^ i + r) ((gs2 r) + (σ 29 i))) h_13 h_7 h_8 h_9 h_10 h_11 h_12)
      refine sw_iload_n (pc := 4) hc dX7_fillSets_4 rfl 2 rfl ?_
      refine sw_aload_n (pc := 5) hc dX7_fillSets_5 rfl 0 rfl ?_
      refine sw_get (pc := 6) (v := .ref (ad 1 4)) hc fl_RX7_25 (hQz.at ct0) rfl dX7_fillSets_6 ?_
      refine sw_callV (pc := 9) (rest := [.int (nI i)]) hc (c_Jx4a65c_size_8abf5 l g Cz (ad 1 4) (nI (iN (σ 30 0))) (if iN (σ 30 0) = 0 then g.2.2.2 0 else ad 2 4) (nI (iN (σ 30 0))) (hQz.at (ct1 (k := 4) (by decide)))) md_Jx4a65c_size_8abf5 ml_RX7_46 im_Jx4a65c_size_8abf5 sl_Jx4a65c_size_8abf5 (hQz.at (ct1 (k := 4) (by decide))) rfl rfl rfl (Nat.le_of_ble_eq_true rfl) dX7_fillSets_9 ⟨Nat.le_of_ble_eq_true rfl, Nat.le_of_ble_eq_true rfl, Nat.le_of_ble_eq_true rfl, Nat.le_of_ble_eq_true rfl⟩ (fun v C' hP => ?_) (fun _ _ h => h.elim)
      obtain ⟨rfl, hCC⟩ := hP
      refine sw_eq (C' := Cz) hCC ?_
      refine sw_st (st' := [.int (nI (iN (σ 30 0))), .int (nI i)]) rfl ?_
      refine sw_icmp_ge (pc := 12) (tgt := 108) hc dX7_fillSets_12 (by decide) (fun c_14 => ?_) (fun c_14 => ?_)
      ·
        have c_14' := Int32.not_lt.mpr c_14
        refine sw_iload_n (pc := 108) hc dX7_fillSets_108 rfl 1 rfl ?_
        have hin : i = iN (σ 30 0) := Nat.le_antisymm hJ ((nI_leI (by have := hW.b4; have h9 : lsN σ 4 = iN (σ 30 0) := rfl; omega) (by have := hW.b4; have h9 : lsN σ 4 = iN (σ 30 0) := rfl; omega)).mp c_14)
        exact sw_iret (pc := 109) hc hlk hrt rfl ⟨congrArg (fun z => some (Value.int z)) (show nI (2 ^ i) = nI (2 ^ iN (σ 30 0)) by rw [hin]), cs, gs, hQz, hFz, by rw [← hin]; exact hT⟩ (Nat.le_of_ble_eq_true rfl) (Nat.le_of_ble_eq_true rfl) dX7_fillSets_109
      ·
        have c_14' := Int32.not_le.mp c_14
        have hlt : i < iN (σ 30 0) := (nI_ltI (a := i) (b := iN (σ 30 0)) (by have := hW.b4; have h9 : lsN σ 4 = iN (σ 30 0) := rfl; omega) (by have := hW.b4; have h9 : lsN σ 4 = iN (σ 30 0) := rfl; omega)).mp (Int32.not_le.mp c_14)
        have hi10 : i < 10 := by have := hW.1.2.2.2.2.1.2; omega
        have hp1 : 2 ^ (i + 1) ≤ 2 ^ 10 := Nat.pow_le_pow_right (by decide) (by omega)
        have hp2 : 2 ^ (i + 1) = 2 ^ i + 2 ^ i := by rw [Nat.pow_succ]; omega
        refine sw_iconst (pc := 15) (v := 2) hc dX7_fillSets_15 (by decide) ?_
        refine sw_iload_n (pc := 16) hc dX7_fillSets_16 rfl 1 rfl ?_
        refine sw_imul (pc := 17) hc dX7_fillSets_17 ?_
        refine sw_st (st' := [.int (nI (2 ^ (i + 1)))]) (congrArg (fun z => ([.int z] : List Value)) (((pk_mul 2 (2 ^ i)).trans (congrArg nI (by omega))) : 2 * (nI (2 ^ i)) = nI (2 ^ (i + 1)))) ?_
        refine sw_sipush (pc := 18) (v := 1024) hc dX7_fillSets_18 (by decide) ?_
        refine sw_icmp_gt (pc := 21) (tgt := 108) hc dX7_fillSets_21 (by decide) (fun c_15 => ?_) (fun c_15 => ?_)
        ·
          exact absurd c_15 (nI_nlt (a := 1024) (b := 2 ^ (i + 1)) hp1 (by decide))
        ·
          have c_15' := Int32.not_lt.mp c_15
          refine sw_aload_n (pc := 24) hc dX7_fillSets_24 rfl 0 rfl ?_
          refine sw_get (pc := 25) (v := .ref (ad 1 4)) hc fl_RX7_25 (hQz.at ct0) rfl dX7_fillSets_25 ?_
          refine sw_iload_n (pc := 28) hc dX7_fillSets_28 rfl 2 rfl ?_
          refine sw_callV (pc := 29) (rest := []) hc (c_get1 (k := 4) l hQz (by decide) (i := i) hlt hW.b4) md_Jx4a65c_get_915e3 ml_RX7_156 im_Jx4a65c_get_915e3 sl_Jx4a65c_get_915e3 (hQz.at (ct1 (k := 4) (by decide))) rfl rfl rfl (Nat.le_of_ble_eq_true rfl) dX7_fillSets_29 ⟨Nat.le_of_ble_eq_true rfl, Nat.le_of_ble_eq_true rfl, Nat.le_of_ble_eq_true rfl, Nat.le_of_ble_eq_true rfl⟩ (fun v C' hP => ?_) (fun _ _ h => h.elim)
          obtain ⟨rfl, hCC⟩ := hP
          refine sw_eq (C' := Cz) hCC ?_
          refine sw_st (st' := [.ref (ad 16 i)]) rfl ?_
          refine sw_cast (pc := 32) hc kl_RX7_282 (hQz.at (ct16 (k := i) hlt)) rfl dX7_fillSets_32 ?_
          refine sw_astore_n (pc := 35) hc dX7_fillSets_35 rfl (by decide) (lv' := [(3, .ref (ad 16 i)), (0, .ref (ad 0 0)), (1, .int (nI (2 ^ i))), (2, .int (nI i))]) rfl ?_
          refine sw_aload_n (pc := 36) hc dX7_fillSets_36 rfl 1 rfl ?_
          refine sw_aload_n (pc := 37) hc dX7_fillSets_37 rfl 0 rfl ?_
          refine sw_callV (pc := 38) (rest := []) hc (c_X7_costOf l g Cz ad own (gh.1, cs, gs) σ i hQz hW hlt) md_X7_costOf ml_RX7_299 im_X7_costOf sl_X7_costOf (hQz.at ct0) rfl rfl rfl (Nat.le_of_ble_eq_true rfl) dX7_fillSets_38 ⟨Nat.le_of_ble_eq_true rfl, Nat.le_of_ble_eq_true rfl, Nat.le_of_ble_eq_true rfl, Nat.le_of_ble_eq_true rfl⟩ (fun v C' hP => ?_) (fun _ _ h => h.elim)
          obtain ⟨rfl, hCC⟩ := hP
          refine sw_eq (C' := Cz) hCC ?_
          refine sw_st (st' := [.int (cCost σ i)]) rfl ?_
          refine sw_istore (pc := 41) hc dX7_fillSets_41 (by decide) (lv' := [(4, .int (cCost σ i)), (3, .ref (ad 16 i)), (0, .ref (ad 0 0)), (1, .int (nI (2 ^ i))), (2, .int (nI i))]) rfl ?_
          refine sw_iconst (pc := 43) (v := 0) hc dX7_fillSets_43 (by decide) ?_
          refine sw_istore (pc := 44) hc dX7_fillSets_44 (by decide) (lv' := [(5, .int 0), (4, .int (cCost σ i)), (3, .ref (ad 16 i)), (0, .ref (ad 0 0)), (1, .int (nI (2 ^ i))), (2, .int (nI i))]) rfl ?_
          have h_16 : i < iN (σ 30 0) := by exact hlt
          have h_17 : 0 ≤ 2 ^ i := by first | omega | exact Nat.zero_le _
          have h_18 : Pic g ad own (gh.1, cs, gs) σ Cz := by exact hQz
          have h_19 : Frm own own C Cz := by exact hFz
          have h_20 : ∀ s, s < 2 ^ i → cs s = pC σ s i ∧ gs s = pG σ s i := by exact hT
          have h_21 : ∀ s, s < 0 → cs (2 ^ i + s) = pC σ s i + cCost σ i ∧ gs (2 ^ i + s) = pG σ s i + σ 29 i := by intro s hs; exact absurd hs (Nat.not_lt_zero _)
          exact sw_sub (ks := [3, 4, 5, 2, 1, 0]) rfl (K_46 _ 0 Cz cs gs (Nat.lt_succ_self _) h_16 h_17 h_18 h_19 h_20 h_21)
  refine sw_iconst (pc := 0) (v := 1) hc dX7_fillSets_0 (by decide) ?_
  refine sw_st (st' := [.int (nI (2 ^ 0))]) (congrArg (fun z => ([.int z] : List Value)) ((by decide) : 1 = nI (2 ^ 0))) ?_
  refine sw_istore_n (pc := 1) hc dX7_fillSets_1 rfl (by decide) (lv' := [(1, .int (nI (2 ^ 0))), (0, .ref (ad 0 0))]) rfl ?_
  refine sw_iconst (pc := 2) (v := 0) hc dX7_fillSets_2 (by decide) ?_
  refine sw_istore_n (pc := 3) hc dX7_fillSets_3 rfl (by decide) (lv' := [(2, .int 0), (1, .int (nI (2 ^ 0))), (0, .ref (ad 0 0))]) rfl ?_
  have h_22 : 0 ≤ iN (σ 30 0) := by omega
  have h_23 : Pic g ad own (gh.1, gh.2.1, gh.2.2) σ C := by exact hQ
  have h_24 : Frm own own C C := by exact Frm.refl
  have h_25 : ∀ s, s < 2 ^ 0 → gh.2.1 s = pC σ s 0 ∧ gh.2.2 s = pG σ s 0 := by intro s hs; rw [show s = 0 by omega]; exact hg
  exact sw_sub (ks := [2, 1, 0]) rfl (K_4 _ 0 C gh.2.1 gh.2.2 (Nat.lt_succ_self _) h_22 h_23 h_24 h_25)

set_option maxHeartbeats 4000000 in
set_option maxRecDepth 100000 in
theorem c_X7_plan (l : Launch) (g : sg_G) (C : Nat → Option va_E) (ad : Ad) (own : Nat → Option (Nat × Nat)) (gh : Gh) (σ : Mem) (x : Int32) (hQ : Pic g ad own gh σ C) (hW : WX σ) (hg : gOk gh) (hst : l.stackTraces = false) : sg_Met l yX7_plan cX7_plan 6 (some .int) 9 203 16 96 g [.ref (ad 0 0), .int x] C (fun v C' => v = some (.int (vPlan σ x)) ∧ ¬ 0 < kPlan x ∧ PH g (ad 0 0) own C (fPlan σ x) C') (fun E C' => ((E = "java/lang/IllegalArgumentException" ∧ kPlan x = 1)) ∧ PH g (ad 0 0) own C (fPlan σ x) C') := by
  refine sg_ofW (by decide) rfl ?_ (Nat.le_of_ble_eq_true rfl)
  intro p e s m below meth c hc hlk hrt hin2 htb
  have hc : sg_Cx p s m _ c cX7_plan 6 RX7 g := hc
  show sg_W p l e _ s m _ below meth c 6 g 0 0 _ C 0 [(0, .ref (ad 0 0)), (1, .int x)] []
  have K_21 : ∀ (n21 : Nat) (u : Nat) (Cy : Nat → Option va_E) (cs : Nat → Int32) (gs : Nat → Int32) (hn21 : 2 ^ iN (σ 30 0) - u < n21) (hJ : u ≤ 2 ^ iN (σ 30 0) ∧ 1 ≤ u) (ho1 : 0 ≤ x ∧ x ≤ 10000) (hQy : Pic g ad own (gh.1, cs, gs) σ Cy) (hFy : Frm own own C Cy) (hT : ∀ s, s < 2 ^ iN (σ 30 0) → cs s = pC σ s (iN (σ 30 0)) ∧ gs s = pG σ s (iN (σ 30 0))) (hp1 : 2 ^ iN (σ 30 0) ≤ 1024), sg_W p l e (sg_rm 9 203 16 96) s m ([.ref (ad 0 0), .int x] : List Value).toArray below meth c 6 g 1 6 (sg_End below g (fun v C' => v = some (.int (vPlan σ x)) ∧ ¬ 0 < kPlan x ∧ PH g (ad 0 0) own C (fPlan σ x) C') (fun E C' => ((E = "java/lang/IllegalArgumentException" ∧ kPlan x = 1)) ∧ PH g (ad 0 0) own C (fPlan σ x) C') ([.ref (ad 0 0), .int x] : List Value).toArray s 16 96) (Cy) 21 [(0, .ref (ad 0 0)), (1, .int x), (2, .int (nI (2 ^ iN (σ 30 0)))), (3, .int (nI (cPl σ x (iN (σ 30 0)) u))), (4, .int (nI u))] [] := by
    intro n21
    induction n21 with
    | zero => intro u Cy cs gs hn21 hJ ho1 hQy hFy hT hp1; exact absurd hn21 (Nat.not_lt_zero _)
    | succ n21 ih21 =>
      intro u Cy cs gs hn21 hJ ho1 hQy hFy hT hp1
      have hg0 : gOk (gh.1, cs, gs) := ⟨(hT 0 (Nat.two_pow_pos _)).1.trans (pCG_0 _ (by have := hW.1.2.2.2.2.1.2; omega)).1, (hT 0 (Nat.two_pow_pos _)).2.trans (pCG_0 _ (by have := hW.1.2.2.2.2.1.2; omega)).2⟩
      refine sw_iload (pc := 21) hc dX7_plan_21 4 rfl ?_
      refine sw_iload_n (pc := 23) hc dX7_plan_23 rfl 2 rfl ?_
      refine sw_icmp_ge (pc := 24) (tgt := 115) hc dX7_plan_24 (by decide) (fun c_1 => ?_) (fun c_1 => ?_)
      ·
        have c_1' := Int32.not_lt.mpr c_1
        refine sw_iload_n (pc := 115) hc dX7_plan_115 rfl 3 rfl ?_
        have hin : u = 2 ^ iN (σ 30 0) := by
          first | (have := (nI_leI (a := 2 ^ iN (σ 30 0)) (b := u) (by omega) (by omega)).mp c_1; omega) | (have := (nI_leI (a := 1024) (b := u) (by decide) (by omega)).mp c_1; omega)
        have hvp := vPlan_c hW ho1
        exact sw_iret (pc := 116) hc hlk hrt rfl ⟨congrArg (fun z => some (Value.int z)) (show nI (cPl σ x (iN (σ 30 0)) u) = vPlan σ x by rw [hvp.2, hin]), hvp.1, ⟨ad, own, _, Pic.fr hQy hW (f42 _), hFy, hg0, hW.fr (f42 _), rfl⟩⟩ (Nat.le_of_ble_eq_true rfl) (Nat.le_of_ble_eq_true rfl) dX7_plan_116
      ·
        have c_1' := Int32.not_le.mp c_1
        have hs1 : u < 2 ^ iN (σ 30 0) := (nI_ltI (a := u) (b := 2 ^ iN (σ 30 0)) (by omega) (by omega)).mp (Int32.not_le.mp c_1)
        refine sw_iload (pc := 27) hc dX7_plan_27 4 rfl ?_
        refine sw_sipush (pc := 29) (v := 1024) hc dX7_plan_29 (by decide) ?_
        refine sw_icmp_ge (pc := 32) (tgt := 115) hc dX7_plan_32 (by decide) (fun c_2 => ?_) (fun c_2 => ?_)
        ·
          exact absurd c_2 (show ¬ (1024 : Int32) ≤ nI u from nI_ge (b := 1024) (by omega) (by decide))
        ·
          have c_2' := Int32.not_le.mp c_2
          have hs2 : u < 1024 := by omega
          have hbb : cPl σ x (iN (σ 30 0)) u < 2 ^ iN (σ 30 0) := by obtain ⟨s0, rfl⟩ : ∃ s0, u = s0 + 1 := ⟨u - 1, by omega⟩; have := cPl_lt (σ := σ) x (iN (σ 30 0)) s0; omega
          have hts := hT u hs1
          have htb := hT _ hbb
          refine sw_aload_n (pc := 35) hc dX7_plan_35 rfl 0 rfl ?_
          refine sw_get (pc := 36) (v := .ref (ad 19 0)) hc fl_RX7_39 (hQy.at ct0) rfl dX7_plan_36 ?_
          refine sw_iload (pc := 39) hc dX7_plan_39 4 rfl ?_
          refine sw_iald (pc := 41) (j := u) hc (show Cy (ad 19 0) = some (sg_ia g 1024 gs) from hQy.at ct19) rfl (by omega) (by decide) dX7_plan_41 ?_
          refine sw_aload_n (pc := 42) hc dX7_plan_42 rfl 0 rfl ?_
          refine sw_get (pc := 43) (v := .ref (ad 19 0)) hc fl_RX7_39 (hQy.at ct0) rfl dX7_plan_43 ?_
          refine sw_iload_n (pc := 46) hc dX7_plan_46 rfl 3 rfl ?_
          refine sw_iald (pc := 47) (j := (cPl σ x (iN (σ 30 0)) u)) hc (show Cy (ad 19 0) = some (sg_ia g 1024 gs) from hQy.at ct19) rfl (by omega) (by decide) dX7_plan_47 ?_
          refine sw_icmp_gt (pc := 48) (tgt := 83) hc dX7_plan_48 (by decide) (fun c_3 => ?_) (fun c_3 => ?_)
          ·
            have c_3' := Int32.not_le.mpr c_3
            refine sw_iconst (pc := 83) (v := 1) hc dX7_plan_83 (by decide) ?_
            refine sw_goto (pc := 84) (tgt := 88) hc dX7_plan_84 (by decide) ?_
            refine sw_istore (pc := 88) hc dX7_plan_88 (by decide) (lv' := [(5, .int 1), (0, .ref (ad 0 0)), (1, .int x), (2, .int (nI (2 ^ iN (σ 30 0)))), (3, .int (nI (cPl σ x (iN (σ 30 0)) u))), (4, .int (nI u))]) rfl ?_
            refine sw_iload (pc := 90) hc dX7_plan_90 0 rfl ?_
            refine sw_if_eq (pc := 92) (tgt := 109) hc dX7_plan_92 (by decide) (fun c_4 => ?_) (fun c_4 => ?_)
            ·
              exact absurd c_4 (by decide)
            ·
              refine sw_aload_n (pc := 95) hc dX7_plan_95 rfl 1 rfl ?_
              refine sw_get (pc := 96) (v := .ref (ad 18 0)) hc fl_RX7_35 (hQy.at ct0) rfl dX7_plan_96 ?_
              refine sw_iload (pc := 99) hc dX7_plan_99 5 rfl ?_
              refine sw_iald (pc := 101) (j := u) hc (show Cy (ad 18 0) = some (sg_ia g 1024 cs) from hQy.at ct18) rfl (by omega) (by decide) dX7_plan_101 ?_
              refine sw_iload_n (pc := 102) hc dX7_plan_102 rfl 2 rfl ?_
              refine sw_icmp_gt (pc := 103) (tgt := 109) hc dX7_plan_103 (by decide) (fun c_5 => ?_) (fun c_5 => ?_)
              ·
                have c_5' := Int32.not_le.mpr c_5
                have hst : cPl σ x (iN (σ 30 0)) (u + 1) = cPl σ x (iN (σ 30 0)) u := if_neg (fun q => absurd q.2 (by rw [← hts.1]; exact Int32.not_le.mpr c_5))
                refine sw_sub (ks := [0, 1, 2, 3, 4, 5]) (lv' := [(5, .int 1), (0, .ref (ad 0 0)), (1, .int x), (2, .int (nI (2 ^ iN (σ 30 0)))), (3, .int (nI (cPl σ x (iN (σ 30 0)) (u + 1)))), (4, .int (nI u))]) (congrArg (fun zq => ([(5, .int 1), (0, .ref (ad 0 0)), (1, .int x), (2, .int (nI (2 ^ iN (σ 30 0)))), (3, .int (nI zq)), (4, .int (nI u))] : List (Nat × Value))) hst.symm) ?_
                refine sw_iinc (pc := 109) (v := nI (u + 1)) (lv' := [(4, .int (nI (u + 1))), (5, .int 1), (0, .ref (ad 0 0)), (1, .int x), (2, .int (nI (2 ^ iN (σ 30 0)))), (3, .int (nI (cPl σ x (iN (σ 30 0)) (u + 1))))]) hc dX7_plan_109 (k := 5) rfl (nI_1 _) (by decide) rfl ?_
                refine sw_goto (pc := 112) (tgt := 21) hc dX7_plan_112 (by decide) ?_
                have h_6 : (u + 1) ≤ 2 ^ iN (σ 30 0) ∧ 1 ≤ (u + 1) := by have := Nat.two_pow_pos (iN (σ 30 0)); omega
                have h_7 : 0 ≤ x ∧ x ≤ 10000 := by exact ho1
                have h_8 : Pic g ad own (gh.1, cs, gs) σ Cy := by exact hQy
                have h_9 : Frm own own C Cy := by exact hFy
                have h_10 : ∀ s, s < 2 ^ iN (σ 30 0) → cs s = pC σ s (iN (σ 30 0)) ∧ gs s = pG σ s (iN (σ 30 0)) := by exact hT
                have h_11 : 2 ^ iN (σ 30 0) ≤ 1024 := by exact hp1
                have h_12 : 2 ^ iN (σ 30 0) - (u + 1) < n21 := by omega
                exact sw_sub (ks := [2, 3, 4, 5, 0]) rfl (ih21 (u + 1) Cy cs gs h_12 h_6 h_7 h_8 h_9 h_10 h_11)
              ·
                have c_5' := Int32.not_lt.mp c_5
                refine sw_iload (pc := 106) hc dX7_plan_106 5 rfl ?_
                refine sw_istore_n (pc := 108) hc dX7_plan_108 rfl (by decide) (lv' := [(3, .int (nI u)), (5, .int 1), (0, .ref (ad 0 0)), (1, .int x), (2, .int (nI (2 ^ iN (σ 30 0)))), (4, .int (nI u))]) rfl ?_
                have hst : cPl σ x (iN (σ 30 0)) (u + 1) = u := if_pos ⟨.inl (by rw [← hts.2, ← htb.2]; exact c_3), by rw [← hts.1]; exact Int32.not_lt.mp c_5⟩
                refine sw_sub (ks := [0, 1, 2, 3, 4, 5]) (lv' := [(3, .int (nI (cPl σ x (iN (σ 30 0)) (u + 1)))), (5, .int 1), (0, .ref (ad 0 0)), (1, .int x), (2, .int (nI (2 ^ iN (σ 30 0)))), (4, .int (nI u))]) (congrArg (fun zq => ([(3, .int (nI zq)), (5, .int 1), (0, .ref (ad 0 0)), (1, .int x), (2, .int (nI (2 ^ iN (σ 30 0)))), (4, .int (nI u))] : List (Nat × Value))) hst.symm) ?_
                refine sw_iinc (pc := 109) (v := nI (u + 1)) (lv' := [(4, .int (nI (u + 1))), (3, .int (nI (cPl σ x (iN (σ 30 0)) (u + 1)))), (5, .int 1), (0, .ref (ad 0 0)), (1, .int x), (2, .int (nI (2 ^ iN (σ 30 0))))]) hc dX7_plan_109 (k := 5) rfl (nI_1 _) (by decide) rfl ?_
                refine sw_goto (pc := 112) (tgt := 21) hc dX7_plan_112 (by decide) ?_
                have h_13 : (u + 1) ≤ 2 ^ iN (σ 30 0) ∧ 1 ≤ (u + 1) := by have := Nat.two_pow_pos (iN (σ 30 0)); omega
                have h_14 : 0 ≤ x ∧ x ≤ 10000 := by exact ho1
                have h_15 : Pic g ad own (gh.1, cs, gs) σ Cy := by exact hQy
                have h_16 : Frm own own C Cy := by exact hFy
                have h_17 : ∀ s, s < 2 ^ iN (σ 30 0) → cs s = pC σ s (iN (σ 30 0)) ∧ gs s = pG σ s (iN (σ 30 0)) := by exact hT
                have h_18 : 2 ^ iN (σ 30 0) ≤ 1024 := by exact hp1
                have h_19 : 2 ^ iN (σ 30 0) - (u + 1) < n21 := by omega
                exact sw_sub (ks := [3, 4, 5, 1, 0]) rfl (ih21 (u + 1) Cy cs gs h_19 h_13 h_14 h_15 h_16 h_17 h_18)
          ·
            have c_3' := Int32.not_lt.mp c_3
            refine sw_aload_n (pc := 51) hc dX7_plan_51 rfl 0 rfl ?_
            refine sw_get (pc := 52) (v := .ref (ad 19 0)) hc fl_RX7_39 (hQy.at ct0) rfl dX7_plan_52 ?_
            refine sw_iload (pc := 55) hc dX7_plan_55 4 rfl ?_
            refine sw_iald (pc := 57) (j := u) hc (show Cy (ad 19 0) = some (sg_ia g 1024 gs) from hQy.at ct19) rfl (by omega) (by decide) dX7_plan_57 ?_
            refine sw_aload_n (pc := 58) hc dX7_plan_58 rfl 0 rfl ?_
            refine sw_get (pc := 59) (v := .ref (ad 19 0)) hc fl_RX7_39 (hQy.at ct0) rfl dX7_plan_59 ?_
            refine sw_iload_n (pc := 62) hc dX7_plan_62 rfl 3 rfl ?_
            refine sw_iald (pc := 63) (j := (cPl σ x (iN (σ 30 0)) u)) hc (show Cy (ad 19 0) = some (sg_ia g 1024 gs) from hQy.at ct19) rfl (by omega) (by decide) dX7_plan_63 ?_
            refine sw_icmp_ne (pc := 64) (tgt := 87) hc dX7_plan_64 (by decide) (fun c_20 => ?_) (fun c_20 => ?_)
            ·
              refine sw_iconst (pc := 87) (v := 0) hc dX7_plan_87 (by decide) ?_
              refine sw_istore (pc := 88) hc dX7_plan_88 (by decide) (lv' := [(5, .int 0), (0, .ref (ad 0 0)), (1, .int x), (2, .int (nI (2 ^ iN (σ 30 0)))), (3, .int (nI (cPl σ x (iN (σ 30 0)) u))), (4, .int (nI u))]) rfl ?_
              refine sw_iload (pc := 90) hc dX7_plan_90 0 rfl ?_
              refine sw_if_eq (pc := 92) (tgt := 109) hc dX7_plan_92 (by decide) (fun c_21 => ?_) (fun c_21 => ?_)
              ·
                have hst : cPl σ x (iN (σ 30 0)) (u + 1) = cPl σ x (iN (σ 30 0)) u := if_neg (fun q => q.1.elim (fun z => c_3 (by rw [hts.2, htb.2]; exact z)) (fun z => c_20 (by rw [hts.2, htb.2]; exact z.1)))
                refine sw_sub (ks := [0, 1, 2, 3, 4, 5]) (lv' := [(5, .int 0), (0, .ref (ad 0 0)), (1, .int x), (2, .int (nI (2 ^ iN (σ 30 0)))), (3, .int (nI (cPl σ x (iN (σ 30 0)) (u + 1)))), (4, .int (nI u))]) (congrArg (fun zq => ([(5, .int 0), (0, .ref (ad 0 0)), (1, .int x), (2, .int (nI (2 ^ iN (σ 30 0)))), (3, .int (nI zq)), (4, .int (nI u))] : List (Nat × Value))) hst.symm) ?_
                refine sw_iinc (pc := 109) (v := nI (u + 1)) (lv' := [(4, .int (nI (u + 1))), (5, .int 0), (0, .ref (ad 0 0)), (1, .int x), (2, .int (nI (2 ^ iN (σ 30 0)))), (3, .int (nI (cPl σ x (iN (σ 30 0)) (u + 1))))]) hc dX7_plan_109 (k := 5) rfl (nI_1 _) (by decide) rfl ?_
                refine sw_goto (pc := 112) (tgt := 21) hc dX7_plan_112 (by decide) ?_
                have h_22 : (u + 1) ≤ 2 ^ iN (σ 30 0) ∧ 1 ≤ (u + 1) := by have := Nat.two_pow_pos (iN (σ 30 0)); omega
                have h_23 : 0 ≤ x ∧ x ≤ 10000 := by exact ho1
                have h_24 : Pic g ad own (gh.1, cs, gs) σ Cy := by exact hQy
                have h_25 : Frm own own C Cy := by exact hFy
                have h_26 : ∀ s, s < 2 ^ iN (σ 30 0) → cs s = pC σ s (iN (σ 30 0)) ∧ gs s = pG σ s (iN (σ 30 0)) := by exact hT
                have h_27 : 2 ^ iN (σ 30 0) ≤ 1024 := by exact hp1
                have h_28 : 2 ^ iN (σ 30 0) - (u + 1) < n21 := by omega
                exact sw_sub (ks := [2, 3, 4, 5, 0]) rfl (ih21 (u + 1) Cy cs gs h_28 h_22 h_23 h_24 h_25 h_26 h_27)
              ·
                exact absurd c_21 (by decide)
            ·
              refine sw_aload_n (pc := 67) hc dX7_plan_67 rfl 0 rfl ?_
              refine sw_get (pc := 68) (v := .ref (ad 18 0)) hc fl_RX7_35 (hQy.at ct0) rfl dX7_plan_68 ?_
              refine sw_iload (pc := 71) hc dX7_plan_71 4 rfl ?_
              refine sw_iald (pc := 73) (j := u) hc (show Cy (ad 18 0) = some (sg_ia g 1024 cs) from hQy.at ct18) rfl (by omega) (by decide) dX7_plan_73 ?_
              refine sw_aload_n (pc := 74) hc dX7_plan_74 rfl 0 rfl ?_
              refine sw_get (pc := 75) (v := .ref (ad 18 0)) hc fl_RX7_35 (hQy.at ct0) rfl dX7_plan_75 ?_
              refine sw_iload_n (pc := 78) hc dX7_plan_78 rfl 3 rfl ?_
              refine sw_iald (pc := 79) (j := (cPl σ x (iN (σ 30 0)) u)) hc (show Cy (ad 18 0) = some (sg_ia g 1024 cs) from hQy.at ct18) rfl (by omega) (by decide) dX7_plan_79 ?_
              refine sw_icmp_ge (pc := 80) (tgt := 87) hc dX7_plan_80 (by decide) (fun c_29 => ?_) (fun c_29 => ?_)
              ·
                have c_29' := Int32.not_lt.mpr c_29
                refine sw_iconst (pc := 87) (v := 0) hc dX7_plan_87 (by decide) ?_
                refine sw_istore (pc := 88) hc dX7_plan_88 (by decide) (lv' := [(5, .int 0), (0, .ref (ad 0 0)), (1, .int x), (2, .int (nI (2 ^ iN (σ 30 0)))), (3, .int (nI (cPl σ x (iN (σ 30 0)) u))), (4, .int (nI u))]) rfl ?_
                refine sw_iload (pc := 90) hc dX7_plan_90 0 rfl ?_
                refine sw_if_eq (pc := 92) (tgt := 109) hc dX7_plan_92 (by decide) (fun c_30 => ?_) (fun c_30 => ?_)
                ·
                  have hst : cPl σ x (iN (σ 30 0)) (u + 1) = cPl σ x (iN (σ 30 0)) u := if_neg (fun q => q.1.elim (fun z => c_3 (by rw [hts.2, htb.2]; exact z)) (fun z => absurd z.2 (by rw [← hts.1, ← htb.1]; exact Int32.not_lt.mpr c_29)))
                  refine sw_sub (ks := [0, 1, 2, 3, 4, 5]) (lv' := [(5, .int 0), (0, .ref (ad 0 0)), (1, .int x), (2, .int (nI (2 ^ iN (σ 30 0)))), (3, .int (nI (cPl σ x (iN (σ 30 0)) (u + 1)))), (4, .int (nI u))]) (congrArg (fun zq => ([(5, .int 0), (0, .ref (ad 0 0)), (1, .int x), (2, .int (nI (2 ^ iN (σ 30 0)))), (3, .int (nI zq)), (4, .int (nI u))] : List (Nat × Value))) hst.symm) ?_
                  refine sw_iinc (pc := 109) (v := nI (u + 1)) (lv' := [(4, .int (nI (u + 1))), (5, .int 0), (0, .ref (ad 0 0)), (1, .int x), (2, .int (nI (2 ^ iN (σ 30 0)))), (3, .int (nI (cPl σ x (iN (σ 30 0)) (u + 1))))]) hc dX7_plan_109 (k := 5) rfl (nI_1 _) (by decide) rfl ?_
                  refine sw_goto (pc := 112) (tgt := 21) hc dX7_plan_112 (by decide) ?_
                  have h_31 : (u + 1) ≤ 2 ^ iN (σ 30 0) ∧ 1 ≤ (u + 1) := by have := Nat.two_pow_pos (iN (σ 30 0)); omega
                  have h_32 : 0 ≤ x ∧ x ≤ 10000 := by exact ho1
                  have h_33 : Pic g ad own (gh.1, cs, gs) σ Cy := by exact hQy
                  have h_34 : Frm own own C Cy := by exact hFy
                  have h_35 : ∀ s, s < 2 ^ iN (σ 30 0) → cs s = pC σ s (iN (σ 30 0)) ∧ gs s = pG σ s (iN (σ 30 0)) := by exact hT
                  have h_36 : 2 ^ iN (σ 30 0) ≤ 1024 := by exact hp1
                  have h_37 : 2 ^ iN (σ 30 0) - (u + 1) < n21 := by omega
                  exact sw_sub (ks := [2, 3, 4, 5, 0]) rfl (ih21 (u + 1) Cy cs gs h_37 h_31 h_32 h_33 h_34 h_35 h_36)
                ·
                  exact absurd c_30 (by decide)
              ·
                have c_29' := Int32.not_le.mp c_29
                refine sw_iconst (pc := 83) (v := 1) hc dX7_plan_83 (by decide) ?_
                refine sw_goto (pc := 84) (tgt := 88) hc dX7_plan_84 (by decide) ?_
                refine sw_istore (pc := 88) hc dX7_plan_88 (by decide) (lv' := [(5, .int 1), (0, .ref (ad 0 0)), (1, .int x), (2, .int (nI (2 ^ iN (σ 30 0)))), (3, .int (nI (cPl σ x (iN (σ 30 0)) u))), (4, .int (nI u))]) rfl ?_
                refine sw_iload (pc := 90) hc dX7_plan_90 0 rfl ?_
                refine sw_if_eq (pc := 92) (tgt := 109) hc dX7_plan_92 (by decide) (fun c_38 => ?_) (fun c_38 => ?_)
                ·
                  exact absurd c_38 (by decide)
                ·
                  refine sw_aload_n (pc := 95) hc dX7_plan_95 rfl 1 rfl ?_
                  refine sw_get (pc := 96) (v := .ref (ad 18 0)) hc fl_RX7_35 (hQy.at ct0) rfl dX7_plan_96 ?_
                  refine sw_iload (pc := 99) hc dX7_plan_99 5 rfl ?_
                  refine sw_iald (pc := 101) (j := u) hc (show Cy (ad 18 0) = some (sg_ia g 1024 cs) from hQy.at ct18) rfl (by omega) (by decide) dX7_plan_101 ?_
                  refine sw_iload_n (pc := 102) hc dX7_plan_102 rfl 2 rfl ?_
                  refine sw_icmp_gt (pc := 103) (tgt := 109) hc dX7_plan_103 (by decide) (fun c_39 => ?_) (fun c_39 => ?_)
                  ·
                    have c_39' := Int32.not_le.mpr c_39
                    have hst : cPl σ x (iN (σ 30 0)) (u + 1) = cPl σ x (iN (σ 30 0)) u := if_neg (fun q => absurd q.2 (by rw [← hts.1]; exact Int32.not_le.mpr c_39))
                    refine sw_sub (ks := [0, 1, 2, 3, 4, 5]) (lv' := [(5, .int 1), (0, .ref (ad 0 0)), (1, .int x), (2, .int (nI (2 ^ iN (σ 30 0)))), (3, .int (nI (cPl σ x (iN (σ 30 0)) (u + 1)))), (4, .int (nI u))]) (congrArg (fun zq => ([(5, .int 1), (0, .ref (ad 0 0)), (1, .int x), (2, .int (nI (2 ^ iN (σ 30 0)))), (3, .int (nI zq)), (4, .int (nI u))] : List (Nat × Value))) hst.symm) ?_
                    refine sw_iinc (pc := 109) (v := nI (u + 1)) (lv' := [(4, .int (nI (u + 1))), (5, .int 1), (0, .ref (ad 0 0)), (1, .int x), (2, .int (nI (2 ^ iN (σ 30 0)))), (3, .int (nI (cPl σ x (iN (σ 30 0)) (u + 1))))]) hc dX7_plan_109 (k := 5) rfl (nI_1 _) (by decide) rfl ?_
                    refine sw_goto (pc := 112) (tgt := 21) hc dX7_plan_112 (by decide) ?_
                    have h_40 : (u + 1) ≤ 2 ^ iN (σ 30 0) ∧ 1 ≤ (u + 1) := by have := Nat.two_pow_pos (iN (σ 30 0)); omega
                    have h_41 : 0 ≤ x ∧ x ≤ 10000 := by exact ho1
                    have h_42 : Pic g ad own (gh.1, cs, gs) σ Cy := by exact hQy
                    have h_43 : Frm own own C Cy := by exact hFy
                    have h_44 : ∀ s, s < 2 ^ iN (σ 30 0) → cs s = pC σ s (iN (σ 30 0)) ∧ gs s = pG σ s (iN (σ 30 0)) := by exact hT
                    have h_45 : 2 ^ iN (σ 30 0) ≤ 1024 := by exact hp1
                    have h_46 : 2 ^ iN (σ 30 0) - (u + 1) < n21 := by omega
                    exact sw_sub (ks := [2, 3, 4, 5, 0]) rfl (ih21 (u + 1) Cy cs gs h_46 h_40 h_41 h_42 h_43 h_44 h_45)
                  ·
                    have c_39' := Int32.not_lt.mp c_39
                    refine sw_iload (pc := 106) hc dX7_plan_106 5 rfl ?_
                    refine sw_istore_n (pc := 108) hc dX7_plan_108 rfl (by decide) (lv' := [(3, .int (nI u)), (5, .int 1), (0, .ref (ad 0 0)), (1, .int x), (2, .int (nI (2 ^ iN (σ 30 0)))), (4, .int (nI u))]) rfl ?_
                    have hst : cPl σ x (iN (σ 30 0)) (u + 1) = u := if_pos ⟨.inr ⟨by rw [← hts.2, ← htb.2]; exact c_20, by rw [← hts.1, ← htb.1]; exact Int32.not_le.mp c_29⟩, by rw [← hts.1]; exact Int32.not_lt.mp c_39⟩
                    refine sw_sub (ks := [0, 1, 2, 3, 4, 5]) (lv' := [(3, .int (nI (cPl σ x (iN (σ 30 0)) (u + 1)))), (5, .int 1), (0, .ref (ad 0 0)), (1, .int x), (2, .int (nI (2 ^ iN (σ 30 0)))), (4, .int (nI u))]) (congrArg (fun zq => ([(3, .int (nI zq)), (5, .int 1), (0, .ref (ad 0 0)), (1, .int x), (2, .int (nI (2 ^ iN (σ 30 0)))), (4, .int (nI u))] : List (Nat × Value))) hst.symm) ?_
                    refine sw_iinc (pc := 109) (v := nI (u + 1)) (lv' := [(4, .int (nI (u + 1))), (3, .int (nI (cPl σ x (iN (σ 30 0)) (u + 1)))), (5, .int 1), (0, .ref (ad 0 0)), (1, .int x), (2, .int (nI (2 ^ iN (σ 30 0))))]) hc dX7_plan_109 (k := 5) rfl (nI_1 _) (by decide) rfl ?_
                    refine sw_goto (pc := 112) (tgt := 21) hc dX7_plan_112 (by decide) ?_
                    have h_47 : (u + 1) ≤ 2 ^ iN (σ 30 0) ∧ 1 ≤ (u + 1) := by have := Nat.two_pow_pos (iN (σ 30 0)); omega
                    have h_48 : 0 ≤ x ∧ x ≤ 10000 := by exact ho1
                    have h_49 : Pic g ad own (gh.1, cs, gs) σ Cy := by exact hQy
                    have h_50 : Frm own own C Cy := by exact hFy
                    have h_51 : ∀ s, s < 2 ^ iN (σ 30 0) → cs s = pC σ s (iN (σ 30 0)) ∧ gs s = pG σ s (iN (σ 30 0)) := by exact hT
                    have h_52 : 2 ^ iN (σ 30 0) ≤ 1024 := by exact hp1
                    have h_53 : 2 ^ iN (σ 30 0) - (u + 1) < n21 := by omega
                    exact sw_sub (ks := [3, 4, 5, 1, 0]) rfl (ih21 (u + 1) Cy cs gs h_53 h_47 h_48 h_49 h_50 h_51 h_52)
  refine sw_iload_n (pc := 0) hc dX7_plan_0 rfl 1 rfl ?_
  refine sw_iconst (pc := 1) (v := 0) hc dX7_plan_1 (by decide) ?_
  refine sw_sipush (pc := 2) (v := 10000) hc dX7_plan_2 (by decide) ?_
  refine sw_callS (pc := 5) (rest := []) hc (c_X7_isWithin l g C x 0 10000 ) md_X7_isWithin ml_RX7_68 st_X7_isWithin rfl rfl (Nat.le_of_ble_eq_true rfl) dX7_plan_5 ⟨Nat.le_of_ble_eq_true rfl, Nat.le_of_ble_eq_true rfl, Nat.le_of_ble_eq_true rfl, Nat.le_of_ble_eq_true rfl⟩ (fun v C' hP => ?_) (fun _ _ h => h.elim)
  obtain ⟨rfl, hCC⟩ := hP
  refine sw_eq (C' := C) hCC ?_
  refine sw_st (st' := [.int (bI (0 ≤ x ∧ x ≤ 10000))]) rfl ?_
  refine sw_callS (pc := 8) (rest := []) hc (c_X7_requireArgument l g C (bI (0 ≤ x ∧ x ≤ 10000)) hst) md_X7_requireArgument ml_RX7_77 st_X7_requireArgument rfl rfl (Nat.le_of_ble_eq_true rfl) dX7_plan_8 ⟨Nat.le_of_ble_eq_true rfl, Nat.le_of_ble_eq_true rfl, Nat.le_of_ble_eq_true rfl, Nat.le_of_ble_eq_true rfl⟩ (fun v C' hP => ?_) (fun E C' hX => sx_out htb hlk (⟨⟨hX.1, if_neg (bI_0 hX.2.1)⟩, by rw [hX.2.2]; exact PH.q hQ hW hg (f42 _)⟩) (Nat.le_of_ble_eq_true rfl) (Nat.le_of_ble_eq_true rfl))
  obtain ⟨rfl, o_54, hCC⟩ := hP
  refine sw_eq (C' := C) hCC ?_
  refine sw_st (st' := []) rfl ?_
  refine sw_aload_n (pc := 11) hc dX7_plan_11 rfl 0 rfl ?_
  refine sw_callV (pc := 12) (rest := []) hc (c_X7_fillSets l g C ad own gh σ hQ hW hg) md_X7_fillSets ml_RX7_296 im_X7_fillSets sl_X7_fillSets (hQ.at ct0) rfl rfl rfl (Nat.le_of_ble_eq_true rfl) dX7_plan_12 ⟨Nat.le_of_ble_eq_true rfl, Nat.le_of_ble_eq_true rfl, Nat.le_of_ble_eq_true rfl, Nat.le_of_ble_eq_true rfl⟩ (fun v Cz5 hP => ?_) (fun _ _ h => h.elim)
  obtain ⟨rfl, cs, gs, hQz, hFz, hT⟩ := hP
  refine sw_st (st' := [.int (nI (2 ^ iN (σ 30 0)))]) rfl ?_
  refine sw_istore_n (pc := 15) hc dX7_plan_15 rfl (by decide) (lv' := [(2, .int (nI (2 ^ iN (σ 30 0)))), (0, .ref (ad 0 0)), (1, .int x)]) rfl ?_
  refine sw_iconst (pc := 16) (v := 0) hc dX7_plan_16 (by decide) ?_
  refine sw_st (st' := [.int (nI (cPl σ x (iN (σ 30 0)) 1))]) (congrArg (fun z => ([.int z] : List Value)) ((congrArg nI (Nat.le_zero.mp (cPl_lt (σ := σ) x (iN (σ 30 0)) 0)).symm) : 0 = nI (cPl σ x (iN (σ 30 0)) 1))) ?_
  refine sw_istore_n (pc := 17) hc dX7_plan_17 rfl (by decide) (lv' := [(3, .int (nI (cPl σ x (iN (σ 30 0)) 1))), (2, .int (nI (2 ^ iN (σ 30 0)))), (0, .ref (ad 0 0)), (1, .int x)]) rfl ?_
  refine sw_iconst (pc := 18) (v := 1) hc dX7_plan_18 (by decide) ?_
  refine sw_st (st' := [.int (nI 1)]) (congrArg (fun z => ([.int z] : List Value)) (rfl : 1 = nI 1)) ?_
  refine sw_istore (pc := 19) hc dX7_plan_19 (by decide) (lv' := [(4, .int (nI 1)), (3, .int (nI (cPl σ x (iN (σ 30 0)) 1))), (2, .int (nI (2 ^ iN (σ 30 0)))), (0, .ref (ad 0 0)), (1, .int x)]) rfl ?_
  have h_55 : 1 ≤ 2 ^ iN (σ 30 0) ∧ 1 ≤ 1 := by have := Nat.two_pow_pos (iN (σ 30 0)); omega
  have h_56 : 0 ≤ x ∧ x ≤ 10000 := by exact bI_n o_54
  have h_57 : Pic g ad own (gh.1, cs, gs) σ Cz5 := by exact hQz
  have h_58 : Frm own own C Cz5 := by exact hFz
  have h_59 : ∀ s, s < 2 ^ iN (σ 30 0) → cs s = pC σ s (iN (σ 30 0)) ∧ gs s = pG σ s (iN (σ 30 0)) := by exact hT
  have h_60 : 2 ^ iN (σ 30 0) ≤ 1024 := by exact (Nat.pow_le_pow_right (i := iN (σ 30 0)) (j := 10) (n := 2) (by decide) (by have := hW.1.2.2.2.2.1.2; omega))
  exact sw_sub (ks := [3, 4, 2, 1, 0]) rfl (K_21 _ 1 Cz5 cs gs (Nat.lt_succ_self _) h_55 h_56 h_57 h_58 h_59 h_60)
