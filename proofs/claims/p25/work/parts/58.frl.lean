/-! what the reference answers is of the rows below 32 alone -/
theorem ite_c {α : Type} {P Q : Prop} [Decidable P] [Decidable Q] {a a' b b' : α} (h : P ↔ Q) (ha : a = a') (hb : b = b') : (if P then a else b) = (if Q then a' else b') := by
  subst ha
  subst hb
  by_cases q : P
  · rw [if_pos q, if_pos (h.mp q)]
  · rw [if_neg q, if_neg (fun z => q (h.mpr z))]
section FRL
variable {σ τ : Mem}
theorem rAhd_fr (hF : rFr σ τ) (a b : Nat) : rAhd τ a b ↔ rAhd σ a b := by
  unfold rAhd
  rw [hF 22 (by decide), hF 20 (by decide)]
theorem rRef_fr (hF : rFr σ τ) (k : Nat) : rRef τ k ↔ rRef σ k := by
  show (0 ≤ rLawI τ k ∧ (0 < τ 25 k &&& τ 13 (iN (rLawI τ k)) ∨ τ 23 k < τ 14 (iN (rLawI τ k)) ∨ τ 15 (iN (rLawI τ k)) < τ 24 k)) ↔ (0 ≤ rLawI σ k ∧ (0 < σ 25 k &&& σ 13 (iN (rLawI σ k)) ∨ σ 23 k < σ 14 (iN (rLawI σ k)) ∨ σ 15 (iN (rLawI σ k)) < σ 24 k))
  rw [rLawI_fr hF, hF 25 (by decide), hF 13 (by decide), hF 23 (by decide), hF 14 (by decide), hF 15 (by decide), hF 24 (by decide)]
theorem rCnt_fr2 (hF : rFr σ τ) (k : Nat) : rCnt τ k ↔ rCnt σ k := by
  show (τ 21 k = 0 ∧ ¬ rRef τ k) ↔ (σ 21 k = 0 ∧ ¬ rRef σ k)
  rw [hF 21 (by decide), rRef_fr hF]
theorem rTop_fr (hF : rFr σ τ) (x y w : Int32) : ∀ n, rTop τ x y w n = rTop σ x y w n
  | 0 => rfl
  | n + 1 => by
    have ih := rTop_fr hF x y w n
    refine ite_c ?_ rfl ih
    rw [ih, rCnt_fr2 hF, rAhd_fr hF, hF 19 (by decide), hF 18 (by decide)]
theorem rTopN_fr (hF : rFr σ τ) (x y w : Int32) : rTopN τ x y w = rTopN σ x y w := by
  unfold rTopN
  rw [rTop_fr hF, hF 26 (by decide)]
theorem rSpotL_fr (hF : rFr σ τ) (x w o : Int32) : ∀ n, rSpotL τ x w o n = rSpotL σ x w o n
  | 0 => rfl
  | n + 1 => by
    show rSpotL τ x w o n + (if _ then _ else _) = rSpotL σ x w o n + (if _ then _ else _)
    rw [rSpotL_fr hF x w o n]
    refine congrArg _ (ite_c ?_ rfl rfl)
    show (0 ≤ o ∧ 0 ≤ rTopN τ x (nI n) w ∧ τ 22 (iN (rTopN τ x (nI n) w)) < τ 22 (iN o)) ↔ (0 ≤ o ∧ 0 ≤ rTopN σ x (nI n) w ∧ σ 22 (iN (rTopN σ x (nI n) w)) < σ 22 (iN o))
    rw [rTopN_fr hF, hF 22 (by decide)]
theorem rSpot_fr (hF : rFr σ τ) (x y w : Int32) : rSpot τ x y w = rSpot σ x y w := by
  unfold rSpot
  rw [rTopN_fr hF, rSpotL_fr hF]
theorem rAtB_fr (hF : rFr σ τ) (x o : Int32) : ∀ n, rAtB τ x o n = rAtB σ x o n
  | 0 => rfl
  | n + 1 => by
    show rAtB τ x o n + (if _ then _ else _) = rAtB σ x o n + (if _ then _ else _)
    rw [rAtB_fr hF x o n]
    refine congrArg _ (ite_c ?_ rfl rfl)
    rw [rTopN_fr hF, rAhd_fr hF]
theorem rBef_fr (hF : rFr σ τ) (x o : Int32) : rBef τ x o = rBef σ x o := by
  unfold rBef
  rw [rAtB_fr hF]
theorem rAtF_fr (hF : rFr σ τ) (x z : Int32) : ∀ n, rAtF τ x z n = rAtF σ x z n
  | 0 => rfl
  | n + 1 => by
    refine ite_c ?_ (rTopN_fr hF _ _ _) (rAtF_fr hF x z n)
    rw [rTopN_fr hF, rBef_fr hF]
theorem rGs_fr (hF : rFr σ τ) (x y : Int32) : ∀ n a, rGs τ x y n a = rGs σ x y n a
  | 0, _ => rfl
  | n + 1, a => by
    have e : (if τ 19 n = x ∧ τ 18 n = y ∧ rCnt τ n then (a.1 + τ 22 n, a.2 + 1) else a) = (if σ 19 n = x ∧ σ 18 n = y ∧ rCnt σ n then (a.1 + σ 22 n, a.2 + 1) else a) := by
      refine ite_c ?_ (by rw [hF 22 (by decide)]) rfl
      rw [rCnt_fr2 hF, hF 19 (by decide), hF 18 (by decide)]
    refine ite_c Iff.rfl ?_ rfl
    rw [e]
    exact rGs_fr hF x y n _
theorem rGuess_fr (hF : rFr σ τ) (x y : Int32) : rGuess τ x y = rGuess σ x y := by
  unfold rGuess rGsN
  rw [rGs_fr hF, hF 26 (by decide)]
theorem rPl1_fr (hF : rFr σ τ) (s : Nat) : ∀ n, rPl1 τ s n = rPl1 σ s n
  | 0 => rfl
  | n + 1 => by
    have ih := rPl1_fr hF s n
    refine ite_c Iff.rfl ?_ ih
    rw [ih, hF 29 (by decide), hF 27 (by decide), hF 28 (by decide), rGuess_fr hF]
theorem rPl2_fr (hF : rFr σ τ) (r : Int32) (O : Nat) : ∀ n, rPl2 τ r O n = rPl2 σ r O n
  | 0 => rfl
  | n + 1 => by
    have ih := rPl2_fr hF r O n
    refine ite_c ?_ ?_ ih
    · rw [ih, rPl1_fr hF]
    · rw [rPl1_fr hF]
theorem kIn_y {k : Nat} {x : Int32} (h : rIn σ k x) : ¬ 0 < kIn σ k x := by rw [show kIn σ k x = 0 from if_pos h]; decide
theorem kPair_y {x y : Int32} (h : rPair σ x y) : ¬ 0 < kPair σ x y := by rw [show kPair σ x y = 0 from if_pos h]; decide
theorem f42 (v : Int32) : rFr σ (st2 σ 42 0 v) := rFr.rf.st2 (by decide)
theorem fr_result (σ : Mem) (x : Int32) : rFr σ (fResult σ x) := by
  unfold fResult
  split
  · exact f42 _
  · exact (f42 _).tr rRun_k.1
theorem vResult_c {x : Int32} (hW : WX σ) (h : rIn σ 9 x) : vResult σ x = 10 * heroR σ (iN x) 10 + heroR σ (iN x) 11 := by
  unfold vResult
  rw [if_neg (kIn_y h), heroR_fr (r := iN x) hW (f42 (kIn σ 9 x))]
  rfl
theorem vUsed_c {x : Int32} (hW : WX σ) (h : rIn σ 9 x) : vUsed σ x = 10000 * heroR σ (iN x) 7 + 10 * heroR σ (iN x) 8 + heroR σ (iN x) 9 := by
  unfold vUsed
  rw [if_neg (kIn_y h), heroR_fr (r := iN x) hW (f42 (kIn σ 9 x))]
  rfl
/-- a hero's run up to a tick -/
def heroT (σ : Mem) (r : Nat) (t : Int32) : Her := hOf (rOut σ r t (iN (σ 4 r)))
theorem heroT_fr {r T : Nat} (hW : WX σ) (hF : rFr σ τ) (hT : T ≤ 500) : heroT σ r (nI T) = heroT τ r (nI T) := by
  have e4 : τ 4 = σ 4 := hF 4 (by decide)
  unfold heroT
  rw [e4]
  exact rOut_hOf hT hW.i8 (by rw [hF 8 (by decide)]; exact hW.i8) (by rw [hF 3 (by decide)])
    (by unfold lvG; rw [hF 0 (by decide)]) (by unfold lvF; rw [hF 0 (by decide)]) (by unfold lvI; rw [hF 1 (by decide)]) (Nat.le_refl _) (by rw [e4]; exact Nat.le_refl _) (hW.p20 r) (by rw [e4]; exact hW.p20 r)
    (fun i _ => ⟨by rw [hF 7 (by decide)], by rw [hF 8 (by decide)]⟩)
theorem rIn_fr {k : Nat} {x : Int32} (hF : rFr σ τ) (hk : k < 32) : rIn τ k x ↔ rIn σ k x := by
  show (0 ≤ x ∧ x ≤ τ k 0 - 1) ↔ (0 ≤ x ∧ x ≤ σ k 0 - 1)
  rw [hF k hk]
theorem rWh_40 {x : Int32} (h : rIn σ 9 x) : rWh σ x 40 0 = heroR σ (iN x) 10 := by
  unfold rWh
  rw [if_pos h]
  rfl
theorem kWhere_y {x t : Int32} (h : rIn σ 9 x) (ht : 0 ≤ t ∧ t ≤ heroR σ (iN x) 10) : kWhere σ x t = 0 := if_pos ⟨(rIn_fr (rWh_fr σ x) (by decide)).mpr h, by rw [rWh_40 h]; exact ht⟩
theorem kWhere_n1 {x t : Int32} (h : ¬ rIn σ 9 x) : kWhere σ x t = 1 := if_neg fun q => h ((rIn_fr (rWh_fr σ x) (by decide)).mp q.1)
theorem kWhere_n2 {x t : Int32} (h : rIn σ 9 x) (ht : ¬ (0 ≤ t ∧ t ≤ heroR σ (iN x) 10)) : kWhere σ x t = 1 := if_neg fun q => ht (by rw [← rWh_40 h]; exact q.2)
theorem fr_where (σ : Mem) (x t : Int32) : rFr σ (fWhere σ x t) := by
  unfold fWhere
  split
  · exact (rWh_fr σ x).tr (f42 _)
  · exact ((rWh_fr σ x).tr (f42 _)).tr rRun_k.1
theorem vWhere_c {x : Int32} {T : Nat} (hW : WX σ) (h : rIn σ 9 x) (ht : 0 ≤ nI T ∧ nI T ≤ heroR σ (iN x) 10) (hT : T ≤ 500) : vWhere σ x (nI T) = 1000 * heroT σ (iN x) (nI T) 1 + heroT σ (iN x) (nI T) 0 := by
  unfold vWhere
  rw [kWhere_y h ht, if_neg (by decide), heroT_fr (r := iN x) hW ((rWh_fr σ x).tr (f42 (σ := rWh σ x) 0)) hT]
  rfl
theorem vJudged_c {x : Int32} (h : rIn σ 26 x) : vJudged σ x = bI (rRef σ (iN x)) + 2 * σ 21 (iN x) := by
  unfold vJudged
  rw [if_neg (kIn_y h)]
  refine congrArg (fun z => z + 2 * σ 21 (iN x)) (ite_c ?_ rfl rfl)
  exact rRef_fr (f42 _) _
theorem vBest2_c {x y : Int32} (h : rPair σ x y) : vBest2 σ x y = rTopN σ x y (-1) := by
  unfold vBest2
  rw [if_neg (kPair_y h)]
  exact rTopN_fr (f42 _) _ _ _
theorem vPlace_c {x y : Int32} (h : rPair σ x y) : vPlace σ x y = rSpot σ x y (-1) := by
  unfold vPlace
  rw [if_neg (kPair_y h)]
  exact rSpot_fr (f42 _) _ _ _
theorem vPlaceW_c {x : Int32} (h : rIn σ 26 x) : vPlaceW σ x = rSpot σ (σ 19 (iN x)) (σ 18 (iN x)) x := by
  unfold vPlaceW
  rw [if_neg (kIn_y h)]
  exact rSpot_fr (f42 _) _ _ _
theorem vEst_c {x y : Int32} (h : rPair σ x y) : vEst σ x y = rGuess σ x y := by
  unfold vEst
  rw [if_neg (kPair_y h)]
  exact rGuess_fr (f42 _) _ _
/-- the best run of a runner, found by running all once more: as the class does -/
def cBA (σ : Mem) (x y : Int32) : Nat → Int32 × Int32
  | 0 => (-1, 0)
  | k + 1 => if (σ 19 k = x ∧ σ 18 k = y ∧ rCnt σ k) ∧ ((cBA σ x y k).1 = -1 ∨ σ 22 k < (cBA σ x y k).2) then (nI k, σ 22 k) else cBA σ x y k
theorem cBA_v (σ : Mem) (x y : Int32) : ∀ n, (cBA σ x y n).1 = -1 ∨ ∃ j, j < n ∧ (cBA σ x y n).1 = nI j
  | 0 => .inl rfl
  | n + 1 => by
    unfold cBA
    split
    · exact .inr ⟨n, Nat.lt_succ_self n, rfl⟩
    · rcases cBA_v σ x y n with h | ⟨j, h1, h2⟩
      · exact .inl h
      · exact .inr ⟨j, Nat.lt_succ_of_lt h1, h2⟩
theorem cBA_r (hW : WX σ) (hF : rFr σ τ) (x y : Int32) : ∀ n, n ≤ iN (σ 26 0) → n ≤ 40 → (rBA τ x y n).2 = cBA σ x y n
  | 0, _, _ => rfl
  | n + 1, hn, h40 => by
    have ih := cBA_r hW hF x y n (by omega) (by omega)
    have h40u : rRun (rBA τ x y n).1 (iN (τ 17 n)) 500 40 0 = σ 22 n := by
      have e := heroR_fr (r := iN (σ 17 n)) hW (hF.tr (rBA_fr (σ := τ) (x := x) (y := y) (k := n)))
      rw [hF 17 (by decide), (hW.run (by omega)).2.1, e]
      rfl
    by_cases q : σ 19 n = x ∧ σ 18 n = y ∧ rCnt σ n
    · have q2 : τ 19 n = x ∧ τ 18 n = y ∧ rCnt τ n := by
        rw [hF 19 (by decide), hF 18 (by decide), rCnt_fr2 hF]
        exact q
      have e1 : (rBA τ x y (n + 1)).2 = ((if (rBA τ x y n).2.1 < 0 ∨ rRun (rBA τ x y n).1 (iN (τ 17 n)) 500 40 0 < (rBA τ x y n).2.2 then nI n else (rBA τ x y n).2.1), (if (if (rBA τ x y n).2.1 < 0 ∨ rRun (rBA τ x y n).1 (iN (τ 17 n)) 500 40 0 < (rBA τ x y n).2.2 then nI n else (rBA τ x y n).2.1) = nI n then rRun (rBA τ x y n).1 (iN (τ 17 n)) 500 40 0 else (rBA τ x y n).2.2)) := by
        rw [rBA, if_pos q2]
      rw [e1, h40u, ih]
      have hs : (cBA σ x y n).1 < 0 ↔ (cBA σ x y n).1 = -1 := by
        rcases cBA_v σ x y n with h | ⟨j, h1, h2⟩
        · rw [h]; exact ⟨fun _ => rfl, fun _ => by decide⟩
        · rw [h2]
          exact ⟨fun z => absurd z (nI_pos (by omega)), fun z => absurd (show nI j < 0 by rw [z]; decide) (nI_pos (by omega))⟩
      by_cases q3 : (cBA σ x y n).1 = -1 ∨ σ 22 n < (cBA σ x y n).2
      · have q4 : (cBA σ x y n).1 < 0 ∨ σ 22 n < (cBA σ x y n).2 := q3.imp hs.mpr id
        rw [if_pos q4, if_pos rfl, show cBA σ x y (n + 1) = (nI n, σ 22 n) from if_pos ⟨q, q3⟩]
      · have q4 : ¬ ((cBA σ x y n).1 < 0 ∨ σ 22 n < (cBA σ x y n).2) := fun z => q3 (z.imp hs.mp id)
        have q5 : ¬ (cBA σ x y n).1 = nI n := by
          rcases cBA_v σ x y n with h | ⟨j, h1, h2⟩
          · exact absurd (.inl h) q3
          · rw [h2]
            exact fun z => absurd ((nI_eq (by omega) (by omega)).mp z) (by omega)
        rw [if_neg q4, if_neg q5, show cBA σ x y (n + 1) = cBA σ x y n from if_neg (fun z => q3 z.2)]
    · have q2 : ¬ (τ 19 n = x ∧ τ 18 n = y ∧ rCnt τ n) := by
        rw [hF 19 (by decide), hF 18 (by decide), rCnt_fr2 hF]
        exact q
      rw [rBA, if_neg q2, ih, show cBA σ x y (n + 1) = cBA σ x y n from if_neg (fun z => q z.1)]
theorem vBA_c {x y : Int32} (hW : WX σ) (h : rPair σ x y) : vBestAnew σ x y = (cBA σ x y (iN (σ 26 0))).1 := by
  unfold vBestAnew
  rw [if_neg (kPair_y h)]
  exact congrArg Prod.fst (cBA_r hW (f42 _) x y _ (Nat.le_refl _) (by have := hW.b3; have h9 : lsN σ 3 = iN (σ 26 0) := rfl; omega))
theorem fr_BA (σ : Mem) (x y : Int32) : rFr σ (fBestAnew σ x y) := by
  unfold fBestAnew
  split
  · exact f42 _
  · exact (f42 _).tr rBA_fr
end FRL
/-! a hero that the gate keeps, run once more -/
section AGN
variable {g : sg_G} {ad : Ad} {own : Nat → Option (Nat × Nat)} {gh : Gh} {σ : Mem} {C : Nat → Option va_E}
theorem ct7n {k : Nat} (hW : WX σ) (h : k < iN (σ 9 0)) : cont g ad gh σ 7 k = some (.inr (5, [.ref (ad 3 (iN (σ 3 k))), .ref (ad 8 k), .ref (ad 9 k), .ref (ad 10 k), .int (nI (iN (σ 4 k))), .int (σ 5 k), .int (σ 6 k)])) := by
  rw [← (hW.1.2.2.2.2.2.2.1 k).1]
  exact ct7 h
theorem c_againT (l : Launch) (hQ : Pic g ad own gh σ C) (hW : WX σ) {r T : Nat} (hr : r < iN (σ 9 0)) (hT : T ≤ 500) : sg_Met l yX4_runAgain cX4_runAgain 4 none 4 96 0 0 g [.ref (ad 7 r), .ref (ad 17 0), .int (nI T)] C (fun v C' => v = none ∧ C' = sg_ov C [(ad 17 0, .inr (2, hfs (heroT σ r (nI T))))]) sg_no := by
  have h := c_X4_runAgain l g C (ad 7 r) (ad 17 0) (nI T) (ad 3 (iN (σ 3 r))) (ad 8 r) (ad 9 r) (ad 10 r) (σ 5 r) (σ 6 r) (rpB σ r) (rpT σ r) gh.1 (ad 4 (iN (σ 3 r))) (ad 5 (iN (σ 3 r))) (ad 6 (iN (σ 3 r))) (lvG σ (iN (σ 3 r))) (lvF σ (iN (σ 3 r))) (lvI σ (iN (σ 3 r))) (iN (σ 4 r))
    (hQ.at (ct7n hW hr)) (hQ.at (ct8 hr)) (hQ.at (ct9 hr)) (hQ.at ct17) (hQ.at (ct3 (hW.wl hr))) (hQ.at (ct4 (hW.wl hr))) (hQ.at (ct5 (hW.wl hr))) (hQ.at (ct6 (hW.wl hr))) (hW.p20 r)
  rw [agn_T hW hT] at h
  exact h
theorem c_againR (l : Launch) (hQ : Pic g ad own gh σ C) (hW : WX σ) {r : Nat} (hr : r < iN (σ 9 0)) : sg_Met l yX4_runAgain cX4_runAgain 4 none 4 96 0 0 g [.ref (ad 7 r), .ref (ad 17 0), .int 500] C (fun v C' => v = none ∧ C' = sg_ov C [(ad 17 0, .inr (2, hfs (heroR σ r)))]) sg_no := c_againT l hQ hW hr (T := 500) (Nat.le_refl _)
end AGN
