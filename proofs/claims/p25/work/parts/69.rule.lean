section GROWD
variable {g : sg_G} {ad : Ad} {own : Nat → Option (Nat × Nat)} {gh : Gh} {σ τ : Mem} {C : Nat → Option va_E} {x y z : Int32} {a k c r n : Nat}
variable {d f pu j : Int32}
theorem rl12 (i : Nat) : oRule σ x d f pu j 12 i = if i = 10 * iN x + iN (σ 11 (iN x)) then d else σ 12 i := cond_beq i (10 * iN x + iN (σ 11 (iN x))) d (σ 12 i)
theorem rl13 (i : Nat) : oRule σ x d f pu j 13 i = if i = 10 * iN x + iN (σ 11 (iN x)) then f else σ 13 i := cond_beq i (10 * iN x + iN (σ 11 (iN x))) f (σ 13 i)
theorem rl14 (i : Nat) : oRule σ x d f pu j 14 i = if i = 10 * iN x + iN (σ 11 (iN x)) then pu else σ 14 i := cond_beq i (10 * iN x + iN (σ 11 (iN x))) pu (σ 14 i)
theorem rl15 (i : Nat) : oRule σ x d f pu j 15 i = if i = 10 * iN x + iN (σ 11 (iN x)) then j else σ 15 i := cond_beq i (10 * iN x + iN (σ 11 (iN x))) j (σ 15 i)
theorem rl11 (i : Nat) : oRule σ x d f pu j 11 i = if i = iN x then σ 11 (iN x) + 1 else σ 11 i := cond_beq i (iN x) (σ 11 (iN x) + 1) (σ 11 i)

theorem cA_c {f f' : Nat → Nat} {N : Nat} (h : ∀ i, i < N → f i = f' i) : cA g N f = cA g N f' := by
  unfold cA
  have e : sg_tr f N = sg_tr f' N := by
    funext i
    show (if i < N then some (f i) else none) = (if i < N then some (f' i) else none)
    by_cases q : i < N
    · rw [if_pos q, if_pos q, h i q]
    · rw [if_neg q, if_neg q]
  rw [e]
abbrev T_rule (g : sg_G) (ad : Ad) (a n w b : Nat) (d f pu j : Int32) : List Tc := [((13, a), b, sg_qa g (sg_cap (n + 1)) (sg_tr (sg_fu (fun i => ad 14 (10 * a + i)) n w) (n + 1))), ((12, a), ad 12 a, .inr (0, [.int (nI (n + 1)), .ref b, .int (nI (n + 1))])), ((14, 10 * a + n), w, .inr (6, [.int d, .int f, .int pu, .int j]))]
theorem ho_rule_0 (hW : WX σ) (ha : a = iN x) (hn : n = iN (σ 11 a)) (hn10 : n < 10) {w b : Nat} (k' : Nat) (hm : (0, k') ∉ (T_rule g ad a n w b d f pu j).map (fun t => t.1)) : cont g (adT ad (T_rule g ad a n w b d f pu j)) gh (oRule σ x d f pu j) 0 k' = cont g ad gh σ 0 k' := by
  have hu := nI_up' (k := 11) (j := a) (hW.1.2.2.2.2.2.2.2.2.2.1 a) (by decide)
  rw [← hn] at hu
  have hh := heroR_lo (τ := oRule σ x d f pu j) hW rfl rfl rfl rfl rfl rfl
  have h12 : ∀ i, adT ad (T_rule g ad a n w b d f pu j) 12 i = ad 12 i := fun i => (cond_beq i a (ad 12 a) (ad 12 i)).trans (by
    by_cases q : i = a
    · rw [q, if_pos rfl]
    · rw [if_neg q])
  first | (simp only [cont]; done) | (simp only [cont]; rfl)
theorem ho_rule_1 (hW : WX σ) (ha : a = iN x) (hn : n = iN (σ 11 a)) (hn10 : n < 10) {w b : Nat} (k' : Nat) (hm : (1, k') ∉ (T_rule g ad a n w b d f pu j).map (fun t => t.1)) : cont g (adT ad (T_rule g ad a n w b d f pu j)) gh (oRule σ x d f pu j) 1 k' = cont g ad gh σ 1 k' := by
  have hu := nI_up' (k := 11) (j := a) (hW.1.2.2.2.2.2.2.2.2.2.1 a) (by decide)
  rw [← hn] at hu
  have hh := heroR_lo (τ := oRule σ x d f pu j) hW rfl rfl rfl rfl rfl rfl
  have h12 : ∀ i, adT ad (T_rule g ad a n w b d f pu j) 12 i = ad 12 i := fun i => (cond_beq i a (ad 12 a) (ad 12 i)).trans (by
    by_cases q : i = a
    · rw [q, if_pos rfl]
    · rw [if_neg q])
  first | (simp only [cont]; done) | (simp only [cont]; rfl)
theorem ho_rule_2 (hW : WX σ) (ha : a = iN x) (hn : n = iN (σ 11 a)) (hn10 : n < 10) {w b : Nat} (k' : Nat) (hm : (2, k') ∉ (T_rule g ad a n w b d f pu j).map (fun t => t.1)) : cont g (adT ad (T_rule g ad a n w b d f pu j)) gh (oRule σ x d f pu j) 2 k' = cont g ad gh σ 2 k' := by
  have hu := nI_up' (k := 11) (j := a) (hW.1.2.2.2.2.2.2.2.2.2.1 a) (by decide)
  rw [← hn] at hu
  have hh := heroR_lo (τ := oRule σ x d f pu j) hW rfl rfl rfl rfl rfl rfl
  have h12 : ∀ i, adT ad (T_rule g ad a n w b d f pu j) 12 i = ad 12 i := fun i => (cond_beq i a (ad 12 a) (ad 12 i)).trans (by
    by_cases q : i = a
    · rw [q, if_pos rfl]
    · rw [if_neg q])
  exact (by
        show (if k' < 5 then cA g (lsN (oRule σ x d f pu j) k') (adT ad (T_rule g ad a n w b d f pu j) (lsE k')) else none) = (if k' < 5 then cA g (lsN σ k') (ad (lsE k')) else none)
        by_cases h5 : k' < 5
        · rw [if_pos h5, if_pos h5]
          have h6 : k' = 0 ∨ k' = 1 ∨ k' = 2 ∨ k' = 3 ∨ k' = 4 := by omega
          rcases h6 with rfl | rfl | rfl | rfl | rfl <;> rfl
        · rw [if_neg h5, if_neg h5])
theorem ho_rule_3 (hW : WX σ) (ha : a = iN x) (hn : n = iN (σ 11 a)) (hn10 : n < 10) {w b : Nat} (k' : Nat) (hm : (3, k') ∉ (T_rule g ad a n w b d f pu j).map (fun t => t.1)) : cont g (adT ad (T_rule g ad a n w b d f pu j)) gh (oRule σ x d f pu j) 3 k' = cont g ad gh σ 3 k' := by
  have hu := nI_up' (k := 11) (j := a) (hW.1.2.2.2.2.2.2.2.2.2.1 a) (by decide)
  rw [← hn] at hu
  have hh := heroR_lo (τ := oRule σ x d f pu j) hW rfl rfl rfl rfl rfl rfl
  have h12 : ∀ i, adT ad (T_rule g ad a n w b d f pu j) 12 i = ad 12 i := fun i => (cond_beq i a (ad 12 a) (ad 12 i)).trans (by
    by_cases q : i = a
    · rw [q, if_pos rfl]
    · rw [if_neg q])
  first | (simp only [cont]; done) | (simp only [cont]; rfl)
theorem ho_rule_4 (hW : WX σ) (ha : a = iN x) (hn : n = iN (σ 11 a)) (hn10 : n < 10) {w b : Nat} (k' : Nat) (hm : (4, k') ∉ (T_rule g ad a n w b d f pu j).map (fun t => t.1)) : cont g (adT ad (T_rule g ad a n w b d f pu j)) gh (oRule σ x d f pu j) 4 k' = cont g ad gh σ 4 k' := by
  have hu := nI_up' (k := 11) (j := a) (hW.1.2.2.2.2.2.2.2.2.2.1 a) (by decide)
  rw [← hn] at hu
  have hh := heroR_lo (τ := oRule σ x d f pu j) hW rfl rfl rfl rfl rfl rfl
  have h12 : ∀ i, adT ad (T_rule g ad a n w b d f pu j) 12 i = ad 12 i := fun i => (cond_beq i a (ad 12 a) (ad 12 i)).trans (by
    by_cases q : i = a
    · rw [q, if_pos rfl]
    · rw [if_neg q])
  first | (simp only [cont]; done) | (simp only [cont]; rfl)
theorem ho_rule_5 (hW : WX σ) (ha : a = iN x) (hn : n = iN (σ 11 a)) (hn10 : n < 10) {w b : Nat} (k' : Nat) (hm : (5, k') ∉ (T_rule g ad a n w b d f pu j).map (fun t => t.1)) : cont g (adT ad (T_rule g ad a n w b d f pu j)) gh (oRule σ x d f pu j) 5 k' = cont g ad gh σ 5 k' := by
  have hu := nI_up' (k := 11) (j := a) (hW.1.2.2.2.2.2.2.2.2.2.1 a) (by decide)
  rw [← hn] at hu
  have hh := heroR_lo (τ := oRule σ x d f pu j) hW rfl rfl rfl rfl rfl rfl
  have h12 : ∀ i, adT ad (T_rule g ad a n w b d f pu j) 12 i = ad 12 i := fun i => (cond_beq i a (ad 12 a) (ad 12 i)).trans (by
    by_cases q : i = a
    · rw [q, if_pos rfl]
    · rw [if_neg q])
  first | (simp only [cont]; done) | (simp only [cont]; rfl)
theorem ho_rule_6 (hW : WX σ) (ha : a = iN x) (hn : n = iN (σ 11 a)) (hn10 : n < 10) {w b : Nat} (k' : Nat) (hm : (6, k') ∉ (T_rule g ad a n w b d f pu j).map (fun t => t.1)) : cont g (adT ad (T_rule g ad a n w b d f pu j)) gh (oRule σ x d f pu j) 6 k' = cont g ad gh σ 6 k' := by
  have hu := nI_up' (k := 11) (j := a) (hW.1.2.2.2.2.2.2.2.2.2.1 a) (by decide)
  rw [← hn] at hu
  have hh := heroR_lo (τ := oRule σ x d f pu j) hW rfl rfl rfl rfl rfl rfl
  have h12 : ∀ i, adT ad (T_rule g ad a n w b d f pu j) 12 i = ad 12 i := fun i => (cond_beq i a (ad 12 a) (ad 12 i)).trans (by
    by_cases q : i = a
    · rw [q, if_pos rfl]
    · rw [if_neg q])
  first | (simp only [cont]; done) | (simp only [cont]; rfl)
theorem ho_rule_7 (hW : WX σ) (ha : a = iN x) (hn : n = iN (σ 11 a)) (hn10 : n < 10) {w b : Nat} (k' : Nat) (hm : (7, k') ∉ (T_rule g ad a n w b d f pu j).map (fun t => t.1)) : cont g (adT ad (T_rule g ad a n w b d f pu j)) gh (oRule σ x d f pu j) 7 k' = cont g ad gh σ 7 k' := by
  have hu := nI_up' (k := 11) (j := a) (hW.1.2.2.2.2.2.2.2.2.2.1 a) (by decide)
  rw [← hn] at hu
  have hh := heroR_lo (τ := oRule σ x d f pu j) hW rfl rfl rfl rfl rfl rfl
  have h12 : ∀ i, adT ad (T_rule g ad a n w b d f pu j) 12 i = ad 12 i := fun i => (cond_beq i a (ad 12 a) (ad 12 i)).trans (by
    by_cases q : i = a
    · rw [q, if_pos rfl]
    · rw [if_neg q])
  first | (simp only [cont]; done) | (simp only [cont]; rfl)
theorem ho_rule_8 (hW : WX σ) (ha : a = iN x) (hn : n = iN (σ 11 a)) (hn10 : n < 10) {w b : Nat} (k' : Nat) (hm : (8, k') ∉ (T_rule g ad a n w b d f pu j).map (fun t => t.1)) : cont g (adT ad (T_rule g ad a n w b d f pu j)) gh (oRule σ x d f pu j) 8 k' = cont g ad gh σ 8 k' := by
  have hu := nI_up' (k := 11) (j := a) (hW.1.2.2.2.2.2.2.2.2.2.1 a) (by decide)
  rw [← hn] at hu
  have hh := heroR_lo (τ := oRule σ x d f pu j) hW rfl rfl rfl rfl rfl rfl
  have h12 : ∀ i, adT ad (T_rule g ad a n w b d f pu j) 12 i = ad 12 i := fun i => (cond_beq i a (ad 12 a) (ad 12 i)).trans (by
    by_cases q : i = a
    · rw [q, if_pos rfl]
    · rw [if_neg q])
  first | (simp only [cont]; done) | (simp only [cont]; rfl)
theorem ho_rule_9 (hW : WX σ) (ha : a = iN x) (hn : n = iN (σ 11 a)) (hn10 : n < 10) {w b : Nat} (k' : Nat) (hm : (9, k') ∉ (T_rule g ad a n w b d f pu j).map (fun t => t.1)) : cont g (adT ad (T_rule g ad a n w b d f pu j)) gh (oRule σ x d f pu j) 9 k' = cont g ad gh σ 9 k' := by
  have hu := nI_up' (k := 11) (j := a) (hW.1.2.2.2.2.2.2.2.2.2.1 a) (by decide)
  rw [← hn] at hu
  have hh := heroR_lo (τ := oRule σ x d f pu j) hW rfl rfl rfl rfl rfl rfl
  have h12 : ∀ i, adT ad (T_rule g ad a n w b d f pu j) 12 i = ad 12 i := fun i => (cond_beq i a (ad 12 a) (ad 12 i)).trans (by
    by_cases q : i = a
    · rw [q, if_pos rfl]
    · rw [if_neg q])
  first | (simp only [cont]; done) | (simp only [cont]; rfl)
theorem ho_rule_10 (hW : WX σ) (ha : a = iN x) (hn : n = iN (σ 11 a)) (hn10 : n < 10) {w b : Nat} (k' : Nat) (hm : (10, k') ∉ (T_rule g ad a n w b d f pu j).map (fun t => t.1)) : cont g (adT ad (T_rule g ad a n w b d f pu j)) gh (oRule σ x d f pu j) 10 k' = cont g ad gh σ 10 k' := by
  have hu := nI_up' (k := 11) (j := a) (hW.1.2.2.2.2.2.2.2.2.2.1 a) (by decide)
  rw [← hn] at hu
  have hh := heroR_lo (τ := oRule σ x d f pu j) hW rfl rfl rfl rfl rfl rfl
  have h12 : ∀ i, adT ad (T_rule g ad a n w b d f pu j) 12 i = ad 12 i := fun i => (cond_beq i a (ad 12 a) (ad 12 i)).trans (by
    by_cases q : i = a
    · rw [q, if_pos rfl]
    · rw [if_neg q])
  simp only [cont]; rw [hh]; rfl
theorem ho_rule_11 (hW : WX σ) (ha : a = iN x) (hn : n = iN (σ 11 a)) (hn10 : n < 10) {w b : Nat} (k' : Nat) (hm : (11, k') ∉ (T_rule g ad a n w b d f pu j).map (fun t => t.1)) : cont g (adT ad (T_rule g ad a n w b d f pu j)) gh (oRule σ x d f pu j) 11 k' = cont g ad gh σ 11 k' := by
  have hu := nI_up' (k := 11) (j := a) (hW.1.2.2.2.2.2.2.2.2.2.1 a) (by decide)
  rw [← hn] at hu
  have hh := heroR_lo (τ := oRule σ x d f pu j) hW rfl rfl rfl rfl rfl rfl
  have h12 : ∀ i, adT ad (T_rule g ad a n w b d f pu j) 12 i = ad 12 i := fun i => (cond_beq i a (ad 12 a) (ad 12 i)).trans (by
    by_cases q : i = a
    · rw [q, if_pos rfl]
    · rw [if_neg q])
  exact (by
        show (if k' < iN (σ 16 0) then some (Sum.inr (1, [.ref (ad 3 (iN (σ 10 k'))), .ref (adT ad (T_rule g ad a n w b d f pu j) 12 k')]) : va_E) else none) = (if k' < iN (σ 16 0) then some (Sum.inr (1, [.ref (ad 3 (iN (σ 10 k'))), .ref (ad 12 k')]) : va_E) else none)
        rw [h12])
theorem ho_rule_12 (hW : WX σ) (ha : a = iN x) (hn : n = iN (σ 11 a)) (hn10 : n < 10) {w b : Nat} (k' : Nat) (hm : (12, k') ∉ (T_rule g ad a n w b d f pu j).map (fun t => t.1)) : cont g (adT ad (T_rule g ad a n w b d f pu j)) gh (oRule σ x d f pu j) 12 k' = cont g ad gh σ 12 k' := by
  have hu := nI_up' (k := 11) (j := a) (hW.1.2.2.2.2.2.2.2.2.2.1 a) (by decide)
  rw [← hn] at hu
  have hh := heroR_lo (τ := oRule σ x d f pu j) hW rfl rfl rfl rfl rfl rfl
  have h12 : ∀ i, adT ad (T_rule g ad a n w b d f pu j) 12 i = ad 12 i := fun i => (cond_beq i a (ad 12 a) (ad 12 i)).trans (by
    by_cases q : i = a
    · rw [q, if_pos rfl]
    · rw [if_neg q])
  exact (by
        have hk' : k' ≠ a := fun q => hm (by rw [q]; simp [T_rule])
        have hka : ¬ k' = iN x := by rw [← ha]; exact hk'
        show (if k' < iN (σ 16 0) then some (cL g (iN (oRule σ x d f pu j 11 k')) (adT ad (T_rule g ad a n w b d f pu j) 13 k')) else none) = (if k' < iN (σ 16 0) then some (cL g (iN (σ 11 k')) (ad 13 k')) else none)
        rw [rl11, if_neg hka, (adT_out (i := 13) (k := k') (by first | (simp [T_rule]; done) | (simp [T_rule]; omega)))])
theorem ho_rule_13 (hW : WX σ) (ha : a = iN x) (hn : n = iN (σ 11 a)) (hn10 : n < 10) {w b : Nat} (k' : Nat) (hm : (13, k') ∉ (T_rule g ad a n w b d f pu j).map (fun t => t.1)) : cont g (adT ad (T_rule g ad a n w b d f pu j)) gh (oRule σ x d f pu j) 13 k' = cont g ad gh σ 13 k' := by
  have hu := nI_up' (k := 11) (j := a) (hW.1.2.2.2.2.2.2.2.2.2.1 a) (by decide)
  rw [← hn] at hu
  have hh := heroR_lo (τ := oRule σ x d f pu j) hW rfl rfl rfl rfl rfl rfl
  have h12 : ∀ i, adT ad (T_rule g ad a n w b d f pu j) 12 i = ad 12 i := fun i => (cond_beq i a (ad 12 a) (ad 12 i)).trans (by
    by_cases q : i = a
    · rw [q, if_pos rfl]
    · rw [if_neg q])
  exact (by
        have hk' : k' ≠ a := fun q => hm (by rw [q]; simp [T_rule])
        have hka : ¬ k' = iN x := by rw [← ha]; exact hk'
        show (if k' < iN (σ 16 0) then cA g (iN (oRule σ x d f pu j 11 k')) (fun i => adT ad (T_rule g ad a n w b d f pu j) 14 (10 * k' + i)) else none) = (if k' < iN (σ 16 0) then cA g (iN (σ 11 k')) (fun i => ad 14 (10 * k' + i)) else none)
        rw [rl11, if_neg hka]
        refine ite_c Iff.rfl (cA_c fun i hi => ?_) rfl
        have h1 := (hW.1.2.2.2.2.2.2.2.2.2.1 k').2
        exact adT_out (i := 14) (k := 10 * k' + i) (by simp [T_rule]; omega))
theorem ho_rule_14 (hW : WX σ) (ha : a = iN x) (hn : n = iN (σ 11 a)) (hn10 : n < 10) {w b : Nat} (k' : Nat) (hm : (14, k') ∉ (T_rule g ad a n w b d f pu j).map (fun t => t.1)) : cont g (adT ad (T_rule g ad a n w b d f pu j)) gh (oRule σ x d f pu j) 14 k' = cont g ad gh σ 14 k' := by
  have hu := nI_up' (k := 11) (j := a) (hW.1.2.2.2.2.2.2.2.2.2.1 a) (by decide)
  rw [← hn] at hu
  have hh := heroR_lo (τ := oRule σ x d f pu j) hW rfl rfl rfl rfl rfl rfl
  have h12 : ∀ i, adT ad (T_rule g ad a n w b d f pu j) 12 i = ad 12 i := fun i => (cond_beq i a (ad 12 a) (ad 12 i)).trans (by
    by_cases q : i = a
    · rw [q, if_pos rfl]
    · rw [if_neg q])
  exact (by
        have hk' : k' ≠ 10 * a + n := fun q => hm (by rw [q]; simp [T_rule])
        have hka : ¬ k' = 10 * iN x + iN (σ 11 (iN x)) := by rw [← ha, ← hn]; exact hk'
        show (if k' / 10 < iN (σ 16 0) ∧ k' % 10 < iN (oRule σ x d f pu j 11 (k' / 10)) then some (Sum.inr (6, [.int (oRule σ x d f pu j 12 k'), .int (oRule σ x d f pu j 13 k'), .int (oRule σ x d f pu j 14 k'), .int (oRule σ x d f pu j 15 k')]) : va_E) else none) = (if k' / 10 < iN (σ 16 0) ∧ k' % 10 < iN (σ 11 (k' / 10)) then some (Sum.inr (6, [.int (σ 12 k'), .int (σ 13 k'), .int (σ 14 k'), .int (σ 15 k')]) : va_E) else none)
        rw [rl12, rl13, rl14, rl15, if_neg hka, if_neg hka, if_neg hka, if_neg hka]
        by_cases q : k' / 10 = a
        · have e11 : oRule σ x d f pu j 11 (k' / 10) = σ 11 a + 1 := (rl11 _).trans ((if_pos (q.trans ha)).trans (by rw [← ha]))
          rw [e11, hu.2, q, ← hn]
          exact ite_c (by omega) rfl rfl
        · have e11 : oRule σ x d f pu j 11 (k' / 10) = σ 11 (k' / 10) := (rl11 _).trans (if_neg (fun z => q (z.trans ha.symm)))
          rw [e11])
theorem ho_rule_15 (hW : WX σ) (ha : a = iN x) (hn : n = iN (σ 11 a)) (hn10 : n < 10) {w b : Nat} (k' : Nat) (hm : (15, k') ∉ (T_rule g ad a n w b d f pu j).map (fun t => t.1)) : cont g (adT ad (T_rule g ad a n w b d f pu j)) gh (oRule σ x d f pu j) 15 k' = cont g ad gh σ 15 k' := by
  have hu := nI_up' (k := 11) (j := a) (hW.1.2.2.2.2.2.2.2.2.2.1 a) (by decide)
  rw [← hn] at hu
  have hh := heroR_lo (τ := oRule σ x d f pu j) hW rfl rfl rfl rfl rfl rfl
  have h12 : ∀ i, adT ad (T_rule g ad a n w b d f pu j) 12 i = ad 12 i := fun i => (cond_beq i a (ad 12 a) (ad 12 i)).trans (by
    by_cases q : i = a
    · rw [q, if_pos rfl]
    · rw [if_neg q])
  first | (simp only [cont]; done) | (simp only [cont]; rfl)
theorem ho_rule_16 (hW : WX σ) (ha : a = iN x) (hn : n = iN (σ 11 a)) (hn10 : n < 10) {w b : Nat} (k' : Nat) (hm : (16, k') ∉ (T_rule g ad a n w b d f pu j).map (fun t => t.1)) : cont g (adT ad (T_rule g ad a n w b d f pu j)) gh (oRule σ x d f pu j) 16 k' = cont g ad gh σ 16 k' := by
  have hu := nI_up' (k := 11) (j := a) (hW.1.2.2.2.2.2.2.2.2.2.1 a) (by decide)
  rw [← hn] at hu
  have hh := heroR_lo (τ := oRule σ x d f pu j) hW rfl rfl rfl rfl rfl rfl
  have h12 : ∀ i, adT ad (T_rule g ad a n w b d f pu j) 12 i = ad 12 i := fun i => (cond_beq i a (ad 12 a) (ad 12 i)).trans (by
    by_cases q : i = a
    · rw [q, if_pos rfl]
    · rw [if_neg q])
  first | (simp only [cont]; done) | (simp only [cont]; rfl)
theorem ho_rule_17 (hW : WX σ) (ha : a = iN x) (hn : n = iN (σ 11 a)) (hn10 : n < 10) {w b : Nat} (k' : Nat) (hm : (17, k') ∉ (T_rule g ad a n w b d f pu j).map (fun t => t.1)) : cont g (adT ad (T_rule g ad a n w b d f pu j)) gh (oRule σ x d f pu j) 17 k' = cont g ad gh σ 17 k' := by
  have hu := nI_up' (k := 11) (j := a) (hW.1.2.2.2.2.2.2.2.2.2.1 a) (by decide)
  rw [← hn] at hu
  have hh := heroR_lo (τ := oRule σ x d f pu j) hW rfl rfl rfl rfl rfl rfl
  have h12 : ∀ i, adT ad (T_rule g ad a n w b d f pu j) 12 i = ad 12 i := fun i => (cond_beq i a (ad 12 a) (ad 12 i)).trans (by
    by_cases q : i = a
    · rw [q, if_pos rfl]
    · rw [if_neg q])
  first | (simp only [cont]; done) | (simp only [cont]; rfl)
theorem ho_rule_18 (hW : WX σ) (ha : a = iN x) (hn : n = iN (σ 11 a)) (hn10 : n < 10) {w b : Nat} (k' : Nat) (hm : (18, k') ∉ (T_rule g ad a n w b d f pu j).map (fun t => t.1)) : cont g (adT ad (T_rule g ad a n w b d f pu j)) gh (oRule σ x d f pu j) 18 k' = cont g ad gh σ 18 k' := by
  have hu := nI_up' (k := 11) (j := a) (hW.1.2.2.2.2.2.2.2.2.2.1 a) (by decide)
  rw [← hn] at hu
  have hh := heroR_lo (τ := oRule σ x d f pu j) hW rfl rfl rfl rfl rfl rfl
  have h12 : ∀ i, adT ad (T_rule g ad a n w b d f pu j) 12 i = ad 12 i := fun i => (cond_beq i a (ad 12 a) (ad 12 i)).trans (by
    by_cases q : i = a
    · rw [q, if_pos rfl]
    · rw [if_neg q])
  first | (simp only [cont]; done) | (simp only [cont]; rfl)
theorem ho_rule_19 (hW : WX σ) (ha : a = iN x) (hn : n = iN (σ 11 a)) (hn10 : n < 10) {w b : Nat} (k' : Nat) (hm : (19, k') ∉ (T_rule g ad a n w b d f pu j).map (fun t => t.1)) : cont g (adT ad (T_rule g ad a n w b d f pu j)) gh (oRule σ x d f pu j) 19 k' = cont g ad gh σ 19 k' := by
  have hu := nI_up' (k := 11) (j := a) (hW.1.2.2.2.2.2.2.2.2.2.1 a) (by decide)
  rw [← hn] at hu
  have hh := heroR_lo (τ := oRule σ x d f pu j) hW rfl rfl rfl rfl rfl rfl
  have h12 : ∀ i, adT ad (T_rule g ad a n w b d f pu j) 12 i = ad 12 i := fun i => (cond_beq i a (ad 12 a) (ad 12 i)).trans (by
    by_cases q : i = a
    · rw [q, if_pos rfl]
    · rw [if_neg q])
  first | (simp only [cont]; done) | (simp only [cont]; rfl)
theorem pic_rule (hQ : Pic g ad own gh σ C) (hW : WX σ) (ha : a = iN x) (hak : a < iN (σ 16 0)) (hn : n = iN (σ 11 a)) (hn10 : n < 10) {w b : Nat} (hf_w : C w = none) (hb : (b = ad 13 a ∧ 0 < iN (σ 11 a)) ∨ C b = none) (hnd : sg_nd [b, ad 12 a, w]) :
    Pic g (adT ad (T_rule g ad a n w b d f pu j)) (ownT own (T_rule g ad a n w b d f pu j)) gh (oRule σ x d f pu j) (sg_ov C ((T_rule g ad a n w b d f pu j).map (fun t => t.2))) ∧ Frm own (ownT own (T_rule g ad a n w b d f pu j)) C (sg_ov C ((T_rule g ad a n w b d f pu j).map (fun t => t.2))) := by
  have hu := nI_up' (k := 11) (j := a) (hW.1.2.2.2.2.2.2.2.2.2.1 a) (by decide)
  rw [← hn] at hu
  have hh := heroR_lo (τ := oRule σ x d f pu j) hW rfl rfl rfl rfl rfl rfl
  have h12 : ∀ i, adT ad (T_rule g ad a n w b d f pu j) 12 i = ad 12 i := fun i => (cond_beq i a (ad 12 a) (ad 12 i)).trans (by
    by_cases q : i = a
    · rw [q, if_pos rfl]
    · rw [if_neg q])
  have hM : nm_nd ((T_rule g ad a n w b d f pu j).map (fun t => t.1)) := nm_of (show sg_nd [13, 12, 14] from ⟨by decide, by decide, by decide, trivial⟩)
  refine hQ.touch (T_rule g ad a n w b d f pu j) (List.forall_mem_cons.mpr ⟨(by rcases hb with ⟨q1, q2⟩ | q; exact .inr ⟨q1, _, ct13 hak q2⟩; exact .inl q), List.forall_mem_cons.mpr ⟨(.inr ⟨rfl, _, ct12 hak⟩), List.forall_mem_cons.mpr ⟨(.inl hf_w), fun _ h => absurd h List.not_mem_nil⟩⟩⟩) hnd hM (List.forall_mem_cons.mpr ⟨((if_pos hak).trans (by
    show cA g (iN (oRule σ x d f pu j 11 a)) (fun i => adT ad (T_rule g ad a n w b d f pu j) 14 (10 * a + i)) = _
    rw [rl11, if_pos ha, ← ha, hu.2]
    show (if 0 < n + 1 then some (sg_qa g (sg_cap (n + 1)) (sg_tr (fun i => adT ad (T_rule g ad a n w b d f pu j) 14 (10 * a + i)) (n + 1))) else none) = _
    rw [if_pos (Nat.succ_pos n), tr_fu (f := fun i => ad 14 (10 * a + i)) (f' := fun i => adT ad (T_rule g ad a n w b d f pu j) 14 (10 * a + i)) (w := w) (fun i => (cond_beq (10 * a + i) (10 * a + n) w (ad 14 (10 * a + i))).trans (ite_c (by omega) rfl rfl))])), List.forall_mem_cons.mpr ⟨((if_pos hak).trans (by
    show some (cL g (iN (oRule σ x d f pu j 11 a)) (adT ad (T_rule g ad a n w b d f pu j) 13 a)) = _
    rw [rl11, if_pos ha, ← ha, hu.2, show adT ad (T_rule g ad a n w b d f pu j) 13 a = b from (adT_in (ad := ad) (t := ((13, a), b, sg_qa g (sg_cap (n + 1)) (sg_tr (sg_fu (fun i => ad 14 (10 * a + i)) n w) (n + 1)))) hM (by simp [T_rule]))]
    show some (Sum.inr (0, [.int (nI (n + 1)), .ref (if n + 1 = 0 then g.2.2.2 0 else b), .int (nI (n + 1))]) : va_E) = _
    rw [if_neg (Nat.succ_ne_zero n)])), List.forall_mem_cons.mpr ⟨((if_pos (show (10 * a + n) / 10 < iN (σ 16 0) ∧ (10 * a + n) % 10 < iN (oRule σ x d f pu j 11 ((10 * a + n) / 10)) by rw [show (10 * a + n) / 10 = a by omega, show (10 * a + n) % 10 = n by omega, rl11, if_pos ha, ← ha, hu.2]; exact ⟨hak, Nat.lt_succ_self n⟩)).trans (by
    show some (Sum.inr (6, [.int (oRule σ x d f pu j 12 (10 * a + n)), .int (oRule σ x d f pu j 13 (10 * a + n)), .int (oRule σ x d f pu j 14 (10 * a + n)), .int (oRule σ x d f pu j 15 (10 * a + n))]) : va_E) = _
    have e : 10 * a + n = 10 * iN x + iN (σ 11 (iN x)) := by rw [← ha, ← hn]
    rw [rl12, rl13, rl14, rl15, if_pos e, if_pos e, if_pos e, if_pos e])), fun _ h => absurd h List.not_mem_nil⟩⟩⟩) (fun i k' hm => by
    rcases Nat.lt_or_ge i 20 with h20 | h20
    · match i, h20 with
      | 0, _ => exact ho_rule_0 hW ha hn hn10 k' hm
      | 1, _ => exact ho_rule_1 hW ha hn hn10 k' hm
      | 2, _ => exact ho_rule_2 hW ha hn hn10 k' hm
      | 3, _ => exact ho_rule_3 hW ha hn hn10 k' hm
      | 4, _ => exact ho_rule_4 hW ha hn hn10 k' hm
      | 5, _ => exact ho_rule_5 hW ha hn hn10 k' hm
      | 6, _ => exact ho_rule_6 hW ha hn hn10 k' hm
      | 7, _ => exact ho_rule_7 hW ha hn hn10 k' hm
      | 8, _ => exact ho_rule_8 hW ha hn hn10 k' hm
      | 9, _ => exact ho_rule_9 hW ha hn hn10 k' hm
      | 10, _ => exact ho_rule_10 hW ha hn hn10 k' hm
      | 11, _ => exact ho_rule_11 hW ha hn hn10 k' hm
      | 12, _ => exact ho_rule_12 hW ha hn hn10 k' hm
      | 13, _ => exact ho_rule_13 hW ha hn hn10 k' hm
      | 14, _ => exact ho_rule_14 hW ha hn hn10 k' hm
      | 15, _ => exact ho_rule_15 hW ha hn hn10 k' hm
      | 16, _ => exact ho_rule_16 hW ha hn hn10 k' hm
      | 17, _ => exact ho_rule_17 hW ha hn hn10 k' hm
      | 18, _ => exact ho_rule_18 hW ha hn hn10 k' hm
      | 19, _ => exact ho_rule_19 hW ha hn hn10 k' hm
      | n + 20, h => exact absurd h (by omega)
    · rw [cont_x i k' h20, cont_x i k' h20])

theorem wx_rule (hW : WX σ) (ha : a = iN x) (hak : a < iN (σ 16 0)) (hn : n = iN (σ 11 a)) (hn10 : n < 10) (hr : rRngR d f pu j) : WX (oRule σ x d f pu j) := by
  have hu := nI_up' (k := 11) (j := a) (hW.1.2.2.2.2.2.2.2.2.2.1 a) (by decide)
  rw [← hn] at hu
  have hh := heroR_lo (τ := oRule σ x d f pu j) hW rfl rfl rfl rfl rfl rfl
  have hl := fun r n1 => rLen_c (τ := oRule σ x d f pu j) (σ := σ) (r := r) rfl n1
  have e : 10 * a + n = 10 * iN x + iN (σ 11 (iN x)) := by rw [← ha, ← hn]
  refine ⟨rWF_rule hW.1 (by rw [← ha]; exact ⟨(hW.1.2.2.2.2.2.2.2.2.2.1 a).1, by rw [← hn]; exact hn10⟩), hW.2.1, fun k i hk hi => ?_, ⟨hW.2.2.2.1.1, hW.2.2.2.1.2.1, fun k hk => ?_, hW.2.2.2.1.2.2.2⟩, hW.2.2.2.2.1, fun r => ?_, fun r hr => ?_⟩
  · have hk2 : k < iN (σ 16 0) := hk
    rw [rl12, rl13]
    rw [rl11] at hi
    by_cases q : k = iN x
    · rw [if_pos q, ← ha, hu.2] at hi
      by_cases q2 : i = n
      · have e2 : 10 * k + i = 10 * iN x + iN (σ 11 (iN x)) := by rw [← e, q2, q, ← ha]
        rw [if_pos e2, if_pos e2]
        exact ⟨hr.1.1, hr.2.1.1, hr.2.1.2⟩
      · have e2 : ¬ 10 * k + i = 10 * iN x + iN (σ 11 (iN x)) := by rw [← e, q, ← ha]; omega
        rw [if_neg e2, if_neg e2]
        exact hW.2.2.1 k i hk2 (by rw [q, ← ha, ← hn]; omega)
    · rw [if_neg q] at hi
      have h10 := (hW.1.2.2.2.2.2.2.2.2.2.1 k).2
      have e2 : ¬ 10 * k + i = 10 * iN x + iN (σ 11 (iN x)) := by rw [← e]; omega
      rw [if_neg e2, if_neg e2]
      exact hW.2.2.1 k i hk2 hi
  · have hk2 : iN (σ 16 0) ≤ k := hk
    rw [rl11, if_neg (by omega)]
    exact hW.2.2.2.1.2.2.1 k hk
  · rw [hl]
    exact hW.2.2.2.2.2.1 r
  · rw [hh]
    exact hW.2.2.2.2.2.2 r hr
theorem kRule_y (h1 : rIn σ 16 x) (h2 : rRngR d f pu j) (h3 : ¬ σ 11 (iN x) = 10) : kRule σ x d f pu j = 0 := (if_neg (fun q => q h1)).trans ((if_neg (fun q => q h2)).trans (if_neg h3))
theorem vRule_c (h1 : rIn σ 16 x) (h2 : rRngR d f pu j) (h3 : ¬ σ 11 (iN x) = 10) : ¬ 0 < kRule σ x d f pu j ∧ vRule σ x d f pu j = rRfC (oRule (st2 σ 42 0 0) x d f pu j) x (iN (σ 26 0)) ∧ fRule σ x d f pu j = oRule (st2 σ 42 0 0) x d f pu j := by
  have k := kRule_y h1 h2 h3
  have hk : ¬ 0 < kRule σ x d f pu j := by rw [k]; decide
  refine ⟨hk, ?_, ?_⟩
  · unfold vRule
    rw [if_neg hk, k]
  · unfold fRule
    rw [if_neg hk, k]
end GROWD
