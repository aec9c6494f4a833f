
/-! what a call changes -/
theorem st2_s (σ : Mem) (k i : Nat) (v : Int32) : st2 σ k i v k i = v := by rw [st2_a, beq_self_eq_true, beq_self_eq_true]; rfl
theorem st2_n {σ : Mem} {k i j : Nat} {v : Int32} (h : j ≠ i) : st2 σ k i v k j = σ k j := by rw [st2_a, show (j == i) = false by simp [h], Bool.and_false]; rfl
theorem rLen_c {σ τ : Mem} {r : Nat} (h : τ 8 = σ 8) : ∀ n, rLen τ r n = rLen σ r n
  | 0 => rfl
  | n + 1 => by
    show rLen τ r n + iN (τ 8 (20 * r + n)) = rLen σ r n + iN (σ 8 (20 * r + n))
    rw [rLen_c h n, h]
section MUT
variable {g : sg_G} {ad : Ad} {own : Nat → Option (Nat × Nat)} {gh : Gh} {σ τ : Mem} {C : Nat → Option va_E} {x : Int32} {k : Nat}
theorem heroR_c {r : Nat} (h8 : ∀ j, isN (σ 8 j) 101) (k8 : ∀ j, isN (τ 8 j) 101) (h20 : iN (σ 4 r) ≤ 20) (h3 : τ 3 r = σ 3 r) (h4 : τ 4 r = σ 4 r) (hG : lvG τ (iN (σ 3 r)) = lvG σ (iN (σ 3 r))) (hFl : lvF τ (iN (σ 3 r)) = lvF σ (iN (σ 3 r))) (hI : lvI τ (iN (σ 3 r)) = lvI σ (iN (σ 3 r)))
    (h7 : ∀ i, i < iN (σ 4 r) → τ 7 (20 * r + i) = σ 7 (20 * r + i) ∧ τ 8 (20 * r + i) = σ 8 (20 * r + i)) : heroR τ r = heroR σ r := by
  unfold heroR
  rw [h4]
  exact (rOut_hOf (T := 500) (Nat.le_refl _) h8 k8 h3.symm hG.symm hFl.symm hI.symm (Nat.le_refl _) (by rw [h4]; exact Nat.le_refl _) h20 (by rw [h4]; exact h20) (fun i hi => ⟨(h7 i hi).1.symm, (h7 i hi).2.symm⟩)).symm
theorem heroR_lo (hW : WX σ) (h0 : τ 0 = σ 0) (h1 : τ 1 = σ 1) (h3 : τ 3 = σ 3) (h4 : τ 4 = σ 4) (h7 : τ 7 = σ 7) (h8 : τ 8 = σ 8) (r : Nat) : heroR τ r = heroR σ r :=
  heroR_c hW.i8 (by rw [h8]; exact hW.i8) (hW.p20 r) (by rw [h3]) (by rw [h4]) (by unfold lvG; rw [h0]) (by unfold lvF; rw [h0]) (by unfold lvI; rw [h1]) (fun i _ => ⟨by rw [h7], by rw [h8]⟩)
theorem wx_strike (hW : WX σ) (hk : k < iN (σ 26 0)) : WX (st2 σ 21 k (1 - σ 21 k)) := by
  have hh := heroR_lo (τ := st2 σ 21 k (1 - σ 21 k)) hW rfl rfl rfl rfl rfl rfl
  have hl := fun r n => rLen_c (τ := st2 σ 21 k (1 - σ 21 k)) (σ := σ) (r := r) rfl n
  refine ⟨hW.1, hW.2.1, hW.2.2.1, ⟨hW.2.2.2.1.1, hW.2.2.2.1.2.1, hW.2.2.2.1.2.2.1, fun j hj => (st2_n (by have : iN (σ 26 0) ≤ j := hj; omega)).trans (hW.2.2.2.1.2.2.2.1 j hj), hW.2.2.2.1.2.2.2.2⟩, ⟨hW.2.2.2.2.1.1, fun j => by
    by_cases q : j = k
    · rw [q, st2_s]
      rcases hW.2.2.2.2.1.2 k with h | h <;> rw [h] <;> decide
    · rw [st2_n q]
      exact hW.2.2.2.2.1.2 j⟩, fun r => ?_, ?_⟩
  · rw [hl]
    exact hW.2.2.2.2.2.1 r
  · intro r hr
    rw [hh]
    exact hW.2.2.2.2.2.2 r hr
theorem pic_strike (hQ : Pic g ad own gh σ C) (hW : WX σ) (hk : k < iN (σ 26 0)) : Pic g ad own gh (st2 σ 21 k (1 - σ 21 k)) (sg_ov C [(ad 15 k, .inr (7, [.int (nI k), .int (σ 18 k), .ref (ad 7 (iN (σ 17 k))), .ref (ad 11 (iN (σ 19 k))), .int (σ 20 k), .int (σ 22 k), .int (1 - σ 21 k)]))]) ∧ Frm own own C (sg_ov C [(ad 15 k, .inr (7, [.int (nI k), .int (σ 18 k), .ref (ad 7 (iN (σ 17 k))), .ref (ad 11 (iN (σ 19 k))), .int (σ 20 k), .int (σ 22 k), .int (1 - σ 21 k)]))]) := by
  have hh := heroR_lo (τ := st2 σ 21 k (1 - σ 21 k)) hW rfl rfl rfl rfl rfl rfl
  exact hQ.put (gh' := gh) (σ' := st2 σ 21 k (1 - σ 21 k)) [((15, k), .inr (7, [.int (nI k), .int (σ 18 k), .ref (ad 7 (iN (σ 17 k))), .ref (ad 11 (iN (σ 19 k))), .int (σ 20 k), .int (σ 22 k), .int (1 - σ 21 k)]))] (fun t ht => by rcases List.mem_singleton.mp ht with rfl; exact ⟨_, ct15 hk⟩) ⟨List.not_mem_nil, trivial⟩ (fun t ht => by rcases List.mem_singleton.mp ht with rfl; exact (if_pos hk).trans (by rw [st2_s]; rfl)) (fun i k' hm => by
    rcases Nat.lt_or_ge i 20 with h20 | h20
    · match i, h20 with
      | 0, _ => first | (simp only [cont]; done) | (simp only [cont]; rfl)
      | 1, _ => first | (simp only [cont]; done) | (simp only [cont]; rfl)
      | 2, _ => first | (simp only [cont]; done) | (simp only [cont]; rfl)
      | 3, _ => first | (simp only [cont]; done) | (simp only [cont]; rfl)
      | 4, _ => first | (simp only [cont]; done) | (simp only [cont]; rfl)
      | 5, _ => first | (simp only [cont]; done) | (simp only [cont]; rfl)
      | 6, _ => first | (simp only [cont]; done) | (simp only [cont]; rfl)
      | 7, _ => first | (simp only [cont]; done) | (simp only [cont]; rfl)
      | 8, _ => first | (simp only [cont]; done) | (simp only [cont]; rfl)
      | 9, _ => first | (simp only [cont]; done) | (simp only [cont]; rfl)
      | 10, _ => simp only [cont]; first | (rw [hh]; done) | (rw [hh]; rfl)
      | 11, _ => first | (simp only [cont]; done) | (simp only [cont]; rfl)
      | 12, _ => first | (simp only [cont]; done) | (simp only [cont]; rfl)
      | 13, _ => first | (simp only [cont]; done) | (simp only [cont]; rfl)
      | 14, _ => first | (simp only [cont]; done) | (simp only [cont]; rfl)
      | 15, _ => have hk' : k' ≠ k := fun q => hm (by rw [q]; exact List.mem_singleton.mpr rfl); simp only [cont]; rw [st2_n hk']; rfl
      | 16, _ => first | (simp only [cont]; done) | (simp only [cont]; rfl)
      | 17, _ => first | (simp only [cont]; done) | (simp only [cont]; rfl)
      | 18, _ => first | (simp only [cont]; done) | (simp only [cont]; rfl)
      | 19, _ => first | (simp only [cont]; done) | (simp only [cont]; rfl)
      | n + 20, h => exact absurd h (by omega)
    · rw [cont_x i k' h20, cont_x i k' h20])
theorem ph_strike (hQ : Pic g ad own gh σ C) (hW : WX σ) (hg : gOk gh) (hx : rIn σ 26 x) {u : Int32} (hu : u = 1 - σ 21 (iN x)) : PH g (ad 0 0) own C (fStrike σ x) (sg_ov C [(ad 15 (iN x), .inr (7, [.int (nI (iN x)), .int (σ 18 (iN x)), .ref (ad 7 (iN (σ 17 (iN x)))), .ref (ad 11 (iN (σ 19 (iN x)))), .int (σ 20 (iN x)), .int (σ 22 (iN x)), .int u]))]) := by
  have hl := (rIn_x hW.1.2.2.2.1 (by decide) hx).2
  rw [hu, show fStrike σ x = st2 (st2 σ 42 0 (kIn σ 26 x)) 21 (iN x) (1 - σ 21 (iN x)) from if_neg (kIn_y hx)]
  have h := pic_strike (k := iN x) (hQ.fr hW (f42 (kIn σ 26 x))) (hW.fr (f42 (kIn σ 26 x))) hl
  exact ⟨ad, own, gh, h.1, h.2, hg, wx_strike (k := iN x) (hW.fr (f42 (kIn σ 26 x))) hl, rfl⟩
theorem wx_gift (hW : WX σ) (hk : k < iN (σ 30 0)) (x : Int32) : WX (st2 σ 29 k (σ 29 k + x)) := by
  have hh := heroR_lo (τ := st2 σ 29 k (σ 29 k + x)) hW rfl rfl rfl rfl rfl rfl
  have hl := fun r n => rLen_c (τ := st2 σ 29 k (σ 29 k + x)) (σ := σ) (r := r) rfl n
  refine ⟨hW.1, hW.2.1, hW.2.2.1, ⟨hW.2.2.2.1.1, hW.2.2.2.1.2.1, hW.2.2.2.1.2.2.1, hW.2.2.2.1.2.2.2.1, fun j hj => (st2_n (by have : iN (σ 30 0) ≤ j := hj; omega)).trans (hW.2.2.2.1.2.2.2.2 j hj)⟩, hW.2.2.2.2.1, fun r => ?_, ?_⟩
  · rw [hl]
    exact hW.2.2.2.2.2.1 r
  · intro r hr
    rw [hh]
    exact hW.2.2.2.2.2.2 r hr
theorem pic_gift (hQ : Pic g ad own gh σ C) (hW : WX σ) (hk : k < iN (σ 30 0)) (x : Int32) : Pic g ad own gh (st2 σ 29 k (σ 29 k + x)) (sg_ov C [(ad 16 k, .inr (4, [.ref (ad 11 (iN (σ 27 k))), .int (σ 28 k), .int (σ 29 k + x)]))]) ∧ Frm own own C (sg_ov C [(ad 16 k, .inr (4, [.ref (ad 11 (iN (σ 27 k))), .int (σ 28 k), .int (σ 29 k + x)]))]) := by
  have hh := heroR_lo (τ := st2 σ 29 k (σ 29 k + x)) hW rfl rfl rfl rfl rfl rfl
  exact hQ.put (gh' := gh) (σ' := st2 σ 29 k (σ 29 k + x)) [((16, k), .inr (4, [.ref (ad 11 (iN (σ 27 k))), .int (σ 28 k), .int (σ 29 k + x)]))] (fun t ht => by rcases List.mem_singleton.mp ht with rfl; exact ⟨_, ct16 hk⟩) ⟨List.not_mem_nil, trivial⟩ (fun t ht => by rcases List.mem_singleton.mp ht with rfl; exact (if_pos hk).trans (by rw [st2_s]; rfl)) (fun i k' hm => by
    rcases Nat.lt_or_ge i 20 with h20 | h20
    · match i, h20 with
      | 0, _ => first | (simp only [cont]; done) | (simp only [cont]; rfl)
      | 1, _ => first | (simp only [cont]; done) | (simp only [cont]; rfl)
      | 2, _ => first | (simp only [cont]; done) | (simp only [cont]; rfl)
      | 3, _ => first | (simp only [cont]; done) | (simp only [cont]; rfl)
      | 4, _ => first | (simp only [cont]; done) | (simp only [cont]; rfl)
      | 5, _ => first | (simp only [cont]; done) | (simp only [cont]; rfl)
      | 6, _ => first | (simp only [cont]; done) | (simp only [cont]; rfl)
      | 7, _ => first | (simp only [cont]; done) | (simp only [cont]; rfl)
      | 8, _ => first | (simp only [cont]; done) | (simp only [cont]; rfl)
      | 9, _ => first | (simp only [cont]; done) | (simp only [cont]; rfl)
      | 10, _ => simp only [cont]; first | (rw [hh]; done) | (rw [hh]; rfl)
      | 11, _ => first | (simp only [cont]; done) | (simp only [cont]; rfl)
      | 12, _ => first | (simp only [cont]; done) | (simp only [cont]; rfl)
      | 13, _ => first | (simp only [cont]; done) | (simp only [cont]; rfl)
      | 14, _ => first | (simp only [cont]; done) | (simp only [cont]; rfl)
      | 15, _ => first | (simp only [cont]; done) | (simp only [cont]; rfl)
      | 16, _ => have hk' : k' ≠ k := fun q => hm (by rw [q]; exact List.mem_singleton.mpr rfl); simp only [cont]; rw [st2_n hk']; rfl
      | 17, _ => first | (simp only [cont]; done) | (simp only [cont]; rfl)
      | 18, _ => first | (simp only [cont]; done) | (simp only [cont]; rfl)
      | 19, _ => first | (simp only [cont]; done) | (simp only [cont]; rfl)
      | n + 20, h => exact absurd h (by omega)
    · rw [cont_x i k' h20, cont_x i k' h20])
theorem ph_gift (hQ : Pic g ad own gh σ C) (hW : WX σ) (hg : gOk gh) {a : Int32} (hl : iN x < iN (σ 30 0)) (hk : ¬ 0 < kGift σ x a) : PH g (ad 0 0) own C (fGift σ x a) (sg_ov C [(ad 16 (iN x), .inr (4, [.ref (ad 11 (iN (σ 27 (iN x)))), .int (σ 28 (iN x)), .int (σ 29 (iN x) + a)]))]) := by
  rw [show fGift σ x a = st2 (st2 σ 42 0 (kGift σ x a)) 29 (iN x) (σ 29 (iN x) + a) from if_neg hk]
  have h := pic_gift (k := iN x) (hQ.fr hW (f42 (kGift σ x a))) (hW.fr (f42 (kGift σ x a))) hl a
  exact ⟨ad, own, gh, h.1, h.2, hg, wx_gift (k := iN x) (hW.fr (f42 (kGift σ x a))) hl a, rfl⟩
theorem day_up {d t x : Int32} (h : t ≤ d) (h0 : 0 ≤ d ∧ d ≤ 1000) (hx : 1 ≤ x ∧ x ≤ 100) : t ≤ d + x ∧ 0 ≤ d + x := by
  obtain ⟨a, ha, rfl⟩ := nI_of (Int32.not_lt.mpr h0.1)
  have ha2 : a ≤ 1000 := (nI_leI (b := 1000) ha (by decide)).mp h0.2
  obtain ⟨b, hb, rfl⟩ := nI_of (x := x) (Int32.not_lt.mpr (Int32.le_trans (by decide) hx.1))
  have hb2 : b ≤ 100 := (nI_leI (b := 100) hb (by decide)).mp hx.2
  rw [nI_add]
  exact ⟨Int32.le_trans h (nI_le (by omega) (by omega)), nI_pos' (by omega)⟩
theorem wx_pass (hW : WX σ) (hx : 1 ≤ x ∧ x ≤ 100) (h1 : ¬ 1000 < σ 31 0 + x) : WX (st2 σ 31 0 (σ 31 0 + x)) := by
  have hh := heroR_lo (τ := st2 σ 31 0 (σ 31 0 + x)) hW rfl rfl rfl rfl rfl rfl
  have hl := fun r n => rLen_c (τ := st2 σ 31 0 (σ 31 0 + x)) (σ := σ) (r := r) rfl n
  refine ⟨hW.1, ⟨hW.2.1.1, fun j hj => ⟨(hW.2.1.2.1 j hj).1, (day_up (hW.2.1.2.1 j hj).2 hW.2.1.2.2 hx).1⟩, (day_up (Int32.le_refl (σ 31 0)) hW.2.1.2.2 hx).2, Int32.not_lt.mp h1⟩, hW.2.2.1, hW.2.2.2.1, hW.2.2.2.2.1, fun r => ?_, ?_⟩
  · rw [hl]
    exact hW.2.2.2.2.2.1 r
  · intro r hr
    rw [hh]
    exact hW.2.2.2.2.2.2 r hr
theorem pic_pass (hQ : Pic g ad own gh σ C) (hW : WX σ) (x : Int32) : Pic g ad own gh (st2 σ 31 0 (σ 31 0 + x)) (sg_ov C [(ad 0 0, .inr (8, [.ref (ad 1 0), .ref (ad 1 1), .ref (ad 1 2), .ref (ad 1 3), .ref (ad 1 4), .int (σ 31 0 + x), .ref (ad 17 0), .ref (ad 18 0), .ref (ad 19 0)]))]) ∧ Frm own own C (sg_ov C [(ad 0 0, .inr (8, [.ref (ad 1 0), .ref (ad 1 1), .ref (ad 1 2), .ref (ad 1 3), .ref (ad 1 4), .int (σ 31 0 + x), .ref (ad 17 0), .ref (ad 18 0), .ref (ad 19 0)]))]) := by
  have hh := heroR_lo (τ := st2 σ 31 0 (σ 31 0 + x)) hW rfl rfl rfl rfl rfl rfl
  exact hQ.put (gh' := gh) (σ' := st2 σ 31 0 (σ 31 0 + x)) [((0, 0), .inr (8, [.ref (ad 1 0), .ref (ad 1 1), .ref (ad 1 2), .ref (ad 1 3), .ref (ad 1 4), .int (σ 31 0 + x), .ref (ad 17 0), .ref (ad 18 0), .ref (ad 19 0)]))] (fun t ht => by rcases List.mem_singleton.mp ht with rfl; exact ⟨_, ct0⟩) ⟨List.not_mem_nil, trivial⟩ (fun t ht => by rcases List.mem_singleton.mp ht with rfl; exact rfl) (fun i k' hm => by
    rcases Nat.lt_or_ge i 20 with h20 | h20
    · match i, h20 with
      | 0, _ => have hk' : k' ≠ 0 := fun q => hm (by rw [q]; exact List.mem_singleton.mpr rfl); simp only [cont]; rw [if_neg hk', if_neg hk']
      | 1, _ => first | (simp only [cont]; done) | (simp only [cont]; rfl)
      | 2, _ => first | (simp only [cont]; done) | (simp only [cont]; rfl)
      | 3, _ => first | (simp only [cont]; done) | (simp only [cont]; rfl)
      | 4, _ => first | (simp only [cont]; done) | (simp only [cont]; rfl)
      | 5, _ => first | (simp only [cont]; done) | (simp only [cont]; rfl)
      | 6, _ => first | (simp only [cont]; done) | (simp only [cont]; rfl)
      | 7, _ => first | (simp only [cont]; done) | (simp only [cont]; rfl)
      | 8, _ => first | (simp only [cont]; done) | (simp only [cont]; rfl)
      | 9, _ => first | (simp only [cont]; done) | (simp only [cont]; rfl)
      | 10, _ => simp only [cont]; first | (rw [hh]; done) | (rw [hh]; rfl)
      | 11, _ => first | (simp only [cont]; done) | (simp only [cont]; rfl)
      | 12, _ => first | (simp only [cont]; done) | (simp only [cont]; rfl)
      | 13, _ => first | (simp only [cont]; done) | (simp only [cont]; rfl)
      | 14, _ => first | (simp only [cont]; done) | (simp only [cont]; rfl)
      | 15, _ => first | (simp only [cont]; done) | (simp only [cont]; rfl)
      | 16, _ => first | (simp only [cont]; done) | (simp only [cont]; rfl)
      | 17, _ => first | (simp only [cont]; done) | (simp only [cont]; rfl)
      | 18, _ => first | (simp only [cont]; done) | (simp only [cont]; rfl)
      | 19, _ => first | (simp only [cont]; done) | (simp only [cont]; rfl)
      | n + 20, h => exact absurd h (by omega)
    · rw [cont_x i k' h20, cont_x i k' h20])
theorem ph_pass (hQ : Pic g ad own gh σ C) (hW : WX σ) (hg : gOk gh) (hx : rRngP x) (h1 : ¬ 1000 < σ 31 0 + x) : ¬ 0 < kPass σ x ∧ vPass σ x = σ 31 0 + x ∧ PH g (ad 0 0) own C (fPass σ x) (sg_ov C [(ad 0 0, .inr (8, [.ref (ad 1 0), .ref (ad 1 1), .ref (ad 1 2), .ref (ad 1 3), .ref (ad 1 4), .int (σ 31 0 + x), .ref (ad 17 0), .ref (ad 18 0), .ref (ad 19 0)]))]) := by
  have k : kPass σ x = 0 := (if_neg (fun q => q hx)).trans (if_neg h1)
  have hk : ¬ 0 < kPass σ x := by rw [k]; decide
  refine ⟨hk, if_neg hk, ?_⟩
  rw [show fPass σ x = st2 (st2 σ 42 0 (kPass σ x)) 31 0 (σ 31 0 + x) from if_neg hk]
  have h := pic_pass (hQ.fr hW (f42 (kPass σ x))) (hW.fr (f42 (kPass σ x))) x
  exact ⟨ad, own, gh, h.1, h.2, hg, wx_pass (hW.fr (f42 (kPass σ x))) hx h1, rfl⟩
end MUT
