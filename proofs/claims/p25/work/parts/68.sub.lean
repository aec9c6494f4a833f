section GROWC
variable {g : sg_G} {ad : Ad} {own : Nat → Option (Nat × Nat)} {gh : Gh} {σ τ : Mem} {C : Nat → Option va_E} {x y z : Int32} {a k c r n : Nat}
theorem sb6 (j : Nat) : oSubmit σ x y z 6 j = if j = iN y then 1 else σ 6 j := cond_beq j (iN y) 1 (σ 6 j)
theorem sb17 (j : Nat) : oSubmit σ x y z 17 j = if j = iN (σ 26 0) then y else σ 17 j := cond_beq j (iN (σ 26 0)) y (σ 17 j)
theorem sb18 (j : Nat) : oSubmit σ x y z 18 j = if j = iN (σ 26 0) then x else σ 18 j := cond_beq j (iN (σ 26 0)) x (σ 18 j)
theorem sb19 (j : Nat) : oSubmit σ x y z 19 j = if j = iN (σ 26 0) then z else σ 19 j := cond_beq j (iN (σ 26 0)) z (σ 19 j)
theorem sb20 (j : Nat) : oSubmit σ x y z 20 j = if j = iN (σ 26 0) then σ 31 0 else σ 20 j := cond_beq j (iN (σ 26 0)) (σ 31 0) (σ 20 j)
theorem sb22 (j : Nat) : oSubmit σ x y z 22 j = if j = iN (σ 26 0) then σ 40 0 else σ 22 j := cond_beq j (iN (σ 26 0)) (σ 40 0) (σ 22 j)
theorem sb23 (j : Nat) : oSubmit σ x y z 23 j = if j = iN (σ 26 0) then rPurse (σ 37 0) 32 else σ 23 j := cond_beq j (iN (σ 26 0)) (rPurse (σ 37 0) 32) (σ 23 j)
theorem sb24 (j : Nat) : oSubmit σ x y z 24 j = if j = iN (σ 26 0) then σ 38 0 else σ 24 j := cond_beq j (iN (σ 26 0)) (σ 38 0) (σ 24 j)
theorem sb25 (j : Nat) : oSubmit σ x y z 25 j = if j = iN (σ 26 0) then σ 39 0 else σ 25 j := cond_beq j (iN (σ 26 0)) (σ 39 0) (σ 25 j)
abbrev T_sub (g : sg_G) (ad : Ad) (σ : Mem) (x : Int32) (n r k w b : Nat) : List Tc := [((2, 3), b, sg_qa g (sg_cap (n + 1)) (sg_tr (sg_fu (ad 15) n w) (n + 1))), ((1, 3), ad 1 3, .inr (0, [.int (nI (n + 1)), .ref b, .int (nI (n + 1))])), ((15, n), w, .inr (7, [.int (nI n), .int x, .ref (ad 7 r), .ref (ad 11 k), .int (σ 31 0), .int (heroR σ r 10), .int 0])), ((7, r), ad 7 r, .inr (5, [.ref (ad 3 (iN (σ 3 r))), .ref (ad 8 r), .ref (ad 9 r), .ref (ad 10 r), .int (σ 4 r), .int (σ 5 r), .int 1]))]
theorem ho_sub_0 (hW : WX σ) (hn : n = iN (σ 26 0)) (hr : r = iN y) (hrl : r < iN (σ 9 0)) (hkz : k = iN z) (h40 : σ 40 0 = heroR σ r 10) {w b : Nat} (k' : Nat) (hm : (0, k') ∉ (T_sub g ad σ x n r k w b).map (fun t => t.1)) : cont g (adT ad (T_sub g ad σ x n r k w b)) gh (oSubmit σ x y z) 0 k' = cont g ad gh σ 0 k' := by
  have hu := nI_up (k := 26) hW.1.2.2.2.1 (by decide)
  rw [← hn] at hu
  have hh := heroR_lo (τ := oSubmit σ x y z) hW rfl rfl rfl rfl rfl rfl
  have h7 : ∀ i, adT ad (T_sub g ad σ x n r k w b) 7 i = ad 7 i := fun i => (cond_beq i r (ad 7 r) (ad 7 i)).trans (by
    by_cases q : i = r
    · rw [q, if_pos rfl]
    · rw [if_neg q])
  have hls : ∀ k', k' ≠ 3 → lsN (oSubmit σ x y z) k' = lsN σ k' := by
    intro k' h
    match k', h with
    | 0, h => exact (show iN (σ 2 0) = iN (σ 2 0) from rfl)
    | 1, h => exact (show iN (σ 9 0) = iN (σ 9 0) from rfl)
    | 2, h => exact (show iN (σ 16 0) = iN (σ 16 0) from rfl)
    | 3, h => exact absurd rfl h
    | n + 4, h => exact (show iN (σ 30 0) = iN (σ 30 0) from rfl)
  first | (simp only [cont]; done) | (simp only [cont]; rfl)
theorem ho_sub_1 (hW : WX σ) (hn : n = iN (σ 26 0)) (hr : r = iN y) (hrl : r < iN (σ 9 0)) (hkz : k = iN z) (h40 : σ 40 0 = heroR σ r 10) {w b : Nat} (k' : Nat) (hm : (1, k') ∉ (T_sub g ad σ x n r k w b).map (fun t => t.1)) : cont g (adT ad (T_sub g ad σ x n r k w b)) gh (oSubmit σ x y z) 1 k' = cont g ad gh σ 1 k' := by
  have hu := nI_up (k := 26) hW.1.2.2.2.1 (by decide)
  rw [← hn] at hu
  have hh := heroR_lo (τ := oSubmit σ x y z) hW rfl rfl rfl rfl rfl rfl
  have h7 : ∀ i, adT ad (T_sub g ad σ x n r k w b) 7 i = ad 7 i := fun i => (cond_beq i r (ad 7 r) (ad 7 i)).trans (by
    by_cases q : i = r
    · rw [q, if_pos rfl]
    · rw [if_neg q])
  have hls : ∀ k', k' ≠ 3 → lsN (oSubmit σ x y z) k' = lsN σ k' := by
    intro k' h
    match k', h with
    | 0, h => exact (show iN (σ 2 0) = iN (σ 2 0) from rfl)
    | 1, h => exact (show iN (σ 9 0) = iN (σ 9 0) from rfl)
    | 2, h => exact (show iN (σ 16 0) = iN (σ 16 0) from rfl)
    | 3, h => exact absurd rfl h
    | n + 4, h => exact (show iN (σ 30 0) = iN (σ 30 0) from rfl)
  exact (by
        have hk' : k' ≠ 3 := fun q => hm (by rw [q]; simp [T_sub])
        show (if k' < 5 then some (cL g (lsN (oSubmit σ x y z) k') (adT ad (T_sub g ad σ x n r k w b) 2 k')) else none) = (if k' < 5 then some (cL g (lsN σ k') (ad 2 k')) else none)
        by_cases h5 : k' < 5
        · rw [if_pos h5, if_pos h5, hls k' hk', (adT_out (i := 2) (k := k') (by first | (simp [T_sub]; done) | (simp [T_sub]; omega)))]
        · rw [if_neg h5, if_neg h5])
theorem ho_sub_2 (hW : WX σ) (hn : n = iN (σ 26 0)) (hr : r = iN y) (hrl : r < iN (σ 9 0)) (hkz : k = iN z) (h40 : σ 40 0 = heroR σ r 10) {w b : Nat} (k' : Nat) (hm : (2, k') ∉ (T_sub g ad σ x n r k w b).map (fun t => t.1)) : cont g (adT ad (T_sub g ad σ x n r k w b)) gh (oSubmit σ x y z) 2 k' = cont g ad gh σ 2 k' := by
  have hu := nI_up (k := 26) hW.1.2.2.2.1 (by decide)
  rw [← hn] at hu
  have hh := heroR_lo (τ := oSubmit σ x y z) hW rfl rfl rfl rfl rfl rfl
  have h7 : ∀ i, adT ad (T_sub g ad σ x n r k w b) 7 i = ad 7 i := fun i => (cond_beq i r (ad 7 r) (ad 7 i)).trans (by
    by_cases q : i = r
    · rw [q, if_pos rfl]
    · rw [if_neg q])
  have hls : ∀ k', k' ≠ 3 → lsN (oSubmit σ x y z) k' = lsN σ k' := by
    intro k' h
    match k', h with
    | 0, h => exact (show iN (σ 2 0) = iN (σ 2 0) from rfl)
    | 1, h => exact (show iN (σ 9 0) = iN (σ 9 0) from rfl)
    | 2, h => exact (show iN (σ 16 0) = iN (σ 16 0) from rfl)
    | 3, h => exact absurd rfl h
    | n + 4, h => exact (show iN (σ 30 0) = iN (σ 30 0) from rfl)
  exact (by
        have hk' : k' ≠ 3 := fun q => hm (by rw [q]; simp [T_sub])
        show (if k' < 5 then cA g (lsN (oSubmit σ x y z) k') (adT ad (T_sub g ad σ x n r k w b) (lsE k')) else none) = (if k' < 5 then cA g (lsN σ k') (ad (lsE k')) else none)
        by_cases h5 : k' < 5
        · rw [if_pos h5, if_pos h5, hls k' hk']
          have h6 : k' = 0 ∨ k' = 1 ∨ k' = 2 ∨ k' = 4 := by omega
          rcases h6 with rfl | rfl | rfl | rfl
          · rfl
          · rw [show adT ad (T_sub g ad σ x n r k w b) (lsE 1) = ad (lsE 1) from funext fun i => h7 i]
          · rfl
          · rfl
        · rw [if_neg h5, if_neg h5])
theorem ho_sub_3 (hW : WX σ) (hn : n = iN (σ 26 0)) (hr : r = iN y) (hrl : r < iN (σ 9 0)) (hkz : k = iN z) (h40 : σ 40 0 = heroR σ r 10) {w b : Nat} (k' : Nat) (hm : (3, k') ∉ (T_sub g ad σ x n r k w b).map (fun t => t.1)) : cont g (adT ad (T_sub g ad σ x n r k w b)) gh (oSubmit σ x y z) 3 k' = cont g ad gh σ 3 k' := by
  have hu := nI_up (k := 26) hW.1.2.2.2.1 (by decide)
  rw [← hn] at hu
  have hh := heroR_lo (τ := oSubmit σ x y z) hW rfl rfl rfl rfl rfl rfl
  have h7 : ∀ i, adT ad (T_sub g ad σ x n r k w b) 7 i = ad 7 i := fun i => (cond_beq i r (ad 7 r) (ad 7 i)).trans (by
    by_cases q : i = r
    · rw [q, if_pos rfl]
    · rw [if_neg q])
  have hls : ∀ k', k' ≠ 3 → lsN (oSubmit σ x y z) k' = lsN σ k' := by
    intro k' h
    match k', h with
    | 0, h => exact (show iN (σ 2 0) = iN (σ 2 0) from rfl)
    | 1, h => exact (show iN (σ 9 0) = iN (σ 9 0) from rfl)
    | 2, h => exact (show iN (σ 16 0) = iN (σ 16 0) from rfl)
    | 3, h => exact absurd rfl h
    | n + 4, h => exact (show iN (σ 30 0) = iN (σ 30 0) from rfl)
  first | (simp only [cont]; done) | (simp only [cont]; rfl)
theorem ho_sub_4 (hW : WX σ) (hn : n = iN (σ 26 0)) (hr : r = iN y) (hrl : r < iN (σ 9 0)) (hkz : k = iN z) (h40 : σ 40 0 = heroR σ r 10) {w b : Nat} (k' : Nat) (hm : (4, k') ∉ (T_sub g ad σ x n r k w b).map (fun t => t.1)) : cont g (adT ad (T_sub g ad σ x n r k w b)) gh (oSubmit σ x y z) 4 k' = cont g ad gh σ 4 k' := by
  have hu := nI_up (k := 26) hW.1.2.2.2.1 (by decide)
  rw [← hn] at hu
  have hh := heroR_lo (τ := oSubmit σ x y z) hW rfl rfl rfl rfl rfl rfl
  have h7 : ∀ i, adT ad (T_sub g ad σ x n r k w b) 7 i = ad 7 i := fun i => (cond_beq i r (ad 7 r) (ad 7 i)).trans (by
    by_cases q : i = r
    · rw [q, if_pos rfl]
    · rw [if_neg q])
  have hls : ∀ k', k' ≠ 3 → lsN (oSubmit σ x y z) k' = lsN σ k' := by
    intro k' h
    match k', h with
    | 0, h => exact (show iN (σ 2 0) = iN (σ 2 0) from rfl)
    | 1, h => exact (show iN (σ 9 0) = iN (σ 9 0) from rfl)
    | 2, h => exact (show iN (σ 16 0) = iN (σ 16 0) from rfl)
    | 3, h => exact absurd rfl h
    | n + 4, h => exact (show iN (σ 30 0) = iN (σ 30 0) from rfl)
  first | (simp only [cont]; done) | (simp only [cont]; rfl)
theorem ho_sub_5 (hW : WX σ) (hn : n = iN (σ 26 0)) (hr : r = iN y) (hrl : r < iN (σ 9 0)) (hkz : k = iN z) (h40 : σ 40 0 = heroR σ r 10) {w b : Nat} (k' : Nat) (hm : (5, k') ∉ (T_sub g ad σ x n r k w b).map (fun t => t.1)) : cont g (adT ad (T_sub g ad σ x n r k w b)) gh (oSubmit σ x y z) 5 k' = cont g ad gh σ 5 k' := by
  have hu := nI_up (k := 26) hW.1.2.2.2.1 (by decide)
  rw [← hn] at hu
  have hh := heroR_lo (τ := oSubmit σ x y z) hW rfl rfl rfl rfl rfl rfl
  have h7 : ∀ i, adT ad (T_sub g ad σ x n r k w b) 7 i = ad 7 i := fun i => (cond_beq i r (ad 7 r) (ad 7 i)).trans (by
    by_cases q : i = r
    · rw [q, if_pos rfl]
    · rw [if_neg q])
  have hls : ∀ k', k' ≠ 3 → lsN (oSubmit σ x y z) k' = lsN σ k' := by
    intro k' h
    match k', h with
    | 0, h => exact (show iN (σ 2 0) = iN (σ 2 0) from rfl)
    | 1, h => exact (show iN (σ 9 0) = iN (σ 9 0) from rfl)
    | 2, h => exact (show iN (σ 16 0) = iN (σ 16 0) from rfl)
    | 3, h => exact absurd rfl h
    | n + 4, h => exact (show iN (σ 30 0) = iN (σ 30 0) from rfl)
  first | (simp only [cont]; done) | (simp only [cont]; rfl)
theorem ho_sub_6 (hW : WX σ) (hn : n = iN (σ 26 0)) (hr : r = iN y) (hrl : r < iN (σ 9 0)) (hkz : k = iN z) (h40 : σ 40 0 = heroR σ r 10) {w b : Nat} (k' : Nat) (hm : (6, k') ∉ (T_sub g ad σ x n r k w b).map (fun t => t.1)) : cont g (adT ad (T_sub g ad σ x n r k w b)) gh (oSubmit σ x y z) 6 k' = cont g ad gh σ 6 k' := by
  have hu := nI_up (k := 26) hW.1.2.2.2.1 (by decide)
  rw [← hn] at hu
  have hh := heroR_lo (τ := oSubmit σ x y z) hW rfl rfl rfl rfl rfl rfl
  have h7 : ∀ i, adT ad (T_sub g ad σ x n r k w b) 7 i = ad 7 i := fun i => (cond_beq i r (ad 7 r) (ad 7 i)).trans (by
    by_cases q : i = r
    · rw [q, if_pos rfl]
    · rw [if_neg q])
  have hls : ∀ k', k' ≠ 3 → lsN (oSubmit σ x y z) k' = lsN σ k' := by
    intro k' h
    match k', h with
    | 0, h => exact (show iN (σ 2 0) = iN (σ 2 0) from rfl)
    | 1, h => exact (show iN (σ 9 0) = iN (σ 9 0) from rfl)
    | 2, h => exact (show iN (σ 16 0) = iN (σ 16 0) from rfl)
    | 3, h => exact absurd rfl h
    | n + 4, h => exact (show iN (σ 30 0) = iN (σ 30 0) from rfl)
  first | (simp only [cont]; done) | (simp only [cont]; rfl)
theorem ho_sub_7 (hW : WX σ) (hn : n = iN (σ 26 0)) (hr : r = iN y) (hrl : r < iN (σ 9 0)) (hkz : k = iN z) (h40 : σ 40 0 = heroR σ r 10) {w b : Nat} (k' : Nat) (hm : (7, k') ∉ (T_sub g ad σ x n r k w b).map (fun t => t.1)) : cont g (adT ad (T_sub g ad σ x n r k w b)) gh (oSubmit σ x y z) 7 k' = cont g ad gh σ 7 k' := by
  have hu := nI_up (k := 26) hW.1.2.2.2.1 (by decide)
  rw [← hn] at hu
  have hh := heroR_lo (τ := oSubmit σ x y z) hW rfl rfl rfl rfl rfl rfl
  have h7 : ∀ i, adT ad (T_sub g ad σ x n r k w b) 7 i = ad 7 i := fun i => (cond_beq i r (ad 7 r) (ad 7 i)).trans (by
    by_cases q : i = r
    · rw [q, if_pos rfl]
    · rw [if_neg q])
  have hls : ∀ k', k' ≠ 3 → lsN (oSubmit σ x y z) k' = lsN σ k' := by
    intro k' h
    match k', h with
    | 0, h => exact (show iN (σ 2 0) = iN (σ 2 0) from rfl)
    | 1, h => exact (show iN (σ 9 0) = iN (σ 9 0) from rfl)
    | 2, h => exact (show iN (σ 16 0) = iN (σ 16 0) from rfl)
    | 3, h => exact absurd rfl h
    | n + 4, h => exact (show iN (σ 30 0) = iN (σ 30 0) from rfl)
  exact (by
        have hk' : ¬ k' = iN y := fun q => hm (by rw [q, ← hr]; simp [T_sub])
        show (if k' < iN (σ 9 0) then some (Sum.inr (5, [.ref (ad 3 (iN (σ 3 k'))), .ref (ad 8 k'), .ref (ad 9 k'), .ref (ad 10 k'), .int (σ 4 k'), .int (σ 5 k'), .int (oSubmit σ x y z 6 k')]) : va_E) else none) = (if k' < iN (σ 9 0) then some (Sum.inr (5, [.ref (ad 3 (iN (σ 3 k'))), .ref (ad 8 k'), .ref (ad 9 k'), .ref (ad 10 k'), .int (σ 4 k'), .int (σ 5 k'), .int (σ 6 k')]) : va_E) else none)
        rw [sb6, if_neg hk'])
theorem ho_sub_8 (hW : WX σ) (hn : n = iN (σ 26 0)) (hr : r = iN y) (hrl : r < iN (σ 9 0)) (hkz : k = iN z) (h40 : σ 40 0 = heroR σ r 10) {w b : Nat} (k' : Nat) (hm : (8, k') ∉ (T_sub g ad σ x n r k w b).map (fun t => t.1)) : cont g (adT ad (T_sub g ad σ x n r k w b)) gh (oSubmit σ x y z) 8 k' = cont g ad gh σ 8 k' := by
  have hu := nI_up (k := 26) hW.1.2.2.2.1 (by decide)
  rw [← hn] at hu
  have hh := heroR_lo (τ := oSubmit σ x y z) hW rfl rfl rfl rfl rfl rfl
  have h7 : ∀ i, adT ad (T_sub g ad σ x n r k w b) 7 i = ad 7 i := fun i => (cond_beq i r (ad 7 r) (ad 7 i)).trans (by
    by_cases q : i = r
    · rw [q, if_pos rfl]
    · rw [if_neg q])
  have hls : ∀ k', k' ≠ 3 → lsN (oSubmit σ x y z) k' = lsN σ k' := by
    intro k' h
    match k', h with
    | 0, h => exact (show iN (σ 2 0) = iN (σ 2 0) from rfl)
    | 1, h => exact (show iN (σ 9 0) = iN (σ 9 0) from rfl)
    | 2, h => exact (show iN (σ 16 0) = iN (σ 16 0) from rfl)
    | 3, h => exact absurd rfl h
    | n + 4, h => exact (show iN (σ 30 0) = iN (σ 30 0) from rfl)
  first | (simp only [cont]; done) | (simp only [cont]; rfl)
theorem ho_sub_9 (hW : WX σ) (hn : n = iN (σ 26 0)) (hr : r = iN y) (hrl : r < iN (σ 9 0)) (hkz : k = iN z) (h40 : σ 40 0 = heroR σ r 10) {w b : Nat} (k' : Nat) (hm : (9, k') ∉ (T_sub g ad σ x n r k w b).map (fun t => t.1)) : cont g (adT ad (T_sub g ad σ x n r k w b)) gh (oSubmit σ x y z) 9 k' = cont g ad gh σ 9 k' := by
  have hu := nI_up (k := 26) hW.1.2.2.2.1 (by decide)
  rw [← hn] at hu
  have hh := heroR_lo (τ := oSubmit σ x y z) hW rfl rfl rfl rfl rfl rfl
  have h7 : ∀ i, adT ad (T_sub g ad σ x n r k w b) 7 i = ad 7 i := fun i => (cond_beq i r (ad 7 r) (ad 7 i)).trans (by
    by_cases q : i = r
    · rw [q, if_pos rfl]
    · rw [if_neg q])
  have hls : ∀ k', k' ≠ 3 → lsN (oSubmit σ x y z) k' = lsN σ k' := by
    intro k' h
    match k', h with
    | 0, h => exact (show iN (σ 2 0) = iN (σ 2 0) from rfl)
    | 1, h => exact (show iN (σ 9 0) = iN (σ 9 0) from rfl)
    | 2, h => exact (show iN (σ 16 0) = iN (σ 16 0) from rfl)
    | 3, h => exact absurd rfl h
    | n + 4, h => exact (show iN (σ 30 0) = iN (σ 30 0) from rfl)
  first | (simp only [cont]; done) | (simp only [cont]; rfl)
theorem ho_sub_10 (hW : WX σ) (hn : n = iN (σ 26 0)) (hr : r = iN y) (hrl : r < iN (σ 9 0)) (hkz : k = iN z) (h40 : σ 40 0 = heroR σ r 10) {w b : Nat} (k' : Nat) (hm : (10, k') ∉ (T_sub g ad σ x n r k w b).map (fun t => t.1)) : cont g (adT ad (T_sub g ad σ x n r k w b)) gh (oSubmit σ x y z) 10 k' = cont g ad gh σ 10 k' := by
  have hu := nI_up (k := 26) hW.1.2.2.2.1 (by decide)
  rw [← hn] at hu
  have hh := heroR_lo (τ := oSubmit σ x y z) hW rfl rfl rfl rfl rfl rfl
  have h7 : ∀ i, adT ad (T_sub g ad σ x n r k w b) 7 i = ad 7 i := fun i => (cond_beq i r (ad 7 r) (ad 7 i)).trans (by
    by_cases q : i = r
    · rw [q, if_pos rfl]
    · rw [if_neg q])
  have hls : ∀ k', k' ≠ 3 → lsN (oSubmit σ x y z) k' = lsN σ k' := by
    intro k' h
    match k', h with
    | 0, h => exact (show iN (σ 2 0) = iN (σ 2 0) from rfl)
    | 1, h => exact (show iN (σ 9 0) = iN (σ 9 0) from rfl)
    | 2, h => exact (show iN (σ 16 0) = iN (σ 16 0) from rfl)
    | 3, h => exact absurd rfl h
    | n + 4, h => exact (show iN (σ 30 0) = iN (σ 30 0) from rfl)
  simp only [cont]; rw [hh]; rfl
theorem ho_sub_11 (hW : WX σ) (hn : n = iN (σ 26 0)) (hr : r = iN y) (hrl : r < iN (σ 9 0)) (hkz : k = iN z) (h40 : σ 40 0 = heroR σ r 10) {w b : Nat} (k' : Nat) (hm : (11, k') ∉ (T_sub g ad σ x n r k w b).map (fun t => t.1)) : cont g (adT ad (T_sub g ad σ x n r k w b)) gh (oSubmit σ x y z) 11 k' = cont g ad gh σ 11 k' := by
  have hu := nI_up (k := 26) hW.1.2.2.2.1 (by decide)
  rw [← hn] at hu
  have hh := heroR_lo (τ := oSubmit σ x y z) hW rfl rfl rfl rfl rfl rfl
  have h7 : ∀ i, adT ad (T_sub g ad σ x n r k w b) 7 i = ad 7 i := fun i => (cond_beq i r (ad 7 r) (ad 7 i)).trans (by
    by_cases q : i = r
    · rw [q, if_pos rfl]
    · rw [if_neg q])
  have hls : ∀ k', k' ≠ 3 → lsN (oSubmit σ x y z) k' = lsN σ k' := by
    intro k' h
    match k', h with
    | 0, h => exact (show iN (σ 2 0) = iN (σ 2 0) from rfl)
    | 1, h => exact (show iN (σ 9 0) = iN (σ 9 0) from rfl)
    | 2, h => exact (show iN (σ 16 0) = iN (σ 16 0) from rfl)
    | 3, h => exact absurd rfl h
    | n + 4, h => exact (show iN (σ 30 0) = iN (σ 30 0) from rfl)
  first | (simp only [cont]; done) | (simp only [cont]; rfl)
theorem ho_sub_12 (hW : WX σ) (hn : n = iN (σ 26 0)) (hr : r = iN y) (hrl : r < iN (σ 9 0)) (hkz : k = iN z) (h40 : σ 40 0 = heroR σ r 10) {w b : Nat} (k' : Nat) (hm : (12, k') ∉ (T_sub g ad σ x n r k w b).map (fun t => t.1)) : cont g (adT ad (T_sub g ad σ x n r k w b)) gh (oSubmit σ x y z) 12 k' = cont g ad gh σ 12 k' := by
  have hu := nI_up (k := 26) hW.1.2.2.2.1 (by decide)
  rw [← hn] at hu
  have hh := heroR_lo (τ := oSubmit σ x y z) hW rfl rfl rfl rfl rfl rfl
  have h7 : ∀ i, adT ad (T_sub g ad σ x n r k w b) 7 i = ad 7 i := fun i => (cond_beq i r (ad 7 r) (ad 7 i)).trans (by
    by_cases q : i = r
    · rw [q, if_pos rfl]
    · rw [if_neg q])
  have hls : ∀ k', k' ≠ 3 → lsN (oSubmit σ x y z) k' = lsN σ k' := by
    intro k' h
    match k', h with
    | 0, h => exact (show iN (σ 2 0) = iN (σ 2 0) from rfl)
    | 1, h => exact (show iN (σ 9 0) = iN (σ 9 0) from rfl)
    | 2, h => exact (show iN (σ 16 0) = iN (σ 16 0) from rfl)
    | 3, h => exact absurd rfl h
    | n + 4, h => exact (show iN (σ 30 0) = iN (σ 30 0) from rfl)
  first | (simp only [cont]; done) | (simp only [cont]; rfl)
theorem ho_sub_13 (hW : WX σ) (hn : n = iN (σ 26 0)) (hr : r = iN y) (hrl : r < iN (σ 9 0)) (hkz : k = iN z) (h40 : σ 40 0 = heroR σ r 10) {w b : Nat} (k' : Nat) (hm : (13, k') ∉ (T_sub g ad σ x n r k w b).map (fun t => t.1)) : cont g (adT ad (T_sub g ad σ x n r k w b)) gh (oSubmit σ x y z) 13 k' = cont g ad gh σ 13 k' := by
  have hu := nI_up (k := 26) hW.1.2.2.2.1 (by decide)
  rw [← hn] at hu
  have hh := heroR_lo (τ := oSubmit σ x y z) hW rfl rfl rfl rfl rfl rfl
  have h7 : ∀ i, adT ad (T_sub g ad σ x n r k w b) 7 i = ad 7 i := fun i => (cond_beq i r (ad 7 r) (ad 7 i)).trans (by
    by_cases q : i = r
    · rw [q, if_pos rfl]
    · rw [if_neg q])
  have hls : ∀ k', k' ≠ 3 → lsN (oSubmit σ x y z) k' = lsN σ k' := by
    intro k' h
    match k', h with
    | 0, h => exact (show iN (σ 2 0) = iN (σ 2 0) from rfl)
    | 1, h => exact (show iN (σ 9 0) = iN (σ 9 0) from rfl)
    | 2, h => exact (show iN (σ 16 0) = iN (σ 16 0) from rfl)
    | 3, h => exact absurd rfl h
    | n + 4, h => exact (show iN (σ 30 0) = iN (σ 30 0) from rfl)
  first | (simp only [cont]; done) | (simp only [cont]; rfl)
theorem ho_sub_14 (hW : WX σ) (hn : n = iN (σ 26 0)) (hr : r = iN y) (hrl : r < iN (σ 9 0)) (hkz : k = iN z) (h40 : σ 40 0 = heroR σ r 10) {w b : Nat} (k' : Nat) (hm : (14, k') ∉ (T_sub g ad σ x n r k w b).map (fun t => t.1)) : cont g (adT ad (T_sub g ad σ x n r k w b)) gh (oSubmit σ x y z) 14 k' = cont g ad gh σ 14 k' := by
  have hu := nI_up (k := 26) hW.1.2.2.2.1 (by decide)
  rw [← hn] at hu
  have hh := heroR_lo (τ := oSubmit σ x y z) hW rfl rfl rfl rfl rfl rfl
  have h7 : ∀ i, adT ad (T_sub g ad σ x n r k w b) 7 i = ad 7 i := fun i => (cond_beq i r (ad 7 r) (ad 7 i)).trans (by
    by_cases q : i = r
    · rw [q, if_pos rfl]
    · rw [if_neg q])
  have hls : ∀ k', k' ≠ 3 → lsN (oSubmit σ x y z) k' = lsN σ k' := by
    intro k' h
    match k', h with
    | 0, h => exact (show iN (σ 2 0) = iN (σ 2 0) from rfl)
    | 1, h => exact (show iN (σ 9 0) = iN (σ 9 0) from rfl)
    | 2, h => exact (show iN (σ 16 0) = iN (σ 16 0) from rfl)
    | 3, h => exact absurd rfl h
    | n + 4, h => exact (show iN (σ 30 0) = iN (σ 30 0) from rfl)
  first | (simp only [cont]; done) | (simp only [cont]; rfl)
theorem ho_sub_15 (hW : WX σ) (hn : n = iN (σ 26 0)) (hr : r = iN y) (hrl : r < iN (σ 9 0)) (hkz : k = iN z) (h40 : σ 40 0 = heroR σ r 10) {w b : Nat} (k' : Nat) (hm : (15, k') ∉ (T_sub g ad σ x n r k w b).map (fun t => t.1)) : cont g (adT ad (T_sub g ad σ x n r k w b)) gh (oSubmit σ x y z) 15 k' = cont g ad gh σ 15 k' := by
  have hu := nI_up (k := 26) hW.1.2.2.2.1 (by decide)
  rw [← hn] at hu
  have hh := heroR_lo (τ := oSubmit σ x y z) hW rfl rfl rfl rfl rfl rfl
  have h7 : ∀ i, adT ad (T_sub g ad σ x n r k w b) 7 i = ad 7 i := fun i => (cond_beq i r (ad 7 r) (ad 7 i)).trans (by
    by_cases q : i = r
    · rw [q, if_pos rfl]
    · rw [if_neg q])
  have hls : ∀ k', k' ≠ 3 → lsN (oSubmit σ x y z) k' = lsN σ k' := by
    intro k' h
    match k', h with
    | 0, h => exact (show iN (σ 2 0) = iN (σ 2 0) from rfl)
    | 1, h => exact (show iN (σ 9 0) = iN (σ 9 0) from rfl)
    | 2, h => exact (show iN (σ 16 0) = iN (σ 16 0) from rfl)
    | 3, h => exact absurd rfl h
    | n + 4, h => exact (show iN (σ 30 0) = iN (σ 30 0) from rfl)
  exact (by
        have hk' : ¬ k' = iN (σ 26 0) := fun q => hm (by rw [q, ← hn]; simp [T_sub])
        show (if k' < iN (σ 26 0 + 1) then some (Sum.inr (7, [.int (nI k'), .int (oSubmit σ x y z 18 k'), .ref (adT ad (T_sub g ad σ x n r k w b) 7 (iN (oSubmit σ x y z 17 k'))), .ref (ad 11 (iN (oSubmit σ x y z 19 k'))), .int (oSubmit σ x y z 20 k'), .int (oSubmit σ x y z 22 k'), .int (σ 21 k')]) : va_E) else none) = (if k' < iN (σ 26 0) then some (Sum.inr (7, [.int (nI k'), .int (σ 18 k'), .ref (ad 7 (iN (σ 17 k'))), .ref (ad 11 (iN (σ 19 k'))), .int (σ 20 k'), .int (σ 22 k'), .int (σ 21 k')]) : va_E) else none)
        rw [sb18, sb17, sb19, sb20, sb22, if_neg hk', if_neg hk', if_neg hk', if_neg hk', if_neg hk', h7]
        exact ite_c (by rw [hu.2]; omega) rfl rfl)
theorem ho_sub_16 (hW : WX σ) (hn : n = iN (σ 26 0)) (hr : r = iN y) (hrl : r < iN (σ 9 0)) (hkz : k = iN z) (h40 : σ 40 0 = heroR σ r 10) {w b : Nat} (k' : Nat) (hm : (16, k') ∉ (T_sub g ad σ x n r k w b).map (fun t => t.1)) : cont g (adT ad (T_sub g ad σ x n r k w b)) gh (oSubmit σ x y z) 16 k' = cont g ad gh σ 16 k' := by
  have hu := nI_up (k := 26) hW.1.2.2.2.1 (by decide)
  rw [← hn] at hu
  have hh := heroR_lo (τ := oSubmit σ x y z) hW rfl rfl rfl rfl rfl rfl
  have h7 : ∀ i, adT ad (T_sub g ad σ x n r k w b) 7 i = ad 7 i := fun i => (cond_beq i r (ad 7 r) (ad 7 i)).trans (by
    by_cases q : i = r
    · rw [q, if_pos rfl]
    · rw [if_neg q])
  have hls : ∀ k', k' ≠ 3 → lsN (oSubmit σ x y z) k' = lsN σ k' := by
    intro k' h
    match k', h with
    | 0, h => exact (show iN (σ 2 0) = iN (σ 2 0) from rfl)
    | 1, h => exact (show iN (σ 9 0) = iN (σ 9 0) from rfl)
    | 2, h => exact (show iN (σ 16 0) = iN (σ 16 0) from rfl)
    | 3, h => exact absurd rfl h
    | n + 4, h => exact (show iN (σ 30 0) = iN (σ 30 0) from rfl)
  first | (simp only [cont]; done) | (simp only [cont]; rfl)
theorem ho_sub_17 (hW : WX σ) (hn : n = iN (σ 26 0)) (hr : r = iN y) (hrl : r < iN (σ 9 0)) (hkz : k = iN z) (h40 : σ 40 0 = heroR σ r 10) {w b : Nat} (k' : Nat) (hm : (17, k') ∉ (T_sub g ad σ x n r k w b).map (fun t => t.1)) : cont g (adT ad (T_sub g ad σ x n r k w b)) gh (oSubmit σ x y z) 17 k' = cont g ad gh σ 17 k' := by
  have hu := nI_up (k := 26) hW.1.2.2.2.1 (by decide)
  rw [← hn] at hu
  have hh := heroR_lo (τ := oSubmit σ x y z) hW rfl rfl rfl rfl rfl rfl
  have h7 : ∀ i, adT ad (T_sub g ad σ x n r k w b) 7 i = ad 7 i := fun i => (cond_beq i r (ad 7 r) (ad 7 i)).trans (by
    by_cases q : i = r
    · rw [q, if_pos rfl]
    · rw [if_neg q])
  have hls : ∀ k', k' ≠ 3 → lsN (oSubmit σ x y z) k' = lsN σ k' := by
    intro k' h
    match k', h with
    | 0, h => exact (show iN (σ 2 0) = iN (σ 2 0) from rfl)
    | 1, h => exact (show iN (σ 9 0) = iN (σ 9 0) from rfl)
    | 2, h => exact (show iN (σ 16 0) = iN (σ 16 0) from rfl)
    | 3, h => exact absurd rfl h
    | n + 4, h => exact (show iN (σ 30 0) = iN (σ 30 0) from rfl)
  first | (simp only [cont]; done) | (simp only [cont]; rfl)
theorem ho_sub_18 (hW : WX σ) (hn : n = iN (σ 26 0)) (hr : r = iN y) (hrl : r < iN (σ 9 0)) (hkz : k = iN z) (h40 : σ 40 0 = heroR σ r 10) {w b : Nat} (k' : Nat) (hm : (18, k') ∉ (T_sub g ad σ x n r k w b).map (fun t => t.1)) : cont g (adT ad (T_sub g ad σ x n r k w b)) gh (oSubmit σ x y z) 18 k' = cont g ad gh σ 18 k' := by
  have hu := nI_up (k := 26) hW.1.2.2.2.1 (by decide)
  rw [← hn] at hu
  have hh := heroR_lo (τ := oSubmit σ x y z) hW rfl rfl rfl rfl rfl rfl
  have h7 : ∀ i, adT ad (T_sub g ad σ x n r k w b) 7 i = ad 7 i := fun i => (cond_beq i r (ad 7 r) (ad 7 i)).trans (by
    by_cases q : i = r
    · rw [q, if_pos rfl]
    · rw [if_neg q])
  have hls : ∀ k', k' ≠ 3 → lsN (oSubmit σ x y z) k' = lsN σ k' := by
    intro k' h
    match k', h with
    | 0, h => exact (show iN (σ 2 0) = iN (σ 2 0) from rfl)
    | 1, h => exact (show iN (σ 9 0) = iN (σ 9 0) from rfl)
    | 2, h => exact (show iN (σ 16 0) = iN (σ 16 0) from rfl)
    | 3, h => exact absurd rfl h
    | n + 4, h => exact (show iN (σ 30 0) = iN (σ 30 0) from rfl)
  first | (simp only [cont]; done) | (simp only [cont]; rfl)
theorem ho_sub_19 (hW : WX σ) (hn : n = iN (σ 26 0)) (hr : r = iN y) (hrl : r < iN (σ 9 0)) (hkz : k = iN z) (h40 : σ 40 0 = heroR σ r 10) {w b : Nat} (k' : Nat) (hm : (19, k') ∉ (T_sub g ad σ x n r k w b).map (fun t => t.1)) : cont g (adT ad (T_sub g ad σ x n r k w b)) gh (oSubmit σ x y z) 19 k' = cont g ad gh σ 19 k' := by
  have hu := nI_up (k := 26) hW.1.2.2.2.1 (by decide)
  rw [← hn] at hu
  have hh := heroR_lo (τ := oSubmit σ x y z) hW rfl rfl rfl rfl rfl rfl
  have h7 : ∀ i, adT ad (T_sub g ad σ x n r k w b) 7 i = ad 7 i := fun i => (cond_beq i r (ad 7 r) (ad 7 i)).trans (by
    by_cases q : i = r
    · rw [q, if_pos rfl]
    · rw [if_neg q])
  have hls : ∀ k', k' ≠ 3 → lsN (oSubmit σ x y z) k' = lsN σ k' := by
    intro k' h
    match k', h with
    | 0, h => exact (show iN (σ 2 0) = iN (σ 2 0) from rfl)
    | 1, h => exact (show iN (σ 9 0) = iN (σ 9 0) from rfl)
    | 2, h => exact (show iN (σ 16 0) = iN (σ 16 0) from rfl)
    | 3, h => exact absurd rfl h
    | n + 4, h => exact (show iN (σ 30 0) = iN (σ 30 0) from rfl)
  first | (simp only [cont]; done) | (simp only [cont]; rfl)
theorem pic_sub (hQ : Pic g ad own gh σ C) (hW : WX σ) (hn : n = iN (σ 26 0)) (hr : r = iN y) (hrl : r < iN (σ 9 0)) (hkz : k = iN z) (h40 : σ 40 0 = heroR σ r 10) {w b : Nat} (hf_w : C w = none) (hb : (b = ad 2 3 ∧ 0 < lsN σ 3) ∨ C b = none) (hnd : sg_nd [b, ad 1 3, w, ad 7 r]) :
    Pic g (adT ad (T_sub g ad σ x n r k w b)) (ownT own (T_sub g ad σ x n r k w b)) gh (oSubmit σ x y z) (sg_ov C ((T_sub g ad σ x n r k w b).map (fun t => t.2))) ∧ Frm own (ownT own (T_sub g ad σ x n r k w b)) C (sg_ov C ((T_sub g ad σ x n r k w b).map (fun t => t.2))) := by
  have hu := nI_up (k := 26) hW.1.2.2.2.1 (by decide)
  rw [← hn] at hu
  have hh := heroR_lo (τ := oSubmit σ x y z) hW rfl rfl rfl rfl rfl rfl
  have h7 : ∀ i, adT ad (T_sub g ad σ x n r k w b) 7 i = ad 7 i := fun i => (cond_beq i r (ad 7 r) (ad 7 i)).trans (by
    by_cases q : i = r
    · rw [q, if_pos rfl]
    · rw [if_neg q])
  have hls : ∀ k', k' ≠ 3 → lsN (oSubmit σ x y z) k' = lsN σ k' := by
    intro k' h
    match k', h with
    | 0, h => exact (show iN (σ 2 0) = iN (σ 2 0) from rfl)
    | 1, h => exact (show iN (σ 9 0) = iN (σ 9 0) from rfl)
    | 2, h => exact (show iN (σ 16 0) = iN (σ 16 0) from rfl)
    | 3, h => exact absurd rfl h
    | n + 4, h => exact (show iN (σ 30 0) = iN (σ 30 0) from rfl)
  have hN : lsN (oSubmit σ x y z) 3 = n + 1 := hu.2
  have hM : nm_nd ((T_sub g ad σ x n r k w b).map (fun t => t.1)) := nm_of (show sg_nd [2, 1, 15, 7] from ⟨by decide, by decide, by decide, by decide, trivial⟩)
  refine hQ.touch (T_sub g ad σ x n r k w b) (List.forall_mem_cons.mpr ⟨(by rcases hb with ⟨q1, q2⟩ | q; exact .inr ⟨q1, _, ct2 (k := 3) (by decide) q2⟩; exact .inl q), List.forall_mem_cons.mpr ⟨(.inr ⟨rfl, _, ct1 (k := 3) (by decide)⟩), List.forall_mem_cons.mpr ⟨(.inl hf_w), List.forall_mem_cons.mpr ⟨(.inr ⟨rfl, _, ct7 hrl⟩), fun _ h => absurd h List.not_mem_nil⟩⟩⟩⟩) hnd hM (List.forall_mem_cons.mpr ⟨(by
    show (if 3 < 5 then cA g (lsN (oSubmit σ x y z) 3) (adT ad (T_sub g ad σ x n r k w b) 15) else none) = _
    rw [if_pos (by decide), hN]
    show (if 0 < n + 1 then some (sg_qa g (sg_cap (n + 1)) (sg_tr (adT ad (T_sub g ad σ x n r k w b) 15) (n + 1))) else none) = _
    rw [if_pos (Nat.succ_pos n), tr_fu (f := ad 15) (f' := adT ad (T_sub g ad σ x n r k w b) 15) (w := w) (fun i => (cond_beq i n w (ad 15 i)))]), List.forall_mem_cons.mpr ⟨(by
    show (if 3 < 5 then some (cL g (lsN (oSubmit σ x y z) 3) (adT ad (T_sub g ad σ x n r k w b) 2 3)) else none) = _
    rw [if_pos (by decide), hN]
    show some (Sum.inr (0, [.int (nI (n + 1)), .ref (if n + 1 = 0 then g.2.2.2 0 else b), .int (nI (n + 1))]) : va_E) = _
    rw [if_neg (Nat.succ_ne_zero n)]), List.forall_mem_cons.mpr ⟨((if_pos (show n < iN (σ 26 0 + 1) by rw [hu.2]; exact Nat.lt_succ_self n)).trans (by
    show some (Sum.inr (7, [.int (nI n), .int (oSubmit σ x y z 18 n), .ref (adT ad (T_sub g ad σ x n r k w b) 7 (iN (oSubmit σ x y z 17 n))), .ref (ad 11 (iN (oSubmit σ x y z 19 n))), .int (oSubmit σ x y z 20 n), .int (oSubmit σ x y z 22 n), .int (σ 21 n)]) : va_E) = _
    rw [sb18, sb17, sb19, sb20, sb22, if_pos hn, if_pos hn, if_pos hn, if_pos hn, if_pos hn, h7, ← hr, ← hkz, h40, hW.2.2.2.1.2.2.2.1 n (by omega)])), List.forall_mem_cons.mpr ⟨((if_pos hrl).trans (by
    show some (Sum.inr (5, [.ref (ad 3 (iN (σ 3 r))), .ref (ad 8 r), .ref (ad 9 r), .ref (ad 10 r), .int (σ 4 r), .int (σ 5 r), .int (oSubmit σ x y z 6 r)]) : va_E) = _
    rw [sb6, if_pos hr])), fun _ h => absurd h List.not_mem_nil⟩⟩⟩⟩) (fun i k' hm => by
    rcases Nat.lt_or_ge i 20 with h20 | h20
    · match i, h20 with
      | 0, _ => exact ho_sub_0 hW hn hr hrl hkz h40 k' hm
      | 1, _ => exact ho_sub_1 hW hn hr hrl hkz h40 k' hm
      | 2, _ => exact ho_sub_2 hW hn hr hrl hkz h40 k' hm
      | 3, _ => exact ho_sub_3 hW hn hr hrl hkz h40 k' hm
      | 4, _ => exact ho_sub_4 hW hn hr hrl hkz h40 k' hm
      | 5, _ => exact ho_sub_5 hW hn hr hrl hkz h40 k' hm
      | 6, _ => exact ho_sub_6 hW hn hr hrl hkz h40 k' hm
      | 7, _ => exact ho_sub_7 hW hn hr hrl hkz h40 k' hm
      | 8, _ => exact ho_sub_8 hW hn hr hrl hkz h40 k' hm
      | 9, _ => exact ho_sub_9 hW hn hr hrl hkz h40 k' hm
      | 10, _ => exact ho_sub_10 hW hn hr hrl hkz h40 k' hm
      | 11, _ => exact ho_sub_11 hW hn hr hrl hkz h40 k' hm
      | 12, _ => exact ho_sub_12 hW hn hr hrl hkz h40 k' hm
      | 13, _ => exact ho_sub_13 hW hn hr hrl hkz h40 k' hm
      | 14, _ => exact ho_sub_14 hW hn hr hrl hkz h40 k' hm
      | 15, _ => exact ho_sub_15 hW hn hr hrl hkz h40 k' hm
      | 16, _ => exact ho_sub_16 hW hn hr hrl hkz h40 k' hm
      | 17, _ => exact ho_sub_17 hW hn hr hrl hkz h40 k' hm
      | 18, _ => exact ho_sub_18 hW hn hr hrl hkz h40 k' hm
      | 19, _ => exact ho_sub_19 hW hn hr hrl hkz h40 k' hm
      | n + 20, h => exact absurd h (by omega)
    · rw [cont_x i k' h20, cont_x i k' h20])

theorem wx_sub (hW : WX σ) (hn : n = iN (σ 26 0)) (hr : r = iN y) (hy : isN y (iN (σ 9 0))) (hz : isN z (iN (σ 16 0))) (h26 : ¬ σ 26 0 = 40) (h40 : σ 40 0 = heroR σ r 10) (h37 : rPurse (σ 37 0) 32 = heroR σ r 7) (h38 : σ 38 0 = heroR σ r 8) (h39 : σ 39 0 = heroR σ r 9) (h41 : heroR σ r 11 = 1) : WX (oSubmit σ x y z) := by
  have hu := nI_up (k := 26) hW.1.2.2.2.1 (by decide)
  rw [← hn] at hu
  have hb := hW.1.2.2.2.1.2
  have hn2 : n < 40 := by
    rcases Nat.lt_or_ge n 40 with h | h
    · exact h
    · exact absurd (by rw [hW.1.2.2.2.1.1, show iN (σ 26 0) = 40 by omega]; rfl) h26
  have hh := heroR_lo (τ := oSubmit σ x y z) hW rfl rfl rfl rfl rfl rfl
  have hl := fun r n1 => rLen_c (τ := oSubmit σ x y z) (σ := σ) (r := r) rfl n1
  refine ⟨⟨hW.1.1, hW.1.2.1, hW.1.2.2.1, ?_, hW.1.2.2.2.2.1, hW.1.2.2.2.2.2.1, hW.1.2.2.2.2.2.2.1, hW.1.2.2.2.2.2.2.2.1, hW.1.2.2.2.2.2.2.2.2.1, hW.1.2.2.2.2.2.2.2.2.2.1, fun k hk => ?_, fun k hk => ?_, hW.1.2.2.2.2.2.2.2.2.2.2.2.2⟩, ⟨fun j k hkj hj => ?_, fun k hk => ?_, hW.2.1.2.2⟩, hW.2.2.1, ⟨hW.2.2.2.1.1, fun k hk => ?_, hW.2.2.2.1.2.2.1, fun k hk => ?_, hW.2.2.2.1.2.2.2.2⟩, ⟨fun k => ?_, hW.2.2.2.2.1.2⟩, fun r => ?_, fun k hk => ?_⟩
  · show isN (σ 26 0 + 1) 41
    rw [hu.1]
    exact isN_nI (by omega) (by decide)
  · have hk2 : k < iN (σ 26 0 + 1) := hk
    rw [hu.2] at hk2
    rw [sb17]
    by_cases q : k = iN (σ 26 0)
    · rw [if_pos q]
      exact hy
    · rw [if_neg q]
      exact hW.1.2.2.2.2.2.2.2.2.2.2.1 k (by omega)
  · have hk2 : k < iN (σ 26 0 + 1) := hk
    rw [hu.2] at hk2
    rw [sb19]
    by_cases q : k = iN (σ 26 0)
    · rw [if_pos q]
      exact hz
    · rw [if_neg q]
      exact hW.1.2.2.2.2.2.2.2.2.2.2.2.1 k (by omega)
  · have hj2 : j < iN (σ 26 0 + 1) := hj
    rw [hu.2] at hj2
    rw [sb20, sb20]
    by_cases q : j = iN (σ 26 0)
    · rw [if_pos q]
      by_cases q2 : k = iN (σ 26 0)
      · rw [if_pos q2]
        exact Int32.le_refl _
      · rw [if_neg q2]
        exact (hW.2.1.2.1 k (by omega)).2
    · rw [if_neg q, if_neg (by omega)]
      exact hW.2.1.1 j k hkj (by omega)
  · have hk2 : k < iN (σ 26 0 + 1) := hk
    rw [hu.2] at hk2
    rw [sb20]
    by_cases q : k = iN (σ 26 0)
    · rw [if_pos q]
      exact ⟨hW.2.1.2.2.1, Int32.le_refl _⟩
    · rw [if_neg q]
      exact hW.2.1.2.1 k (by omega)
  · have hk2 : iN (σ 9 0) ≤ k := hk
    have h := hW.2.2.2.1.2.1 k hk
    refine ⟨h.1, h.2.1, ?_⟩
    rw [sb6, if_neg (by have := hy.2; omega)]
    exact h.2.2
  · have hk2 : iN (σ 26 0 + 1) ≤ k := hk
    rw [hu.2] at hk2
    exact hW.2.2.2.1.2.2.2.1 k (by omega)
  · rw [sb6]
    by_cases q : k = iN y
    · rw [if_pos q]
      exact .inr rfl
    · rw [if_neg q]
      exact hW.2.2.2.2.1.1 k
  · rw [hl]
    exact hW.2.2.2.2.2.1 r
  · have hk2 : k < iN (σ 26 0 + 1) := hk
    rw [hu.2] at hk2
    rw [hh, sb6, sb22, sb23, sb24, sb25, sb17]
    by_cases q : k = iN (σ 26 0)
    · rw [if_pos q, if_pos q, if_pos q, if_pos q, if_pos q, if_pos rfl, ← hr]
      exact ⟨rfl, h40, h37, h38, h39, h41⟩
    · rw [if_neg q, if_neg q, if_neg q, if_neg q, if_neg q]
      have h := hW.run (k := k) (by omega)
      refine ⟨?_, h.2⟩
      by_cases q2 : iN (σ 17 k) = iN y
      · rw [if_pos q2]
      · rw [if_neg q2]
        exact h.1
theorem kSub_1 (h : ¬ rThere σ x y z) (υ : Mem) : kSubmit σ υ x y z = 1 := if_pos h
theorem kSub_2 (h : rThere σ x y z) {υ : Mem} (hF : rFr σ υ) (h2 : ¬ σ 3 (iN y) = σ 10 (iN z)) : kSubmit σ υ x y z = 2 := (if_neg (fun q => q h)).trans (if_pos (by rw [hF 3 (by decide), hF 10 (by decide)]; exact h2))
theorem sub_41 (h : rThere σ x y z) : rSub σ x y z 41 0 = heroR σ (iN y) 11 := by
  unfold rSub
  rw [if_pos h]
  rfl
theorem kSub_3 (h : rThere σ x y z) (h2 : σ 3 (iN y) = σ 10 (iN z)) (h3 : ¬ heroR σ (iN y) 11 = 1 ∨ σ 26 0 = 40) : kSubmit σ (rSub σ x y z) x y z = 3 := by
  have hF := rSub_fr σ x y z
  refine (if_neg (fun q => q h)).trans ((if_neg (fun q => q ?_)).trans (if_pos ?_))
  · rw [sub_41 h, hF 26 (by decide)]
    exact h3
  · rw [hF 3 (by decide), hF 10 (by decide)]
    exact h2
theorem kSub_0 (h : rThere σ x y z) (h2 : σ 3 (iN y) = σ 10 (iN z)) (h3 : heroR σ (iN y) 11 = 1) (h4 : ¬ σ 26 0 = 40) : kSubmit σ (rSub σ x y z) x y z = 0 := by
  have hF := rSub_fr σ x y z
  refine (if_neg (fun q => q h)).trans ((if_neg (fun q => q ?_)).trans (if_neg ?_))
  · rw [sub_41 h, hF 26 (by decide)]
    rintro (q | q)
    · exact q h3
    · exact h4 q
  · rw [hF 3 (by decide), hF 10 (by decide)]
    exact h2
theorem fSub_k (hk : 0 < kSubmit σ (rSub σ x y z) x y z) : rFr σ (fSubmit σ x y z) := by
  rw [show fSubmit σ x y z = st2 (rSub σ x y z) 42 0 (kSubmit σ (rSub σ x y z) x y z) from if_pos hk]
  exact (rSub_fr σ x y z).tr (f42 _)
theorem ph_sub (hQ : Pic g ad own gh σ C) (hW : WX σ) (hg : gOk gh) (h : rThere σ x y z) (h2 : σ 3 (iN y) = σ 10 (iN z)) (h3 : heroR σ (iN y) 11 = 1) (h4 : ¬ σ 26 0 = 40) {w b : Nat} (hw : C w = none) (hb : (b = ad 2 3 ∧ 0 < lsN σ 3) ∨ C b = none) (hnd : sg_nd [b, ad 1 3, w, ad 7 (iN y)]) :
    ¬ 0 < kSubmit σ (rSub σ x y z) x y z ∧ vSubmit σ x y z = nI (iN (σ 26 0)) ∧ PH g (ad 0 0) own C (fSubmit σ x y z) (sg_ov C ((T_sub g ad σ x (iN (σ 26 0)) (iN y) (iN z) w b).map (fun t => t.2))) := by
  have hk0 := kSub_0 h h2 h3 h4
  have hk : ¬ 0 < kSubmit σ (rSub σ x y z) x y z := by rw [hk0]; decide
  have hF : rFr σ (st2 (rSub σ x y z) 42 0 (kSubmit σ (rSub σ x y z) x y z)) := (rSub_fr σ x y z).tr (f42 _)
  have hly := rIn_x hW.1.2.1 (by decide) h.2.1
  have hlz := rIn_x hW.1.2.2.1 (by decide) h.2.2
  have hW2 := hW.fr hF
  have hQ2 := hQ.fr hW hF
  have hR := heroR_fr (r := iN y) hW hF
  have e40 : st2 (rSub σ x y z) 42 0 (kSubmit σ (rSub σ x y z) x y z) 40 0 = heroR σ (iN y) 10 := by
    show rSub σ x y z 40 0 = _
    unfold rSub
    rw [if_pos h]
    rfl
  have e37 : rPurse (st2 (rSub σ x y z) 42 0 (kSubmit σ (rSub σ x y z) x y z) 37 0) 32 = heroR σ (iN y) 7 := by
    show rPurse (rSub σ x y z 37 0) 32 = _
    unfold rSub
    rw [if_pos h]
    rfl
  have e38 : st2 (rSub σ x y z) 42 0 (kSubmit σ (rSub σ x y z) x y z) 38 0 = heroR σ (iN y) 8 := by
    show rSub σ x y z 38 0 = _
    unfold rSub
    rw [if_pos h]
    rfl
  have e39 : st2 (rSub σ x y z) 42 0 (kSubmit σ (rSub σ x y z) x y z) 39 0 = heroR σ (iN y) 9 := by
    show rSub σ x y z 39 0 = _
    unfold rSub
    rw [if_pos h]
    rfl
  have h26 : (st2 (rSub σ x y z) 42 0 (kSubmit σ (rSub σ x y z) x y z)) 26 = σ 26 := hF 26 (by decide)
  have hf : fSubmit σ x y z = oSubmit (st2 (rSub σ x y z) 42 0 (kSubmit σ (rSub σ x y z) x y z)) x y z := if_neg hk
  refine ⟨hk, (if_neg hk).trans ?_, ?_⟩
  · rw [(rSub_fr σ x y z) 26 (by decide), (nI_up hW.1.2.2.2.1 (by decide)).1]
    exact nI_pred _
  · rw [hf]
    revert hF hW2 hQ2 hR e40 e37 e38 e39 h26
    generalize st2 (rSub σ x y z) 42 0 (kSubmit σ (rSub σ x y z) x y z) = υ
    intro hF hW2 hQ2 hR e40 e37 e38 e39 h26
    have hls : lsN υ 3 = lsN σ 3 := lsN_fr hF 3
    have h5 := pic_sub (x := x) (y := y) (z := z) hQ2 hW2 (n := iN (σ 26 0)) (by rw [h26]) (r := iN y) rfl (by rw [hF 9 (by decide)]; exact hly.2) (k := iN z) rfl (by rw [e40, hR]) hw (by rw [hls]; exact hb) hnd
    have eT : T_sub g ad υ x (iN (σ 26 0)) (iN y) (iN z) w b = T_sub g ad σ x (iN (σ 26 0)) (iN y) (iN z) w b := by
      unfold T_sub
      rw [hF 31 (by decide), hF 3 (by decide), hF 4 (by decide), hF 5 (by decide), hR]
    rw [eT] at h5
    exact ⟨_, _, gh, h5.1, h5.2, hg, wx_sub hW2 (n := iN (σ 26 0)) (by rw [h26]) (r := iN y) rfl (by rw [hF 9 (by decide)]; exact hly) (by rw [hF 16 (by decide)]; exact hlz) (by rw [h26]; exact h4) (by rw [e40, hR]) (by rw [e37, hR]) (by rw [e38, hR]) (by rw [e39, hR]) (by rw [← hR]; exact h3), rfl⟩
end GROWC
