section GROWB
variable {g : sg_G} {ad : Ad} {own : Nat → Option (Nat × Nat)} {gh : Gh} {σ τ : Mem} {C : Nat → Option va_E} {x y z : Int32} {a k c r n : Nat}
abbrev T_rep (g : sg_G) (ad : Ad) (n a w b1 b2 b3 b : Nat) (fl : Nat → Int32) : List Tc := [((2, 1), b, sg_qa g (sg_cap (n + 1)) (sg_tr (sg_fu (ad 7) n w) (n + 1))), ((1, 1), ad 1 1, .inr (0, [.int (nI (n + 1)), .ref b, .int (nI (n + 1))])), ((10, n), b3, .inr (2, hfs (hStart fl hz))), ((9, n), b2, sg_ia g 20 (fun _ => 0)), ((8, n), b1, sg_ia g 20 (fun _ => 0)), ((7, n), w, .inr (5, [.ref (ad 3 a), .ref b1, .ref b2, .ref b3, .int 0, .int 0, .int 0]))]
theorem ho_rep_0 (hW : WX σ) (hn : n = iN (σ 9 0)) (ha : a = iN x) {w b1 b2 b3 b : Nat} (k' : Nat) (hm : (0, k') ∉ (T_rep g ad n a w b1 b2 b3 b (lvF σ a)).map (fun t => t.1)) : cont g (adT ad (T_rep g ad n a w b1 b2 b3 b (lvF σ a))) gh (st2 (st2 σ 3 n x) 9 0 (σ 9 0 + 1)) 0 k' = cont g ad gh σ 0 k' := by
  have hu := nI_up (k := 9) hW.1.2.1 (by decide)
  rw [← hn] at hu
  have hho : ∀ k, k ≠ n → heroR (st2 (st2 σ 3 n x) 9 0 (σ 9 0 + 1)) k = heroR σ k := fun k hk => heroR_c hW.i8 hW.i8 (hW.p20 k) (st2_n hk) rfl rfl rfl rfl (fun _ _ => ⟨rfl, rfl⟩)
  have z4 : σ 4 n = 0 := (hW.2.2.2.1.2.1 n (by omega)).1
  have z5 : σ 5 n = 0 := (hW.2.2.2.1.2.1 n (by omega)).2.1
  have z6 : σ 6 n = 0 := (hW.2.2.2.1.2.1 n (by omega)).2.2
  have hnew : hfs (heroR (st2 (st2 σ 3 n x) 9 0 (σ 9 0 + 1)) n) = hfs (hStart (lvF σ a) hz) := by
    have e3 : st2 σ 3 n x 3 n = x := st2_s σ 3 n x
    have h := (Sm.start (σ := st2 (st2 σ 3 n x) 9 0 (σ 9 0 + 1)) (a := iN x) hz).eq (x := (rStart (st2 (st2 σ 3 n x) 9 0 (σ 9 0 + 1)) (iN x), 0))
    refine (hfs_eq fun j hj => ?_).symm
    have h2 := h j hj
    rw [ha]
    refine h2.trans ?_
    unfold heroR
    show _ = hOf (rOut (st2 (st2 σ 3 n x) 9 0 (σ 9 0 + 1)) n 500 (iN (σ 4 n))) j
    rw [z4]
    show _ = hOf (rStart (st2 (st2 σ 3 n x) 9 0 (σ 9 0 + 1)) (iN (st2 σ 3 n x 3 n)), 0) j
    rw [e3]
  have hls : ∀ k', k' ≠ 1 → lsN (st2 (st2 σ 3 n x) 9 0 (σ 9 0 + 1)) k' = lsN σ k' := by
    intro k' h
    match k', h with
    | 0, h => exact (show iN (σ 2 0) = iN (σ 2 0) from rfl)
    | 1, h => exact absurd rfl h
    | 2, h => exact (show iN (σ 16 0) = iN (σ 16 0) from rfl)
    | 3, h => exact (show iN (σ 26 0) = iN (σ 26 0) from rfl)
    | n + 4, h => exact (show iN (σ 30 0) = iN (σ 30 0) from rfl)
  first | (simp only [cont]; done) | (simp only [cont]; rfl)
theorem ho_rep_1 (hW : WX σ) (hn : n = iN (σ 9 0)) (ha : a = iN x) {w b1 b2 b3 b : Nat} (k' : Nat) (hm : (1, k') ∉ (T_rep g ad n a w b1 b2 b3 b (lvF σ a)).map (fun t => t.1)) : cont g (adT ad (T_rep g ad n a w b1 b2 b3 b (lvF σ a))) gh (st2 (st2 σ 3 n x) 9 0 (σ 9 0 + 1)) 1 k' = cont g ad gh σ 1 k' := by
  have hu := nI_up (k := 9) hW.1.2.1 (by decide)
  rw [← hn] at hu
  have hho : ∀ k, k ≠ n → heroR (st2 (st2 σ 3 n x) 9 0 (σ 9 0 + 1)) k = heroR σ k := fun k hk => heroR_c hW.i8 hW.i8 (hW.p20 k) (st2_n hk) rfl rfl rfl rfl (fun _ _ => ⟨rfl, rfl⟩)
  have z4 : σ 4 n = 0 := (hW.2.2.2.1.2.1 n (by omega)).1
  have z5 : σ 5 n = 0 := (hW.2.2.2.1.2.1 n (by omega)).2.1
  have z6 : σ 6 n = 0 := (hW.2.2.2.1.2.1 n (by omega)).2.2
  have hnew : hfs (heroR (st2 (st2 σ 3 n x) 9 0 (σ 9 0 + 1)) n) = hfs (hStart (lvF σ a) hz) := by
    have e3 : st2 σ 3 n x 3 n = x := st2_s σ 3 n x
    have h := (Sm.start (σ := st2 (st2 σ 3 n x) 9 0 (σ 9 0 + 1)) (a := iN x) hz).eq (x := (rStart (st2 (st2 σ 3 n x) 9 0 (σ 9 0 + 1)) (iN x), 0))
    refine (hfs_eq fun j hj => ?_).symm
    have h2 := h j hj
    rw [ha]
    refine h2.trans ?_
    unfold heroR
    show _ = hOf (rOut (st2 (st2 σ 3 n x) 9 0 (σ 9 0 + 1)) n 500 (iN (σ 4 n))) j
    rw [z4]
    show _ = hOf (rStart (st2 (st2 σ 3 n x) 9 0 (σ 9 0 + 1)) (iN (st2 σ 3 n x 3 n)), 0) j
    rw [e3]
  have hls : ∀ k', k' ≠ 1 → lsN (st2 (st2 σ 3 n x) 9 0 (σ 9 0 + 1)) k' = lsN σ k' := by
    intro k' h
    match k', h with
    | 0, h => exact (show iN (σ 2 0) = iN (σ 2 0) from rfl)
    | 1, h => exact absurd rfl h
    | 2, h => exact (show iN (σ 16 0) = iN (σ 16 0) from rfl)
    | 3, h => exact (show iN (σ 26 0) = iN (σ 26 0) from rfl)
    | n + 4, h => exact (show iN (σ 30 0) = iN (σ 30 0) from rfl)
  exact (by
        have hk' : k' ≠ 1 := fun q => hm (by rw [q]; simp [T_rep])
        show (if k' < 5 then some (cL g (lsN (st2 (st2 σ 3 n x) 9 0 (σ 9 0 + 1)) k') (adT ad (T_rep g ad n a w b1 b2 b3 b (lvF σ a)) 2 k')) else none) = (if k' < 5 then some (cL g (lsN σ k') (ad 2 k')) else none)
        by_cases h5 : k' < 5
        · rw [if_pos h5, if_pos h5, hls k' hk', (adT_out (i := 2) (k := k') (by first | (simp [T_rep]; done) | (simp [T_rep]; omega)))]
        · rw [if_neg h5, if_neg h5])
theorem ho_rep_2 (hW : WX σ) (hn : n = iN (σ 9 0)) (ha : a = iN x) {w b1 b2 b3 b : Nat} (k' : Nat) (hm : (2, k') ∉ (T_rep g ad n a w b1 b2 b3 b (lvF σ a)).map (fun t => t.1)) : cont g (adT ad (T_rep g ad n a w b1 b2 b3 b (lvF σ a))) gh (st2 (st2 σ 3 n x) 9 0 (σ 9 0 + 1)) 2 k' = cont g ad gh σ 2 k' := by
  have hu := nI_up (k := 9) hW.1.2.1 (by decide)
  rw [← hn] at hu
  have hho : ∀ k, k ≠ n → heroR (st2 (st2 σ 3 n x) 9 0 (σ 9 0 + 1)) k = heroR σ k := fun k hk => heroR_c hW.i8 hW.i8 (hW.p20 k) (st2_n hk) rfl rfl rfl rfl (fun _ _ => ⟨rfl, rfl⟩)
  have z4 : σ 4 n = 0 := (hW.2.2.2.1.2.1 n (by omega)).1
  have z5 : σ 5 n = 0 := (hW.2.2.2.1.2.1 n (by omega)).2.1
  have z6 : σ 6 n = 0 := (hW.2.2.2.1.2.1 n (by omega)).2.2
  have hnew : hfs (heroR (st2 (st2 σ 3 n x) 9 0 (σ 9 0 + 1)) n) = hfs (hStart (lvF σ a) hz) := by
    have e3 : st2 σ 3 n x 3 n = x := st2_s σ 3 n x
    have h := (Sm.start (σ := st2 (st2 σ 3 n x) 9 0 (σ 9 0 + 1)) (a := iN x) hz).eq (x := (rStart (st2 (st2 σ 3 n x) 9 0 (σ 9 0 + 1)) (iN x), 0))
    refine (hfs_eq fun j hj => ?_).symm
    have h2 := h j hj
    rw [ha]
    refine h2.trans ?_
    unfold heroR
    show _ = hOf (rOut (st2 (st2 σ 3 n x) 9 0 (σ 9 0 + 1)) n 500 (iN (σ 4 n))) j
    rw [z4]
    show _ = hOf (rStart (st2 (st2 σ 3 n x) 9 0 (σ 9 0 + 1)) (iN (st2 σ 3 n x 3 n)), 0) j
    rw [e3]
  have hls : ∀ k', k' ≠ 1 → lsN (st2 (st2 σ 3 n x) 9 0 (σ 9 0 + 1)) k' = lsN σ k' := by
    intro k' h
    match k', h with
    | 0, h => exact (show iN (σ 2 0) = iN (σ 2 0) from rfl)
    | 1, h => exact absurd rfl h
    | 2, h => exact (show iN (σ 16 0) = iN (σ 16 0) from rfl)
    | 3, h => exact (show iN (σ 26 0) = iN (σ 26 0) from rfl)
    | n + 4, h => exact (show iN (σ 30 0) = iN (σ 30 0) from rfl)
  exact (by
        have hk' : k' ≠ 1 := fun q => hm (by rw [q]; simp [T_rep])
        show (if k' < 5 then cA g (lsN (st2 (st2 σ 3 n x) 9 0 (σ 9 0 + 1)) k') (adT ad (T_rep g ad n a w b1 b2 b3 b (lvF σ a)) (lsE k')) else none) = (if k' < 5 then cA g (lsN σ k') (ad (lsE k')) else none)
        by_cases h5 : k' < 5
        · rw [if_pos h5, if_pos h5, hls k' hk']
          have h6 : k' = 0 ∨ k' = 2 ∨ k' = 3 ∨ k' = 4 := by omega
          rcases h6 with rfl | rfl | rfl | rfl
          · rfl
          · rfl
          · rfl
          · rfl
        · rw [if_neg h5, if_neg h5])
theorem ho_rep_3 (hW : WX σ) (hn : n = iN (σ 9 0)) (ha : a = iN x) {w b1 b2 b3 b : Nat} (k' : Nat) (hm : (3, k') ∉ (T_rep g ad n a w b1 b2 b3 b (lvF σ a)).map (fun t => t.1)) : cont g (adT ad (T_rep g ad n a w b1 b2 b3 b (lvF σ a))) gh (st2 (st2 σ 3 n x) 9 0 (σ 9 0 + 1)) 3 k' = cont g ad gh σ 3 k' := by
  have hu := nI_up (k := 9) hW.1.2.1 (by decide)
  rw [← hn] at hu
  have hho : ∀ k, k ≠ n → heroR (st2 (st2 σ 3 n x) 9 0 (σ 9 0 + 1)) k = heroR σ k := fun k hk => heroR_c hW.i8 hW.i8 (hW.p20 k) (st2_n hk) rfl rfl rfl rfl (fun _ _ => ⟨rfl, rfl⟩)
  have z4 : σ 4 n = 0 := (hW.2.2.2.1.2.1 n (by omega)).1
  have z5 : σ 5 n = 0 := (hW.2.2.2.1.2.1 n (by omega)).2.1
  have z6 : σ 6 n = 0 := (hW.2.2.2.1.2.1 n (by omega)).2.2
  have hnew : hfs (heroR (st2 (st2 σ 3 n x) 9 0 (σ 9 0 + 1)) n) = hfs (hStart (lvF σ a) hz) := by
    have e3 : st2 σ 3 n x 3 n = x := st2_s σ 3 n x
    have h := (Sm.start (σ := st2 (st2 σ 3 n x) 9 0 (σ 9 0 + 1)) (a := iN x) hz).eq (x := (rStart (st2 (st2 σ 3 n x) 9 0 (σ 9 0 + 1)) (iN x), 0))
    refine (hfs_eq fun j hj => ?_).symm
    have h2 := h j hj
    rw [ha]
    refine h2.trans ?_
    unfold heroR
    show _ = hOf (rOut (st2 (st2 σ 3 n x) 9 0 (σ 9 0 + 1)) n 500 (iN (σ 4 n))) j
    rw [z4]
    show _ = hOf (rStart (st2 (st2 σ 3 n x) 9 0 (σ 9 0 + 1)) (iN (st2 σ 3 n x 3 n)), 0) j
    rw [e3]
  have hls : ∀ k', k' ≠ 1 → lsN (st2 (st2 σ 3 n x) 9 0 (σ 9 0 + 1)) k' = lsN σ k' := by
    intro k' h
    match k', h with
    | 0, h => exact (show iN (σ 2 0) = iN (σ 2 0) from rfl)
    | 1, h => exact absurd rfl h
    | 2, h => exact (show iN (σ 16 0) = iN (σ 16 0) from rfl)
    | 3, h => exact (show iN (σ 26 0) = iN (σ 26 0) from rfl)
    | n + 4, h => exact (show iN (σ 30 0) = iN (σ 30 0) from rfl)
  first | (simp only [cont]; done) | (simp only [cont]; rfl)
theorem ho_rep_4 (hW : WX σ) (hn : n = iN (σ 9 0)) (ha : a = iN x) {w b1 b2 b3 b : Nat} (k' : Nat) (hm : (4, k') ∉ (T_rep g ad n a w b1 b2 b3 b (lvF σ a)).map (fun t => t.1)) : cont g (adT ad (T_rep g ad n a w b1 b2 b3 b (lvF σ a))) gh (st2 (st2 σ 3 n x) 9 0 (σ 9 0 + 1)) 4 k' = cont g ad gh σ 4 k' := by
  have hu := nI_up (k := 9) hW.1.2.1 (by decide)
  rw [← hn] at hu
  have hho : ∀ k, k ≠ n → heroR (st2 (st2 σ 3 n x) 9 0 (σ 9 0 + 1)) k = heroR σ k := fun k hk => heroR_c hW.i8 hW.i8 (hW.p20 k) (st2_n hk) rfl rfl rfl rfl (fun _ _ => ⟨rfl, rfl⟩)
  have z4 : σ 4 n = 0 := (hW.2.2.2.1.2.1 n (by omega)).1
  have z5 : σ 5 n = 0 := (hW.2.2.2.1.2.1 n (by omega)).2.1
  have z6 : σ 6 n = 0 := (hW.2.2.2.1.2.1 n (by omega)).2.2
  have hnew : hfs (heroR (st2 (st2 σ 3 n x) 9 0 (σ 9 0 + 1)) n) = hfs (hStart (lvF σ a) hz) := by
    have e3 : st2 σ 3 n x 3 n = x := st2_s σ 3 n x
    have h := (Sm.start (σ := st2 (st2 σ 3 n x) 9 0 (σ 9 0 + 1)) (a := iN x) hz).eq (x := (rStart (st2 (st2 σ 3 n x) 9 0 (σ 9 0 + 1)) (iN x), 0))
    refine (hfs_eq fun j hj => ?_).symm
    have h2 := h j hj
    rw [ha]
    refine h2.trans ?_
    unfold heroR
    show _ = hOf (rOut (st2 (st2 σ 3 n x) 9 0 (σ 9 0 + 1)) n 500 (iN (σ 4 n))) j
    rw [z4]
    show _ = hOf (rStart (st2 (st2 σ 3 n x) 9 0 (σ 9 0 + 1)) (iN (st2 σ 3 n x 3 n)), 0) j
    rw [e3]
  have hls : ∀ k', k' ≠ 1 → lsN (st2 (st2 σ 3 n x) 9 0 (σ 9 0 + 1)) k' = lsN σ k' := by
    intro k' h
    match k', h with
    | 0, h => exact (show iN (σ 2 0) = iN (σ 2 0) from rfl)
    | 1, h => exact absurd rfl h
    | 2, h => exact (show iN (σ 16 0) = iN (σ 16 0) from rfl)
    | 3, h => exact (show iN (σ 26 0) = iN (σ 26 0) from rfl)
    | n + 4, h => exact (show iN (σ 30 0) = iN (σ 30 0) from rfl)
  first | (simp only [cont]; done) | (simp only [cont]; rfl)
theorem ho_rep_5 (hW : WX σ) (hn : n = iN (σ 9 0)) (ha : a = iN x) {w b1 b2 b3 b : Nat} (k' : Nat) (hm : (5, k') ∉ (T_rep g ad n a w b1 b2 b3 b (lvF σ a)).map (fun t => t.1)) : cont g (adT ad (T_rep g ad n a w b1 b2 b3 b (lvF σ a))) gh (st2 (st2 σ 3 n x) 9 0 (σ 9 0 + 1)) 5 k' = cont g ad gh σ 5 k' := by
  have hu := nI_up (k := 9) hW.1.2.1 (by decide)
  rw [← hn] at hu
  have hho : ∀ k, k ≠ n → heroR (st2 (st2 σ 3 n x) 9 0 (σ 9 0 + 1)) k = heroR σ k := fun k hk => heroR_c hW.i8 hW.i8 (hW.p20 k) (st2_n hk) rfl rfl rfl rfl (fun _ _ => ⟨rfl, rfl⟩)
  have z4 : σ 4 n = 0 := (hW.2.2.2.1.2.1 n (by omega)).1
  have z5 : σ 5 n = 0 := (hW.2.2.2.1.2.1 n (by omega)).2.1
  have z6 : σ 6 n = 0 := (hW.2.2.2.1.2.1 n (by omega)).2.2
  have hnew : hfs (heroR (st2 (st2 σ 3 n x) 9 0 (σ 9 0 + 1)) n) = hfs (hStart (lvF σ a) hz) := by
    have e3 : st2 σ 3 n x 3 n = x := st2_s σ 3 n x
    have h := (Sm.start (σ := st2 (st2 σ 3 n x) 9 0 (σ 9 0 + 1)) (a := iN x) hz).eq (x := (rStart (st2 (st2 σ 3 n x) 9 0 (σ 9 0 + 1)) (iN x), 0))
    refine (hfs_eq fun j hj => ?_).symm
    have h2 := h j hj
    rw [ha]
    refine h2.trans ?_
    unfold heroR
    show _ = hOf (rOut (st2 (st2 σ 3 n x) 9 0 (σ 9 0 + 1)) n 500 (iN (σ 4 n))) j
    rw [z4]
    show _ = hOf (rStart (st2 (st2 σ 3 n x) 9 0 (σ 9 0 + 1)) (iN (st2 σ 3 n x 3 n)), 0) j
    rw [e3]
  have hls : ∀ k', k' ≠ 1 → lsN (st2 (st2 σ 3 n x) 9 0 (σ 9 0 + 1)) k' = lsN σ k' := by
    intro k' h
    match k', h with
    | 0, h => exact (show iN (σ 2 0) = iN (σ 2 0) from rfl)
    | 1, h => exact absurd rfl h
    | 2, h => exact (show iN (σ 16 0) = iN (σ 16 0) from rfl)
    | 3, h => exact (show iN (σ 26 0) = iN (σ 26 0) from rfl)
    | n + 4, h => exact (show iN (σ 30 0) = iN (σ 30 0) from rfl)
  first | (simp only [cont]; done) | (simp only [cont]; rfl)
theorem ho_rep_6 (hW : WX σ) (hn : n = iN (σ 9 0)) (ha : a = iN x) {w b1 b2 b3 b : Nat} (k' : Nat) (hm : (6, k') ∉ (T_rep g ad n a w b1 b2 b3 b (lvF σ a)).map (fun t => t.1)) : cont g (adT ad (T_rep g ad n a w b1 b2 b3 b (lvF σ a))) gh (st2 (st2 σ 3 n x) 9 0 (σ 9 0 + 1)) 6 k' = cont g ad gh σ 6 k' := by
  have hu := nI_up (k := 9) hW.1.2.1 (by decide)
  rw [← hn] at hu
  have hho : ∀ k, k ≠ n → heroR (st2 (st2 σ 3 n x) 9 0 (σ 9 0 + 1)) k = heroR σ k := fun k hk => heroR_c hW.i8 hW.i8 (hW.p20 k) (st2_n hk) rfl rfl rfl rfl (fun _ _ => ⟨rfl, rfl⟩)
  have z4 : σ 4 n = 0 := (hW.2.2.2.1.2.1 n (by omega)).1
  have z5 : σ 5 n = 0 := (hW.2.2.2.1.2.1 n (by omega)).2.1
  have z6 : σ 6 n = 0 := (hW.2.2.2.1.2.1 n (by omega)).2.2
  have hnew : hfs (heroR (st2 (st2 σ 3 n x) 9 0 (σ 9 0 + 1)) n) = hfs (hStart (lvF σ a) hz) := by
    have e3 : st2 σ 3 n x 3 n = x := st2_s σ 3 n x
    have h := (Sm.start (σ := st2 (st2 σ 3 n x) 9 0 (σ 9 0 + 1)) (a := iN x) hz).eq (x := (rStart (st2 (st2 σ 3 n x) 9 0 (σ 9 0 + 1)) (iN x), 0))
    refine (hfs_eq fun j hj => ?_).symm
    have h2 := h j hj
    rw [ha]
    refine h2.trans ?_
    unfold heroR
    show _ = hOf (rOut (st2 (st2 σ 3 n x) 9 0 (σ 9 0 + 1)) n 500 (iN (σ 4 n))) j
    rw [z4]
    show _ = hOf (rStart (st2 (st2 σ 3 n x) 9 0 (σ 9 0 + 1)) (iN (st2 σ 3 n x 3 n)), 0) j
    rw [e3]
  have hls : ∀ k', k' ≠ 1 → lsN (st2 (st2 σ 3 n x) 9 0 (σ 9 0 + 1)) k' = lsN σ k' := by
    intro k' h
    match k', h with
    | 0, h => exact (show iN (σ 2 0) = iN (σ 2 0) from rfl)
    | 1, h => exact absurd rfl h
    | 2, h => exact (show iN (σ 16 0) = iN (σ 16 0) from rfl)
    | 3, h => exact (show iN (σ 26 0) = iN (σ 26 0) from rfl)
    | n + 4, h => exact (show iN (σ 30 0) = iN (σ 30 0) from rfl)
  first | (simp only [cont]; done) | (simp only [cont]; rfl)
theorem ho_rep_7 (hW : WX σ) (hn : n = iN (σ 9 0)) (ha : a = iN x) {w b1 b2 b3 b : Nat} (k' : Nat) (hm : (7, k') ∉ (T_rep g ad n a w b1 b2 b3 b (lvF σ a)).map (fun t => t.1)) : cont g (adT ad (T_rep g ad n a w b1 b2 b3 b (lvF σ a))) gh (st2 (st2 σ 3 n x) 9 0 (σ 9 0 + 1)) 7 k' = cont g ad gh σ 7 k' := by
  have hu := nI_up (k := 9) hW.1.2.1 (by decide)
  rw [← hn] at hu
  have hho : ∀ k, k ≠ n → heroR (st2 (st2 σ 3 n x) 9 0 (σ 9 0 + 1)) k = heroR σ k := fun k hk => heroR_c hW.i8 hW.i8 (hW.p20 k) (st2_n hk) rfl rfl rfl rfl (fun _ _ => ⟨rfl, rfl⟩)
  have z4 : σ 4 n = 0 := (hW.2.2.2.1.2.1 n (by omega)).1
  have z5 : σ 5 n = 0 := (hW.2.2.2.1.2.1 n (by omega)).2.1
  have z6 : σ 6 n = 0 := (hW.2.2.2.1.2.1 n (by omega)).2.2
  have hnew : hfs (heroR (st2 (st2 σ 3 n x) 9 0 (σ 9 0 + 1)) n) = hfs (hStart (lvF σ a) hz) := by
    have e3 : st2 σ 3 n x 3 n = x := st2_s σ 3 n x
    have h := (Sm.start (σ := st2 (st2 σ 3 n x) 9 0 (σ 9 0 + 1)) (a := iN x) hz).eq (x := (rStart (st2 (st2 σ 3 n x) 9 0 (σ 9 0 + 1)) (iN x), 0))
    refine (hfs_eq fun j hj => ?_).symm
    have h2 := h j hj
    rw [ha]
    refine h2.trans ?_
    unfold heroR
    show _ = hOf (rOut (st2 (st2 σ 3 n x) 9 0 (σ 9 0 + 1)) n 500 (iN (σ 4 n))) j
    rw [z4]
    show _ = hOf (rStart (st2 (st2 σ 3 n x) 9 0 (σ 9 0 + 1)) (iN (st2 σ 3 n x 3 n)), 0) j
    rw [e3]
  have hls : ∀ k', k' ≠ 1 → lsN (st2 (st2 σ 3 n x) 9 0 (σ 9 0 + 1)) k' = lsN σ k' := by
    intro k' h
    match k', h with
    | 0, h => exact (show iN (σ 2 0) = iN (σ 2 0) from rfl)
    | 1, h => exact absurd rfl h
    | 2, h => exact (show iN (σ 16 0) = iN (σ 16 0) from rfl)
    | 3, h => exact (show iN (σ 26 0) = iN (σ 26 0) from rfl)
    | n + 4, h => exact (show iN (σ 30 0) = iN (σ 30 0) from rfl)
  exact (by
        have hk' : k' ≠ n := fun q => hm (by rw [q]; simp [T_rep])
        show (if k' < iN (σ 9 0 + 1) then some (Sum.inr (5, [.ref (ad 3 (iN (st2 σ 3 n x 3 k'))), .ref (adT ad (T_rep g ad n a w b1 b2 b3 b (lvF σ a)) 8 k'), .ref (adT ad (T_rep g ad n a w b1 b2 b3 b (lvF σ a)) 9 k'), .ref (adT ad (T_rep g ad n a w b1 b2 b3 b (lvF σ a)) 10 k'), .int (σ 4 k'), .int (σ 5 k'), .int (σ 6 k')]) : va_E) else none) = (if k' < iN (σ 9 0) then some (Sum.inr (5, [.ref (ad 3 (iN (σ 3 k'))), .ref (ad 8 k'), .ref (ad 9 k'), .ref (ad 10 k'), .int (σ 4 k'), .int (σ 5 k'), .int (σ 6 k')]) : va_E) else none)
        rw [st2_n hk', (adT_out (i := 8) (k := k') (by first | (simp [T_rep]; done) | (simp [T_rep]; omega))), (adT_out (i := 9) (k := k') (by first | (simp [T_rep]; done) | (simp [T_rep]; omega))), (adT_out (i := 10) (k := k') (by first | (simp [T_rep]; done) | (simp [T_rep]; omega)))]
        exact ite_c (by rw [hu.2, ← hn]; omega) rfl rfl)
theorem ho_rep_8 (hW : WX σ) (hn : n = iN (σ 9 0)) (ha : a = iN x) {w b1 b2 b3 b : Nat} (k' : Nat) (hm : (8, k') ∉ (T_rep g ad n a w b1 b2 b3 b (lvF σ a)).map (fun t => t.1)) : cont g (adT ad (T_rep g ad n a w b1 b2 b3 b (lvF σ a))) gh (st2 (st2 σ 3 n x) 9 0 (σ 9 0 + 1)) 8 k' = cont g ad gh σ 8 k' := by
  have hu := nI_up (k := 9) hW.1.2.1 (by decide)
  rw [← hn] at hu
  have hho : ∀ k, k ≠ n → heroR (st2 (st2 σ 3 n x) 9 0 (σ 9 0 + 1)) k = heroR σ k := fun k hk => heroR_c hW.i8 hW.i8 (hW.p20 k) (st2_n hk) rfl rfl rfl rfl (fun _ _ => ⟨rfl, rfl⟩)
  have z4 : σ 4 n = 0 := (hW.2.2.2.1.2.1 n (by omega)).1
  have z5 : σ 5 n = 0 := (hW.2.2.2.1.2.1 n (by omega)).2.1
  have z6 : σ 6 n = 0 := (hW.2.2.2.1.2.1 n (by omega)).2.2
  have hnew : hfs (heroR (st2 (st2 σ 3 n x) 9 0 (σ 9 0 + 1)) n) = hfs (hStart (lvF σ a) hz) := by
    have e3 : st2 σ 3 n x 3 n = x := st2_s σ 3 n x
    have h := (Sm.start (σ := st2 (st2 σ 3 n x) 9 0 (σ 9 0 + 1)) (a := iN x) hz).eq (x := (rStart (st2 (st2 σ 3 n x) 9 0 (σ 9 0 + 1)) (iN x), 0))
    refine (hfs_eq fun j hj => ?_).symm
    have h2 := h j hj
    rw [ha]
    refine h2.trans ?_
    unfold heroR
    show _ = hOf (rOut (st2 (st2 σ 3 n x) 9 0 (σ 9 0 + 1)) n 500 (iN (σ 4 n))) j
    rw [z4]
    show _ = hOf (rStart (st2 (st2 σ 3 n x) 9 0 (σ 9 0 + 1)) (iN (st2 σ 3 n x 3 n)), 0) j
    rw [e3]
  have hls : ∀ k', k' ≠ 1 → lsN (st2 (st2 σ 3 n x) 9 0 (σ 9 0 + 1)) k' = lsN σ k' := by
    intro k' h
    match k', h with
    | 0, h => exact (show iN (σ 2 0) = iN (σ 2 0) from rfl)
    | 1, h => exact absurd rfl h
    | 2, h => exact (show iN (σ 16 0) = iN (σ 16 0) from rfl)
    | 3, h => exact (show iN (σ 26 0) = iN (σ 26 0) from rfl)
    | n + 4, h => exact (show iN (σ 30 0) = iN (σ 30 0) from rfl)
  exact (by
        have hk' : k' ≠ n := fun q => hm (by rw [q]; simp [T_rep])
        show (if k' < iN (σ 9 0 + 1) then some (sg_ia g 20 (rpB σ k')) else none) = (if k' < iN (σ 9 0) then some (sg_ia g 20 (rpB σ k')) else none)
        exact ite_c (by rw [hu.2, ← hn]; omega) rfl rfl)
theorem ho_rep_9 (hW : WX σ) (hn : n = iN (σ 9 0)) (ha : a = iN x) {w b1 b2 b3 b : Nat} (k' : Nat) (hm : (9, k') ∉ (T_rep g ad n a w b1 b2 b3 b (lvF σ a)).map (fun t => t.1)) : cont g (adT ad (T_rep g ad n a w b1 b2 b3 b (lvF σ a))) gh (st2 (st2 σ 3 n x) 9 0 (σ 9 0 + 1)) 9 k' = cont g ad gh σ 9 k' := by
  have hu := nI_up (k := 9) hW.1.2.1 (by decide)
  rw [← hn] at hu
  have hho : ∀ k, k ≠ n → heroR (st2 (st2 σ 3 n x) 9 0 (σ 9 0 + 1)) k = heroR σ k := fun k hk => heroR_c hW.i8 hW.i8 (hW.p20 k) (st2_n hk) rfl rfl rfl rfl (fun _ _ => ⟨rfl, rfl⟩)
  have z4 : σ 4 n = 0 := (hW.2.2.2.1.2.1 n (by omega)).1
  have z5 : σ 5 n = 0 := (hW.2.2.2.1.2.1 n (by omega)).2.1
  have z6 : σ 6 n = 0 := (hW.2.2.2.1.2.1 n (by omega)).2.2
  have hnew : hfs (heroR (st2 (st2 σ 3 n x) 9 0 (σ 9 0 + 1)) n) = hfs (hStart (lvF σ a) hz) := by
    have e3 : st2 σ 3 n x 3 n = x := st2_s σ 3 n x
    have h := (Sm.start (σ := st2 (st2 σ 3 n x) 9 0 (σ 9 0 + 1)) (a := iN x) hz).eq (x := (rStart (st2 (st2 σ 3 n x) 9 0 (σ 9 0 + 1)) (iN x), 0))
    refine (hfs_eq fun j hj => ?_).symm
    have h2 := h j hj
    rw [ha]
    refine h2.trans ?_
    unfold heroR
    show _ = hOf (rOut (st2 (st2 σ 3 n x) 9 0 (σ 9 0 + 1)) n 500 (iN (σ 4 n))) j
    rw [z4]
    show _ = hOf (rStart (st2 (st2 σ 3 n x) 9 0 (σ 9 0 + 1)) (iN (st2 σ 3 n x 3 n)), 0) j
    rw [e3]
  have hls : ∀ k', k' ≠ 1 → lsN (st2 (st2 σ 3 n x) 9 0 (σ 9 0 + 1)) k' = lsN σ k' := by
    intro k' h
    match k', h with
    | 0, h => exact (show iN (σ 2 0) = iN (σ 2 0) from rfl)
    | 1, h => exact absurd rfl h
    | 2, h => exact (show iN (σ 16 0) = iN (σ 16 0) from rfl)
    | 3, h => exact (show iN (σ 26 0) = iN (σ 26 0) from rfl)
    | n + 4, h => exact (show iN (σ 30 0) = iN (σ 30 0) from rfl)
  exact (by
        have hk' : k' ≠ n := fun q => hm (by rw [q]; simp [T_rep])
        show (if k' < iN (σ 9 0 + 1) then some (sg_ia g 20 (rpT σ k')) else none) = (if k' < iN (σ 9 0) then some (sg_ia g 20 (rpT σ k')) else none)
        exact ite_c (by rw [hu.2, ← hn]; omega) rfl rfl)
theorem ho_rep_10 (hW : WX σ) (hn : n = iN (σ 9 0)) (ha : a = iN x) {w b1 b2 b3 b : Nat} (k' : Nat) (hm : (10, k') ∉ (T_rep g ad n a w b1 b2 b3 b (lvF σ a)).map (fun t => t.1)) : cont g (adT ad (T_rep g ad n a w b1 b2 b3 b (lvF σ a))) gh (st2 (st2 σ 3 n x) 9 0 (σ 9 0 + 1)) 10 k' = cont g ad gh σ 10 k' := by
  have hu := nI_up (k := 9) hW.1.2.1 (by decide)
  rw [← hn] at hu
  have hho : ∀ k, k ≠ n → heroR (st2 (st2 σ 3 n x) 9 0 (σ 9 0 + 1)) k = heroR σ k := fun k hk => heroR_c hW.i8 hW.i8 (hW.p20 k) (st2_n hk) rfl rfl rfl rfl (fun _ _ => ⟨rfl, rfl⟩)
  have z4 : σ 4 n = 0 := (hW.2.2.2.1.2.1 n (by omega)).1
  have z5 : σ 5 n = 0 := (hW.2.2.2.1.2.1 n (by omega)).2.1
  have z6 : σ 6 n = 0 := (hW.2.2.2.1.2.1 n (by omega)).2.2
  have hnew : hfs (heroR (st2 (st2 σ 3 n x) 9 0 (σ 9 0 + 1)) n) = hfs (hStart (lvF σ a) hz) := by
    have e3 : st2 σ 3 n x 3 n = x := st2_s σ 3 n x
    have h := (Sm.start (σ := st2 (st2 σ 3 n x) 9 0 (σ 9 0 + 1)) (a := iN x) hz).eq (x := (rStart (st2 (st2 σ 3 n x) 9 0 (σ 9 0 + 1)) (iN x), 0))
    refine (hfs_eq fun j hj => ?_).symm
    have h2 := h j hj
    rw [ha]
    refine h2.trans ?_
    unfold heroR
    show _ = hOf (rOut (st2 (st2 σ 3 n x) 9 0 (σ 9 0 + 1)) n 500 (iN (σ 4 n))) j
    rw [z4]
    show _ = hOf (rStart (st2 (st2 σ 3 n x) 9 0 (σ 9 0 + 1)) (iN (st2 σ 3 n x 3 n)), 0) j
    rw [e3]
  have hls : ∀ k', k' ≠ 1 → lsN (st2 (st2 σ 3 n x) 9 0 (σ 9 0 + 1)) k' = lsN σ k' := by
    intro k' h
    match k', h with
    | 0, h => exact (show iN (σ 2 0) = iN (σ 2 0) from rfl)
    | 1, h => exact absurd rfl h
    | 2, h => exact (show iN (σ 16 0) = iN (σ 16 0) from rfl)
    | 3, h => exact (show iN (σ 26 0) = iN (σ 26 0) from rfl)
    | n + 4, h => exact (show iN (σ 30 0) = iN (σ 30 0) from rfl)
  exact (by
        have hk' : k' ≠ n := fun q => hm (by rw [q]; simp [T_rep])
        show (if k' < iN (σ 9 0 + 1) then some (Sum.inr (2, hfs (heroR (st2 (st2 σ 3 n x) 9 0 (σ 9 0 + 1)) k')) : va_E) else none) = (if k' < iN (σ 9 0) then some (Sum.inr (2, hfs (heroR σ k')) : va_E) else none)
        rw [hho k' hk']
        exact ite_c (by rw [hu.2, ← hn]; omega) rfl rfl)
theorem ho_rep_11 (hW : WX σ) (hn : n = iN (σ 9 0)) (ha : a = iN x) {w b1 b2 b3 b : Nat} (k' : Nat) (hm : (11, k') ∉ (T_rep g ad n a w b1 b2 b3 b (lvF σ a)).map (fun t => t.1)) : cont g (adT ad (T_rep g ad n a w b1 b2 b3 b (lvF σ a))) gh (st2 (st2 σ 3 n x) 9 0 (σ 9 0 + 1)) 11 k' = cont g ad gh σ 11 k' := by
  have hu := nI_up (k := 9) hW.1.2.1 (by decide)
  rw [← hn] at hu
  have hho : ∀ k, k ≠ n → heroR (st2 (st2 σ 3 n x) 9 0 (σ 9 0 + 1)) k = heroR σ k := fun k hk => heroR_c hW.i8 hW.i8 (hW.p20 k) (st2_n hk) rfl rfl rfl rfl (fun _ _ => ⟨rfl, rfl⟩)
  have z4 : σ 4 n = 0 := (hW.2.2.2.1.2.1 n (by omega)).1
  have z5 : σ 5 n = 0 := (hW.2.2.2.1.2.1 n (by omega)).2.1
  have z6 : σ 6 n = 0 := (hW.2.2.2.1.2.1 n (by omega)).2.2
  have hnew : hfs (heroR (st2 (st2 σ 3 n x) 9 0 (σ 9 0 + 1)) n) = hfs (hStart (lvF σ a) hz) := by
    have e3 : st2 σ 3 n x 3 n = x := st2_s σ 3 n x
    have h := (Sm.start (σ := st2 (st2 σ 3 n x) 9 0 (σ 9 0 + 1)) (a := iN x) hz).eq (x := (rStart (st2 (st2 σ 3 n x) 9 0 (σ 9 0 + 1)) (iN x), 0))
    refine (hfs_eq fun j hj => ?_).symm
    have h2 := h j hj
    rw [ha]
    refine h2.trans ?_
    unfold heroR
    show _ = hOf (rOut (st2 (st2 σ 3 n x) 9 0 (σ 9 0 + 1)) n 500 (iN (σ 4 n))) j
    rw [z4]
    show _ = hOf (rStart (st2 (st2 σ 3 n x) 9 0 (σ 9 0 + 1)) (iN (st2 σ 3 n x 3 n)), 0) j
    rw [e3]
  have hls : ∀ k', k' ≠ 1 → lsN (st2 (st2 σ 3 n x) 9 0 (σ 9 0 + 1)) k' = lsN σ k' := by
    intro k' h
    match k', h with
    | 0, h => exact (show iN (σ 2 0) = iN (σ 2 0) from rfl)
    | 1, h => exact absurd rfl h
    | 2, h => exact (show iN (σ 16 0) = iN (σ 16 0) from rfl)
    | 3, h => exact (show iN (σ 26 0) = iN (σ 26 0) from rfl)
    | n + 4, h => exact (show iN (σ 30 0) = iN (σ 30 0) from rfl)
  first | (simp only [cont]; done) | (simp only [cont]; rfl)
theorem ho_rep_12 (hW : WX σ) (hn : n = iN (σ 9 0)) (ha : a = iN x) {w b1 b2 b3 b : Nat} (k' : Nat) (hm : (12, k') ∉ (T_rep g ad n a w b1 b2 b3 b (lvF σ a)).map (fun t => t.1)) : cont g (adT ad (T_rep g ad n a w b1 b2 b3 b (lvF σ a))) gh (st2 (st2 σ 3 n x) 9 0 (σ 9 0 + 1)) 12 k' = cont g ad gh σ 12 k' := by
  have hu := nI_up (k := 9) hW.1.2.1 (by decide)
  rw [← hn] at hu
  have hho : ∀ k, k ≠ n → heroR (st2 (st2 σ 3 n x) 9 0 (σ 9 0 + 1)) k = heroR σ k := fun k hk => heroR_c hW.i8 hW.i8 (hW.p20 k) (st2_n hk) rfl rfl rfl rfl (fun _ _ => ⟨rfl, rfl⟩)
  have z4 : σ 4 n = 0 := (hW.2.2.2.1.2.1 n (by omega)).1
  have z5 : σ 5 n = 0 := (hW.2.2.2.1.2.1 n (by omega)).2.1
  have z6 : σ 6 n = 0 := (hW.2.2.2.1.2.1 n (by omega)).2.2
  have hnew : hfs (heroR (st2 (st2 σ 3 n x) 9 0 (σ 9 0 + 1)) n) = hfs (hStart (lvF σ a) hz) := by
    have e3 : st2 σ 3 n x 3 n = x := st2_s σ 3 n x
    have h := (Sm.start (σ := st2 (st2 σ 3 n x) 9 0 (σ 9 0 + 1)) (a := iN x) hz).eq (x := (rStart (st2 (st2 σ 3 n x) 9 0 (σ 9 0 + 1)) (iN x), 0))
    refine (hfs_eq fun j hj => ?_).symm
    have h2 := h j hj
    rw [ha]
    refine h2.trans ?_
    unfold heroR
    show _ = hOf (rOut (st2 (st2 σ 3 n x) 9 0 (σ 9 0 + 1)) n 500 (iN (σ 4 n))) j
    rw [z4]
    show _ = hOf (rStart (st2 (st2 σ 3 n x) 9 0 (σ 9 0 + 1)) (iN (st2 σ 3 n x 3 n)), 0) j
    rw [e3]
  have hls : ∀ k', k' ≠ 1 → lsN (st2 (st2 σ 3 n x) 9 0 (σ 9 0 + 1)) k' = lsN σ k' := by
    intro k' h
    match k', h with
    | 0, h => exact (show iN (σ 2 0) = iN (σ 2 0) from rfl)
    | 1, h => exact absurd rfl h
    | 2, h => exact (show iN (σ 16 0) = iN (σ 16 0) from rfl)
    | 3, h => exact (show iN (σ 26 0) = iN (σ 26 0) from rfl)
    | n + 4, h => exact (show iN (σ 30 0) = iN (σ 30 0) from rfl)
  first | (simp only [cont]; done) | (simp only [cont]; rfl)
theorem ho_rep_13 (hW : WX σ) (hn : n = iN (σ 9 0)) (ha : a = iN x) {w b1 b2 b3 b : Nat} (k' : Nat) (hm : (13, k') ∉ (T_rep g ad n a w b1 b2 b3 b (lvF σ a)).map (fun t => t.1)) : cont g (adT ad (T_rep g ad n a w b1 b2 b3 b (lvF σ a))) gh (st2 (st2 σ 3 n x) 9 0 (σ 9 0 + 1)) 13 k' = cont g ad gh σ 13 k' := by
  have hu := nI_up (k := 9) hW.1.2.1 (by decide)
  rw [← hn] at hu
  have hho : ∀ k, k ≠ n → heroR (st2 (st2 σ 3 n x) 9 0 (σ 9 0 + 1)) k = heroR σ k := fun k hk => heroR_c hW.i8 hW.i8 (hW.p20 k) (st2_n hk) rfl rfl rfl rfl (fun _ _ => ⟨rfl, rfl⟩)
  have z4 : σ 4 n = 0 := (hW.2.2.2.1.2.1 n (by omega)).1
  have z5 : σ 5 n = 0 := (hW.2.2.2.1.2.1 n (by omega)).2.1
  have z6 : σ 6 n = 0 := (hW.2.2.2.1.2.1 n (by omega)).2.2
  have hnew : hfs (heroR (st2 (st2 σ 3 n x) 9 0 (σ 9 0 + 1)) n) = hfs (hStart (lvF σ a) hz) := by
    have e3 : st2 σ 3 n x 3 n = x := st2_s σ 3 n x
    have h := (Sm.start (σ := st2 (st2 σ 3 n x) 9 0 (σ 9 0 + 1)) (a := iN x) hz).eq (x := (rStart (st2 (st2 σ 3 n x) 9 0 (σ 9 0 + 1)) (iN x), 0))
    refine (hfs_eq fun j hj => ?_).symm
    have h2 := h j hj
    rw [ha]
    refine h2.trans ?_
    unfold heroR
    show _ = hOf (rOut (st2 (st2 σ 3 n x) 9 0 (σ 9 0 + 1)) n 500 (iN (σ 4 n))) j
    rw [z4]
    show _ = hOf (rStart (st2 (st2 σ 3 n x) 9 0 (σ 9 0 + 1)) (iN (st2 σ 3 n x 3 n)), 0) j
    rw [e3]
  have hls : ∀ k', k' ≠ 1 → lsN (st2 (st2 σ 3 n x) 9 0 (σ 9 0 + 1)) k' = lsN σ k' := by
    intro k' h
    match k', h with
    | 0, h => exact (show iN (σ 2 0) = iN (σ 2 0) from rfl)
    | 1, h => exact absurd rfl h
    | 2, h => exact (show iN (σ 16 0) = iN (σ 16 0) from rfl)
    | 3, h => exact (show iN (σ 26 0) = iN (σ 26 0) from rfl)
    | n + 4, h => exact (show iN (σ 30 0) = iN (σ 30 0) from rfl)
  first | (simp only [cont]; done) | (simp only [cont]; rfl)
theorem ho_rep_14 (hW : WX σ) (hn : n = iN (σ 9 0)) (ha : a = iN x) {w b1 b2 b3 b : Nat} (k' : Nat) (hm : (14, k') ∉ (T_rep g ad n a w b1 b2 b3 b (lvF σ a)).map (fun t => t.1)) : cont g (adT ad (T_rep g ad n a w b1 b2 b3 b (lvF σ a))) gh (st2 (st2 σ 3 n x) 9 0 (σ 9 0 + 1)) 14 k' = cont g ad gh σ 14 k' := by
  have hu := nI_up (k := 9) hW.1.2.1 (by decide)
  rw [← hn] at hu
  have hho : ∀ k, k ≠ n → heroR (st2 (st2 σ 3 n x) 9 0 (σ 9 0 + 1)) k = heroR σ k := fun k hk => heroR_c hW.i8 hW.i8 (hW.p20 k) (st2_n hk) rfl rfl rfl rfl (fun _ _ => ⟨rfl, rfl⟩)
  have z4 : σ 4 n = 0 := (hW.2.2.2.1.2.1 n (by omega)).1
  have z5 : σ 5 n = 0 := (hW.2.2.2.1.2.1 n (by omega)).2.1
  have z6 : σ 6 n = 0 := (hW.2.2.2.1.2.1 n (by omega)).2.2
  have hnew : hfs (heroR (st2 (st2 σ 3 n x) 9 0 (σ 9 0 + 1)) n) = hfs (hStart (lvF σ a) hz) := by
    have e3 : st2 σ 3 n x 3 n = x := st2_s σ 3 n x
    have h := (Sm.start (σ := st2 (st2 σ 3 n x) 9 0 (σ 9 0 + 1)) (a := iN x) hz).eq (x := (rStart (st2 (st2 σ 3 n x) 9 0 (σ 9 0 + 1)) (iN x), 0))
    refine (hfs_eq fun j hj => ?_).symm
    have h2 := h j hj
    rw [ha]
    refine h2.trans ?_
    unfold heroR
    show _ = hOf (rOut (st2 (st2 σ 3 n x) 9 0 (σ 9 0 + 1)) n 500 (iN (σ 4 n))) j
    rw [z4]
    show _ = hOf (rStart (st2 (st2 σ 3 n x) 9 0 (σ 9 0 + 1)) (iN (st2 σ 3 n x 3 n)), 0) j
    rw [e3]
  have hls : ∀ k', k' ≠ 1 → lsN (st2 (st2 σ 3 n x) 9 0 (σ 9 0 + 1)) k' = lsN σ k' := by
    intro k' h
    match k', h with
    | 0, h => exact (show iN (σ 2 0) = iN (σ 2 0) from rfl)
    | 1, h => exact absurd rfl h
    | 2, h => exact (show iN (σ 16 0) = iN (σ 16 0) from rfl)
    | 3, h => exact (show iN (σ 26 0) = iN (σ 26 0) from rfl)
    | n + 4, h => exact (show iN (σ 30 0) = iN (σ 30 0) from rfl)
  first | (simp only [cont]; done) | (simp only [cont]; rfl)
theorem ho_rep_15 (hW : WX σ) (hn : n = iN (σ 9 0)) (ha : a = iN x) {w b1 b2 b3 b : Nat} (k' : Nat) (hm : (15, k') ∉ (T_rep g ad n a w b1 b2 b3 b (lvF σ a)).map (fun t => t.1)) : cont g (adT ad (T_rep g ad n a w b1 b2 b3 b (lvF σ a))) gh (st2 (st2 σ 3 n x) 9 0 (σ 9 0 + 1)) 15 k' = cont g ad gh σ 15 k' := by
  have hu := nI_up (k := 9) hW.1.2.1 (by decide)
  rw [← hn] at hu
  have hho : ∀ k, k ≠ n → heroR (st2 (st2 σ 3 n x) 9 0 (σ 9 0 + 1)) k = heroR σ k := fun k hk => heroR_c hW.i8 hW.i8 (hW.p20 k) (st2_n hk) rfl rfl rfl rfl (fun _ _ => ⟨rfl, rfl⟩)
  have z4 : σ 4 n = 0 := (hW.2.2.2.1.2.1 n (by omega)).1
  have z5 : σ 5 n = 0 := (hW.2.2.2.1.2.1 n (by omega)).2.1
  have z6 : σ 6 n = 0 := (hW.2.2.2.1.2.1 n (by omega)).2.2
  have hnew : hfs (heroR (st2 (st2 σ 3 n x) 9 0 (σ 9 0 + 1)) n) = hfs (hStart (lvF σ a) hz) := by
    have e3 : st2 σ 3 n x 3 n = x := st2_s σ 3 n x
    have h := (Sm.start (σ := st2 (st2 σ 3 n x) 9 0 (σ 9 0 + 1)) (a := iN x) hz).eq (x := (rStart (st2 (st2 σ 3 n x) 9 0 (σ 9 0 + 1)) (iN x), 0))
    refine (hfs_eq fun j hj => ?_).symm
    have h2 := h j hj
    rw [ha]
    refine h2.trans ?_
    unfold heroR
    show _ = hOf (rOut (st2 (st2 σ 3 n x) 9 0 (σ 9 0 + 1)) n 500 (iN (σ 4 n))) j
    rw [z4]
    show _ = hOf (rStart (st2 (st2 σ 3 n x) 9 0 (σ 9 0 + 1)) (iN (st2 σ 3 n x 3 n)), 0) j
    rw [e3]
  have hls : ∀ k', k' ≠ 1 → lsN (st2 (st2 σ 3 n x) 9 0 (σ 9 0 + 1)) k' = lsN σ k' := by
    intro k' h
    match k', h with
    | 0, h => exact (show iN (σ 2 0) = iN (σ 2 0) from rfl)
    | 1, h => exact absurd rfl h
    | 2, h => exact (show iN (σ 16 0) = iN (σ 16 0) from rfl)
    | 3, h => exact (show iN (σ 26 0) = iN (σ 26 0) from rfl)
    | n + 4, h => exact (show iN (σ 30 0) = iN (σ 30 0) from rfl)
  exact (by
        show (if k' < iN (σ 26 0) then some (Sum.inr (7, [.int (nI k'), .int (σ 18 k'), .ref (adT ad (T_rep g ad n a w b1 b2 b3 b (lvF σ a)) 7 (iN (σ 17 k'))), .ref (ad 11 (iN (σ 19 k'))), .int (σ 20 k'), .int (σ 22 k'), .int (σ 21 k')]) : va_E) else none) = (if k' < iN (σ 26 0) then some (Sum.inr (7, [.int (nI k'), .int (σ 18 k'), .ref (ad 7 (iN (σ 17 k'))), .ref (ad 11 (iN (σ 19 k'))), .int (σ 20 k'), .int (σ 22 k'), .int (σ 21 k')]) : va_E) else none)
        by_cases hk : k' < iN (σ 26 0)
        · have hlt := hW.wt hk
          rw [(adT_out (i := 7) (k := iN (σ 17 k')) (by first | (simp [T_rep]; done) | (simp [T_rep]; omega)))]
        · rw [if_neg hk, if_neg hk])
theorem ho_rep_16 (hW : WX σ) (hn : n = iN (σ 9 0)) (ha : a = iN x) {w b1 b2 b3 b : Nat} (k' : Nat) (hm : (16, k') ∉ (T_rep g ad n a w b1 b2 b3 b (lvF σ a)).map (fun t => t.1)) : cont g (adT ad (T_rep g ad n a w b1 b2 b3 b (lvF σ a))) gh (st2 (st2 σ 3 n x) 9 0 (σ 9 0 + 1)) 16 k' = cont g ad gh σ 16 k' := by
  have hu := nI_up (k := 9) hW.1.2.1 (by decide)
  rw [← hn] at hu
  have hho : ∀ k, k ≠ n → heroR (st2 (st2 σ 3 n x) 9 0 (σ 9 0 + 1)) k = heroR σ k := fun k hk => heroR_c hW.i8 hW.i8 (hW.p20 k) (st2_n hk) rfl rfl rfl rfl (fun _ _ => ⟨rfl, rfl⟩)
  have z4 : σ 4 n = 0 := (hW.2.2.2.1.2.1 n (by omega)).1
  have z5 : σ 5 n = 0 := (hW.2.2.2.1.2.1 n (by omega)).2.1
  have z6 : σ 6 n = 0 := (hW.2.2.2.1.2.1 n (by omega)).2.2
  have hnew : hfs (heroR (st2 (st2 σ 3 n x) 9 0 (σ 9 0 + 1)) n) = hfs (hStart (lvF σ a) hz) := by
    have e3 : st2 σ 3 n x 3 n = x := st2_s σ 3 n x
    have h := (Sm.start (σ := st2 (st2 σ 3 n x) 9 0 (σ 9 0 + 1)) (a := iN x) hz).eq (x := (rStart (st2 (st2 σ 3 n x) 9 0 (σ 9 0 + 1)) (iN x), 0))
    refine (hfs_eq fun j hj => ?_).symm
    have h2 := h j hj
    rw [ha]
    refine h2.trans ?_
    unfold heroR
    show _ = hOf (rOut (st2 (st2 σ 3 n x) 9 0 (σ 9 0 + 1)) n 500 (iN (σ 4 n))) j
    rw [z4]
    show _ = hOf (rStart (st2 (st2 σ 3 n x) 9 0 (σ 9 0 + 1)) (iN (st2 σ 3 n x 3 n)), 0) j
    rw [e3]
  have hls : ∀ k', k' ≠ 1 → lsN (st2 (st2 σ 3 n x) 9 0 (σ 9 0 + 1)) k' = lsN σ k' := by
    intro k' h
    match k', h with
    | 0, h => exact (show iN (σ 2 0) = iN (σ 2 0) from rfl)
    | 1, h => exact absurd rfl h
    | 2, h => exact (show iN (σ 16 0) = iN (σ 16 0) from rfl)
    | 3, h => exact (show iN (σ 26 0) = iN (σ 26 0) from rfl)
    | n + 4, h => exact (show iN (σ 30 0) = iN (σ 30 0) from rfl)
  first | (simp only [cont]; done) | (simp only [cont]; rfl)
theorem ho_rep_17 (hW : WX σ) (hn : n = iN (σ 9 0)) (ha : a = iN x) {w b1 b2 b3 b : Nat} (k' : Nat) (hm : (17, k') ∉ (T_rep g ad n a w b1 b2 b3 b (lvF σ a)).map (fun t => t.1)) : cont g (adT ad (T_rep g ad n a w b1 b2 b3 b (lvF σ a))) gh (st2 (st2 σ 3 n x) 9 0 (σ 9 0 + 1)) 17 k' = cont g ad gh σ 17 k' := by
  have hu := nI_up (k := 9) hW.1.2.1 (by decide)
  rw [← hn] at hu
  have hho : ∀ k, k ≠ n → heroR (st2 (st2 σ 3 n x) 9 0 (σ 9 0 + 1)) k = heroR σ k := fun k hk => heroR_c hW.i8 hW.i8 (hW.p20 k) (st2_n hk) rfl rfl rfl rfl (fun _ _ => ⟨rfl, rfl⟩)
  have z4 : σ 4 n = 0 := (hW.2.2.2.1.2.1 n (by omega)).1
  have z5 : σ 5 n = 0 := (hW.2.2.2.1.2.1 n (by omega)).2.1
  have z6 : σ 6 n = 0 := (hW.2.2.2.1.2.1 n (by omega)).2.2
  have hnew : hfs (heroR (st2 (st2 σ 3 n x) 9 0 (σ 9 0 + 1)) n) = hfs (hStart (lvF σ a) hz) := by
    have e3 : st2 σ 3 n x 3 n = x := st2_s σ 3 n x
    have h := (Sm.start (σ := st2 (st2 σ 3 n x) 9 0 (σ 9 0 + 1)) (a := iN x) hz).eq (x := (rStart (st2 (st2 σ 3 n x) 9 0 (σ 9 0 + 1)) (iN x), 0))
    refine (hfs_eq fun j hj => ?_).symm
    have h2 := h j hj
    rw [ha]
    refine h2.trans ?_
    unfold heroR
    show _ = hOf (rOut (st2 (st2 σ 3 n x) 9 0 (σ 9 0 + 1)) n 500 (iN (σ 4 n))) j
    rw [z4]
    show _ = hOf (rStart (st2 (st2 σ 3 n x) 9 0 (σ 9 0 + 1)) (iN (st2 σ 3 n x 3 n)), 0) j
    rw [e3]
  have hls : ∀ k', k' ≠ 1 → lsN (st2 (st2 σ 3 n x) 9 0 (σ 9 0 + 1)) k' = lsN σ k' := by
    intro k' h
    match k', h with
    | 0, h => exact (show iN (σ 2 0) = iN (σ 2 0) from rfl)
    | 1, h => exact absurd rfl h
    | 2, h => exact (show iN (σ 16 0) = iN (σ 16 0) from rfl)
    | 3, h => exact (show iN (σ 26 0) = iN (σ 26 0) from rfl)
    | n + 4, h => exact (show iN (σ 30 0) = iN (σ 30 0) from rfl)
  first | (simp only [cont]; done) | (simp only [cont]; rfl)
theorem ho_rep_18 (hW : WX σ) (hn : n = iN (σ 9 0)) (ha : a = iN x) {w b1 b2 b3 b : Nat} (k' : Nat) (hm : (18, k') ∉ (T_rep g ad n a w b1 b2 b3 b (lvF σ a)).map (fun t => t.1)) : cont g (adT ad (T_rep g ad n a w b1 b2 b3 b (lvF σ a))) gh (st2 (st2 σ 3 n x) 9 0 (σ 9 0 + 1)) 18 k' = cont g ad gh σ 18 k' := by
  have hu := nI_up (k := 9) hW.1.2.1 (by decide)
  rw [← hn] at hu
  have hho : ∀ k, k ≠ n → heroR (st2 (st2 σ 3 n x) 9 0 (σ 9 0 + 1)) k = heroR σ k := fun k hk => heroR_c hW.i8 hW.i8 (hW.p20 k) (st2_n hk) rfl rfl rfl rfl (fun _ _ => ⟨rfl, rfl⟩)
  have z4 : σ 4 n = 0 := (hW.2.2.2.1.2.1 n (by omega)).1
  have z5 : σ 5 n = 0 := (hW.2.2.2.1.2.1 n (by omega)).2.1
  have z6 : σ 6 n = 0 := (hW.2.2.2.1.2.1 n (by omega)).2.2
  have hnew : hfs (heroR (st2 (st2 σ 3 n x) 9 0 (σ 9 0 + 1)) n) = hfs (hStart (lvF σ a) hz) := by
    have e3 : st2 σ 3 n x 3 n = x := st2_s σ 3 n x
    have h := (Sm.start (σ := st2 (st2 σ 3 n x) 9 0 (σ 9 0 + 1)) (a := iN x) hz).eq (x := (rStart (st2 (st2 σ 3 n x) 9 0 (σ 9 0 + 1)) (iN x), 0))
    refine (hfs_eq fun j hj => ?_).symm
    have h2 := h j hj
    rw [ha]
    refine h2.trans ?_
    unfold heroR
    show _ = hOf (rOut (st2 (st2 σ 3 n x) 9 0 (σ 9 0 + 1)) n 500 (iN (σ 4 n))) j
    rw [z4]
    show _ = hOf (rStart (st2 (st2 σ 3 n x) 9 0 (σ 9 0 + 1)) (iN (st2 σ 3 n x 3 n)), 0) j
    rw [e3]
  have hls : ∀ k', k' ≠ 1 → lsN (st2 (st2 σ 3 n x) 9 0 (σ 9 0 + 1)) k' = lsN σ k' := by
    intro k' h
    match k', h with
    | 0, h => exact (show iN (σ 2 0) = iN (σ 2 0) from rfl)
    | 1, h => exact absurd rfl h
    | 2, h => exact (show iN (σ 16 0) = iN (σ 16 0) from rfl)
    | 3, h => exact (show iN (σ 26 0) = iN (σ 26 0) from rfl)
    | n + 4, h => exact (show iN (σ 30 0) = iN (σ 30 0) from rfl)
  first | (simp only [cont]; done) | (simp only [cont]; rfl)
theorem ho_rep_19 (hW : WX σ) (hn : n = iN (σ 9 0)) (ha : a = iN x) {w b1 b2 b3 b : Nat} (k' : Nat) (hm : (19, k') ∉ (T_rep g ad n a w b1 b2 b3 b (lvF σ a)).map (fun t => t.1)) : cont g (adT ad (T_rep g ad n a w b1 b2 b3 b (lvF σ a))) gh (st2 (st2 σ 3 n x) 9 0 (σ 9 0 + 1)) 19 k' = cont g ad gh σ 19 k' := by
  have hu := nI_up (k := 9) hW.1.2.1 (by decide)
  rw [← hn] at hu
  have hho : ∀ k, k ≠ n → heroR (st2 (st2 σ 3 n x) 9 0 (σ 9 0 + 1)) k = heroR σ k := fun k hk => heroR_c hW.i8 hW.i8 (hW.p20 k) (st2_n hk) rfl rfl rfl rfl (fun _ _ => ⟨rfl, rfl⟩)
  have z4 : σ 4 n = 0 := (hW.2.2.2.1.2.1 n (by omega)).1
  have z5 : σ 5 n = 0 := (hW.2.2.2.1.2.1 n (by omega)).2.1
  have z6 : σ 6 n = 0 := (hW.2.2.2.1.2.1 n (by omega)).2.2
  have hnew : hfs (heroR (st2 (st2 σ 3 n x) 9 0 (σ 9 0 + 1)) n) = hfs (hStart (lvF σ a) hz) := by
    have e3 : st2 σ 3 n x 3 n = x := st2_s σ 3 n x
    have h := (Sm.start (σ := st2 (st2 σ 3 n x) 9 0 (σ 9 0 + 1)) (a := iN x) hz).eq (x := (rStart (st2 (st2 σ 3 n x) 9 0 (σ 9 0 + 1)) (iN x), 0))
    refine (hfs_eq fun j hj => ?_).symm
    have h2 := h j hj
    rw [ha]
    refine h2.trans ?_
    unfold heroR
    show _ = hOf (rOut (st2 (st2 σ 3 n x) 9 0 (σ 9 0 + 1)) n 500 (iN (σ 4 n))) j
    rw [z4]
    show _ = hOf (rStart (st2 (st2 σ 3 n x) 9 0 (σ 9 0 + 1)) (iN (st2 σ 3 n x 3 n)), 0) j
    rw [e3]
  have hls : ∀ k', k' ≠ 1 → lsN (st2 (st2 σ 3 n x) 9 0 (σ 9 0 + 1)) k' = lsN σ k' := by
    intro k' h
    match k', h with
    | 0, h => exact (show iN (σ 2 0) = iN (σ 2 0) from rfl)
    | 1, h => exact absurd rfl h
    | 2, h => exact (show iN (σ 16 0) = iN (σ 16 0) from rfl)
    | 3, h => exact (show iN (σ 26 0) = iN (σ 26 0) from rfl)
    | n + 4, h => exact (show iN (σ 30 0) = iN (σ 30 0) from rfl)
  first | (simp only [cont]; done) | (simp only [cont]; rfl)
theorem pic_rep (hQ : Pic g ad own gh σ C) (hW : WX σ) (hn : n = iN (σ 9 0)) (ha : a = iN x) {w b1 b2 b3 b : Nat} (hf_w : C w = none) (hf_b1 : C b1 = none) (hf_b2 : C b2 = none) (hf_b3 : C b3 = none) (hb : (b = ad 2 1 ∧ 0 < lsN σ 1) ∨ C b = none) (hnd : sg_nd [b, ad 1 1, b3, b2, b1, w]) :
    Pic g (adT ad (T_rep g ad n a w b1 b2 b3 b (lvF σ a))) (ownT own (T_rep g ad n a w b1 b2 b3 b (lvF σ a))) gh (st2 (st2 σ 3 n x) 9 0 (σ 9 0 + 1)) (sg_ov C ((T_rep g ad n a w b1 b2 b3 b (lvF σ a)).map (fun t => t.2))) ∧ Frm own (ownT own (T_rep g ad n a w b1 b2 b3 b (lvF σ a))) C (sg_ov C ((T_rep g ad n a w b1 b2 b3 b (lvF σ a)).map (fun t => t.2))) := by
  have hu := nI_up (k := 9) hW.1.2.1 (by decide)
  rw [← hn] at hu
  have hho : ∀ k, k ≠ n → heroR (st2 (st2 σ 3 n x) 9 0 (σ 9 0 + 1)) k = heroR σ k := fun k hk => heroR_c hW.i8 hW.i8 (hW.p20 k) (st2_n hk) rfl rfl rfl rfl (fun _ _ => ⟨rfl, rfl⟩)
  have z4 : σ 4 n = 0 := (hW.2.2.2.1.2.1 n (by omega)).1
  have z5 : σ 5 n = 0 := (hW.2.2.2.1.2.1 n (by omega)).2.1
  have z6 : σ 6 n = 0 := (hW.2.2.2.1.2.1 n (by omega)).2.2
  have hnew : hfs (heroR (st2 (st2 σ 3 n x) 9 0 (σ 9 0 + 1)) n) = hfs (hStart (lvF σ a) hz) := by
    have e3 : st2 σ 3 n x 3 n = x := st2_s σ 3 n x
    have h := (Sm.start (σ := st2 (st2 σ 3 n x) 9 0 (σ 9 0 + 1)) (a := iN x) hz).eq (x := (rStart (st2 (st2 σ 3 n x) 9 0 (σ 9 0 + 1)) (iN x), 0))
    refine (hfs_eq fun j hj => ?_).symm
    have h2 := h j hj
    rw [ha]
    refine h2.trans ?_
    unfold heroR
    show _ = hOf (rOut (st2 (st2 σ 3 n x) 9 0 (σ 9 0 + 1)) n 500 (iN (σ 4 n))) j
    rw [z4]
    show _ = hOf (rStart (st2 (st2 σ 3 n x) 9 0 (σ 9 0 + 1)) (iN (st2 σ 3 n x 3 n)), 0) j
    rw [e3]
  have hls : ∀ k', k' ≠ 1 → lsN (st2 (st2 σ 3 n x) 9 0 (σ 9 0 + 1)) k' = lsN σ k' := by
    intro k' h
    match k', h with
    | 0, h => exact (show iN (σ 2 0) = iN (σ 2 0) from rfl)
    | 1, h => exact absurd rfl h
    | 2, h => exact (show iN (σ 16 0) = iN (σ 16 0) from rfl)
    | 3, h => exact (show iN (σ 26 0) = iN (σ 26 0) from rfl)
    | n + 4, h => exact (show iN (σ 30 0) = iN (σ 30 0) from rfl)
  have hN : lsN (st2 (st2 σ 3 n x) 9 0 (σ 9 0 + 1)) 1 = n + 1 := hu.2
  have hM : nm_nd ((T_rep g ad n a w b1 b2 b3 b (lvF σ a)).map (fun t => t.1)) := nm_of (show sg_nd [2, 1, 10, 9, 8, 7] from ⟨by decide, by decide, by decide, by decide, by decide, by decide, trivial⟩)
  refine hQ.touch (T_rep g ad n a w b1 b2 b3 b (lvF σ a)) (List.forall_mem_cons.mpr ⟨(by rcases hb with ⟨q1, q2⟩ | q; exact .inr ⟨q1, _, ct2 (k := 1) (by decide) q2⟩; exact .inl q), List.forall_mem_cons.mpr ⟨(.inr ⟨rfl, _, ct1 (k := 1) (by decide)⟩), List.forall_mem_cons.mpr ⟨(.inl hf_b3), List.forall_mem_cons.mpr ⟨(.inl hf_b2), List.forall_mem_cons.mpr ⟨(.inl hf_b1), List.forall_mem_cons.mpr ⟨(.inl hf_w), fun _ h => absurd h List.not_mem_nil⟩⟩⟩⟩⟩⟩) hnd hM (List.forall_mem_cons.mpr ⟨(by
    show (if 1 < 5 then cA g (lsN (st2 (st2 σ 3 n x) 9 0 (σ 9 0 + 1)) 1) (adT ad (T_rep g ad n a w b1 b2 b3 b (lvF σ a)) 7) else none) = _
    rw [if_pos (by decide), hN]
    show (if 0 < n + 1 then some (sg_qa g (sg_cap (n + 1)) (sg_tr (adT ad (T_rep g ad n a w b1 b2 b3 b (lvF σ a)) 7) (n + 1))) else none) = _
    rw [if_pos (Nat.succ_pos n), tr_fu (f := ad 7) (f' := adT ad (T_rep g ad n a w b1 b2 b3 b (lvF σ a)) 7) (w := w) (fun i => (cond_beq i n w (ad 7 i)))]), List.forall_mem_cons.mpr ⟨(by
    show (if 1 < 5 then some (cL g (lsN (st2 (st2 σ 3 n x) 9 0 (σ 9 0 + 1)) 1) (adT ad (T_rep g ad n a w b1 b2 b3 b (lvF σ a)) 2 1)) else none) = _
    rw [if_pos (by decide), hN]
    show some (Sum.inr (0, [.int (nI (n + 1)), .ref (if n + 1 = 0 then g.2.2.2 0 else b), .int (nI (n + 1))]) : va_E) = _
    rw [if_neg (Nat.succ_ne_zero n)]), List.forall_mem_cons.mpr ⟨((if_pos (show n < iN (σ 9 0 + 1) by rw [hu.2]; exact Nat.lt_succ_self n)).trans (by rw [hnew])), List.forall_mem_cons.mpr ⟨((if_pos (show n < iN (σ 9 0 + 1) by rw [hu.2]; exact Nat.lt_succ_self n)).trans (by rw [show rpT (st2 (st2 σ 3 n x) 9 0 (σ 9 0 + 1)) n = fun _ => 0 from funext fun p => (show (if p < iN (σ 4 n) then σ 8 (20 * n + p) else 0) = 0 from if_neg (by rw [z4]; exact Nat.not_lt_zero p))])), List.forall_mem_cons.mpr ⟨((if_pos (show n < iN (σ 9 0 + 1) by rw [hu.2]; exact Nat.lt_succ_self n)).trans (by rw [show rpB (st2 (st2 σ 3 n x) 9 0 (σ 9 0 + 1)) n = fun _ => 0 from funext fun p => (show (if p < iN (σ 4 n) then σ 7 (20 * n + p) else 0) = 0 from if_neg (by rw [z4]; exact Nat.not_lt_zero p))])), List.forall_mem_cons.mpr ⟨((if_pos (show n < iN (σ 9 0 + 1) by rw [hu.2]; exact Nat.lt_succ_self n)).trans (by
    show some (Sum.inr (5, [.ref (ad 3 (iN (st2 σ 3 n x 3 n))), .ref (adT ad (T_rep g ad n a w b1 b2 b3 b (lvF σ a)) 8 n), .ref (adT ad (T_rep g ad n a w b1 b2 b3 b (lvF σ a)) 9 n), .ref (adT ad (T_rep g ad n a w b1 b2 b3 b (lvF σ a)) 10 n), .int (σ 4 n), .int (σ 5 n), .int (σ 6 n)]) : va_E) = _
    rw [st2_s, ← ha, z4, z5, z6, show adT ad (T_rep g ad n a w b1 b2 b3 b (lvF σ a)) 8 n = b1 from (adT_in (ad := ad) (t := ((8, n), b1, sg_ia g 20 (fun _ => 0))) hM (by simp [T_rep])), show adT ad (T_rep g ad n a w b1 b2 b3 b (lvF σ a)) 9 n = b2 from (adT_in (ad := ad) (t := ((9, n), b2, sg_ia g 20 (fun _ => 0))) hM (by simp [T_rep])), show adT ad (T_rep g ad n a w b1 b2 b3 b (lvF σ a)) 10 n = b3 from (adT_in (ad := ad) (t := ((10, n), b3, .inr (2, hfs (hStart (lvF σ a) hz)))) hM (by simp [T_rep]))])), fun _ h => absurd h List.not_mem_nil⟩⟩⟩⟩⟩⟩) (fun i k' hm => by
    rcases Nat.lt_or_ge i 20 with h20 | h20
    · match i, h20 with
      | 0, _ => exact ho_rep_0 hW hn ha k' hm
      | 1, _ => exact ho_rep_1 hW hn ha k' hm
      | 2, _ => exact ho_rep_2 hW hn ha k' hm
      | 3, _ => exact ho_rep_3 hW hn ha k' hm
      | 4, _ => exact ho_rep_4 hW hn ha k' hm
      | 5, _ => exact ho_rep_5 hW hn ha k' hm
      | 6, _ => exact ho_rep_6 hW hn ha k' hm
      | 7, _ => exact ho_rep_7 hW hn ha k' hm
      | 8, _ => exact ho_rep_8 hW hn ha k' hm
      | 9, _ => exact ho_rep_9 hW hn ha k' hm
      | 10, _ => exact ho_rep_10 hW hn ha k' hm
      | 11, _ => exact ho_rep_11 hW hn ha k' hm
      | 12, _ => exact ho_rep_12 hW hn ha k' hm
      | 13, _ => exact ho_rep_13 hW hn ha k' hm
      | 14, _ => exact ho_rep_14 hW hn ha k' hm
      | 15, _ => exact ho_rep_15 hW hn ha k' hm
      | 16, _ => exact ho_rep_16 hW hn ha k' hm
      | 17, _ => exact ho_rep_17 hW hn ha k' hm
      | 18, _ => exact ho_rep_18 hW hn ha k' hm
      | 19, _ => exact ho_rep_19 hW hn ha k' hm
      | n + 20, h => exact absurd h (by omega)
    · rw [cont_x i k' h20, cont_x i k' h20])

theorem wx_rep (hW : WX σ) (hn : n = iN (σ 9 0)) (h20 : ¬ σ 9 0 = 20) (hx : isN x (iN (σ 2 0))) : WX (st2 (st2 σ 3 n x) 9 0 (σ 9 0 + 1)) := by
  have hu := nI_up (k := 9) hW.1.2.1 (by decide)
  rw [← hn] at hu
  have hb := hW.1.2.1.2
  have hn2 : n < 20 := by
    rcases Nat.lt_or_ge n 20 with h | h
    · exact h
    · exact absurd (by rw [hW.1.2.1.1, show iN (σ 9 0) = 20 by omega]; rfl) h20
  have hho : ∀ k, k ≠ n → heroR (st2 (st2 σ 3 n x) 9 0 (σ 9 0 + 1)) k = heroR σ k := fun k hk => heroR_c hW.i8 hW.i8 (hW.p20 k) (st2_n hk) rfl rfl rfl rfl (fun _ _ => ⟨rfl, rfl⟩)
  have hl := fun r n1 => rLen_c (τ := st2 (st2 σ 3 n x) 9 0 (σ 9 0 + 1)) (σ := σ) (r := r) rfl n1
  refine ⟨⟨hW.1.1, ?_, hW.1.2.2.1, hW.1.2.2.2.1, hW.1.2.2.2.2.1, fun r hr => ?_, hW.1.2.2.2.2.2.2.1, hW.1.2.2.2.2.2.2.2.1, hW.1.2.2.2.2.2.2.2.2.1, hW.1.2.2.2.2.2.2.2.2.2.1, fun k hk => ?_, hW.1.2.2.2.2.2.2.2.2.2.2.2⟩, hW.2.1, hW.2.2.1, ⟨hW.2.2.2.1.1, fun k hk => ?_, hW.2.2.2.1.2.2⟩, hW.2.2.2.2.1, fun r => ?_, fun r hr => ?_⟩
  · show isN (σ 9 0 + 1) 21
    rw [hu.1]
    exact isN_nI (by omega) (by decide)
  · have hr2 : r < iN (σ 9 0 + 1) := hr
    rw [hu.2] at hr2
    show isN (st2 σ 3 n x 3 r) (iN (σ 2 0))
    by_cases q : r = n
    · rw [q, st2_s]
      exact hx
    · rw [st2_n q]
      exact hW.1.2.2.2.2.2.1 r (by omega)
  · show isN (σ 17 k) (iN (σ 9 0 + 1))
    rw [hu.2]
    exact isN_up (hW.1.2.2.2.2.2.2.2.2.2.2.1 k hk) (by omega)
  · have hk2 : iN (σ 9 0 + 1) ≤ k := hk
    rw [hu.2] at hk2
    exact hW.2.2.2.1.2.1 k (by omega)
  · rw [hl]
    exact hW.2.2.2.2.2.1 r
  · have hr2 : r < iN (σ 26 0) := hr
    have hlt := hW.wt hr2
    show σ 6 (iN (σ 17 r)) = 1 ∧ σ 22 r = heroR (st2 (st2 σ 3 n x) 9 0 (σ 9 0 + 1)) (iN (σ 17 r)) 10 ∧ σ 23 r = heroR (st2 (st2 σ 3 n x) 9 0 (σ 9 0 + 1)) (iN (σ 17 r)) 7 ∧ σ 24 r = heroR (st2 (st2 σ 3 n x) 9 0 (σ 9 0 + 1)) (iN (σ 17 r)) 8 ∧ σ 25 r = heroR (st2 (st2 σ 3 n x) 9 0 (σ 9 0 + 1)) (iN (σ 17 r)) 9 ∧ heroR (st2 (st2 σ 3 n x) 9 0 (σ 9 0 + 1)) (iN (σ 17 r)) 11 = 1
    rw [hho _ (by omega)]
    exact hW.2.2.2.2.2.2 r hr
theorem ph_rep (hQ : Pic g ad own gh σ C) (hW : WX σ) (hg : gOk gh) (hx : rIn σ 2 x) (h20 : ¬ σ 9 0 = 20) {w b1 b2 b3 b : Nat} (hw : C w = none) (h1 : C b1 = none) (h2 : C b2 = none) (h3 : C b3 = none) (hb : (b = ad 2 1 ∧ 0 < lsN σ 1) ∨ C b = none) (hnd : sg_nd [b, ad 1 1, b3, b2, b1, w]) :
    ¬ 0 < kReplay σ x ∧ vReplay σ x = nI (iN (σ 9 0)) ∧ PH g (ad 0 0) own C (fReplay σ x) (sg_ov C ((T_rep g ad (iN (σ 9 0)) (iN x) w b1 b2 b3 b (lvF σ (iN x))).map (fun t => t.2))) := by
  have hk : ¬ 0 < kReplay σ x := by rw [show kReplay σ x = 0 from (if_neg (fun q => q hx)).trans (if_neg h20)]; decide
  have hl := rIn_x hW.1.1 (by decide) hx
  have hW2 := hW.fr (f42 (kReplay σ x))
  have h4 := pic_rep (x := x) (hQ.fr hW (f42 (kReplay σ x))) hW2 (n := iN (σ 9 0)) rfl (a := iN x) rfl hw h1 h2 h3 hb hnd
  refine ⟨hk, (if_neg hk).trans ?_, ?_⟩
  · rw [(nI_up hW.1.2.1 (by decide)).1]
    exact nI_pred _
  · rw [show fReplay σ x = st2 (st2 (st2 σ 42 0 (kReplay σ x)) 3 (iN (σ 9 0)) x) 9 0 (σ 9 0 + 1) from if_neg hk]
    exact ⟨_, _, gh, h4.1, h4.2, hg, wx_rep hW2 rfl h20 hl, rfl⟩
abbrev T_cat (g : sg_G) (ad : Ad) (n a w b1 b : Nat) : List Tc := [((2, 2), b, sg_qa g (sg_cap (n + 1)) (sg_tr (sg_fu (ad 11) n w) (n + 1))), ((1, 2), ad 1 2, .inr (0, [.int (nI (n + 1)), .ref b, .int (nI (n + 1))])), ((12, n), b1, .inr (0, [.int 0, .ref (g.2.2.2 0), .int 0])), ((11, n), w, .inr (1, [.ref (ad 3 a), .ref b1]))]
theorem ho_cat_0 (hW : WX σ) (hn : n = iN (σ 16 0)) (ha : a = iN x) {w b1 b : Nat} (k' : Nat) (hm : (0, k') ∉ (T_cat g ad n a w b1 b).map (fun t => t.1)) : cont g (adT ad (T_cat g ad n a w b1 b)) gh (st2 (st2 σ 10 n x) 16 0 (σ 16 0 + 1)) 0 k' = cont g ad gh σ 0 k' := by
  have hu := nI_up (k := 16) hW.1.2.2.1 (by decide)
  rw [← hn] at hu
  have hh := heroR_lo (τ := st2 (st2 σ 10 n x) 16 0 (σ 16 0 + 1)) hW rfl rfl rfl rfl rfl rfl
  have z11 : σ 11 n = 0 := hW.2.2.2.1.2.2.1 n (by omega)
  have hls : ∀ k', k' ≠ 2 → lsN (st2 (st2 σ 10 n x) 16 0 (σ 16 0 + 1)) k' = lsN σ k' := by
    intro k' h
    match k', h with
    | 0, h => exact (show iN (σ 2 0) = iN (σ 2 0) from rfl)
    | 1, h => exact (show iN (σ 9 0) = iN (σ 9 0) from rfl)
    | 2, h => exact absurd rfl h
    | 3, h => exact (show iN (σ 26 0) = iN (σ 26 0) from rfl)
    | n + 4, h => exact (show iN (σ 30 0) = iN (σ 30 0) from rfl)
  first | (simp only [cont]; done) | (simp only [cont]; rfl)
theorem ho_cat_1 (hW : WX σ) (hn : n = iN (σ 16 0)) (ha : a = iN x) {w b1 b : Nat} (k' : Nat) (hm : (1, k') ∉ (T_cat g ad n a w b1 b).map (fun t => t.1)) : cont g (adT ad (T_cat g ad n a w b1 b)) gh (st2 (st2 σ 10 n x) 16 0 (σ 16 0 + 1)) 1 k' = cont g ad gh σ 1 k' := by
  have hu := nI_up (k := 16) hW.1.2.2.1 (by decide)
  rw [← hn] at hu
  have hh := heroR_lo (τ := st2 (st2 σ 10 n x) 16 0 (σ 16 0 + 1)) hW rfl rfl rfl rfl rfl rfl
  have z11 : σ 11 n = 0 := hW.2.2.2.1.2.2.1 n (by omega)
  have hls : ∀ k', k' ≠ 2 → lsN (st2 (st2 σ 10 n x) 16 0 (σ 16 0 + 1)) k' = lsN σ k' := by
    intro k' h
    match k', h with
    | 0, h => exact (show iN (σ 2 0) = iN (σ 2 0) from rfl)
    | 1, h => exact (show iN (σ 9 0) = iN (σ 9 0) from rfl)
    | 2, h => exact absurd rfl h
    | 3, h => exact (show iN (σ 26 0) = iN (σ 26 0) from rfl)
    | n + 4, h => exact (show iN (σ 30 0) = iN (σ 30 0) from rfl)
  exact (by
        have hk' : k' ≠ 2 := fun q => hm (by rw [q]; simp [T_cat])
        show (if k' < 5 then some (cL g (lsN (st2 (st2 σ 10 n x) 16 0 (σ 16 0 + 1)) k') (adT ad (T_cat g ad n a w b1 b) 2 k')) else none) = (if k' < 5 then some (cL g (lsN σ k') (ad 2 k')) else none)
        by_cases h5 : k' < 5
        · rw [if_pos h5, if_pos h5, hls k' hk', (adT_out (i := 2) (k := k') (by first | (simp [T_cat]; done) | (simp [T_cat]; omega)))]
        · rw [if_neg h5, if_neg h5])
theorem ho_cat_2 (hW : WX σ) (hn : n = iN (σ 16 0)) (ha : a = iN x) {w b1 b : Nat} (k' : Nat) (hm : (2, k') ∉ (T_cat g ad n a w b1 b).map (fun t => t.1)) : cont g (adT ad (T_cat g ad n a w b1 b)) gh (st2 (st2 σ 10 n x) 16 0 (σ 16 0 + 1)) 2 k' = cont g ad gh σ 2 k' := by
  have hu := nI_up (k := 16) hW.1.2.2.1 (by decide)
  rw [← hn] at hu
  have hh := heroR_lo (τ := st2 (st2 σ 10 n x) 16 0 (σ 16 0 + 1)) hW rfl rfl rfl rfl rfl rfl
  have z11 : σ 11 n = 0 := hW.2.2.2.1.2.2.1 n (by omega)
  have hls : ∀ k', k' ≠ 2 → lsN (st2 (st2 σ 10 n x) 16 0 (σ 16 0 + 1)) k' = lsN σ k' := by
    intro k' h
    match k', h with
    | 0, h => exact (show iN (σ 2 0) = iN (σ 2 0) from rfl)
    | 1, h => exact (show iN (σ 9 0) = iN (σ 9 0) from rfl)
    | 2, h => exact absurd rfl h
    | 3, h => exact (show iN (σ 26 0) = iN (σ 26 0) from rfl)
    | n + 4, h => exact (show iN (σ 30 0) = iN (σ 30 0) from rfl)
  exact (by
        have hk' : k' ≠ 2 := fun q => hm (by rw [q]; simp [T_cat])
        show (if k' < 5 then cA g (lsN (st2 (st2 σ 10 n x) 16 0 (σ 16 0 + 1)) k') (adT ad (T_cat g ad n a w b1 b) (lsE k')) else none) = (if k' < 5 then cA g (lsN σ k') (ad (lsE k')) else none)
        by_cases h5 : k' < 5
        · rw [if_pos h5, if_pos h5, hls k' hk']
          have h6 : k' = 0 ∨ k' = 1 ∨ k' = 3 ∨ k' = 4 := by omega
          rcases h6 with rfl | rfl | rfl | rfl
          · rfl
          · rfl
          · rfl
          · rfl
        · rw [if_neg h5, if_neg h5])
theorem ho_cat_3 (hW : WX σ) (hn : n = iN (σ 16 0)) (ha : a = iN x) {w b1 b : Nat} (k' : Nat) (hm : (3, k') ∉ (T_cat g ad n a w b1 b).map (fun t => t.1)) : cont g (adT ad (T_cat g ad n a w b1 b)) gh (st2 (st2 σ 10 n x) 16 0 (σ 16 0 + 1)) 3 k' = cont g ad gh σ 3 k' := by
  have hu := nI_up (k := 16) hW.1.2.2.1 (by decide)
  rw [← hn] at hu
  have hh := heroR_lo (τ := st2 (st2 σ 10 n x) 16 0 (σ 16 0 + 1)) hW rfl rfl rfl rfl rfl rfl
  have z11 : σ 11 n = 0 := hW.2.2.2.1.2.2.1 n (by omega)
  have hls : ∀ k', k' ≠ 2 → lsN (st2 (st2 σ 10 n x) 16 0 (σ 16 0 + 1)) k' = lsN σ k' := by
    intro k' h
    match k', h with
    | 0, h => exact (show iN (σ 2 0) = iN (σ 2 0) from rfl)
    | 1, h => exact (show iN (σ 9 0) = iN (σ 9 0) from rfl)
    | 2, h => exact absurd rfl h
    | 3, h => exact (show iN (σ 26 0) = iN (σ 26 0) from rfl)
    | n + 4, h => exact (show iN (σ 30 0) = iN (σ 30 0) from rfl)
  first | (simp only [cont]; done) | (simp only [cont]; rfl)
theorem ho_cat_4 (hW : WX σ) (hn : n = iN (σ 16 0)) (ha : a = iN x) {w b1 b : Nat} (k' : Nat) (hm : (4, k') ∉ (T_cat g ad n a w b1 b).map (fun t => t.1)) : cont g (adT ad (T_cat g ad n a w b1 b)) gh (st2 (st2 σ 10 n x) 16 0 (σ 16 0 + 1)) 4 k' = cont g ad gh σ 4 k' := by
  have hu := nI_up (k := 16) hW.1.2.2.1 (by decide)
  rw [← hn] at hu
  have hh := heroR_lo (τ := st2 (st2 σ 10 n x) 16 0 (σ 16 0 + 1)) hW rfl rfl rfl rfl rfl rfl
  have z11 : σ 11 n = 0 := hW.2.2.2.1.2.2.1 n (by omega)
  have hls : ∀ k', k' ≠ 2 → lsN (st2 (st2 σ 10 n x) 16 0 (σ 16 0 + 1)) k' = lsN σ k' := by
    intro k' h
    match k', h with
    | 0, h => exact (show iN (σ 2 0) = iN (σ 2 0) from rfl)
    | 1, h => exact (show iN (σ 9 0) = iN (σ 9 0) from rfl)
    | 2, h => exact absurd rfl h
    | 3, h => exact (show iN (σ 26 0) = iN (σ 26 0) from rfl)
    | n + 4, h => exact (show iN (σ 30 0) = iN (σ 30 0) from rfl)
  first | (simp only [cont]; done) | (simp only [cont]; rfl)
theorem ho_cat_5 (hW : WX σ) (hn : n = iN (σ 16 0)) (ha : a = iN x) {w b1 b : Nat} (k' : Nat) (hm : (5, k') ∉ (T_cat g ad n a w b1 b).map (fun t => t.1)) : cont g (adT ad (T_cat g ad n a w b1 b)) gh (st2 (st2 σ 10 n x) 16 0 (σ 16 0 + 1)) 5 k' = cont g ad gh σ 5 k' := by
  have hu := nI_up (k := 16) hW.1.2.2.1 (by decide)
  rw [← hn] at hu
  have hh := heroR_lo (τ := st2 (st2 σ 10 n x) 16 0 (σ 16 0 + 1)) hW rfl rfl rfl rfl rfl rfl
  have z11 : σ 11 n = 0 := hW.2.2.2.1.2.2.1 n (by omega)
  have hls : ∀ k', k' ≠ 2 → lsN (st2 (st2 σ 10 n x) 16 0 (σ 16 0 + 1)) k' = lsN σ k' := by
    intro k' h
    match k', h with
    | 0, h => exact (show iN (σ 2 0) = iN (σ 2 0) from rfl)
    | 1, h => exact (show iN (σ 9 0) = iN (σ 9 0) from rfl)
    | 2, h => exact absurd rfl h
    | 3, h => exact (show iN (σ 26 0) = iN (σ 26 0) from rfl)
    | n + 4, h => exact (show iN (σ 30 0) = iN (σ 30 0) from rfl)
  first | (simp only [cont]; done) | (simp only [cont]; rfl)
theorem ho_cat_6 (hW : WX σ) (hn : n = iN (σ 16 0)) (ha : a = iN x) {w b1 b : Nat} (k' : Nat) (hm : (6, k') ∉ (T_cat g ad n a w b1 b).map (fun t => t.1)) : cont g (adT ad (T_cat g ad n a w b1 b)) gh (st2 (st2 σ 10 n x) 16 0 (σ 16 0 + 1)) 6 k' = cont g ad gh σ 6 k' := by
  have hu := nI_up (k := 16) hW.1.2.2.1 (by decide)
  rw [← hn] at hu
  have hh := heroR_lo (τ := st2 (st2 σ 10 n x) 16 0 (σ 16 0 + 1)) hW rfl rfl rfl rfl rfl rfl
  have z11 : σ 11 n = 0 := hW.2.2.2.1.2.2.1 n (by omega)
  have hls : ∀ k', k' ≠ 2 → lsN (st2 (st2 σ 10 n x) 16 0 (σ 16 0 + 1)) k' = lsN σ k' := by
    intro k' h
    match k', h with
    | 0, h => exact (show iN (σ 2 0) = iN (σ 2 0) from rfl)
    | 1, h => exact (show iN (σ 9 0) = iN (σ 9 0) from rfl)
    | 2, h => exact absurd rfl h
    | 3, h => exact (show iN (σ 26 0) = iN (σ 26 0) from rfl)
    | n + 4, h => exact (show iN (σ 30 0) = iN (σ 30 0) from rfl)
  first | (simp only [cont]; done) | (simp only [cont]; rfl)
theorem ho_cat_7 (hW : WX σ) (hn : n = iN (σ 16 0)) (ha : a = iN x) {w b1 b : Nat} (k' : Nat) (hm : (7, k') ∉ (T_cat g ad n a w b1 b).map (fun t => t.1)) : cont g (adT ad (T_cat g ad n a w b1 b)) gh (st2 (st2 σ 10 n x) 16 0 (σ 16 0 + 1)) 7 k' = cont g ad gh σ 7 k' := by
  have hu := nI_up (k := 16) hW.1.2.2.1 (by decide)
  rw [← hn] at hu
  have hh := heroR_lo (τ := st2 (st2 σ 10 n x) 16 0 (σ 16 0 + 1)) hW rfl rfl rfl rfl rfl rfl
  have z11 : σ 11 n = 0 := hW.2.2.2.1.2.2.1 n (by omega)
  have hls : ∀ k', k' ≠ 2 → lsN (st2 (st2 σ 10 n x) 16 0 (σ 16 0 + 1)) k' = lsN σ k' := by
    intro k' h
    match k', h with
    | 0, h => exact (show iN (σ 2 0) = iN (σ 2 0) from rfl)
    | 1, h => exact (show iN (σ 9 0) = iN (σ 9 0) from rfl)
    | 2, h => exact absurd rfl h
    | 3, h => exact (show iN (σ 26 0) = iN (σ 26 0) from rfl)
    | n + 4, h => exact (show iN (σ 30 0) = iN (σ 30 0) from rfl)
  first | (simp only [cont]; done) | (simp only [cont]; rfl)
theorem ho_cat_8 (hW : WX σ) (hn : n = iN (σ 16 0)) (ha : a = iN x) {w b1 b : Nat} (k' : Nat) (hm : (8, k') ∉ (T_cat g ad n a w b1 b).map (fun t => t.1)) : cont g (adT ad (T_cat g ad n a w b1 b)) gh (st2 (st2 σ 10 n x) 16 0 (σ 16 0 + 1)) 8 k' = cont g ad gh σ 8 k' := by
  have hu := nI_up (k := 16) hW.1.2.2.1 (by decide)
  rw [← hn] at hu
  have hh := heroR_lo (τ := st2 (st2 σ 10 n x) 16 0 (σ 16 0 + 1)) hW rfl rfl rfl rfl rfl rfl
  have z11 : σ 11 n = 0 := hW.2.2.2.1.2.2.1 n (by omega)
  have hls : ∀ k', k' ≠ 2 → lsN (st2 (st2 σ 10 n x) 16 0 (σ 16 0 + 1)) k' = lsN σ k' := by
    intro k' h
    match k', h with
    | 0, h => exact (show iN (σ 2 0) = iN (σ 2 0) from rfl)
    | 1, h => exact (show iN (σ 9 0) = iN (σ 9 0) from rfl)
    | 2, h => exact absurd rfl h
    | 3, h => exact (show iN (σ 26 0) = iN (σ 26 0) from rfl)
    | n + 4, h => exact (show iN (σ 30 0) = iN (σ 30 0) from rfl)
  first | (simp only [cont]; done) | (simp only [cont]; rfl)
theorem ho_cat_9 (hW : WX σ) (hn : n = iN (σ 16 0)) (ha : a = iN x) {w b1 b : Nat} (k' : Nat) (hm : (9, k') ∉ (T_cat g ad n a w b1 b).map (fun t => t.1)) : cont g (adT ad (T_cat g ad n a w b1 b)) gh (st2 (st2 σ 10 n x) 16 0 (σ 16 0 + 1)) 9 k' = cont g ad gh σ 9 k' := by
  have hu := nI_up (k := 16) hW.1.2.2.1 (by decide)
  rw [← hn] at hu
  have hh := heroR_lo (τ := st2 (st2 σ 10 n x) 16 0 (σ 16 0 + 1)) hW rfl rfl rfl rfl rfl rfl
  have z11 : σ 11 n = 0 := hW.2.2.2.1.2.2.1 n (by omega)
  have hls : ∀ k', k' ≠ 2 → lsN (st2 (st2 σ 10 n x) 16 0 (σ 16 0 + 1)) k' = lsN σ k' := by
    intro k' h
    match k', h with
    | 0, h => exact (show iN (σ 2 0) = iN (σ 2 0) from rfl)
    | 1, h => exact (show iN (σ 9 0) = iN (σ 9 0) from rfl)
    | 2, h => exact absurd rfl h
    | 3, h => exact (show iN (σ 26 0) = iN (σ 26 0) from rfl)
    | n + 4, h => exact (show iN (σ 30 0) = iN (σ 30 0) from rfl)
  first | (simp only [cont]; done) | (simp only [cont]; rfl)
theorem ho_cat_10 (hW : WX σ) (hn : n = iN (σ 16 0)) (ha : a = iN x) {w b1 b : Nat} (k' : Nat) (hm : (10, k') ∉ (T_cat g ad n a w b1 b).map (fun t => t.1)) : cont g (adT ad (T_cat g ad n a w b1 b)) gh (st2 (st2 σ 10 n x) 16 0 (σ 16 0 + 1)) 10 k' = cont g ad gh σ 10 k' := by
  have hu := nI_up (k := 16) hW.1.2.2.1 (by decide)
  rw [← hn] at hu
  have hh := heroR_lo (τ := st2 (st2 σ 10 n x) 16 0 (σ 16 0 + 1)) hW rfl rfl rfl rfl rfl rfl
  have z11 : σ 11 n = 0 := hW.2.2.2.1.2.2.1 n (by omega)
  have hls : ∀ k', k' ≠ 2 → lsN (st2 (st2 σ 10 n x) 16 0 (σ 16 0 + 1)) k' = lsN σ k' := by
    intro k' h
    match k', h with
    | 0, h => exact (show iN (σ 2 0) = iN (σ 2 0) from rfl)
    | 1, h => exact (show iN (σ 9 0) = iN (σ 9 0) from rfl)
    | 2, h => exact absurd rfl h
    | 3, h => exact (show iN (σ 26 0) = iN (σ 26 0) from rfl)
    | n + 4, h => exact (show iN (σ 30 0) = iN (σ 30 0) from rfl)
  simp only [cont]; rw [hh]; rfl
theorem ho_cat_11 (hW : WX σ) (hn : n = iN (σ 16 0)) (ha : a = iN x) {w b1 b : Nat} (k' : Nat) (hm : (11, k') ∉ (T_cat g ad n a w b1 b).map (fun t => t.1)) : cont g (adT ad (T_cat g ad n a w b1 b)) gh (st2 (st2 σ 10 n x) 16 0 (σ 16 0 + 1)) 11 k' = cont g ad gh σ 11 k' := by
  have hu := nI_up (k := 16) hW.1.2.2.1 (by decide)
  rw [← hn] at hu
  have hh := heroR_lo (τ := st2 (st2 σ 10 n x) 16 0 (σ 16 0 + 1)) hW rfl rfl rfl rfl rfl rfl
  have z11 : σ 11 n = 0 := hW.2.2.2.1.2.2.1 n (by omega)
  have hls : ∀ k', k' ≠ 2 → lsN (st2 (st2 σ 10 n x) 16 0 (σ 16 0 + 1)) k' = lsN σ k' := by
    intro k' h
    match k', h with
    | 0, h => exact (show iN (σ 2 0) = iN (σ 2 0) from rfl)
    | 1, h => exact (show iN (σ 9 0) = iN (σ 9 0) from rfl)
    | 2, h => exact absurd rfl h
    | 3, h => exact (show iN (σ 26 0) = iN (σ 26 0) from rfl)
    | n + 4, h => exact (show iN (σ 30 0) = iN (σ 30 0) from rfl)
  exact (by
        have hk' : k' ≠ n := fun q => hm (by rw [q]; simp [T_cat])
        show (if k' < iN (σ 16 0 + 1) then some (Sum.inr (1, [.ref (ad 3 (iN (st2 σ 10 n x 10 k'))), .ref (adT ad (T_cat g ad n a w b1 b) 12 k')]) : va_E) else none) = (if k' < iN (σ 16 0) then some (Sum.inr (1, [.ref (ad 3 (iN (σ 10 k'))), .ref (ad 12 k')]) : va_E) else none)
        rw [st2_n hk', (adT_out (i := 12) (k := k') (by first | (simp [T_cat]; done) | (simp [T_cat]; omega)))]
        exact ite_c (by rw [hu.2, ← hn]; omega) rfl rfl)
theorem ho_cat_12 (hW : WX σ) (hn : n = iN (σ 16 0)) (ha : a = iN x) {w b1 b : Nat} (k' : Nat) (hm : (12, k') ∉ (T_cat g ad n a w b1 b).map (fun t => t.1)) : cont g (adT ad (T_cat g ad n a w b1 b)) gh (st2 (st2 σ 10 n x) 16 0 (σ 16 0 + 1)) 12 k' = cont g ad gh σ 12 k' := by
  have hu := nI_up (k := 16) hW.1.2.2.1 (by decide)
  rw [← hn] at hu
  have hh := heroR_lo (τ := st2 (st2 σ 10 n x) 16 0 (σ 16 0 + 1)) hW rfl rfl rfl rfl rfl rfl
  have z11 : σ 11 n = 0 := hW.2.2.2.1.2.2.1 n (by omega)
  have hls : ∀ k', k' ≠ 2 → lsN (st2 (st2 σ 10 n x) 16 0 (σ 16 0 + 1)) k' = lsN σ k' := by
    intro k' h
    match k', h with
    | 0, h => exact (show iN (σ 2 0) = iN (σ 2 0) from rfl)
    | 1, h => exact (show iN (σ 9 0) = iN (σ 9 0) from rfl)
    | 2, h => exact absurd rfl h
    | 3, h => exact (show iN (σ 26 0) = iN (σ 26 0) from rfl)
    | n + 4, h => exact (show iN (σ 30 0) = iN (σ 30 0) from rfl)
  exact (by
        have hk' : k' ≠ n := fun q => hm (by rw [q]; simp [T_cat])
        show (if k' < iN (σ 16 0 + 1) then some (cL g (iN (σ 11 k')) (ad 13 k')) else none) = (if k' < iN (σ 16 0) then some (cL g (iN (σ 11 k')) (ad 13 k')) else none)
        exact ite_c (by rw [hu.2, ← hn]; omega) rfl rfl)
theorem ho_cat_13 (hW : WX σ) (hn : n = iN (σ 16 0)) (ha : a = iN x) {w b1 b : Nat} (k' : Nat) (hm : (13, k') ∉ (T_cat g ad n a w b1 b).map (fun t => t.1)) : cont g (adT ad (T_cat g ad n a w b1 b)) gh (st2 (st2 σ 10 n x) 16 0 (σ 16 0 + 1)) 13 k' = cont g ad gh σ 13 k' := by
  have hu := nI_up (k := 16) hW.1.2.2.1 (by decide)
  rw [← hn] at hu
  have hh := heroR_lo (τ := st2 (st2 σ 10 n x) 16 0 (σ 16 0 + 1)) hW rfl rfl rfl rfl rfl rfl
  have z11 : σ 11 n = 0 := hW.2.2.2.1.2.2.1 n (by omega)
  have hls : ∀ k', k' ≠ 2 → lsN (st2 (st2 σ 10 n x) 16 0 (σ 16 0 + 1)) k' = lsN σ k' := by
    intro k' h
    match k', h with
    | 0, h => exact (show iN (σ 2 0) = iN (σ 2 0) from rfl)
    | 1, h => exact (show iN (σ 9 0) = iN (σ 9 0) from rfl)
    | 2, h => exact absurd rfl h
    | 3, h => exact (show iN (σ 26 0) = iN (σ 26 0) from rfl)
    | n + 4, h => exact (show iN (σ 30 0) = iN (σ 30 0) from rfl)
  exact (by
        show (if k' < iN (σ 16 0 + 1) then cA g (iN (σ 11 k')) (fun j => ad 14 (10 * k' + j)) else none) = (if k' < iN (σ 16 0) then cA g (iN (σ 11 k')) (fun j => ad 14 (10 * k' + j)) else none)
        by_cases q : k' = n
        · rw [q, if_pos (show n < iN (σ 16 0 + 1) by rw [hu.2]; exact Nat.lt_succ_self n), if_neg (by omega), z11]
          rfl
        · exact ite_c (by rw [hu.2, ← hn]; omega) rfl rfl)
theorem ho_cat_14 (hW : WX σ) (hn : n = iN (σ 16 0)) (ha : a = iN x) {w b1 b : Nat} (k' : Nat) (hm : (14, k') ∉ (T_cat g ad n a w b1 b).map (fun t => t.1)) : cont g (adT ad (T_cat g ad n a w b1 b)) gh (st2 (st2 σ 10 n x) 16 0 (σ 16 0 + 1)) 14 k' = cont g ad gh σ 14 k' := by
  have hu := nI_up (k := 16) hW.1.2.2.1 (by decide)
  rw [← hn] at hu
  have hh := heroR_lo (τ := st2 (st2 σ 10 n x) 16 0 (σ 16 0 + 1)) hW rfl rfl rfl rfl rfl rfl
  have z11 : σ 11 n = 0 := hW.2.2.2.1.2.2.1 n (by omega)
  have hls : ∀ k', k' ≠ 2 → lsN (st2 (st2 σ 10 n x) 16 0 (σ 16 0 + 1)) k' = lsN σ k' := by
    intro k' h
    match k', h with
    | 0, h => exact (show iN (σ 2 0) = iN (σ 2 0) from rfl)
    | 1, h => exact (show iN (σ 9 0) = iN (σ 9 0) from rfl)
    | 2, h => exact absurd rfl h
    | 3, h => exact (show iN (σ 26 0) = iN (σ 26 0) from rfl)
    | n + 4, h => exact (show iN (σ 30 0) = iN (σ 30 0) from rfl)
  exact (by
        show (if k' / 10 < iN (σ 16 0 + 1) ∧ k' % 10 < iN (σ 11 (k' / 10)) then some (Sum.inr (6, [.int (σ 12 k'), .int (σ 13 k'), .int (σ 14 k'), .int (σ 15 k')]) : va_E) else none) = (if k' / 10 < iN (σ 16 0) ∧ k' % 10 < iN (σ 11 (k' / 10)) then some (Sum.inr (6, [.int (σ 12 k'), .int (σ 13 k'), .int (σ 14 k'), .int (σ 15 k')]) : va_E) else none)
        refine ite_c ⟨fun q => ⟨?_, q.2⟩, fun q => ⟨by rw [hu.2]; omega, q.2⟩⟩ rfl rfl
        by_cases q2 : k' / 10 = n
        · have q3 := q.2
          rw [q2, z11] at q3
          exact absurd q3 (Nat.not_lt_zero _)
        · have q3 := q.1
          rw [hu.2] at q3
          omega)
theorem ho_cat_15 (hW : WX σ) (hn : n = iN (σ 16 0)) (ha : a = iN x) {w b1 b : Nat} (k' : Nat) (hm : (15, k') ∉ (T_cat g ad n a w b1 b).map (fun t => t.1)) : cont g (adT ad (T_cat g ad n a w b1 b)) gh (st2 (st2 σ 10 n x) 16 0 (σ 16 0 + 1)) 15 k' = cont g ad gh σ 15 k' := by
  have hu := nI_up (k := 16) hW.1.2.2.1 (by decide)
  rw [← hn] at hu
  have hh := heroR_lo (τ := st2 (st2 σ 10 n x) 16 0 (σ 16 0 + 1)) hW rfl rfl rfl rfl rfl rfl
  have z11 : σ 11 n = 0 := hW.2.2.2.1.2.2.1 n (by omega)
  have hls : ∀ k', k' ≠ 2 → lsN (st2 (st2 σ 10 n x) 16 0 (σ 16 0 + 1)) k' = lsN σ k' := by
    intro k' h
    match k', h with
    | 0, h => exact (show iN (σ 2 0) = iN (σ 2 0) from rfl)
    | 1, h => exact (show iN (σ 9 0) = iN (σ 9 0) from rfl)
    | 2, h => exact absurd rfl h
    | 3, h => exact (show iN (σ 26 0) = iN (σ 26 0) from rfl)
    | n + 4, h => exact (show iN (σ 30 0) = iN (σ 30 0) from rfl)
  exact (by
        show (if k' < iN (σ 26 0) then some (Sum.inr (7, [.int (nI k'), .int (σ 18 k'), .ref (ad 7 (iN (σ 17 k'))), .ref (adT ad (T_cat g ad n a w b1 b) 11 (iN (σ 19 k'))), .int (σ 20 k'), .int (σ 22 k'), .int (σ 21 k')]) : va_E) else none) = (if k' < iN (σ 26 0) then some (Sum.inr (7, [.int (nI k'), .int (σ 18 k'), .ref (ad 7 (iN (σ 17 k'))), .ref (ad 11 (iN (σ 19 k'))), .int (σ 20 k'), .int (σ 22 k'), .int (σ 21 k')]) : va_E) else none)
        by_cases hk : k' < iN (σ 26 0)
        · have hlt := hW.wc hk
          rw [(adT_out (i := 11) (k := iN (σ 19 k')) (by first | (simp [T_cat]; done) | (simp [T_cat]; omega)))]
        · rw [if_neg hk, if_neg hk])
theorem ho_cat_16 (hW : WX σ) (hn : n = iN (σ 16 0)) (ha : a = iN x) {w b1 b : Nat} (k' : Nat) (hm : (16, k') ∉ (T_cat g ad n a w b1 b).map (fun t => t.1)) : cont g (adT ad (T_cat g ad n a w b1 b)) gh (st2 (st2 σ 10 n x) 16 0 (σ 16 0 + 1)) 16 k' = cont g ad gh σ 16 k' := by
  have hu := nI_up (k := 16) hW.1.2.2.1 (by decide)
  rw [← hn] at hu
  have hh := heroR_lo (τ := st2 (st2 σ 10 n x) 16 0 (σ 16 0 + 1)) hW rfl rfl rfl rfl rfl rfl
  have z11 : σ 11 n = 0 := hW.2.2.2.1.2.2.1 n (by omega)
  have hls : ∀ k', k' ≠ 2 → lsN (st2 (st2 σ 10 n x) 16 0 (σ 16 0 + 1)) k' = lsN σ k' := by
    intro k' h
    match k', h with
    | 0, h => exact (show iN (σ 2 0) = iN (σ 2 0) from rfl)
    | 1, h => exact (show iN (σ 9 0) = iN (σ 9 0) from rfl)
    | 2, h => exact absurd rfl h
    | 3, h => exact (show iN (σ 26 0) = iN (σ 26 0) from rfl)
    | n + 4, h => exact (show iN (σ 30 0) = iN (σ 30 0) from rfl)
  exact (by
        show (if k' < iN (σ 30 0) then some (Sum.inr (4, [.ref (adT ad (T_cat g ad n a w b1 b) 11 (iN (σ 27 k'))), .int (σ 28 k'), .int (σ 29 k')]) : va_E) else none) = (if k' < iN (σ 30 0) then some (Sum.inr (4, [.ref (ad 11 (iN (σ 27 k'))), .int (σ 28 k'), .int (σ 29 k')]) : va_E) else none)
        by_cases hk : k' < iN (σ 30 0)
        · have hlt := hW.wo hk
          rw [(adT_out (i := 11) (k := iN (σ 27 k')) (by first | (simp [T_cat]; done) | (simp [T_cat]; omega)))]
        · rw [if_neg hk, if_neg hk])
theorem ho_cat_17 (hW : WX σ) (hn : n = iN (σ 16 0)) (ha : a = iN x) {w b1 b : Nat} (k' : Nat) (hm : (17, k') ∉ (T_cat g ad n a w b1 b).map (fun t => t.1)) : cont g (adT ad (T_cat g ad n a w b1 b)) gh (st2 (st2 σ 10 n x) 16 0 (σ 16 0 + 1)) 17 k' = cont g ad gh σ 17 k' := by
  have hu := nI_up (k := 16) hW.1.2.2.1 (by decide)
  rw [← hn] at hu
  have hh := heroR_lo (τ := st2 (st2 σ 10 n x) 16 0 (σ 16 0 + 1)) hW rfl rfl rfl rfl rfl rfl
  have z11 : σ 11 n = 0 := hW.2.2.2.1.2.2.1 n (by omega)
  have hls : ∀ k', k' ≠ 2 → lsN (st2 (st2 σ 10 n x) 16 0 (σ 16 0 + 1)) k' = lsN σ k' := by
    intro k' h
    match k', h with
    | 0, h => exact (show iN (σ 2 0) = iN (σ 2 0) from rfl)
    | 1, h => exact (show iN (σ 9 0) = iN (σ 9 0) from rfl)
    | 2, h => exact absurd rfl h
    | 3, h => exact (show iN (σ 26 0) = iN (σ 26 0) from rfl)
    | n + 4, h => exact (show iN (σ 30 0) = iN (σ 30 0) from rfl)
  first | (simp only [cont]; done) | (simp only [cont]; rfl)
theorem ho_cat_18 (hW : WX σ) (hn : n = iN (σ 16 0)) (ha : a = iN x) {w b1 b : Nat} (k' : Nat) (hm : (18, k') ∉ (T_cat g ad n a w b1 b).map (fun t => t.1)) : cont g (adT ad (T_cat g ad n a w b1 b)) gh (st2 (st2 σ 10 n x) 16 0 (σ 16 0 + 1)) 18 k' = cont g ad gh σ 18 k' := by
  have hu := nI_up (k := 16) hW.1.2.2.1 (by decide)
  rw [← hn] at hu
  have hh := heroR_lo (τ := st2 (st2 σ 10 n x) 16 0 (σ 16 0 + 1)) hW rfl rfl rfl rfl rfl rfl
  have z11 : σ 11 n = 0 := hW.2.2.2.1.2.2.1 n (by omega)
  have hls : ∀ k', k' ≠ 2 → lsN (st2 (st2 σ 10 n x) 16 0 (σ 16 0 + 1)) k' = lsN σ k' := by
    intro k' h
    match k', h with
    | 0, h => exact (show iN (σ 2 0) = iN (σ 2 0) from rfl)
    | 1, h => exact (show iN (σ 9 0) = iN (σ 9 0) from rfl)
    | 2, h => exact absurd rfl h
    | 3, h => exact (show iN (σ 26 0) = iN (σ 26 0) from rfl)
    | n + 4, h => exact (show iN (σ 30 0) = iN (σ 30 0) from rfl)
  first | (simp only [cont]; done) | (simp only [cont]; rfl)
theorem ho_cat_19 (hW : WX σ) (hn : n = iN (σ 16 0)) (ha : a = iN x) {w b1 b : Nat} (k' : Nat) (hm : (19, k') ∉ (T_cat g ad n a w b1 b).map (fun t => t.1)) : cont g (adT ad (T_cat g ad n a w b1 b)) gh (st2 (st2 σ 10 n x) 16 0 (σ 16 0 + 1)) 19 k' = cont g ad gh σ 19 k' := by
  have hu := nI_up (k := 16) hW.1.2.2.1 (by decide)
  rw [← hn] at hu
  have hh := heroR_lo (τ := st2 (st2 σ 10 n x) 16 0 (σ 16 0 + 1)) hW rfl rfl rfl rfl rfl rfl
  have z11 : σ 11 n = 0 := hW.2.2.2.1.2.2.1 n (by omega)
  have hls : ∀ k', k' ≠ 2 → lsN (st2 (st2 σ 10 n x) 16 0 (σ 16 0 + 1)) k' = lsN σ k' := by
    intro k' h
    match k', h with
    | 0, h => exact (show iN (σ 2 0) = iN (σ 2 0) from rfl)
    | 1, h => exact (show iN (σ 9 0) = iN (σ 9 0) from rfl)
    | 2, h => exact absurd rfl h
    | 3, h => exact (show iN (σ 26 0) = iN (σ 26 0) from rfl)
    | n + 4, h => exact (show iN (σ 30 0) = iN (σ 30 0) from rfl)
  first | (simp only [cont]; done) | (simp only [cont]; rfl)
theorem pic_cat (hQ : Pic g ad own gh σ C) (hW : WX σ) (hn : n = iN (σ 16 0)) (ha : a = iN x) {w b1 b : Nat} (hf_w : C w = none) (hf_b1 : C b1 = none) (hb : (b = ad 2 2 ∧ 0 < lsN σ 2) ∨ C b = none) (hnd : sg_nd [b, ad 1 2, b1, w]) :
    Pic g (adT ad (T_cat g ad n a w b1 b)) (ownT own (T_cat g ad n a w b1 b)) gh (st2 (st2 σ 10 n x) 16 0 (σ 16 0 + 1)) (sg_ov C ((T_cat g ad n a w b1 b).map (fun t => t.2))) ∧ Frm own (ownT own (T_cat g ad n a w b1 b)) C (sg_ov C ((T_cat g ad n a w b1 b).map (fun t => t.2))) := by
  have hu := nI_up (k := 16) hW.1.2.2.1 (by decide)
  rw [← hn] at hu
  have hh := heroR_lo (τ := st2 (st2 σ 10 n x) 16 0 (σ 16 0 + 1)) hW rfl rfl rfl rfl rfl rfl
  have z11 : σ 11 n = 0 := hW.2.2.2.1.2.2.1 n (by omega)
  have hls : ∀ k', k' ≠ 2 → lsN (st2 (st2 σ 10 n x) 16 0 (σ 16 0 + 1)) k' = lsN σ k' := by
    intro k' h
    match k', h with
    | 0, h => exact (show iN (σ 2 0) = iN (σ 2 0) from rfl)
    | 1, h => exact (show iN (σ 9 0) = iN (σ 9 0) from rfl)
    | 2, h => exact absurd rfl h
    | 3, h => exact (show iN (σ 26 0) = iN (σ 26 0) from rfl)
    | n + 4, h => exact (show iN (σ 30 0) = iN (σ 30 0) from rfl)
  have hN : lsN (st2 (st2 σ 10 n x) 16 0 (σ 16 0 + 1)) 2 = n + 1 := hu.2
  have hM : nm_nd ((T_cat g ad n a w b1 b).map (fun t => t.1)) := nm_of (show sg_nd [2, 1, 12, 11] from ⟨by decide, by decide, by decide, by decide, trivial⟩)
  refine hQ.touch (T_cat g ad n a w b1 b) (List.forall_mem_cons.mpr ⟨(by rcases hb with ⟨q1, q2⟩ | q; exact .inr ⟨q1, _, ct2 (k := 2) (by decide) q2⟩; exact .inl q), List.forall_mem_cons.mpr ⟨(.inr ⟨rfl, _, ct1 (k := 2) (by decide)⟩), List.forall_mem_cons.mpr ⟨(.inl hf_b1), List.forall_mem_cons.mpr ⟨(.inl hf_w), fun _ h => absurd h List.not_mem_nil⟩⟩⟩⟩) hnd hM (List.forall_mem_cons.mpr ⟨(by
    show (if 2 < 5 then cA g (lsN (st2 (st2 σ 10 n x) 16 0 (σ 16 0 + 1)) 2) (adT ad (T_cat g ad n a w b1 b) 11) else none) = _
    rw [if_pos (by decide), hN]
    show (if 0 < n + 1 then some (sg_qa g (sg_cap (n + 1)) (sg_tr (adT ad (T_cat g ad n a w b1 b) 11) (n + 1))) else none) = _
    rw [if_pos (Nat.succ_pos n), tr_fu (f := ad 11) (f' := adT ad (T_cat g ad n a w b1 b) 11) (w := w) (fun i => (cond_beq i n w (ad 11 i)))]), List.forall_mem_cons.mpr ⟨(by
    show (if 2 < 5 then some (cL g (lsN (st2 (st2 σ 10 n x) 16 0 (σ 16 0 + 1)) 2) (adT ad (T_cat g ad n a w b1 b) 2 2)) else none) = _
    rw [if_pos (by decide), hN]
    show some (Sum.inr (0, [.int (nI (n + 1)), .ref (if n + 1 = 0 then g.2.2.2 0 else b), .int (nI (n + 1))]) : va_E) = _
    rw [if_neg (Nat.succ_ne_zero n)]), List.forall_mem_cons.mpr ⟨((if_pos (show n < iN (σ 16 0 + 1) by rw [hu.2]; exact Nat.lt_succ_self n)).trans (by
    show some (cL g (iN (σ 11 n)) (ad 13 n)) = _
    rw [z11]
    rfl)), List.forall_mem_cons.mpr ⟨((if_pos (show n < iN (σ 16 0 + 1) by rw [hu.2]; exact Nat.lt_succ_self n)).trans (by
    show some (Sum.inr (1, [.ref (ad 3 (iN (st2 σ 10 n x 10 n))), .ref (adT ad (T_cat g ad n a w b1 b) 12 n)]) : va_E) = _
    rw [st2_s, ← ha, show adT ad (T_cat g ad n a w b1 b) 12 n = b1 from (adT_in (ad := ad) (t := ((12, n), b1, .inr (0, [.int 0, .ref (g.2.2.2 0), .int 0]))) hM (by simp [T_cat]))])), fun _ h => absurd h List.not_mem_nil⟩⟩⟩⟩) (fun i k' hm => by
    rcases Nat.lt_or_ge i 20 with h20 | h20
    · match i, h20 with
      | 0, _ => exact ho_cat_0 hW hn ha k' hm
      | 1, _ => exact ho_cat_1 hW hn ha k' hm
      | 2, _ => exact ho_cat_2 hW hn ha k' hm
      | 3, _ => exact ho_cat_3 hW hn ha k' hm
      | 4, _ => exact ho_cat_4 hW hn ha k' hm
      | 5, _ => exact ho_cat_5 hW hn ha k' hm
      | 6, _ => exact ho_cat_6 hW hn ha k' hm
      | 7, _ => exact ho_cat_7 hW hn ha k' hm
      | 8, _ => exact ho_cat_8 hW hn ha k' hm
      | 9, _ => exact ho_cat_9 hW hn ha k' hm
      | 10, _ => exact ho_cat_10 hW hn ha k' hm
      | 11, _ => exact ho_cat_11 hW hn ha k' hm
      | 12, _ => exact ho_cat_12 hW hn ha k' hm
      | 13, _ => exact ho_cat_13 hW hn ha k' hm
      | 14, _ => exact ho_cat_14 hW hn ha k' hm
      | 15, _ => exact ho_cat_15 hW hn ha k' hm
      | 16, _ => exact ho_cat_16 hW hn ha k' hm
      | 17, _ => exact ho_cat_17 hW hn ha k' hm
      | 18, _ => exact ho_cat_18 hW hn ha k' hm
      | 19, _ => exact ho_cat_19 hW hn ha k' hm
      | n + 20, h => exact absurd h (by omega)
    · rw [cont_x i k' h20, cont_x i k' h20])

theorem wx_cat (hW : WX σ) (hn : n = iN (σ 16 0)) (h6 : ¬ σ 16 0 = 6) (hx : isN x (iN (σ 2 0))) : WX (st2 (st2 σ 10 n x) 16 0 (σ 16 0 + 1)) := by
  have hu := nI_up (k := 16) hW.1.2.2.1 (by decide)
  rw [← hn] at hu
  have hb := hW.1.2.2.1.2
  have hn2 : n < 6 := by
    rcases Nat.lt_or_ge n 6 with h | h
    · exact h
    · exact absurd (by rw [hW.1.2.2.1.1, show iN (σ 16 0) = 6 by omega]; rfl) h6
  have hh := heroR_lo (τ := st2 (st2 σ 10 n x) 16 0 (σ 16 0 + 1)) hW rfl rfl rfl rfl rfl rfl
  have hl := fun r n1 => rLen_c (τ := st2 (st2 σ 10 n x) 16 0 (σ 16 0 + 1)) (σ := σ) (r := r) rfl n1
  have z11 : σ 11 n = 0 := hW.2.2.2.1.2.2.1 n (by omega)
  refine ⟨⟨hW.1.1, hW.1.2.1, ?_, hW.1.2.2.2.1, hW.1.2.2.2.2.1, hW.1.2.2.2.2.2.1, hW.1.2.2.2.2.2.2.1, hW.1.2.2.2.2.2.2.2.1, fun k hk => ?_, hW.1.2.2.2.2.2.2.2.2.2.1, hW.1.2.2.2.2.2.2.2.2.2.2.1, fun k hk => ?_, fun k hk => ?_⟩, hW.2.1, fun k j hk hj => ?_, ⟨hW.2.2.2.1.1, hW.2.2.2.1.2.1, fun k hk => ?_, hW.2.2.2.1.2.2.2⟩, hW.2.2.2.2.1, fun r => ?_, fun r hr => ?_⟩
  · show isN (σ 16 0 + 1) 7
    rw [hu.1]
    exact isN_nI (by omega) (by decide)
  · have hk2 : k < iN (σ 16 0 + 1) := hk
    rw [hu.2] at hk2
    show isN (st2 σ 10 n x 10 k) (iN (σ 2 0))
    by_cases q : k = n
    · rw [q, st2_s]
      exact hx
    · rw [st2_n q]
      exact hW.1.2.2.2.2.2.2.2.2.1 k (by omega)
  · show isN (σ 19 k) (iN (σ 16 0 + 1))
    rw [hu.2]
    exact isN_up (hW.1.2.2.2.2.2.2.2.2.2.2.2.1 k hk) (by omega)
  · show isN (σ 27 k) (iN (σ 16 0 + 1))
    rw [hu.2]
    exact isN_up (hW.1.2.2.2.2.2.2.2.2.2.2.2.2 k hk) (by omega)
  · have hk2 : k < iN (σ 16 0 + 1) := hk
    have hj2 : j < iN (σ 11 k) := hj
    rw [hu.2] at hk2
    by_cases q : k = n
    · rw [q, z11] at hj2
      exact absurd hj2 (Nat.not_lt_zero _)
    · exact hW.2.2.1 k j (by omega) hj
  · have hk2 : iN (σ 16 0 + 1) ≤ k := hk
    rw [hu.2] at hk2
    exact hW.2.2.2.1.2.2.1 k (by omega)
  · rw [hl]
    exact hW.2.2.2.2.2.1 r
  · rw [hh]
    exact hW.2.2.2.2.2.2 r hr
theorem ph_cat (hQ : Pic g ad own gh σ C) (hW : WX σ) (hg : gOk gh) (hx : rIn σ 2 x) (h6 : ¬ σ 16 0 = 6) {w b1 b : Nat} (hw : C w = none) (h1 : C b1 = none) (hb : (b = ad 2 2 ∧ 0 < lsN σ 2) ∨ C b = none) (hnd : sg_nd [b, ad 1 2, b1, w]) :
    ¬ 0 < kCategory σ x ∧ vCategory σ x = nI (iN (σ 16 0)) ∧ PH g (ad 0 0) own C (fCategory σ x) (sg_ov C ((T_cat g ad (iN (σ 16 0)) (iN x) w b1 b).map (fun t => t.2))) := by
  have hk : ¬ 0 < kCategory σ x := by rw [show kCategory σ x = 0 from (if_neg (fun q => q hx)).trans (if_neg h6)]; decide
  have hl := rIn_x hW.1.1 (by decide) hx
  have hW2 := hW.fr (f42 (kCategory σ x))
  have h4 := pic_cat (x := x) (hQ.fr hW (f42 (kCategory σ x))) hW2 (n := iN (σ 16 0)) rfl (a := iN x) rfl hw h1 hb hnd
  refine ⟨hk, (if_neg hk).trans ?_, ?_⟩
  · rw [(nI_up hW.1.2.2.1 (by decide)).1]
    exact nI_pred _
  · rw [show fCategory σ x = st2 (st2 (st2 σ 42 0 (kCategory σ x)) 10 (iN (σ 16 0)) x) 16 0 (σ 16 0 + 1) from if_neg hk]
    exact ⟨_, _, gh, h4.1, h4.2, hg, wx_cat hW2 rfl h6 hl, rfl⟩
abbrev T_off (g : sg_G) (ad : Ad) (n a w b : Nat) (y : Int32) : List Tc := [((2, 4), b, sg_qa g (sg_cap (n + 1)) (sg_tr (sg_fu (ad 16) n w) (n + 1))), ((1, 4), ad 1 4, .inr (0, [.int (nI (n + 1)), .ref b, .int (nI (n + 1))])), ((16, n), w, .inr (4, [.ref (ad 11 a), .int y, .int 0]))]
theorem ho_off_0 (hW : WX σ) (hn : n = iN (σ 30 0)) (ha : a = iN x) {y : Int32} {w b : Nat} (k' : Nat) (hm : (0, k') ∉ (T_off g ad n a w b y).map (fun t => t.1)) : cont g (adT ad (T_off g ad n a w b y)) gh (st2 (st2 (st2 σ 27 n x) 28 n y) 30 0 (σ 30 0 + 1)) 0 k' = cont g ad gh σ 0 k' := by
  have hu := nI_up (k := 30) hW.1.2.2.2.2.1 (by decide)
  rw [← hn] at hu
  have hh := heroR_lo (τ := st2 (st2 (st2 σ 27 n x) 28 n y) 30 0 (σ 30 0 + 1)) hW rfl rfl rfl rfl rfl rfl
  have hls : ∀ k', k' < 5 → k' ≠ 4 → lsN (st2 (st2 (st2 σ 27 n x) 28 n y) 30 0 (σ 30 0 + 1)) k' = lsN σ k' := by
    intro k' h5 h
    match k', h5, h with
    | 0, _, h => exact (show iN (σ 2 0) = iN (σ 2 0) from rfl)
    | 1, _, h => exact (show iN (σ 9 0) = iN (σ 9 0) from rfl)
    | 2, _, h => exact (show iN (σ 16 0) = iN (σ 16 0) from rfl)
    | 3, _, h => exact (show iN (σ 26 0) = iN (σ 26 0) from rfl)
    | 4, _, h => exact absurd rfl h
    | n + 5, h5, _ => exact absurd h5 (by omega)
  first | (simp only [cont]; done) | (simp only [cont]; rfl)
theorem ho_off_1 (hW : WX σ) (hn : n = iN (σ 30 0)) (ha : a = iN x) {y : Int32} {w b : Nat} (k' : Nat) (hm : (1, k') ∉ (T_off g ad n a w b y).map (fun t => t.1)) : cont g (adT ad (T_off g ad n a w b y)) gh (st2 (st2 (st2 σ 27 n x) 28 n y) 30 0 (σ 30 0 + 1)) 1 k' = cont g ad gh σ 1 k' := by
  have hu := nI_up (k := 30) hW.1.2.2.2.2.1 (by decide)
  rw [← hn] at hu
  have hh := heroR_lo (τ := st2 (st2 (st2 σ 27 n x) 28 n y) 30 0 (σ 30 0 + 1)) hW rfl rfl rfl rfl rfl rfl
  have hls : ∀ k', k' < 5 → k' ≠ 4 → lsN (st2 (st2 (st2 σ 27 n x) 28 n y) 30 0 (σ 30 0 + 1)) k' = lsN σ k' := by
    intro k' h5 h
    match k', h5, h with
    | 0, _, h => exact (show iN (σ 2 0) = iN (σ 2 0) from rfl)
    | 1, _, h => exact (show iN (σ 9 0) = iN (σ 9 0) from rfl)
    | 2, _, h => exact (show iN (σ 16 0) = iN (σ 16 0) from rfl)
    | 3, _, h => exact (show iN (σ 26 0) = iN (σ 26 0) from rfl)
    | 4, _, h => exact absurd rfl h
    | n + 5, h5, _ => exact absurd h5 (by omega)
  exact (by
        have hk' : k' ≠ 4 := fun q => hm (by rw [q]; simp [T_off])
        show (if k' < 5 then some (cL g (lsN (st2 (st2 (st2 σ 27 n x) 28 n y) 30 0 (σ 30 0 + 1)) k') (adT ad (T_off g ad n a w b y) 2 k')) else none) = (if k' < 5 then some (cL g (lsN σ k') (ad 2 k')) else none)
        by_cases h5 : k' < 5
        · rw [if_pos h5, if_pos h5, hls k' h5 hk', (adT_out (i := 2) (k := k') (by first | (simp [T_off]; done) | (simp [T_off]; omega)))]
        · rw [if_neg h5, if_neg h5])
theorem ho_off_2 (hW : WX σ) (hn : n = iN (σ 30 0)) (ha : a = iN x) {y : Int32} {w b : Nat} (k' : Nat) (hm : (2, k') ∉ (T_off g ad n a w b y).map (fun t => t.1)) : cont g (adT ad (T_off g ad n a w b y)) gh (st2 (st2 (st2 σ 27 n x) 28 n y) 30 0 (σ 30 0 + 1)) 2 k' = cont g ad gh σ 2 k' := by
  have hu := nI_up (k := 30) hW.1.2.2.2.2.1 (by decide)
  rw [← hn] at hu
  have hh := heroR_lo (τ := st2 (st2 (st2 σ 27 n x) 28 n y) 30 0 (σ 30 0 + 1)) hW rfl rfl rfl rfl rfl rfl
  have hls : ∀ k', k' < 5 → k' ≠ 4 → lsN (st2 (st2 (st2 σ 27 n x) 28 n y) 30 0 (σ 30 0 + 1)) k' = lsN σ k' := by
    intro k' h5 h
    match k', h5, h with
    | 0, _, h => exact (show iN (σ 2 0) = iN (σ 2 0) from rfl)
    | 1, _, h => exact (show iN (σ 9 0) = iN (σ 9 0) from rfl)
    | 2, _, h => exact (show iN (σ 16 0) = iN (σ 16 0) from rfl)
    | 3, _, h => exact (show iN (σ 26 0) = iN (σ 26 0) from rfl)
    | 4, _, h => exact absurd rfl h
    | n + 5, h5, _ => exact absurd h5 (by omega)
  exact (by
        have hk' : k' ≠ 4 := fun q => hm (by rw [q]; simp [T_off])
        show (if k' < 5 then cA g (lsN (st2 (st2 (st2 σ 27 n x) 28 n y) 30 0 (σ 30 0 + 1)) k') (adT ad (T_off g ad n a w b y) (lsE k')) else none) = (if k' < 5 then cA g (lsN σ k') (ad (lsE k')) else none)
        by_cases h5 : k' < 5
        · rw [if_pos h5, if_pos h5, hls k' h5 hk']
          have h6 : k' = 0 ∨ k' = 1 ∨ k' = 2 ∨ k' = 3 := by omega
          rcases h6 with rfl | rfl | rfl | rfl
          · rfl
          · rfl
          · rfl
          · rfl
        · rw [if_neg h5, if_neg h5])
theorem ho_off_3 (hW : WX σ) (hn : n = iN (σ 30 0)) (ha : a = iN x) {y : Int32} {w b : Nat} (k' : Nat) (hm : (3, k') ∉ (T_off g ad n a w b y).map (fun t => t.1)) : cont g (adT ad (T_off g ad n a w b y)) gh (st2 (st2 (st2 σ 27 n x) 28 n y) 30 0 (σ 30 0 + 1)) 3 k' = cont g ad gh σ 3 k' := by
  have hu := nI_up (k := 30) hW.1.2.2.2.2.1 (by decide)
  rw [← hn] at hu
  have hh := heroR_lo (τ := st2 (st2 (st2 σ 27 n x) 28 n y) 30 0 (σ 30 0 + 1)) hW rfl rfl rfl rfl rfl rfl
  have hls : ∀ k', k' < 5 → k' ≠ 4 → lsN (st2 (st2 (st2 σ 27 n x) 28 n y) 30 0 (σ 30 0 + 1)) k' = lsN σ k' := by
    intro k' h5 h
    match k', h5, h with
    | 0, _, h => exact (show iN (σ 2 0) = iN (σ 2 0) from rfl)
    | 1, _, h => exact (show iN (σ 9 0) = iN (σ 9 0) from rfl)
    | 2, _, h => exact (show iN (σ 16 0) = iN (σ 16 0) from rfl)
    | 3, _, h => exact (show iN (σ 26 0) = iN (σ 26 0) from rfl)
    | 4, _, h => exact absurd rfl h
    | n + 5, h5, _ => exact absurd h5 (by omega)
  first | (simp only [cont]; done) | (simp only [cont]; rfl)
theorem ho_off_4 (hW : WX σ) (hn : n = iN (σ 30 0)) (ha : a = iN x) {y : Int32} {w b : Nat} (k' : Nat) (hm : (4, k') ∉ (T_off g ad n a w b y).map (fun t => t.1)) : cont g (adT ad (T_off g ad n a w b y)) gh (st2 (st2 (st2 σ 27 n x) 28 n y) 30 0 (σ 30 0 + 1)) 4 k' = cont g ad gh σ 4 k' := by
  have hu := nI_up (k := 30) hW.1.2.2.2.2.1 (by decide)
  rw [← hn] at hu
  have hh := heroR_lo (τ := st2 (st2 (st2 σ 27 n x) 28 n y) 30 0 (σ 30 0 + 1)) hW rfl rfl rfl rfl rfl rfl
  have hls : ∀ k', k' < 5 → k' ≠ 4 → lsN (st2 (st2 (st2 σ 27 n x) 28 n y) 30 0 (σ 30 0 + 1)) k' = lsN σ k' := by
    intro k' h5 h
    match k', h5, h with
    | 0, _, h => exact (show iN (σ 2 0) = iN (σ 2 0) from rfl)
    | 1, _, h => exact (show iN (σ 9 0) = iN (σ 9 0) from rfl)
    | 2, _, h => exact (show iN (σ 16 0) = iN (σ 16 0) from rfl)
    | 3, _, h => exact (show iN (σ 26 0) = iN (σ 26 0) from rfl)
    | 4, _, h => exact absurd rfl h
    | n + 5, h5, _ => exact absurd h5 (by omega)
  first | (simp only [cont]; done) | (simp only [cont]; rfl)
theorem ho_off_5 (hW : WX σ) (hn : n = iN (σ 30 0)) (ha : a = iN x) {y : Int32} {w b : Nat} (k' : Nat) (hm : (5, k') ∉ (T_off g ad n a w b y).map (fun t => t.1)) : cont g (adT ad (T_off g ad n a w b y)) gh (st2 (st2 (st2 σ 27 n x) 28 n y) 30 0 (σ 30 0 + 1)) 5 k' = cont g ad gh σ 5 k' := by
  have hu := nI_up (k := 30) hW.1.2.2.2.2.1 (by decide)
  rw [← hn] at hu
  have hh := heroR_lo (τ := st2 (st2 (st2 σ 27 n x) 28 n y) 30 0 (σ 30 0 + 1)) hW rfl rfl rfl rfl rfl rfl
  have hls : ∀ k', k' < 5 → k' ≠ 4 → lsN (st2 (st2 (st2 σ 27 n x) 28 n y) 30 0 (σ 30 0 + 1)) k' = lsN σ k' := by
    intro k' h5 h
    match k', h5, h with
    | 0, _, h => exact (show iN (σ 2 0) = iN (σ 2 0) from rfl)
    | 1, _, h => exact (show iN (σ 9 0) = iN (σ 9 0) from rfl)
    | 2, _, h => exact (show iN (σ 16 0) = iN (σ 16 0) from rfl)
    | 3, _, h => exact (show iN (σ 26 0) = iN (σ 26 0) from rfl)
    | 4, _, h => exact absurd rfl h
    | n + 5, h5, _ => exact absurd h5 (by omega)
  first | (simp only [cont]; done) | (simp only [cont]; rfl)
theorem ho_off_6 (hW : WX σ) (hn : n = iN (σ 30 0)) (ha : a = iN x) {y : Int32} {w b : Nat} (k' : Nat) (hm : (6, k') ∉ (T_off g ad n a w b y).map (fun t => t.1)) : cont g (adT ad (T_off g ad n a w b y)) gh (st2 (st2 (st2 σ 27 n x) 28 n y) 30 0 (σ 30 0 + 1)) 6 k' = cont g ad gh σ 6 k' := by
  have hu := nI_up (k := 30) hW.1.2.2.2.2.1 (by decide)
  rw [← hn] at hu
  have hh := heroR_lo (τ := st2 (st2 (st2 σ 27 n x) 28 n y) 30 0 (σ 30 0 + 1)) hW rfl rfl rfl rfl rfl rfl
  have hls : ∀ k', k' < 5 → k' ≠ 4 → lsN (st2 (st2 (st2 σ 27 n x) 28 n y) 30 0 (σ 30 0 + 1)) k' = lsN σ k' := by
    intro k' h5 h
    match k', h5, h with
    | 0, _, h => exact (show iN (σ 2 0) = iN (σ 2 0) from rfl)
    | 1, _, h => exact (show iN (σ 9 0) = iN (σ 9 0) from rfl)
    | 2, _, h => exact (show iN (σ 16 0) = iN (σ 16 0) from rfl)
    | 3, _, h => exact (show iN (σ 26 0) = iN (σ 26 0) from rfl)
    | 4, _, h => exact absurd rfl h
    | n + 5, h5, _ => exact absurd h5 (by omega)
  first | (simp only [cont]; done) | (simp only [cont]; rfl)
theorem ho_off_7 (hW : WX σ) (hn : n = iN (σ 30 0)) (ha : a = iN x) {y : Int32} {w b : Nat} (k' : Nat) (hm : (7, k') ∉ (T_off g ad n a w b y).map (fun t => t.1)) : cont g (adT ad (T_off g ad n a w b y)) gh (st2 (st2 (st2 σ 27 n x) 28 n y) 30 0 (σ 30 0 + 1)) 7 k' = cont g ad gh σ 7 k' := by
  have hu := nI_up (k := 30) hW.1.2.2.2.2.1 (by decide)
  rw [← hn] at hu
  have hh := heroR_lo (τ := st2 (st2 (st2 σ 27 n x) 28 n y) 30 0 (σ 30 0 + 1)) hW rfl rfl rfl rfl rfl rfl
  have hls : ∀ k', k' < 5 → k' ≠ 4 → lsN (st2 (st2 (st2 σ 27 n x) 28 n y) 30 0 (σ 30 0 + 1)) k' = lsN σ k' := by
    intro k' h5 h
    match k', h5, h with
    | 0, _, h => exact (show iN (σ 2 0) = iN (σ 2 0) from rfl)
    | 1, _, h => exact (show iN (σ 9 0) = iN (σ 9 0) from rfl)
    | 2, _, h => exact (show iN (σ 16 0) = iN (σ 16 0) from rfl)
    | 3, _, h => exact (show iN (σ 26 0) = iN (σ 26 0) from rfl)
    | 4, _, h => exact absurd rfl h
    | n + 5, h5, _ => exact absurd h5 (by omega)
  first | (simp only [cont]; done) | (simp only [cont]; rfl)
theorem ho_off_8 (hW : WX σ) (hn : n = iN (σ 30 0)) (ha : a = iN x) {y : Int32} {w b : Nat} (k' : Nat) (hm : (8, k') ∉ (T_off g ad n a w b y).map (fun t => t.1)) : cont g (adT ad (T_off g ad n a w b y)) gh (st2 (st2 (st2 σ 27 n x) 28 n y) 30 0 (σ 30 0 + 1)) 8 k' = cont g ad gh σ 8 k' := by
  have hu := nI_up (k := 30) hW.1.2.2.2.2.1 (by decide)
  rw [← hn] at hu
  have hh := heroR_lo (τ := st2 (st2 (st2 σ 27 n x) 28 n y) 30 0 (σ 30 0 + 1)) hW rfl rfl rfl rfl rfl rfl
  have hls : ∀ k', k' < 5 → k' ≠ 4 → lsN (st2 (st2 (st2 σ 27 n x) 28 n y) 30 0 (σ 30 0 + 1)) k' = lsN σ k' := by
    intro k' h5 h
    match k', h5, h with
    | 0, _, h => exact (show iN (σ 2 0) = iN (σ 2 0) from rfl)
    | 1, _, h => exact (show iN (σ 9 0) = iN (σ 9 0) from rfl)
    | 2, _, h => exact (show iN (σ 16 0) = iN (σ 16 0) from rfl)
    | 3, _, h => exact (show iN (σ 26 0) = iN (σ 26 0) from rfl)
    | 4, _, h => exact absurd rfl h
    | n + 5, h5, _ => exact absurd h5 (by omega)
  first | (simp only [cont]; done) | (simp only [cont]; rfl)
theorem ho_off_9 (hW : WX σ) (hn : n = iN (σ 30 0)) (ha : a = iN x) {y : Int32} {w b : Nat} (k' : Nat) (hm : (9, k') ∉ (T_off g ad n a w b y).map (fun t => t.1)) : cont g (adT ad (T_off g ad n a w b y)) gh (st2 (st2 (st2 σ 27 n x) 28 n y) 30 0 (σ 30 0 + 1)) 9 k' = cont g ad gh σ 9 k' := by
  have hu := nI_up (k := 30) hW.1.2.2.2.2.1 (by decide)
  rw [← hn] at hu
  have hh := heroR_lo (τ := st2 (st2 (st2 σ 27 n x) 28 n y) 30 0 (σ 30 0 + 1)) hW rfl rfl rfl rfl rfl rfl
  have hls : ∀ k', k' < 5 → k' ≠ 4 → lsN (st2 (st2 (st2 σ 27 n x) 28 n y) 30 0 (σ 30 0 + 1)) k' = lsN σ k' := by
    intro k' h5 h
    match k', h5, h with
    | 0, _, h => exact (show iN (σ 2 0) = iN (σ 2 0) from rfl)
    | 1, _, h => exact (show iN (σ 9 0) = iN (σ 9 0) from rfl)
    | 2, _, h => exact (show iN (σ 16 0) = iN (σ 16 0) from rfl)
    | 3, _, h => exact (show iN (σ 26 0) = iN (σ 26 0) from rfl)
    | 4, _, h => exact absurd rfl h
    | n + 5, h5, _ => exact absurd h5 (by omega)
  first | (simp only [cont]; done) | (simp only [cont]; rfl)
theorem ho_off_10 (hW : WX σ) (hn : n = iN (σ 30 0)) (ha : a = iN x) {y : Int32} {w b : Nat} (k' : Nat) (hm : (10, k') ∉ (T_off g ad n a w b y).map (fun t => t.1)) : cont g (adT ad (T_off g ad n a w b y)) gh (st2 (st2 (st2 σ 27 n x) 28 n y) 30 0 (σ 30 0 + 1)) 10 k' = cont g ad gh σ 10 k' := by
  have hu := nI_up (k := 30) hW.1.2.2.2.2.1 (by decide)
  rw [← hn] at hu
  have hh := heroR_lo (τ := st2 (st2 (st2 σ 27 n x) 28 n y) 30 0 (σ 30 0 + 1)) hW rfl rfl rfl rfl rfl rfl
  have hls : ∀ k', k' < 5 → k' ≠ 4 → lsN (st2 (st2 (st2 σ 27 n x) 28 n y) 30 0 (σ 30 0 + 1)) k' = lsN σ k' := by
    intro k' h5 h
    match k', h5, h with
    | 0, _, h => exact (show iN (σ 2 0) = iN (σ 2 0) from rfl)
    | 1, _, h => exact (show iN (σ 9 0) = iN (σ 9 0) from rfl)
    | 2, _, h => exact (show iN (σ 16 0) = iN (σ 16 0) from rfl)
    | 3, _, h => exact (show iN (σ 26 0) = iN (σ 26 0) from rfl)
    | 4, _, h => exact absurd rfl h
    | n + 5, h5, _ => exact absurd h5 (by omega)
  simp only [cont]; rw [hh]; rfl
theorem ho_off_11 (hW : WX σ) (hn : n = iN (σ 30 0)) (ha : a = iN x) {y : Int32} {w b : Nat} (k' : Nat) (hm : (11, k') ∉ (T_off g ad n a w b y).map (fun t => t.1)) : cont g (adT ad (T_off g ad n a w b y)) gh (st2 (st2 (st2 σ 27 n x) 28 n y) 30 0 (σ 30 0 + 1)) 11 k' = cont g ad gh σ 11 k' := by
  have hu := nI_up (k := 30) hW.1.2.2.2.2.1 (by decide)
  rw [← hn] at hu
  have hh := heroR_lo (τ := st2 (st2 (st2 σ 27 n x) 28 n y) 30 0 (σ 30 0 + 1)) hW rfl rfl rfl rfl rfl rfl
  have hls : ∀ k', k' < 5 → k' ≠ 4 → lsN (st2 (st2 (st2 σ 27 n x) 28 n y) 30 0 (σ 30 0 + 1)) k' = lsN σ k' := by
    intro k' h5 h
    match k', h5, h with
    | 0, _, h => exact (show iN (σ 2 0) = iN (σ 2 0) from rfl)
    | 1, _, h => exact (show iN (σ 9 0) = iN (σ 9 0) from rfl)
    | 2, _, h => exact (show iN (σ 16 0) = iN (σ 16 0) from rfl)
    | 3, _, h => exact (show iN (σ 26 0) = iN (σ 26 0) from rfl)
    | 4, _, h => exact absurd rfl h
    | n + 5, h5, _ => exact absurd h5 (by omega)
  first | (simp only [cont]; done) | (simp only [cont]; rfl)
theorem ho_off_12 (hW : WX σ) (hn : n = iN (σ 30 0)) (ha : a = iN x) {y : Int32} {w b : Nat} (k' : Nat) (hm : (12, k') ∉ (T_off g ad n a w b y).map (fun t => t.1)) : cont g (adT ad (T_off g ad n a w b y)) gh (st2 (st2 (st2 σ 27 n x) 28 n y) 30 0 (σ 30 0 + 1)) 12 k' = cont g ad gh σ 12 k' := by
  have hu := nI_up (k := 30) hW.1.2.2.2.2.1 (by decide)
  rw [← hn] at hu
  have hh := heroR_lo (τ := st2 (st2 (st2 σ 27 n x) 28 n y) 30 0 (σ 30 0 + 1)) hW rfl rfl rfl rfl rfl rfl
  have hls : ∀ k', k' < 5 → k' ≠ 4 → lsN (st2 (st2 (st2 σ 27 n x) 28 n y) 30 0 (σ 30 0 + 1)) k' = lsN σ k' := by
    intro k' h5 h
    match k', h5, h with
    | 0, _, h => exact (show iN (σ 2 0) = iN (σ 2 0) from rfl)
    | 1, _, h => exact (show iN (σ 9 0) = iN (σ 9 0) from rfl)
    | 2, _, h => exact (show iN (σ 16 0) = iN (σ 16 0) from rfl)
    | 3, _, h => exact (show iN (σ 26 0) = iN (σ 26 0) from rfl)
    | 4, _, h => exact absurd rfl h
    | n + 5, h5, _ => exact absurd h5 (by omega)
  first | (simp only [cont]; done) | (simp only [cont]; rfl)
theorem ho_off_13 (hW : WX σ) (hn : n = iN (σ 30 0)) (ha : a = iN x) {y : Int32} {w b : Nat} (k' : Nat) (hm : (13, k') ∉ (T_off g ad n a w b y).map (fun t => t.1)) : cont g (adT ad (T_off g ad n a w b y)) gh (st2 (st2 (st2 σ 27 n x) 28 n y) 30 0 (σ 30 0 + 1)) 13 k' = cont g ad gh σ 13 k' := by
  have hu := nI_up (k := 30) hW.1.2.2.2.2.1 (by decide)
  rw [← hn] at hu
  have hh := heroR_lo (τ := st2 (st2 (st2 σ 27 n x) 28 n y) 30 0 (σ 30 0 + 1)) hW rfl rfl rfl rfl rfl rfl
  have hls : ∀ k', k' < 5 → k' ≠ 4 → lsN (st2 (st2 (st2 σ 27 n x) 28 n y) 30 0 (σ 30 0 + 1)) k' = lsN σ k' := by
    intro k' h5 h
    match k', h5, h with
    | 0, _, h => exact (show iN (σ 2 0) = iN (σ 2 0) from rfl)
    | 1, _, h => exact (show iN (σ 9 0) = iN (σ 9 0) from rfl)
    | 2, _, h => exact (show iN (σ 16 0) = iN (σ 16 0) from rfl)
    | 3, _, h => exact (show iN (σ 26 0) = iN (σ 26 0) from rfl)
    | 4, _, h => exact absurd rfl h
    | n + 5, h5, _ => exact absurd h5 (by omega)
  first | (simp only [cont]; done) | (simp only [cont]; rfl)
theorem ho_off_14 (hW : WX σ) (hn : n = iN (σ 30 0)) (ha : a = iN x) {y : Int32} {w b : Nat} (k' : Nat) (hm : (14, k') ∉ (T_off g ad n a w b y).map (fun t => t.1)) : cont g (adT ad (T_off g ad n a w b y)) gh (st2 (st2 (st2 σ 27 n x) 28 n y) 30 0 (σ 30 0 + 1)) 14 k' = cont g ad gh σ 14 k' := by
  have hu := nI_up (k := 30) hW.1.2.2.2.2.1 (by decide)
  rw [← hn] at hu
  have hh := heroR_lo (τ := st2 (st2 (st2 σ 27 n x) 28 n y) 30 0 (σ 30 0 + 1)) hW rfl rfl rfl rfl rfl rfl
  have hls : ∀ k', k' < 5 → k' ≠ 4 → lsN (st2 (st2 (st2 σ 27 n x) 28 n y) 30 0 (σ 30 0 + 1)) k' = lsN σ k' := by
    intro k' h5 h
    match k', h5, h with
    | 0, _, h => exact (show iN (σ 2 0) = iN (σ 2 0) from rfl)
    | 1, _, h => exact (show iN (σ 9 0) = iN (σ 9 0) from rfl)
    | 2, _, h => exact (show iN (σ 16 0) = iN (σ 16 0) from rfl)
    | 3, _, h => exact (show iN (σ 26 0) = iN (σ 26 0) from rfl)
    | 4, _, h => exact absurd rfl h
    | n + 5, h5, _ => exact absurd h5 (by omega)
  first | (simp only [cont]; done) | (simp only [cont]; rfl)
theorem ho_off_15 (hW : WX σ) (hn : n = iN (σ 30 0)) (ha : a = iN x) {y : Int32} {w b : Nat} (k' : Nat) (hm : (15, k') ∉ (T_off g ad n a w b y).map (fun t => t.1)) : cont g (adT ad (T_off g ad n a w b y)) gh (st2 (st2 (st2 σ 27 n x) 28 n y) 30 0 (σ 30 0 + 1)) 15 k' = cont g ad gh σ 15 k' := by
  have hu := nI_up (k := 30) hW.1.2.2.2.2.1 (by decide)
  rw [← hn] at hu
  have hh := heroR_lo (τ := st2 (st2 (st2 σ 27 n x) 28 n y) 30 0 (σ 30 0 + 1)) hW rfl rfl rfl rfl rfl rfl
  have hls : ∀ k', k' < 5 → k' ≠ 4 → lsN (st2 (st2 (st2 σ 27 n x) 28 n y) 30 0 (σ 30 0 + 1)) k' = lsN σ k' := by
    intro k' h5 h
    match k', h5, h with
    | 0, _, h => exact (show iN (σ 2 0) = iN (σ 2 0) from rfl)
    | 1, _, h => exact (show iN (σ 9 0) = iN (σ 9 0) from rfl)
    | 2, _, h => exact (show iN (σ 16 0) = iN (σ 16 0) from rfl)
    | 3, _, h => exact (show iN (σ 26 0) = iN (σ 26 0) from rfl)
    | 4, _, h => exact absurd rfl h
    | n + 5, h5, _ => exact absurd h5 (by omega)
  first | (simp only [cont]; done) | (simp only [cont]; rfl)
theorem ho_off_16 (hW : WX σ) (hn : n = iN (σ 30 0)) (ha : a = iN x) {y : Int32} {w b : Nat} (k' : Nat) (hm : (16, k') ∉ (T_off g ad n a w b y).map (fun t => t.1)) : cont g (adT ad (T_off g ad n a w b y)) gh (st2 (st2 (st2 σ 27 n x) 28 n y) 30 0 (σ 30 0 + 1)) 16 k' = cont g ad gh σ 16 k' := by
  have hu := nI_up (k := 30) hW.1.2.2.2.2.1 (by decide)
  rw [← hn] at hu
  have hh := heroR_lo (τ := st2 (st2 (st2 σ 27 n x) 28 n y) 30 0 (σ 30 0 + 1)) hW rfl rfl rfl rfl rfl rfl
  have hls : ∀ k', k' < 5 → k' ≠ 4 → lsN (st2 (st2 (st2 σ 27 n x) 28 n y) 30 0 (σ 30 0 + 1)) k' = lsN σ k' := by
    intro k' h5 h
    match k', h5, h with
    | 0, _, h => exact (show iN (σ 2 0) = iN (σ 2 0) from rfl)
    | 1, _, h => exact (show iN (σ 9 0) = iN (σ 9 0) from rfl)
    | 2, _, h => exact (show iN (σ 16 0) = iN (σ 16 0) from rfl)
    | 3, _, h => exact (show iN (σ 26 0) = iN (σ 26 0) from rfl)
    | 4, _, h => exact absurd rfl h
    | n + 5, h5, _ => exact absurd h5 (by omega)
  exact (by
        have hk' : k' ≠ n := fun q => hm (by rw [q]; simp [T_off])
        show (if k' < iN (σ 30 0 + 1) then some (Sum.inr (4, [.ref (ad 11 (iN (st2 σ 27 n x 27 k'))), .int (st2 (st2 σ 27 n x) 28 n y 28 k'), .int (σ 29 k')]) : va_E) else none) = (if k' < iN (σ 30 0) then some (Sum.inr (4, [.ref (ad 11 (iN (σ 27 k'))), .int (σ 28 k'), .int (σ 29 k')]) : va_E) else none)
        rw [st2_n hk', st2_n hk']
        exact ite_c (by rw [hu.2, ← hn]; omega) rfl rfl)
theorem ho_off_17 (hW : WX σ) (hn : n = iN (σ 30 0)) (ha : a = iN x) {y : Int32} {w b : Nat} (k' : Nat) (hm : (17, k') ∉ (T_off g ad n a w b y).map (fun t => t.1)) : cont g (adT ad (T_off g ad n a w b y)) gh (st2 (st2 (st2 σ 27 n x) 28 n y) 30 0 (σ 30 0 + 1)) 17 k' = cont g ad gh σ 17 k' := by
  have hu := nI_up (k := 30) hW.1.2.2.2.2.1 (by decide)
  rw [← hn] at hu
  have hh := heroR_lo (τ := st2 (st2 (st2 σ 27 n x) 28 n y) 30 0 (σ 30 0 + 1)) hW rfl rfl rfl rfl rfl rfl
  have hls : ∀ k', k' < 5 → k' ≠ 4 → lsN (st2 (st2 (st2 σ 27 n x) 28 n y) 30 0 (σ 30 0 + 1)) k' = lsN σ k' := by
    intro k' h5 h
    match k', h5, h with
    | 0, _, h => exact (show iN (σ 2 0) = iN (σ 2 0) from rfl)
    | 1, _, h => exact (show iN (σ 9 0) = iN (σ 9 0) from rfl)
    | 2, _, h => exact (show iN (σ 16 0) = iN (σ 16 0) from rfl)
    | 3, _, h => exact (show iN (σ 26 0) = iN (σ 26 0) from rfl)
    | 4, _, h => exact absurd rfl h
    | n + 5, h5, _ => exact absurd h5 (by omega)
  first | (simp only [cont]; done) | (simp only [cont]; rfl)
theorem ho_off_18 (hW : WX σ) (hn : n = iN (σ 30 0)) (ha : a = iN x) {y : Int32} {w b : Nat} (k' : Nat) (hm : (18, k') ∉ (T_off g ad n a w b y).map (fun t => t.1)) : cont g (adT ad (T_off g ad n a w b y)) gh (st2 (st2 (st2 σ 27 n x) 28 n y) 30 0 (σ 30 0 + 1)) 18 k' = cont g ad gh σ 18 k' := by
  have hu := nI_up (k := 30) hW.1.2.2.2.2.1 (by decide)
  rw [← hn] at hu
  have hh := heroR_lo (τ := st2 (st2 (st2 σ 27 n x) 28 n y) 30 0 (σ 30 0 + 1)) hW rfl rfl rfl rfl rfl rfl
  have hls : ∀ k', k' < 5 → k' ≠ 4 → lsN (st2 (st2 (st2 σ 27 n x) 28 n y) 30 0 (σ 30 0 + 1)) k' = lsN σ k' := by
    intro k' h5 h
    match k', h5, h with
    | 0, _, h => exact (show iN (σ 2 0) = iN (σ 2 0) from rfl)
    | 1, _, h => exact (show iN (σ 9 0) = iN (σ 9 0) from rfl)
    | 2, _, h => exact (show iN (σ 16 0) = iN (σ 16 0) from rfl)
    | 3, _, h => exact (show iN (σ 26 0) = iN (σ 26 0) from rfl)
    | 4, _, h => exact absurd rfl h
    | n + 5, h5, _ => exact absurd h5 (by omega)
  first | (simp only [cont]; done) | (simp only [cont]; rfl)
theorem ho_off_19 (hW : WX σ) (hn : n = iN (σ 30 0)) (ha : a = iN x) {y : Int32} {w b : Nat} (k' : Nat) (hm : (19, k') ∉ (T_off g ad n a w b y).map (fun t => t.1)) : cont g (adT ad (T_off g ad n a w b y)) gh (st2 (st2 (st2 σ 27 n x) 28 n y) 30 0 (σ 30 0 + 1)) 19 k' = cont g ad gh σ 19 k' := by
  have hu := nI_up (k := 30) hW.1.2.2.2.2.1 (by decide)
  rw [← hn] at hu
  have hh := heroR_lo (τ := st2 (st2 (st2 σ 27 n x) 28 n y) 30 0 (σ 30 0 + 1)) hW rfl rfl rfl rfl rfl rfl
  have hls : ∀ k', k' < 5 → k' ≠ 4 → lsN (st2 (st2 (st2 σ 27 n x) 28 n y) 30 0 (σ 30 0 + 1)) k' = lsN σ k' := by
    intro k' h5 h
    match k', h5, h with
    | 0, _, h => exact (show iN (σ 2 0) = iN (σ 2 0) from rfl)
    | 1, _, h => exact (show iN (σ 9 0) = iN (σ 9 0) from rfl)
    | 2, _, h => exact (show iN (σ 16 0) = iN (σ 16 0) from rfl)
    | 3, _, h => exact (show iN (σ 26 0) = iN (σ 26 0) from rfl)
    | 4, _, h => exact absurd rfl h
    | n + 5, h5, _ => exact absurd h5 (by omega)
  first | (simp only [cont]; done) | (simp only [cont]; rfl)
theorem pic_off (hQ : Pic g ad own gh σ C) (hW : WX σ) (hn : n = iN (σ 30 0)) (ha : a = iN x) {y : Int32} {w b : Nat} (hf_w : C w = none) (hb : (b = ad 2 4 ∧ 0 < lsN σ 4) ∨ C b = none) (hnd : sg_nd [b, ad 1 4, w]) :
    Pic g (adT ad (T_off g ad n a w b y)) (ownT own (T_off g ad n a w b y)) gh (st2 (st2 (st2 σ 27 n x) 28 n y) 30 0 (σ 30 0 + 1)) (sg_ov C ((T_off g ad n a w b y).map (fun t => t.2))) ∧ Frm own (ownT own (T_off g ad n a w b y)) C (sg_ov C ((T_off g ad n a w b y).map (fun t => t.2))) := by
  have hu := nI_up (k := 30) hW.1.2.2.2.2.1 (by decide)
  rw [← hn] at hu
  have hh := heroR_lo (τ := st2 (st2 (st2 σ 27 n x) 28 n y) 30 0 (σ 30 0 + 1)) hW rfl rfl rfl rfl rfl rfl
  have hls : ∀ k', k' < 5 → k' ≠ 4 → lsN (st2 (st2 (st2 σ 27 n x) 28 n y) 30 0 (σ 30 0 + 1)) k' = lsN σ k' := by
    intro k' h5 h
    match k', h5, h with
    | 0, _, h => exact (show iN (σ 2 0) = iN (σ 2 0) from rfl)
    | 1, _, h => exact (show iN (σ 9 0) = iN (σ 9 0) from rfl)
    | 2, _, h => exact (show iN (σ 16 0) = iN (σ 16 0) from rfl)
    | 3, _, h => exact (show iN (σ 26 0) = iN (σ 26 0) from rfl)
    | 4, _, h => exact absurd rfl h
    | n + 5, h5, _ => exact absurd h5 (by omega)
  have hN : lsN (st2 (st2 (st2 σ 27 n x) 28 n y) 30 0 (σ 30 0 + 1)) 4 = n + 1 := hu.2
  have hM : nm_nd ((T_off g ad n a w b y).map (fun t => t.1)) := nm_of (show sg_nd [2, 1, 16] from ⟨by decide, by decide, by decide, trivial⟩)
  refine hQ.touch (T_off g ad n a w b y) (List.forall_mem_cons.mpr ⟨(by rcases hb with ⟨q1, q2⟩ | q; exact .inr ⟨q1, _, ct2 (k := 4) (by decide) q2⟩; exact .inl q), List.forall_mem_cons.mpr ⟨(.inr ⟨rfl, _, ct1 (k := 4) (by decide)⟩), List.forall_mem_cons.mpr ⟨(.inl hf_w), fun _ h => absurd h List.not_mem_nil⟩⟩⟩) hnd hM (List.forall_mem_cons.mpr ⟨(by
    show (if 4 < 5 then cA g (lsN (st2 (st2 (st2 σ 27 n x) 28 n y) 30 0 (σ 30 0 + 1)) 4) (adT ad (T_off g ad n a w b y) 16) else none) = _
    rw [if_pos (by decide), hN]
    show (if 0 < n + 1 then some (sg_qa g (sg_cap (n + 1)) (sg_tr (adT ad (T_off g ad n a w b y) 16) (n + 1))) else none) = _
    rw [if_pos (Nat.succ_pos n), tr_fu (f := ad 16) (f' := adT ad (T_off g ad n a w b y) 16) (w := w) (fun i => (cond_beq i n w (ad 16 i)))]), List.forall_mem_cons.mpr ⟨(by
    show (if 4 < 5 then some (cL g (lsN (st2 (st2 (st2 σ 27 n x) 28 n y) 30 0 (σ 30 0 + 1)) 4) (adT ad (T_off g ad n a w b y) 2 4)) else none) = _
    rw [if_pos (by decide), hN]
    show some (Sum.inr (0, [.int (nI (n + 1)), .ref (if n + 1 = 0 then g.2.2.2 0 else b), .int (nI (n + 1))]) : va_E) = _
    rw [if_neg (Nat.succ_ne_zero n)]), List.forall_mem_cons.mpr ⟨((if_pos (show n < iN (σ 30 0 + 1) by rw [hu.2]; exact Nat.lt_succ_self n)).trans (by
    show some (Sum.inr (4, [.ref (ad 11 (iN (st2 σ 27 n x 27 n))), .int (st2 (st2 σ 27 n x) 28 n y 28 n), .int (σ 29 n)]) : va_E) = _
    rw [st2_s, st2_s, ← ha, hW.2.2.2.1.2.2.2.2 n (by omega)])), fun _ h => absurd h List.not_mem_nil⟩⟩⟩) (fun i k' hm => by
    rcases Nat.lt_or_ge i 20 with h20 | h20
    · match i, h20 with
      | 0, _ => exact ho_off_0 hW hn ha (y := y) k' hm
      | 1, _ => exact ho_off_1 hW hn ha (y := y) k' hm
      | 2, _ => exact ho_off_2 hW hn ha (y := y) k' hm
      | 3, _ => exact ho_off_3 hW hn ha (y := y) k' hm
      | 4, _ => exact ho_off_4 hW hn ha (y := y) k' hm
      | 5, _ => exact ho_off_5 hW hn ha (y := y) k' hm
      | 6, _ => exact ho_off_6 hW hn ha (y := y) k' hm
      | 7, _ => exact ho_off_7 hW hn ha (y := y) k' hm
      | 8, _ => exact ho_off_8 hW hn ha (y := y) k' hm
      | 9, _ => exact ho_off_9 hW hn ha (y := y) k' hm
      | 10, _ => exact ho_off_10 hW hn ha (y := y) k' hm
      | 11, _ => exact ho_off_11 hW hn ha (y := y) k' hm
      | 12, _ => exact ho_off_12 hW hn ha (y := y) k' hm
      | 13, _ => exact ho_off_13 hW hn ha (y := y) k' hm
      | 14, _ => exact ho_off_14 hW hn ha (y := y) k' hm
      | 15, _ => exact ho_off_15 hW hn ha (y := y) k' hm
      | 16, _ => exact ho_off_16 hW hn ha (y := y) k' hm
      | 17, _ => exact ho_off_17 hW hn ha (y := y) k' hm
      | 18, _ => exact ho_off_18 hW hn ha (y := y) k' hm
      | 19, _ => exact ho_off_19 hW hn ha (y := y) k' hm
      | n + 20, h => exact absurd h (by omega)
    · rw [cont_x i k' h20, cont_x i k' h20])

theorem wx_off (hW : WX σ) (hn : n = iN (σ 30 0)) (h10 : ¬ σ 30 0 = 10) (hx : isN x (iN (σ 16 0))) : WX (st2 (st2 (st2 σ 27 n x) 28 n y) 30 0 (σ 30 0 + 1)) := by
  have hu := nI_up (k := 30) hW.1.2.2.2.2.1 (by decide)
  rw [← hn] at hu
  have hb := hW.1.2.2.2.2.1.2
  have hn2 : n < 10 := by
    rcases Nat.lt_or_ge n 10 with h | h
    · exact h
    · exact absurd (by rw [hW.1.2.2.2.2.1.1, show iN (σ 30 0) = 10 by omega]; rfl) h10
  have hh := heroR_lo (τ := st2 (st2 (st2 σ 27 n x) 28 n y) 30 0 (σ 30 0 + 1)) hW rfl rfl rfl rfl rfl rfl
  have hl := fun r n1 => rLen_c (τ := st2 (st2 (st2 σ 27 n x) 28 n y) 30 0 (σ 30 0 + 1)) (σ := σ) (r := r) rfl n1
  refine ⟨⟨hW.1.1, hW.1.2.1, hW.1.2.2.1, hW.1.2.2.2.1, ?_, hW.1.2.2.2.2.2.1, hW.1.2.2.2.2.2.2.1, hW.1.2.2.2.2.2.2.2.1, hW.1.2.2.2.2.2.2.2.2.1, hW.1.2.2.2.2.2.2.2.2.2.1, hW.1.2.2.2.2.2.2.2.2.2.2.1, hW.1.2.2.2.2.2.2.2.2.2.2.2.1, fun k hk => ?_⟩, hW.2.1, hW.2.2.1, ⟨hW.2.2.2.1.1, hW.2.2.2.1.2.1, hW.2.2.2.1.2.2.1, hW.2.2.2.1.2.2.2.1, fun k hk => ?_⟩, hW.2.2.2.2.1, fun r => ?_, fun r hr => ?_⟩
  · show isN (σ 30 0 + 1) 11
    rw [hu.1]
    exact isN_nI (by omega) (by decide)
  · have hk2 : k < iN (σ 30 0 + 1) := hk
    rw [hu.2] at hk2
    show isN (st2 σ 27 n x 27 k) (iN (σ 16 0))
    by_cases q : k = n
    · rw [q, st2_s]
      exact hx
    · rw [st2_n q]
      exact hW.1.2.2.2.2.2.2.2.2.2.2.2.2 k (by omega)
  · have hk2 : iN (σ 30 0 + 1) ≤ k := hk
    rw [hu.2] at hk2
    exact hW.2.2.2.1.2.2.2.2 k (by omega)
  · rw [hl]
    exact hW.2.2.2.2.2.1 r
  · rw [hh]
    exact hW.2.2.2.2.2.2 r hr
theorem ph_off (hQ : Pic g ad own gh σ C) (hW : WX σ) (hg : gOk gh) (hx : isN x (iN (σ 16 0))) (h10 : ¬ σ 30 0 = 10) (hk : ¬ 0 < kOffer σ x y) {w b : Nat} (hw : C w = none) (hb : (b = ad 2 4 ∧ 0 < lsN σ 4) ∨ C b = none) (hnd : sg_nd [b, ad 1 4, w]) :
    vOffer σ x y = nI (iN (σ 30 0)) ∧ PH g (ad 0 0) own C (fOffer σ x y) (sg_ov C ((T_off g ad (iN (σ 30 0)) (iN x) w b y).map (fun t => t.2))) := by
  have hW2 := hW.fr (f42 (kOffer σ x y))
  have h4 := pic_off (x := x) (hQ.fr hW (f42 (kOffer σ x y))) hW2 (n := iN (σ 30 0)) rfl (a := iN x) rfl (y := y) hw hb hnd
  refine ⟨(if_neg hk).trans ?_, ?_⟩
  · rw [(nI_up hW.1.2.2.2.2.1 (by decide)).1]
    exact nI_pred _
  · rw [show fOffer σ x y = st2 (st2 (st2 (st2 σ 42 0 (kOffer σ x y)) 27 (iN (σ 30 0)) x) 28 (iN (σ 30 0)) y) 30 0 (σ 30 0 + 1) from if_neg hk]
    exact ⟨_, _, gh, h4.1, h4.2, hg, wx_off hW2 rfl h10 hx, rfl⟩
end GROWB
