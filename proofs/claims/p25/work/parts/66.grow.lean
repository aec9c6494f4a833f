
/-! lists that grow -/
theorem ov_app {C : Nat → Option va_E} {L : va_W} : ∀ L' : va_W, sg_ov (sg_ov C L) L' = sg_ov C (L' ++ L)
  | [] => rfl
  | (a, e) :: L' => by
    show sg_up (sg_ov (sg_ov C L) L') a e = sg_up (sg_ov C (L' ++ L)) a e
    rw [ov_app L']
theorem ov_irr {C1 C2 : Nat → Option va_E} {x : Nat} : ∀ {L : va_W}, x ∈ L.map Prod.fst → sg_ov C1 L x = sg_ov C2 L x
  | [], h => absurd h List.not_mem_nil
  | (a, e) :: L, h => by
    show sg_up (sg_ov C1 L) a e x = sg_up (sg_ov C2 L) a e x
    by_cases q : x = a
    · subst q
      rw [sg_up_s, sg_up_s]
    · rw [sg_up_n q, sg_up_n q]
      rcases List.mem_cons.mp h with h | h
      · exact absurd h q
      · exact ov_irr h
/-- what is written over altogether -/
theorem ov_cov {C : Nat → Option va_E} {L L' : va_W} (h : ∀ a ∈ L.map Prod.fst, a ∈ L'.map Prod.fst) : sg_ov (sg_ov C L) L' = sg_ov C L' := by
  funext x
  by_cases q : x ∈ L'.map Prod.fst
  · exact ov_irr q
  · rw [sg_ov_out q, sg_ov_out q]
    exact sg_ov_out fun z => q (h x z)
theorem cond_beq {α : Type} (i n : Nat) (w z : α) : cond (Nat.beq i n) w z = if i = n then w else z := by
  by_cases q : i = n
  · rw [q, Nat.beq_refl, if_pos rfl]
    rfl
  · rw [show Nat.beq i n = false from by
      cases hb : Nat.beq i n
      · rfl
      · exact absurd (Nat.eq_of_beq_eq_true hb) q, if_neg q]
    rfl
theorem tr_fu {f f' : Nat → Nat} {n w : Nat} (h : ∀ i, f' i = if i = n then w else f i) : sg_tr f' (n + 1) = sg_tr (sg_fu f n w) (n + 1) := by
  funext i
  show (if i < n + 1 then some (f' i) else none) = (if i < n + 1 then some (if i = n then w else f i) else none)
  rw [h i]
section GROW
variable {g : sg_G} {ad : Ad} {own : Nat → Option (Nat × Nat)} {gh : Gh} {σ τ : Mem} {C : Nat → Option va_E} {x y z : Int32} {a k c r n : Nat}
theorem Pic.ext (hQ : Pic g ad own gh σ C) {L : va_W} (h : ∀ q ∈ L, C q.1 = none) : Pic g ad own gh σ (sg_ov C L) ∧ Frm own own C (sg_ov C L) := by
  have ho : ∀ a x, C a = some x → sg_ov C L a = some x := fun a x hx => (sg_ov_out fun q => by
    obtain ⟨t, ht, he⟩ := List.mem_map.mp q
    have := h t ht
    rw [he, hx] at this
    cases this).trans hx
  exact ⟨fun i k x hx => ⟨ho _ _ (hQ i k x hx).1, (hQ i k x hx).2⟩, fun a x h1 h2 => ⟨ho a x h2, h1⟩⟩
theorem c_add1 (l : Launch) (hQ : Pic g ad own gh σ C) {j : Nat} (hj : j < 5) (hn : lsN σ j ≤ 40) {ci w : Nat} {vr : vw_C} {vs : List Value} (hE : ∀ i, i < lsN σ j → ∃ vs, C (ad (lsE j) i) = some (.inr (ci, vs))) (hcl : vwCl[ci]? = some vr) (hca : Cond.castable vr.1 "java/lang/Object" ∈ sg_N) (hci : 0 < ci ∧ ci < 100) (hx : C w = some (.inr (ci, vs))) :
    sg_Met l yJx4a65c_add_9ea2d cJx4a65c_add_9ea2d 2 (some .boolean) 6 140 1 100 g [.ref (ad 1 j), .ref w] C (fun v C' => v = some (.int 1) ∧ ∃ b, ((b = ad 2 j ∧ 0 < lsN σ j) ∨ C b = none) ∧ sg_nd [b, ad 1 j] ∧ C' = sg_ov C [(b, sg_qa g (sg_cap (lsN σ j + 1)) (sg_tr (sg_fu (ad (lsE j)) (lsN σ j) w) (lsN σ j + 1))), (ad 1 j, .inr (0, [.int (nI (lsN σ j + 1)), .ref b, .int (nI (lsN σ j + 1))]))]) sg_no := by
  have e : ∀ b : Nat, (b = (if lsN σ j = 0 then g.2.2.2 0 else ad 2 j) ∧ 0 < lsN σ j) = (b = ad 2 j ∧ 0 < lsN σ j) := fun b => propext ⟨fun q => ⟨by rw [q.1, if_neg (by omega)], q.2⟩, fun q => ⟨by rw [q.1, if_neg (by omega)], q.2⟩⟩
  have h := c_Jx4a65c_add_9ea2d l g C (ad 1 j) (lsN σ j) (if lsN σ j = 0 then g.2.2.2 0 else ad 2 j) (ad (lsE j)) ci vr w vs (hQ.at (ct1 hj)) (hQ.al hj) hn hE hcl hca hci hx
  simp only [e] at h
  exact h
theorem c_add2 (l : Launch) (hQ : Pic g ad own gh σ C) (ha : a < iN (σ 16 0)) (hn : iN (σ 11 a) ≤ 40) {ci w : Nat} {vr : vw_C} {vs : List Value} (hE : ∀ i, i < iN (σ 11 a) → ∃ vs, C (ad 14 (10 * a + i)) = some (.inr (ci, vs))) (hcl : vwCl[ci]? = some vr) (hca : Cond.castable vr.1 "java/lang/Object" ∈ sg_N) (hci : 0 < ci ∧ ci < 100) (hx : C w = some (.inr (ci, vs))) :
    sg_Met l yJx4a65c_add_9ea2d cJx4a65c_add_9ea2d 2 (some .boolean) 6 140 1 100 g [.ref (ad 12 a), .ref w] C (fun v C' => v = some (.int 1) ∧ ∃ b, ((b = ad 13 a ∧ 0 < iN (σ 11 a)) ∨ C b = none) ∧ sg_nd [b, ad 12 a] ∧ C' = sg_ov C [(b, sg_qa g (sg_cap (iN (σ 11 a) + 1)) (sg_tr (sg_fu (fun j => ad 14 (10 * a + j)) (iN (σ 11 a)) w) (iN (σ 11 a) + 1))), (ad 12 a, .inr (0, [.int (nI (iN (σ 11 a) + 1)), .ref b, .int (nI (iN (σ 11 a) + 1))]))]) sg_no := by
  have e : ∀ b : Nat, (b = (if iN (σ 11 a) = 0 then g.2.2.2 0 else ad 13 a) ∧ 0 < iN (σ 11 a)) = (b = ad 13 a ∧ 0 < iN (σ 11 a)) := fun b => propext ⟨fun q => ⟨by rw [q.1, if_neg (by omega)], q.2⟩, fun q => ⟨by rw [q.1, if_neg (by omega)], q.2⟩⟩
  have h := c_Jx4a65c_add_9ea2d l g C (ad 12 a) (iN (σ 11 a)) (if iN (σ 11 a) = 0 then g.2.2.2 0 else ad 13 a) (fun j => ad 14 (10 * a + j)) ci vr w vs (hQ.at (ct12 ha)) (hQ.ar ha) hn hE hcl hca hci hx
  simp only [e] at h
  exact h
theorem nI_up {k : Nat} {b : Nat} (h : isN (σ k 0) b) (hb : b ≤ 1000) : σ k 0 + 1 = nI (iN (σ k 0) + 1) ∧ iN (σ k 0 + 1) = iN (σ k 0) + 1 := by
  have h2 := h.2
  have e : σ k 0 + 1 = nI (iN (σ k 0) + 1) := by rw [← nI_1, ← h.1]
  exact ⟨e, by rw [e]; exact nI_clamp (by omega)⟩
theorem nI_up' {k j : Nat} {b : Nat} (h : isN (σ k j) b) (hb : b ≤ 1000) : σ k j + 1 = nI (iN (σ k j) + 1) ∧ iN (σ k j + 1) = iN (σ k j) + 1 := by
  have h2 := h.2
  have e : σ k j + 1 = nI (iN (σ k j) + 1) := by rw [← nI_1, ← h.1]
  exact ⟨e, by rw [e]; exact nI_clamp (by omega)⟩
theorem isN_up {x : Int32} {a b : Nat} (h : isN x a) (hb : a ≤ b) : isN x b := ⟨h.1, by have := h.2; omega⟩

abbrev T_level (g : sg_G) (ad : Ad) (n w b1 b2 b3 b : Nat) : List Tc := [((2, 0), b, sg_qa g (sg_cap (n + 1)) (sg_tr (sg_fu (ad 3) n w) (n + 1))), ((1, 0), ad 1 0, .inr (0, [.int (nI (n + 1)), .ref b, .int (nI (n + 1))])), ((6, n), b3, sg_ia g 32 (fun _ => 0)), ((5, n), b2, sg_ia g 32 (fun _ => 0)), ((4, n), b1, sg_za g 32 (fun _ => 0)), ((3, n), w, .inr (3, [.ref b1, .ref b2, .ref b3]))]
theorem wx_level (hW : WX σ) (h3 : ¬ σ 2 0 = 3) : WX (st2 σ 2 0 (σ 2 0 + 1)) := by
  have hu := nI_up hW.1.1 (by decide)
  have hb := hW.1.1.2
  have hn : iN (σ 2 0) < 3 := by
    rcases Nat.lt_or_ge (iN (σ 2 0)) 3 with h | h
    · exact h
    · exact absurd (by rw [hW.1.1.1, show iN (σ 2 0) = 3 by omega]; rfl) h3
  have hh := heroR_lo (τ := st2 σ 2 0 (σ 2 0 + 1)) hW rfl rfl rfl rfl rfl rfl
  have hl := fun r n => rLen_c (τ := st2 σ 2 0 (σ 2 0 + 1)) (σ := σ) (r := r) rfl n
  refine ⟨⟨?_, hW.1.2.1, hW.1.2.2.1, hW.1.2.2.2.1, hW.1.2.2.2.2.1, fun r hr => ?_, hW.1.2.2.2.2.2.2.1, hW.1.2.2.2.2.2.2.2.1, fun k hk => ?_, hW.1.2.2.2.2.2.2.2.2.2⟩, hW.2.1, hW.2.2.1, ⟨fun j hj => ?_, hW.2.2.2.1.2⟩, hW.2.2.2.2.1, fun r => ?_, fun r hr => ?_⟩
  · show isN (σ 2 0 + 1) 4
    rw [hu.1]
    exact isN_nI (by omega) (by decide)
  · show isN (σ 3 r) (iN (σ 2 0 + 1))
    rw [hu.2]
    exact isN_up (hW.1.2.2.2.2.2.1 r hr) (Nat.le_succ _)
  · show isN (σ 10 k) (iN (σ 2 0 + 1))
    rw [hu.2]
    exact isN_up (hW.1.2.2.2.2.2.2.2.2.1 k hk) (Nat.le_succ _)
  · have hj2 : 32 * iN (σ 2 0 + 1) ≤ j := hj
    exact hW.2.2.2.1.1 j (by rw [hu.2] at hj2; omega)
  · rw [hl]
    exact hW.2.2.2.2.2.1 r
  · rw [hh]
    exact hW.2.2.2.2.2.2 r hr
theorem hoL_0 (hW : WX σ) (hn : n = iN (σ 2 0)) {w b1 b2 b3 b : Nat} (k' : Nat) (hm : (0, k') ∉ (T_level g ad n w b1 b2 b3 b).map (fun t => t.1)) : cont g (adT ad (T_level g ad n w b1 b2 b3 b)) gh (st2 σ 2 0 (σ 2 0 + 1)) 0 k' = cont g ad gh σ 0 k' := by
  have hu := nI_up hW.1.1 (by decide)
  rw [← hn] at hu
  have hh := heroR_lo (τ := st2 σ 2 0 (σ 2 0 + 1)) hW rfl rfl rfl rfl rfl rfl
  have hls : ∀ k', k' ≠ 0 → lsN (st2 σ 2 0 (σ 2 0 + 1)) k' = lsN σ k' := by
    intro k' h
    match k', h with
    | 0, h => exact absurd rfl h
    | 1, h => exact (show iN (σ 9 0) = iN (σ 9 0) from rfl)
    | 2, h => exact (show iN (σ 16 0) = iN (σ 16 0) from rfl)
    | 3, h => exact (show iN (σ 26 0) = iN (σ 26 0) from rfl)
    | n + 4, h => exact (show iN (σ 30 0) = iN (σ 30 0) from rfl)
  first | (simp only [cont]; done) | (simp only [cont]; rfl)
theorem hoL_1 (hW : WX σ) (hn : n = iN (σ 2 0)) {w b1 b2 b3 b : Nat} (k' : Nat) (hm : (1, k') ∉ (T_level g ad n w b1 b2 b3 b).map (fun t => t.1)) : cont g (adT ad (T_level g ad n w b1 b2 b3 b)) gh (st2 σ 2 0 (σ 2 0 + 1)) 1 k' = cont g ad gh σ 1 k' := by
  have hu := nI_up hW.1.1 (by decide)
  rw [← hn] at hu
  have hh := heroR_lo (τ := st2 σ 2 0 (σ 2 0 + 1)) hW rfl rfl rfl rfl rfl rfl
  have hls : ∀ k', k' ≠ 0 → lsN (st2 σ 2 0 (σ 2 0 + 1)) k' = lsN σ k' := by
    intro k' h
    match k', h with
    | 0, h => exact absurd rfl h
    | 1, h => exact (show iN (σ 9 0) = iN (σ 9 0) from rfl)
    | 2, h => exact (show iN (σ 16 0) = iN (σ 16 0) from rfl)
    | 3, h => exact (show iN (σ 26 0) = iN (σ 26 0) from rfl)
    | n + 4, h => exact (show iN (σ 30 0) = iN (σ 30 0) from rfl)
  exact (by
        have hk' : k' ≠ 0 := fun q => hm (by rw [q]; simp [T_level])
        show (if k' < 5 then some (cL g (lsN (st2 σ 2 0 (σ 2 0 + 1)) k') (adT ad (T_level g ad n w b1 b2 b3 b) 2 k')) else none) = (if k' < 5 then some (cL g (lsN σ k') (ad 2 k')) else none)
        rw [hls k' hk', (adT_out (i := 2) (k := k') (by first | (simp [T_level]; done) | (simp [T_level]; omega)))])
theorem hoL_2 (hW : WX σ) (hn : n = iN (σ 2 0)) {w b1 b2 b3 b : Nat} (k' : Nat) (hm : (2, k') ∉ (T_level g ad n w b1 b2 b3 b).map (fun t => t.1)) : cont g (adT ad (T_level g ad n w b1 b2 b3 b)) gh (st2 σ 2 0 (σ 2 0 + 1)) 2 k' = cont g ad gh σ 2 k' := by
  have hu := nI_up hW.1.1 (by decide)
  rw [← hn] at hu
  have hh := heroR_lo (τ := st2 σ 2 0 (σ 2 0 + 1)) hW rfl rfl rfl rfl rfl rfl
  have hls : ∀ k', k' ≠ 0 → lsN (st2 σ 2 0 (σ 2 0 + 1)) k' = lsN σ k' := by
    intro k' h
    match k', h with
    | 0, h => exact absurd rfl h
    | 1, h => exact (show iN (σ 9 0) = iN (σ 9 0) from rfl)
    | 2, h => exact (show iN (σ 16 0) = iN (σ 16 0) from rfl)
    | 3, h => exact (show iN (σ 26 0) = iN (σ 26 0) from rfl)
    | n + 4, h => exact (show iN (σ 30 0) = iN (σ 30 0) from rfl)
  exact (by
        have hk' : k' ≠ 0 := fun q => hm (by rw [q]; simp [T_level])
        show (if k' < 5 then cA g (lsN (st2 σ 2 0 (σ 2 0 + 1)) k') (adT ad (T_level g ad n w b1 b2 b3 b) (lsE k')) else none) = (if k' < 5 then cA g (lsN σ k') (ad (lsE k')) else none)
        rw [hls k' hk']
        by_cases h5 : k' < 5
        · rw [if_pos h5, if_pos h5]
          have h6 : k' = 1 ∨ k' = 2 ∨ k' = 3 ∨ k' = 4 := by omega
          rcases h6 with rfl | rfl | rfl | rfl <;> rfl
        · rw [if_neg h5, if_neg h5])
theorem hoL_3 (hW : WX σ) (hn : n = iN (σ 2 0)) {w b1 b2 b3 b : Nat} (k' : Nat) (hm : (3, k') ∉ (T_level g ad n w b1 b2 b3 b).map (fun t => t.1)) : cont g (adT ad (T_level g ad n w b1 b2 b3 b)) gh (st2 σ 2 0 (σ 2 0 + 1)) 3 k' = cont g ad gh σ 3 k' := by
  have hu := nI_up hW.1.1 (by decide)
  rw [← hn] at hu
  have hh := heroR_lo (τ := st2 σ 2 0 (σ 2 0 + 1)) hW rfl rfl rfl rfl rfl rfl
  have hls : ∀ k', k' ≠ 0 → lsN (st2 σ 2 0 (σ 2 0 + 1)) k' = lsN σ k' := by
    intro k' h
    match k', h with
    | 0, h => exact absurd rfl h
    | 1, h => exact (show iN (σ 9 0) = iN (σ 9 0) from rfl)
    | 2, h => exact (show iN (σ 16 0) = iN (σ 16 0) from rfl)
    | 3, h => exact (show iN (σ 26 0) = iN (σ 26 0) from rfl)
    | n + 4, h => exact (show iN (σ 30 0) = iN (σ 30 0) from rfl)
  exact (by
        have hk' : k' ≠ n := fun q => hm (by rw [q]; simp [T_level])
        show (if k' < iN (σ 2 0 + 1) then some (Sum.inr (3, [.ref (adT ad (T_level g ad n w b1 b2 b3 b) 4 k'), .ref (adT ad (T_level g ad n w b1 b2 b3 b) 5 k'), .ref (adT ad (T_level g ad n w b1 b2 b3 b) 6 k')]) : va_E) else none) = (if k' < iN (σ 2 0) then some (Sum.inr (3, [.ref (ad 4 k'), .ref (ad 5 k'), .ref (ad 6 k')]) : va_E) else none)
        rw [(adT_out (i := 4) (k := k') (by first | (simp [T_level]; done) | (simp [T_level]; omega))), (adT_out (i := 5) (k := k') (by first | (simp [T_level]; done) | (simp [T_level]; omega))), (adT_out (i := 6) (k := k') (by first | (simp [T_level]; done) | (simp [T_level]; omega)))]
        exact ite_c (by rw [hu.2, ← hn]; omega) rfl rfl)
theorem hoL_4 (hW : WX σ) (hn : n = iN (σ 2 0)) {w b1 b2 b3 b : Nat} (k' : Nat) (hm : (4, k') ∉ (T_level g ad n w b1 b2 b3 b).map (fun t => t.1)) : cont g (adT ad (T_level g ad n w b1 b2 b3 b)) gh (st2 σ 2 0 (σ 2 0 + 1)) 4 k' = cont g ad gh σ 4 k' := by
  have hu := nI_up hW.1.1 (by decide)
  rw [← hn] at hu
  have hh := heroR_lo (τ := st2 σ 2 0 (σ 2 0 + 1)) hW rfl rfl rfl rfl rfl rfl
  have hls : ∀ k', k' ≠ 0 → lsN (st2 σ 2 0 (σ 2 0 + 1)) k' = lsN σ k' := by
    intro k' h
    match k', h with
    | 0, h => exact absurd rfl h
    | 1, h => exact (show iN (σ 9 0) = iN (σ 9 0) from rfl)
    | 2, h => exact (show iN (σ 16 0) = iN (σ 16 0) from rfl)
    | 3, h => exact (show iN (σ 26 0) = iN (σ 26 0) from rfl)
    | n + 4, h => exact (show iN (σ 30 0) = iN (σ 30 0) from rfl)
  exact (by
        have hk' : k' ≠ n := fun q => hm (by rw [q]; simp [T_level])
        show (if k' < iN (σ 2 0 + 1) then some (sg_za g 32 (lvG σ k')) else none) = (if k' < iN (σ 2 0) then some (sg_za g 32 (lvG σ k')) else none)
        exact ite_c (by rw [hu.2, ← hn]; omega) rfl rfl)
theorem hoL_5 (hW : WX σ) (hn : n = iN (σ 2 0)) {w b1 b2 b3 b : Nat} (k' : Nat) (hm : (5, k') ∉ (T_level g ad n w b1 b2 b3 b).map (fun t => t.1)) : cont g (adT ad (T_level g ad n w b1 b2 b3 b)) gh (st2 σ 2 0 (σ 2 0 + 1)) 5 k' = cont g ad gh σ 5 k' := by
  have hu := nI_up hW.1.1 (by decide)
  rw [← hn] at hu
  have hh := heroR_lo (τ := st2 σ 2 0 (σ 2 0 + 1)) hW rfl rfl rfl rfl rfl rfl
  have hls : ∀ k', k' ≠ 0 → lsN (st2 σ 2 0 (σ 2 0 + 1)) k' = lsN σ k' := by
    intro k' h
    match k', h with
    | 0, h => exact absurd rfl h
    | 1, h => exact (show iN (σ 9 0) = iN (σ 9 0) from rfl)
    | 2, h => exact (show iN (σ 16 0) = iN (σ 16 0) from rfl)
    | 3, h => exact (show iN (σ 26 0) = iN (σ 26 0) from rfl)
    | n + 4, h => exact (show iN (σ 30 0) = iN (σ 30 0) from rfl)
  exact (by
        have hk' : k' ≠ n := fun q => hm (by rw [q]; simp [T_level])
        show (if k' < iN (σ 2 0 + 1) then some (sg_ia g 32 (lvF σ k')) else none) = (if k' < iN (σ 2 0) then some (sg_ia g 32 (lvF σ k')) else none)
        exact ite_c (by rw [hu.2, ← hn]; omega) rfl rfl)
theorem hoL_6 (hW : WX σ) (hn : n = iN (σ 2 0)) {w b1 b2 b3 b : Nat} (k' : Nat) (hm : (6, k') ∉ (T_level g ad n w b1 b2 b3 b).map (fun t => t.1)) : cont g (adT ad (T_level g ad n w b1 b2 b3 b)) gh (st2 σ 2 0 (σ 2 0 + 1)) 6 k' = cont g ad gh σ 6 k' := by
  have hu := nI_up hW.1.1 (by decide)
  rw [← hn] at hu
  have hh := heroR_lo (τ := st2 σ 2 0 (σ 2 0 + 1)) hW rfl rfl rfl rfl rfl rfl
  have hls : ∀ k', k' ≠ 0 → lsN (st2 σ 2 0 (σ 2 0 + 1)) k' = lsN σ k' := by
    intro k' h
    match k', h with
    | 0, h => exact absurd rfl h
    | 1, h => exact (show iN (σ 9 0) = iN (σ 9 0) from rfl)
    | 2, h => exact (show iN (σ 16 0) = iN (σ 16 0) from rfl)
    | 3, h => exact (show iN (σ 26 0) = iN (σ 26 0) from rfl)
    | n + 4, h => exact (show iN (σ 30 0) = iN (σ 30 0) from rfl)
  exact (by
        have hk' : k' ≠ n := fun q => hm (by rw [q]; simp [T_level])
        show (if k' < iN (σ 2 0 + 1) then some (sg_ia g 32 (lvI σ k')) else none) = (if k' < iN (σ 2 0) then some (sg_ia g 32 (lvI σ k')) else none)
        exact ite_c (by rw [hu.2, ← hn]; omega) rfl rfl)
theorem hoL_7 (hW : WX σ) (hn : n = iN (σ 2 0)) {w b1 b2 b3 b : Nat} (k' : Nat) (hm : (7, k') ∉ (T_level g ad n w b1 b2 b3 b).map (fun t => t.1)) : cont g (adT ad (T_level g ad n w b1 b2 b3 b)) gh (st2 σ 2 0 (σ 2 0 + 1)) 7 k' = cont g ad gh σ 7 k' := by
  have hu := nI_up hW.1.1 (by decide)
  rw [← hn] at hu
  have hh := heroR_lo (τ := st2 σ 2 0 (σ 2 0 + 1)) hW rfl rfl rfl rfl rfl rfl
  have hls : ∀ k', k' ≠ 0 → lsN (st2 σ 2 0 (σ 2 0 + 1)) k' = lsN σ k' := by
    intro k' h
    match k', h with
    | 0, h => exact absurd rfl h
    | 1, h => exact (show iN (σ 9 0) = iN (σ 9 0) from rfl)
    | 2, h => exact (show iN (σ 16 0) = iN (σ 16 0) from rfl)
    | 3, h => exact (show iN (σ 26 0) = iN (σ 26 0) from rfl)
    | n + 4, h => exact (show iN (σ 30 0) = iN (σ 30 0) from rfl)
  exact (by
        show (if k' < iN (σ 9 0) then some (Sum.inr (5, [.ref (adT ad (T_level g ad n w b1 b2 b3 b) 3 (iN (σ 3 k'))), .ref (ad 8 k'), .ref (ad 9 k'), .ref (ad 10 k'), .int (σ 4 k'), .int (σ 5 k'), .int (σ 6 k')]) : va_E) else none) = (if k' < iN (σ 9 0) then some (Sum.inr (5, [.ref (ad 3 (iN (σ 3 k'))), .ref (ad 8 k'), .ref (ad 9 k'), .ref (ad 10 k'), .int (σ 4 k'), .int (σ 5 k'), .int (σ 6 k')]) : va_E) else none)
        by_cases hk : k' < iN (σ 9 0)
        · have hlt := hW.wl hk
          rw [(adT_out (i := 3) (k := iN (σ 3 k')) (by first | (simp [T_level]; done) | (simp [T_level]; omega)))]
        · rw [if_neg hk, if_neg hk])
theorem hoL_8 (hW : WX σ) (hn : n = iN (σ 2 0)) {w b1 b2 b3 b : Nat} (k' : Nat) (hm : (8, k') ∉ (T_level g ad n w b1 b2 b3 b).map (fun t => t.1)) : cont g (adT ad (T_level g ad n w b1 b2 b3 b)) gh (st2 σ 2 0 (σ 2 0 + 1)) 8 k' = cont g ad gh σ 8 k' := by
  have hu := nI_up hW.1.1 (by decide)
  rw [← hn] at hu
  have hh := heroR_lo (τ := st2 σ 2 0 (σ 2 0 + 1)) hW rfl rfl rfl rfl rfl rfl
  have hls : ∀ k', k' ≠ 0 → lsN (st2 σ 2 0 (σ 2 0 + 1)) k' = lsN σ k' := by
    intro k' h
    match k', h with
    | 0, h => exact absurd rfl h
    | 1, h => exact (show iN (σ 9 0) = iN (σ 9 0) from rfl)
    | 2, h => exact (show iN (σ 16 0) = iN (σ 16 0) from rfl)
    | 3, h => exact (show iN (σ 26 0) = iN (σ 26 0) from rfl)
    | n + 4, h => exact (show iN (σ 30 0) = iN (σ 30 0) from rfl)
  first | (simp only [cont]; done) | (simp only [cont]; rfl)
theorem hoL_9 (hW : WX σ) (hn : n = iN (σ 2 0)) {w b1 b2 b3 b : Nat} (k' : Nat) (hm : (9, k') ∉ (T_level g ad n w b1 b2 b3 b).map (fun t => t.1)) : cont g (adT ad (T_level g ad n w b1 b2 b3 b)) gh (st2 σ 2 0 (σ 2 0 + 1)) 9 k' = cont g ad gh σ 9 k' := by
  have hu := nI_up hW.1.1 (by decide)
  rw [← hn] at hu
  have hh := heroR_lo (τ := st2 σ 2 0 (σ 2 0 + 1)) hW rfl rfl rfl rfl rfl rfl
  have hls : ∀ k', k' ≠ 0 → lsN (st2 σ 2 0 (σ 2 0 + 1)) k' = lsN σ k' := by
    intro k' h
    match k', h with
    | 0, h => exact absurd rfl h
    | 1, h => exact (show iN (σ 9 0) = iN (σ 9 0) from rfl)
    | 2, h => exact (show iN (σ 16 0) = iN (σ 16 0) from rfl)
    | 3, h => exact (show iN (σ 26 0) = iN (σ 26 0) from rfl)
    | n + 4, h => exact (show iN (σ 30 0) = iN (σ 30 0) from rfl)
  first | (simp only [cont]; done) | (simp only [cont]; rfl)
theorem hoL_10 (hW : WX σ) (hn : n = iN (σ 2 0)) {w b1 b2 b3 b : Nat} (k' : Nat) (hm : (10, k') ∉ (T_level g ad n w b1 b2 b3 b).map (fun t => t.1)) : cont g (adT ad (T_level g ad n w b1 b2 b3 b)) gh (st2 σ 2 0 (σ 2 0 + 1)) 10 k' = cont g ad gh σ 10 k' := by
  have hu := nI_up hW.1.1 (by decide)
  rw [← hn] at hu
  have hh := heroR_lo (τ := st2 σ 2 0 (σ 2 0 + 1)) hW rfl rfl rfl rfl rfl rfl
  have hls : ∀ k', k' ≠ 0 → lsN (st2 σ 2 0 (σ 2 0 + 1)) k' = lsN σ k' := by
    intro k' h
    match k', h with
    | 0, h => exact absurd rfl h
    | 1, h => exact (show iN (σ 9 0) = iN (σ 9 0) from rfl)
    | 2, h => exact (show iN (σ 16 0) = iN (σ 16 0) from rfl)
    | 3, h => exact (show iN (σ 26 0) = iN (σ 26 0) from rfl)
    | n + 4, h => exact (show iN (σ 30 0) = iN (σ 30 0) from rfl)
  simp only [cont]; rw [hh]; rfl
theorem hoL_11 (hW : WX σ) (hn : n = iN (σ 2 0)) {w b1 b2 b3 b : Nat} (k' : Nat) (hm : (11, k') ∉ (T_level g ad n w b1 b2 b3 b).map (fun t => t.1)) : cont g (adT ad (T_level g ad n w b1 b2 b3 b)) gh (st2 σ 2 0 (σ 2 0 + 1)) 11 k' = cont g ad gh σ 11 k' := by
  have hu := nI_up hW.1.1 (by decide)
  rw [← hn] at hu
  have hh := heroR_lo (τ := st2 σ 2 0 (σ 2 0 + 1)) hW rfl rfl rfl rfl rfl rfl
  have hls : ∀ k', k' ≠ 0 → lsN (st2 σ 2 0 (σ 2 0 + 1)) k' = lsN σ k' := by
    intro k' h
    match k', h with
    | 0, h => exact absurd rfl h
    | 1, h => exact (show iN (σ 9 0) = iN (σ 9 0) from rfl)
    | 2, h => exact (show iN (σ 16 0) = iN (σ 16 0) from rfl)
    | 3, h => exact (show iN (σ 26 0) = iN (σ 26 0) from rfl)
    | n + 4, h => exact (show iN (σ 30 0) = iN (σ 30 0) from rfl)
  exact (by
        show (if k' < iN (σ 16 0) then some (Sum.inr (1, [.ref (adT ad (T_level g ad n w b1 b2 b3 b) 3 (iN (σ 10 k'))), .ref (ad 12 k')]) : va_E) else none) = (if k' < iN (σ 16 0) then some (Sum.inr (1, [.ref (ad 3 (iN (σ 10 k'))), .ref (ad 12 k')]) : va_E) else none)
        by_cases hk : k' < iN (σ 16 0)
        · have hlt := hW.wk hk
          rw [(adT_out (i := 3) (k := iN (σ 10 k')) (by first | (simp [T_level]; done) | (simp [T_level]; omega)))]
        · rw [if_neg hk, if_neg hk])
theorem hoL_12 (hW : WX σ) (hn : n = iN (σ 2 0)) {w b1 b2 b3 b : Nat} (k' : Nat) (hm : (12, k') ∉ (T_level g ad n w b1 b2 b3 b).map (fun t => t.1)) : cont g (adT ad (T_level g ad n w b1 b2 b3 b)) gh (st2 σ 2 0 (σ 2 0 + 1)) 12 k' = cont g ad gh σ 12 k' := by
  have hu := nI_up hW.1.1 (by decide)
  rw [← hn] at hu
  have hh := heroR_lo (τ := st2 σ 2 0 (σ 2 0 + 1)) hW rfl rfl rfl rfl rfl rfl
  have hls : ∀ k', k' ≠ 0 → lsN (st2 σ 2 0 (σ 2 0 + 1)) k' = lsN σ k' := by
    intro k' h
    match k', h with
    | 0, h => exact absurd rfl h
    | 1, h => exact (show iN (σ 9 0) = iN (σ 9 0) from rfl)
    | 2, h => exact (show iN (σ 16 0) = iN (σ 16 0) from rfl)
    | 3, h => exact (show iN (σ 26 0) = iN (σ 26 0) from rfl)
    | n + 4, h => exact (show iN (σ 30 0) = iN (σ 30 0) from rfl)
  first | (simp only [cont]; done) | (simp only [cont]; rfl)
theorem hoL_13 (hW : WX σ) (hn : n = iN (σ 2 0)) {w b1 b2 b3 b : Nat} (k' : Nat) (hm : (13, k') ∉ (T_level g ad n w b1 b2 b3 b).map (fun t => t.1)) : cont g (adT ad (T_level g ad n w b1 b2 b3 b)) gh (st2 σ 2 0 (σ 2 0 + 1)) 13 k' = cont g ad gh σ 13 k' := by
  have hu := nI_up hW.1.1 (by decide)
  rw [← hn] at hu
  have hh := heroR_lo (τ := st2 σ 2 0 (σ 2 0 + 1)) hW rfl rfl rfl rfl rfl rfl
  have hls : ∀ k', k' ≠ 0 → lsN (st2 σ 2 0 (σ 2 0 + 1)) k' = lsN σ k' := by
    intro k' h
    match k', h with
    | 0, h => exact absurd rfl h
    | 1, h => exact (show iN (σ 9 0) = iN (σ 9 0) from rfl)
    | 2, h => exact (show iN (σ 16 0) = iN (σ 16 0) from rfl)
    | 3, h => exact (show iN (σ 26 0) = iN (σ 26 0) from rfl)
    | n + 4, h => exact (show iN (σ 30 0) = iN (σ 30 0) from rfl)
  first | (simp only [cont]; done) | (simp only [cont]; rfl)
theorem hoL_14 (hW : WX σ) (hn : n = iN (σ 2 0)) {w b1 b2 b3 b : Nat} (k' : Nat) (hm : (14, k') ∉ (T_level g ad n w b1 b2 b3 b).map (fun t => t.1)) : cont g (adT ad (T_level g ad n w b1 b2 b3 b)) gh (st2 σ 2 0 (σ 2 0 + 1)) 14 k' = cont g ad gh σ 14 k' := by
  have hu := nI_up hW.1.1 (by decide)
  rw [← hn] at hu
  have hh := heroR_lo (τ := st2 σ 2 0 (σ 2 0 + 1)) hW rfl rfl rfl rfl rfl rfl
  have hls : ∀ k', k' ≠ 0 → lsN (st2 σ 2 0 (σ 2 0 + 1)) k' = lsN σ k' := by
    intro k' h
    match k', h with
    | 0, h => exact absurd rfl h
    | 1, h => exact (show iN (σ 9 0) = iN (σ 9 0) from rfl)
    | 2, h => exact (show iN (σ 16 0) = iN (σ 16 0) from rfl)
    | 3, h => exact (show iN (σ 26 0) = iN (σ 26 0) from rfl)
    | n + 4, h => exact (show iN (σ 30 0) = iN (σ 30 0) from rfl)
  first | (simp only [cont]; done) | (simp only [cont]; rfl)
theorem hoL_15 (hW : WX σ) (hn : n = iN (σ 2 0)) {w b1 b2 b3 b : Nat} (k' : Nat) (hm : (15, k') ∉ (T_level g ad n w b1 b2 b3 b).map (fun t => t.1)) : cont g (adT ad (T_level g ad n w b1 b2 b3 b)) gh (st2 σ 2 0 (σ 2 0 + 1)) 15 k' = cont g ad gh σ 15 k' := by
  have hu := nI_up hW.1.1 (by decide)
  rw [← hn] at hu
  have hh := heroR_lo (τ := st2 σ 2 0 (σ 2 0 + 1)) hW rfl rfl rfl rfl rfl rfl
  have hls : ∀ k', k' ≠ 0 → lsN (st2 σ 2 0 (σ 2 0 + 1)) k' = lsN σ k' := by
    intro k' h
    match k', h with
    | 0, h => exact absurd rfl h
    | 1, h => exact (show iN (σ 9 0) = iN (σ 9 0) from rfl)
    | 2, h => exact (show iN (σ 16 0) = iN (σ 16 0) from rfl)
    | 3, h => exact (show iN (σ 26 0) = iN (σ 26 0) from rfl)
    | n + 4, h => exact (show iN (σ 30 0) = iN (σ 30 0) from rfl)
  first | (simp only [cont]; done) | (simp only [cont]; rfl)
theorem hoL_16 (hW : WX σ) (hn : n = iN (σ 2 0)) {w b1 b2 b3 b : Nat} (k' : Nat) (hm : (16, k') ∉ (T_level g ad n w b1 b2 b3 b).map (fun t => t.1)) : cont g (adT ad (T_level g ad n w b1 b2 b3 b)) gh (st2 σ 2 0 (σ 2 0 + 1)) 16 k' = cont g ad gh σ 16 k' := by
  have hu := nI_up hW.1.1 (by decide)
  rw [← hn] at hu
  have hh := heroR_lo (τ := st2 σ 2 0 (σ 2 0 + 1)) hW rfl rfl rfl rfl rfl rfl
  have hls : ∀ k', k' ≠ 0 → lsN (st2 σ 2 0 (σ 2 0 + 1)) k' = lsN σ k' := by
    intro k' h
    match k', h with
    | 0, h => exact absurd rfl h
    | 1, h => exact (show iN (σ 9 0) = iN (σ 9 0) from rfl)
    | 2, h => exact (show iN (σ 16 0) = iN (σ 16 0) from rfl)
    | 3, h => exact (show iN (σ 26 0) = iN (σ 26 0) from rfl)
    | n + 4, h => exact (show iN (σ 30 0) = iN (σ 30 0) from rfl)
  first | (simp only [cont]; done) | (simp only [cont]; rfl)
theorem hoL_17 (hW : WX σ) (hn : n = iN (σ 2 0)) {w b1 b2 b3 b : Nat} (k' : Nat) (hm : (17, k') ∉ (T_level g ad n w b1 b2 b3 b).map (fun t => t.1)) : cont g (adT ad (T_level g ad n w b1 b2 b3 b)) gh (st2 σ 2 0 (σ 2 0 + 1)) 17 k' = cont g ad gh σ 17 k' := by
  have hu := nI_up hW.1.1 (by decide)
  rw [← hn] at hu
  have hh := heroR_lo (τ := st2 σ 2 0 (σ 2 0 + 1)) hW rfl rfl rfl rfl rfl rfl
  have hls : ∀ k', k' ≠ 0 → lsN (st2 σ 2 0 (σ 2 0 + 1)) k' = lsN σ k' := by
    intro k' h
    match k', h with
    | 0, h => exact absurd rfl h
    | 1, h => exact (show iN (σ 9 0) = iN (σ 9 0) from rfl)
    | 2, h => exact (show iN (σ 16 0) = iN (σ 16 0) from rfl)
    | 3, h => exact (show iN (σ 26 0) = iN (σ 26 0) from rfl)
    | n + 4, h => exact (show iN (σ 30 0) = iN (σ 30 0) from rfl)
  first | (simp only [cont]; done) | (simp only [cont]; rfl)
theorem hoL_18 (hW : WX σ) (hn : n = iN (σ 2 0)) {w b1 b2 b3 b : Nat} (k' : Nat) (hm : (18, k') ∉ (T_level g ad n w b1 b2 b3 b).map (fun t => t.1)) : cont g (adT ad (T_level g ad n w b1 b2 b3 b)) gh (st2 σ 2 0 (σ 2 0 + 1)) 18 k' = cont g ad gh σ 18 k' := by
  have hu := nI_up hW.1.1 (by decide)
  rw [← hn] at hu
  have hh := heroR_lo (τ := st2 σ 2 0 (σ 2 0 + 1)) hW rfl rfl rfl rfl rfl rfl
  have hls : ∀ k', k' ≠ 0 → lsN (st2 σ 2 0 (σ 2 0 + 1)) k' = lsN σ k' := by
    intro k' h
    match k', h with
    | 0, h => exact absurd rfl h
    | 1, h => exact (show iN (σ 9 0) = iN (σ 9 0) from rfl)
    | 2, h => exact (show iN (σ 16 0) = iN (σ 16 0) from rfl)
    | 3, h => exact (show iN (σ 26 0) = iN (σ 26 0) from rfl)
    | n + 4, h => exact (show iN (σ 30 0) = iN (σ 30 0) from rfl)
  first | (simp only [cont]; done) | (simp only [cont]; rfl)
theorem hoL_19 (hW : WX σ) (hn : n = iN (σ 2 0)) {w b1 b2 b3 b : Nat} (k' : Nat) (hm : (19, k') ∉ (T_level g ad n w b1 b2 b3 b).map (fun t => t.1)) : cont g (adT ad (T_level g ad n w b1 b2 b3 b)) gh (st2 σ 2 0 (σ 2 0 + 1)) 19 k' = cont g ad gh σ 19 k' := by
  have hu := nI_up hW.1.1 (by decide)
  rw [← hn] at hu
  have hh := heroR_lo (τ := st2 σ 2 0 (σ 2 0 + 1)) hW rfl rfl rfl rfl rfl rfl
  have hls : ∀ k', k' ≠ 0 → lsN (st2 σ 2 0 (σ 2 0 + 1)) k' = lsN σ k' := by
    intro k' h
    match k', h with
    | 0, h => exact absurd rfl h
    | 1, h => exact (show iN (σ 9 0) = iN (σ 9 0) from rfl)
    | 2, h => exact (show iN (σ 16 0) = iN (σ 16 0) from rfl)
    | 3, h => exact (show iN (σ 26 0) = iN (σ 26 0) from rfl)
    | n + 4, h => exact (show iN (σ 30 0) = iN (σ 30 0) from rfl)
  first | (simp only [cont]; done) | (simp only [cont]; rfl)
theorem pic_level (hQ : Pic g ad own gh σ C) (hW : WX σ) (hn : n = iN (σ 2 0)) {w b1 b2 b3 b : Nat} (hw : C w = none) (h1 : C b1 = none) (h2 : C b2 = none) (h3 : C b3 = none) (hb : (b = ad 2 0 ∧ 0 < lsN σ 0) ∨ C b = none) (hnd : sg_nd [b, ad 1 0, b3, b2, b1, w]) :
    Pic g (adT ad (T_level g ad n w b1 b2 b3 b)) (ownT own (T_level g ad n w b1 b2 b3 b)) gh (st2 σ 2 0 (σ 2 0 + 1)) (sg_ov C ((T_level g ad n w b1 b2 b3 b).map (fun t => t.2))) ∧ Frm own (ownT own (T_level g ad n w b1 b2 b3 b)) C (sg_ov C ((T_level g ad n w b1 b2 b3 b).map (fun t => t.2))) := by
  have hu := nI_up hW.1.1 (by decide)
  rw [← hn] at hu
  have hN : lsN (st2 σ 2 0 (σ 2 0 + 1)) 0 = n + 1 := hu.2
  have hM : nm_nd ((T_level g ad n w b1 b2 b3 b).map (fun t => t.1)) := nm_of (show sg_nd [2, 1, 6, 5, 4, 3] from ⟨by decide, by decide, by decide, by decide, by decide, by decide, trivial⟩)
  have hh := heroR_lo (τ := st2 σ 2 0 (σ 2 0 + 1)) hW rfl rfl rfl rfl rfl rfl
  have z0 : ∀ c, σ 0 (32 * n + c) = 0 := fun c => (hW.2.2.2.1.1 _ (by rw [hn]; omega)).1
  have z1 : ∀ c, σ 1 (32 * n + c) = 0 := fun c => (hW.2.2.2.1.1 _ (by rw [hn]; omega)).2
  have hls : ∀ k', k' ≠ 0 → lsN (st2 σ 2 0 (σ 2 0 + 1)) k' = lsN σ k' := by
    intro k' h
    match k', h with
    | 0, h => exact absurd rfl h
    | 1, h => exact (show iN (σ 9 0) = iN (σ 9 0) from rfl)
    | 2, h => exact (show iN (σ 16 0) = iN (σ 16 0) from rfl)
    | 3, h => exact (show iN (σ 26 0) = iN (σ 26 0) from rfl)
    | n + 4, h => exact (show iN (σ 30 0) = iN (σ 30 0) from rfl)
  refine hQ.touch (T_level g ad n w b1 b2 b3 b) (List.forall_mem_cons.mpr ⟨(by rcases hb with ⟨q1, q2⟩ | q; exact .inr ⟨q1, _, ct2 (k := 0) (by decide) q2⟩; exact .inl q), List.forall_mem_cons.mpr ⟨(.inr ⟨rfl, _, ct1 (k := 0) (by decide)⟩), List.forall_mem_cons.mpr ⟨(.inl h3), List.forall_mem_cons.mpr ⟨(.inl h2), List.forall_mem_cons.mpr ⟨(.inl h1), List.forall_mem_cons.mpr ⟨(.inl hw), fun _ h => absurd h List.not_mem_nil⟩⟩⟩⟩⟩⟩) hnd hM (List.forall_mem_cons.mpr ⟨(by
    show (if 0 < 5 then cA g (lsN (st2 σ 2 0 (σ 2 0 + 1)) 0) (adT ad (T_level g ad n w b1 b2 b3 b) 3) else none) = _
    rw [if_pos (by decide), hN]
    show (if 0 < n + 1 then some (sg_qa g (sg_cap (n + 1)) (sg_tr (adT ad (T_level g ad n w b1 b2 b3 b) 3) (n + 1))) else none) = _
    rw [if_pos (Nat.succ_pos n), tr_fu (f := ad 3) (f' := adT ad (T_level g ad n w b1 b2 b3 b) 3) (w := w) (fun i => (cond_beq i n w (ad 3 i)))]), List.forall_mem_cons.mpr ⟨(by
    show (if 0 < 5 then some (cL g (lsN (st2 σ 2 0 (σ 2 0 + 1)) 0) (adT ad (T_level g ad n w b1 b2 b3 b) 2 0)) else none) = _
    rw [if_pos (by decide), hN]
    show some (Sum.inr (0, [.int (nI (n + 1)), .ref (if n + 1 = 0 then g.2.2.2 0 else b), .int (nI (n + 1))]) : va_E) = _
    rw [if_neg (Nat.succ_ne_zero n)]), List.forall_mem_cons.mpr ⟨((if_pos (show n < iN (σ 2 0 + 1) by rw [hu.2]; exact Nat.lt_succ_self n)).trans (by rw [show lvI (st2 σ 2 0 (σ 2 0 + 1)) n = fun _ => 0 from funext fun c => (show (if c < 32 then σ 1 (32 * n + c) else 0) = 0 by rw [z1]; exact ite_self _)])), List.forall_mem_cons.mpr ⟨((if_pos (show n < iN (σ 2 0 + 1) by rw [hu.2]; exact Nat.lt_succ_self n)).trans (by rw [show lvF (st2 σ 2 0 (σ 2 0 + 1)) n = fun _ => 0 from funext fun c => (show (if c < 32 then (if σ 0 (32 * n + c) < 0 then 0 else 16 * σ 0 (32 * n + c)) else 0) = 0 by rw [z0]; split <;> decide)])), List.forall_mem_cons.mpr ⟨((if_pos (show n < iN (σ 2 0 + 1) by rw [hu.2]; exact Nat.lt_succ_self n)).trans (by rw [show lvG (st2 σ 2 0 (σ 2 0 + 1)) n = fun _ => 0 from funext fun c => (show (if c < 32 then bI (σ 0 (32 * n + c) < 0) else 0) = 0 by rw [z0]; split <;> decide)])), List.forall_mem_cons.mpr ⟨((if_pos (show n < iN (σ 2 0 + 1) by rw [hu.2]; exact Nat.lt_succ_self n)).trans (by rw [show adT ad (T_level g ad n w b1 b2 b3 b) 4 n = b1 from (adT_in (ad := ad) (t := ((4, n), b1, sg_za g 32 (fun _ => 0))) hM (by simp [T_level])), show adT ad (T_level g ad n w b1 b2 b3 b) 5 n = b2 from (adT_in (ad := ad) (t := ((5, n), b2, sg_ia g 32 (fun _ => 0))) hM (by simp [T_level])), show adT ad (T_level g ad n w b1 b2 b3 b) 6 n = b3 from (adT_in (ad := ad) (t := ((6, n), b3, sg_ia g 32 (fun _ => 0))) hM (by simp [T_level]))])), fun _ h => absurd h List.not_mem_nil⟩⟩⟩⟩⟩⟩) (fun i k' hm => by
    rcases Nat.lt_or_ge i 20 with h20 | h20
    · match i, h20 with
      | 0, _ => exact hoL_0 hW hn k' hm
      | 1, _ => exact hoL_1 hW hn k' hm
      | 2, _ => exact hoL_2 hW hn k' hm
      | 3, _ => exact hoL_3 hW hn k' hm
      | 4, _ => exact hoL_4 hW hn k' hm
      | 5, _ => exact hoL_5 hW hn k' hm
      | 6, _ => exact hoL_6 hW hn k' hm
      | 7, _ => exact hoL_7 hW hn k' hm
      | 8, _ => exact hoL_8 hW hn k' hm
      | 9, _ => exact hoL_9 hW hn k' hm
      | 10, _ => exact hoL_10 hW hn k' hm
      | 11, _ => exact hoL_11 hW hn k' hm
      | 12, _ => exact hoL_12 hW hn k' hm
      | 13, _ => exact hoL_13 hW hn k' hm
      | 14, _ => exact hoL_14 hW hn k' hm
      | 15, _ => exact hoL_15 hW hn k' hm
      | 16, _ => exact hoL_16 hW hn k' hm
      | 17, _ => exact hoL_17 hW hn k' hm
      | 18, _ => exact hoL_18 hW hn k' hm
      | 19, _ => exact hoL_19 hW hn k' hm
      | n + 20, h => exact absurd h (by omega)
    · rw [cont_x i k' h20, cont_x i k' h20])
theorem ph_level (hQ : Pic g ad own gh σ C) (hW : WX σ) (hg : gOk gh) (h : ¬ σ 2 0 = 3) {w b1 b2 b3 b : Nat} (hw : C w = none) (h1 : C b1 = none) (h2 : C b2 = none) (h3 : C b3 = none) (hb : (b = ad 2 0 ∧ 0 < lsN σ 0) ∨ C b = none) (hnd : sg_nd [b, ad 1 0, b3, b2, b1, w]) :
    ¬ 0 < kLevel σ ∧ vLevel σ = nI (iN (σ 2 0)) ∧ PH g (ad 0 0) own C (fLevel σ) (sg_ov C ((T_level g ad (iN (σ 2 0)) w b1 b2 b3 b).map (fun t => t.2))) := by
  have hk : ¬ 0 < kLevel σ := by rw [show kLevel σ = 0 from if_neg h]; decide
  have hW2 := hW.fr (f42 (kLevel σ))
  have h4 := pic_level (hQ.fr hW (f42 (kLevel σ))) hW2 (n := iN (σ 2 0)) rfl hw h1 h2 h3 hb hnd
  refine ⟨hk, (if_neg hk).trans ?_, ?_⟩
  · rw [(nI_up hW.1.1 (by decide)).1]
    exact nI_pred _
  · rw [show fLevel σ = st2 (st2 σ 42 0 (kLevel σ)) 2 0 (σ 2 0 + 1) from if_neg hk]
    exact ⟨_, _, gh, h4.1, h4.2, hg, wx_level hW2 h, rfl⟩
end GROW
