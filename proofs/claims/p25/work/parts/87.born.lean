/-! a new gate -/
theorem nw_RL_10 : sg_NW RL 10 8 9 [.null, .null, .null, .null, .null, .int 0, .null, .null, .null] := ⟨RX7, TX7, tyX7, rfl, ti_8, tyX7_ok, (fun j hj => match j, hj with | 0, _ => rfl | 1, _ => rfl | 2, _ => rfl | 3, _ => rfl | 4, _ => rfl | 5, _ => rfl | 6, _ => rfl | 7, _ => rfl | 8, _ => rfl | n + 9, h => absurd h (by omega)), sg_mem (i := 49) (by decide +kernel) rfl, sg_mem (i := 50) (by decide +kernel) rfl, sg_mem (i := 26) (by decide +kernel) rfl⟩
theorem md_X7_init : sg_MD yX7_init cX7_init 1 none 0 := ⟨sg_mem (i := 53) (by decide +kernel) rfl, sg_mem (i := 26) (by decide +kernel) rfl, ⟨by decide, by decide⟩, by decide +kernel⟩
theorem ml_RL_109 : sg_ML RL 109 yX7_init := .inl (sg_mem (i := 51) (by decide +kernel) rfl)
theorem im_X7_init : Cond.instanceMethod yX7_init ∈ sg_T := sg_mem (i := 52) (by decide +kernel) rfl
theorem WX_0 : WX sg0 := by
  have h0 : iN (0 : Int32) = 0 := rfl
  have h : ∀ b : Nat, 0 < b → isN (0 : Int32) b := fun b hb => ⟨rfl, hb⟩
  refine ⟨⟨h _ (by decide), h _ (by decide), h _ (by decide), h _ (by decide), h _ (by decide), fun r hr => absurd hr (Nat.not_lt_zero r), fun _ => h _ (by decide), fun _ => h _ (by decide), fun r hr => absurd hr (Nat.not_lt_zero r), fun _ => h _ (by decide), fun r hr => absurd hr (Nat.not_lt_zero r), fun r hr => absurd hr (Nat.not_lt_zero r), fun r hr => absurd hr (Nat.not_lt_zero r)⟩, ⟨fun j k _ hj => absurd hj (Nat.not_lt_zero j), fun k hk => absurd hk (Nat.not_lt_zero k), by decide, by decide⟩, fun k j hk => absurd hk (Nat.not_lt_zero k), ⟨fun _ _ => ⟨rfl, rfl⟩, fun _ _ => ⟨rfl, rfl, rfl⟩, fun _ _ => rfl, fun _ _ => rfl, fun _ _ => rfl⟩, ⟨fun _ => .inl rfl, fun _ => .inl rfl⟩, fun _ => ⟨rfl, Nat.zero_le _⟩, fun r hr => absurd hr (Nat.not_lt_zero r)⟩
def ow0 (x0 b1 b2 b3 b4 b5 b6 b7 b8 : Nat) : Nat → Option (Nat × Nat) := fun a => if a = x0 then some (0, 0) else if a = b1 then some (1, 0) else if a = b2 then some (1, 1) else if a = b3 then some (1, 2) else if a = b4 then some (1, 3) else if a = b5 then some (1, 4) else if a = b6 then some (17, 0) else if a = b7 then some (18, 0) else if a = b8 then some (19, 0) else none
def ad0 (x0 b1 b2 b3 b4 b5 b6 b7 b8 : Nat) : Ad := fun i k => match i with
  | 0 => x0
  | 1 => (match k with
    | 0 => b1
    | 1 => b2
    | 2 => b3
    | 3 => b4
    | _ => b5)
  | 17 => b6
  | 18 => b7
  | _ => b8
theorem ow0_x0 {x0 b1 b2 b3 b4 b5 b6 b7 b8 : Nat} (hn : sg_nd [b8, b7, b6, b5, b4, b3, b2, b1, x0]) : ow0 x0 b1 b2 b3 b4 b5 b6 b7 b8 x0 = some (0, 0) := by
  obtain ⟨n8, n7, n6, n5, n4, n3, n2, n1, -, -⟩ := hn
  simp only [List.mem_cons, List.not_mem_nil, or_false, not_or] at n8 n7 n6 n5 n4 n3 n2 n1
  simp [ow0, n8, n7, n6, n5, n4, n3, n2, n1]
theorem ow0_b1 {x0 b1 b2 b3 b4 b5 b6 b7 b8 : Nat} (hn : sg_nd [b8, b7, b6, b5, b4, b3, b2, b1, x0]) : ow0 x0 b1 b2 b3 b4 b5 b6 b7 b8 b1 = some (1, 0) := by
  obtain ⟨n8, n7, n6, n5, n4, n3, n2, n1, -, -⟩ := hn
  simp only [List.mem_cons, List.not_mem_nil, or_false, not_or] at n8 n7 n6 n5 n4 n3 n2 n1
  simp [ow0, n8, n7, n6, n5, n4, n3, n2, n1]
theorem ow0_b2 {x0 b1 b2 b3 b4 b5 b6 b7 b8 : Nat} (hn : sg_nd [b8, b7, b6, b5, b4, b3, b2, b1, x0]) : ow0 x0 b1 b2 b3 b4 b5 b6 b7 b8 b2 = some (1, 1) := by
  obtain ⟨n8, n7, n6, n5, n4, n3, n2, n1, -, -⟩ := hn
  simp only [List.mem_cons, List.not_mem_nil, or_false, not_or] at n8 n7 n6 n5 n4 n3 n2 n1
  simp [ow0, n8, n7, n6, n5, n4, n3, n2, n1]
theorem ow0_b3 {x0 b1 b2 b3 b4 b5 b6 b7 b8 : Nat} (hn : sg_nd [b8, b7, b6, b5, b4, b3, b2, b1, x0]) : ow0 x0 b1 b2 b3 b4 b5 b6 b7 b8 b3 = some (1, 2) := by
  obtain ⟨n8, n7, n6, n5, n4, n3, n2, n1, -, -⟩ := hn
  simp only [List.mem_cons, List.not_mem_nil, or_false, not_or] at n8 n7 n6 n5 n4 n3 n2 n1
  simp [ow0, n8, n7, n6, n5, n4, n3, n2, n1]
theorem ow0_b4 {x0 b1 b2 b3 b4 b5 b6 b7 b8 : Nat} (hn : sg_nd [b8, b7, b6, b5, b4, b3, b2, b1, x0]) : ow0 x0 b1 b2 b3 b4 b5 b6 b7 b8 b4 = some (1, 3) := by
  obtain ⟨n8, n7, n6, n5, n4, n3, n2, n1, -, -⟩ := hn
  simp only [List.mem_cons, List.not_mem_nil, or_false, not_or] at n8 n7 n6 n5 n4 n3 n2 n1
  simp [ow0, n8, n7, n6, n5, n4, n3, n2, n1]
theorem ow0_b5 {x0 b1 b2 b3 b4 b5 b6 b7 b8 : Nat} (hn : sg_nd [b8, b7, b6, b5, b4, b3, b2, b1, x0]) : ow0 x0 b1 b2 b3 b4 b5 b6 b7 b8 b5 = some (1, 4) := by
  obtain ⟨n8, n7, n6, n5, n4, n3, n2, n1, -, -⟩ := hn
  simp only [List.mem_cons, List.not_mem_nil, or_false, not_or] at n8 n7 n6 n5 n4 n3 n2 n1
  simp [ow0, n8, n7, n6, n5, n4, n3, n2, n1]
theorem ow0_b6 {x0 b1 b2 b3 b4 b5 b6 b7 b8 : Nat} (hn : sg_nd [b8, b7, b6, b5, b4, b3, b2, b1, x0]) : ow0 x0 b1 b2 b3 b4 b5 b6 b7 b8 b6 = some (17, 0) := by
  obtain ⟨n8, n7, n6, n5, n4, n3, n2, n1, -, -⟩ := hn
  simp only [List.mem_cons, List.not_mem_nil, or_false, not_or] at n8 n7 n6 n5 n4 n3 n2 n1
  simp [ow0, n8, n7, n6, n5, n4, n3, n2, n1]
theorem ow0_b7 {x0 b1 b2 b3 b4 b5 b6 b7 b8 : Nat} (hn : sg_nd [b8, b7, b6, b5, b4, b3, b2, b1, x0]) : ow0 x0 b1 b2 b3 b4 b5 b6 b7 b8 b7 = some (18, 0) := by
  obtain ⟨n8, n7, n6, n5, n4, n3, n2, n1, -, -⟩ := hn
  simp only [List.mem_cons, List.not_mem_nil, or_false, not_or] at n8 n7 n6 n5 n4 n3 n2 n1
  simp [ow0, n8, n7, n6, n5, n4, n3, n2, n1]
theorem ow0_b8 {x0 b1 b2 b3 b4 b5 b6 b7 b8 : Nat} (hn : sg_nd [b8, b7, b6, b5, b4, b3, b2, b1, x0]) : ow0 x0 b1 b2 b3 b4 b5 b6 b7 b8 b8 = some (19, 0) := by
  obtain ⟨n8, n7, n6, n5, n4, n3, n2, n1, -, -⟩ := hn
  simp only [List.mem_cons, List.not_mem_nil, or_false, not_or] at n8 n7 n6 n5 n4 n3 n2 n1
  simp [ow0, n8, n7, n6, n5, n4, n3, n2, n1]
theorem ow0_n {g : sg_G} {C : Nat → Option va_E} {x0 b1 b2 b3 b4 b5 b6 b7 b8 a : Nat} (hC : ∀ z ∈ [x0, b1, b2, b3, b4, b5, b6, b7, b8], C z ≠ none) (ha : C a = none) : ow0 x0 b1 b2 b3 b4 b5 b6 b7 b8 a = none := by
  have hx : ∀ z ∈ [x0, b1, b2, b3, b4, b5, b6, b7, b8], a ≠ z := fun z hz q => hC z hz (q ▸ ha)
  simp only [List.forall_mem_cons] at hx
  obtain ⟨h0, h1, h2, h3, h4, h5, h6, h7, h8, -⟩ := hx
  simp [ow0, h0, h1, h2, h3, h4, h5, h6, h7, h8]
theorem no_c {x : va_E} {c : Prop} [Decidable c] {t : Option va_E} (hx : (if c then t else none) = some x) (h : ¬ c) : False := by
  rw [if_neg h] at hx
  cases hx
set_option maxHeartbeats 4000000 in
set_option maxRecDepth 100000 in
theorem Pic_0 {g : sg_G} {C : Nat → Option va_E} {x0 b1 b2 b3 b4 b5 b6 b7 b8 : Nat} (hn : sg_nd [b8, b7, b6, b5, b4, b3, b2, b1, x0]) (hx0 : C x0 = some (.inr (8, [.ref b1, .ref b2, .ref b3, .ref b4, .ref b5, .int 0, .ref b6, .ref b7, .ref b8]))) (hb1 : C b1 = some (.inr (0, [.int 0, .ref (g.2.2.2 0), .int 0]))) (hb2 : C b2 = some (.inr (0, [.int 0, .ref (g.2.2.2 0), .int 0]))) (hb3 : C b3 = some (.inr (0, [.int 0, .ref (g.2.2.2 0), .int 0]))) (hb4 : C b4 = some (.inr (0, [.int 0, .ref (g.2.2.2 0), .int 0]))) (hb5 : C b5 = some (.inr (0, [.int 0, .ref (g.2.2.2 0), .int 0]))) (hb6 : C b6 = some (.inr (2, hfs hz))) (hb7 : C b7 = some (sg_ia g 1024 (fun _ => 0))) (hb8 : C b8 = some (sg_ia g 1024 (fun _ => 0))) : Pic g (ad0 x0 b1 b2 b3 b4 b5 b6 b7 b8) (ow0 x0 b1 b2 b3 b4 b5 b6 b7 b8) (hz, (fun _ => 0), (fun _ => 0)) sg0 C := by
  intro i k x hx
  have hi : i < 20 := by
    refine Nat.not_le.mp fun hq => ?_
    obtain ⟨j, rfl⟩ := Nat.exists_eq_add_of_le' hq
    cases hx
  have his : i = 0 ∨ i = 1 ∨ i = 2 ∨ i = 3 ∨ i = 4 ∨ i = 5 ∨ i = 6 ∨ i = 7 ∨ i = 8 ∨ i = 9 ∨ i = 10 ∨ i = 11 ∨ i = 12 ∨ i = 13 ∨ i = 14 ∨ i = 15 ∨ i = 16 ∨ i = 17 ∨ i = 18 ∨ i = 19 := by omega
  rcases his with rfl | rfl | rfl | rfl | rfl | rfl | rfl | rfl | rfl | rfl | rfl | rfl | rfl | rfl | rfl | rfl | rfl | rfl | rfl | rfl
  · have hk : k = 0 := Decidable.byContradiction fun q => by
      have hx' : (if k = 0 then _ else none) = some x := hx
      rw [if_neg q] at hx'
      cases hx'
    subst hk
    cases hx
    exact ⟨hx0, ow0_x0 hn⟩
  · have hk : k < 5 := Decidable.byContradiction fun q => by
      have hx' : (if k < 5 then _ else none) = some x := hx
      rw [if_neg q] at hx'
      cases hx'
    have hks : k = 0 ∨ k = 1 ∨ k = 2 ∨ k = 3 ∨ k = 4 := by omega
    rcases hks with rfl | rfl | rfl | rfl | rfl
    · cases hx; exact ⟨hb1, ow0_b1 hn⟩
    · cases hx; exact ⟨hb2, ow0_b2 hn⟩
    · cases hx; exact ⟨hb3, ow0_b3 hn⟩
    · cases hx; exact ⟨hb4, ow0_b4 hn⟩
    · cases hx; exact ⟨hb5, ow0_b5 hn⟩
  · refine absurd hx ?_
    show ¬ (if k < 5 then cA g (lsN sg0 k) _ else none) = some x
    have h0 : lsN sg0 k = 0 := by unfold lsN; split <;> rfl
    rw [h0]
    split
    · exact fun q => by cases q
    · exact fun q => by cases q
  · simp only [cont] at hx; exact (no_c hx (fun q => Nat.not_lt_zero _ q)).elim
  · simp only [cont] at hx; exact (no_c hx (fun q => Nat.not_lt_zero _ q)).elim
  · simp only [cont] at hx; exact (no_c hx (fun q => Nat.not_lt_zero _ q)).elim
  · simp only [cont] at hx; exact (no_c hx (fun q => Nat.not_lt_zero _ q)).elim
  · simp only [cont] at hx; exact (no_c hx (fun q => Nat.not_lt_zero _ q)).elim
  · simp only [cont] at hx; exact (no_c hx (fun q => Nat.not_lt_zero _ q)).elim
  · simp only [cont] at hx; exact (no_c hx (fun q => Nat.not_lt_zero _ q)).elim
  · simp only [cont] at hx; exact (no_c hx (fun q => Nat.not_lt_zero _ q)).elim
  · simp only [cont] at hx; exact (no_c hx (fun q => Nat.not_lt_zero _ q)).elim
  · simp only [cont] at hx; exact (no_c hx (fun q => Nat.not_lt_zero _ q)).elim
  · simp only [cont] at hx; exact (no_c hx (fun q => Nat.not_lt_zero _ q)).elim
  · simp only [cont] at hx; exact (no_c hx (fun q => Nat.not_lt_zero _ q.1)).elim
  · simp only [cont] at hx; exact (no_c hx (fun q => Nat.not_lt_zero _ q)).elim
  · simp only [cont] at hx; exact (no_c hx (fun q => Nat.not_lt_zero _ q)).elim
  · have hk : k = 0 := Decidable.byContradiction fun q => by
      have hx' : (if k = 0 then _ else none) = some x := hx
      rw [if_neg q] at hx'
      cases hx'
    subst hk
    cases hx
    exact ⟨hb6, ow0_b6 hn⟩
  · have hk : k = 0 := Decidable.byContradiction fun q => by
      have hx' : (if k = 0 then _ else none) = some x := hx
      rw [if_neg q] at hx'
      cases hx'
    subst hk
    cases hx
    exact ⟨hb7, ow0_b7 hn⟩
  · have hk : k = 0 := Decidable.byContradiction fun q => by
      have hx' : (if k = 0 then _ else none) = some x := hx
      rw [if_neg q] at hx'
      cases hx'
    subst hk
    cases hx
    exact ⟨hb8, ow0_b8 hn⟩
set_option maxHeartbeats 4000000 in
set_option maxRecDepth 100000 in
theorem GK_0 {g : sg_G} {C : Nat → Option va_E} {x0 b1 b2 b3 b4 b5 b6 b7 b8 : Nat} (hn : sg_nd [b8, b7, b6, b5, b4, b3, b2, b1, x0]) : GK g x0 sg0 [] (sg_ov C [(b8, sg_ia g 1024 (fun _ => 0)), (b7, sg_ia g 1024 (fun _ => 0)), (b6, .inr (2, hfs hz)), (b5, .inr (0, [.int 0, .ref (g.2.2.2 0), .int 0])), (b4, .inr (0, [.int 0, .ref (g.2.2.2 0), .int 0])), (b3, .inr (0, [.int 0, .ref (g.2.2.2 0), .int 0])), (b2, .inr (0, [.int 0, .ref (g.2.2.2 0), .int 0])), (b1, .inr (0, [.int 0, .ref (g.2.2.2 0), .int 0])), (x0, .inr (8, [.ref b1, .ref b2, .ref b3, .ref b4, .ref b5, .int 0, .ref b6, .ref b7, .ref b8]))]) := by
  have h_b8 := sg_ov_at (C := C) (l := [(b8, sg_ia g 1024 (fun _ => 0)), (b7, sg_ia g 1024 (fun _ => 0)), (b6, .inr (2, hfs hz)), (b5, .inr (0, [.int 0, .ref (g.2.2.2 0), .int 0])), (b4, .inr (0, [.int 0, .ref (g.2.2.2 0), .int 0])), (b3, .inr (0, [.int 0, .ref (g.2.2.2 0), .int 0])), (b2, .inr (0, [.int 0, .ref (g.2.2.2 0), .int 0])), (b1, .inr (0, [.int 0, .ref (g.2.2.2 0), .int 0])), (x0, .inr (8, [.ref b1, .ref b2, .ref b3, .ref b4, .ref b5, .int 0, .ref b6, .ref b7, .ref b8]))]) hn (k := 0) rfl
  have h_b7 := sg_ov_at (C := C) (l := [(b8, sg_ia g 1024 (fun _ => 0)), (b7, sg_ia g 1024 (fun _ => 0)), (b6, .inr (2, hfs hz)), (b5, .inr (0, [.int 0, .ref (g.2.2.2 0), .int 0])), (b4, .inr (0, [.int 0, .ref (g.2.2.2 0), .int 0])), (b3, .inr (0, [.int 0, .ref (g.2.2.2 0), .int 0])), (b2, .inr (0, [.int 0, .ref (g.2.2.2 0), .int 0])), (b1, .inr (0, [.int 0, .ref (g.2.2.2 0), .int 0])), (x0, .inr (8, [.ref b1, .ref b2, .ref b3, .ref b4, .ref b5, .int 0, .ref b6, .ref b7, .ref b8]))]) hn (k := 1) rfl
  have h_b6 := sg_ov_at (C := C) (l := [(b8, sg_ia g 1024 (fun _ => 0)), (b7, sg_ia g 1024 (fun _ => 0)), (b6, .inr (2, hfs hz)), (b5, .inr (0, [.int 0, .ref (g.2.2.2 0), .int 0])), (b4, .inr (0, [.int 0, .ref (g.2.2.2 0), .int 0])), (b3, .inr (0, [.int 0, .ref (g.2.2.2 0), .int 0])), (b2, .inr (0, [.int 0, .ref (g.2.2.2 0), .int 0])), (b1, .inr (0, [.int 0, .ref (g.2.2.2 0), .int 0])), (x0, .inr (8, [.ref b1, .ref b2, .ref b3, .ref b4, .ref b5, .int 0, .ref b6, .ref b7, .ref b8]))]) hn (k := 2) rfl
  have h_b5 := sg_ov_at (C := C) (l := [(b8, sg_ia g 1024 (fun _ => 0)), (b7, sg_ia g 1024 (fun _ => 0)), (b6, .inr (2, hfs hz)), (b5, .inr (0, [.int 0, .ref (g.2.2.2 0), .int 0])), (b4, .inr (0, [.int 0, .ref (g.2.2.2 0), .int 0])), (b3, .inr (0, [.int 0, .ref (g.2.2.2 0), .int 0])), (b2, .inr (0, [.int 0, .ref (g.2.2.2 0), .int 0])), (b1, .inr (0, [.int 0, .ref (g.2.2.2 0), .int 0])), (x0, .inr (8, [.ref b1, .ref b2, .ref b3, .ref b4, .ref b5, .int 0, .ref b6, .ref b7, .ref b8]))]) hn (k := 3) rfl
  have h_b4 := sg_ov_at (C := C) (l := [(b8, sg_ia g 1024 (fun _ => 0)), (b7, sg_ia g 1024 (fun _ => 0)), (b6, .inr (2, hfs hz)), (b5, .inr (0, [.int 0, .ref (g.2.2.2 0), .int 0])), (b4, .inr (0, [.int 0, .ref (g.2.2.2 0), .int 0])), (b3, .inr (0, [.int 0, .ref (g.2.2.2 0), .int 0])), (b2, .inr (0, [.int 0, .ref (g.2.2.2 0), .int 0])), (b1, .inr (0, [.int 0, .ref (g.2.2.2 0), .int 0])), (x0, .inr (8, [.ref b1, .ref b2, .ref b3, .ref b4, .ref b5, .int 0, .ref b6, .ref b7, .ref b8]))]) hn (k := 4) rfl
  have h_b3 := sg_ov_at (C := C) (l := [(b8, sg_ia g 1024 (fun _ => 0)), (b7, sg_ia g 1024 (fun _ => 0)), (b6, .inr (2, hfs hz)), (b5, .inr (0, [.int 0, .ref (g.2.2.2 0), .int 0])), (b4, .inr (0, [.int 0, .ref (g.2.2.2 0), .int 0])), (b3, .inr (0, [.int 0, .ref (g.2.2.2 0), .int 0])), (b2, .inr (0, [.int 0, .ref (g.2.2.2 0), .int 0])), (b1, .inr (0, [.int 0, .ref (g.2.2.2 0), .int 0])), (x0, .inr (8, [.ref b1, .ref b2, .ref b3, .ref b4, .ref b5, .int 0, .ref b6, .ref b7, .ref b8]))]) hn (k := 5) rfl
  have h_b2 := sg_ov_at (C := C) (l := [(b8, sg_ia g 1024 (fun _ => 0)), (b7, sg_ia g 1024 (fun _ => 0)), (b6, .inr (2, hfs hz)), (b5, .inr (0, [.int 0, .ref (g.2.2.2 0), .int 0])), (b4, .inr (0, [.int 0, .ref (g.2.2.2 0), .int 0])), (b3, .inr (0, [.int 0, .ref (g.2.2.2 0), .int 0])), (b2, .inr (0, [.int 0, .ref (g.2.2.2 0), .int 0])), (b1, .inr (0, [.int 0, .ref (g.2.2.2 0), .int 0])), (x0, .inr (8, [.ref b1, .ref b2, .ref b3, .ref b4, .ref b5, .int 0, .ref b6, .ref b7, .ref b8]))]) hn (k := 6) rfl
  have h_b1 := sg_ov_at (C := C) (l := [(b8, sg_ia g 1024 (fun _ => 0)), (b7, sg_ia g 1024 (fun _ => 0)), (b6, .inr (2, hfs hz)), (b5, .inr (0, [.int 0, .ref (g.2.2.2 0), .int 0])), (b4, .inr (0, [.int 0, .ref (g.2.2.2 0), .int 0])), (b3, .inr (0, [.int 0, .ref (g.2.2.2 0), .int 0])), (b2, .inr (0, [.int 0, .ref (g.2.2.2 0), .int 0])), (b1, .inr (0, [.int 0, .ref (g.2.2.2 0), .int 0])), (x0, .inr (8, [.ref b1, .ref b2, .ref b3, .ref b4, .ref b5, .int 0, .ref b6, .ref b7, .ref b8]))]) hn (k := 7) rfl
  have h_x0 := sg_ov_at (C := C) (l := [(b8, sg_ia g 1024 (fun _ => 0)), (b7, sg_ia g 1024 (fun _ => 0)), (b6, .inr (2, hfs hz)), (b5, .inr (0, [.int 0, .ref (g.2.2.2 0), .int 0])), (b4, .inr (0, [.int 0, .ref (g.2.2.2 0), .int 0])), (b3, .inr (0, [.int 0, .ref (g.2.2.2 0), .int 0])), (b2, .inr (0, [.int 0, .ref (g.2.2.2 0), .int 0])), (b1, .inr (0, [.int 0, .ref (g.2.2.2 0), .int 0])), (x0, .inr (8, [.ref b1, .ref b2, .ref b3, .ref b4, .ref b5, .int 0, .ref b6, .ref b7, .ref b8]))]) hn (k := 8) rfl
  exact ⟨⟨ad0 x0 b1 b2 b3 b4 b5 b6 b7 b8, ow0 x0 b1 b2 b3 b4 b5 b6 b7 b8, (hz, (fun _ => 0), (fun _ => 0)), Pic_0 hn h_x0 h_b1 h_b2 h_b3 h_b4 h_b5 h_b6 h_b7 h_b8, ⟨rfl, rfl⟩, WX_0, rfl, fun a ha => absurd ha List.not_mem_nil⟩, fun z hz => absurd hz List.not_mem_nil, trivial⟩
theorem GK.swp {g : sg_G} {x0 : Nat} {σ : Mem} {K : va_W} {C : Nat → Option va_E} {a b : Nat × va_E} (h : GK g x0 σ (a :: b :: K) C) : GK g x0 σ (b :: a :: K) C := by
  obtain ⟨⟨ad, own, gh, hP, hg, hW, hx, ho⟩, h2, h3⟩ := h
  have hm : ∀ y : Nat × va_E, y ∈ b :: a :: K → y ∈ a :: b :: K := by
    intro y hy
    simp only [List.mem_cons] at hy ⊢
    rcases hy with h | h | h
    · exact .inr (.inl h)
    · exact .inl h
    · exact .inr (.inr h)
  refine ⟨⟨ad, own, gh, hP, hg, hW, hx, fun y hy => ?_⟩, fun y hy => h2 y (hm y hy), ?_⟩
  · obtain ⟨q, hq, rfl⟩ := List.mem_map.mp hy
    exact ho _ (List.mem_map.mpr ⟨q, hm q hq, rfl⟩)
  · obtain ⟨n1, n2, n3⟩ := h3
    simp only [List.map_cons, List.mem_cons, not_or] at n1
    refine ⟨?_, n1.2, n3⟩
    simp only [List.map_cons, List.mem_cons, not_or]
    exact ⟨fun q => n1.1 q.symm, n2⟩

