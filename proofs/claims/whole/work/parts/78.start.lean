/-! the law's start -/

theorem nw_RL_8 : sg_NW RL 8 8 9 [.null, .null, .null, .null, .null, .int 0, .null, .null, .null] := ⟨RX7, TX7, tyX7, rfl, ti_8, tyX7_ok, (fun j hj => match j, hj with | 0, _ => rfl | 1, _ => rfl | 2, _ => rfl | 3, _ => rfl | 4, _ => rfl | 5, _ => rfl | 6, _ => rfl | 7, _ => rfl | 8, _ => rfl | n + 9, h => absurd h (by omega)), sg_mem (i := 78) (by decide +kernel) rfl, sg_mem (i := 79) (by decide +kernel) rfl, sg_mem (i := 54) (by decide +kernel) rfl⟩
theorem nw_RL_89 : sg_NW RL 89 9 43 (pfs bl9) := ⟨RX8, TX8, tyX8, rfl, ti_9, tyX8_ok, (fun j hj => match j, hj with | 0, _ => rfl | 1, _ => rfl | 2, _ => rfl | 3, _ => rfl | 4, _ => rfl | 5, _ => rfl | 6, _ => rfl | 7, _ => rfl | 8, _ => rfl | 9, _ => rfl | 10, _ => rfl | 11, _ => rfl | 12, _ => rfl | 13, _ => rfl | 14, _ => rfl | 15, _ => rfl | 16, _ => rfl | 17, _ => rfl | 18, _ => rfl | 19, _ => rfl | 20, _ => rfl | 21, _ => rfl | 22, _ => rfl | 23, _ => rfl | 24, _ => rfl | 25, _ => rfl | 26, _ => rfl | 27, _ => rfl | 28, _ => rfl | 29, _ => rfl | 30, _ => rfl | 31, _ => rfl | 32, _ => rfl | 33, _ => rfl | 34, _ => rfl | 35, _ => rfl | 36, _ => rfl | 37, _ => rfl | 38, _ => rfl | 39, _ => rfl | 40, _ => rfl | 41, _ => rfl | 42, _ => rfl | n + 43, h => absurd h (by omega)), sg_mem (i := 858) (by decide +kernel) rfl, sg_mem (i := 859) (by decide +kernel) rfl, sg_mem (i := 59) (by decide +kernel) rfl⟩
theorem ac_long : Cond.arrayClass .long ∈ sg_T := sg_mem (i := 1198) (by decide +kernel) rfl
theorem md_X7_init : sg_MD yX7_init cX7_init 1 none 0 := ⟨sg_mem (i := 82) (by decide +kernel) rfl, sg_mem (i := 54) (by decide +kernel) rfl, ⟨by decide, by decide⟩, by decide +kernel⟩
theorem md_X8_init : sg_MD yX8_init cX8_init 1 none 0 := ⟨sg_mem (i := 862) (by decide +kernel) rfl, sg_mem (i := 59) (by decide +kernel) rfl, ⟨by decide, by decide⟩, by decide +kernel⟩
theorem ml_RL_88 : sg_ML RL 88 yX7_init := .inl (sg_mem (i := 80) (by decide +kernel) rfl)
theorem ml_RL_91 : sg_ML RL 91 yX8_init := .inl (sg_mem (i := 860) (by decide +kernel) rfl)
theorem im_X7_init : Cond.instanceMethod yX7_init ∈ sg_T := sg_mem (i := 81) (by decide +kernel) rfl
theorem im_X8_init : Cond.instanceMethod yX8_init ∈ sg_T := sg_mem (i := 861) (by decide +kernel) rfl
def sg0 : Mem := fun _ _ => 0
theorem WX_0 : WX sg0 := by
  have h0 : iN (0 : Int32) = 0 := rfl
  have h : ∀ b : Nat, 0 < b → isN (0 : Int32) b := fun b hb => ⟨rfl, hb⟩
  refine ⟨⟨h _ (by decide), h _ (by decide), h _ (by decide), h _ (by decide), h _ (by decide), fun r hr => absurd hr (Nat.not_lt_zero r), fun _ => h _ (by decide), fun _ => h _ (by decide), fun r hr => absurd hr (Nat.not_lt_zero r), fun _ => h _ (by decide), fun r hr => absurd hr (Nat.not_lt_zero r), fun r hr => absurd hr (Nat.not_lt_zero r), fun r hr => absurd hr (Nat.not_lt_zero r)⟩, ⟨fun j k _ hj => absurd hj (Nat.not_lt_zero j), fun k hk => absurd hk (Nat.not_lt_zero k), by decide, by decide⟩, fun k j hk => absurd hk (Nat.not_lt_zero k), ⟨fun _ _ => ⟨rfl, rfl⟩, fun _ _ => ⟨rfl, rfl, rfl⟩, fun _ _ => rfl, fun _ _ => rfl, fun _ _ => rfl⟩, ⟨fun _ => .inl rfl, fun _ => .inl rfl⟩, fun _ => ⟨rfl, Nat.zero_le _⟩, fun r hr => absurd hr (Nat.not_lt_zero r)⟩
def ow0 (x0 b1 b2 b3 b4 b5 b6 b7 b8 : Nat) : Nat → Option (Nat × Nat) := fun a => if a = x0 then some (0, 0) else if a = b1 then some (1, 0) else if a = b2 then some (1, 1) else if a = b3 then some (1, 2) else if a = b4 then some (1, 3) else if a = b5 then some (1, 4) else if a = b6 then some (17, 0) else if a = b7 then some (18, 0) else if a = b8 then some (19, 0) else none
def ad0 (x0 b1 b2 b3 b4 b5 b6 b7 b8 : Nat) : Ad := fun i k => match i with
  | 0 => x0
  | 1 => (match k with
    | 0 => b1
    | 1 => b2
    | 2 => b3
    | 3 => b4
    | _ => b5)
  | 17 => b6
  | 18 => b7
  | _ => b8
theorem ow0_x0 {x0 b1 b2 b3 b4 b5 b6 b7 b8 : Nat} (hn : sg_nd [b8, b7, b6, b5, b4, b3, b2, b1, x0]) : ow0 x0 b1 b2 b3 b4 b5 b6 b7 b8 x0 = some (0, 0) := by
  obtain ⟨n8, n7, n6, n5, n4, n3, n2, n1, -, -⟩ := hn
  simp only [List.mem_cons, List.not_mem_nil, or_false, not_or] at n8 n7 n6 n5 n4 n3 n2 n1
  simp [ow0, n8, n7, n6, n5, n4, n3, n2, n1]
theorem ow0_b1 {x0 b1 b2 b3 b4 b5 b6 b7 b8 : Nat} (hn : sg_nd [b8, b7, b6, b5, b4, b3, b2, b1, x0]) : ow0 x0 b1 b2 b3 b4 b5 b6 b7 b8 b1 = some (1, 0) := by
  obtain ⟨n8, n7, n6, n5, n4, n3, n2, n1, -, -⟩ := hn
  simp only [List.mem_cons, List.not_mem_nil, or_false, not_or] at n8 n7 n6 n5 n4 n3 n2 n1
  simp [ow0, n8, n7, n6, n5, n4, n3, n2, n1]
theorem ow0_b2 {x0 b1 b2 b3 b4 b5 b6 b7 b8 : Nat} (hn : sg_nd [b8, b7, b6, b5, b4, b3, b2, b1, x0]) : ow0 x0 b1 b2 b3 b4 b5 b6 b7 b8 b2 = some (1, 1) := by
  obtain ⟨n8, n7, n6, n5, n4, n3, n2, n1, -, -⟩ := hn
  simp only [List.mem_cons, List.not_mem_nil, or_false, not_or] at n8 n7 n6 n5 n4 n3 n2 n1
  simp [ow0, n8, n7, n6, n5, n4, n3, n2, n1]
theorem ow0_b3 {x0 b1 b2 b3 b4 b5 b6 b7 b8 : Nat} (hn : sg_nd [b8, b7, b6, b5, b4, b3, b2, b1, x0]) : ow0 x0 b1 b2 b3 b4 b5 b6 b7 b8 b3 = some (1, 2) := by
  obtain ⟨n8, n7, n6, n5, n4, n3, n2, n1, -, -⟩ := hn
  simp only [List.mem_cons, List.not_mem_nil, or_false, not_or] at n8 n7 n6 n5 n4 n3 n2 n1
  simp [ow0, n8, n7, n6, n5, n4, n3, n2, n1]
theorem ow0_b4 {x0 b1 b2 b3 b4 b5 b6 b7 b8 : Nat} (hn : sg_nd [b8, b7, b6, b5, b4, b3, b2, b1, x0]) : ow0 x0 b1 b2 b3 b4 b5 b6 b7 b8 b4 = some (1, 3) := by
  obtain ⟨n8, n7, n6, n5, n4, n3, n2, n1, -, -⟩ := hn
  simp only [List.mem_cons, List.not_mem_nil, or_false, not_or] at n8 n7 n6 n5 n4 n3 n2 n1
  simp [ow0, n8, n7, n6, n5, n4, n3, n2, n1]
theorem ow0_b5 {x0 b1 b2 b3 b4 b5 b6 b7 b8 : Nat} (hn : sg_nd [b8, b7, b6, b5, b4, b3, b2, b1, x0]) : ow0 x0 b1 b2 b3 b4 b5 b6 b7 b8 b5 = some (1, 4) := by
  obtain ⟨n8, n7, n6, n5, n4, n3, n2, n1, -, -⟩ := hn
  simp only [List.mem_cons, List.not_mem_nil, or_false, not_or] at n8 n7 n6 n5 n4 n3 n2 n1
  simp [ow0, n8, n7, n6, n5, n4, n3, n2, n1]
theorem ow0_b6 {x0 b1 b2 b3 b4 b5 b6 b7 b8 : Nat} (hn : sg_nd [b8, b7, b6, b5, b4, b3, b2, b1, x0]) : ow0 x0 b1 b2 b3 b4 b5 b6 b7 b8 b6 = some (17, 0) := by
  obtain ⟨n8, n7, n6, n5, n4, n3, n2, n1, -, -⟩ := hn
  simp only [List.mem_cons, List.not_mem_nil, or_false, not_or] at n8 n7 n6 n5 n4 n3 n2 n1
  simp [ow0, n8, n7, n6, n5, n4, n3, n2, n1]
theorem ow0_b7 {x0 b1 b2 b3 b4 b5 b6 b7 b8 : Nat} (hn : sg_nd [b8, b7, b6, b5, b4, b3, b2, b1, x0]) : ow0 x0 b1 b2 b3 b4 b5 b6 b7 b8 b7 = some (18, 0) := by
  obtain ⟨n8, n7, n6, n5, n4, n3, n2, n1, -, -⟩ := hn
  simp only [List.mem_cons, List.not_mem_nil, or_false, not_or] at n8 n7 n6 n5 n4 n3 n2 n1
  simp [ow0, n8, n7, n6, n5, n4, n3, n2, n1]
theorem ow0_b8 {x0 b1 b2 b3 b4 b5 b6 b7 b8 : Nat} (hn : sg_nd [b8, b7, b6, b5, b4, b3, b2, b1, x0]) : ow0 x0 b1 b2 b3 b4 b5 b6 b7 b8 b8 = some (19, 0) := by
  obtain ⟨n8, n7, n6, n5, n4, n3, n2, n1, -, -⟩ := hn
  simp only [List.mem_cons, List.not_mem_nil, or_false, not_or] at n8 n7 n6 n5 n4 n3 n2 n1
  simp [ow0, n8, n7, n6, n5, n4, n3, n2, n1]
theorem ow0_n {g : sg_G} {C : Nat → Option va_E} {x0 b1 b2 b3 b4 b5 b6 b7 b8 a : Nat} (hC : ∀ z ∈ [x0, b1, b2, b3, b4, b5, b6, b7, b8], C z ≠ none) (ha : C a = none) : ow0 x0 b1 b2 b3 b4 b5 b6 b7 b8 a = none := by
  have hx : ∀ z ∈ [x0, b1, b2, b3, b4, b5, b6, b7, b8], a ≠ z := fun z hz q => hC z hz (q ▸ ha)
  simp only [List.forall_mem_cons] at hx
  obtain ⟨h0, h1, h2, h3, h4, h5, h6, h7, h8, -⟩ := hx
  simp [ow0, h0, h1, h2, h3, h4, h5, h6, h7, h8]
theorem no_c {x : va_E} {c : Prop} [Decidable c] {t : Option va_E} (hx : (if c then t else none) = some x) (h : ¬ c) : False := by
  rw [if_neg h] at hx
  cases hx
set_option maxHeartbeats 4000000 in
set_option maxRecDepth 100000 in
theorem Pic_0 {g : sg_G} {C : Nat → Option va_E} {x0 b1 b2 b3 b4 b5 b6 b7 b8 : Nat} (hn : sg_nd [b8, b7, b6, b5, b4, b3, b2, b1, x0]) (hx0 : C x0 = some (.inr (8, [.ref b1, .ref b2, .ref b3, .ref b4, .ref b5, .int 0, .ref b6, .ref b7, .ref b8]))) (hb1 : C b1 = some (.inr (0, [.int 0, .ref (g.2.2.2 0), .int 0]))) (hb2 : C b2 = some (.inr (0, [.int 0, .ref (g.2.2.2 0), .int 0]))) (hb3 : C b3 = some (.inr (0, [.int 0, .ref (g.2.2.2 0), .int 0]))) (hb4 : C b4 = some (.inr (0, [.int 0, .ref (g.2.2.2 0), .int 0]))) (hb5 : C b5 = some (.inr (0, [.int 0, .ref (g.2.2.2 0), .int 0]))) (hb6 : C b6 = some (.inr (2, hfs hz))) (hb7 : C b7 = some (sg_ia g 1024 (fun _ => 0))) (hb8 : C b8 = some (sg_ia g 1024 (fun _ => 0))) : Pic g (ad0 x0 b1 b2 b3 b4 b5 b6 b7 b8) (ow0 x0 b1 b2 b3 b4 b5 b6 b7 b8) (hz, (fun _ => 0), (fun _ => 0)) sg0 C := by
  intro i k x hx
  have hi : i < 20 := by
    refine Nat.not_le.mp fun hq => ?_
    obtain ⟨j, rfl⟩ := Nat.exists_eq_add_of_le' hq
    cases hx
  have his : i = 0 ∨ i = 1 ∨ i = 2 ∨ i = 3 ∨ i = 4 ∨ i = 5 ∨ i = 6 ∨ i = 7 ∨ i = 8 ∨ i = 9 ∨ i = 10 ∨ i = 11 ∨ i = 12 ∨ i = 13 ∨ i = 14 ∨ i = 15 ∨ i = 16 ∨ i = 17 ∨ i = 18 ∨ i = 19 := by omega
  rcases his with rfl | rfl | rfl | rfl | rfl | rfl | rfl | rfl | rfl | rfl | rfl | rfl | rfl | rfl | rfl | rfl | rfl | rfl | rfl | rfl
  · have hk : k = 0 := Decidable.byContradiction fun q => by
      have hx' : (if k = 0 then _ else none) = some x := hx
      rw [if_neg q] at hx'
      cases hx'
    subst hk
    cases hx
    exact ⟨hx0, ow0_x0 hn⟩
  · have hk : k < 5 := Decidable.byContradiction fun q => by
      have hx' : (if k < 5 then _ else none) = some x := hx
      rw [if_neg q] at hx'
      cases hx'
    have hks : k = 0 ∨ k = 1 ∨ k = 2 ∨ k = 3 ∨ k = 4 := by omega
    rcases hks with rfl | rfl | rfl | rfl | rfl
    · cases hx; exact ⟨hb1, ow0_b1 hn⟩
    · cases hx; exact ⟨hb2, ow0_b2 hn⟩
    · cases hx; exact ⟨hb3, ow0_b3 hn⟩
    · cases hx; exact ⟨hb4, ow0_b4 hn⟩
    · cases hx; exact ⟨hb5, ow0_b5 hn⟩
  · refine absurd hx ?_
    show ¬ (if k < 5 then cA g (lsN sg0 k) _ else none) = some x
    have h0 : lsN sg0 k = 0 := by unfold lsN; split <;> rfl
    rw [h0]
    split
    · exact fun q => by cases q
    · exact fun q => by cases q
  · simp only [cont] at hx; exact (no_c hx (fun q => Nat.not_lt_zero _ q)).elim
  · simp only [cont] at hx; exact (no_c hx (fun q => Nat.not_lt_zero _ q)).elim
  · simp only [cont] at hx; exact (no_c hx (fun q => Nat.not_lt_zero _ q)).elim
  · simp only [cont] at hx; exact (no_c hx (fun q => Nat.not_lt_zero _ q)).elim
  · simp only [cont] at hx; exact (no_c hx (fun q => Nat.not_lt_zero _ q)).elim
  · simp only [cont] at hx; exact (no_c hx (fun q => Nat.not_lt_zero _ q)).elim
  · simp only [cont] at hx; exact (no_c hx (fun q => Nat.not_lt_zero _ q)).elim
  · simp only [cont] at hx; exact (no_c hx (fun q => Nat.not_lt_zero _ q)).elim
  · simp only [cont] at hx; exact (no_c hx (fun q => Nat.not_lt_zero _ q)).elim
  · simp only [cont] at hx; exact (no_c hx (fun q => Nat.not_lt_zero _ q)).elim
  · simp only [cont] at hx; exact (no_c hx (fun q => Nat.not_lt_zero _ q)).elim
  · simp only [cont] at hx; exact (no_c hx (fun q => Nat.not_lt_zero _ q.1)).elim
  · simp only [cont] at hx; exact (no_c hx (fun q => Nat.not_lt_zero _ q)).elim
  · simp only [cont] at hx; exact (no_c hx (fun q => Nat.not_lt_zero _ q)).elim
  · have hk : k = 0 := Decidable.byContradiction fun q => by
      have hx' : (if k = 0 then _ else none) = some x := hx
      rw [if_neg q] at hx'
      cases hx'
    subst hk
    cases hx
    exact ⟨hb6, ow0_b6 hn⟩
  · have hk : k = 0 := Decidable.byContradiction fun q => by
      have hx' : (if k = 0 then _ else none) = some x := hx
      rw [if_neg q] at hx'
      cases hx'
    subst hk
    cases hx
    exact ⟨hb7, ow0_b7 hn⟩
  · have hk : k = 0 := Decidable.byContradiction fun q => by
      have hx' : (if k = 0 then _ else none) = some x := hx
      rw [if_neg q] at hx'
      cases hx'
    subst hk
    cases hx
    exact ⟨hb8, ow0_b8 hn⟩
set_option maxHeartbeats 4000000 in
set_option maxRecDepth 100000 in
theorem mW_in {g : sg_G} {C : Nat → Option va_E} {m0 : Nat} {q : Nat → Nat} (hn : sg_nd [q 29, q 28, q 27, q 25, q 24, q 23, q 22, q 21, q 20, q 19, q 18, q 17, q 15, q 14, q 13, q 12, q 11, q 10, q 8, q 7, q 6, q 5, q 4, q 3, q 1, q 0, m0]) : ∀ z ∈ mW g m0 q sg0, sg_ov C [(q 29, sg_ia g 10 (fun _ => 0)), (q 28, sg_ia g 10 (fun _ => 0)), (q 27, sg_ia g 10 (fun _ => 0)), (q 25, sg_ia g 40 (fun _ => 0)), (q 24, sg_ia g 40 (fun _ => 0)), (q 23, sg_ia g 40 (fun _ => 0)), (q 22, sg_ia g 40 (fun _ => 0)), (q 21, sg_ia g 40 (fun _ => 0)), (q 20, sg_ia g 40 (fun _ => 0)), (q 19, sg_ia g 40 (fun _ => 0)), (q 18, sg_ia g 40 (fun _ => 0)), (q 17, sg_ia g 40 (fun _ => 0)), (q 15, sg_ia g 60 (fun _ => 0)), (q 14, sg_ia g 60 (fun _ => 0)), (q 13, sg_ia g 60 (fun _ => 0)), (q 12, sg_ia g 60 (fun _ => 0)), (q 11, sg_ia g 6 (fun _ => 0)), (q 10, sg_ia g 6 (fun _ => 0)), (q 8, sg_ia g 400 (fun _ => 0)), (q 7, sg_ia g 400 (fun _ => 0)), (q 6, sg_ia g 20 (fun _ => 0)), (q 5, sg_ia g 20 (fun _ => 0)), (q 4, sg_ia g 20 (fun _ => 0)), (q 3, sg_ia g 20 (fun _ => 0)), (q 1, sg_ia g 96 (fun _ => 0)), (q 0, sg_ia g 96 (fun _ => 0)), (m0, .inr (9, [.ref (q 0), .ref (q 1), .int 0, .ref (q 3), .ref (q 4), .ref (q 5), .ref (q 6), .ref (q 7), .ref (q 8), .int 0, .ref (q 10), .ref (q 11), .ref (q 12), .ref (q 13), .ref (q 14), .ref (q 15), .int 0, .ref (q 17), .ref (q 18), .ref (q 19), .ref (q 20), .ref (q 21), .ref (q 22), .ref (q 23), .ref (q 24), .ref (q 25), .int 0, .ref (q 27), .ref (q 28), .ref (q 29), .int 0, .int 0, .int 0, .int 0, .int 0, .int 0, .int 0, .int 0, .int 0, .int 0, .int 0, .int 0, .int 0]))] z.1 = some z.2 := by
  exact List.forall_mem_cons.mpr ⟨sg_ov_at (k := 26) hn rfl, List.forall_mem_cons.mpr ⟨sg_ov_at (k := 25) hn rfl, List.forall_mem_cons.mpr ⟨sg_ov_at (k := 24) hn rfl, List.forall_mem_cons.mpr ⟨sg_ov_at (k := 23) hn rfl, List.forall_mem_cons.mpr ⟨sg_ov_at (k := 22) hn rfl, List.forall_mem_cons.mpr ⟨sg_ov_at (k := 21) hn rfl, List.forall_mem_cons.mpr ⟨sg_ov_at (k := 20) hn rfl, List.forall_mem_cons.mpr ⟨sg_ov_at (k := 19) hn rfl, List.forall_mem_cons.mpr ⟨sg_ov_at (k := 18) hn rfl, List.forall_mem_cons.mpr ⟨sg_ov_at (k := 17) hn rfl, List.forall_mem_cons.mpr ⟨sg_ov_at (k := 16) hn rfl, List.forall_mem_cons.mpr ⟨sg_ov_at (k := 15) hn rfl, List.forall_mem_cons.mpr ⟨sg_ov_at (k := 14) hn rfl, List.forall_mem_cons.mpr ⟨sg_ov_at (k := 13) hn rfl, List.forall_mem_cons.mpr ⟨sg_ov_at (k := 12) hn rfl, List.forall_mem_cons.mpr ⟨sg_ov_at (k := 11) hn rfl, List.forall_mem_cons.mpr ⟨sg_ov_at (k := 10) hn rfl, List.forall_mem_cons.mpr ⟨sg_ov_at (k := 9) hn rfl, List.forall_mem_cons.mpr ⟨sg_ov_at (k := 8) hn rfl, List.forall_mem_cons.mpr ⟨sg_ov_at (k := 7) hn rfl, List.forall_mem_cons.mpr ⟨sg_ov_at (k := 6) hn rfl, List.forall_mem_cons.mpr ⟨sg_ov_at (k := 5) hn rfl, List.forall_mem_cons.mpr ⟨sg_ov_at (k := 4) hn rfl, List.forall_mem_cons.mpr ⟨sg_ov_at (k := 3) hn rfl, List.forall_mem_cons.mpr ⟨sg_ov_at (k := 2) hn rfl, List.forall_mem_cons.mpr ⟨sg_ov_at (k := 1) hn rfl, List.forall_mem_cons.mpr ⟨sg_ov_at (k := 0) hn rfl, fun _ h => absurd h List.not_mem_nil⟩⟩⟩⟩⟩⟩⟩⟩⟩⟩⟩⟩⟩⟩⟩⟩⟩⟩⟩⟩⟩⟩⟩⟩⟩⟩⟩
set_option maxHeartbeats 4000000 in
set_option maxRecDepth 100000 in
theorem k_start {p : Program} {l : Launch} {e : Env} {s : State} {m : MethodId} {below : List Frame} {meth : Method} {c : Code} {Q : State → Prop} {g : sg_G} {b L : Nat} {xs : Nat → Int32} (hc : sg_Cx p s m #[.ref b] c cL_law 7 RL g) (hgs : g.2.2.1 = s.heap) (hX : va_X b L xs s s.heap) (hbl : b < s.heap.size) (hst : l.stackTraces = false) (hL : L ≤ 3072) (kend : ∀ (C : Nat → Option va_E) (lv : List (Nat × Value)) (k n : Nat), k ≤ 601024 → n ≤ 7293033 → sg_W p l e room_1 s m #[.ref b] below meth c 7 g k n Q C 1585 lv []) : sg_W p l e room_1 s m #[.ref b] below meth c 7 g 0 0 Q (fun _ => none) 0 [(0, .ref b)] [] := by
  show sg_W p l e room_1 s m #[.ref b] below meth c 7 g 0 0 Q (fun _ => none) 0 [(0, .ref b)] []
  refine sw_new (pc := 0) hc nw_RL_8 ⟨(by decide), (by decide)⟩ dL_law_0 (fun x0 hx0 => ?_)
  refine sw_dup (pc := 3) hc dL_law_3 rfl ?_
  refine sw_callI (pc := 4) (rest := [.ref x0]) hc (c_X7_init l g _ x0 sg_up_s) md_X7_init ml_RL_88 im_X7_init rfl rfl rfl (Nat.le_of_ble_eq_true rfl) dL_law_4 ⟨Nat.le_of_ble_eq_true rfl, Nat.le_of_ble_eq_true rfl, (by decide), (by decide)⟩ (fun v C2 hP => ?_) (fun _ _ h => h.elim)
  obtain ⟨rfl, b1, b2, b3, b4, b5, b6, b7, b8, -, -, -, -, -, -, -, -, hn1, hC2⟩ := hP
  refine sw_st (st' := [.ref x0]) rfl ?_
  have hb8 : C2 b8 = some (sg_ia g 1024 (fun _ => 0)) := by rw [hC2]; exact sg_ov_at (l := [(b8, sg_ia g 1024 (fun _ => 0)), (b7, sg_ia g 1024 (fun _ => 0)), (b6, .inr (2, hfs hz)), (b5, .inr (0, [.int 0, .ref (g.2.2.2 0), .int 0])), (b4, .inr (0, [.int 0, .ref (g.2.2.2 0), .int 0])), (b3, .inr (0, [.int 0, .ref (g.2.2.2 0), .int 0])), (b2, .inr (0, [.int 0, .ref (g.2.2.2 0), .int 0])), (b1, .inr (0, [.int 0, .ref (g.2.2.2 0), .int 0])), (x0, .inr (8, [.ref b1, .ref b2, .ref b3, .ref b4, .ref b5, .int 0, .ref b6, .ref b7, .ref b8]))]) hn1 (k := 0) rfl
  have hb7 : C2 b7 = some (sg_ia g 1024 (fun _ => 0)) := by rw [hC2]; exact sg_ov_at (l := [(b8, sg_ia g 1024 (fun _ => 0)), (b7, sg_ia g 1024 (fun _ => 0)), (b6, .inr (2, hfs hz)), (b5, .inr (0, [.int 0, .ref (g.2.2.2 0), .int 0])), (b4, .inr (0, [.int 0, .ref (g.2.2.2 0), .int 0])), (b3, .inr (0, [.int 0, .ref (g.2.2.2 0), .int 0])), (b2, .inr (0, [.int 0, .ref (g.2.2.2 0), .int 0])), (b1, .inr (0, [.int 0, .ref (g.2.2.2 0), .int 0])), (x0, .inr (8, [.ref b1, .ref b2, .ref b3, .ref b4, .ref b5, .int 0, .ref b6, .ref b7, .ref b8]))]) hn1 (k := 1) rfl
  have hb6 : C2 b6 = some (.inr (2, hfs hz)) := by rw [hC2]; exact sg_ov_at (l := [(b8, sg_ia g 1024 (fun _ => 0)), (b7, sg_ia g 1024 (fun _ => 0)), (b6, .inr (2, hfs hz)), (b5, .inr (0, [.int 0, .ref (g.2.2.2 0), .int 0])), (b4, .inr (0, [.int 0, .ref (g.2.2.2 0), .int 0])), (b3, .inr (0, [.int 0, .ref (g.2.2.2 0), .int 0])), (b2, .inr (0, [.int 0, .ref (g.2.2.2 0), .int 0])), (b1, .inr (0, [.int 0, .ref (g.2.2.2 0), .int 0])), (x0, .inr (8, [.ref b1, .ref b2, .ref b3, .ref b4, .ref b5, .int 0, .ref b6, .ref b7, .ref b8]))]) hn1 (k := 2) rfl
  have hb5 : C2 b5 = some (.inr (0, [.int 0, .ref (g.2.2.2 0), .int 0])) := by rw [hC2]; exact sg_ov_at (l := [(b8, sg_ia g 1024 (fun _ => 0)), (b7, sg_ia g 1024 (fun _ => 0)), (b6, .inr (2, hfs hz)), (b5, .inr (0, [.int 0, .ref (g.2.2.2 0), .int 0])), (b4, .inr (0, [.int 0, .ref (g.2.2.2 0), .int 0])), (b3, .inr (0, [.int 0, .ref (g.2.2.2 0), .int 0])), (b2, .inr (0, [.int 0, .ref (g.2.2.2 0), .int 0])), (b1, .inr (0, [.int 0, .ref (g.2.2.2 0), .int 0])), (x0, .inr (8, [.ref b1, .ref b2, .ref b3, .ref b4, .ref b5, .int 0, .ref b6, .ref b7, .ref b8]))]) hn1 (k := 3) rfl
  have hb4 : C2 b4 = some (.inr (0, [.int 0, .ref (g.2.2.2 0), .int 0])) := by rw [hC2]; exact sg_ov_at (l := [(b8, sg_ia g 1024 (fun _ => 0)), (b7, sg_ia g 1024 (fun _ => 0)), (b6, .inr (2, hfs hz)), (b5, .inr (0, [.int 0, .ref (g.2.2.2 0), .int 0])), (b4, .inr (0, [.int 0, .ref (g.2.2.2 0), .int 0])), (b3, .inr (0, [.int 0, .ref (g.2.2.2 0), .int 0])), (b2, .inr (0, [.int 0, .ref (g.2.2.2 0), .int 0])), (b1, .inr (0, [.int 0, .ref (g.2.2.2 0), .int 0])), (x0, .inr (8, [.ref b1, .ref b2, .ref b3, .ref b4, .ref b5, .int 0, .ref b6, .ref b7, .ref b8]))]) hn1 (k := 4) rfl
  have hb3 : C2 b3 = some (.inr (0, [.int 0, .ref (g.2.2.2 0), .int 0])) := by rw [hC2]; exact sg_ov_at (l := [(b8, sg_ia g 1024 (fun _ => 0)), (b7, sg_ia g 1024 (fun _ => 0)), (b6, .inr (2, hfs hz)), (b5, .inr (0, [.int 0, .ref (g.2.2.2 0), .int 0])), (b4, .inr (0, [.int 0, .ref (g.2.2.2 0), .int 0])), (b3, .inr (0, [.int 0, .ref (g.2.2.2 0), .int 0])), (b2, .inr (0, [.int 0, .ref (g.2.2.2 0), .int 0])), (b1, .inr (0, [.int 0, .ref (g.2.2.2 0), .int 0])), (x0, .inr (8, [.ref b1, .ref b2, .ref b3, .ref b4, .ref b5, .int 0, .ref b6, .ref b7, .ref b8]))]) hn1 (k := 5) rfl
  have hb2 : C2 b2 = some (.inr (0, [.int 0, .ref (g.2.2.2 0), .int 0])) := by rw [hC2]; exact sg_ov_at (l := [(b8, sg_ia g 1024 (fun _ => 0)), (b7, sg_ia g 1024 (fun _ => 0)), (b6, .inr (2, hfs hz)), (b5, .inr (0, [.int 0, .ref (g.2.2.2 0), .int 0])), (b4, .inr (0, [.int 0, .ref (g.2.2.2 0), .int 0])), (b3, .inr (0, [.int 0, .ref (g.2.2.2 0), .int 0])), (b2, .inr (0, [.int 0, .ref (g.2.2.2 0), .int 0])), (b1, .inr (0, [.int 0, .ref (g.2.2.2 0), .int 0])), (x0, .inr (8, [.ref b1, .ref b2, .ref b3, .ref b4, .ref b5, .int 0, .ref b6, .ref b7, .ref b8]))]) hn1 (k := 6) rfl
  have hb1 : C2 b1 = some (.inr (0, [.int 0, .ref (g.2.2.2 0), .int 0])) := by rw [hC2]; exact sg_ov_at (l := [(b8, sg_ia g 1024 (fun _ => 0)), (b7, sg_ia g 1024 (fun _ => 0)), (b6, .inr (2, hfs hz)), (b5, .inr (0, [.int 0, .ref (g.2.2.2 0), .int 0])), (b4, .inr (0, [.int 0, .ref (g.2.2.2 0), .int 0])), (b3, .inr (0, [.int 0, .ref (g.2.2.2 0), .int 0])), (b2, .inr (0, [.int 0, .ref (g.2.2.2 0), .int 0])), (b1, .inr (0, [.int 0, .ref (g.2.2.2 0), .int 0])), (x0, .inr (8, [.ref b1, .ref b2, .ref b3, .ref b4, .ref b5, .int 0, .ref b6, .ref b7, .ref b8]))]) hn1 (k := 7) rfl
  have hx0 : C2 x0 = some (.inr (8, [.ref b1, .ref b2, .ref b3, .ref b4, .ref b5, .int 0, .ref b6, .ref b7, .ref b8])) := by rw [hC2]; exact sg_ov_at (l := [(b8, sg_ia g 1024 (fun _ => 0)), (b7, sg_ia g 1024 (fun _ => 0)), (b6, .inr (2, hfs hz)), (b5, .inr (0, [.int 0, .ref (g.2.2.2 0), .int 0])), (b4, .inr (0, [.int 0, .ref (g.2.2.2 0), .int 0])), (b3, .inr (0, [.int 0, .ref (g.2.2.2 0), .int 0])), (b2, .inr (0, [.int 0, .ref (g.2.2.2 0), .int 0])), (b1, .inr (0, [.int 0, .ref (g.2.2.2 0), .int 0])), (x0, .inr (8, [.ref b1, .ref b2, .ref b3, .ref b4, .ref b5, .int 0, .ref b6, .ref b7, .ref b8]))]) hn1 (k := 8) rfl
  have hall : ∀ z ∈ [x0, b1, b2, b3, b4, b5, b6, b7, b8], C2 z ≠ none := List.forall_mem_cons.mpr ⟨(fun q => by rw [hx0] at q; cases q), List.forall_mem_cons.mpr ⟨(fun q => by rw [hb1] at q; cases q), List.forall_mem_cons.mpr ⟨(fun q => by rw [hb2] at q; cases q), List.forall_mem_cons.mpr ⟨(fun q => by rw [hb3] at q; cases q), List.forall_mem_cons.mpr ⟨(fun q => by rw [hb4] at q; cases q), List.forall_mem_cons.mpr ⟨(fun q => by rw [hb5] at q; cases q), List.forall_mem_cons.mpr ⟨(fun q => by rw [hb6] at q; cases q), List.forall_mem_cons.mpr ⟨(fun q => by rw [hb7] at q; cases q), List.forall_mem_cons.mpr ⟨(fun q => by rw [hb8] at q; cases q), fun _ h => absurd h List.not_mem_nil⟩⟩⟩⟩⟩⟩⟩⟩⟩
  refine sw_astore_n (pc := 7) hc dL_law_7 rfl (by decide) (lv' := [(1, .ref x0), (0, .ref b)]) rfl ?_
  refine sw_new (pc := 8) hc nw_RL_89 ⟨(by decide), (by decide)⟩ dL_law_8 (fun m0 hm0 => ?_)
  refine sw_dup (pc := 11) hc dL_law_11 rfl ?_
  refine sw_callI (pc := 12) (rest := [.ref m0]) hc (c_X8_init l g _ m0 sg_up_s) md_X8_init ml_RL_91 im_X8_init rfl rfl rfl (Nat.le_of_ble_eq_true rfl) dL_law_12 ⟨Nat.le_of_ble_eq_true rfl, Nat.le_of_ble_eq_true rfl, (by decide), (by decide)⟩ (fun v C4 hP => ?_) (fun _ _ h => h.elim)
  obtain ⟨rfl, q, hq, hN, hn2, hC4⟩ := hP
  refine sw_st (st' := [.ref m0]) rfl ?_
  have hq2 : ∀ z ∈ [q 0, q 1, q 3, q 4, q 5, q 6, q 7, q 8, q 10, q 11, q 12, q 13, q 14, q 15, q 17, q 18, q 19, q 20, q 21, q 22, q 23, q 24, q 25, q 27, q 28, q 29], C2 z = none := fun z hz => by
    have h1 := hq z hz
    by_cases hzm : z = m0
    · rw [hzm]; exact hm0
    · exact (sg_up_n hzm).symm.trans h1
  have hk : ∀ z, C2 z ≠ none → C4 z = C2 z := fun z hz => by
    have hzm : z ≠ m0 := fun q => hz (by rw [q]; exact hm0)
    have ho : z ∉ ([(q 29, sg_ia g 10 (fun _ => 0)), (q 28, sg_ia g 10 (fun _ => 0)), (q 27, sg_ia g 10 (fun _ => 0)), (q 25, sg_ia g 40 (fun _ => 0)), (q 24, sg_ia g 40 (fun _ => 0)), (q 23, sg_ia g 40 (fun _ => 0)), (q 22, sg_ia g 40 (fun _ => 0)), (q 21, sg_ia g 40 (fun _ => 0)), (q 20, sg_ia g 40 (fun _ => 0)), (q 19, sg_ia g 40 (fun _ => 0)), (q 18, sg_ia g 40 (fun _ => 0)), (q 17, sg_ia g 40 (fun _ => 0)), (q 15, sg_ia g 60 (fun _ => 0)), (q 14, sg_ia g 60 (fun _ => 0)), (q 13, sg_ia g 60 (fun _ => 0)), (q 12, sg_ia g 60 (fun _ => 0)), (q 11, sg_ia g 6 (fun _ => 0)), (q 10, sg_ia g 6 (fun _ => 0)), (q 8, sg_ia g 400 (fun _ => 0)), (q 7, sg_ia g 400 (fun _ => 0)), (q 6, sg_ia g 20 (fun _ => 0)), (q 5, sg_ia g 20 (fun _ => 0)), (q 4, sg_ia g 20 (fun _ => 0)), (q 3, sg_ia g 20 (fun _ => 0)), (q 1, sg_ia g 96 (fun _ => 0)), (q 0, sg_ia g 96 (fun _ => 0)), (m0, .inr (9, [.ref (q 0), .ref (q 1), .int 0, .ref (q 3), .ref (q 4), .ref (q 5), .ref (q 6), .ref (q 7), .ref (q 8), .int 0, .ref (q 10), .ref (q 11), .ref (q 12), .ref (q 13), .ref (q 14), .ref (q 15), .int 0, .ref (q 17), .ref (q 18), .ref (q 19), .ref (q 20), .ref (q 21), .ref (q 22), .ref (q 23), .ref (q 24), .ref (q 25), .int 0, .ref (q 27), .ref (q 28), .ref (q 29), .int 0, .int 0, .int 0, .int 0, .int 0, .int 0, .int 0, .int 0, .int 0, .int 0, .int 0, .int 0, .int 0]))] : va_W).map Prod.fst := fun hi => by
      have hi2 : z ∈ [q 29, q 28, q 27, q 25, q 24, q 23, q 22, q 21, q 20, q 19, q 18, q 17, q 15, q 14, q 13, q 12, q 11, q 10, q 8, q 7, q 6, q 5, q 4, q 3, q 1, q 0, m0] := hi
      have hi3 : ∀ y ∈ [q 29, q 28, q 27, q 25, q 24, q 23, q 22, q 21, q 20, q 19, q 18, q 17, q 15, q 14, q 13, q 12, q 11, q 10, q 8, q 7, q 6, q 5, q 4, q 3, q 1, q 0, m0], C2 y = none := List.forall_mem_cons.mpr ⟨hq2 (q 29) (List.mem_of_getElem? (i := 25) rfl), List.forall_mem_cons.mpr ⟨hq2 (q 28) (List.mem_of_getElem? (i := 24) rfl), List.forall_mem_cons.mpr ⟨hq2 (q 27) (List.mem_of_getElem? (i := 23) rfl), List.forall_mem_cons.mpr ⟨hq2 (q 25) (List.mem_of_getElem? (i := 22) rfl), List.forall_mem_cons.mpr ⟨hq2 (q 24) (List.mem_of_getElem? (i := 21) rfl), List.forall_mem_cons.mpr ⟨hq2 (q 23) (List.mem_of_getElem? (i := 20) rfl), List.forall_mem_cons.mpr ⟨hq2 (q 22) (List.mem_of_getElem? (i := 19) rfl), List.forall_mem_cons.mpr ⟨hq2 (q 21) (List.mem_of_getElem? (i := 18) rfl), List.forall_mem_cons.mpr ⟨hq2 (q 20) (List.mem_of_getElem? (i := 17) rfl), List.forall_mem_cons.mpr ⟨hq2 (q 19) (List.mem_of_getElem? (i := 16) rfl), List.forall_mem_cons.mpr ⟨hq2 (q 18) (List.mem_of_getElem? (i := 15) rfl), List.forall_mem_cons.mpr ⟨hq2 (q 17) (List.mem_of_getElem? (i := 14) rfl), List.forall_mem_cons.mpr ⟨hq2 (q 15) (List.mem_of_getElem? (i := 13) rfl), List.forall_mem_cons.mpr ⟨hq2 (q 14) (List.mem_of_getElem? (i := 12) rfl), List.forall_mem_cons.mpr ⟨hq2 (q 13) (List.mem_of_getElem? (i := 11) rfl), List.forall_mem_cons.mpr ⟨hq2 (q 12) (List.mem_of_getElem? (i := 10) rfl), List.forall_mem_cons.mpr ⟨hq2 (q 11) (List.mem_of_getElem? (i := 9) rfl), List.forall_mem_cons.mpr ⟨hq2 (q 10) (List.mem_of_getElem? (i := 8) rfl), List.forall_mem_cons.mpr ⟨hq2 (q 8) (List.mem_of_getElem? (i := 7) rfl), List.forall_mem_cons.mpr ⟨hq2 (q 7) (List.mem_of_getElem? (i := 6) rfl), List.forall_mem_cons.mpr ⟨hq2 (q 6) (List.mem_of_getElem? (i := 5) rfl), List.forall_mem_cons.mpr ⟨hq2 (q 5) (List.mem_of_getElem? (i := 4) rfl), List.forall_mem_cons.mpr ⟨hq2 (q 4) (List.mem_of_getElem? (i := 3) rfl), List.forall_mem_cons.mpr ⟨hq2 (q 3) (List.mem_of_getElem? (i := 2) rfl), List.forall_mem_cons.mpr ⟨hq2 (q 1) (List.mem_of_getElem? (i := 1) rfl), List.forall_mem_cons.mpr ⟨hq2 (q 0) (List.mem_of_getElem? (i := 0) rfl), List.forall_mem_cons.mpr ⟨hm0, fun _ h => absurd h List.not_mem_nil⟩⟩⟩⟩⟩⟩⟩⟩⟩⟩⟩⟩⟩⟩⟩⟩⟩⟩⟩⟩⟩⟩⟩⟩⟩⟩⟩
      exact hz (hi3 z hi2)
    rw [hC4, sg_ov_out ho]
    exact sg_up_n hzm
  have hM4 : ∀ z ∈ mW g m0 q sg0, C4 z.1 = some z.2 := by rw [hC4]; exact mW_in hn2
  have hK4 : ∀ a ∈ (mW g m0 q sg0).map Prod.fst, C2 a = none := List.forall_mem_cons.mpr ⟨hm0, hq2⟩
  refine sw_astore_n (pc := 15) hc dL_law_15 rfl (by decide) (lv' := [(2, .ref m0), (1, .ref x0), (0, .ref b)]) rfl ?_
  refine sw_iconst (pc := 16) (v := 1) hc dL_law_16 (by decide) ?_
  refine sw_newl (pc := 17) (n := 1) hc ac_long rfl (by decide) ⟨(by decide), (by decide)⟩ dL_law_17 (fun o ho => ?_)
  refine sw_astore_n (pc := 19) hc dL_law_19 rfl (by decide) (lv' := [(3, .ref o), (2, .ref m0), (1, .ref x0), (0, .ref b)]) rfl ?_
  refine sw_iconst (pc := 20) (v := 0) hc dL_law_20 (by decide) ?_
  refine sw_istore (pc := 21) hc dL_law_21 (by decide) (lv' := [(4, .int (nI (6 * 0))), (3, .ref o), (2, .ref m0), (1, .ref x0), (0, .ref b)]) rfl ?_
  refine sw_widen (k := 24 * 0 + 1000) (n := 420 * 0 + 10000) (by decide) (by decide) ?_
  refine k_loop hc hgs hX hbl hst hN hL kend 514 0 sg0 _ (by decide) (by decide) ?_
  have hu : ∀ z, C4 z ≠ none → sg_up C4 o (sg_la g 1 (fun _ => 0)) z = C4 z := fun z hz => sg_up_n fun q => hz (by rw [q]; exact ho)
  have hv : ∀ z x, C2 z = some x → sg_up C4 o (sg_la g 1 (fun _ => 0)) z = some x := fun z x hz => by
    have h1 : C2 z ≠ none := fun q => by rw [hz] at q; cases q
    have h2 : C4 z = some x := (hk z h1).trans hz
    exact (hu z (fun q => by rw [h2] at q; cases q)).trans h2
  have hoo : C2 o = none := Decidable.byContradiction fun q => q ((hk o q).symm.trans ho)
  refine ⟨ad0 x0 b1 b2 b3 b4 b5 b6 b7 b8, ow0 x0 b1 b2 b3 b4 b5 b6 b7 b8, (hz, (fun _ => 0), (fun _ => 0)), (fun _ => 0), Pic_0 hn1 (hv _ _ hx0) (hv _ _ hb1) (hv _ _ hb2) (hv _ _ hb3) (hv _ _ hb4) (hv _ _ hb5) (hv _ _ hb6) (hv _ _ hb7) (hv _ _ hb8), ⟨rfl, rfl⟩, WX_0, rfl, sg_up_s, ow0_n (g := g) hall hoo, fun z hz => ?_, fun a ha => ⟨ow0_n (g := g) hall (hK4 a ha), fun q => ?_⟩⟩
  · exact (hu z.1 (fun q => by rw [hM4 z hz] at q; cases q)).trans (hM4 z hz)
  · obtain ⟨z, hz, rfl⟩ := List.mem_map.mp ha
    have h1 := hM4 z hz
    rw [q, ho] at h1
    cases h1
