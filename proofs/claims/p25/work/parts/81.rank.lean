/-! boards: who is ahead of whom, by numbers -/
def cn (P : Nat → Prop) [DecidablePred P] : Nat → Nat
  | 0 => 0
  | n + 1 => cn P n + if P n then 1 else 0
theorem cn_le {P : Nat → Prop} [DecidablePred P] : ∀ n, cn P n ≤ n
  | 0 => Nat.le_refl _
  | n + 1 => by
    have := cn_le (P := P) n
    show cn P n + (if P n then 1 else 0) ≤ n + 1
    split <;> omega
theorem cn_mono {P Q : Nat → Prop} [DecidablePred P] [DecidablePred Q] : ∀ n, (∀ k, k < n → P k → Q k) → cn P n ≤ cn Q n
  | 0, _ => Nat.le_refl _
  | n + 1, h => by
    have ih := cn_mono n (fun k hk => h k (by omega))
    show cn P n + (if P n then 1 else 0) ≤ cn Q n + (if Q n then 1 else 0)
    by_cases q : P n
    · rw [if_pos q, if_pos (h n (by omega) q)]; omega
    · rw [if_neg q]; omega
theorem cn_congr {P Q : Nat → Prop} [DecidablePred P] [DecidablePred Q] : ∀ n, (∀ k, k < n → (P k ↔ Q k)) → cn P n = cn Q n := fun n h => Nat.le_antisymm (cn_mono n fun k hk => (h k hk).mp) (cn_mono n fun k hk => (h k hk).mpr)
theorem cn_lt {P Q : Nat → Prop} [DecidablePred P] [DecidablePred Q] {k0 : Nat} (h0 : ¬ P k0) (h1 : Q k0) : ∀ n, k0 < n → (∀ k, k < n → P k → Q k) → cn P n < cn Q n
  | 0, hk, _ => absurd hk (Nat.not_lt_zero _)
  | n + 1, hk, h => by
    show cn P n + (if P n then 1 else 0) < cn Q n + (if Q n then 1 else 0)
    by_cases e : k0 = n
    · subst e
      have := cn_mono k0 (fun k hk => h k (by omega))
      rw [if_neg h0, if_pos h1]; omega
    · have ih := cn_lt h0 h1 n (by omega) (fun k hk => h k (by omega))
      by_cases q : P n
      · rw [if_pos q, if_pos (h n (by omega) q)]; omega
      · rw [if_neg q]; omega
theorem cn_0 {P : Nat → Prop} [DecidablePred P] : ∀ n, (∀ k, k < n → ¬ P k) → cn P n = 0
  | 0, _ => rfl
  | n + 1, h => by
    show cn P n + (if P n then 1 else 0) = 0
    rw [cn_0 n (fun k hk => h k (by omega)), if_neg (h n (by omega))]
/-- the places of different numbers fill up without a gap -/
theorem cn_step {P : Nat → Prop} [DecidablePred P] {f : Nat → Nat} (z : Nat) : ∀ n, (∀ i j, i < n → j < n → P i → P j → f i = f j → i = j) → (cn (fun j => P j ∧ f j < z + 1) n = cn (fun j => P j ∧ f j < z) n ∧ ∀ j, j < n → P j → f j ≠ z) ∨ (cn (fun j => P j ∧ f j < z + 1) n = cn (fun j => P j ∧ f j < z) n + 1 ∧ ∃ u, u < n ∧ P u ∧ f u = z)
  | 0, _ => .inl ⟨rfl, fun j hj => absurd hj (Nat.not_lt_zero _)⟩
  | n + 1, h => by
    have ih := cn_step z n (fun i j hi hj => h i j (by omega) (by omega))
    show (cn _ n + (if P n ∧ f n < z + 1 then 1 else 0) = cn _ n + (if P n ∧ f n < z then 1 else 0) ∧ _) ∨ (cn _ n + (if P n ∧ f n < z + 1 then 1 else 0) = cn _ n + (if P n ∧ f n < z then 1 else 0) + 1 ∧ _)
    by_cases q : P n ∧ f n = z
    · have e1 : (if P n ∧ f n < z + 1 then 1 else 0) = 1 := if_pos ⟨q.1, by omega⟩
      have e2 : (if P n ∧ f n < z then 1 else 0) = 0 := if_neg (fun w => by omega)
      rw [e1, e2]
      refine .inr ⟨?_, n, by omega, q⟩
      rcases ih with ⟨i1, i2⟩ | ⟨i1, u, hu, hp, he⟩
      · rw [i1]
      · exact absurd (h u n (by omega) (by omega) hp q.1 (he.trans q.2.symm)) (by omega)
    · have e : (if P n ∧ f n < z + 1 then 1 else 0) = (if P n ∧ f n < z then 1 else 0) := ite_c ⟨fun w => ⟨w.1, by have : ¬ f n = z := fun e => q ⟨w.1, e⟩; omega⟩, fun w => ⟨w.1, by omega⟩⟩ rfl rfl
      rw [e]
      rcases ih with ⟨i1, i2⟩ | ⟨i1, u, hu, hp, he⟩
      · refine .inl ⟨by rw [i1], fun j hj hp => ?_⟩
        by_cases ej : j = n
        · subst ej; exact fun e => q ⟨hp, e⟩
        · exact i2 j (by omega) hp
      · exact .inr ⟨by rw [i1]; omega, u, by omega, hp, he⟩
theorem cn_rank {P : Nat → Prop} [DecidablePred P] {f : Nat → Nat} {n : Nat} (h : ∀ i j, i < n → j < n → P i → P j → f i = f j → i = j) (k : Nat) : ∀ z, k < cn (fun j => P j ∧ f j < z) n → ∃ u, u < n ∧ P u ∧ cn (fun j => P j ∧ f j < f u) n = k
  | 0, hk => absurd hk (by rw [cn_0 n (fun j _ q => absurd q.2 (Nat.not_lt_zero _))]; exact Nat.not_lt_zero _)
  | z + 1, hk => by
    by_cases q : k < cn (fun j => P j ∧ f j < z) n
    · exact cn_rank h k z q
    · rcases cn_step z n h with ⟨i1, -⟩ | ⟨i1, u, hu, hp, he⟩
      · rw [i1] at hk; exact absurd hk q
      · refine ⟨u, hu, hp, ?_⟩
        rw [he]
        omega
theorem cn_all {P : Nat → Prop} [DecidablePred P] {f : Nat → Nat} {n Z : Nat} (h : ∀ j, j < n → P j → f j < Z) : cn (fun j => P j ∧ f j < Z) n = cn P n := cn_congr n fun k hk => ⟨fun q => q.1, fun q => ⟨q, h k hk q⟩⟩
/-! the best runs -/
/-- the ticks of a run; its place in the order of boards -/
def lt (σ : Mem) (i : Nat) : Nat := iN (σ 22 i)
def ky (σ : Mem) (i : Nat) : Nat := 64 * lt σ i + i
abbrev vld (σ : Mem) (x y w : Int32) (i : Nat) : Prop := ¬ nI i = w ∧ σ 19 i = x ∧ σ 18 i = y ∧ rCnt σ i
section TOP
variable {σ : Mem} {x y w : Int32}
theorem WX.n41 (hW : WX σ) : iN (σ 26 0) ≤ 40 := by have := hW.1.2.2.2.1.2; omega
theorem run_lt (hW : WX σ) {k : Nat} (hk : k < iN (σ 26 0)) : σ 22 k = nI (lt σ k) ∧ 1 ≤ lt σ k ∧ lt σ k ≤ 500 := by
  obtain ⟨-, e, -, -, -, e11⟩ := hW.run hk
  obtain ⟨t, p, ht, hp, h1, h2, h3⟩ := hero_end σ (iN (σ 17 k))
  rw [h1] at e
  have el : lt σ k = t := by unfold lt; rw [e]; exact iN_nI (by omega)
  rw [el]
  refine ⟨e, ?_, ht⟩
  refine Nat.pos_of_ne_zero fun z => ?_
  rw [h3 z] at h2
  rw [h2] at e11
  exact absurd e11 (by decide)
theorem ahd_ky (hW : WX σ) {i j : Nat} (hi : i < iN (σ 26 0)) (hj : j < iN (σ 26 0)) : rAhd σ i j ↔ ky σ i < ky σ j := by
  have hn := hW.n41
  obtain ⟨e1, a1, b1⟩ := run_lt hW hi
  obtain ⟨e2, a2, b2⟩ := run_lt hW hj
  rw [← ahd_eq hW hi hj, e1, e2]
  unfold ky
  rw [nI_ltI (by omega) (by omega), nI_eq (by omega) (by omega), nI_ltI (by omega) (by omega)]
  omega
/-- the best of the runs that count, one left out -/
theorem top_spec (hW : WX σ) : ∀ n, n ≤ iN (σ 26 0) → (rTop σ x y w n = -1 ∧ ∀ i, i < n → ¬ vld σ x y w i) ∨ ∃ j, j < n ∧ rTop σ x y w n = nI j ∧ vld σ x y w j ∧ ∀ i, i < n → vld σ x y w i → ky σ j ≤ ky σ i
  | 0, _ => .inl ⟨rfl, fun i hi => absurd hi (Nat.not_lt_zero _)⟩
  | n + 1, hn => by
    have h40 := hW.n41
    have ih := top_spec hW n (by omega)
    rw [rTop_s]
    rcases ih with ⟨e, h⟩ | ⟨j, hj, e, hv, h⟩
    · by_cases q : vld σ x y w n
      · rw [if_pos ⟨q, .inl (by rw [e]; decide)⟩]
        refine .inr ⟨n, by omega, rfl, q, fun i hi hq => ?_⟩
        rcases Nat.lt_or_ge i n with h1 | h1
        · exact absurd hq (h i h1)
        · rw [show i = n by omega]; exact Nat.le_refl _
      · rw [if_neg (fun z => q z.1)]
        refine .inl ⟨e, fun i hi => ?_⟩
        rcases Nat.lt_or_ge i n with h1 | h1
        · exact h i h1
        · rw [show i = n by omega]; exact q
    · rw [e, iN_nI (by omega)]
      have ha := ahd_ky hW (i := n) (j := j) (by omega) (by omega)
      by_cases q : vld σ x y w n ∧ ky σ n < ky σ j
      · rw [if_pos ⟨q.1, .inr (ha.mpr q.2)⟩]
        refine .inr ⟨n, by omega, rfl, q.1, fun i hi hq => ?_⟩
        rcases Nat.lt_or_ge i n with h1 | h1
        · exact Nat.le_trans (Nat.le_of_lt q.2) (h i h1 hq)
        · rw [show i = n by omega]; exact Nat.le_refl _
      · rw [if_neg (fun z => q ⟨z.1, z.2.elim (fun z2 => absurd z2 (nI_pos (by omega))) ha.mp⟩)]
        refine .inr ⟨j, by omega, rfl, hv, fun i hi hq => ?_⟩
        rcases Nat.lt_or_ge i n with h1 | h1
        · exact h i h1 hq
        · rw [show i = n by omega]
          rw [show i = n by omega] at hq
          exact Nat.not_lt.mp fun z => q ⟨hq, z⟩
theorem topN_spec (hW : WX σ) (x y w : Int32) : (rTopN σ x y w = -1 ∧ ∀ i, i < iN (σ 26 0) → ¬ vld σ x y w i) ∨ ∃ j, j < iN (σ 26 0) ∧ rTopN σ x y w = nI j ∧ vld σ x y w j ∧ ∀ i, i < iN (σ 26 0) → vld σ x y w i → ky σ j ≤ ky σ i := top_spec hW _ (Nat.le_refl _)
theorem ky_inj {i j : Nat} (hi : i < 64) (hj : j < 64) (h : ky σ i = ky σ j) : i = j := by
  unfold ky at h
  omega
theorem nI_m1n {n : Nat} (h : n < 2 ^ 31) : ¬ nI n = -1 := fun q => absurd (show nI n < 0 by rw [q]; decide) (nI_pos h)
/-- a run that is left out matters to its own runner alone -/
theorem top_wo (hW : WX σ) {b : Nat} (hb : ¬ σ 18 b = y) (hb4 : b < 64) : ∀ n, n ≤ iN (σ 26 0) → rTop σ x y (nI b) n = rTop σ x y (-1) n
  | 0, _ => rfl
  | n + 1, hn => by
    have h40 := hW.n41
    have ih := top_wo hW hb hb4 n (by omega)
    rw [rTop_s, rTop_s, ih]
    refine ite_c ⟨fun q => ⟨⟨nI_m1n (by omega), q.1.2⟩, q.2⟩, fun q => ⟨⟨fun e => ?_, q.1.2⟩, q.2⟩⟩ rfl rfl
    have e2 : n = b := (nI_eq (by omega) (by omega)).mp e
    rw [e2] at q
    exact hb q.1.2.2.1
end TOP
