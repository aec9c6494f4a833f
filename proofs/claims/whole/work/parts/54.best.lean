
/-! the best run of a runner -/
def wrf (ad : Ad) (w : Int32) : Option Nat := if w < 0 then none else some (ad 15 (iN w))
theorem wrf_s {ad : Ad} {w : Int32} {a : Nat} (h : wrf ad w = some a) : ¬ w < 0 ∧ a = ad 15 (iN w) := by
  unfold wrf at h
  split at h
  · cases h
  · next hw => exact ⟨hw, (Option.some.inj h).symm⟩
theorem wrf_n {ad : Ad} {w : Int32} (h : wrf ad w = none) : w < 0 := by
  unfold wrf at h
  split at h
  · assumption
  · cases h
theorem wrf_i {g : sg_G} {ad : Ad} {own : Nat → Option (Nat × Nat)} {gh : Gh} {σ : Mem} {C : Nat → Option va_E} (hQ : Pic g ad own gh σ C) (hW : WX σ) {i : Nat} (hi : i < iN (σ 26 0)) : wrf ad (nI i) = some (ad 15 i) := by
  have hb : iN (σ 26 0) < 41 := hW.1.2.2.2.1.2
  unfold wrf
  rw [if_neg (nI_pos (by omega)), show iN (nI i) = i from nI_clamp (by omega)]
/-- a run that may be missing: its number is one of the runs', or it is -1 -/
def wok (σ : Mem) (w : Int32) : Prop := w < 0 ∨ (w = nI (iN w) ∧ iN w < iN (σ 26 0))
theorem wrf_eq {g : sg_G} {ad : Ad} {own : Nat → Option (Nat × Nat)} {gh : Gh} {σ : Mem} {C : Nat → Option va_E} (hQ : Pic g ad own gh σ C) (hW : WX σ) {i : Nat} {w : Int32} (hi : i < iN (σ 26 0)) (hw : wok σ w) : some (ad 15 i) = wrf ad w ↔ nI i = w := by
  have hb : iN (σ 26 0) < 41 := hW.1.2.2.2.1.2
  constructor
  · intro q
    obtain ⟨h1, h2⟩ := wrf_s q.symm
    rcases hw with h | ⟨h3, h4⟩
    · exact absurd h h1
    · rw [hQ.inj (ct15 hi) (ct15 h4) h2]
      exact h3.symm
  · intro q
    rw [← q]
    exact (wrf_i hQ hW hi).symm
/-- the class puts the fewer ticks first, of as many the lower number; days go up with the numbers -/
theorem ahd_eq {σ : Mem} (hW : WX σ) {i j : Nat} (hi : i < iN (σ 26 0)) (hj : j < iN (σ 26 0)) : (σ 22 i < σ 22 j ∨ (σ 22 i = σ 22 j ∧ nI i < nI j)) ↔ rAhd σ i j := by
  have hb : iN (σ 26 0) < 41 := hW.1.2.2.2.1.2
  have hd := hW.2.1.1
  show _ ↔ (if σ 22 i = σ 22 j then (if σ 20 i = σ 20 j then nI i < nI j else σ 20 i < σ 20 j) else σ 22 i < σ 22 j)
  by_cases h1 : σ 22 i = σ 22 j
  · rw [if_pos h1]
    by_cases h2 : σ 20 i = σ 20 j
    · rw [if_pos h2]
      exact ⟨fun q => q.elim (fun q => absurd (h1 ▸ q) (Int32.lt_irrefl _)) And.right, fun q => .inr ⟨h1, q⟩⟩
    · rw [if_neg h2]
      constructor
      · intro q
        rcases q with q | q
        · exact absurd (h1 ▸ q) (Int32.lt_irrefl _)
        · have q3 := (nI_ltI (by omega) (by omega)).mp q.2
          exact Int32.lt_of_le_of_ne (hd j i (by omega) hj) h2
      · intro q
        refine .inr ⟨h1, (nI_ltI (by omega) (by omega)).mpr ?_⟩
        rcases Nat.lt_or_ge i j with h3 | h3
        · exact h3
        · exact absurd (Int32.lt_of_lt_of_le q (hd i j h3 hi)) (Int32.lt_irrefl _)
  · rw [if_neg h1]
    exact ⟨fun q => q.elim id (fun q => absurd q.1 h1), .inl⟩
theorem rTop_s (σ : Mem) (x y w : Int32) (k : Nat) : rTop σ x y w (k + 1) = if (¬ nI k = w ∧ σ 19 k = x ∧ σ 18 k = y ∧ rCnt σ k) ∧ (rTop σ x y w k < 0 ∨ rAhd σ k (iN (rTop σ x y w k))) then nI k else rTop σ x y w k := rfl



