/-! the class's judging of a run is the reference's -/
theorem i32_nn {y : Int32} (h : y.toBitVec.msb = false) : 0 ≤ y := by
  rw [Int32.le_iff_toInt_le]
  show (0 : Int) ≤ y.toBitVec.toInt
  rw [BitVec.toInt_eq_msb_cond, if_neg (by rw [h]; decide)]
  omega
theorem i32_msb {y : Int32} (h : 0 ≤ y) : y.toBitVec.msb = false := by
  have h1 := Int32.le_iff_toInt_le.mp h
  have h2 : (0 : Int) ≤ y.toBitVec.toInt := h1
  rw [BitVec.toInt_eq_msb_cond] at h2
  cases h3 : y.toBitVec.msb with
  | false => rfl
  | true =>
    rw [h3, if_pos rfl] at h2
    have := y.toBitVec.isLt
    omega
theorem i32_and {x y : Int32} (h : 0 ≤ y) : 0 ≤ x &&& y := by
  apply i32_nn
  rw [Int32.toBitVec_and, BitVec.msb_and, i32_msb h, Bool.and_false]
theorem i32_pos {x : Int32} (h : 0 ≤ x) : ¬ x = 0 ↔ 0 < x := by
  constructor
  · intro q
    rcases Int32.lt_or_le 0 x with r | r
    · exact r
    · exact absurd (Int32.le_antisymm r h) q
  · intro q r
    rw [r] at q
    exact absurd q (by decide)
theorem cRf_law {σ : Mem} {a : Nat} {d : Int32} {h : Her} (h0 : ∀ j, j < 10 → j < iN (σ 11 a) → 0 ≤ σ 12 (10 * a + j)) (ha : a < 100) : ∀ n, n ≤ iN (σ 11 a) → n ≤ 10 →
    (rLaw σ a d n = -1 ∧ cRf σ a d h n = (0, 0)) ∨ ∃ j, j < n ∧ rLaw σ a d n = nI (10 * a + j) ∧ cRf σ a d h n = (σ 12 (10 * a + j), bI (cBad σ h (10 * a + j)))
  | 0, _, _ => .inl ⟨rfl, rfl⟩
  | n + 1, hn, hn2 => by
    have hz := h0 n (by omega) (by omega)
    rcases cRf_law h0 ha n (by omega) (by omega) with ⟨h1, h2⟩ | ⟨j, hj, h1, h2⟩
    · by_cases hd : σ 12 (10 * a + n) ≤ d
      · refine .inr ⟨n, Nat.lt_succ_self _, ?_, ?_⟩
        · show (if _ then _ else _) = _
          rw [if_pos ⟨hd, .inl (by rw [h1]; decide)⟩]
        · exact cRf_y hd (by rw [h2]; exact hz)
      · refine .inl ⟨?_, ?_⟩
        · show (if _ then _ else _) = _
          rw [if_neg (fun q => hd q.1), h1]
        · rw [cRf_n1 hd, h2]
    · have hjn : ¬ nI (10 * a + j) < 0 := nI_pos (by omega)
      have hji : iN (nI (10 * a + j)) = 10 * a + j := nI_clamp (by omega)
      by_cases hd : σ 12 (10 * a + n) ≤ d
      · by_cases he : σ 12 (10 * a + j) ≤ σ 12 (10 * a + n)
        · refine .inr ⟨n, Nat.lt_succ_self _, ?_, ?_⟩
          · show (if _ then _ else _) = _
            rw [if_pos ⟨hd, .inr (by rw [h1, hji]; exact he)⟩]
          · exact cRf_y hd (by rw [h2]; exact he)
        · refine .inr ⟨j, Nat.lt_succ_of_lt hj, ?_, ?_⟩
          · show (if _ then _ else _) = _
            rw [if_neg (fun q => q.2.elim (fun q => hjn (by rw [h1] at q; exact q)) (fun q => he (by rw [h1, hji] at q; exact q))), h1]
          · rw [cRf_n2 (by rw [h2]; exact he), h2]
      · refine .inr ⟨j, Nat.lt_succ_of_lt hj, ?_, ?_⟩
        · show (if _ then _ else _) = _
          rw [if_neg (fun q => hd q.1), h1]
        · rw [cRf_n1 hd, h2]
/-- with a hero that did what the run keeps -/
theorem cRf_ref {σ : Mem} {k : Nat} {h : Her} (hW : WX σ) (hk : k < iN (σ 26 0)) (e7 : σ 23 k = h 7) (e8 : σ 24 k = h 8) (e9 : σ 25 k = h 9) : (cRf σ (iN (σ 19 k)) (σ 20 k) h (iN (σ 11 (iN (σ 19 k))))).2 = bI (rRef σ k) := by
  have hc := hW.wc hk
  have hcb : iN (σ 19 k) < 100 := by have := hW.b2; have h2 : lsN σ 2 = iN (σ 16 0) := rfl; omega
  have hr : iN (σ 11 (iN (σ 19 k))) ≤ 10 := by have := (hW.1.2.2.2.2.2.2.2.2.2.1 (iN (σ 19 k))).2; omega
  rcases cRf_law (h := h) (d := σ 20 k) (fun j _ hj => (hW.2.2.1 (iN (σ 19 k)) j hc hj).1) hcb _ (Nat.le_refl _) hr with ⟨h1, h2⟩ | ⟨j, hj, h1, h2⟩
  · have h3 : ¬ rRef σ k := fun q => by
      have q1 := q.1
      rw [show rLawI σ k = -1 from h1] at q1
      exact absurd q1 (by decide)
    rw [h2, bI_f h3]
  · rw [h2]
    have hji : iN (nI (10 * iN (σ 19 k) + j)) = 10 * iN (σ 19 k) + j := nI_clamp (by omega)
    have h4 : rLawI σ k = nI (10 * iN (σ 19 k) + j) := h1
    have h5 : rRef σ k ↔ rBad σ k (10 * iN (σ 19 k) + j) := by
      constructor
      · intro q
        have := q.2
        rw [h4, hji] at this
        exact this
      · intro q
        refine ⟨by rw [h4]; exact nI_pos' (by omega), ?_⟩
        rw [h4, hji]
        exact q
    have h6 : cBad σ h (10 * iN (σ 19 k) + j) ↔ rBad σ k (10 * iN (σ 19 k) + j) := by
      have := (hW.2.2.1 (iN (σ 19 k)) j hc hj).2
      show (_ ∨ _ ∨ _) ↔ (_ ∨ _ ∨ _)
      rw [e7, e8, e9, i32_pos (i32_and this.1)]
    show bI (cBad σ h (10 * iN (σ 19 k) + j)) = bI (rRef σ k)
    by_cases h7 : rRef σ k
    · rw [bI_t h7, bI_t (h6.mpr (h5.mp h7))]
    · rw [bI_f h7, bI_f (fun q => h7 (h5.mpr (h6.mp q)))]
