
/-! runs and how they are judged -/
def rLaw (σ : Mem) (a : Nat) (d : Int32) : Nat → Int32
  | 0 => -1
  | i + 1 => if σ 12 (10 * a + i) ≤ d ∧ (rLaw σ a d i < 0 ∨ σ 12 (iN (rLaw σ a d i)) ≤ σ 12 (10 * a + i)) then nI (10 * a + i) else rLaw σ a d i
theorem rLaw_v (σ : Mem) (a : Nat) (d : Int32) : ∀ i : Nat, rLaw σ a d i = -1 ∨ ∃ j, j < i ∧ rLaw σ a d i = nI (10 * a + j)
  | 0 => .inl rfl
  | i + 1 => by
    unfold rLaw
    split
    · exact .inr ⟨i, by omega, rfl⟩
    · rcases rLaw_v σ a d i with h | ⟨j, h1, h2⟩
      · exact .inl h
      · exact .inr ⟨j, by omega, h2⟩
theorem rLaw_x {σ : Mem} {a i : Nat} {d x : Int32} (ha : a < 6) (hi : i ≤ 10) (e : x = rLaw σ a d i) (h : ¬ x < 0) : x = nI (iN x) ∧ iN x < 60 := by
  rcases rLaw_v σ a d i with h1 | ⟨j, h1, h2⟩
  · rw [e, h1] at h; exact absurd (by decide) h
  · rw [e, h2, iN, nI_clamp (by omega)]
    exact ⟨rfl, by omega⟩
def rLawI (σ : Mem) (k : Nat) : Int32 := rLaw σ (iN (σ 19 k)) (σ 20 k) (iN (σ 11 (iN (σ 19 k))))
abbrev rBad (σ : Mem) (k j : Nat) : Prop := 0 < σ 25 k &&& σ 13 j ∨ σ 23 k < σ 14 j ∨ σ 15 j < σ 24 k
abbrev rRef (σ : Mem) (k : Nat) : Prop := 0 ≤ rLawI σ k ∧ rBad σ k (iN (rLawI σ k))
/-- what refused wants -/
def rRn (σ : Mem) (k : Nat) : Prop := k < 40 ∧ isN (σ 19 k) 6 ∧ ∀ a, isN (σ 11 a) 11
theorem rWF.rn {σ : Mem} {k : Nat} (h : rWF σ) (hk : k < iN (σ 26 0)) : rRn σ k := by
  obtain ⟨-, -, h16, h26, -, -, -, -, -, h11, -, h19, -⟩ := h
  have a := h16.2
  have b := h26.2
  exact ⟨by omega, ⟨(h19 k hk).1, by have := (h19 k hk).2; omega⟩, h11⟩
abbrev rCnt (σ : Mem) (k : Nat) : Prop := σ 21 k = 0 ∧ ¬ rRef σ k
abbrev rRngR (d f p j : Int32) : Prop := (0 ≤ d ∧ d ≤ 1000) ∧ (0 ≤ f ∧ f ≤ 7) ∧ (0 ≤ p ∧ p ≤ 32) ∧ (0 ≤ j ∧ j ≤ 500)
def kRule (σ : Mem) (x d f pu j : Int32) : Int32 := if ¬ rIn σ 16 x then 1 else if ¬ rRngR d f pu j then 2 else if σ 11 (iN x) = 10 then 3 else 0
theorem kRule_0 {σ : Mem} {x d f pu j : Int32} (k : ¬ 0 < kRule σ x d f pu j) : rIn σ 16 x ∧ rRngR d f pu j ∧ ¬ σ 11 (iN x) = 10 := by
  unfold kRule at k
  split at k
  · exact absurd (by decide) k
  · rename_i h1
    split at k
    · exact absurd (by decide) k
    · rename_i h2
      split at k
      · exact absurd (by decide) k
      · rename_i h3
        exact ⟨Decidable.not_not.mp h1, Decidable.not_not.mp h2, h3⟩
def oRule (σ : Mem) (x d f pu j : Int32) : Mem :=
  st2 (st2 (st2 (st2 (st2 σ 12 (10 * iN x + iN (σ 11 (iN x))) d) 13 (10 * iN x + iN (σ 11 (iN x))) f) 14 (10 * iN x + iN (σ 11 (iN x))) pu) 15 (10 * iN x + iN (σ 11 (iN x))) j) 11 (iN x) (σ 11 (iN x) + 1)
def rRfC (σ : Mem) (x : Int32) : Nat → Int32
  | 0 => 0
  | k + 1 => rRfC σ x k + if σ 19 k = x ∧ rRef σ k then 1 else 0
def fRule (σ : Mem) (x d f pu j : Int32) : Mem := if 0 < kRule σ x d f pu j then st2 σ 42 0 (kRule σ x d f pu j) else oRule (st2 σ 42 0 (kRule σ x d f pu j)) x d f pu j
def vRule (σ : Mem) (x d f pu j : Int32) : Int32 := if 0 < kRule σ x d f pu j then -1 else rRfC (oRule (st2 σ 42 0 (kRule σ x d f pu j)) x d f pu j) x (iN (σ 26 0))
theorem rWF_rule {σ : Mem} {x d f pu j : Int32} (h : rWF σ) (hx : isN (σ 11 (iN x)) 10) : rWF (oRule σ x d f pu j) := by
  obtain ⟨h1, h2, h3, h4, h5, h6, h7, h8, h9, h10, h11, h12, h13⟩ := h
  refine ⟨h1, h2, h3, h4, h5, h6, h7, h8, h9, fun k => ?_, h11, h12, h13⟩
  show isN (st2 _ 11 (iN x) (σ 11 (iN x) + 1) 11 k) 11
  rw [st2_a, beq_self_eq_true, Bool.true_and]
  by_cases q : k = iN x
  · rw [q, beq_self_eq_true]
    show isN (σ 11 (iN x) + 1) 11
    have e : σ 11 (iN x) + 1 = nI (iN (σ 11 (iN x)) + 1) := by rw [← nI_1, ← hx.1]
    have := hx.2
    rw [e]
    exact isN_nI (by omega) (by omega)
  · rw [show (k == iN x) = false by simp [q]]
    exact h10 k
abbrev rPair (σ : Mem) (x y : Int32) : Prop := rIn σ 16 x ∧ (0 ≤ y ∧ y ≤ 7)
abbrev rThere (σ : Mem) (x y z : Int32) : Prop := (0 ≤ x ∧ x ≤ 7) ∧ rIn σ 9 y ∧ rIn σ 16 z
def rSub (σ : Mem) (x y z : Int32) : Mem := if rThere σ x y z then rRun σ (iN y) 500 else σ
theorem rSub_fr (σ : Mem) (x y z : Int32) : rFr σ (rSub σ x y z) := by
  unfold rSub
  split
  · exact rRun_k.1
  · exact rFr.rf
def kSubmit (σ υ : Mem) (x y z : Int32) : Int32 := if ¬ rThere σ x y z then 1 else if ¬ υ 3 (iN y) = υ 10 (iN z) then 2 else if ¬ υ 41 0 = 1 ∨ υ 26 0 = 40 then 3 else 0
theorem kSubmit_0 {σ υ : Mem} {x y z : Int32} (k : ¬ 0 < kSubmit σ υ x y z) : rThere σ x y z ∧ υ 3 (iN y) = υ 10 (iN z) ∧ υ 41 0 = 1 ∧ ¬ υ 26 0 = 40 := by
  unfold kSubmit at k
  split at k
  · exact absurd (by decide) k
  · rename_i h1
    split at k
    · exact absurd (by decide) k
    · rename_i h2
      split at k
      · exact absurd (by decide) k
      · rename_i h3
        rw [not_or] at h3
        exact ⟨Decidable.not_not.mp h1, Decidable.not_not.mp h2, Decidable.not_not.mp h3.1, h3.2⟩
def oSubmit (σ : Mem) (x y z : Int32) : Mem :=
  st2 (st2 (st2 (st2 (st2 (st2 (st2 (st2 (st2 (st2 σ 6 (iN y) 1) 17 (iN (σ 26 0)) y) 18 (iN (σ 26 0)) x) 19 (iN (σ 26 0)) z) 20 (iN (σ 26 0)) (σ 31 0)) 22 (iN (σ 26 0)) (σ 40 0)) 23 (iN (σ 26 0)) (rPurse (σ 37 0) 32)) 24 (iN (σ 26 0)) (σ 38 0)) 25 (iN (σ 26 0)) (σ 39 0)) 26 0 (σ 26 0 + 1)
def fSubmit (σ : Mem) (x y z : Int32) : Mem := if 0 < kSubmit σ (rSub σ x y z) x y z then st2 (rSub σ x y z) 42 0 (kSubmit σ (rSub σ x y z) x y z) else oSubmit (st2 (rSub σ x y z) 42 0 (kSubmit σ (rSub σ x y z) x y z)) x y z
def vSubmit (σ : Mem) (x y z : Int32) : Int32 := if 0 < kSubmit σ (rSub σ x y z) x y z then -1 else rSub σ x y z 26 0 + 1 - 1
def fIn (σ : Mem) (k : Nat) (x : Int32) : Mem := st2 σ 42 0 (kIn σ k x)
def vJudged (σ : Mem) (x : Int32) : Int32 := if 0 < kIn σ 26 x then -1 else bI (rRef (fIn σ 26 x) (iN x)) + 2 * σ 21 (iN x)
def fStrike (σ : Mem) (x : Int32) : Mem := if 0 < kIn σ 26 x then st2 σ 42 0 (kIn σ 26 x) else st2 (st2 σ 42 0 (kIn σ 26 x)) 21 (iN x) (1 - σ 21 (iN x))
abbrev pStrike (σ : Mem) (x : Int32) : Prop := ¬ 0 < kIn σ 26 x ∧ 1 - σ 21 (iN x) = 1
