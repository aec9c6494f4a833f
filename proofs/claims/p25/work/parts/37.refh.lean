
abbrev rOpen (σ : Mem) (o : Nat) : Prop := 0 ≤ rTopN σ (σ 27 o) (σ 28 o) (-1)
def rAgn (σ : Mem) (x y : Int32) : Nat → Int32
  | 0 => 0
  | n + 1 => rAgn σ x y n ||| bI (σ 27 n = x ∧ σ 28 n = y)
abbrev rBar (σ : Mem) (x y : Int32) : Prop := rPair σ x y ∧ (¬ rAgn σ x y (iN (σ 30 0)) = 0 ∨ σ 30 0 = 10 ∨ rTopN σ x y (-1) < 0)
def kOffer (σ : Mem) (x y : Int32) : Int32 := if ¬ rPair σ x y then 1 else if rBar σ x y then 2 else 0
theorem kOffer_0 {σ : Mem} {x y : Int32} (k : ¬ 0 < kOffer σ x y) : rPair σ x y ∧ ¬ rBar σ x y := by
  unfold kOffer at k
  split at k
  · exact absurd (by decide) k
  · rename_i h1
    split at k
    · exact absurd (by decide) k
    · rename_i h2
      exact ⟨Decidable.not_not.mp h1, h2⟩
def oOffer (σ : Mem) (x y : Int32) : Mem := st2 (st2 (st2 σ 27 (iN (σ 30 0)) x) 28 (iN (σ 30 0)) y) 30 0 (σ 30 0 + 1)
def fOffer (σ : Mem) (x y : Int32) : Mem := if 0 < kOffer σ x y then st2 σ 42 0 (kOffer σ x y) else oOffer (st2 σ 42 0 (kOffer σ x y)) x y
def vOffer (σ : Mem) (x y : Int32) : Int32 := if 0 < kOffer σ x y then -1 else σ 30 0 + 1 - 1
def kGift (σ : Mem) (x a : Int32) : Int32 := if ¬ rIn σ 30 x then 1 else if ¬ (1 ≤ a ∧ a ≤ 1000) then 2 else if rOpen σ (iN x) then 0 else 3
theorem kGift_0 {σ : Mem} {x a : Int32} (k : ¬ 0 < kGift σ x a) : rIn σ 30 x ∧ (1 ≤ a ∧ a ≤ 1000) ∧ rOpen σ (iN x) := by
  unfold kGift at k
  split at k
  · exact absurd (by decide) k
  · rename_i h1
    split at k
    · exact absurd (by decide) k
    · rename_i h2
      split at k
      · rename_i h3; exact ⟨Decidable.not_not.mp h1, Decidable.not_not.mp h2, h3⟩
      · exact absurd (by decide) k
def fGift (σ : Mem) (x a : Int32) : Mem := if 0 < kGift σ x a then st2 σ 42 0 (kGift σ x a) else st2 (st2 σ 42 0 (kGift σ x a)) 29 (iN x) (σ 29 (iN x) + a)
def vGift (σ : Mem) (x a : Int32) : Int32 := if 0 < kGift σ x a then -1 else σ 29 (iN x) + a
def kPlan (r : Int32) : Int32 := if 0 ≤ r ∧ r ≤ 10000 then 0 else 1
abbrev rBit (s k : Nat) : Prop := nI s >>> (nI k &&& 31) &&& 1 = 1
/-- a set: its gifts, its estimates, whether all are open -/
def rPl1 (σ : Mem) (s : Nat) : Nat → Int32 × Int32 × Int32
  | 0 => (0, 0, 1)
  | k + 1 => if rBit s k then ((rPl1 σ s k).1 + σ 29 k, (rPl1 σ s k).2.1 + rGuess σ (σ 27 k) (σ 28 k), (rPl1 σ s k).2.2 &&& bI (0 ≤ rGuess σ (σ 27 k) (σ 28 k))) else rPl1 σ s k
abbrev rPlB (r : Int32) (a : Int32 × Int32 × Int32) (b : Int32 × Int32 × Int32) : Prop := ¬ a.2.2 = 0 ∧ a.2.1 ≤ r ∧ (b.2.1 < a.1 ∨ (a.1 = b.2.1 ∧ a.2.1 < b.2.2))
/-- the sets up to s: the best, its gifts, its time -/
def rPl2 (σ : Mem) (r : Int32) (O : Nat) : Nat → Int32 × Int32 × Int32
  | 0 => (0, 0, 0)
  | s + 1 => if rPlB r (rPl1 σ s O) (rPl2 σ r O s) then (nI s, (rPl1 σ s O).1, (rPl1 σ s O).2.1) else rPl2 σ r O s
def fPlan (σ : Mem) (r : Int32) : Mem := st2 σ 42 0 (kPlan r)
def vPlan (σ : Mem) (r : Int32) : Int32 := if 0 < kPlan r then -1 else (rPl2 (fPlan σ r) r (iN (σ 30 0)) (2 ^ iN (σ 30 0))).1
theorem shl_p {O : Nat} (h : O < 11) : (1 : Int32) <<< (nI O &&& 31) = nI (2 ^ O) := by
  have : ∀ k : Fin 11, (1 : Int32) <<< (nI k.1 &&& 31) = nI (2 ^ k.1) := by decide
  exact this ⟨O, h⟩
theorem pow_b {O : Nat} (h : O < 11) : 2 ^ O ≤ 1024 := by
  have : ∀ k : Fin 11, 2 ^ k.1 ≤ 1024 := by decide
  exact this ⟨O, h⟩
theorem rAgn_01 (σ : Mem) (x y : Int32) : ∀ n, rAgn σ x y n = 0 ∨ rAgn σ x y n = 1
  | 0 => .inl rfl
  | n + 1 => bor_01 (rAgn_01 σ x y n) bI_01
theorem rPl1_y {σ : Mem} {s k : Nat} {u v w : Int32} (hS : rPl1 σ s k = (u, v, w)) (h : rBit s k) {b : Int32} (hb : b = bI (0 ≤ rGuess σ (σ 27 k) (σ 28 k))) : rPl1 σ s (k + 1) = (u + σ 29 k, v + rGuess σ (σ 27 k) (σ 28 k), w &&& b) := by
  show (if _ then _ else _) = _
  rw [if_pos h, hS, hb]
theorem rPl1_n {σ : Mem} {s k : Nat} {u v w : Int32} (hS : rPl1 σ s k = (u, v, w)) (h : ¬ rBit s k) : rPl1 σ s (k + 1) = (u, v, w) := by
  show (if _ then _ else _) = _
  rw [if_neg h, hS]
theorem rPl2_y {σ : Mem} {r : Int32} {O s : Nat} {a b c u v w : Int32} (hS : rPl2 σ r O s = (a, b, c)) (h1 : rPl1 σ s O = (u, v, w)) (h : rPlB r (u, v, w) (a, b, c)) : rPl2 σ r O (s + 1) = (nI s, u, v) := by
  show (if _ then _ else _) = _
  rw [h1, hS, if_pos h]
theorem rPl2_n {σ : Mem} {r : Int32} {O s : Nat} {a b c u v w : Int32} (hS : rPl2 σ r O s = (a, b, c)) (h1 : rPl1 σ s O = (u, v, w)) (h : ¬ rPlB r (u, v, w) (a, b, c)) : rPl2 σ r O (s + 1) = (a, b, c) := by
  show (if _ then _ else _) = _
  rw [h1, hS, if_neg h]
