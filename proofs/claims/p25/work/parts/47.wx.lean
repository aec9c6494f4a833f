/-! what stays true of the reference's memory -/
/-- the ticks of the first n pieces of a replay -/
def rLen (σ : Mem) (r : Nat) : Nat → Nat
  | 0 => 0
  | p + 1 => rLen σ r p + iN (σ 8 (20 * r + p))
/-- days go up, none is before 0 -/
def wDay (σ : Mem) : Prop := (∀ j k, k ≤ j → j < iN (σ 26 0) → σ 20 k ≤ σ 20 j) ∧ (∀ k, k < iN (σ 26 0) → 0 ≤ σ 20 k ∧ σ 20 k ≤ σ 31 0) ∧ 0 ≤ σ 31 0 ∧ σ 31 0 ≤ 1000
def wRul (σ : Mem) : Prop := ∀ k j, k < iN (σ 16 0) → j < iN (σ 11 k) → 0 ≤ σ 12 (10 * k + j) ∧ 0 ≤ σ 13 (10 * k + j) ∧ σ 13 (10 * k + j) ≤ 7
/-- nothing beyond what is counted -/
def wNil (σ : Mem) : Prop := (∀ j, 32 * iN (σ 2 0) ≤ j → σ 0 j = 0 ∧ σ 1 j = 0) ∧ (∀ k, iN (σ 9 0) ≤ k → σ 4 k = 0 ∧ σ 5 k = 0 ∧ σ 6 k = 0) ∧ (∀ k, iN (σ 16 0) ≤ k → σ 11 k = 0) ∧ (∀ k, iN (σ 26 0) ≤ k → σ 21 k = 0) ∧ (∀ k, iN (σ 30 0) ≤ k → σ 29 k = 0)
def wFlg (σ : Mem) : Prop := (∀ k, σ 6 k = 0 ∨ σ 6 k = 1) ∧ (∀ k, σ 21 k = 0 ∨ σ 21 k = 1)
def wLen (σ : Mem) : Prop := ∀ k, σ 5 k = nI (rLen σ k (iN (σ 4 k))) ∧ rLen σ k (iN (σ 4 k)) ≤ 500
/-- a run keeps what its replay's hero did -/
def wRun (σ : Mem) : Prop := ∀ r, r < iN (σ 26 0) → σ 6 (iN (σ 17 r)) = 1 ∧ σ 22 r = heroR σ (iN (σ 17 r)) 10 ∧ σ 23 r = heroR σ (iN (σ 17 r)) 7 ∧ σ 24 r = heroR σ (iN (σ 17 r)) 8 ∧ σ 25 r = heroR σ (iN (σ 17 r)) 9 ∧ heroR σ (iN (σ 17 r)) 11 = 1
def WX (σ : Mem) : Prop := rWF σ ∧ wDay σ ∧ wRul σ ∧ wNil σ ∧ wFlg σ ∧ wLen σ ∧ wRun σ
section WXS
variable {σ : Mem} {k : Nat}
theorem WX.wl (hW : WX σ) (h : k < iN (σ 9 0)) : iN (σ 3 k) < iN (σ 2 0) := (hW.1.2.2.2.2.2.1 k h).2
theorem WX.wk (hW : WX σ) (h : k < iN (σ 16 0)) : iN (σ 10 k) < iN (σ 2 0) := (hW.1.2.2.2.2.2.2.2.2.1 k h).2
theorem WX.wt (hW : WX σ) (h : k < iN (σ 26 0)) : iN (σ 17 k) < iN (σ 9 0) := (hW.1.2.2.2.2.2.2.2.2.2.2.1 k h).2
theorem WX.wc (hW : WX σ) (h : k < iN (σ 26 0)) : iN (σ 19 k) < iN (σ 16 0) := (hW.1.2.2.2.2.2.2.2.2.2.2.2.1 k h).2
theorem WX.wo (hW : WX σ) (h : k < iN (σ 30 0)) : iN (σ 27 k) < iN (σ 16 0) := (hW.1.2.2.2.2.2.2.2.2.2.2.2.2 k h).2
theorem WX.b0 (hW : WX σ) : lsN σ 0 ≤ 40 := by have := hW.1.1.2; show iN (σ 2 0) ≤ 40; omega
theorem WX.b1 (hW : WX σ) : lsN σ 1 ≤ 40 := by have := hW.1.2.1.2; show iN (σ 9 0) ≤ 40; omega
theorem WX.b2 (hW : WX σ) : lsN σ 2 ≤ 40 := by have := hW.1.2.2.1.2; show iN (σ 16 0) ≤ 40; omega
theorem WX.b3 (hW : WX σ) : lsN σ 3 ≤ 40 := by have := hW.1.2.2.2.1.2; show iN (σ 26 0) ≤ 40; omega
theorem WX.b4 (hW : WX σ) : lsN σ 4 ≤ 40 := by have := hW.1.2.2.2.2.1.2; show iN (σ 30 0) ≤ 40; omega
theorem WX.b5 (hW : WX σ) (k : Nat) : iN (σ 11 k) ≤ 40 := by have := (hW.1.2.2.2.2.2.2.2.2.2.1 k).2; omega
theorem WX.u10 (hW : WX σ) {j : Nat} (h : j < iN (σ 11 k)) : j < 10 := by have := (hW.1.2.2.2.2.2.2.2.2.2.1 k).2; omega
theorem WX.nL (hW : WX σ) : σ 2 0 = nI (iN (σ 2 0)) := hW.1.1.1
theorem WX.nR (hW : WX σ) : σ 9 0 = nI (iN (σ 9 0)) := hW.1.2.1.1
theorem WX.nK (hW : WX σ) : σ 16 0 = nI (iN (σ 16 0)) := hW.1.2.2.1.1
theorem WX.nN (hW : WX σ) : σ 26 0 = nI (iN (σ 26 0)) := hW.1.2.2.2.1.1
theorem WX.nO (hW : WX σ) : σ 30 0 = nI (iN (σ 30 0)) := hW.1.2.2.2.2.1.1
end WXS
