
/-! boards -/
abbrev rAhd (σ : Mem) (a b : Nat) : Prop := if σ 22 a = σ 22 b then (if σ 20 a = σ 20 b then nI a < nI b else σ 20 a < σ 20 b) else σ 22 a < σ 22 b
def rTop (σ : Mem) (x y w : Int32) : Nat → Int32
  | 0 => -1
  | k + 1 => if (¬ nI k = w ∧ σ 19 k = x ∧ σ 18 k = y ∧ rCnt σ k) ∧ (rTop σ x y w k < 0 ∨ rAhd σ k (iN (rTop σ x y w k))) then nI k else rTop σ x y w k
theorem rTop_v (σ : Mem) (x y w : Int32) : ∀ n : Nat, rTop σ x y w n = -1 ∨ ∃ j, j < n ∧ rTop σ x y w n = nI j
  | 0 => .inl rfl
  | n + 1 => by
    unfold rTop
    split
    · exact .inr ⟨n, by omega, rfl⟩
    · rcases rTop_v σ x y w n with h | ⟨j, h1, h2⟩
      · exact .inl h
      · exact .inr ⟨j, by omega, h2⟩
theorem rTop_x {σ : Mem} {x y w v : Int32} {n : Nat} (hn : n ≤ 40) (e : v = rTop σ x y w n) (h : ¬ v < 0) : v = nI (iN v) ∧ iN v < n := by
  rcases rTop_v σ x y w n with h1 | ⟨j, h1, h2⟩
  · rw [e, h1] at h; exact absurd (by decide) h
  · rw [e, h2, iN, nI_clamp (by omega)]
    exact ⟨rfl, h1⟩
def rTopN (σ : Mem) (x y w : Int32) : Int32 := rTop σ x y w (iN (σ 26 0))
def vBest (σ : Mem) (x y : Int32) : Int32 := if 0 < (if rPair σ x y then (0 : Int32) else 1) then -1 else rTopN (st2 σ 42 0 (if rPair σ x y then 0 else 1)) x y (-1)
def kPair (σ : Mem) (x y : Int32) : Int32 := if rPair σ x y then 0 else 1
def fPair (σ : Mem) (x y : Int32) : Mem := st2 σ 42 0 (kPair σ x y)
theorem kPair_0 {σ : Mem} {x y : Int32} (h : ¬ 0 < kPair σ x y) : rPair σ x y := by
  unfold kPair at h
  split at h
  · assumption
  · exact absurd (by decide) h
/-- the best, anew: the memory, the run, its ticks -/
def rBA (σ : Mem) (x y : Int32) : Nat → Mem × Int32 × Int32
  | 0 => (σ, -1, 0)
  | k + 1 => if σ 19 k = x ∧ σ 18 k = y ∧ rCnt σ k then
      let υ := rRun (rBA σ x y k).1 (iN (σ 17 k)) 500
      let f := if (rBA σ x y k).2.1 < 0 ∨ υ 40 0 < (rBA σ x y k).2.2 then nI k else (rBA σ x y k).2.1
      (υ, f, if f = nI k then υ 40 0 else (rBA σ x y k).2.2)
    else rBA σ x y k
theorem rBA_fr {σ : Mem} {x y : Int32} : ∀ {k : Nat}, rFr σ (rBA σ x y k).1
  | 0 => rFr.rf
  | k + 1 => by
    unfold rBA
    split
    · exact (rBA_fr (k := k)).tr rRun_k.1
    · exact rBA_fr (k := k)
theorem rBA_n {σ τ : Mem} {x y f v : Int32} {k : Nat} (hS : rBA σ x y k = (τ, f, v)) (h : ¬ (σ 19 k = x ∧ σ 18 k = y ∧ rCnt σ k)) : rBA σ x y (k + 1) = (τ, f, v) := by
  rw [← hS]; exact if_neg h
theorem rBA_1 {σ τ : Mem} {x y f v : Int32} {k : Nat} (hS : rBA σ x y k = (τ, f, v)) (h : σ 19 k = x ∧ σ 18 k = y ∧ rCnt σ k) (c : f < 0 ∨ rRun τ (iN (σ 17 k)) 500 40 0 < v) : rBA σ x y (k + 1) = (rRun τ (iN (σ 17 k)) 500, nI k, rRun τ (iN (σ 17 k)) 500 40 0) := by
  show (if _ then _ else _) = _
  rw [if_pos h, hS]
  dsimp only
  rw [if_pos c, if_pos rfl]
theorem rBA_2 {σ τ : Mem} {x y f v : Int32} {k : Nat} (hS : rBA σ x y k = (τ, f, v)) (h : σ 19 k = x ∧ σ 18 k = y ∧ rCnt σ k) (c1 : ¬ f < 0) (c2 : ¬ rRun τ (iN (σ 17 k)) 500 40 0 < v) (c3 : f = nI k) : rBA σ x y (k + 1) = (rRun τ (iN (σ 17 k)) 500, f, rRun τ (iN (σ 17 k)) 500 40 0) := by
  show (if _ then _ else _) = _
  rw [if_pos h, hS]
  dsimp only
  rw [if_neg (fun q => q.elim c1 c2), if_pos c3]
theorem rBA_3 {σ τ : Mem} {x y f v : Int32} {k : Nat} (hS : rBA σ x y k = (τ, f, v)) (h : σ 19 k = x ∧ σ 18 k = y ∧ rCnt σ k) (c1 : ¬ f < 0) (c2 : ¬ rRun τ (iN (σ 17 k)) 500 40 0 < v) (c3 : ¬ f = nI k) : rBA σ x y (k + 1) = (rRun τ (iN (σ 17 k)) 500, f, v) := by
  show (if _ then _ else _) = _
  rw [if_pos h, hS]
  dsimp only
  rw [if_neg (fun q => q.elim c1 c2), if_neg c3]
theorem rLaw_fr {σ τ : Mem} (h : rFr σ τ) (a : Nat) (d : Int32) : ∀ i, rLaw τ a d i = rLaw σ a d i
  | 0 => rfl
  | i + 1 => by unfold rLaw; rw [rLaw_fr h a d i, h 12 (by decide)]
theorem rLawI_fr {σ τ : Mem} (h : rFr σ τ) (k : Nat) : rLawI τ k = rLawI σ k := by
  unfold rLawI
  rw [h 19 (by decide), h 20 (by decide), h 11 (by decide), rLaw_fr h]
theorem rCnt_fr {σ τ : Mem} (h : rFr σ τ) (k : Nat) : rCnt τ k = rCnt σ k := by
  unfold rCnt rRef rBad
  rw [rLawI_fr h, h 21 (by decide), h 25 (by decide), h 13 (by decide), h 23 (by decide), h 14 (by decide), h 15 (by decide), h 24 (by decide)]
def fBestAnew (σ : Mem) (x y : Int32) : Mem := if 0 < kPair σ x y then st2 σ 42 0 (kPair σ x y) else (rBA (st2 σ 42 0 (kPair σ x y)) x y (iN (σ 26 0))).1
def vBestAnew (σ : Mem) (x y : Int32) : Int32 := if 0 < kPair σ x y then -1 else (rBA (st2 σ 42 0 (kPair σ x y)) x y (iN (σ 26 0))).2.1
abbrev rLess (σ : Mem) (own o : Int32) : Prop := 0 ≤ own ∧ 0 ≤ o ∧ σ 22 (iN o) < σ 22 (iN own)
def rSpotL (σ : Mem) (x w own : Int32) : Nat → Int32
  | 0 => 1
  | k + 1 => rSpotL σ x w own k + if rLess σ own (rTopN σ x (nI k) w) then 1 else 0
def rSpot (σ : Mem) (x y w : Int32) : Int32 := if rTopN σ x y w < 0 then -1 else rSpotL σ x w (rTopN σ x y w) 8
def vPlace (σ : Mem) (x y : Int32) : Int32 := if 0 < kPair σ x y then -1 else rSpot (fPair σ x y) x y (-1)
def vBest2 (σ : Mem) (x y : Int32) : Int32 := if 0 < kPair σ x y then -1 else rTopN (fPair σ x y) x y (-1)
def vPlaceW (σ : Mem) (x : Int32) : Int32 := if 0 < kIn σ 26 x then -1 else rSpot (fIn σ 26 x) (σ 19 (iN x)) (σ 18 (iN x)) x
def rAtB (σ : Mem) (x own : Int32) : Nat → Int32
  | 0 => 0
  | j + 1 => rAtB σ x own j + if 0 ≤ rTopN σ x (nI j) (-1) ∧ rAhd σ (iN (rTopN σ x (nI j) (-1))) (iN own) then 1 else 0
def rBef (σ : Mem) (x own : Int32) : Int32 := if 0 ≤ own then rAtB σ x own 8 else 0
def rAtF (σ : Mem) (x z : Int32) : Nat → Int32
  | 0 => -1
  | k + 1 => if 0 ≤ rTopN σ x (nI k) (-1) ∧ rBef σ x (rTopN σ x (nI k) (-1)) = z then rTopN σ x (nI k) (-1) else rAtF σ x z k
def rAt (σ : Mem) (x z : Int32) : Int32 := if rIn σ 16 x then rAtF σ x z 8 else -1
def kAt (σ : Mem) (x z : Int32) : Int32 := if rAt σ x z < 0 then 1 else 0
def fAt (σ : Mem) (x z : Int32) : Mem := st2 σ 42 0 (kAt σ x z)
def vAt (σ : Mem) (x z : Int32) : Int32 := if 0 < kAt σ x z then -1 else rAt σ x z
/-- n runs are left to look at -/
def rGs (σ : Mem) (x y : Int32) : Nat → Int32 × Int32 → Int32 × Int32
  | 0, a => a
  | n + 1, a => if a.2 < 3 then rGs σ x y n (if σ 19 n = x ∧ σ 18 n = y ∧ rCnt σ n then (a.1 + σ 22 n, a.2 + 1) else a) else a
def rGsN (σ : Mem) (x y : Int32) : Int32 × Int32 := rGs σ x y (iN (σ 26 0)) (0, 0)
def rGuess (σ : Mem) (x y : Int32) : Int32 := if (rGsN σ x y).2 = 0 then -1 else (11 * (rGsN σ x y).1 + 10 * (rGsN σ x y).2 - 1) / (10 * (rGsN σ x y).2)
def vEst (σ : Mem) (x y : Int32) : Int32 := if 0 < kPair σ x y then -1 else rGuess (fPair σ x y) x y

theorem nI_m1 {n : Nat} (hn : n ≤ 1000) (h : ¬ nI n - 1 < 0) : ∃ m, n = m + 1 ∧ nI n - 1 = nI m := by
  cases n with
  | zero => exact absurd (by decide) h
  | succ m => exact ⟨m, rfl, nI_pred m⟩
theorem rGs_s {σ : Mem} {x y u v : Int32} {n : Nat} (c : v < 3) : rGs σ x y (n + 1) (u, v) = rGs σ x y n (if σ 19 n = x ∧ σ 18 n = y ∧ rCnt σ n then (u + σ 22 n, v + 1) else (u, v)) := by
  show (if _ then _ else _) = _
  rw [if_pos c]
theorem rGs_x {σ : Mem} {x y u v : Int32} {n : Nat} (c : ¬ v < 3) : rGs σ x y n (u, v) = (u, v) := by
  cases n with
  | zero => rfl
  | succ n => show (if _ then _ else _) = _; rw [if_neg c]

theorem rGs_y {σ : Mem} {x y u v : Int32} {n : Nat} (c : v < 3) (h : σ 19 n = x ∧ σ 18 n = y ∧ rCnt σ n) : rGs σ x y n (u + σ 22 n, v + 1) = rGs σ x y (n + 1) (u, v) := by rw [rGs_s c, if_pos h]
theorem rGs_n {σ : Mem} {x y u v : Int32} {n : Nat} (c : v < 3) (h : ¬ (σ 19 n = x ∧ σ 18 n = y ∧ rCnt σ n)) : rGs σ x y n (u, v) = rGs σ x y (n + 1) (u, v) := by rw [rGs_s c, if_neg h]
theorem rAtB_1 {σ : Mem} {x own b : Int32} {j : Nat} (e : b = rAtB σ x own j) (h1 : 0 ≤ rTopN σ x (nI j) (-1)) (h2 : rAhd σ (iN (rTopN σ x (nI j) (-1))) (iN own)) : b + 1 = rAtB σ x own (j + 1) := by
  show _ = rAtB σ x own j + (if _ then _ else _)
  rw [if_pos ⟨h1, h2⟩, e]
theorem rAtB_2 {σ : Mem} {x own b : Int32} {j : Nat} (e : b = rAtB σ x own j) (h : ¬ (0 ≤ rTopN σ x (nI j) (-1) ∧ rAhd σ (iN (rTopN σ x (nI j) (-1))) (iN own))) : b + 0 = rAtB σ x own (j + 1) := by
  show _ = rAtB σ x own j + (if _ then _ else _)
  rw [if_neg h, e]
theorem rAtF_1 {σ : Mem} {x z f : Int32} {k : Nat} (e : f = rAtF σ x z k) (h : rTopN σ x (nI k) (-1) < 0) : f = rAtF σ x z (k + 1) := by
  show _ = (if _ then _ else _)
  rw [if_neg (fun q => absurd q.1 (Int32.not_le.mpr h)), e]
theorem rAtF_2 {σ : Mem} {x z b : Int32} {k : Nat} (h : 0 ≤ rTopN σ x (nI k) (-1)) (e : b = rAtB σ x (rTopN σ x (nI k) (-1)) 8) (c : b = z) : rTopN σ x (nI k) (-1) = rAtF σ x z (k + 1) := by
  show _ = (if _ then _ else _)
  rw [if_pos ⟨h, by unfold rBef; rw [if_pos h, ← e, c]⟩]
theorem rAtF_3 {σ : Mem} {x z b f : Int32} {k : Nat} (e0 : f = rAtF σ x z k) (h : 0 ≤ rTopN σ x (nI k) (-1)) (e : b = rAtB σ x (rTopN σ x (nI k) (-1)) 8) (c : ¬ b = z) : f = rAtF σ x z (k + 1) := by
  show _ = (if _ then _ else _)
  rw [if_neg (fun q => c (by have := q.2; unfold rBef at this; rw [if_pos h, ← e] at this; exact this)), e0]

theorem v_up {v : Int32} (h : ∃ j : Nat, j ≤ 3 ∧ v = nI j) (c : v < 3) : ∃ j : Nat, j ≤ 3 ∧ v + 1 = nI j := by
  obtain ⟨j, hj, rfl⟩ := h
  have := (nI_ltI (a := j) (b := 3) (by omega) (by decide)).mp c
  exact ⟨j + 1, by omega, nI_1 j⟩
theorem v_10 {v : Int32} (h : ∃ j : Nat, j ≤ 3 ∧ v = nI j) (c : ¬ v = 0) : ¬ 10 * v = 0 := by
  obtain ⟨j, hj, rfl⟩ := h
  rw [show (10 : Int32) * nI j = nI (10 * j) from pk_mul 10 j]
  intro q
  have : 10 * j = 0 := (nI_eq (b := 0) (by omega) (by decide)).mp q
  exact c (by rw [show j = 0 by omega]; rfl)
