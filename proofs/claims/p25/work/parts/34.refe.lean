
theorem rIn_x {σ : Mem} {k : Nat} {x : Int32} {b : Nat} (h : isN (σ k 0) b) (hb : b ≤ 1000) (p : rIn σ k x) : x = nI (iN x) ∧ iN x < iN (σ k 0) := by
  obtain ⟨p1, p2⟩ := p
  obtain ⟨j, hj, rfl⟩ := nI_of (Int32.not_lt.mpr p1)
  rw [iN, nI_clamp hj]
  refine ⟨rfl, ?_⟩
  rw [h.1] at p2
  have hk := h.2
  generalize iN (σ k 0) = K at p2 hk
  rcases Nat.lt_or_ge j K with q | q
  · exact q
  · exfalso
    have e := Int32.le_iff_toInt_le.mp p2
    rw [nI_toInt hj, show (1 : Int32) = nI 1 from rfl, pk_sub_toInt (by omega) (by omega)] at e
    omega
theorem rng_x {x : Int32} {n : Nat} (hn : n < 1000) (h : 0 ≤ x ∧ x ≤ nI n) : x = nI (iN x) ∧ iN x ≤ n := by
  obtain ⟨j, hj, rfl⟩ := nI_of (Int32.not_lt.mpr h.1)
  rw [iN, nI_clamp hj]
  exact ⟨rfl, by have := (nI_leI (a := j) (b := n) hj (by omega)).mp h.2; omega⟩
theorem st2_ss {σ : Mem} {k i : Nat} {v : Int32} : st2 σ k i v k i = v := by rw [st2_a, beq_self_eq_true, beq_self_eq_true]; rfl
def kLevel (σ : Mem) : Int32 := if σ 2 0 = 3 then 1 else 0
def fLevel (σ : Mem) : Mem := if 0 < kLevel σ then st2 σ 42 0 (kLevel σ) else st2 (st2 σ 42 0 (kLevel σ)) 2 0 (σ 2 0 + 1)
def vLevel (σ : Mem) : Int32 := if 0 < kLevel σ then -1 else σ 2 0 + 1 - 1
def rUsd (σ : Mem) (x : Int32) : Nat → Int32
  | 0 => 0
  | n + 1 => rUsd σ x n ||| bI (σ 3 n = x)
theorem rUsd_01 (σ : Mem) (x : Int32) : ∀ n, rUsd σ x n = 0 ∨ rUsd σ x n = 1
  | 0 => .inl rfl
  | n + 1 => bor_01 (rUsd_01 σ x n) bI_01
def rUsed (σ : Mem) (x : Int32) : Int32 := rUsd σ x (iN (σ 9 0))
abbrev rRngC (h t : Int32) : Prop := (-1 ≤ h ∧ h ≤ 6) ∧ (0 ≤ t ∧ t ≤ 2)
def kColumn (σ : Mem) (x y h t : Int32) : Int32 := if ¬ (rIn σ 2 x ∧ (0 ≤ y ∧ y ≤ 31)) then 1 else if ¬ rRngC h t then 2 else if ¬ rUsed σ x = 0 then 3 else 0
def oColumn (σ : Mem) (x y h t : Int32) : Mem := st2 (st2 σ 0 (32 * iN x + iN y) h) 1 (32 * iN x + iN y) t
def fColumn (σ : Mem) (x y h t : Int32) : Mem := if 0 < kColumn σ x y h t then st2 σ 42 0 (kColumn σ x y h t) else oColumn (st2 σ 42 0 (kColumn σ x y h t)) x y h t
theorem kColumn_0 {σ : Mem} {x y h t : Int32} (k : ¬ 0 < kColumn σ x y h t) : (rIn σ 2 x ∧ (0 ≤ y ∧ y ≤ 31)) ∧ rRngC h t ∧ rUsed σ x = 0 := by
  unfold kColumn at k
  split at k
  · exact absurd (by decide) k
  · rename_i h1
    split at k
    · exact absurd (by decide) k
    · rename_i h2
      split at k
      · exact absurd (by decide) k
      · rename_i h3
        exact ⟨Decidable.not_not.mp h1, Decidable.not_not.mp h2, Decidable.not_not.mp h3⟩
def kReplay (σ : Mem) (x : Int32) : Int32 := if ¬ rIn σ 2 x then 1 else if σ 9 0 = 20 then 2 else 0
def oReplay (σ : Mem) (x : Int32) : Mem := st2 (st2 σ 3 (iN (σ 9 0)) x) 9 0 (σ 9 0 + 1)
def fReplay (σ : Mem) (x : Int32) : Mem := if 0 < kReplay σ x then st2 σ 42 0 (kReplay σ x) else oReplay (st2 σ 42 0 (kReplay σ x)) x
def vReplay (σ : Mem) (x : Int32) : Int32 := if 0 < kReplay σ x then -1 else σ 9 0 + 1 - 1
theorem kReplay_0 {σ : Mem} {x : Int32} (k : ¬ 0 < kReplay σ x) : rIn σ 2 x ∧ ¬ σ 9 0 = 20 := by
  unfold kReplay at k
  split at k
  · exact absurd (by decide) k
  · rename_i h1
    split at k
    · exact absurd (by decide) k
    · rename_i h2
      exact ⟨Decidable.not_not.mp h1, h2⟩
theorem isN_ne {x : Int32} {b : Nat} (h : isN x (b + 1)) (hb : b < 1000) (hn : ¬ x = nI b) : iN x < b := by
  rcases Nat.lt_or_ge (iN x) b with q | q
  · exact q
  · exact absurd (by rw [h.1, show iN x = b by have := h.2; omega]) hn
def kCategory (σ : Mem) (x : Int32) : Int32 := if ¬ rIn σ 2 x then 1 else if σ 16 0 = 6 then 2 else 0
def oCategory (σ : Mem) (x : Int32) : Mem := st2 (st2 σ 10 (iN (σ 16 0)) x) 16 0 (σ 16 0 + 1)
def fCategory (σ : Mem) (x : Int32) : Mem := if 0 < kCategory σ x then st2 σ 42 0 (kCategory σ x) else oCategory (st2 σ 42 0 (kCategory σ x)) x
def vCategory (σ : Mem) (x : Int32) : Int32 := if 0 < kCategory σ x then -1 else σ 16 0 + 1 - 1
theorem kCategory_0 {σ : Mem} {x : Int32} (k : ¬ 0 < kCategory σ x) : rIn σ 2 x ∧ ¬ σ 16 0 = 6 := by
  unfold kCategory at k
  split at k
  · exact absurd (by decide) k
  · rename_i h1
    split at k
    · exact absurd (by decide) k
    · rename_i h2
      exact ⟨Decidable.not_not.mp h1, h2⟩
abbrev rRngI (b t : Int32) : Prop := (0 ≤ b ∧ b ≤ 15) ∧ (1 ≤ t ∧ t ≤ 100)
abbrev rFull (σ : Mem) (x b t : Int32) : Prop := rIn σ 9 x ∧ rRngI b t ∧ (σ 6 (iN x) = 1 ∨ σ 4 (iN x) = 20 ∨ 500 < σ 5 (iN x) + t)
def kInput (σ : Mem) (x b t : Int32) : Int32 := if ¬ rIn σ 9 x then 1 else if ¬ rRngI b t then 2 else if rFull σ x b t then 3 else 0
def oInput (σ : Mem) (x b t : Int32) : Mem :=
  st2 (st2 (st2 (st2 σ 7 (20 * iN x + iN (σ 4 (iN x))) b) 8 (20 * iN x + iN (σ 4 (iN x))) t) 4 (iN x) (σ 4 (iN x) + 1)) 5 (iN x) (σ 5 (iN x) + t)
def fInput (σ : Mem) (x b t : Int32) : Mem := if 0 < kInput σ x b t then st2 σ 42 0 (kInput σ x b t) else oInput (st2 σ 42 0 (kInput σ x b t)) x b t
def vInput (σ : Mem) (x b t : Int32) : Int32 := if 0 < kInput σ x b t then -1 else σ 5 (iN x) + t
theorem kInput_0 {σ : Mem} {x b t : Int32} (k : ¬ 0 < kInput σ x b t) : rIn σ 9 x ∧ rRngI b t ∧ ¬ rFull σ x b t := by
  unfold kInput at k
  split at k
  · exact absurd (by decide) k
  · rename_i h1
    split at k
    · exact absurd (by decide) k
    · rename_i h2
      split at k
      · exact absurd (by decide) k
      · rename_i h3
        exact ⟨Decidable.not_not.mp h1, Decidable.not_not.mp h2, h3⟩
def kIn (σ : Mem) (k : Nat) (x : Int32) : Int32 := if rIn σ k x then 0 else 1
theorem kIn_0 {σ : Mem} {k : Nat} {x : Int32} (h : ¬ 0 < kIn σ k x) : rIn σ k x := by
  unfold kIn at h
  split at h
  · assumption
  · exact absurd (by decide) h
theorem rWF.t {σ : Mem} {v : Int32} (h : rWF σ) : rWF (st2 σ 42 0 v) := h.fr (rFr.rf.st2 (by decide))
def fResult (σ : Mem) (x : Int32) : Mem := if 0 < kIn σ 9 x then st2 σ 42 0 (kIn σ 9 x) else rRun (st2 σ 42 0 (kIn σ 9 x)) (iN x) 500
def vResult (σ : Mem) (x : Int32) : Int32 := if 0 < kIn σ 9 x then -1 else 10 * rRun (st2 σ 42 0 (kIn σ 9 x)) (iN x) 500 40 0 + rRun (st2 σ 42 0 (kIn σ 9 x)) (iN x) 500 41 0
def vUsed (σ : Mem) (x : Int32) : Int32 := if 0 < kIn σ 9 x then -1 else 10000 * rPurse (rRun (st2 σ 42 0 (kIn σ 9 x)) (iN x) 500 37 0) 32 + 10 * rRun (st2 σ 42 0 (kIn σ 9 x)) (iN x) 500 38 0 + rRun (st2 σ 42 0 (kIn σ 9 x)) (iN x) 500 39 0
def rWh (σ : Mem) (x : Int32) : Mem := if rIn σ 9 x then rRun σ (iN x) 500 else σ
theorem rWh_fr (σ : Mem) (x : Int32) : rFr σ (rWh σ x) := by
  unfold rWh
  split
  · exact rRun_k.1
  · exact rFr.rf
def kWhere (σ : Mem) (x t : Int32) : Int32 := if rIn (rWh σ x) 9 x ∧ 0 ≤ t ∧ t ≤ rWh σ x 40 0 then 0 else 1
def fWhere (σ : Mem) (x t : Int32) : Mem := if 0 < kWhere σ x t then st2 (rWh σ x) 42 0 (kWhere σ x t) else rRun (st2 (rWh σ x) 42 0 (kWhere σ x t)) (iN x) t
def vWhere (σ : Mem) (x t : Int32) : Int32 := if 0 < kWhere σ x t then -1 else 1000 * rRun (st2 (rWh σ x) 42 0 (kWhere σ x t)) (iN x) t 33 0 + rRun (st2 (rWh σ x) 42 0 (kWhere σ x t)) (iN x) t 32 0
theorem kWhere_0 {σ : Mem} {x t : Int32} (h : ¬ 0 < kWhere σ x t) : rIn (rWh σ x) 9 x := by
  unfold kWhere at h
  split at h
  · rename_i q; exact q.1
  · exact absurd (by decide) h
abbrev rRngP (d : Int32) : Prop := 1 ≤ d ∧ d ≤ 100
def kPass (σ : Mem) (d : Int32) : Int32 := if ¬ rRngP d then 1 else if 1000 < σ 31 0 + d then 2 else 0
def fPass (σ : Mem) (d : Int32) : Mem := if 0 < kPass σ d then st2 σ 42 0 (kPass σ d) else st2 (st2 σ 42 0 (kPass σ d)) 31 0 (σ 31 0 + d)
def vPass (σ : Mem) (d : Int32) : Int32 := if 0 < kPass σ d then -1 else σ 31 0 + d
