
/-! the hero of the reference -/
/-- the place is one of the 512, the two flags are 0 or 1 -/
def rHW (σ : Mem) : Prop := (∃ x : Nat, x < 512 ∧ σ 32 0 = nI x) ∧ (σ 35 0 = 0 ∨ σ 35 0 = 1) ∧ (σ 36 0 = 0 ∨ σ 36 0 = 1)
def cN (x : Int32) : Nat := (x / 16).toNatClampNeg
theorem cN_x {x : Int32} (h : ∃ k : Nat, k < 512 ∧ x = nI k) : x / 16 = nI (cN x) ∧ cN x < 32 := by
  obtain ⟨k, hk, rfl⟩ := h
  have e : nI k / 16 = nI (k / 16) := pk_div (d := 16) (by omega) (by decide) (by decide)
  unfold cN
  rw [e, nI_clamp (by omega)]
  exact ⟨rfl, by omega⟩
def rStart (σ : Mem) (a : Nat) : Mem := st2 (st2 (st2 (st2 (st2 (st2 (st2 (st2 (st2 (st2 σ 32 0 8) 33 0 (if rGap σ a 0 then 0 else rGnd σ a 0)) 34 0 0) 35 0 1) 36 0 1) 37 0 0) 38 0 0) 39 0 0) 40 0 0) 41 0 0
def rWay0 (b : Int32) : Int32 := if b &&& 3 = 2 then 4 else if b &&& 3 = 1 then -4 else 0
abbrev rDash (σ : Mem) (b f : Int32) : Prop := 0 < f &&& 8 ∧ ¬ rWay0 b = 0 ∧ ¬ σ 36 0 = 0
def rWay (σ : Mem) (b f : Int32) : Int32 := if rDash σ b f then rWay0 b * 5 else rWay0 b
def rWayM (σ : Mem) (b f : Int32) : Mem := if rDash σ b f then st2 (st2 σ 36 0 0) 39 0 (σ 39 0 ||| 2) else σ
def rWayM2 (σ : Mem) (w : Int32) : Mem := st2 σ 39 0 (σ 39 0 ||| bI (w < 0))
def rTo (x : Int32) : Int32 := if x < 0 then 0 else if 511 < x then 511 else x
def rClip (a : Nat) : Nat → Nat → Mem → Mem
  | 0, _, σ => σ
  | n + 1, i, σ => rClip a n (i + 1) (st2 σ 39 0 (σ 39 0 ||| if rWall σ a i then 4 else 0))
def rLoN (x y : Int32) : Nat := if x < y then cN x else cN y
def rHiN (x y : Int32) : Nat := if x < y then cN y else cN x
def rGo (σ : Mem) (a : Nat) (w : Int32) : Mem := if rWall σ a (cN (rTo (σ 32 0 + w))) then σ else
  st2 (rClip a (rHiN (σ 32 0) (rTo (σ 32 0 + w)) - (rLoN (σ 32 0) (rTo (σ 32 0 + w)) + 1)) (rLoN (σ 32 0) (rTo (σ 32 0 + w)) + 1) σ) 32 0 (rTo (σ 32 0 + w))
def rFall1 (σ : Mem) (a : Nat) : Mem := if ¬ σ 35 0 = 0 ∧ (rGap σ a (cN (σ 32 0)) ∨ rGnd σ a (cN (σ 32 0)) < σ 33 0) then st2 (st2 σ 35 0 0) 34 0 0 else σ
def rSp (v : Int32) : Int32 := if v - 2 < -14 then -14 else v - 2
def rFall2 (σ : Mem) : Mem := st2 (st2 σ 34 0 (rSp (σ 34 0))) 33 0 (σ 33 0 + rSp (σ 34 0))
def rFall3 (σ : Mem) (a b : Nat) : Mem := if ¬ rGap σ a b ∧ σ 34 0 ≤ 0 ∧ σ 33 0 ≤ rGnd σ a b then st2 (st2 (st2 σ 35 0 1) 33 0 (rGnd σ a b)) 34 0 0 else σ
def rFall4 (σ : Mem) (a b : Nat) : Mem := if σ 35 0 = 0 then rFall3 (rFall2 σ) a b else σ
def rFall (σ : Mem) (a : Nat) : Mem :=
  let τ := rFall4 (rFall1 σ a) a (cN (σ 32 0))
  st2 τ 36 0 (τ 36 0 ||| τ 35 0)
def rBase (σ : Mem) (a b : Nat) : Int32 := if rGap σ a b then 0 else rGnd σ a b
def rMeet1 (σ : Mem) (a b : Nat) : Mem := if σ 1 (32 * a + b) = 1 ∧ σ 33 0 - rBase σ a b ≤ 24 then st2 σ 37 0 (σ 37 0 ||| (1 <<< (nI b &&& 31))) else σ
def rFate (σ : Mem) (b : Nat) (x : Int32) : Int32 := if σ 33 0 < -32 ∨ (¬ σ 35 0 = 0 ∧ x = 2) then 2 else if nI b = 31 then 1 else 0
def rMeet (σ : Mem) (a : Nat) : Mem :=
  let τ := rMeet1 σ a (cN (σ 32 0))
  st2 τ 41 0 (rFate τ (cN (σ 32 0)) (σ 1 (32 * a + cN (σ 32 0))))
def rNew (b f : Int32) : Int32 := b &&& (f ^^^ (-1))
def rJump (σ : Mem) (f : Int32) : Mem := if 0 < f &&& 4 ∧ ¬ σ 35 0 = 0 then st2 (st2 (st2 σ 34 0 14) 35 0 0) 38 0 (σ 38 0 + 1) else σ
def rWayS (σ : Mem) (b f : Int32) : Mem := rWayM2 (rWayM σ b f) (rWay σ b f)
def rTick (σ : Mem) (a : Nat) (b f : Int32) : Mem :=
  let τ := rMeet (rFall (rGo (rJump (rWayS σ b (rNew b f)) (rNew b f)) a (rWay σ b (rNew b f))) a) a
  st2 τ 40 0 (τ 40 0 + 1)

theorem rTo_x (x : Int32) : ∃ k : Nat, k < 512 ∧ rTo x = nI k := by
  unfold rTo
  by_cases h : x < 0
  · exact ⟨0, by omega, by rw [if_pos h]; rfl⟩
  · rw [if_neg h]
    by_cases h2 : 511 < x
    · exact ⟨511, by omega, by rw [if_pos h2]; rfl⟩
    · rw [if_neg h2]
      obtain ⟨j, hj, rfl⟩ := nI_of h
      refine ⟨j, ?_, rfl⟩
      rcases Nat.lt_or_ge j 512 with h3 | h3
      · exact h3
      · exact absurd (nI_lt (a := 511) (b := j) h3 hj) h2
theorem rHW_st2 {σ : Mem} {k : Nat} {v : Int32} (h : rHW σ) (h1 : ¬ k = 32) (h2 : ¬ k = 35) (h3 : ¬ k = 36) : rHW (st2 σ k 0 v) := by
  unfold rHW
  simp only [st2_a]
  rw [show (32 == k) = false by simp; omega, show (35 == k) = false by simp; omega, show (36 == k) = false by simp; omega]
  exact h
theorem rHW_35 {σ : Mem} {v : Int32} (h : rHW σ) (hv : v = 0 ∨ v = 1) : rHW (st2 σ 35 0 v) := ⟨h.1, hv, h.2.2⟩
theorem rHW_36 {σ : Mem} {v : Int32} (h : rHW σ) (hv : v = 0 ∨ v = 1) : rHW (st2 σ 36 0 v) := ⟨h.1, h.2.1, hv⟩
theorem rHW_32 {σ : Mem} {v : Int32} (h : rHW σ) (hv : ∃ x : Nat, x < 512 ∧ v = nI x) : rHW (st2 σ 32 0 v) := ⟨hv, h.2.1, h.2.2⟩
theorem rHW_start (σ : Mem) (a : Nat) : rHW (rStart σ a) := ⟨⟨8, by omega, rfl⟩, Or.inr rfl, Or.inr rfl⟩
theorem rHW_way {σ : Mem} {b f : Int32} (h : rHW σ) : rHW (rWayS σ b f) := by
  unfold rWayS rWayM2 rWayM
  split
  · exact rHW_st2 (rHW_st2 (rHW_36 h (Or.inl rfl)) (by decide) (by decide) (by decide)) (by decide) (by decide) (by decide)
  · exact rHW_st2 h (by decide) (by decide) (by decide)
theorem rHW_jump {σ : Mem} {f : Int32} (h : rHW σ) : rHW (rJump σ f) := by
  unfold rJump
  split
  · exact rHW_st2 (rHW_35 (rHW_st2 h (by decide) (by decide) (by decide)) (Or.inl rfl)) (by decide) (by decide) (by decide)
  · exact h
theorem rHW_clip {a : Nat} : ∀ {n i : Nat} {σ : Mem}, rHW σ → rHW (rClip a n i σ)
  | 0, _, _, h => h
  | n + 1, i, σ, h => rHW_clip (n := n) (i := i + 1) (rHW_st2 (k := 39) h (by decide) (by decide) (by decide))
theorem rHW_go {σ : Mem} {a : Nat} {w : Int32} (h : rHW σ) : rHW (rGo σ a w) := by
  unfold rGo
  split
  · exact h
  · exact rHW_32 (rHW_clip h) (rTo_x _)
theorem rHW_f1 {σ : Mem} {a : Nat} (h : rHW σ) : rHW (rFall1 σ a) := by
  unfold rFall1
  split
  · exact rHW_st2 (rHW_35 h (Or.inl rfl)) (by decide) (by decide) (by decide)
  · exact h
theorem rHW_f2 {σ : Mem} (h : rHW σ) : rHW (rFall2 σ) := rHW_st2 (rHW_st2 h (by decide) (by decide) (by decide)) (by decide) (by decide) (by decide)
theorem rHW_f4 {σ : Mem} {a b : Nat} (h : rHW σ) : rHW (rFall4 σ a b) := by
  unfold rFall4 rFall3
  split
  · split
    · exact rHW_st2 (rHW_st2 (rHW_35 (rHW_f2 h) (Or.inr rfl)) (by decide) (by decide) (by decide)) (by decide) (by decide) (by decide)
    · exact rHW_f2 h
  · exact h
theorem bor_01 {x y : Int32} (h1 : x = 0 ∨ x = 1) (h2 : y = 0 ∨ y = 1) : x ||| y = 0 ∨ x ||| y = 1 := by
  rcases h1 with rfl | rfl <;> rcases h2 with rfl | rfl <;> decide
theorem rHW_fall {σ : Mem} {a : Nat} (h : rHW σ) : rHW (rFall σ a) := by
  have h4 := rHW_f4 (a := a) (b := cN (σ 32 0)) (rHW_f1 (a := a) h)
  exact rHW_36 h4 (bor_01 h4.2.2 h4.2.1)
theorem rHW_meet {σ : Mem} {a : Nat} (h : rHW σ) : rHW (rMeet σ a) := by
  unfold rMeet rMeet1
  refine rHW_st2 ?_ (by decide) (by decide) (by decide)
  split
  · exact rHW_st2 h (by decide) (by decide) (by decide)
  · exact h
theorem rHW_tick {σ : Mem} {a : Nat} {b f : Int32} (h : rHW σ) : rHW (rTick σ a b f) := rHW_st2 (rHW_meet (rHW_fall (rHW_go (rHW_jump (rHW_way h))))) (by decide) (by decide) (by decide)
theorem rFall1_32 (σ : Mem) (a : Nat) : rFall1 σ a 32 0 = σ 32 0 := by unfold rFall1; split <;> rfl
