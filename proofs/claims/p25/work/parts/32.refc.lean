
theorem rClip_c {a hi i : Nat} {σ : Mem} (h : i < hi) : rClip a (hi - i) i σ = rClip a (hi - (i + 1)) (i + 1) (st2 σ 39 0 (σ 39 0 ||| if rWall σ a i then 4 else 0)) := by
  rw [show hi - i = (hi - (i + 1)) + 1 by omega]; rfl
theorem rClip_32 {a : Nat} : ∀ {n i : Nat} {σ : Mem}, rClip a n i σ 32 0 = σ 32 0
  | 0, _, _ => rfl
  | n + 1, i, σ => (rClip_32 (n := n) (i := i + 1)).trans rfl
theorem rHiN_lt {x y : Int32} (h1 : ∃ k : Nat, k < 512 ∧ x = nI k) (h2 : ∃ k : Nat, k < 512 ∧ y = nI k) : rHiN x y < 32 ∧ rLoN x y < 32 := by
  unfold rHiN rLoN
  have := (cN_x h1).2
  have := (cN_x h2).2
  split <;> exact ⟨by assumption, by assumption⟩
