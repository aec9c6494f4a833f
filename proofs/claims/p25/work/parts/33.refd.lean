
/-! running a replay -/
abbrev iN (x : Int32) : Nat := x.toNatClampNeg
def isN (x : Int32) (b : Nat) : Prop := x = nI (iN x) ∧ iN x < b
theorem isN_nI {n b : Nat} (h : n < b) (hb : b ≤ 100000) : isN (nI n) b := by
  have e : iN (nI n) = n := nI_clamp (by omega)
  exact ⟨by rw [e], by rw [e]; exact h⟩
def rFr (σ τ : Mem) : Prop := ∀ k : Nat, k < 32 → τ k = σ k
theorem rFr.st2 {σ τ : Mem} {k : Nat} {v : Int32} (h : rFr σ τ) (hk : 32 ≤ k) : rFr σ (st2 τ k 0 v) := by
  intro j hj
  rw [← h j hj]
  funext i
  rw [st2_a, show (j == k) = false by simp; omega]
  rfl
theorem rFr.rf {σ : Mem} : rFr σ σ := fun _ _ => rfl
theorem rFr.tr {σ τ υ : Mem} (h : rFr σ τ) (h2 : rFr τ υ) : rFr σ υ := fun k hk => (h2 k hk).trans (h k hk)
theorem rFr_start {σ τ : Mem} {a : Nat} (h : rFr σ τ) : rFr σ (rStart τ a) := by
  unfold rStart
  exact ((((((((((h.st2 (by decide)).st2 (by decide)).st2 (by decide)).st2 (by decide)).st2 (by decide)).st2 (by decide)).st2 (by decide)).st2 (by decide)).st2 (by decide)).st2 (by decide))
theorem rFr_way {σ τ : Mem} {b f : Int32} (h : rFr σ τ) : rFr σ (rWayS τ b f) := by
  unfold rWayS rWayM2 rWayM
  split
  · exact ((h.st2 (by decide)).st2 (by decide)).st2 (by decide)
  · exact h.st2 (by decide)
theorem rFr_jump {σ τ : Mem} {f : Int32} (h : rFr σ τ) : rFr σ (rJump τ f) := by
  unfold rJump
  split
  · exact ((h.st2 (by decide)).st2 (by decide)).st2 (by decide)
  · exact h
theorem rFr_clip {σ : Mem} {a : Nat} : ∀ {n i : Nat} {τ : Mem}, rFr σ τ → rFr σ (rClip a n i τ)
  | 0, _, _, h => h
  | n + 1, i, τ, h => rFr_clip (n := n) (i := i + 1) (h.st2 (k := 39) (by decide))
theorem rFr_go {σ τ : Mem} {a : Nat} {w : Int32} (h : rFr σ τ) : rFr σ (rGo τ a w) := by
  unfold rGo
  split
  · exact h
  · exact (rFr_clip h).st2 (by decide)
theorem rFr_fall {σ τ : Mem} {a : Nat} (h : rFr σ τ) : rFr σ (rFall τ a) := by
  unfold rFall
  refine rFr.st2 ?_ (by decide)
  have h1 : rFr σ (rFall1 τ a) := by
    unfold rFall1
    split
    · exact (h.st2 (by decide)).st2 (by decide)
    · exact h
  have h2 : rFr σ (rFall2 (rFall1 τ a)) := (h1.st2 (by decide)).st2 (by decide)
  unfold rFall4 rFall3
  split
  · split
    · exact ((h2.st2 (by decide)).st2 (by decide)).st2 (by decide)
    · exact h2
  · exact h1
theorem rFr_meet {σ τ : Mem} {a : Nat} (h : rFr σ τ) : rFr σ (rMeet τ a) := by
  unfold rMeet rMeet1
  refine rFr.st2 ?_ (by decide)
  split
  · exact h.st2 (by decide)
  · exact h
theorem rFr_tick {σ τ : Mem} {a : Nat} {b f : Int32} (h : rFr σ τ) : rFr σ (rTick τ a b f) := (rFr_meet (rFr_fall (rFr_go (rFr_jump (rFr_way h))))).st2 (by decide)
/-- a piece: n ticks at most of it are left -/
def rIn1 (a : Nat) (key til : Int32) : Nat → Mem × Int32 → Mem × Int32
  | 0, x => x
  | n + 1, x => if x.1 40 0 < til ∧ x.1 41 0 = 0 then rIn1 a key til n (rTick x.1 a key x.2, key) else x
/-- behind p pieces -/
def rOut (σ : Mem) (r : Nat) (til : Int32) : Nat → Mem × Int32
  | 0 => (rStart σ (iN (σ 3 r)), 0)
  | p + 1 => rIn1 (iN (σ 3 r)) (σ 7 (20 * r + p)) til (iN (σ 8 (20 * r + p))) (rOut σ r til p)
def rRun (σ : Mem) (r : Nat) (til : Int32) : Mem := (rOut σ r til (iN (σ 4 r))).1
theorem rIn1_k {σ : Mem} {a : Nat} {key til : Int32} : ∀ {n : Nat} {x : Mem × Int32}, rFr σ x.1 → rHW x.1 → rFr σ (rIn1 a key til n x).1 ∧ rHW (rIn1 a key til n x).1
  | 0, _, h, h2 => ⟨h, h2⟩
  | n + 1, x, h, h2 => by
    unfold rIn1
    split
    · exact rIn1_k (n := n) (x := (rTick x.1 a key x.2, key)) (rFr_tick h) (rHW_tick h2)
    · exact ⟨h, h2⟩
theorem rOut_k {σ : Mem} {r : Nat} {til : Int32} : ∀ {p : Nat}, rFr σ (rOut σ r til p).1 ∧ rHW (rOut σ r til p).1
  | 0 => ⟨rFr_start rFr.rf, rHW_start _ _⟩
  | p + 1 => rIn1_k (rOut_k (p := p)).1 (rOut_k (p := p)).2
theorem rRun_k {σ : Mem} {r : Nat} {til : Int32} : rFr σ (rRun σ r til) ∧ rHW (rRun σ r til) := rOut_k
def rWF (σ : Mem) : Prop := isN (σ 2 0) 4 ∧ isN (σ 9 0) 21 ∧ isN (σ 16 0) 7 ∧ isN (σ 26 0) 41 ∧ isN (σ 30 0) 11 ∧
  (∀ r, r < iN (σ 9 0) → isN (σ 3 r) (iN (σ 2 0))) ∧ (∀ r, isN (σ 4 r) 21) ∧ (∀ j, isN (σ 8 j) 101) ∧ (∀ k, k < iN (σ 16 0) → isN (σ 10 k) (iN (σ 2 0))) ∧ (∀ k, isN (σ 11 k) 11) ∧
  (∀ k, k < iN (σ 26 0) → isN (σ 17 k) (iN (σ 9 0))) ∧ (∀ k, k < iN (σ 26 0) → isN (σ 19 k) (iN (σ 16 0))) ∧ (∀ k, k < iN (σ 30 0) → isN (σ 27 k) (iN (σ 16 0)))
theorem rWF.fr {σ τ : Mem} (h : rWF σ) (hF : rFr σ τ) : rWF τ := by
  unfold rWF
  rw [hF 2 (by decide), hF 9 (by decide), hF 16 (by decide), hF 26 (by decide), hF 30 (by decide), hF 3 (by decide), hF 4 (by decide), hF 8 (by decide), hF 10 (by decide), hF 11 (by decide), hF 17 (by decide), hF 19 (by decide), hF 27 (by decide)]
  exact h
theorem isN_lt {x : Int32} {b : Nat} (h : isN x b) : iN x < b := h.2
/-- what run wants: the replay is there -/
def rRp (σ : Mem) (r : Nat) : Prop := r < 20 ∧ isN (σ 3 r) 3 ∧ isN (σ 4 r) 21 ∧ ∀ j, isN (σ 8 j) 101
theorem rWF.rp {σ : Mem} {r : Nat} (h : rWF σ) (hr : r < iN (σ 9 0)) : rRp σ r := by
  obtain ⟨h2, h9, -, -, -, h3, h4, h8, -⟩ := h
  have a := h2.2
  have b := h9.2
  exact ⟨by omega, ⟨(h3 r hr).1, by have := (h3 r hr).2; omega⟩, h4 r, h8⟩

theorem rIn1_s {a m k : Nat} {key til f : Int32} {υ : Mem} (h : k < m) (c1 : ¬ til ≤ υ 40 0) (c2 : υ 41 0 = 0) : rIn1 a key til (m - k) (υ, f) = rIn1 a key til (m - (k + 1)) (rTick υ a key f, key) := by
  rw [show m - k = (m - (k + 1)) + 1 by omega]
  show (if _ then _ else _) = _
  rw [if_pos ⟨Int32.not_le.mp c1, c2⟩]
theorem rIn1_x {a m k : Nat} {key til : Int32} {x : Mem × Int32} (h : m ≤ k ∨ til ≤ x.1 40 0 ∨ ¬ x.1 41 0 = 0) : rIn1 a key til (m - k) x = x := by
  cases hm : m - k with
  | zero => rfl
  | succ n =>
    show (if _ then _ else _) = _
    rw [if_neg]
    intro ⟨q1, q2⟩
    rcases h with h | h | h
    · omega
    · exact absurd h (Int32.not_le.mpr q1)
    · exact h q2

def rPurse (x : Int32) : Nat → Int32
  | 0 => 0
  | k + 1 => rPurse x k + (x >>> (nI k &&& 31) &&& 1)
