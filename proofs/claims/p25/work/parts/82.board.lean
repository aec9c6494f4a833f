/-! boards: best runs count, places rise, what is told anew -/
abbrev pr (σ : Mem) (x : Int32) (u : Nat) : Prop := 0 ≤ rTopN σ x (nI u) (-1)
def bi (σ : Mem) (x : Int32) (u : Nat) : Nat := iN (rTopN σ x (nI u) (-1))
def plc (σ : Mem) (x : Int32) (u : Nat) : Nat := 1 + cn (fun k => pr σ x k ∧ lt σ (bi σ x k) < lt σ (bi σ x u)) 8
def rnk (σ : Mem) (x : Int32) (u : Nat) : Nat := cn (fun k => pr σ x k ∧ ky σ (bi σ x k) < ky σ (bi σ x u)) 8
section BRD
variable {σ : Mem} {x w : Int32} {u v k : Nat}
theorem pr_y (hW : WX σ) (h : pr σ x u) : bi σ x u < iN (σ 26 0) ∧ rTopN σ x (nI u) (-1) = nI (bi σ x u) ∧ vld σ x (nI u) (-1) (bi σ x u) ∧ ∀ i, i < iN (σ 26 0) → vld σ x (nI u) (-1) i → ky σ (bi σ x u) ≤ ky σ i := by
  rcases topN_spec hW x (nI u) (-1) with ⟨e, -⟩ | ⟨j, hj, e, hv, hm⟩
  · have h2 : (0 : Int32) ≤ rTopN σ x (nI u) (-1) := h
    rw [e] at h2
    exact absurd h2 (by decide)
  · have eb : bi σ x u = j := by unfold bi; rw [e]; exact iN_nI (by have := hW.n41; omega)
    rw [eb]
    exact ⟨hj, e, hv, hm⟩
theorem pr_n (hW : WX σ) (h : ¬ pr σ x u) : rTopN σ x (nI u) (-1) = -1 ∧ ∀ i, i < iN (σ 26 0) → ¬ vld σ x (nI u) (-1) i := by
  rcases topN_spec hW x (nI u) (-1) with h2 | ⟨j, hj, e, hv, hm⟩
  · exact h2
  · refine absurd ?_ h
    show 0 ≤ rTopN σ x (nI u) (-1)
    rw [e]
    exact nI_pos' (by have := hW.n41; omega)
theorem bi_inj (hW : WX σ) (hu : u < 8) (hv : v < 8) (h1 : pr σ x u) (h2 : pr σ x v) (h : ky σ (bi σ x u) = ky σ (bi σ x v)) : u = v := by
  obtain ⟨a1, -, a3, -⟩ := pr_y hW h1
  obtain ⟨b1, -, b3, -⟩ := pr_y hW h2
  have h40 := hW.n41
  have e := ky_inj (by omega) (by omega) h
  have e1 := a3.2.2.1
  rw [e, b3.2.2.1] at e1
  exact ((nI_eq (by omega) (by omega)).mp e1).symm
theorem spotL_c (own : Int32) : ∀ n, rSpotL σ x w own n = nI (1 + cn (fun k => rLess σ own (rTopN σ x (nI k) w)) n)
  | 0 => rfl
  | n + 1 => by
    show rSpotL σ x w own n + (if _ then _ else _) = nI (1 + (cn _ n + if _ then _ else _))
    rw [spotL_c own n]
    by_cases q : rLess σ own (rTopN σ x (nI n) w)
    · rw [if_pos q, if_pos q]; exact nI_add _ 1
    · rw [if_neg q, if_neg q]; exact nI_add _ 0
theorem less_c (hW : WX σ) {b : Nat} (hb : b < iN (σ 26 0)) : rLess σ (nI b) (rTopN σ x (nI k) (-1)) ↔ pr σ x k ∧ lt σ (bi σ x k) < lt σ b := by
  have h40 := hW.n41
  have r1 := run_lt hW hb
  constructor
  · intro q
    have hp : pr σ x k := q.2.1
    have hk := pr_y hW hp
    refine ⟨hp, ?_⟩
    have q3 := q.2.2
    have r2 := run_lt hW hk.1
    rw [iN_nI (by omega), r1.1] at q3
    rw [show iN (rTopN σ x (nI k) (-1)) = bi σ x k from rfl, r2.1] at q3
    exact (nI_ltI (by omega) (by omega)).mp q3
  · intro q
    have hk := pr_y hW q.1
    have r2 := run_lt hW hk.1
    refine ⟨nI_pos' (by omega), q.1, ?_⟩
    rw [iN_nI (by omega), r1.1, show iN (rTopN σ x (nI k) (-1)) = bi σ x k from rfl, r2.1]
    exact nI_lt q.2 (by omega)
theorem spot_y (hW : WX σ) (h : pr σ x u) : rSpot σ x (nI u) (-1) = nI (plc σ x u) := by
  have hp := pr_y hW h
  have h40 := hW.n41
  unfold rSpot
  rw [hp.2.1, if_neg (nI_pos (by omega)), spotL_c]
  exact congrArg (fun z => nI (1 + z)) (cn_congr 8 fun k _ => less_c hW hp.1)
theorem spot_n (hW : WX σ) (h : ¬ pr σ x u) : rSpot σ x (nI u) (-1) = -1 := by
  unfold rSpot
  rw [(pr_n hW h).1]
  rfl
theorem atb_c (hW : WX σ) {b : Nat} (hb : b < iN (σ 26 0)) : ∀ n, rAtB σ x (nI b) n = nI (cn (fun k => pr σ x k ∧ ky σ (bi σ x k) < ky σ b) n)
  | 0 => rfl
  | n + 1 => by
    have h40 := hW.n41
    show rAtB σ x (nI b) n + (if _ then _ else _) = nI (cn _ n + if _ then _ else _)
    rw [atb_c hW hb n, iN_nI (by omega)]
    by_cases q : pr σ x n ∧ ky σ (bi σ x n) < ky σ b
    · have hp := pr_y hW q.1
      rw [if_pos q, if_pos (show 0 ≤ rTopN σ x (nI n) (-1) ∧ rAhd σ (iN (rTopN σ x (nI n) (-1))) b from ⟨q.1, (ahd_ky hW hp.1 hb).mpr q.2⟩)]
      exact nI_add _ 1
    · rw [if_neg q, if_neg (fun z => q ⟨z.1, (ahd_ky hW (pr_y hW z.1).1 hb).mp z.2⟩)]
      exact nI_add _ 0
theorem at_rnk (hW : WX σ) (h : pr σ x u) : rAtB σ x (rTopN σ x (nI u) (-1)) 8 = nI (rnk σ x u) := by
  have hp := pr_y hW h
  rw [hp.2.1]
  exact atb_c hW hp.1 8
theorem plc_8 (hu : u < 8) : plc σ x u ≤ 8 ∧ 1 ≤ plc σ x u := by
  have h1 : cn (fun k => pr σ x k ∧ lt σ (bi σ x k) < lt σ (bi σ x u)) 8 < cn (fun _ => True) 8 := cn_lt (k0 := u) (fun q => absurd q.2 (Nat.lt_irrefl _)) trivial 8 hu (fun _ _ _ => trivial)
  have h2 := cn_le (P := fun _ => True) 8
  unfold plc
  omega
/-- how many are on the board -/
def mny (σ : Mem) (x : Int32) (n : Nat) : Nat := cn (fun k => pr σ x k) n
theorem rnk_lt (hu : u < 8) (h : pr σ x u) : rnk σ x u < mny σ x 8 := cn_lt (k0 := u) (fun q => absurd q.2 (Nat.lt_irrefl _)) h 8 hu (fun _ _ q => q.1)
theorem rnk_ex (hW : WX σ) (hk : k < mny σ x 8) : ∃ u, u < 8 ∧ pr σ x u ∧ rnk σ x u = k := by
  refine cn_rank (P := fun k => pr σ x k) (f := fun j => ky σ (bi σ x j)) (fun i j hi hj h1 h2 h => bi_inj hW hi hj h1 h2 h) k 40000 ?_
  rw [cn_all (fun j hj hp => ?_)]
  · exact hk
  · have h40 := hW.n41
    have hp2 := pr_y hW hp
    have r := run_lt hW hp2.1
    show 64 * lt σ (bi σ x j) + bi σ x j < 40000
    omega
theorem plc_rnk (hW : WX σ) (h : pr σ x u) : plc σ x u ≤ rnk σ x u + 1 := by
  have h40 := hW.n41
  have hu := pr_y hW h
  have : cn (fun k => pr σ x k ∧ lt σ (bi σ x k) < lt σ (bi σ x u)) 8 ≤ rnk σ x u := cn_mono 8 fun k _ q => ⟨q.1, by
    have hk := pr_y hW q.1
    have q2 := q.2
    unfold ky
    omega⟩
  unfold plc
  omega
theorem plc_mono (hW : WX σ) (h1 : pr σ x u) (h2 : pr σ x v) (h : rnk σ x u < rnk σ x v) : plc σ x u ≤ plc σ x v := by
  have h40 := hW.n41
  have hu := pr_y hW h1
  have hv := pr_y hW h2
  have hk : ky σ (bi σ x u) < ky σ (bi σ x v) := by
    refine Nat.not_le.mp fun q => Nat.not_le.mpr h ?_
    exact cn_mono 8 fun k _ z => ⟨z.1, Nat.lt_of_lt_of_le z.2 q⟩
  have hl : lt σ (bi σ x u) ≤ lt σ (bi σ x v) := by
    unfold ky at hk
    omega
  have := cn_mono (P := fun k => pr σ x k ∧ lt σ (bi σ x k) < lt σ (bi σ x u)) (Q := fun k => pr σ x k ∧ lt σ (bi σ x k) < lt σ (bi σ x v)) 8 fun k _ z => ⟨z.1, Nat.lt_of_lt_of_le z.2 hl⟩
  unfold plc
  omega
/-- without its own best run no runner comes to a better place -/
theorem pw_c (hW : WX σ) (hu : u < 8) (h : pr σ x u) : rSpot σ x (nI u) (nI (bi σ x u)) < 0 ∨ ∃ P : Nat, rSpot σ x (nI u) (nI (bi σ x u)) = nI P ∧ plc σ x u ≤ P ∧ P ≤ 9 := by
  have h40 := hW.n41
  have hp := pr_y hW h
  unfold rSpot
  rcases topN_spec hW x (nI u) (nI (bi σ x u)) with ⟨e, -⟩ | ⟨j, hj, e, hv, hm⟩
  · rw [e, if_pos (by decide)]
    exact .inl (by decide)
  · rw [e, if_neg (nI_pos (by omega)), spotL_c]
    refine .inr ⟨_, rfl, ?_, ?_⟩
    · have hkj : ky σ (bi σ x u) ≤ ky σ j := hp.2.2.2 j hj ⟨nI_m1n (by omega), hv.2⟩
      have hlj : lt σ (bi σ x u) ≤ lt σ j := by
        unfold ky at hkj
        omega
      have hb : ∀ k, k < 8 → k ≠ u → rTopN σ x (nI k) (nI (bi σ x u)) = rTopN σ x (nI k) (-1) := by
        intro k hk hne
        refine top_wo hW (fun q => hne ?_) (by omega) _ (Nat.le_refl _)
        rw [hp.2.2.1.2.2.1] at q
        exact ((nI_eq (by omega) (by omega)).mp q).symm
      have := cn_mono (P := fun k => pr σ x k ∧ lt σ (bi σ x k) < lt σ (bi σ x u)) (Q := fun k => rLess σ (nI j) (rTopN σ x (nI k) (nI (bi σ x u)))) 8 fun k hk z => by
        have hne : k ≠ u := fun q => absurd z.2 (by rw [q]; exact Nat.lt_irrefl _)
        rw [hb k hk hne]
        exact (less_c hW hj).mpr ⟨z.1, by have := z.2; omega⟩
      unfold plc
      omega
    · have := cn_le (P := fun k => rLess σ (nI j) (rTopN σ x (nI k) (nI (bi σ x u)))) 8
      omega
/-- the best run, found by running all once more -/
theorem ba_c (hW : WX σ) (y : Int32) : ∀ n, n ≤ iN (σ 26 0) → (cBA σ x y n).1 = rTop σ x y (-1) n ∧ (∀ j, rTop σ x y (-1) n = nI j → j < 64 → (cBA σ x y n).2 = σ 22 j)
  | 0, _ => ⟨rfl, fun j hj hb => absurd hj.symm (nI_m1n (by omega))⟩
  | n + 1, hn => by
    have h40 := hW.n41
    obtain ⟨i1, i2⟩ := ba_c hW y n (by omega)
    have rn := run_lt hW (k := n) (by omega)
    have hc : ((σ 19 n = x ∧ σ 18 n = y ∧ rCnt σ n) ∧ ((cBA σ x y n).1 = -1 ∨ σ 22 n < (cBA σ x y n).2)) ↔ (vld σ x y (-1) n ∧ (rTop σ x y (-1) n < 0 ∨ rAhd σ n (iN (rTop σ x y (-1) n)))) := by
      rw [i1]
      refine ⟨fun q => ⟨⟨nI_m1n (by omega), q.1⟩, ?_⟩, fun q => ⟨q.1.2, ?_⟩⟩
      · rcases rTop_v σ x y (-1) n with e | ⟨j, hj, e⟩
        · exact .inl (by rw [e]; decide)
        · refine .inr ?_
          have q2 := q.2
          rw [e] at q2 ⊢
          rw [iN_nI (by omega)]
          rw [i2 j e (by omega)] at q2
          have rj := run_lt hW (k := j) (by omega)
          rcases q2 with q2 | q2
          · exact absurd q2 (nI_m1n (by omega))
          · rw [rn.1, rj.1] at q2
            have q3 := (nI_ltI (by omega) (by omega)).mp q2
            refine (ahd_ky hW (by omega) (by omega)).mpr ?_
            unfold ky
            omega
      · rcases rTop_v σ x y (-1) n with e | ⟨j, hj, e⟩
        · exact .inl e
        · refine .inr ?_
          have q2 := q.2
          rw [e] at q2
          rw [iN_nI (by omega)] at q2
          rw [i2 j e (by omega)]
          have rj := run_lt hW (k := j) (by omega)
          rcases q2 with q2 | q2
          · exact absurd q2 (nI_pos (by omega))
          · have q3 := (ahd_ky hW (by omega) (by omega)).mp q2
            rw [rn.1, rj.1]
            refine nI_lt ?_ (by omega)
            unfold ky at q3
            omega
    unfold cBA
    rw [rTop_s]
    by_cases q : vld σ x y (-1) n ∧ (rTop σ x y (-1) n < 0 ∨ rAhd σ n (iN (rTop σ x y (-1) n)))
    · rw [if_pos q, if_pos (hc.mpr q)]
      refine ⟨rfl, fun j hj hb => ?_⟩
      rw [← (nI_eq (by omega) (by omega)).mp hj]
    · rw [if_neg q, if_neg (fun z => q (hc.mp z))]
      exact ⟨i1, i2⟩
theorem anew_c (hW : WX σ) (y : Int32) : (cBA σ x y (iN (σ 26 0))).1 = rTopN σ x y (-1) := (ba_c hW y _ (Nat.le_refl _)).1
/-- the latest three, at most -/
theorem gs_c (hW : WX σ) (y : Int32) : ∀ n, n ≤ iN (σ 26 0) → ∀ S M : Nat, M ≤ 3 → M ≤ S → S ≤ 500 * M → ∃ S' M' : Nat, rGs σ x y n (nI S, nI M) = (nI S', nI M') ∧ M ≤ M' ∧ M' ≤ 3 ∧ M' ≤ S' ∧ S' ≤ 500 * M' ∧ (M' = 0 ↔ M = 0 ∧ ∀ i, i < n → ¬ (σ 19 i = x ∧ σ 18 i = y ∧ rCnt σ i))
  | 0, _, S, M, h1, h2, h3 => ⟨S, M, rfl, Nat.le_refl _, h1, h2, h3, ⟨fun q => ⟨q, fun i hi => absurd hi (Nat.not_lt_zero _)⟩, fun q => q.1⟩⟩
  | n + 1, hn, S, M, h1, h2, h3 => by
    by_cases q : M < 3
    · have q2 : nI M < 3 := nI_lt (b := 3) q (by decide)
      rw [rGs_s q2]
      by_cases qv : σ 19 n = x ∧ σ 18 n = y ∧ rCnt σ n
      · have r := run_lt hW (k := n) (by omega)
        rw [if_pos qv, r.1, nI_add, nI_1]
        obtain ⟨S', M', e, a1, a2, a3, a4, a5⟩ := gs_c hW y n (by omega) (S + lt σ n) (M + 1) (by omega) (by omega) (by omega)
        exact ⟨S', M', e, by omega, a2, a3, a4, ⟨fun z => by omega, fun z => absurd qv (z.2 n (by omega))⟩⟩
      · rw [if_neg qv]
        obtain ⟨S', M', e, a1, a2, a3, a4, a5⟩ := gs_c hW y n (by omega) S M h1 h2 h3
        refine ⟨S', M', e, a1, a2, a3, a4, ⟨fun z => ⟨(a5.mp z).1, fun i hi => ?_⟩, fun z => a5.mpr ⟨z.1, fun i hi => z.2 i (by omega)⟩⟩⟩
        rcases Nat.lt_or_ge i n with h4 | h4
        · exact (a5.mp z).2 i h4
        · rw [show i = n by omega]; exact qv
    · have q2 : ¬ nI M < 3 := nI_nlt (a := M) (b := 3) (by omega) (by omega)
      rw [rGs_x q2]
      exact ⟨S, M, rfl, Nat.le_refl _, h1, h2, h3, ⟨fun z => by omega, fun z => by omega⟩⟩
/-- an estimate: -1 without a run that counts; else some ticks -/
theorem est_c (hW : WX σ) (y : Int32) : (rGuess σ x y = -1 ∧ ∀ i, i < iN (σ 26 0) → ¬ (σ 19 i = x ∧ σ 18 i = y ∧ rCnt σ i)) ∨ ∃ E : Nat, rGuess σ x y = nI E ∧ 1 ≤ E ∧ E ≤ 1000 ∧ ∃ i, i < iN (σ 26 0) ∧ σ 19 i = x ∧ σ 18 i = y ∧ rCnt σ i := by
  obtain ⟨S, M, e, -, h2, h3, h4, h5⟩ := gs_c (x := x) hW y _ (Nat.le_refl _) 0 0 (by decide) (by decide) (by decide)
  have e2 : rGsN σ x y = (nI S, nI M) := e
  unfold rGuess
  rw [e2]
  by_cases q : M = 0
  · subst q
    exact .inl ⟨rfl, (h5.mp rfl).2⟩
  · refine .inr ⟨(11 * S + 10 * M - 1) / (10 * M), ?_, ?_, ?_, ?_⟩
    · dsimp only
      rw [if_neg (nI_ne0 (by omega) (by omega)), show (11 : Int32) = nI 11 from rfl, show (10 : Int32) = nI 10 from rfl, show (1 : Int32) = nI 1 from rfl, pk_mul, pk_mul, nI_add, pk_sub (by omega), pk_div (by omega) (by omega) (by omega)]
    · exact (Nat.le_div_iff_mul_le (by omega)).mpr (by omega)
    · refine Nat.le_of_lt_succ ((Nat.div_lt_iff_lt_mul (by omega)).mpr (by omega))
    · refine Decidable.byContradiction fun z => q (h5.mpr ⟨rfl, fun i hi hv => z ⟨i, hi, hv⟩⟩)
theorem est_y (hW : WX σ) (h : pr σ x u) : ¬ rGuess σ x (nI u) < 0 := by
  have hp := pr_y hW h
  rcases est_c (x := x) hW (nI u) with ⟨-, e⟩ | ⟨E, e, -, h2, -⟩
  · exact absurd hp.2.2.1.2 (e _ hp.1)
  · rw [e]; exact nI_pos (by omega)
theorem est_n (hW : WX σ) (h : ¬ pr σ x u) : rGuess σ x (nI u) = -1 := by
  have hp := pr_n hW h
  have h40 := hW.n41
  rcases est_c (x := x) hW (nI u) with ⟨e, -⟩ | ⟨E, -, -, -, i, hi, hv⟩
  · exact e
  · exact absurd ⟨nI_m1n (by omega), hv⟩ (hp.2 i hi)
/-- the run at a place of the board, and behind the last -/
theorem at_y (hW : WX σ) (hx : rIn σ 16 x) (hu : u < 8) (h : pr σ x u) : kAt σ x (nI (rnk σ x u)) = 0 ∧ vAt σ x (nI (rnk σ x u)) = nI (bi σ x u) := by
  have h2 := vAt_c (z := nI (rnk σ x u)) hW hx hu h (at_rnk hW h)
  rw [(pr_y hW h).2.1] at h2
  exact h2
theorem atF_n {z : Int32} : ∀ n, (∀ u, u < n → ¬ (0 ≤ rTopN σ x (nI u) (-1) ∧ rBef σ x (rTopN σ x (nI u) (-1)) = z)) → -1 = rAtF σ x z n
  | 0, _ => rfl
  | n + 1, h => by
    show _ = (if _ then _ else _)
    rw [if_neg (h n (by omega))]
    exact atF_n n (fun u hu => h u (by omega))
theorem at_n (hW : WX σ) (hx : rIn σ 16 x) : kAt σ x (nI (mny σ x 8)) = 1 := by
  refine kAt_n2 hx (atF_n 8 fun u hu q => ?_)
  have hp : pr σ x u := q.1
  have q2 := q.2
  unfold rBef at q2
  rw [if_pos q.1, at_rnk hW hp] at q2
  have h8 : mny σ x 8 ≤ 8 := cn_le 8
  have hl := rnk_lt hu hp
  have := (nI_eq (by omega) (by omega)).mp q2
  omega
end BRD
