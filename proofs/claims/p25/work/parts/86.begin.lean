/-! the law's beginning: the level, the four replays, the two categories -/
def sg0 : Mem := fun _ _ => 0
def RP (σ : Mem) (r : Nat) (b t : Int32) : Prop := σ 4 r = 3 ∧ σ 7 (20 * r) = b ∧ σ 7 (20 * r + 1) = 2 ∧ σ 7 (20 * r + 2) = 2 ∧ σ 8 (20 * r) = 1 ∧ σ 8 (20 * r + 1) = t ∧ σ 8 (20 * r + 2) = t
def bz (r : Nat) : Int32 := if r = 1 then 10 else if r = 2 then 6 else 2
def tz (r : Nat) : Int32 := if r = 3 then 5 else 100
def Z2 (m : Nat) (σ : Mem) : Prop := σ 2 0 = 1 ∧ σ 9 0 = nI m ∧ σ 16 0 = 0 ∧ σ 26 0 = 0 ∧ σ 30 0 = 0 ∧ (∀ k, σ 29 k = 0) ∧ Flat σ ∧ Coin σ ∧ ∀ r, r < m → RP σ r (bz r) (tz r)
section BEG
variable {σ τ : Mem} {m M r p L c : Nat} {b t y : Int32}
theorem st2_x {k i k' i' : Nat} {v : Int32} (h : Nat.beq k' k = false) : st2 σ k i v k' i' = σ k' i' := by
  show cond (Nat.beq k' k && Nat.beq i' i) v (σ k' i') = σ k' i'
  rw [h]
  rfl
theorem st2_i {k i i' : Nat} {v : Int32} (h : i' ≠ i) : st2 σ k i v k i' = σ k i' := by
  show cond (Nat.beq k k && Nat.beq i' i) v (σ k i') = σ k i'
  have hb : Nat.beq i' i = false := by
    cases hb : Nat.beq i' i with
    | false => rfl
    | true => exact absurd (Nat.eq_of_beq_eq_true hb) h
  rw [hb, Bool.and_false]
  rfl
theorem beq_f {k k' : Nat} (h : k' ≠ k) : Nat.beq k' k = false := by
  cases hb : Nat.beq k' k with
  | false => rfl
  | true => exact absurd (Nat.eq_of_beq_eq_true hb) h
theorem z2_level : kLevel sg0 = 0 ∧ Z2 0 (fLevel sg0) := by
  have e : fLevel sg0 = st2 (st2 sg0 42 0 (kLevel sg0)) 2 0 (sg0 2 0 + 1) := if_neg (by decide)
  rw [e]
  exact ⟨by decide, rfl, rfl, rfl, rfl, rfl, fun _ => rfl, fun _ _ => rfl, fun _ _ => .inl rfl, fun r hr => absurd hr (Nat.not_lt_zero _)⟩
theorem z2_col (h : Z2 0 σ) (ht : t = 0 ∨ t = 1) : Z2 0 (if kColumn σ 0 y 0 t = 0 then fColumn σ 0 y 0 t else σ) := by
  by_cases q : kColumn σ 0 y 0 t = 0
  · rw [if_pos q]
    have e : fColumn σ 0 y 0 t = oColumn (st2 σ 42 0 (kColumn σ 0 y 0 t)) 0 y 0 t := if_neg (by rw [q]; decide)
    rw [e]
    obtain ⟨h1, h2, h3, h4, h5, h6, h7, h8, -⟩ := h
    refine ⟨h1, h2, h3, h4, h5, h6, fun d hd => ?_, fun d hd => ?_, fun r hr => absurd hr (Nat.not_lt_zero _)⟩
    · show st2 (st2 σ 42 0 _) 0 (32 * iN 0 + iN y) 0 0 d = 0
      by_cases q2 : d = 32 * iN 0 + iN y
      · rw [q2]; exact st2_ss
      · exact (st2_i q2).trans (h7 d hd)
    · show st2 _ 1 (32 * iN 0 + iN y) t 1 d = 0 ∨ st2 _ 1 (32 * iN 0 + iN y) t 1 d = 1
      by_cases q2 : d = 32 * iN 0 + iN y
      · rw [q2, st2_ss]; exact ht
      · rw [st2_i q2]; exact h8 d hd
  · rw [if_neg q]; exact h
/-- a piece more -/
theorem in_step (h9 : τ 9 0 = nI M) (hM : M ≤ 20) (hr : r < M) (h6 : τ 6 r = 0) (h4 : τ 4 r = nI p) (hp : p < 20) (h5 : τ 5 r = nI L) (hL : L ≤ 300) (hb : 0 ≤ b ∧ b ≤ 15) (ht : 1 ≤ t ∧ t ≤ 100) : kInput τ (nI r) b t = 0 ∧ fInput τ (nI r) b t 4 r = nI (p + 1) ∧ fInput τ (nI r) b t 5 r = nI L + t ∧ fInput τ (nI r) b t 7 (20 * r + p) = b ∧ fInput τ (nI r) b t 8 (20 * r + p) = t ∧ (∀ i, i ≠ 20 * r + p → fInput τ (nI r) b t 7 i = τ 7 i ∧ fInput τ (nI r) b t 8 i = τ 8 i) ∧ (∀ q, q ≠ r → fInput τ (nI r) b t 4 q = τ 4 q) ∧ ∀ k, k ≠ 4 → k ≠ 5 → k ≠ 7 → k ≠ 8 → k ≠ 42 → fInput τ (nI r) b t k = τ k := by
  have er : iN (nI r) = r := iN_nI (by omega)
  have ep : iN (nI p) = p := iN_nI (by omega)
  have hk : kInput τ (nI r) b t = 0 := by
    unfold kInput
    rw [if_neg (fun z => z (rIn_k h9 (by omega) hr)), if_neg (fun z => z ⟨hb, ht⟩), if_neg]
    intro z
    obtain ⟨-, -, z⟩ := z
    rw [er, h6, h4, h5] at z
    rcases z with z | z | z
    · exact absurd z (by decide)
    · have := (nI_eq (b := 20) (by omega) (by decide)).mp z
      omega
    · obtain ⟨j, hj, rfl⟩ := nI_of2 (x := t) (M := 100) (n := 100) (by decide) (Int32.not_lt.mpr (Int32.le_trans (by decide) ht.1)) ht.2
      rw [nI_add] at z
      have := (nI_ltI (a := 500) (by decide) (by omega)).mp z
      omega
  have hA : 20 * iN (nI r) + iN (τ 4 (iN (nI r))) = 20 * r + p := by rw [er, h4, ep]
  have e0 : fInput τ (nI r) b t = st2 (st2 (st2 (st2 (st2 τ 42 0 (kInput τ (nI r) b t)) 7 (20 * r + p) b) 8 (20 * r + p) t) 4 r (τ 4 r + 1)) 5 r (τ 5 r + t) := by
    rw [fI_0 hk, ← hA]
    unfold oInput
    rw [er]
    rfl
  rw [e0]
  refine ⟨hk, ?_, ?_, ?_, ?_, fun i hi => ⟨?_, ?_⟩, fun q hq => ?_, fun k k4 k5 k7 k8 k42 => funext fun i => ?_⟩
  · rw [st2_x rfl, st2_ss, h4]; exact nI_1 p
  · rw [st2_ss, h5]
  · rw [st2_x rfl, st2_x rfl, st2_x rfl]; exact st2_ss
  · rw [st2_x rfl, st2_x rfl]; exact st2_ss
  · rw [st2_x rfl, st2_x rfl, st2_x rfl, st2_i hi]; exact st2_x rfl
  · rw [st2_x rfl, st2_x rfl, st2_i hi, st2_x rfl]; exact st2_x rfl
  · rw [st2_x rfl, st2_i hq, st2_x rfl, st2_x rfl]; exact st2_x rfl
  · rw [st2_x (beq_f k5), st2_x (beq_f k4), st2_x (beq_f k8), st2_x (beq_f k7)]; exact st2_x (beq_f k42)
theorem rep_step (h : Z2 m σ) (hm : m < 4) : kReplay σ 0 = 0 ∧ vReplay σ 0 = nI m ∧ fReplay σ 0 9 0 = nI (m + 1) ∧ ∀ k, k ≠ 3 → k ≠ 9 → k ≠ 42 → fReplay σ 0 k = σ k := by
  have hk : kReplay σ 0 = 0 := by
    unfold kReplay
    rw [if_neg (fun z => z (rIn_k (n := 1) h.1 (by decide) (by decide : 0 < 1))), if_neg]
    rw [h.2.1]
    exact fun z => by have := (nI_eq (b := 20) (by omega) (by decide)).mp z; omega
  have e : fReplay σ 0 = st2 (st2 (st2 σ 42 0 (kReplay σ 0)) 3 (iN (σ 9 0)) 0) 9 0 (σ 9 0 + 1) := if_neg (by rw [hk]; decide)
  refine ⟨hk, ?_, ?_, fun k k3 k9 k42 => funext fun i => ?_⟩
  · unfold vReplay
    rw [if_neg (by rw [hk]; decide), h.2.1, nI_1, nI_pred]
  · rw [e, st2_ss, h.2.1]; exact nI_1 m
  · rw [e, st2_x (beq_f k9), st2_x (beq_f k3)]; exact st2_x (beq_f k42)
theorem tz_b (m : Nat) : 1 ≤ tz m ∧ tz m ≤ 100 := by
  unfold tz
  split <;> decide
theorem bz_b (m : Nat) : 0 ≤ bz m ∧ bz m ≤ 15 := by
  unfold bz
  split
  · decide
  · split <;> decide
theorem tz_n (m : Nat) : ∃ T : Nat, tz m = nI T ∧ T ≤ 100 := by
  unfold tz
  split
  · exact ⟨5, rfl, by decide⟩
  · exact ⟨100, rfl, by decide⟩
/-- a replay more, with its three pieces -/
theorem z2_step (h : Z2 m σ) (hW : WX σ) (hm : m < 4) : kInput (fReplay σ 0) (nI m) (bz m) 1 = 0 ∧ kInput (fInput (fReplay σ 0) (nI m) (bz m) 1) (nI m) 2 (tz m) = 0 ∧ kInput (fInput (fInput (fReplay σ 0) (nI m) (bz m) 1) (nI m) 2 (tz m)) (nI m) 2 (tz m) = 0 ∧
    Z2 (m + 1) (fInput (fInput (fInput (fReplay σ 0) (nI m) (bz m) 1) (nI m) 2 (tz m)) (nI m) 2 (tz m)) := by
  obtain ⟨hk, -, e9, er⟩ := rep_step h hm
  have em : iN (σ 9 0) = m := by rw [h.2.1]; exact iN_nI (by omega)
  obtain ⟨n4, n5, n6⟩ := hW.2.2.2.1.2.1 m (by rw [em]; exact Nat.le_refl _)
  obtain ⟨T, hT, hT2⟩ := tz_n m
  generalize hτ : fReplay σ 0 = τ at *
  have f4 : τ 4 m = nI 0 := by rw [er 4 (by decide) (by decide) (by decide)]; exact n4
  have f5 : τ 5 m = nI 0 := by rw [er 5 (by decide) (by decide) (by decide)]; exact n5
  have f6 : τ 6 m = 0 := by rw [er 6 (by decide) (by decide) (by decide)]; exact n6
  obtain ⟨a0, a1, a2, a3, a4, a5, a6, a7⟩ := in_step (b := bz m) (t := 1) (p := 0) (L := 0) e9 (by omega) (Nat.lt_succ_self m) f6 f4 (by decide) f5 (by decide) (bz_b m) (by decide)
  generalize fInput τ (nI m) (bz m) 1 = τ1 at *
  have a9 : τ1 9 0 = nI (m + 1) := by rw [a7 9 (by decide) (by decide) (by decide) (by decide) (by decide)]; exact e9
  have a66 : τ1 6 m = 0 := by rw [a7 6 (by decide) (by decide) (by decide) (by decide) (by decide)]; exact f6
  have a22 : τ1 5 m = nI 1 := a2.trans (nI_add 0 1)
  obtain ⟨b0, b1, b2, b3, b4, b5, b6, b7⟩ := in_step (b := 2) (t := tz m) (p := 1) (L := 1) a9 (by omega) (Nat.lt_succ_self m) a66 a1 (by decide) a22 (by decide) (by decide) (tz_b m)
  generalize fInput τ1 (nI m) 2 (tz m) = τ2 at *
  have b9 : τ2 9 0 = nI (m + 1) := by rw [b7 9 (by decide) (by decide) (by decide) (by decide) (by decide)]; exact a9
  have b66 : τ2 6 m = 0 := by rw [b7 6 (by decide) (by decide) (by decide) (by decide) (by decide)]; exact a66
  have b22 : τ2 5 m = nI (1 + T) := by rw [b2, hT]; exact nI_add 1 T
  obtain ⟨c0, c1, c2, c3, c4, c5, c6, c7⟩ := in_step (b := 2) (t := tz m) (p := 2) (L := 1 + T) b9 (by omega) (Nat.lt_succ_self m) b66 b1 (by decide) b22 (by omega) (by decide) (tz_b m)
  generalize fInput τ2 (nI m) 2 (tz m) = τ3 at *
  have row : ∀ k, k ≠ 4 → k ≠ 5 → k ≠ 7 → k ≠ 8 → k ≠ 42 → k ≠ 3 → k ≠ 9 → τ3 k = σ k := fun k k4 k5 k7 k8 k42 k3 k9 => by rw [c7 k k4 k5 k7 k8 k42, b7 k k4 k5 k7 k8 k42, a7 k k4 k5 k7 k8 k42]; exact er k k3 k9 k42
  obtain ⟨h1, h2, h3, h4, h5, h6, h7, h8, h10⟩ := h
  refine ⟨a0, b0, c0, ?_, ?_, ?_, ?_, ?_, fun k => ?_, fun d hd => ?_, fun d hd => ?_, fun r hr => ?_⟩
  · rw [row 2 (by decide) (by decide) (by decide) (by decide) (by decide) (by decide) (by decide)]; exact h1
  · rw [c7 9 (by decide) (by decide) (by decide) (by decide) (by decide)]; exact b9
  · rw [row 16 (by decide) (by decide) (by decide) (by decide) (by decide) (by decide) (by decide)]; exact h3
  · rw [row 26 (by decide) (by decide) (by decide) (by decide) (by decide) (by decide) (by decide)]; exact h4
  · rw [row 30 (by decide) (by decide) (by decide) (by decide) (by decide) (by decide) (by decide)]; exact h5
  · rw [row 29 (by decide) (by decide) (by decide) (by decide) (by decide) (by decide) (by decide)]; exact h6 k
  · rw [row 0 (by decide) (by decide) (by decide) (by decide) (by decide) (by decide) (by decide)]; exact h7 d hd
  · rw [row 1 (by decide) (by decide) (by decide) (by decide) (by decide) (by decide) (by decide)]; exact h8 d hd
  · by_cases q : r = m
    · subst q
      refine ⟨c1, ?_, ?_, c3, ?_, ?_, c4⟩
      · rw [(c5 _ (by omega)).1, (b5 _ (by omega)).1]; exact a3
      · rw [(c5 _ (by omega)).1]; exact b3
      · rw [(c5 _ (by omega)).2, (b5 _ (by omega)).2]; exact a4
      · rw [(c5 _ (by omega)).2]; exact b4
    · obtain ⟨r1, r2, r3, r4, r5, r6, r7⟩ := h10 r (by omega)
      have e4 : τ3 4 r = σ 4 r := by rw [c6 r q, b6 r q, a6 r q, er 4 (by decide) (by decide) (by decide)]
      have e7 : ∀ i, i < 20 * m → τ3 7 i = σ 7 i ∧ τ3 8 i = σ 8 i := fun i hi => by
        rw [(c5 i (by omega)).1, (b5 i (by omega)).1, (a5 i (by omega)).1, (c5 i (by omega)).2, (b5 i (by omega)).2, (a5 i (by omega)).2, er 7 (by decide) (by decide) (by decide), er 8 (by decide) (by decide) (by decide)]
        exact ⟨rfl, rfl⟩
      refine ⟨e4.trans r1, ?_, ?_, ?_, ?_, ?_, ?_⟩
      · rw [(e7 _ (by omega)).1]; exact r2
      · rw [(e7 _ (by omega)).1]; exact r3
      · rw [(e7 _ (by omega)).1]; exact r4
      · rw [(e7 _ (by omega)).2]; exact r5
      · rw [(e7 _ (by omega)).2]; exact r6
      · rw [(e7 _ (by omega)).2]; exact r7
/-- a category more -/
theorem cat_step (h2 : σ 2 0 = 1) (h16 : σ 16 0 = nI c) (hc : c < 6) : kCategory σ 0 = 0 ∧ vCategory σ 0 = nI c ∧ fCategory σ 0 16 0 = nI (c + 1) ∧ ∀ k, k ≠ 10 → k ≠ 16 → k ≠ 42 → fCategory σ 0 k = σ k := by
  have hk : kCategory σ 0 = 0 := by
    unfold kCategory
    rw [if_neg (fun z => z (rIn_k (n := 1) h2 (by decide) (by decide : 0 < 1))), if_neg]
    rw [h16]
    exact fun z => by have := (nI_eq (b := 6) (by omega) (by decide)).mp z; omega
  have e : fCategory σ 0 = st2 (st2 (st2 σ 42 0 (kCategory σ 0)) 10 (iN (σ 16 0)) 0) 16 0 (σ 16 0 + 1) := if_neg (by rw [hk]; decide)
  refine ⟨hk, ?_, ?_, fun k k3 k9 k42 => funext fun i => ?_⟩
  · unfold vCategory
    rw [if_neg (by rw [hk]; decide), h16, nI_1, nI_pred]
  · rw [e, st2_ss, h16]; exact nI_1 c
  · rw [e, st2_x (beq_f k9), st2_x (beq_f k3)]; exact st2_x (beq_f k42)
theorem z2_end (h : Z2 4 σ) : kCategory σ 0 = 0 ∧ vCategory σ 0 = 0 ∧ kCategory (fCategory σ 0) 0 = 0 ∧ vCategory (fCategory σ 0) 0 = 1 ∧ IV (fCategory (fCategory σ 0) 0) ∧ GB (fCategory (fCategory σ 0) 0) 0 ∧ fCategory (fCategory σ 0) 0 26 0 = 0 ∧ fCategory (fCategory σ 0) 0 30 0 = 0 ∧ Coin (fCategory (fCategory σ 0) 0) ∧ ∀ r, r < 4 → RP (fCategory (fCategory σ 0) 0) r (bz r) (tz r) := by
  obtain ⟨h1, h2, h3, h4, h5, h6, h7, h8, h10⟩ := h
  obtain ⟨a0, a1, a2, a3⟩ := cat_step (c := 0) h1 h3 (by decide)
  generalize fCategory σ 0 = τ at *
  obtain ⟨b0, b1, b2, b3⟩ := cat_step (σ := τ) (c := 1) (by rw [a3 2 (by decide) (by decide) (by decide)]; exact h1) a2 (by decide)
  generalize fCategory τ 0 = υ at *
  have row : ∀ k, k ≠ 10 → k ≠ 16 → k ≠ 42 → υ k = σ k := fun k k1 k2 k3 => by rw [b3 k k1 k2 k3]; exact a3 k k1 k2 k3
  have r26 : υ 26 0 = 0 := by rw [row 26 (by decide) (by decide) (by decide)]; exact h4
  refine ⟨a0, a1, b0, b1, ⟨?_, ?_, b2, fun d hd => ?_, ?_, fun r hr => ?_⟩, fun k => ⟨0, ?_, Nat.zero_le _⟩, r26, ?_, fun d hd => ?_, fun r hr => ?_⟩
  · rw [row 2 (by decide) (by decide) (by decide)]; exact h1
  · rw [row 9 (by decide) (by decide) (by decide)]; exact h2
  · rw [row 0 (by decide) (by decide) (by decide)]; exact h7 d hd
  · rw [r26]; decide
  · rw [r26] at hr; exact absurd hr (Nat.not_lt_zero _)
  · rw [row 29 (by decide) (by decide) (by decide)]; exact h6 k
  · rw [row 30 (by decide) (by decide) (by decide)]; exact h5
  · rw [row 1 (by decide) (by decide) (by decide)]; exact h8 d hd
  · unfold RP
    rw [row 4 (by decide) (by decide) (by decide), row 7 (by decide) (by decide) (by decide), row 8 (by decide) (by decide) (by decide)]
    exact h10 r hr
/-- how the four end -/
theorem res_4 (hI : IV σ) (hW : WX σ) (hC : Coin σ) (hR : ∀ r, r < 4 → RP σ r (bz r) (tz r)) : rRes σ 0 = 1221 ∧ rRes σ 1 = 1181 ∧ rRes σ 2 = 1221 ∧ rRes σ 3 = 110 := by
  have go : ∀ (r : Nat) (hr : r < 4), (heroR σ r 10, heroR σ r 11) = (s7N 2 (iN (tz r)) (s7N 2 (iN (tz r)) (s7N (bz r) 1 (s70, 0)))).1.2.2 := fun r hr => by
    obtain ⟨r1, r2, r3, r4, r5, r6, r7⟩ := hR r hr
    exact play_3 (m := 0) hI.flat hC (hI.stage hW hr) r1 r2 r3 r4 (by rw [r5]; rfl) (by rw [r6]) (by rw [r7])
  have g0 := go 0 (by decide)
  rw [show iN (tz 0) = 100 by decide +kernel, show bz 0 = 2 by decide +kernel, sim_a] at g0
  have g1 := go 1 (by decide)
  rw [show iN (tz 1) = 100 by decide +kernel, show bz 1 = 10 by decide +kernel, sim_b] at g1
  have g2 := go 2 (by decide)
  rw [show iN (tz 2) = 100 by decide +kernel, show bz 2 = 6 by decide +kernel, sim_c] at g2
  have g3 := go 3 (by decide)
  rw [show iN (tz 3) = 5 by decide +kernel, show bz 3 = 2 by decide +kernel, sim_d] at g3
  simp only [Prod.mk.injEq] at g0 g1 g2 g3
  unfold rRes
  rw [g0.1, g0.2, g1.1, g1.2, g2.1, g2.2, g3.1, g3.2]
  decide
end BEG
