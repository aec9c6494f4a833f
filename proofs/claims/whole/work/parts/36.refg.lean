
/-! boards -/
abbrev rAhd (σ : Mem) (a b : Nat) : Prop := if σ 22 a = σ 22 b then (if σ 20 a = σ 20 b then nI a < nI b else σ 20 a < σ 20 b) else σ 22 a < σ 22 b
def rTop (σ : Mem) (x y w : Int32) : Nat → Int32
  | 0 => -1
  | k + 1 => if (¬ nI k = w ∧ σ 19 k = x ∧ σ 18 k = y ∧ rCnt σ k) ∧ (rTop σ x y w k < 0 ∨ rAhd σ k (iN (rTop σ x y w k))) then nI k else rTop σ x y w k
theorem rTop_v (σ : Mem) (x y w : Int32) : ∀ n : Nat, rTop σ x y w n = -1 ∨ ∃ j, j < n ∧ rTop σ x y w n = nI j
  | 0 => .inl rfl
  | n + 1 => by
    unfold rTop
    split
    · exact .inr ⟨n, by omega, rfl⟩
    · rcases rTop_v σ x y w n with h | ⟨j, h1, h2⟩
      · exact .inl h
      · exact .inr ⟨j, by omega, h2⟩
theorem rTop_x {σ : Mem} {x y w v : Int32} {n : Nat} (hn : n ≤ 40) (e : v = rTop σ x y w n) (h : ¬ v < 0) : v = nI (iN v) ∧ iN v < n := by
  rcases rTop_v σ x y w n with h1 | ⟨j, h1, h2⟩
  · rw [e, h1] at h; exact absurd (by decide) h
  · rw [e, h2, iN, nI_clamp (by omega)]
    exact ⟨rfl, h1⟩
def rTopN (σ : Mem) (x y w : Int32) : Int32 := rTop σ x y w (iN (σ 26 0))
def vBest (σ : Mem) (x y : Int32) : Int32 := if 0 < (if rPair σ x y then (0 : Int32) else 1) then -1 else rTopN (st2 σ 42 0 (if rPair σ x y then 0 else 1)) x y (-1)
def kPair (σ : Mem) (x y : Int32) : Int32 := if rPair σ x y then 0 else 1
def fPair (σ : Mem) (x y : Int32) : Mem := st2 σ 42 0 (kPair σ x y)
theorem kPair_0 {σ : Mem} {x y : Int32} (h : ¬ 0 < kPair σ x y) : rPair σ x y := by
  unfold kPair at h
  split at h
  · assumption
  · exact absurd (by decide) h
/-- the best, anew: the memory, the run, its ticks -/
def rBA (σ : Mem) (x y : Int32) : Nat → Mem × Int32 × Int32
  | 0 => (σ, -1, 0)
  | k + 1 => if σ 19 k = x ∧ σ 18 k = y ∧ rCnt σ k then
      let υ := rRun (rBA σ x y k).1 (iN (σ 17 k)) 500
      let f := if (rBA σ x y k).2.1 < 0 ∨ υ 40 0 < (rBA σ x y k).2.2 then nI k else (rBA σ x y k).2.1
      (υ, f, if f = nI k then υ 40 0 else (rBA σ x y k).2.2)
    else rBA σ x y k
theorem rBA_fr {σ : Mem} {x y : Int32} : ∀ {k : Nat}, rFr σ (rBA σ x y k).1
  | 0 => rFr.rf
  | k + 1 => by
    unfold rBA
    split
    · exact (rBA_fr (k := k)).tr rRun_k.1
    · exact rBA_fr (k := k)
theorem rBA_n {σ τ : Mem} {x y f v : Int32} {k : Nat} (hS : rBA σ x y k = (τ, f, v)) (h : ¬ (σ 19 k = x ∧ σ 18 k = y ∧ rCnt σ k)) : rBA σ x y (k + 1) = (τ, f, v) := by
  rw [← hS]; exact if_neg h
theorem rBA_1 {σ τ : Mem} {x y f v : Int32} {k : Nat} (hS : rBA σ x y k = (τ, f, v)) (h : σ 19 k = x ∧ σ 18 k = y ∧ rCnt σ k) (c : f < 0 ∨ rRun τ (iN (σ 17 k)) 500 40 0 < v) : rBA σ x y (k + 1) = (rRun τ (iN (σ 17 k)) 500, nI k, rRun τ (iN (σ 17 k)) 500 40 0) := by
  show (if _ then _ else _) = _
  rw [if_pos h, hS]
  dsimp only
  rw [if_pos c, if_pos rfl]
theorem rBA_2 {σ τ : Mem} {x y f v : Int32} {k : Nat} (hS : rBA σ x y k = (τ, f, v)) (h : σ 19 k = x ∧ σ 18 k = y ∧ rCnt σ k) (c1 : ¬ f < 0) (c2 : ¬ rRun τ (iN (σ 17 k)) 500 40 0 < v) (c3 : f = nI k) : rBA σ x y (k + 1) = (rRun τ (iN (σ 17 k)) 500, f, rRun τ (iN (σ 17 k)) 500 40 0) := by
  show (if _ then _ else _) = _
  rw [if_pos h, hS]
  dsimp only
  rw [if_neg (fun q => q.elim c1 c2), if_pos c3]
theorem rBA_3 {σ τ : Mem} {x y f v : Int32} {k : Nat} (hS : rBA σ x y k = (τ, f, v)) (h : σ 19 k = x ∧ σ 18 k = y ∧ rCnt σ k) (c1 : ¬ f < 0) (c2 : ¬ rRun τ (iN (σ 17 k)) 500 40 0 < v) (c3 : ¬ f = nI k) : rBA σ x y (k + 1) = (rRun τ (iN (σ 17 k)) 500, f, v) := by
  show (if _ then _ else _) = _
  rw [if_pos h, hS]
  dsimp only
  rw [if_neg (fun q => q.elim c1 c2), if_neg c3]
theorem rLaw_fr {σ τ : Mem} (h : rFr σ τ) (a : Nat) (d : Int32) : ∀ i, rLaw τ a d i = rLaw σ a d i
  | 0 => rfl
  | i + 1 => by unfold rLaw; rw [rLaw_fr h a d i, h 12 (by decide)]
theorem rLawI_fr {σ τ : Mem} (h : rFr σ τ) (k : Nat) : rLawI τ k = rLawI σ k := by
  unfold rLawI
  rw [h 19 (by decide), h 20 (by decide), h 11 (by decide), rLaw_fr h]
theorem rCnt_fr {σ τ : Mem} (h : rFr σ τ) (k : Nat) : rCnt τ k = rCnt σ k := by
  unfold rCnt rRef rBad
  rw [rLawI_fr h, h 21 (by decide), h 25 (by decide), h 13 (by decide), h 23 (by decide), h 14 (by decide), h 15 (by decide), h 24 (by decide)]
def fBestAnew (σ : Mem) (x y : Int32) : Mem := if 0 < kPair σ x y then st2 σ 42 0 (kPair σ x y) else (rBA (st2 σ 42 0 (kPair σ x y)) x y (iN (σ 26 0))).1
def vBestAnew (σ : Mem) (x y : Int32) : Int32 := if 0 < kPair σ x y then -1 else (rBA (st2 σ 42 0 (kPair σ x y)) x y (iN (σ 26 0))).2.1
abbrev rLess (σ : Mem) (own o : Int32) : Prop := 0 ≤ own ∧ 0 ≤ o ∧ σ 22 (iN o) < σ 22 (iN own)
def rSpotL (σ : Mem) (x w own : Int32) : Nat → Int32
  | 0 => 1
  | k + 1 => rSpotL σ x w own k + if rLess σ own (rTopN σ x (nI k) w) then 1 else 0
def rSpot (σ : Mem) (x y w : Int32) : Int32 := if rTopN σ x y w < 0 then -1 else rSpotL σ x w (rTopN σ x y w) 8
def vPlace (σ : Mem) (x y : Int32) : Int32 := if 0 < kPair σ x y then -1 else rSpot (fPair σ x y) x y (-1)
def vBest2 (σ : Mem) (x y : Int32) : Int32 := if 0 < kPair σ x y then -1 else rTopN (fPair σ x y) x y (-1)
def vPlaceW (σ : Mem) (x : Int32) : Int32 := if 0 < kIn σ 26 x then -1 else rSpot (fIn σ 26 x) (σ 19 (iN x)) (σ 18 (iN x)) x
def rAtB (σ : Mem) (x own : Int32) : Nat → Int32
  | 0 => 0
  | j + 1 => rAtB σ x own j + if 0 ≤ rTopN σ x (nI j) (-1) ∧ rAhd σ (iN (rTopN σ x (nI j) (-1))) (iN own) then 1 else 0
def rBef (σ : Mem) (x own : Int32) : Int32 := if 0 ≤ own then rAtB σ x own 8 else 0
def rAtF (σ : Mem) (x z : Int32) : Nat → Int32
  | 0 => -1
  | k + 1 => if 0 ≤ rTopN σ x (nI k) (-1) ∧ rBef σ x (rTopN σ x (nI k) (-1)) = z then rTopN σ x (nI k) (-1) else rAtF σ x z k
def rAt (σ : Mem) (x z : Int32) : Int32 := if rIn σ 16 x then rAtF σ x z 8 else -1
def kAt (σ : Mem) (x z : Int32) : Int32 := if rAt σ x z < 0 then 1 else 0
def fAt (σ : Mem) (x z : Int32) : Mem := st2 σ 42 0 (kAt σ x z)
def vAt (σ : Mem) (x z : Int32) : Int32 := if 0 < kAt σ x z then -1 else rAt σ x z
/-- n runs are left to look at -/
def rGs (σ : Mem) (x y : Int32) : Nat → Int32 × Int32 → Int32 × Int32
  | 0, a => a
  | n + 1, a => if a.2 < 3 then rGs σ x y n (if σ 19 n = x ∧ σ 18 n = y ∧ rCnt σ n then (a.1 + σ 22 n, a.2 + 1) else a) else a
def rGsN (σ : Mem) (x y : Int32) : Int32 × Int32 := rGs σ x y (iN (σ 26 0)) (0, 0)
def rGuess (σ : Mem) (x y : Int32) : Int32 := if (rGsN σ x y).2 = 0 then -1 else (11 * (rGsN σ x y).1 + 10 * (rGsN σ x y).2 - 1) / (10 * (rGsN σ x y).2)
def vEst (σ : Mem) (x y : Int32) : Int32 := if 0 < kPair σ x y then -1 else rGuess (fPair σ x y) x y

theorem nI_m1 {n : Nat} (hn : n ≤ 1000) (h : ¬ nI n - 1 < 0) : ∃ m, n = m + 1 ∧ nI n - 1 = nI m := by
  cases n with
  | zero => exact absurd (by decide) h
  | succ m => exact ⟨m, rfl, nI_pred m⟩
theorem rGs_s {σ : Mem} {x y u v : Int32} {n : Nat} (c : v < 3) : rGs σ x y (n + 1) (u, v) = rGs σ x y n (if σ 19 n = x ∧ σ 18 n = y ∧ rCnt σ n then (u + σ 22 n, v + 1) else (u, v)) := by
  show (if _ then _ else _) = _
  rw [if_pos c]
theorem rGs_x {σ : Mem} {x y u v : Int32} {n : Nat} (c : ¬ v < 3) : rGs σ x y n (u, v) = (u, v) := by
  cases n with
  | zero => rfl
  | succ n => show (if _ then _ else _) = _; rw [if_neg c]

theorem rGs_y {σ : Mem} {x y u v : Int32} {n : Nat} (c : v < 3) (h : σ 19 n = x ∧ σ 18 n = y ∧ rCnt σ n) : rGs σ x y n (u + σ 22 n, v + 1) = rGs σ x y (n + 1) (u, v) := by rw [rGs_s c, if_pos h]
theorem rGs_n {σ : Mem} {x y u v : Int32} {n : Nat} (c : v < 3) (h : ¬ (σ 19 n = x ∧ σ 18 n = y ∧ rCnt σ n)) : rGs σ x y n (u, v) = rGs σ x y (n + 1) (u, v) := by rw [rGs_s c, if_neg h]
theorem rAtB_1 {σ : Mem} {x own b : Int32} {j : Nat} (e : b = rAtB σ x own j) (h1 : 0 ≤ rTopN σ x (nI j) (-1)) (h2 : rAhd σ (iN (rTopN σ x (nI j) (-1))) (iN own)) : b + 1 = rAtB σ x own (j + 1) := by
  show _ = rAtB σ x own j + (if _ then _ else _)
  rw [if_pos ⟨h1, h2⟩, e]
theorem rAtB_2 {σ : Mem} {x own b : Int32} {j : Nat} (e : b = rAtB σ x own j) (h : ¬ (0 ≤ rTopN σ x (nI j) (-1) ∧ rAhd σ (iN (rTopN σ x (nI j) (-1))) (iN own))) : b + 0 = rAtB σ x own (j + 1) := by
  show _ = rAtB σ x own j + (if _ then _ else _)
  rw [if_neg h, e]
theorem rAtF_1 {σ : Mem} {x z f : Int32} {k : Nat} (e : f = rAtF σ x z k) (h : rTopN σ x (nI k) (-1) < 0) : f = rAtF σ x z (k + 1) := by
  show _ = (if _ then _ else _)
  rw [if_neg (fun q => absurd q.1 (Int32.not_le.mpr h)), e]
theorem rAtF_2 {σ : Mem} {x z b : Int32} {k : Nat} (h : 0 ≤ rTopN σ x (nI k) (-1)) (e : b = rAtB σ x (rTopN σ x (nI k) (-1)) 8) (c : b = z) : rTopN σ x (nI k) (-1) = rAtF σ x z (k + 1) := by
  show _ = (if _ then _ else _)
  rw [if_pos ⟨h, by unfold rBef; rw [if_pos h, ← e, c]⟩]
theorem rAtF_3 {σ : Mem} {x z b f : Int32} {k : Nat} (e0 : f = rAtF σ x z k) (h : 0 ≤ rTopN σ x (nI k) (-1)) (e : b = rAtB σ x (rTopN σ x (nI k) (-1)) 8) (c : ¬ b = z) : f = rAtF σ x z (k + 1) := by
  show _ = (if _ then _ else _)
  rw [if_neg (fun q => c (by have := q.2; unfold rBef at this; rw [if_pos h, ← e] at this; exact this)), e0]

theorem v_up {v : Int32} (h : ∃ j : Nat, j ≤ 3 ∧ v = nI j) (c : v < 3) : ∃ j : Nat, j ≤ 3 ∧ v + 1 = nI j := by
  obtain ⟨j, hj, rfl⟩ := h
  have := (nI_ltI (a := j) (b := 3) (by omega) (by decide)).mp c
  exact ⟨j + 1, by omega, nI_1 j⟩
theorem v_10 {v : Int32} (h : ∃ j : Nat, j ≤ 3 ∧ v = nI j) (c : ¬ v = 0) : ¬ 10 * v = 0 := by
  obtain ⟨j, hj, rfl⟩ := h
  rw [show (10 : Int32) * nI j = nI (10 * j) from pk_mul 10 j]
  intro q
  have : 10 * j = 0 := (nI_eq (b := 0) (by omega) (by decide)).mp q
  exact c (by rw [show j = 0 by omega]; rfl)

theorem md_X8_counts : sg_MD yX8_counts cX8_counts 2 (some .boolean) 1 := ⟨sg_mem (i := 1149) (by decide +kernel) rfl, sg_mem (i := 59) (by decide +kernel) rfl, ⟨by decide, by decide⟩, by decide +kernel⟩
theorem ml_RX8_209 : sg_ML RX8 209 yX8_counts := .inl (sg_mem (i := 1146) (by decide +kernel) rfl)
theorem im_X8_counts : Cond.instanceMethod yX8_counts ∈ sg_T := sg_mem (i := 1148) (by decide +kernel) rfl
theorem sl_X8_counts : Cond.selects yX8_counts.cls yX8_counts yX8_counts ∈ sg_T := sg_mem (i := 48) (by decide +kernel) rfl
theorem md_X8_ahead : sg_MD yX8_ahead cX8_ahead 3 (some .boolean) 2 := ⟨sg_mem (i := 1153) (by decide +kernel) rfl, sg_mem (i := 59) (by decide +kernel) rfl, ⟨by decide, by decide⟩, by decide +kernel⟩
theorem ml_RX8_212 : sg_ML RX8 212 yX8_ahead := .inl (sg_mem (i := 1150) (by decide +kernel) rfl)
theorem im_X8_ahead : Cond.instanceMethod yX8_ahead ∈ sg_T := sg_mem (i := 1152) (by decide +kernel) rfl
theorem sl_X8_ahead : Cond.selects yX8_ahead.cls yX8_ahead yX8_ahead ∈ sg_T := sg_mem (i := 49) (by decide +kernel) rfl
theorem md_X8_top : sg_MD yX8_top cX8_top 7 (some .int) 3 := ⟨sg_mem (i := 1145) (by decide +kernel) rfl, sg_mem (i := 59) (by decide +kernel) rfl, ⟨by decide, by decide⟩, by decide +kernel⟩
theorem ml_RX8_218 : sg_ML RX8 218 yX8_top := .inl (sg_mem (i := 1142) (by decide +kernel) rfl)
theorem im_X8_top : Cond.instanceMethod yX8_top ∈ sg_T := sg_mem (i := 1144) (by decide +kernel) rfl
theorem sl_X8_top : Cond.selects yX8_top.cls yX8_top yX8_top ∈ sg_T := sg_mem (i := 47) (by decide +kernel) rfl
theorem md_X8_isPair : sg_MD yX8_isPair cX8_isPair 3 (some .boolean) 2 := ⟨sg_mem (i := 1141) (by decide +kernel) rfl, sg_mem (i := 59) (by decide +kernel) rfl, ⟨by decide, by decide⟩, by decide +kernel⟩
theorem ml_RX8_215 : sg_ML RX8 215 yX8_isPair := .inl (sg_mem (i := 1138) (by decide +kernel) rfl)
theorem im_X8_isPair : Cond.instanceMethod yX8_isPair ∈ sg_T := sg_mem (i := 1140) (by decide +kernel) rfl
theorem sl_X8_isPair : Cond.selects yX8_isPair.cls yX8_isPair yX8_isPair ∈ sg_T := sg_mem (i := 46) (by decide +kernel) rfl
theorem md_X8_spot : sg_MD yX8_spot cX8_spot 8 (some .int) 3 := ⟨sg_mem (i := 1165) (by decide +kernel) rfl, sg_mem (i := 59) (by decide +kernel) rfl, ⟨by decide, by decide⟩, by decide +kernel⟩
theorem ml_RX8_222 : sg_ML RX8 222 yX8_spot := .inl (sg_mem (i := 1162) (by decide +kernel) rfl)
theorem im_X8_spot : Cond.instanceMethod yX8_spot ∈ sg_T := sg_mem (i := 1164) (by decide +kernel) rfl
theorem sl_X8_spot : Cond.selects yX8_spot.cls yX8_spot yX8_spot ∈ sg_T := sg_mem (i := 50) (by decide +kernel) rfl
theorem md_X8_guess : sg_MD yX8_guess cX8_guess 6 (some .int) 2 := ⟨sg_mem (i := 1181) (by decide +kernel) rfl, sg_mem (i := 59) (by decide +kernel) rfl, ⟨by decide, by decide⟩, by decide +kernel⟩
theorem ml_RX8_225 : sg_ML RX8 225 yX8_guess := .inl (sg_mem (i := 1178) (by decide +kernel) rfl)
theorem im_X8_guess : Cond.instanceMethod yX8_guess ∈ sg_T := sg_mem (i := 1180) (by decide +kernel) rfl
theorem sl_X8_guess : Cond.selects yX8_guess.cls yX8_guess yX8_guess ∈ sg_T := sg_mem (i := 51) (by decide +kernel) rfl
set_option maxHeartbeats 4000000 in
set_option maxRecDepth 100000 in
theorem c_X8_ahead (l : Launch) (g : sg_G) (C : Nat → Option va_E) (m0 : Nat) (q : Nat → Nat) (σ : Mem) (a : Nat) (b : Nat) (hN : mN m0 q) (ha : a < 40) (hb : b < 40) : sg_Met l yX8_ahead cX8_ahead 3 (some .boolean) 0 0 0 0 g [.ref m0, .int (nI a), .int (nI b)] (sg_ov C (mW g m0 q σ)) (fun v C' => v = some (.int (bI (rAhd σ a b))) ∧ C' = sg_ov C (mW g m0 q σ)) sg_no := by
  refine sg_ofW (by decide) rfl ?_ (Nat.le_of_ble_eq_true rfl)
  intro p e s m below meth c hc hlk hrt hin2 htb
  have hc : sg_Cx p s m _ c cX8_ahead 3 RX8 g := hc
  show sg_W p l e _ s m _ below meth c 3 g 0 0 _ (sg_ov C (mW g m0 q σ)) 0 [(0, .ref m0), (1, .int (nI a)), (2, .int (nI b))] []
  refine sw_aload_n (pc := 0) hc dX8_ahead_0 rfl 0 rfl ?_
  refine sw_get (pc := 1) (v := .ref (q 22)) hc fl_RX8_67 (mW_o hN) rfl dX8_ahead_1 ?_
  refine sw_iload_n (pc := 4) hc dX8_ahead_4 rfl 1 rfl ?_
  refine sw_iald (pc := 5) (j := a) hc (mW_a22 hN) rfl (by omega) (by decide) dX8_ahead_5 ?_
  refine sw_aload_n (pc := 6) hc dX8_ahead_6 rfl 0 rfl ?_
  refine sw_get (pc := 7) (v := .ref (q 22)) hc fl_RX8_67 (mW_o hN) rfl dX8_ahead_7 ?_
  refine sw_iload_n (pc := 10) hc dX8_ahead_10 rfl 2 rfl ?_
  refine sw_iald (pc := 11) (j := b) hc (mW_a22 hN) rfl (by omega) (by decide) dX8_ahead_11 ?_
  refine sw_icmp_eq (pc := 12) (tgt := 36) hc dX8_ahead_12 (by decide) (fun c_1 => ?_) (fun c_1 => ?_)
  ·
    refine sw_aload_n (pc := 36) hc dX8_ahead_36 rfl 0 rfl ?_
    refine sw_get (pc := 37) (v := .ref (q 20)) hc fl_RX8_61 (mW_o hN) rfl dX8_ahead_37 ?_
    refine sw_iload_n (pc := 40) hc dX8_ahead_40 rfl 1 rfl ?_
    refine sw_iald (pc := 41) (j := a) hc (mW_a20 hN) rfl (by omega) (by decide) dX8_ahead_41 ?_
    refine sw_aload_n (pc := 42) hc dX8_ahead_42 rfl 0 rfl ?_
    refine sw_get (pc := 43) (v := .ref (q 20)) hc fl_RX8_61 (mW_o hN) rfl dX8_ahead_43 ?_
    refine sw_iload_n (pc := 46) hc dX8_ahead_46 rfl 2 rfl ?_
    refine sw_iald (pc := 47) (j := b) hc (mW_a20 hN) rfl (by omega) (by decide) dX8_ahead_47 ?_
    refine sw_icmp_ne (pc := 48) (tgt := 64) hc dX8_ahead_48 (by decide) (fun c_2 => ?_) (fun c_2 => ?_)
    ·
      refine sw_aload_n (pc := 64) hc dX8_ahead_64 rfl 0 rfl ?_
      refine sw_get (pc := 65) (v := .ref (q 20)) hc fl_RX8_61 (mW_o hN) rfl dX8_ahead_65 ?_
      refine sw_iload_n (pc := 68) hc dX8_ahead_68 rfl 1 rfl ?_
      refine sw_iald (pc := 69) (j := a) hc (mW_a20 hN) rfl (by omega) (by decide) dX8_ahead_69 ?_
      refine sw_aload_n (pc := 70) hc dX8_ahead_70 rfl 0 rfl ?_
      refine sw_get (pc := 71) (v := .ref (q 20)) hc fl_RX8_61 (mW_o hN) rfl dX8_ahead_71 ?_
      refine sw_iload_n (pc := 74) hc dX8_ahead_74 rfl 2 rfl ?_
      refine sw_iald (pc := 75) (j := b) hc (mW_a20 hN) rfl (by omega) (by decide) dX8_ahead_75 ?_
      refine sw_icmp_ge (pc := 76) (tgt := 83) hc dX8_ahead_76 (by decide) (fun c_3 => ?_) (fun c_3 => ?_)
      ·
        have c_3' := Int32.not_lt.mpr c_3
        refine sw_iconst (pc := 83) (v := 0) hc dX8_ahead_83 (by decide) ?_
        have h_4 : 0 = bI (rAhd σ a b) := by first | with_reducible rfl | (first | with_reducible rfl | (simp [-Int32.not_le, -Int32.not_lt, bI, st2_a, c_1, c_2, c_3, c_3']; done) | (((try simp only [st2_a, Nat.reduceBEq, Bool.false_and, Bool.true_and, beq_self_eq_true, cond_false, cond_true] at c_1 c_2 c_3 c_3') <;> simp [-Int32.not_le, -Int32.not_lt, bI, st2_a, c_1, c_2, c_3, c_3']); done) | ((try simp only [bI]); (repeat' split) <;> simp_all [-Int32.not_le, -Int32.not_lt, st2_a, rGap, rWall]; done))
        exact sw_iret (pc := 84) hc hlk hrt rfl ⟨(congrArg (fun z => some (Value.int z)) h_4), rfl⟩ (Nat.le_of_ble_eq_true rfl) (Nat.le_of_ble_eq_true rfl) dX8_ahead_84
      ·
        have c_3' := Int32.not_le.mp c_3
        refine sw_iconst (pc := 79) (v := 1) hc dX8_ahead_79 (by decide) ?_
        refine sw_goto (pc := 80) (tgt := 84) hc dX8_ahead_80 (by decide) ?_
        have h_5 : 1 = bI (rAhd σ a b) := by first | with_reducible rfl | (first | with_reducible rfl | (simp [-Int32.not_le, -Int32.not_lt, bI, st2_a, c_1, c_2, c_3, c_3']; done) | (((try simp only [st2_a, Nat.reduceBEq, Bool.false_and, Bool.true_and, beq_self_eq_true, cond_false, cond_true] at c_1 c_2 c_3 c_3') <;> simp [-Int32.not_le, -Int32.not_lt, bI, st2_a, c_1, c_2, c_3, c_3']); done) | ((try simp only [bI]); (repeat' split) <;> simp_all [-Int32.not_le, -Int32.not_lt, st2_a, rGap, rWall]; done))
        exact sw_iret (pc := 84) hc hlk hrt rfl ⟨(congrArg (fun z => some (Value.int z)) h_5), rfl⟩ (Nat.le_of_ble_eq_true rfl) (Nat.le_of_ble_eq_true rfl) dX8_ahead_84
    ·
      refine sw_iload_n (pc := 51) hc dX8_ahead_51 rfl 1 rfl ?_
      refine sw_iload_n (pc := 52) hc dX8_ahead_52 rfl 2 rfl ?_
      refine sw_icmp_ge (pc := 53) (tgt := 60) hc dX8_ahead_53 (by decide) (fun c_6 => ?_) (fun c_6 => ?_)
      ·
        have c_6' := Int32.not_lt.mpr c_6
        refine sw_iconst (pc := 60) (v := 0) hc dX8_ahead_60 (by decide) ?_
        refine sw_goto (pc := 61) (tgt := 84) hc dX8_ahead_61 (by decide) ?_
        have h_7 : 0 = bI (rAhd σ a b) := by first | with_reducible rfl | (first | with_reducible rfl | (simp [-Int32.not_le, -Int32.not_lt, bI, st2_a, c_1, c_2, c_6, c_6']; done) | (((try simp only [st2_a, Nat.reduceBEq, Bool.false_and, Bool.true_and, beq_self_eq_true, cond_false, cond_true] at c_1 c_2 c_6 c_6') <;> simp [-Int32.not_le, -Int32.not_lt, bI, st2_a, c_1, c_2, c_6, c_6']); done) | ((try simp only [bI]); (repeat' split) <;> simp_all [-Int32.not_le, -Int32.not_lt, st2_a, rGap, rWall]; done))
        exact sw_iret (pc := 84) hc hlk hrt rfl ⟨(congrArg (fun z => some (Value.int z)) h_7), rfl⟩ (Nat.le_of_ble_eq_true rfl) (Nat.le_of_ble_eq_true rfl) dX8_ahead_84
      ·
        have c_6' := Int32.not_le.mp c_6
        refine sw_iconst (pc := 56) (v := 1) hc dX8_ahead_56 (by decide) ?_
        refine sw_goto (pc := 57) (tgt := 84) hc dX8_ahead_57 (by decide) ?_
        have h_8 : 1 = bI (rAhd σ a b) := by first | with_reducible rfl | (first | with_reducible rfl | (simp [-Int32.not_le, -Int32.not_lt, bI, st2_a, c_1, c_2, c_6, c_6']; done) | (((try simp only [st2_a, Nat.reduceBEq, Bool.false_and, Bool.true_and, beq_self_eq_true, cond_false, cond_true] at c_1 c_2 c_6 c_6') <;> simp [-Int32.not_le, -Int32.not_lt, bI, st2_a, c_1, c_2, c_6, c_6']); done) | ((try simp only [bI]); (repeat' split) <;> simp_all [-Int32.not_le, -Int32.not_lt, st2_a, rGap, rWall]; done))
        exact sw_iret (pc := 84) hc hlk hrt rfl ⟨(congrArg (fun z => some (Value.int z)) h_8), rfl⟩ (Nat.le_of_ble_eq_true rfl) (Nat.le_of_ble_eq_true rfl) dX8_ahead_84
  ·
    refine sw_aload_n (pc := 15) hc dX8_ahead_15 rfl 0 rfl ?_
    refine sw_get (pc := 16) (v := .ref (q 22)) hc fl_RX8_67 (mW_o hN) rfl dX8_ahead_16 ?_
    refine sw_iload_n (pc := 19) hc dX8_ahead_19 rfl 1 rfl ?_
    refine sw_iald (pc := 20) (j := a) hc (mW_a22 hN) rfl (by omega) (by decide) dX8_ahead_20 ?_
    refine sw_aload_n (pc := 21) hc dX8_ahead_21 rfl 0 rfl ?_
    refine sw_get (pc := 22) (v := .ref (q 22)) hc fl_RX8_67 (mW_o hN) rfl dX8_ahead_22 ?_
    refine sw_iload_n (pc := 25) hc dX8_ahead_25 rfl 2 rfl ?_
    refine sw_iald (pc := 26) (j := b) hc (mW_a22 hN) rfl (by omega) (by decide) dX8_ahead_26 ?_
    refine sw_icmp_ge (pc := 27) (tgt := 34) hc dX8_ahead_27 (by decide) (fun c_9 => ?_) (fun c_9 => ?_)
    ·
      have c_9' := Int32.not_lt.mpr c_9
      refine sw_iconst (pc := 34) (v := 0) hc dX8_ahead_34 (by decide) ?_
      have h_10 : 0 = bI (rAhd σ a b) := by first | with_reducible rfl | (first | with_reducible rfl | (simp [-Int32.not_le, -Int32.not_lt, bI, st2_a, c_1, c_9, c_9']; done) | (((try simp only [st2_a, Nat.reduceBEq, Bool.false_and, Bool.true_and, beq_self_eq_true, cond_false, cond_true] at c_1 c_9 c_9') <;> simp [-Int32.not_le, -Int32.not_lt, bI, st2_a, c_1, c_9, c_9']); done) | ((try simp only [bI]); (repeat' split) <;> simp_all [-Int32.not_le, -Int32.not_lt, st2_a, rGap, rWall]; done))
      exact sw_iret (pc := 35) hc hlk hrt rfl ⟨(congrArg (fun z => some (Value.int z)) h_10), rfl⟩ (Nat.le_of_ble_eq_true rfl) (Nat.le_of_ble_eq_true rfl) dX8_ahead_35
    ·
      have c_9' := Int32.not_le.mp c_9
      refine sw_iconst (pc := 30) (v := 1) hc dX8_ahead_30 (by decide) ?_
      refine sw_goto (pc := 31) (tgt := 35) hc dX8_ahead_31 (by decide) ?_
      have h_11 : 1 = bI (rAhd σ a b) := by first | with_reducible rfl | (first | with_reducible rfl | (simp [-Int32.not_le, -Int32.not_lt, bI, st2_a, c_1, c_9, c_9']; done) | (((try simp only [st2_a, Nat.reduceBEq, Bool.false_and, Bool.true_and, beq_self_eq_true, cond_false, cond_true] at c_1 c_9 c_9') <;> simp [-Int32.not_le, -Int32.not_lt, bI, st2_a, c_1, c_9, c_9']); done) | ((try simp only [bI]); (repeat' split) <;> simp_all [-Int32.not_le, -Int32.not_lt, st2_a, rGap, rWall]; done))
      exact sw_iret (pc := 35) hc hlk hrt rfl ⟨(congrArg (fun z => some (Value.int z)) h_11), rfl⟩ (Nat.le_of_ble_eq_true rfl) (Nat.le_of_ble_eq_true rfl) dX8_ahead_35

set_option maxHeartbeats 4000000 in
set_option maxRecDepth 100000 in
theorem c_X8_top (l : Launch) (g : sg_G) (C : Nat → Option va_E) (m0 : Nat) (q : Nat → Nat) (σ : Mem) (x : Int32) (y : Int32) (w : Int32) (hN : mN m0 q) (hWF : rWF σ) : sg_Met l yX8_top cX8_top 7 (some .int) 3 67 0 0 g [.ref m0, .int x, .int y, .int w] (sg_ov C (mW g m0 q σ)) (fun v C' => v = some (.int (rTopN σ x y w)) ∧ C' = sg_ov C (mW g m0 q σ)) sg_no := by
  refine sg_ofW (by decide) rfl ?_ (Nat.le_of_ble_eq_true rfl)
  intro p e s m below meth c hc hlk hrt hin2 htb
  have hc : sg_Cx p s m _ c cX8_top 7 RX8 g := hc
  show sg_W p l e _ s m _ below meth c 7 g 0 0 _ (sg_ov C (mW g m0 q σ)) 0 [(0, .ref m0), (1, .int x), (2, .int y), (3, .int w)] []
  have K_6 : ∀ (n6 : Nat) (k : Nat) (f : Int32) (hn6 : (iN (σ 26 0) - k) < n6) (ef : f = rTop σ x y w k) (hkb : k ≤ iN (σ 26 0)), sg_W p l e (sg_rm 3 67 0 0) s m ([.ref m0, .int x, .int y, .int w] : List Value).toArray below meth c 7 g 0 0 (sg_End below g (fun v C' => v = some (.int (rTopN σ x y w)) ∧ C' = sg_ov C (mW g m0 q σ)) sg_no ([.ref m0, .int x, .int y, .int w] : List Value).toArray s 0 0) (sg_ov C (mW g m0 q σ)) 6 [(0, .ref m0), (1, .int x), (2, .int y), (3, .int w), (4, .int f), (5, .int (nI k))] [] := by
    intro n6
    induction n6 with
    | zero => intro k f hn6 ef hkb; exact absurd hn6 (Nat.not_lt_zero _)
    | succ n6 ih6 =>
      intro k f hn6 ef hkb
      have h26 := hWF.2.2.2.1.2
      refine sw_iload (pc := 6) hc dX8_top_6 5 rfl ?_
      refine sw_aload_n (pc := 8) hc dX8_top_8 rfl 0 rfl ?_
      refine sw_get (pc := 9) (v := .int (σ 26 0)) hc fl_RX8_105 (mW_o hN) rfl dX8_top_9 ?_
      refine sw_st (st' := [.int (nI (iN (σ 26 0))), .int (nI k)]) (congrArg (fun z => ([.int z, .int (nI k)] : List Value)) (hWF.2.2.2.1.1 : σ 26 0 = nI (iN (σ 26 0)))) ?_
      refine sw_icmp_ge (pc := 12) (tgt := 95) hc dX8_top_12 (by decide) (fun c_1 => ?_) (fun c_1 => ?_)
      ·
        have n_2 : (iN (σ 26 0)) ≤ k := (nI_leI (a := (iN (σ 26 0))) (b := k) (by omega) (by omega)).mp c_1
        have c_1' := Int32.not_lt.mpr c_1
        refine sw_iload (pc := 95) hc dX8_top_95 4 rfl ?_
        have hz : f = rTopN σ x y w := by rw [ef, show k = iN (σ 26 0) by omega]; rfl
        exact sw_iret (pc := 97) hc hlk hrt rfl ⟨congrArg (fun z => some (Value.int z)) hz, rfl⟩ (Nat.le_of_ble_eq_true rfl) (Nat.le_of_ble_eq_true rfl) dX8_top_97
      ·
        have n_3 : ¬ ((iN (σ 26 0)) ≤ k) := fun z => c_1 ((nI_leI (a := (iN (σ 26 0))) (b := k) (by omega) (by omega)).mpr z)
        have c_1' := Int32.not_le.mp c_1
        refine sw_iload (pc := 15) hc dX8_top_15 5 rfl ?_
        refine sw_iload_n (pc := 17) hc dX8_top_17 rfl 3 rfl ?_
        refine sw_icmp_eq (pc := 18) (tgt := 56) hc dX8_top_18 (by decide) (fun c_4 => ?_) (fun c_4 => ?_)
        ·
          refine sw_iconst (pc := 56) (v := 0) hc dX8_top_56 (by decide) ?_
          refine sw_istore (pc := 57) hc dX8_top_57 (by decide) (lv' := [(6, .int 0), (0, .ref m0), (1, .int x), (2, .int y), (3, .int w), (4, .int f), (5, .int (nI k))]) rfl ?_
          refine sw_iload (pc := 59) hc dX8_top_59 0 rfl ?_
          refine sw_if_eq (pc := 61) (tgt := 85) hc dX8_top_61 (by decide) (fun c_5 => ?_) (fun c_5 => ?_)
          ·
            refine sw_iload (pc := 85) hc dX8_top_85 5 rfl ?_
            refine sw_istore (pc := 87) hc dX8_top_87 (by decide) (lv' := [(4, .int f), (6, .int 0), (0, .ref m0), (1, .int x), (2, .int y), (3, .int w), (5, .int (nI k))]) rfl ?_
            refine sw_iinc (pc := 89) (v := nI (k + 1)) (lv' := [(5, .int (nI (k + 1))), (4, .int f), (6, .int 0), (0, .ref m0), (1, .int x), (2, .int y), (3, .int w)]) hc dX8_top_89 (k := 6) rfl (nI_1 _) (by decide) rfl ?_
            refine sw_goto (pc := 92) (tgt := 6) hc dX8_top_92 (by decide) ?_
            have h_6 : f = rTop σ x y w (k + 1) := by first | with_reducible rfl | (subst ef; first | with_reducible rfl | (simp [-Int32.not_le, -Int32.not_lt, rTop, st2_a, hkb, c_1, n_3, c_1', c_4, c_5]; done) | (((try simp only [st2_a, Nat.reduceBEq, Bool.false_and, Bool.true_and, beq_self_eq_true, cond_false, cond_true] at hkb c_1 n_3 c_1' c_4 c_5) <;> simp [-Int32.not_le, -Int32.not_lt, rTop, st2_a, hkb, c_1, n_3, c_1', c_4, c_5]); done) | ((try simp only [rTop]); (repeat' split) <;> simp_all [-Int32.not_le, -Int32.not_lt, st2_a, rGap, rWall]; done))
            have h_7 : (k + 1) ≤ iN (σ 26 0) := by omega
            have h_8 : (iN (σ 26 0) - (k + 1)) < n6 := by omega
            exact sw_sub (ks := [3, 4, 5, 6, 1, 0]) rfl (ih6 (k + 1) f h_8 h_6 h_7)
          ·
            exact absurd c_5 (by decide)
        ·
          refine sw_aload_n (pc := 21) hc dX8_top_21 rfl 0 rfl ?_
          refine sw_get (pc := 22) (v := .ref (q 19)) hc fl_RX8_58 (mW_o hN) rfl dX8_top_22 ?_
          refine sw_iload (pc := 25) hc dX8_top_25 5 rfl ?_
          refine sw_iald (pc := 27) (j := k) hc (mW_a19 hN) rfl (by omega) (by decide) dX8_top_27 ?_
          refine sw_iload_n (pc := 28) hc dX8_top_28 rfl 1 rfl ?_
          refine sw_icmp_ne (pc := 29) (tgt := 56) hc dX8_top_29 (by decide) (fun c_9 => ?_) (fun c_9 => ?_)
          ·
            refine sw_iconst (pc := 56) (v := 0) hc dX8_top_56 (by decide) ?_
            refine sw_istore (pc := 57) hc dX8_top_57 (by decide) (lv' := [(6, .int 0), (0, .ref m0), (1, .int x), (2, .int y), (3, .int w), (4, .int f), (5, .int (nI k))]) rfl ?_
            refine sw_iload (pc := 59) hc dX8_top_59 0 rfl ?_
            refine sw_if_eq (pc := 61) (tgt := 85) hc dX8_top_61 (by decide) (fun c_10 => ?_) (fun c_10 => ?_)
            ·
              refine sw_iload (pc := 85) hc dX8_top_85 5 rfl ?_
              refine sw_istore (pc := 87) hc dX8_top_87 (by decide) (lv' := [(4, .int f), (6, .int 0), (0, .ref m0), (1, .int x), (2, .int y), (3, .int w), (5, .int (nI k))]) rfl ?_
              refine sw_iinc (pc := 89) (v := nI (k + 1)) (lv' := [(5, .int (nI (k + 1))), (4, .int f), (6, .int 0), (0, .ref m0), (1, .int x), (2, .int y), (3, .int w)]) hc dX8_top_89 (k := 6) rfl (nI_1 _) (by decide) rfl ?_
              refine sw_goto (pc := 92) (tgt := 6) hc dX8_top_92 (by decide) ?_
              have h_11 : f = rTop σ x y w (k + 1) := by first | with_reducible rfl | (subst ef; first | with_reducible rfl | (simp [-Int32.not_le, -Int32.not_lt, rTop, st2_a, hkb, c_1, n_3, c_1', c_4, c_9, c_10]; done) | (((try simp only [st2_a, Nat.reduceBEq, Bool.false_and, Bool.true_and, beq_self_eq_true, cond_false, cond_true] at hkb c_1 n_3 c_1' c_4 c_9 c_10) <;> simp [-Int32.not_le, -Int32.not_lt, rTop, st2_a, hkb, c_1, n_3, c_1', c_4, c_9, c_10]); done) | ((try simp only [rTop]); (repeat' split) <;> simp_all [-Int32.not_le, -Int32.not_lt, st2_a, rGap, rWall]; done))
              have h_12 : (k + 1) ≤ iN (σ 26 0) := by omega
              have h_13 : (iN (σ 26 0) - (k + 1)) < n6 := by omega
              exact sw_sub (ks := [3, 4, 5, 6, 1, 0]) rfl (ih6 (k + 1) f h_13 h_11 h_12)
            ·
              exact absurd c_10 (by decide)
          ·
            refine sw_aload_n (pc := 32) hc dX8_top_32 rfl 0 rfl ?_
            refine sw_get (pc := 33) (v := .ref (q 18)) hc fl_RX8_55 (mW_o hN) rfl dX8_top_33 ?_
            refine sw_iload (pc := 36) hc dX8_top_36 5 rfl ?_
            refine sw_iald (pc := 38) (j := k) hc (mW_a18 hN) rfl (by omega) (by decide) dX8_top_38 ?_
            refine sw_iload_n (pc := 39) hc dX8_top_39 rfl 2 rfl ?_
            refine sw_icmp_ne (pc := 40) (tgt := 56) hc dX8_top_40 (by decide) (fun c_14 => ?_) (fun c_14 => ?_)
            ·
              refine sw_iconst (pc := 56) (v := 0) hc dX8_top_56 (by decide) ?_
              refine sw_istore (pc := 57) hc dX8_top_57 (by decide) (lv' := [(6, .int 0), (0, .ref m0), (1, .int x), (2, .int y), (3, .int w), (4, .int f), (5, .int (nI k))]) rfl ?_
              refine sw_iload (pc := 59) hc dX8_top_59 0 rfl ?_
              refine sw_if_eq (pc := 61) (tgt := 85) hc dX8_top_61 (by decide) (fun c_15 => ?_) (fun c_15 => ?_)
              ·
                refine sw_iload (pc := 85) hc dX8_top_85 5 rfl ?_
                refine sw_istore (pc := 87) hc dX8_top_87 (by decide) (lv' := [(4, .int f), (6, .int 0), (0, .ref m0), (1, .int x), (2, .int y), (3, .int w), (5, .int (nI k))]) rfl ?_
                refine sw_iinc (pc := 89) (v := nI (k + 1)) (lv' := [(5, .int (nI (k + 1))), (4, .int f), (6, .int 0), (0, .ref m0), (1, .int x), (2, .int y), (3, .int w)]) hc dX8_top_89 (k := 6) rfl (nI_1 _) (by decide) rfl ?_
                refine sw_goto (pc := 92) (tgt := 6) hc dX8_top_92 (by decide) ?_
                have h_16 : f = rTop σ x y w (k + 1) := by first | with_reducible rfl | (subst ef; first | with_reducible rfl | (simp [-Int32.not_le, -Int32.not_lt, rTop, st2_a, hkb, c_1, n_3, c_1', c_4, c_9, c_14, c_15]; done) | (((try simp only [st2_a, Nat.reduceBEq, Bool.false_and, Bool.true_and, beq_self_eq_true, cond_false, cond_true] at hkb c_1 n_3 c_1' c_4 c_9 c_14 c_15) <;> simp [-Int32.not_le, -Int32.not_lt, rTop, st2_a, hkb, c_1, n_3, c_1', c_4, c_9, c_14, c_15]); done) | ((try simp only [rTop]); (repeat' split) <;> simp_all [-Int32.not_le, -Int32.not_lt, st2_a, rGap, rWall]; done))
                have h_17 : (k + 1) ≤ iN (σ 26 0) := by omega
                have h_18 : (iN (σ 26 0) - (k + 1)) < n6 := by omega
                exact sw_sub (ks := [3, 4, 5, 6, 1, 0]) rfl (ih6 (k + 1) f h_18 h_16 h_17)
              ·
                exact absurd c_15 (by decide)
            ·
              refine sw_aload_n (pc := 43) hc dX8_top_43 rfl 0 rfl ?_
              refine sw_iload (pc := 44) hc dX8_top_44 5 rfl ?_
              refine sw_callV (pc := 46) (rest := []) hc (c_X8_counts l g C m0 q σ k hN (hWF.rn (by omega))) md_X8_counts ml_RX8_209 im_X8_counts sl_X8_counts (mW_o hN) rfl rfl rfl (Nat.le_of_ble_eq_true rfl) dX8_top_46 ⟨Nat.le_of_ble_eq_true rfl, Nat.le_of_ble_eq_true rfl, Nat.le_of_ble_eq_true rfl, Nat.le_of_ble_eq_true rfl⟩ (fun v C' hP => ?_) (fun _ _ h => h.elim)
              obtain ⟨rfl, rfl⟩ := hP
              refine sw_st (st' := [.int (bI (rCnt σ k))]) rfl ?_
              refine sw_if_eq (pc := 49) (tgt := 56) hc dX8_top_49 (by decide) (fun c_19 => ?_) (fun c_19 => ?_)
              ·
                have p_20 : ¬ (rCnt σ k) := bI_0 c_19
                refine sw_iconst (pc := 56) (v := 0) hc dX8_top_56 (by decide) ?_
                refine sw_istore (pc := 57) hc dX8_top_57 (by decide) (lv' := [(6, .int 0), (0, .ref m0), (1, .int x), (2, .int y), (3, .int w), (4, .int f), (5, .int (nI k))]) rfl ?_
                refine sw_iload (pc := 59) hc dX8_top_59 0 rfl ?_
                refine sw_if_eq (pc := 61) (tgt := 85) hc dX8_top_61 (by decide) (fun c_21 => ?_) (fun c_21 => ?_)
                ·
                  refine sw_iload (pc := 85) hc dX8_top_85 5 rfl ?_
                  refine sw_istore (pc := 87) hc dX8_top_87 (by decide) (lv' := [(4, .int f), (6, .int 0), (0, .ref m0), (1, .int x), (2, .int y), (3, .int w), (5, .int (nI k))]) rfl ?_
                  refine sw_iinc (pc := 89) (v := nI (k + 1)) (lv' := [(5, .int (nI (k + 1))), (4, .int f), (6, .int 0), (0, .ref m0), (1, .int x), (2, .int y), (3, .int w)]) hc dX8_top_89 (k := 6) rfl (nI_1 _) (by decide) rfl ?_
                  refine sw_goto (pc := 92) (tgt := 6) hc dX8_top_92 (by decide) ?_
                  have h_22 : f = rTop σ x y w (k + 1) := by first | with_reducible rfl | (subst ef; first | with_reducible rfl | (simp [-Int32.not_le, -Int32.not_lt, rTop, st2_a, hkb, c_1, n_3, c_1', c_4, c_9, c_14, p_20, c_21]; done) | (((try simp only [st2_a, Nat.reduceBEq, Bool.false_and, Bool.true_and, beq_self_eq_true, cond_false, cond_true] at hkb c_1 n_3 c_1' c_4 c_9 c_14 p_20 c_21) <;> simp [-Int32.not_le, -Int32.not_lt, rTop, st2_a, hkb, c_1, n_3, c_1', c_4, c_9, c_14, p_20, c_21]); done) | ((try simp only [rTop]); (repeat' split) <;> simp_all [-Int32.not_le, -Int32.not_lt, st2_a, rGap, rWall]; done))
                  have h_23 : (k + 1) ≤ iN (σ 26 0) := by omega
                  have h_24 : (iN (σ 26 0) - (k + 1)) < n6 := by omega
                  exact sw_sub (ks := [3, 4, 5, 6, 1, 0]) rfl (ih6 (k + 1) f h_24 h_22 h_23)
                ·
                  exact absurd c_21 (by decide)
              ·
                have p_25 : rCnt σ k := bI_n c_19
                refine sw_iconst (pc := 52) (v := 1) hc dX8_top_52 (by decide) ?_
                refine sw_goto (pc := 53) (tgt := 57) hc dX8_top_53 (by decide) ?_
                refine sw_istore (pc := 57) hc dX8_top_57 (by decide) (lv' := [(6, .int 1), (0, .ref m0), (1, .int x), (2, .int y), (3, .int w), (4, .int f), (5, .int (nI k))]) rfl ?_
                refine sw_iload (pc := 59) hc dX8_top_59 0 rfl ?_
                refine sw_if_eq (pc := 61) (tgt := 85) hc dX8_top_61 (by decide) (fun c_26 => ?_) (fun c_26 => ?_)
                ·
                  exact absurd c_26 (by decide)
                ·
                  refine sw_iload (pc := 64) hc dX8_top_64 5 rfl ?_
                  refine sw_if_lt (pc := 66) (tgt := 80) hc dX8_top_66 (by decide) (fun c_27 => ?_) (fun c_27 => ?_)
                  ·
                    have c_27' := Int32.not_le.mpr c_27
                    refine sw_iload (pc := 80) hc dX8_top_80 6 rfl ?_
                    refine sw_goto (pc := 82) (tgt := 87) hc dX8_top_82 (by decide) ?_
                    refine sw_istore (pc := 87) hc dX8_top_87 (by decide) (lv' := [(4, .int (nI k)), (6, .int 1), (0, .ref m0), (1, .int x), (2, .int y), (3, .int w), (5, .int (nI k))]) rfl ?_
                    refine sw_iinc (pc := 89) (v := nI (k + 1)) (lv' := [(5, .int (nI (k + 1))), (4, .int (nI k)), (6, .int 1), (0, .ref m0), (1, .int x), (2, .int y), (3, .int w)]) hc dX8_top_89 (k := 6) rfl (nI_1 _) (by decide) rfl ?_
                    refine sw_goto (pc := 92) (tgt := 6) hc dX8_top_92 (by decide) ?_
                    have h_28 : nI k = rTop σ x y w (k + 1) := by first | with_reducible rfl | (subst ef; first | with_reducible rfl | (simp [-Int32.not_le, -Int32.not_lt, rTop, st2_a, hkb, c_1, n_3, c_1', c_4, c_9, c_14, p_25, c_26, c_27, c_27']; done) | (((try simp only [st2_a, Nat.reduceBEq, Bool.false_and, Bool.true_and, beq_self_eq_true, cond_false, cond_true] at hkb c_1 n_3 c_1' c_4 c_9 c_14 p_25 c_26 c_27 c_27') <;> simp [-Int32.not_le, -Int32.not_lt, rTop, st2_a, hkb, c_1, n_3, c_1', c_4, c_9, c_14, p_25, c_26, c_27, c_27']); done) | ((try simp only [rTop]); (repeat' split) <;> simp_all [-Int32.not_le, -Int32.not_lt, st2_a, rGap, rWall]; done))
                    have h_29 : (k + 1) ≤ iN (σ 26 0) := by omega
                    have h_30 : (iN (σ 26 0) - (k + 1)) < n6 := by omega
                    exact sw_sub (ks := [3, 4, 5, 6, 1, 0]) rfl (ih6 (k + 1) (nI k) h_30 h_28 h_29)
                  ·
                    have c_27' := Int32.not_lt.mp c_27
                    obtain ⟨ff, ff2⟩ := rTop_x (by omega) ef c_27
                    refine sw_aload_n (pc := 69) hc dX8_top_69 rfl 1 rfl ?_
                    refine sw_iload (pc := 70) hc dX8_top_70 6 rfl ?_
                    refine sw_iload (pc := 72) hc dX8_top_72 5 rfl ?_
                    refine sw_st (st' := [.int (nI (iN f)), .int (nI k), .ref m0]) (congrArg (fun z => ([.int z, .int (nI k), .ref m0] : List Value)) ff) ?_
                    refine sw_callV (pc := 74) (rest := []) hc (c_X8_ahead l g C m0 q σ k (iN f) hN (by omega) (by omega)) md_X8_ahead ml_RX8_212 im_X8_ahead sl_X8_ahead (mW_o hN) rfl rfl rfl (Nat.le_of_ble_eq_true rfl) dX8_top_74 ⟨Nat.le_of_ble_eq_true rfl, Nat.le_of_ble_eq_true rfl, Nat.le_of_ble_eq_true rfl, Nat.le_of_ble_eq_true rfl⟩ (fun v C' hP => ?_) (fun _ _ h => h.elim)
                    obtain ⟨rfl, rfl⟩ := hP
                    refine sw_st (st' := [.int (bI (rAhd σ k (iN f)))]) rfl ?_
                    refine sw_if_eq (pc := 77) (tgt := 85) hc dX8_top_77 (by decide) (fun c_31 => ?_) (fun c_31 => ?_)
                    ·
                      have p_32 : ¬ (rAhd σ k (iN f)) := bI_0 c_31
                      refine sw_iload (pc := 85) hc dX8_top_85 5 rfl ?_
                      refine sw_istore (pc := 87) hc dX8_top_87 (by decide) (lv' := [(4, .int f), (6, .int 1), (0, .ref m0), (1, .int x), (2, .int y), (3, .int w), (5, .int (nI k))]) rfl ?_
                      refine sw_iinc (pc := 89) (v := nI (k + 1)) (lv' := [(5, .int (nI (k + 1))), (4, .int f), (6, .int 1), (0, .ref m0), (1, .int x), (2, .int y), (3, .int w)]) hc dX8_top_89 (k := 6) rfl (nI_1 _) (by decide) rfl ?_
                      refine sw_goto (pc := 92) (tgt := 6) hc dX8_top_92 (by decide) ?_
                      have h_33 : f = rTop σ x y w (k + 1) := by first | with_reducible rfl | (subst ef; first | with_reducible rfl | (simp [-Int32.not_le, -Int32.not_lt, rTop, st2_a, hkb, c_1, n_3, c_1', c_4, c_9, c_14, p_25, c_26, c_27, c_27', p_32]; done) | (((try simp only [st2_a, Nat.reduceBEq, Bool.false_and, Bool.true_and, beq_self_eq_true, cond_false, cond_true] at hkb c_1 n_3 c_1' c_4 c_9 c_14 p_25 c_26 c_27 c_27' p_32) <;> simp [-Int32.not_le, -Int32.not_lt, rTop, st2_a, hkb, c_1, n_3, c_1', c_4, c_9, c_14, p_25, c_26, c_27, c_27', p_32]); done) | ((try simp only [rTop]); (repeat' split) <;> simp_all [-Int32.not_le, -Int32.not_lt, st2_a, rGap, rWall]; done))
                      have h_34 : (k + 1) ≤ iN (σ 26 0) := by omega
                      have h_35 : (iN (σ 26 0) - (k + 1)) < n6 := by omega
                      exact sw_sub (ks := [3, 4, 5, 6, 1, 0]) rfl (ih6 (k + 1) f h_35 h_33 h_34)
                    ·
                      have p_36 : rAhd σ k (iN f) := bI_n c_31
                      refine sw_iload (pc := 80) hc dX8_top_80 6 rfl ?_
                      refine sw_goto (pc := 82) (tgt := 87) hc dX8_top_82 (by decide) ?_
                      refine sw_istore (pc := 87) hc dX8_top_87 (by decide) (lv' := [(4, .int (nI k)), (6, .int 1), (0, .ref m0), (1, .int x), (2, .int y), (3, .int w), (5, .int (nI k))]) rfl ?_
                      refine sw_iinc (pc := 89) (v := nI (k + 1)) (lv' := [(5, .int (nI (k + 1))), (4, .int (nI k)), (6, .int 1), (0, .ref m0), (1, .int x), (2, .int y), (3, .int w)]) hc dX8_top_89 (k := 6) rfl (nI_1 _) (by decide) rfl ?_
                      refine sw_goto (pc := 92) (tgt := 6) hc dX8_top_92 (by decide) ?_
                      have h_37 : nI k = rTop σ x y w (k + 1) := by first | with_reducible rfl | (subst ef; first | with_reducible rfl | (simp [-Int32.not_le, -Int32.not_lt, rTop, st2_a, hkb, c_1, n_3, c_1', c_4, c_9, c_14, p_25, c_26, c_27, c_27', p_36]; done) | (((try simp only [st2_a, Nat.reduceBEq, Bool.false_and, Bool.true_and, beq_self_eq_true, cond_false, cond_true] at hkb c_1 n_3 c_1' c_4 c_9 c_14 p_25 c_26 c_27 c_27' p_36) <;> simp [-Int32.not_le, -Int32.not_lt, rTop, st2_a, hkb, c_1, n_3, c_1', c_4, c_9, c_14, p_25, c_26, c_27, c_27', p_36]); done) | ((try simp only [rTop]); (repeat' split) <;> simp_all [-Int32.not_le, -Int32.not_lt, st2_a, rGap, rWall]; done))
                      have h_38 : (k + 1) ≤ iN (σ 26 0) := by omega
                      have h_39 : (iN (σ 26 0) - (k + 1)) < n6 := by omega
                      exact sw_sub (ks := [3, 4, 5, 6, 1, 0]) rfl (ih6 (k + 1) (nI k) h_39 h_37 h_38)
  refine sw_iconst (pc := 0) (v := (-1)) hc dX8_top_0 (by decide) ?_
  refine sw_istore (pc := 1) hc dX8_top_1 (by decide) (lv' := [(4, .int (-1)), (0, .ref m0), (1, .int x), (2, .int y), (3, .int w)]) rfl ?_
  refine sw_iconst (pc := 3) (v := 0) hc dX8_top_3 (by decide) ?_
  refine sw_istore (pc := 4) hc dX8_top_4 (by decide) (lv' := [(5, .int 0), (4, .int (-1)), (0, .ref m0), (1, .int x), (2, .int y), (3, .int w)]) rfl ?_
  have h_40 : (-1) = rTop σ x y w 0 := by first | with_reducible rfl | (first | with_reducible rfl | (simp [-Int32.not_le, -Int32.not_lt, rTop, st2_a]; done)  | ((try simp only [rTop]); (repeat' split) <;> simp_all [-Int32.not_le, -Int32.not_lt, st2_a, rGap, rWall]; done))
  have h_41 : 0 ≤ iN (σ 26 0) := by omega
  exact sw_sub (ks := [2, 3, 4, 5, 1, 0]) rfl (K_6 _ 0 (-1) (Nat.lt_succ_self _) h_40 h_41)

set_option maxHeartbeats 4000000 in
set_option maxRecDepth 100000 in
theorem c_X8_best (l : Launch) (g : sg_G) (C : Nat → Option va_E) (m0 : Nat) (q : Nat → Nat) (σ : Mem) (x : Int32) (y : Int32) (hN : mN m0 q) (hWF : rWF σ) : sg_Met l yX8_best cX8_best 3 (some .int) 4 93 0 0 g [.ref m0, .int x, .int y] (sg_ov C (mW g m0 q σ)) (fun v C' => v = some (.int (vBest2 σ x y)) ∧ C' = sg_ov C (mW g m0 q (fPair σ x y))) sg_no := by
  refine sg_ofW (by decide) rfl ?_ (Nat.le_of_ble_eq_true rfl)
  intro p e s m below meth c hc hlk hrt hin2 htb
  have hc : sg_Cx p s m _ c cX8_best 3 RX8 g := hc
  show sg_W p l e _ s m _ below meth c 3 g 0 0 _ (sg_ov C (mW g m0 q σ)) 0 [(0, .ref m0), (1, .int x), (2, .int y)] []
  have K_15 : sg_W p l e (sg_rm 4 93 0 0) s m ([.ref m0, .int x, .int y] : List Value).toArray below meth c 3 g 0 0 (sg_End below g (fun v C' => v = some (.int (vBest2 σ x y)) ∧ C' = sg_ov C (mW g m0 q (fPair σ x y))) sg_no ([.ref m0, .int x, .int y] : List Value).toArray s 0 0) (sg_ov C (mW g m0 q σ)) 15 [(0, .ref m0), (1, .int x), (2, .int y)] [.int (kPair σ x y), .ref m0] := by
    refine sw_callV (pc := 15) (rest := []) hc (c_X8_holds l g C m0 q σ (kPair σ x y) hN ) md_X8_holds ml_RX8_171 im_X8_holds sl_X8_holds (mW_o hN) rfl rfl rfl (Nat.le_of_ble_eq_true rfl) dX8_best_15 ⟨Nat.le_of_ble_eq_true rfl, Nat.le_of_ble_eq_true rfl, Nat.le_of_ble_eq_true rfl, Nat.le_of_ble_eq_true rfl⟩ (fun v C' hP => ?_) (fun _ _ h => h.elim)
    obtain ⟨rfl, rfl⟩ := hP
    refine sw_st (st' := [.int (bI (0 < (kPair σ x y)))]) rfl ?_
    refine sw_if_eq (pc := 18) (tgt := 25) hc dX8_best_18 (by decide) (fun c_1 => ?_) (fun c_1 => ?_)
    ·
      have p_2 : ¬ (0 < (kPair σ x y)) := bI_0 c_1
      refine sw_aload_n (pc := 25) hc dX8_best_25 rfl 0 rfl ?_
      refine sw_iload_n (pc := 26) hc dX8_best_26 rfl 1 rfl ?_
      refine sw_iload_n (pc := 27) hc dX8_best_27 rfl 2 rfl ?_
      refine sw_iconst (pc := 28) (v := (-1)) hc dX8_best_28 (by decide) ?_
      refine sw_callV (pc := 29) (rest := []) hc (c_X8_top l g C m0 q (st2 σ 42 0 (kPair σ x y)) x y (-1) hN (hWF.t)) md_X8_top ml_RX8_218 im_X8_top sl_X8_top (mW_o hN) rfl rfl rfl (Nat.le_of_ble_eq_true rfl) dX8_best_29 ⟨Nat.le_of_ble_eq_true rfl, Nat.le_of_ble_eq_true rfl, Nat.le_of_ble_eq_true rfl, Nat.le_of_ble_eq_true rfl⟩ (fun v C' hP => ?_) (fun _ _ h => h.elim)
      obtain ⟨rfl, rfl⟩ := hP
      refine sw_st (st' := [.int (rTopN (st2 σ 42 0 (kPair σ x y)) x y (-1))]) rfl ?_
      have h_3 : rTopN (st2 σ 42 0 (kPair σ x y)) x y (-1) = vBest2 σ x y := by first | rfl | exact (if_pos (by assumption)).symm | exact (if_neg (by assumption)).symm
      have h_4 : st2 σ 42 0 (kPair σ x y) = fPair σ x y := by first | rfl | exact (if_pos (by assumption)).symm | exact (if_neg (by assumption)).symm
      exact sw_iret (pc := 32) hc hlk hrt rfl ⟨(congrArg (fun z => some (Value.int z)) h_3), (congrArg (fun z => sg_ov C (mW g m0 q z)) h_4)⟩ (Nat.le_of_ble_eq_true rfl) (Nat.le_of_ble_eq_true rfl) dX8_best_32
    ·
      have p_5 : 0 < (kPair σ x y) := bI_n c_1
      refine sw_iconst (pc := 21) (v := (-1)) hc dX8_best_21 (by decide) ?_
      refine sw_goto (pc := 22) (tgt := 32) hc dX8_best_22 (by decide) ?_
      have h_6 : (-1) = vBest2 σ x y := by first | rfl | exact (if_pos (by assumption)).symm | exact (if_neg (by assumption)).symm
      have h_7 : st2 σ 42 0 (kPair σ x y) = fPair σ x y := by first | rfl | exact (if_pos (by assumption)).symm | exact (if_neg (by assumption)).symm
      exact sw_iret (pc := 32) hc hlk hrt rfl ⟨(congrArg (fun z => some (Value.int z)) h_6), (congrArg (fun z => sg_ov C (mW g m0 q z)) h_7)⟩ (Nat.le_of_ble_eq_true rfl) (Nat.le_of_ble_eq_true rfl) dX8_best_32
  refine sw_aload_n (pc := 0) hc dX8_best_0 rfl 0 rfl ?_
  refine sw_aload_n (pc := 1) hc dX8_best_1 rfl 0 rfl ?_
  refine sw_iload_n (pc := 2) hc dX8_best_2 rfl 1 rfl ?_
  refine sw_iload_n (pc := 3) hc dX8_best_3 rfl 2 rfl ?_
  refine sw_callV (pc := 4) (rest := [.ref m0]) hc (c_X8_isPair l g C m0 q σ x y hN ) md_X8_isPair ml_RX8_215 im_X8_isPair sl_X8_isPair (mW_o hN) rfl rfl rfl (Nat.le_of_ble_eq_true rfl) dX8_best_4 ⟨Nat.le_of_ble_eq_true rfl, Nat.le_of_ble_eq_true rfl, Nat.le_of_ble_eq_true rfl, Nat.le_of_ble_eq_true rfl⟩ (fun v C' hP => ?_) (fun _ _ h => h.elim)
  obtain ⟨rfl, rfl⟩ := hP
  refine sw_st (st' := [.int (bI (rPair σ x y)), .ref m0]) rfl ?_
  refine sw_if_eq (pc := 7) (tgt := 14) hc dX8_best_7 (by decide) (fun c_8 => ?_) (fun c_8 => ?_)
  ·
    have p_9 : ¬ (rPair σ x y) := bI_0 c_8
    refine sw_iconst (pc := 14) (v := 1) hc dX8_best_14 (by decide) ?_
    have h_10 : 1 = kPair σ x y := by first | with_reducible rfl | (first | with_reducible rfl | (simp [-Int32.not_le, -Int32.not_lt, kPair, st2_a, p_9]; done) | (((try simp only [st2_a, Nat.reduceBEq, Bool.false_and, Bool.true_and, beq_self_eq_true, cond_false, cond_true] at p_9) <;> simp [-Int32.not_le, -Int32.not_lt, kPair, st2_a, p_9]); done) | ((try simp only [kPair]); (repeat' split) <;> simp_all [-Int32.not_le, -Int32.not_lt, st2_a, rGap, rWall]; done))
    refine sw_st (st' := [.int (kPair σ x y), .ref m0]) (congrArg (fun z => ([.int z, .ref m0] : List Value)) h_10) ?_
    exact sw_sub (ks := [0, 1, 2]) rfl (K_15 )
  ·
    have p_11 : rPair σ x y := bI_n c_8
    refine sw_iconst (pc := 10) (v := 0) hc dX8_best_10 (by decide) ?_
    refine sw_goto (pc := 11) (tgt := 15) hc dX8_best_11 (by decide) ?_
    have h_12 : 0 = kPair σ x y := by first | with_reducible rfl | (first | with_reducible rfl | (simp [-Int32.not_le, -Int32.not_lt, kPair, st2_a, p_11]; done) | (((try simp only [st2_a, Nat.reduceBEq, Bool.false_and, Bool.true_and, beq_self_eq_true, cond_false, cond_true] at p_11) <;> simp [-Int32.not_le, -Int32.not_lt, kPair, st2_a, p_11]); done) | ((try simp only [kPair]); (repeat' split) <;> simp_all [-Int32.not_le, -Int32.not_lt, st2_a, rGap, rWall]; done))
    refine sw_st (st' := [.int (kPair σ x y), .ref m0]) (congrArg (fun z => ([.int z, .ref m0] : List Value)) h_12) ?_
    exact sw_sub (ks := [0, 1, 2]) rfl (K_15 )

set_option maxHeartbeats 4000000 in
set_option maxRecDepth 100000 in
theorem c_X8_bestAnew (l : Launch) (g : sg_G) (C : Nat → Option va_E) (m0 : Nat) (q : Nat → Nat) (σ : Mem) (x : Int32) (y : Int32) (hN : mN m0 q) (hWF : rWF σ) : sg_Met l yX8_bestAnew cX8_bestAnew 6 (some .int) 5 120 0 0 g [.ref m0, .int x, .int y] (sg_ov C (mW g m0 q σ)) (fun v C' => v = some (.int (vBestAnew σ x y)) ∧ C' = sg_ov C (mW g m0 q (fBestAnew σ x y))) sg_no := by
  refine sg_ofW (by decide) rfl ?_ (Nat.le_of_ble_eq_true rfl)
  intro p e s m below meth c hc hlk hrt hin2 htb
  have hc : sg_Cx p s m _ c cX8_bestAnew 6 RX8 g := hc
  show sg_W p l e _ s m _ below meth c 6 g 0 0 _ (sg_ov C (mW g m0 q σ)) 0 [(0, .ref m0), (1, .int x), (2, .int y)] []
  have K_31 : ∀ (n31 : Nat) (τ : Mem) (k : Nat) (f : Int32) (v : Int32) (hn31 : (iN (σ 26 0) - k) < n31) (hS : rBA (st2 σ 42 0 (kPair σ x y)) x y k = (τ, f, v)) (k1 : ¬ 0 < kPair σ x y) (hkb : k ≤ iN (σ 26 0)), sg_W p l e (sg_rm 5 120 0 0) s m ([.ref m0, .int x, .int y] : List Value).toArray below meth c 6 g 0 0 (sg_End below g (fun v C' => v = some (.int (vBestAnew σ x y)) ∧ C' = sg_ov C (mW g m0 q (fBestAnew σ x y))) sg_no ([.ref m0, .int x, .int y] : List Value).toArray s 0 0) (sg_ov C (mW g m0 q τ)) 31 [(0, .ref m0), (1, .int x), (2, .int y), (3, .int f), (4, .int v), (5, .int (nI k))] [] := by
    intro n31
    induction n31 with
    | zero => intro τ k f v hn31 hS k1 hkb; exact absurd hn31 (Nat.not_lt_zero _)
    | succ n31 ih31 =>
      intro τ k f v hn31 hS k1 hkb
      have hF0 : rFr (st2 σ 42 0 (kPair σ x y)) τ := by rw [show τ = (rBA (st2 σ 42 0 (kPair σ x y)) x y k).1 by rw [hS]]; exact rBA_fr
      have hF : rFr σ τ := (rFr.rf.st2 (by decide)).tr hF0
      have hW := hWF.fr hF
      have h26 := hWF.2.2.2.1.2
      refine sw_iload (pc := 31) hc dX8_bestAnew_31 5 rfl ?_
      refine sw_aload_n (pc := 33) hc dX8_bestAnew_33 rfl 0 rfl ?_
      refine sw_get (pc := 34) (v := .int (τ 26 0)) hc fl_RX8_105 (mW_o hN) rfl dX8_bestAnew_34 ?_
      refine sw_st (st' := [.int (nI (iN (σ 26 0))), .int (nI k)]) (congrArg (fun z => ([.int z, .int (nI k)] : List Value)) ((by rw [hF 26 (by decide)]; exact hWF.2.2.2.1.1) : τ 26 0 = nI (iN (σ 26 0)))) ?_
      refine sw_icmp_ge (pc := 37) (tgt := 128) hc dX8_bestAnew_37 (by decide) (fun c_1 => ?_) (fun c_1 => ?_)
      ·
        have n_2 : (iN (σ 26 0)) ≤ k := (nI_leI (a := (iN (σ 26 0))) (b := k) (by omega) (by omega)).mp c_1
        have c_1' := Int32.not_lt.mpr c_1
        refine sw_iload_n (pc := 128) hc dX8_bestAnew_128 rfl 3 rfl ?_
        have hk0 : k = iN (σ 26 0) := by omega
        rw [hk0] at hS
        have hz : f = vBestAnew σ x y := (show f = (rBA (st2 σ 42 0 (kPair σ x y)) x y (iN (σ 26 0))).2.1 by rw [hS]).trans (if_neg k1).symm
        have hz2 : τ = fBestAnew σ x y := (show τ = (rBA (st2 σ 42 0 (kPair σ x y)) x y (iN (σ 26 0))).1 by rw [hS]).trans (if_neg k1).symm
        exact sw_iret (pc := 129) hc hlk hrt rfl ⟨congrArg (fun z => some (Value.int z)) hz, congrArg (fun z => sg_ov C (mW g m0 q z)) hz2⟩ (Nat.le_of_ble_eq_true rfl) (Nat.le_of_ble_eq_true rfl) dX8_bestAnew_129
      ·
        have n_3 : ¬ ((iN (σ 26 0)) ≤ k) := fun z => c_1 ((nI_leI (a := (iN (σ 26 0))) (b := k) (by omega) (by omega)).mpr z)
        have c_1' := Int32.not_le.mp c_1
        refine sw_aload_n (pc := 40) hc dX8_bestAnew_40 rfl 0 rfl ?_
        refine sw_get (pc := 41) (v := .ref (q 19)) hc fl_RX8_58 (mW_o hN) rfl dX8_bestAnew_41 ?_
        refine sw_iload (pc := 44) hc dX8_bestAnew_44 5 rfl ?_
        refine sw_iald (pc := 46) (j := k) hc (mW_a19 hN) rfl (by omega) (by decide) dX8_bestAnew_46 ?_
        refine sw_st (st' := [.int (σ 19 k)]) (congrArg (fun z => ([.int z] : List Value)) ((by rw [hF 19 (by decide)]) : τ 19 k = σ 19 k)) ?_
        refine sw_iload_n (pc := 47) hc dX8_bestAnew_47 rfl 1 rfl ?_
        refine sw_icmp_ne (pc := 48) (tgt := 122) hc dX8_bestAnew_48 (by decide) (fun c_4 => ?_) (fun c_4 => ?_)
        ·
          refine sw_iinc (pc := 122) (v := nI (k + 1)) (lv' := [(5, .int (nI (k + 1))), (0, .ref m0), (1, .int x), (2, .int y), (3, .int f), (4, .int v)]) hc dX8_bestAnew_122 (k := 5) rfl (nI_1 _) (by decide) rfl ?_
          refine sw_goto (pc := 125) (tgt := 31) hc dX8_bestAnew_125 (by decide) ?_
          have h_5 : rBA (st2 σ 42 0 (kPair σ x y)) x y (k + 1) = (τ, f, v) := by exact rBA_n hS (fun q => c_4 q.1)
          have h_6 : ¬ 0 < kPair σ x y := by exact k1
          have h_7 : (k + 1) ≤ iN (σ 26 0) := by omega
          have h_8 : (iN (σ 26 0) - (k + 1)) < n31 := by omega
          exact sw_sub (ks := [1, 2, 3, 4, 5, 0]) rfl (ih31 τ (k + 1) f v h_8 h_5 h_6 h_7)
        ·
          refine sw_aload_n (pc := 51) hc dX8_bestAnew_51 rfl 0 rfl ?_
          refine sw_get (pc := 52) (v := .ref (q 18)) hc fl_RX8_55 (mW_o hN) rfl dX8_bestAnew_52 ?_
          refine sw_iload (pc := 55) hc dX8_bestAnew_55 5 rfl ?_
          refine sw_iald (pc := 57) (j := k) hc (mW_a18 hN) rfl (by omega) (by decide) dX8_bestAnew_57 ?_
          refine sw_st (st' := [.int (σ 18 k)]) (congrArg (fun z => ([.int z] : List Value)) ((by rw [hF 18 (by decide)]) : τ 18 k = σ 18 k)) ?_
          refine sw_iload_n (pc := 58) hc dX8_bestAnew_58 rfl 2 rfl ?_
          refine sw_icmp_ne (pc := 59) (tgt := 122) hc dX8_bestAnew_59 (by decide) (fun c_9 => ?_) (fun c_9 => ?_)
          ·
            refine sw_iinc (pc := 122) (v := nI (k + 1)) (lv' := [(5, .int (nI (k + 1))), (0, .ref m0), (1, .int x), (2, .int y), (3, .int f), (4, .int v)]) hc dX8_bestAnew_122 (k := 5) rfl (nI_1 _) (by decide) rfl ?_
            refine sw_goto (pc := 125) (tgt := 31) hc dX8_bestAnew_125 (by decide) ?_
            have h_10 : rBA (st2 σ 42 0 (kPair σ x y)) x y (k + 1) = (τ, f, v) := by exact rBA_n hS (fun q => c_9 q.2.1)
            have h_11 : ¬ 0 < kPair σ x y := by exact k1
            have h_12 : (k + 1) ≤ iN (σ 26 0) := by omega
            have h_13 : (iN (σ 26 0) - (k + 1)) < n31 := by omega
            exact sw_sub (ks := [1, 2, 3, 4, 5, 0]) rfl (ih31 τ (k + 1) f v h_13 h_10 h_11 h_12)
          ·
            refine sw_aload_n (pc := 62) hc dX8_bestAnew_62 rfl 0 rfl ?_
            refine sw_iload (pc := 63) hc dX8_bestAnew_63 5 rfl ?_
            refine sw_callV (pc := 65) (rest := []) hc (c_X8_counts l g C m0 q τ k hN (hW.rn (show k < iN (τ 26 0) by rw [hF 26 (by decide)]; omega))) md_X8_counts ml_RX8_209 im_X8_counts sl_X8_counts (mW_o hN) rfl rfl rfl (Nat.le_of_ble_eq_true rfl) dX8_bestAnew_65 ⟨Nat.le_of_ble_eq_true rfl, Nat.le_of_ble_eq_true rfl, Nat.le_of_ble_eq_true rfl, Nat.le_of_ble_eq_true rfl⟩ (fun v C' hP => ?_) (fun _ _ h => h.elim)
            obtain ⟨rfl, rfl⟩ := hP
            refine sw_st (st' := [.int (bI (rCnt τ k))]) rfl ?_
            refine sw_if_eq (pc := 68) (tgt := 122) hc dX8_bestAnew_68 (by decide) (fun c_14 => ?_) (fun c_14 => ?_)
            ·
              have p_15 : ¬ (rCnt τ k) := bI_0 c_14
              refine sw_iinc (pc := 122) (v := nI (k + 1)) (lv' := [(5, .int (nI (k + 1))), (0, .ref m0), (1, .int x), (2, .int y), (3, .int f), (4, .int v)]) hc dX8_bestAnew_122 (k := 5) rfl (nI_1 _) (by decide) rfl ?_
              refine sw_goto (pc := 125) (tgt := 31) hc dX8_bestAnew_125 (by decide) ?_
              have h_16 : rBA (st2 σ 42 0 (kPair σ x y)) x y (k + 1) = (τ, f, v) := by exact rBA_n hS (fun q => p_15 (by rw [rCnt_fr hF0]; exact q.2.2))
              have h_17 : ¬ 0 < kPair σ x y := by exact k1
              have h_18 : (k + 1) ≤ iN (σ 26 0) := by omega
              have h_19 : (iN (σ 26 0) - (k + 1)) < n31 := by omega
              exact sw_sub (ks := [1, 2, 3, 4, 5, 0]) rfl (ih31 τ (k + 1) f v h_19 h_16 h_17 h_18)
            ·
              have p_20 : rCnt τ k := bI_n c_14
              refine sw_aload_n (pc := 71) hc dX8_bestAnew_71 rfl 0 rfl ?_
              refine sw_aload_n (pc := 72) hc dX8_bestAnew_72 rfl 0 rfl ?_
              refine sw_get (pc := 73) (v := .ref (q 17)) hc fl_RX8_52 (mW_o hN) rfl dX8_bestAnew_73 ?_
              refine sw_iload (pc := 76) hc dX8_bestAnew_76 5 rfl ?_
              refine sw_iald (pc := 78) (j := k) hc (mW_a17 hN) rfl (by omega) (by decide) dX8_bestAnew_78 ?_
              refine sw_st (st' := [.int (nI (iN (σ 17 k))), .ref m0]) (congrArg (fun z => ([.int z, .ref m0] : List Value)) ((by rw [hF 17 (by decide)]; exact (hWF.2.2.2.2.2.2.2.2.2.2.1 k (by omega)).1) : τ 17 k = nI (iN (σ 17 k)))) ?_
              refine sw_sipush (pc := 79) (v := 500) hc dX8_bestAnew_79 (by decide) ?_
              refine sw_callV (pc := 82) (rest := []) hc (c_X8_run l g C m0 q τ (iN (σ 17 k)) 500 hN (hW.rp (show iN (σ 17 k) < iN (τ 9 0) by rw [hF 9 (by decide)]; exact (hWF.2.2.2.2.2.2.2.2.2.2.1 k (by omega)).2))) md_X8_run ml_RX8_184 im_X8_run sl_X8_run (mW_o hN) rfl rfl rfl (Nat.le_of_ble_eq_true rfl) dX8_bestAnew_82 ⟨Nat.le_of_ble_eq_true rfl, Nat.le_of_ble_eq_true rfl, Nat.le_of_ble_eq_true rfl, Nat.le_of_ble_eq_true rfl⟩ (fun v C' hP => ?_) (fun _ _ h => h.elim)
              obtain ⟨rfl, rfl⟩ := hP
              refine sw_st (st' := []) rfl ?_
              refine sw_iload_n (pc := 85) hc dX8_bestAnew_85 rfl 3 rfl ?_
              refine sw_if_lt (pc := 86) (tgt := 98) hc dX8_bestAnew_86 (by decide) (fun c_21 => ?_) (fun c_21 => ?_)
              ·
                have c_21' := Int32.not_le.mpr c_21
                refine sw_iload (pc := 98) hc dX8_bestAnew_98 5 rfl ?_
                refine sw_goto (pc := 100) (tgt := 104) hc dX8_bestAnew_100 (by decide) ?_
                refine sw_istore_n (pc := 104) hc dX8_bestAnew_104 rfl (by decide) (lv' := [(3, .int (nI k)), (0, .ref m0), (1, .int x), (2, .int y), (4, .int v), (5, .int (nI k))]) rfl ?_
                refine sw_iload_n (pc := 105) hc dX8_bestAnew_105 rfl 0 rfl ?_
                refine sw_iload (pc := 106) hc dX8_bestAnew_106 5 rfl ?_
                refine sw_icmp_ne (pc := 108) (tgt := 118) hc dX8_bestAnew_108 (by decide) (fun c_22 => ?_) (fun c_22 => ?_)
                ·
                  refine sw_iload (pc := 118) hc dX8_bestAnew_118 4 rfl ?_
                  refine sw_istore (pc := 120) hc dX8_bestAnew_120 (by decide) (lv' := [(4, .int v), (3, .int (nI k)), (0, .ref m0), (1, .int x), (2, .int y), (5, .int (nI k))]) rfl ?_
                  refine sw_iinc (pc := 122) (v := nI (k + 1)) (lv' := [(5, .int (nI (k + 1))), (4, .int v), (3, .int (nI k)), (0, .ref m0), (1, .int x), (2, .int y)]) hc dX8_bestAnew_122 (k := 5) rfl (nI_1 _) (by decide) rfl ?_
                  refine sw_goto (pc := 125) (tgt := 31) hc dX8_bestAnew_125 (by decide) ?_
                  have h_23 : rBA (st2 σ 42 0 (kPair σ x y)) x y (k + 1) = ((rRun τ (iN (σ 17 k)) 500), (nI k), v) := by exact absurd rfl c_22
                  have h_24 : ¬ 0 < kPair σ x y := by exact k1
                  have h_25 : (k + 1) ≤ iN (σ 26 0) := by omega
                  have h_26 : (iN (σ 26 0) - (k + 1)) < n31 := by omega
                  exact sw_sub (ks := [3, 4, 5, 2, 1, 0]) rfl (ih31 (rRun τ (iN (σ 17 k)) 500) (k + 1) (nI k) v h_26 h_23 h_24 h_25)
                ·
                  refine sw_aload_n (pc := 111) hc dX8_bestAnew_111 rfl 1 rfl ?_
                  refine sw_get (pc := 112) (v := .int ((rRun τ (iN (σ 17 k)) 500) 40 0)) hc fl_RX8_141 (mW_o hN) rfl dX8_bestAnew_112 ?_
                  refine sw_goto (pc := 115) (tgt := 120) hc dX8_bestAnew_115 (by decide) ?_
                  refine sw_istore (pc := 120) hc dX8_bestAnew_120 (by decide) (lv' := [(4, .int ((rRun τ (iN (σ 17 k)) 500) 40 0)), (3, .int (nI k)), (0, .ref m0), (1, .int x), (2, .int y), (5, .int (nI k))]) rfl ?_
                  refine sw_iinc (pc := 122) (v := nI (k + 1)) (lv' := [(5, .int (nI (k + 1))), (4, .int ((rRun τ (iN (σ 17 k)) 500) 40 0)), (3, .int (nI k)), (0, .ref m0), (1, .int x), (2, .int y)]) hc dX8_bestAnew_122 (k := 5) rfl (nI_1 _) (by decide) rfl ?_
                  refine sw_goto (pc := 125) (tgt := 31) hc dX8_bestAnew_125 (by decide) ?_
                  have h_27 : rBA (st2 σ 42 0 (kPair σ x y)) x y (k + 1) = ((rRun τ (iN (σ 17 k)) 500), (nI k), ((rRun τ (iN (σ 17 k)) 500) 40 0)) := by exact rBA_1 hS ⟨c_4, c_9, by rw [← rCnt_fr hF0]; exact p_20⟩ (.inl c_21)
                  have h_28 : ¬ 0 < kPair σ x y := by exact k1
                  have h_29 : (k + 1) ≤ iN (σ 26 0) := by omega
                  have h_30 : (iN (σ 26 0) - (k + 1)) < n31 := by omega
                  exact sw_sub (ks := [3, 4, 5, 2, 1, 0]) rfl (ih31 (rRun τ (iN (σ 17 k)) 500) (k + 1) (nI k) ((rRun τ (iN (σ 17 k)) 500) 40 0) h_30 h_27 h_28 h_29)
              ·
                have c_21' := Int32.not_lt.mp c_21
                refine sw_aload_n (pc := 89) hc dX8_bestAnew_89 rfl 0 rfl ?_
                refine sw_get (pc := 90) (v := .int ((rRun τ (iN (σ 17 k)) 500) 40 0)) hc fl_RX8_141 (mW_o hN) rfl dX8_bestAnew_90 ?_
                refine sw_iload (pc := 93) hc dX8_bestAnew_93 4 rfl ?_
                refine sw_icmp_ge (pc := 95) (tgt := 103) hc dX8_bestAnew_95 (by decide) (fun c_31 => ?_) (fun c_31 => ?_)
                ·
                  have c_31' := Int32.not_lt.mpr c_31
                  refine sw_iload_n (pc := 103) hc dX8_bestAnew_103 rfl 3 rfl ?_
                  refine sw_istore_n (pc := 104) hc dX8_bestAnew_104 rfl (by decide) (lv' := [(3, .int f), (0, .ref m0), (1, .int x), (2, .int y), (4, .int v), (5, .int (nI k))]) rfl ?_
                  refine sw_iload_n (pc := 105) hc dX8_bestAnew_105 rfl 0 rfl ?_
                  refine sw_iload (pc := 106) hc dX8_bestAnew_106 5 rfl ?_
                  refine sw_icmp_ne (pc := 108) (tgt := 118) hc dX8_bestAnew_108 (by decide) (fun c_32 => ?_) (fun c_32 => ?_)
                  ·
                    refine sw_iload (pc := 118) hc dX8_bestAnew_118 4 rfl ?_
                    refine sw_istore (pc := 120) hc dX8_bestAnew_120 (by decide) (lv' := [(4, .int v), (3, .int f), (0, .ref m0), (1, .int x), (2, .int y), (5, .int (nI k))]) rfl ?_
                    refine sw_iinc (pc := 122) (v := nI (k + 1)) (lv' := [(5, .int (nI (k + 1))), (4, .int v), (3, .int f), (0, .ref m0), (1, .int x), (2, .int y)]) hc dX8_bestAnew_122 (k := 5) rfl (nI_1 _) (by decide) rfl ?_
                    refine sw_goto (pc := 125) (tgt := 31) hc dX8_bestAnew_125 (by decide) ?_
                    have h_33 : rBA (st2 σ 42 0 (kPair σ x y)) x y (k + 1) = ((rRun τ (iN (σ 17 k)) 500), f, v) := by exact rBA_3 hS ⟨c_4, c_9, by rw [← rCnt_fr hF0]; exact p_20⟩ c_21 (Int32.not_lt.mpr c_31) c_32
                    have h_34 : ¬ 0 < kPair σ x y := by exact k1
                    have h_35 : (k + 1) ≤ iN (σ 26 0) := by omega
                    have h_36 : (iN (σ 26 0) - (k + 1)) < n31 := by omega
                    exact sw_sub (ks := [3, 4, 5, 2, 1, 0]) rfl (ih31 (rRun τ (iN (σ 17 k)) 500) (k + 1) f v h_36 h_33 h_34 h_35)
                  ·
                    refine sw_aload_n (pc := 111) hc dX8_bestAnew_111 rfl 1 rfl ?_
                    refine sw_get (pc := 112) (v := .int ((rRun τ (iN (σ 17 k)) 500) 40 0)) hc fl_RX8_141 (mW_o hN) rfl dX8_bestAnew_112 ?_
                    refine sw_goto (pc := 115) (tgt := 120) hc dX8_bestAnew_115 (by decide) ?_
                    refine sw_istore (pc := 120) hc dX8_bestAnew_120 (by decide) (lv' := [(4, .int ((rRun τ (iN (σ 17 k)) 500) 40 0)), (3, .int f), (0, .ref m0), (1, .int x), (2, .int y), (5, .int (nI k))]) rfl ?_
                    refine sw_iinc (pc := 122) (v := nI (k + 1)) (lv' := [(5, .int (nI (k + 1))), (4, .int ((rRun τ (iN (σ 17 k)) 500) 40 0)), (3, .int f), (0, .ref m0), (1, .int x), (2, .int y)]) hc dX8_bestAnew_122 (k := 5) rfl (nI_1 _) (by decide) rfl ?_
                    refine sw_goto (pc := 125) (tgt := 31) hc dX8_bestAnew_125 (by decide) ?_
                    have h_37 : rBA (st2 σ 42 0 (kPair σ x y)) x y (k + 1) = ((rRun τ (iN (σ 17 k)) 500), f, ((rRun τ (iN (σ 17 k)) 500) 40 0)) := by exact rBA_2 hS ⟨c_4, c_9, by rw [← rCnt_fr hF0]; exact p_20⟩ c_21 (Int32.not_lt.mpr c_31) c_32
                    have h_38 : ¬ 0 < kPair σ x y := by exact k1
                    have h_39 : (k + 1) ≤ iN (σ 26 0) := by omega
                    have h_40 : (iN (σ 26 0) - (k + 1)) < n31 := by omega
                    exact sw_sub (ks := [3, 4, 5, 2, 1, 0]) rfl (ih31 (rRun τ (iN (σ 17 k)) 500) (k + 1) f ((rRun τ (iN (σ 17 k)) 500) 40 0) h_40 h_37 h_38 h_39)
                ·
                  have c_31' := Int32.not_le.mp c_31
                  refine sw_iload (pc := 98) hc dX8_bestAnew_98 5 rfl ?_
                  refine sw_goto (pc := 100) (tgt := 104) hc dX8_bestAnew_100 (by decide) ?_
                  refine sw_istore_n (pc := 104) hc dX8_bestAnew_104 rfl (by decide) (lv' := [(3, .int (nI k)), (0, .ref m0), (1, .int x), (2, .int y), (4, .int v), (5, .int (nI k))]) rfl ?_
                  refine sw_iload_n (pc := 105) hc dX8_bestAnew_105 rfl 0 rfl ?_
                  refine sw_iload (pc := 106) hc dX8_bestAnew_106 5 rfl ?_
                  refine sw_icmp_ne (pc := 108) (tgt := 118) hc dX8_bestAnew_108 (by decide) (fun c_41 => ?_) (fun c_41 => ?_)
                  ·
                    refine sw_iload (pc := 118) hc dX8_bestAnew_118 4 rfl ?_
                    refine sw_istore (pc := 120) hc dX8_bestAnew_120 (by decide) (lv' := [(4, .int v), (3, .int (nI k)), (0, .ref m0), (1, .int x), (2, .int y), (5, .int (nI k))]) rfl ?_
                    refine sw_iinc (pc := 122) (v := nI (k + 1)) (lv' := [(5, .int (nI (k + 1))), (4, .int v), (3, .int (nI k)), (0, .ref m0), (1, .int x), (2, .int y)]) hc dX8_bestAnew_122 (k := 5) rfl (nI_1 _) (by decide) rfl ?_
                    refine sw_goto (pc := 125) (tgt := 31) hc dX8_bestAnew_125 (by decide) ?_
                    have h_42 : rBA (st2 σ 42 0 (kPair σ x y)) x y (k + 1) = ((rRun τ (iN (σ 17 k)) 500), (nI k), v) := by exact absurd rfl c_41
                    have h_43 : ¬ 0 < kPair σ x y := by exact k1
                    have h_44 : (k + 1) ≤ iN (σ 26 0) := by omega
                    have h_45 : (iN (σ 26 0) - (k + 1)) < n31 := by omega
                    exact sw_sub (ks := [3, 4, 5, 2, 1, 0]) rfl (ih31 (rRun τ (iN (σ 17 k)) 500) (k + 1) (nI k) v h_45 h_42 h_43 h_44)
                  ·
                    refine sw_aload_n (pc := 111) hc dX8_bestAnew_111 rfl 1 rfl ?_
                    refine sw_get (pc := 112) (v := .int ((rRun τ (iN (σ 17 k)) 500) 40 0)) hc fl_RX8_141 (mW_o hN) rfl dX8_bestAnew_112 ?_
                    refine sw_goto (pc := 115) (tgt := 120) hc dX8_bestAnew_115 (by decide) ?_
                    refine sw_istore (pc := 120) hc dX8_bestAnew_120 (by decide) (lv' := [(4, .int ((rRun τ (iN (σ 17 k)) 500) 40 0)), (3, .int (nI k)), (0, .ref m0), (1, .int x), (2, .int y), (5, .int (nI k))]) rfl ?_
                    refine sw_iinc (pc := 122) (v := nI (k + 1)) (lv' := [(5, .int (nI (k + 1))), (4, .int ((rRun τ (iN (σ 17 k)) 500) 40 0)), (3, .int (nI k)), (0, .ref m0), (1, .int x), (2, .int y)]) hc dX8_bestAnew_122 (k := 5) rfl (nI_1 _) (by decide) rfl ?_
                    refine sw_goto (pc := 125) (tgt := 31) hc dX8_bestAnew_125 (by decide) ?_
                    have h_46 : rBA (st2 σ 42 0 (kPair σ x y)) x y (k + 1) = ((rRun τ (iN (σ 17 k)) 500), (nI k), ((rRun τ (iN (σ 17 k)) 500) 40 0)) := by exact rBA_1 hS ⟨c_4, c_9, by rw [← rCnt_fr hF0]; exact p_20⟩ (.inr (Int32.not_le.mp c_31))
                    have h_47 : ¬ 0 < kPair σ x y := by exact k1
                    have h_48 : (k + 1) ≤ iN (σ 26 0) := by omega
                    have h_49 : (iN (σ 26 0) - (k + 1)) < n31 := by omega
                    exact sw_sub (ks := [3, 4, 5, 2, 1, 0]) rfl (ih31 (rRun τ (iN (σ 17 k)) 500) (k + 1) (nI k) ((rRun τ (iN (σ 17 k)) 500) 40 0) h_49 h_46 h_47 h_48)
  have K_15 : sg_W p l e (sg_rm 5 120 0 0) s m ([.ref m0, .int x, .int y] : List Value).toArray below meth c 6 g 0 0 (sg_End below g (fun v C' => v = some (.int (vBestAnew σ x y)) ∧ C' = sg_ov C (mW g m0 q (fBestAnew σ x y))) sg_no ([.ref m0, .int x, .int y] : List Value).toArray s 0 0) (sg_ov C (mW g m0 q σ)) 15 [(0, .ref m0), (1, .int x), (2, .int y)] [.int (kPair σ x y), .ref m0] := by
    refine sw_callV (pc := 15) (rest := []) hc (c_X8_holds l g C m0 q σ (kPair σ x y) hN ) md_X8_holds ml_RX8_171 im_X8_holds sl_X8_holds (mW_o hN) rfl rfl rfl (Nat.le_of_ble_eq_true rfl) dX8_bestAnew_15 ⟨Nat.le_of_ble_eq_true rfl, Nat.le_of_ble_eq_true rfl, Nat.le_of_ble_eq_true rfl, Nat.le_of_ble_eq_true rfl⟩ (fun v C' hP => ?_) (fun _ _ h => h.elim)
    obtain ⟨rfl, rfl⟩ := hP
    refine sw_st (st' := [.int (bI (0 < (kPair σ x y)))]) rfl ?_
    refine sw_if_eq (pc := 18) (tgt := 23) hc dX8_bestAnew_18 (by decide) (fun c_50 => ?_) (fun c_50 => ?_)
    ·
      have p_51 : ¬ (0 < (kPair σ x y)) := bI_0 c_50
      have k1 := p_51
      refine sw_iconst (pc := 23) (v := (-1)) hc dX8_bestAnew_23 (by decide) ?_
      refine sw_istore_n (pc := 24) hc dX8_bestAnew_24 rfl (by decide) (lv' := [(3, .int (-1)), (0, .ref m0), (1, .int x), (2, .int y)]) rfl ?_
      refine sw_iconst (pc := 25) (v := 0) hc dX8_bestAnew_25 (by decide) ?_
      refine sw_istore (pc := 26) hc dX8_bestAnew_26 (by decide) (lv' := [(4, .int 0), (3, .int (-1)), (0, .ref m0), (1, .int x), (2, .int y)]) rfl ?_
      refine sw_iconst (pc := 28) (v := 0) hc dX8_bestAnew_28 (by decide) ?_
      refine sw_istore (pc := 29) hc dX8_bestAnew_29 (by decide) (lv' := [(5, .int 0), (4, .int 0), (3, .int (-1)), (0, .ref m0), (1, .int x), (2, .int y)]) rfl ?_
      have h_52 : rBA (st2 σ 42 0 (kPair σ x y)) x y 0 = ((st2 σ 42 0 (kPair σ x y)), (-1), 0) := by rfl
      have h_53 : ¬ 0 < kPair σ x y := by exact k1
      have h_54 : 0 ≤ iN (σ 26 0) := by omega
      exact sw_sub (ks := [3, 4, 5, 2, 1, 0]) rfl (K_31 _ (st2 σ 42 0 (kPair σ x y)) 0 (-1) 0 (Nat.lt_succ_self _) h_52 h_53 h_54)
    ·
      have p_55 : 0 < (kPair σ x y) := bI_n c_50
      refine sw_iconst (pc := 21) (v := (-1)) hc dX8_bestAnew_21 (by decide) ?_
      have h_56 : (-1) = vBestAnew σ x y := by (first | exact (if_pos (by assumption)).symm | exact (if_neg (by assumption)).symm)
      have h_57 : st2 σ 42 0 (kPair σ x y) = fBestAnew σ x y := by (first | exact (if_pos (by assumption)).symm | exact (if_neg (by assumption)).symm)
      exact sw_iret (pc := 22) hc hlk hrt rfl ⟨(congrArg (fun z => some (Value.int z)) h_56), (congrArg (fun z => sg_ov C (mW g m0 q z)) h_57)⟩ (Nat.le_of_ble_eq_true rfl) (Nat.le_of_ble_eq_true rfl) dX8_bestAnew_22
  refine sw_aload_n (pc := 0) hc dX8_bestAnew_0 rfl 0 rfl ?_
  refine sw_aload_n (pc := 1) hc dX8_bestAnew_1 rfl 0 rfl ?_
  refine sw_iload_n (pc := 2) hc dX8_bestAnew_2 rfl 1 rfl ?_
  refine sw_iload_n (pc := 3) hc dX8_bestAnew_3 rfl 2 rfl ?_
  refine sw_callV (pc := 4) (rest := [.ref m0]) hc (c_X8_isPair l g C m0 q σ x y hN ) md_X8_isPair ml_RX8_215 im_X8_isPair sl_X8_isPair (mW_o hN) rfl rfl rfl (Nat.le_of_ble_eq_true rfl) dX8_bestAnew_4 ⟨Nat.le_of_ble_eq_true rfl, Nat.le_of_ble_eq_true rfl, Nat.le_of_ble_eq_true rfl, Nat.le_of_ble_eq_true rfl⟩ (fun v C' hP => ?_) (fun _ _ h => h.elim)
  obtain ⟨rfl, rfl⟩ := hP
  refine sw_st (st' := [.int (bI (rPair σ x y)), .ref m0]) rfl ?_
  refine sw_if_eq (pc := 7) (tgt := 14) hc dX8_bestAnew_7 (by decide) (fun c_58 => ?_) (fun c_58 => ?_)
  ·
    have p_59 : ¬ (rPair σ x y) := bI_0 c_58
    refine sw_iconst (pc := 14) (v := 1) hc dX8_bestAnew_14 (by decide) ?_
    have h_60 : 1 = kPair σ x y := by first | with_reducible rfl | (first | with_reducible rfl | (simp [-Int32.not_le, -Int32.not_lt, kPair, st2_a, p_59]; done) | (((try simp only [st2_a, Nat.reduceBEq, Bool.false_and, Bool.true_and, beq_self_eq_true, cond_false, cond_true] at p_59) <;> simp [-Int32.not_le, -Int32.not_lt, kPair, st2_a, p_59]); done) | ((try simp only [kPair]); (repeat' split) <;> simp_all [-Int32.not_le, -Int32.not_lt, st2_a, rGap, rWall]; done))
    refine sw_st (st' := [.int (kPair σ x y), .ref m0]) (congrArg (fun z => ([.int z, .ref m0] : List Value)) h_60) ?_
    exact sw_sub (ks := [0, 1, 2]) rfl (K_15 )
  ·
    have p_61 : rPair σ x y := bI_n c_58
    refine sw_iconst (pc := 10) (v := 0) hc dX8_bestAnew_10 (by decide) ?_
    refine sw_goto (pc := 11) (tgt := 15) hc dX8_bestAnew_11 (by decide) ?_
    have h_62 : 0 = kPair σ x y := by first | with_reducible rfl | (first | with_reducible rfl | (simp [-Int32.not_le, -Int32.not_lt, kPair, st2_a, p_61]; done) | (((try simp only [st2_a, Nat.reduceBEq, Bool.false_and, Bool.true_and, beq_self_eq_true, cond_false, cond_true] at p_61) <;> simp [-Int32.not_le, -Int32.not_lt, kPair, st2_a, p_61]); done) | ((try simp only [kPair]); (repeat' split) <;> simp_all [-Int32.not_le, -Int32.not_lt, st2_a, rGap, rWall]; done))
    refine sw_st (st' := [.int (kPair σ x y), .ref m0]) (congrArg (fun z => ([.int z, .ref m0] : List Value)) h_62) ?_
    exact sw_sub (ks := [0, 1, 2]) rfl (K_15 )

set_option maxHeartbeats 4000000 in
set_option maxRecDepth 100000 in
theorem c_X8_spot (l : Launch) (g : sg_G) (C : Nat → Option va_E) (m0 : Nat) (q : Nat → Nat) (σ : Mem) (x : Int32) (y : Int32) (w : Int32) (hN : mN m0 q) (hWF : rWF σ) : sg_Met l yX8_spot cX8_spot 8 (some .int) 4 93 0 0 g [.ref m0, .int x, .int y, .int w] (sg_ov C (mW g m0 q σ)) (fun v C' => v = some (.int (rSpot σ x y w)) ∧ C' = sg_ov C (mW g m0 q σ)) sg_no := by
  refine sg_ofW (by decide) rfl ?_ (Nat.le_of_ble_eq_true rfl)
  intro p e s m below meth c hc hlk hrt hin2 htb
  have hc : sg_Cx p s m _ c cX8_spot 8 RX8 g := hc
  show sg_W p l e _ s m _ below meth c 8 g 0 0 _ (sg_ov C (mW g m0 q σ)) 0 [(0, .ref m0), (1, .int x), (2, .int y), (3, .int w)] []
  have K_15 : ∀ (n15 : Nat) (k : Nat) (v : Int32) (hn15 : (8 - k) < n15) (ev : v = rSpotL σ x w (rTopN σ x y w) k) (hkb : k ≤ 8), sg_W p l e (sg_rm 4 93 0 0) s m ([.ref m0, .int x, .int y, .int w] : List Value).toArray below meth c 8 g 0 0 (sg_End below g (fun v C' => v = some (.int (rSpot σ x y w)) ∧ C' = sg_ov C (mW g m0 q σ)) sg_no ([.ref m0, .int x, .int y, .int w] : List Value).toArray s 0 0) (sg_ov C (mW g m0 q σ)) 15 [(0, .ref m0), (1, .int x), (3, .int w), (4, .int (rTopN σ x y w)), (5, .int v), (6, .int (nI k))] [] := by
    intro n15
    induction n15 with
    | zero => intro k v hn15 ev hkb; exact absurd hn15 (Nat.not_lt_zero _)
    | succ n15 ih15 =>
      intro k v hn15 ev hkb
      have h26 := hWF.2.2.2.1.2
      refine sw_iload (pc := 15) hc dX8_spot_15 5 rfl ?_
      refine sw_bipush (pc := 17) (v := 8) hc dX8_spot_17 (by decide) ?_
      refine sw_icmp_ge (pc := 19) (tgt := 75) hc dX8_spot_19 (by decide) (fun c_1 => ?_) (fun c_1 => ?_)
      ·
        have n_2 : 8 ≤ k := (nI_leI (a := 8) (b := k) (by omega) (by omega)).mp c_1
        have c_1' := Int32.not_lt.mpr c_1
        refine sw_iload (pc := 75) hc dX8_spot_75 3 rfl ?_
        refine sw_if_ge (pc := 77) (tgt := 84) hc dX8_spot_77 (by decide) (fun c_3 => ?_) (fun c_3 => ?_)
        ·
          have c_3' := Int32.not_lt.mpr c_3
          refine sw_iload (pc := 84) hc dX8_spot_84 4 rfl ?_
          have hk8 : k = 8 := by omega
          subst hk8
          have hz : v = rSpot σ x y w := by rw [ev]; exact (if_neg (Int32.not_lt.mpr (by assumption))).symm
          exact sw_iret (pc := 86) hc hlk hrt rfl ⟨congrArg (fun z => some (Value.int z)) hz, rfl⟩ (Nat.le_of_ble_eq_true rfl) (Nat.le_of_ble_eq_true rfl) dX8_spot_86
        ·
          have c_3' := Int32.not_le.mp c_3
          refine sw_iconst (pc := 80) (v := (-1)) hc dX8_spot_80 (by decide) ?_
          refine sw_goto (pc := 81) (tgt := 86) hc dX8_spot_81 (by decide) ?_
          have hk8 : k = 8 := by omega
          subst hk8
          have hz : (-1 : Int32) = rSpot σ x y w := (if_pos (Int32.not_le.mp (by assumption))).symm
          exact sw_iret (pc := 86) hc hlk hrt rfl ⟨congrArg (fun z => some (Value.int z)) hz, rfl⟩ (Nat.le_of_ble_eq_true rfl) (Nat.le_of_ble_eq_true rfl) dX8_spot_86
      ·
        have n_4 : ¬ (8 ≤ k) := fun z => c_1 ((nI_leI (a := 8) (b := k) (by omega) (by omega)).mpr z)
        have c_1' := Int32.not_le.mp c_1
        refine sw_aload_n (pc := 22) hc dX8_spot_22 rfl 0 rfl ?_
        refine sw_iload_n (pc := 23) hc dX8_spot_23 rfl 1 rfl ?_
        refine sw_iload (pc := 24) hc dX8_spot_24 5 rfl ?_
        refine sw_iload_n (pc := 26) hc dX8_spot_26 rfl 2 rfl ?_
        refine sw_callV (pc := 27) (rest := []) hc (c_X8_top l g C m0 q σ x (nI k) w hN (hWF)) md_X8_top ml_RX8_218 im_X8_top sl_X8_top (mW_o hN) rfl rfl rfl (Nat.le_of_ble_eq_true rfl) dX8_spot_27 ⟨Nat.le_of_ble_eq_true rfl, Nat.le_of_ble_eq_true rfl, Nat.le_of_ble_eq_true rfl, Nat.le_of_ble_eq_true rfl⟩ (fun v C' hP => ?_) (fun _ _ h => h.elim)
        obtain ⟨rfl, rfl⟩ := hP
        refine sw_st (st' := [.int (rTopN σ x (nI k) w)]) rfl ?_
        refine sw_istore (pc := 30) hc dX8_spot_30 (by decide) (lv' := [(7, .int (rTopN σ x (nI k) w)), (0, .ref m0), (1, .int x), (3, .int w), (4, .int (rTopN σ x y w)), (5, .int v), (6, .int (nI k))]) rfl ?_
        refine sw_iload (pc := 32) hc dX8_spot_32 5 rfl ?_
        refine sw_iload (pc := 34) hc dX8_spot_34 4 rfl ?_
        refine sw_if_lt (pc := 36) (tgt := 65) hc dX8_spot_36 (by decide) (fun c_5 => ?_) (fun c_5 => ?_)
        ·
          have c_5' := Int32.not_le.mpr c_5
          refine sw_iconst (pc := 65) (v := 0) hc dX8_spot_65 (by decide) ?_
          refine sw_iadd (pc := 66) hc dX8_spot_66 ?_
          refine sw_istore (pc := 67) hc dX8_spot_67 (by decide) (lv' := [(5, .int (v + 0)), (7, .int (rTopN σ x (nI k) w)), (0, .ref m0), (1, .int x), (3, .int w), (4, .int (rTopN σ x y w)), (6, .int (nI k))]) rfl ?_
          refine sw_iinc (pc := 69) (v := nI (k + 1)) (lv' := [(6, .int (nI (k + 1))), (5, .int (v + 0)), (7, .int (rTopN σ x (nI k) w)), (0, .ref m0), (1, .int x), (3, .int w), (4, .int (rTopN σ x y w))]) hc dX8_spot_69 (k := 6) rfl (nI_1 _) (by decide) rfl ?_
          refine sw_goto (pc := 72) (tgt := 15) hc dX8_spot_72 (by decide) ?_
          have h_6 : v + 0 = rSpotL σ x w (rTopN σ x y w) (k + 1) := by first | rfl | (subst ev; simp [rSpotL, hkb, c_1, n_4, c_1', c_5, c_5']; done) | (subst ev; simp_all [rSpotL, rLess]; done)
          have h_7 : (k + 1) ≤ 8 := by omega
          have h_8 : (8 - (k + 1)) < n15 := by omega
          exact sw_sub (ks := [3, 4, 5, 6, 1, 0]) rfl (ih15 (k + 1) (v + 0) h_8 h_6 h_7)
        ·
          have c_5' := Int32.not_lt.mp c_5
          refine sw_iload (pc := 39) hc dX8_spot_39 0 rfl ?_
          refine sw_if_lt (pc := 41) (tgt := 65) hc dX8_spot_41 (by decide) (fun c_9 => ?_) (fun c_9 => ?_)
          ·
            have c_9' := Int32.not_le.mpr c_9
            refine sw_iconst (pc := 65) (v := 0) hc dX8_spot_65 (by decide) ?_
            refine sw_iadd (pc := 66) hc dX8_spot_66 ?_
            refine sw_istore (pc := 67) hc dX8_spot_67 (by decide) (lv' := [(5, .int (v + 0)), (7, .int (rTopN σ x (nI k) w)), (0, .ref m0), (1, .int x), (3, .int w), (4, .int (rTopN σ x y w)), (6, .int (nI k))]) rfl ?_
            refine sw_iinc (pc := 69) (v := nI (k + 1)) (lv' := [(6, .int (nI (k + 1))), (5, .int (v + 0)), (7, .int (rTopN σ x (nI k) w)), (0, .ref m0), (1, .int x), (3, .int w), (4, .int (rTopN σ x y w))]) hc dX8_spot_69 (k := 6) rfl (nI_1 _) (by decide) rfl ?_
            refine sw_goto (pc := 72) (tgt := 15) hc dX8_spot_72 (by decide) ?_
            have h_10 : v + 0 = rSpotL σ x w (rTopN σ x y w) (k + 1) := by first | rfl | (subst ev; simp [rSpotL, hkb, c_1, n_4, c_1', c_5, c_5', c_9, c_9']; done) | (subst ev; simp_all [rSpotL, rLess]; done)
            have h_11 : (k + 1) ≤ 8 := by omega
            have h_12 : (8 - (k + 1)) < n15 := by omega
            exact sw_sub (ks := [3, 4, 5, 6, 1, 0]) rfl (ih15 (k + 1) (v + 0) h_12 h_10 h_11)
          ·
            have c_9' := Int32.not_lt.mp c_9
            obtain ⟨fo, fo2⟩ := rTop_x (σ := σ) (n := iN (σ 26 0)) (by omega) (rfl : rTopN σ x y w = _) c_5; obtain ⟨fn, fn2⟩ := rTop_x (σ := σ) (n := iN (σ 26 0)) (by omega) (rfl : rTopN σ x (nI k) w = _) c_9
            refine sw_aload_n (pc := 44) hc dX8_spot_44 rfl 1 rfl ?_
            refine sw_get (pc := 45) (v := .ref (q 22)) hc fl_RX8_67 (mW_o hN) rfl dX8_spot_45 ?_
            refine sw_iload (pc := 48) hc dX8_spot_48 0 rfl ?_
            refine sw_iald (pc := 50) (j := (iN (rTopN σ x (nI k) w))) hc (mW_a22 hN) fn (by omega) (by decide) dX8_spot_50 ?_
            refine sw_aload_n (pc := 51) hc dX8_spot_51 rfl 1 rfl ?_
            refine sw_get (pc := 52) (v := .ref (q 22)) hc fl_RX8_67 (mW_o hN) rfl dX8_spot_52 ?_
            refine sw_iload (pc := 55) hc dX8_spot_55 4 rfl ?_
            refine sw_iald (pc := 57) (j := (iN (rTopN σ x y w))) hc (mW_a22 hN) fo (by omega) (by decide) dX8_spot_57 ?_
            refine sw_icmp_ge (pc := 58) (tgt := 65) hc dX8_spot_58 (by decide) (fun c_13 => ?_) (fun c_13 => ?_)
            ·
              have c_13' := Int32.not_lt.mpr c_13
              refine sw_iconst (pc := 65) (v := 0) hc dX8_spot_65 (by decide) ?_
              refine sw_iadd (pc := 66) hc dX8_spot_66 ?_
              refine sw_istore (pc := 67) hc dX8_spot_67 (by decide) (lv' := [(5, .int (v + 0)), (7, .int (rTopN σ x (nI k) w)), (0, .ref m0), (1, .int x), (3, .int w), (4, .int (rTopN σ x y w)), (6, .int (nI k))]) rfl ?_
              refine sw_iinc (pc := 69) (v := nI (k + 1)) (lv' := [(6, .int (nI (k + 1))), (5, .int (v + 0)), (7, .int (rTopN σ x (nI k) w)), (0, .ref m0), (1, .int x), (3, .int w), (4, .int (rTopN σ x y w))]) hc dX8_spot_69 (k := 6) rfl (nI_1 _) (by decide) rfl ?_
              refine sw_goto (pc := 72) (tgt := 15) hc dX8_spot_72 (by decide) ?_
              have h_14 : v + 0 = rSpotL σ x w (rTopN σ x y w) (k + 1) := by first | rfl | (subst ev; simp [rSpotL, hkb, c_1, n_4, c_1', c_5, c_5', c_9, c_9', c_13, c_13']; done) | (subst ev; simp_all [rSpotL, rLess]; done)
              have h_15 : (k + 1) ≤ 8 := by omega
              have h_16 : (8 - (k + 1)) < n15 := by omega
              exact sw_sub (ks := [3, 4, 5, 6, 1, 0]) rfl (ih15 (k + 1) (v + 0) h_16 h_14 h_15)
            ·
              have c_13' := Int32.not_le.mp c_13
              refine sw_iconst (pc := 61) (v := 1) hc dX8_spot_61 (by decide) ?_
              refine sw_goto (pc := 62) (tgt := 66) hc dX8_spot_62 (by decide) ?_
              refine sw_iadd (pc := 66) hc dX8_spot_66 ?_
              refine sw_istore (pc := 67) hc dX8_spot_67 (by decide) (lv' := [(5, .int (v + 1)), (7, .int (rTopN σ x (nI k) w)), (0, .ref m0), (1, .int x), (3, .int w), (4, .int (rTopN σ x y w)), (6, .int (nI k))]) rfl ?_
              refine sw_iinc (pc := 69) (v := nI (k + 1)) (lv' := [(6, .int (nI (k + 1))), (5, .int (v + 1)), (7, .int (rTopN σ x (nI k) w)), (0, .ref m0), (1, .int x), (3, .int w), (4, .int (rTopN σ x y w))]) hc dX8_spot_69 (k := 6) rfl (nI_1 _) (by decide) rfl ?_
              refine sw_goto (pc := 72) (tgt := 15) hc dX8_spot_72 (by decide) ?_
              have h_17 : v + 1 = rSpotL σ x w (rTopN σ x y w) (k + 1) := by first | rfl | (subst ev; simp [rSpotL, hkb, c_1, n_4, c_1', c_5, c_5', c_9, c_9', c_13, c_13']; done) | (subst ev; simp_all [rSpotL, rLess]; done)
              have h_18 : (k + 1) ≤ 8 := by omega
              have h_19 : (8 - (k + 1)) < n15 := by omega
              exact sw_sub (ks := [3, 4, 5, 6, 1, 0]) rfl (ih15 (k + 1) (v + 1) h_19 h_17 h_18)
  refine sw_aload_n (pc := 0) hc dX8_spot_0 rfl 0 rfl ?_
  refine sw_iload_n (pc := 1) hc dX8_spot_1 rfl 1 rfl ?_
  refine sw_iload_n (pc := 2) hc dX8_spot_2 rfl 2 rfl ?_
  refine sw_iload_n (pc := 3) hc dX8_spot_3 rfl 3 rfl ?_
  refine sw_callV (pc := 4) (rest := []) hc (c_X8_top l g C m0 q σ x y w hN (hWF)) md_X8_top ml_RX8_218 im_X8_top sl_X8_top (mW_o hN) rfl rfl rfl (Nat.le_of_ble_eq_true rfl) dX8_spot_4 ⟨Nat.le_of_ble_eq_true rfl, Nat.le_of_ble_eq_true rfl, Nat.le_of_ble_eq_true rfl, Nat.le_of_ble_eq_true rfl⟩ (fun v C' hP => ?_) (fun _ _ h => h.elim)
  obtain ⟨rfl, rfl⟩ := hP
  refine sw_st (st' := [.int (rTopN σ x y w)]) rfl ?_
  refine sw_istore (pc := 7) hc dX8_spot_7 (by decide) (lv' := [(4, .int (rTopN σ x y w)), (0, .ref m0), (1, .int x), (2, .int y), (3, .int w)]) rfl ?_
  refine sw_iconst (pc := 9) (v := 1) hc dX8_spot_9 (by decide) ?_
  refine sw_istore (pc := 10) hc dX8_spot_10 (by decide) (lv' := [(5, .int 1), (4, .int (rTopN σ x y w)), (0, .ref m0), (1, .int x), (2, .int y), (3, .int w)]) rfl ?_
  refine sw_iconst (pc := 12) (v := 0) hc dX8_spot_12 (by decide) ?_
  refine sw_istore (pc := 13) hc dX8_spot_13 (by decide) (lv' := [(6, .int 0), (5, .int 1), (4, .int (rTopN σ x y w)), (0, .ref m0), (1, .int x), (2, .int y), (3, .int w)]) rfl ?_
  have h_20 : 1 = rSpotL σ x w (rTopN σ x y w) 0 := by first | rfl | (simp [rSpotL, ]; done) | (simp_all [rSpotL, rLess]; done)
  have h_21 : 0 ≤ 8 := by omega
  exact sw_sub (ks := [3, 4, 6, 2, 1, 0]) rfl (K_15 _ 0 1 (Nat.lt_succ_self _) h_20 h_21)

set_option maxHeartbeats 4000000 in
set_option maxRecDepth 100000 in
theorem c_X8_place (l : Launch) (g : sg_G) (C : Nat → Option va_E) (m0 : Nat) (q : Nat → Nat) (σ : Mem) (x : Int32) (y : Int32) (hN : mN m0 q) (hWF : rWF σ) : sg_Met l yX8_place cX8_place 3 (some .int) 5 120 0 0 g [.ref m0, .int x, .int y] (sg_ov C (mW g m0 q σ)) (fun v C' => v = some (.int (vPlace σ x y)) ∧ C' = sg_ov C (mW g m0 q (fPair σ x y))) sg_no := by
  refine sg_ofW (by decide) rfl ?_ (Nat.le_of_ble_eq_true rfl)
  intro p e s m below meth c hc hlk hrt hin2 htb
  have hc : sg_Cx p s m _ c cX8_place 3 RX8 g := hc
  show sg_W p l e _ s m _ below meth c 3 g 0 0 _ (sg_ov C (mW g m0 q σ)) 0 [(0, .ref m0), (1, .int x), (2, .int y)] []
  have K_15 : sg_W p l e (sg_rm 5 120 0 0) s m ([.ref m0, .int x, .int y] : List Value).toArray below meth c 3 g 0 0 (sg_End below g (fun v C' => v = some (.int (vPlace σ x y)) ∧ C' = sg_ov C (mW g m0 q (fPair σ x y))) sg_no ([.ref m0, .int x, .int y] : List Value).toArray s 0 0) (sg_ov C (mW g m0 q σ)) 15 [(0, .ref m0), (1, .int x), (2, .int y)] [.int (kPair σ x y), .ref m0] := by
    refine sw_callV (pc := 15) (rest := []) hc (c_X8_holds l g C m0 q σ (kPair σ x y) hN ) md_X8_holds ml_RX8_171 im_X8_holds sl_X8_holds (mW_o hN) rfl rfl rfl (Nat.le_of_ble_eq_true rfl) dX8_place_15 ⟨Nat.le_of_ble_eq_true rfl, Nat.le_of_ble_eq_true rfl, Nat.le_of_ble_eq_true rfl, Nat.le_of_ble_eq_true rfl⟩ (fun v C' hP => ?_) (fun _ _ h => h.elim)
    obtain ⟨rfl, rfl⟩ := hP
    refine sw_st (st' := [.int (bI (0 < (kPair σ x y)))]) rfl ?_
    refine sw_if_eq (pc := 18) (tgt := 25) hc dX8_place_18 (by decide) (fun c_1 => ?_) (fun c_1 => ?_)
    ·
      have p_2 : ¬ (0 < (kPair σ x y)) := bI_0 c_1
      refine sw_aload_n (pc := 25) hc dX8_place_25 rfl 0 rfl ?_
      refine sw_iload_n (pc := 26) hc dX8_place_26 rfl 1 rfl ?_
      refine sw_iload_n (pc := 27) hc dX8_place_27 rfl 2 rfl ?_
      refine sw_iconst (pc := 28) (v := (-1)) hc dX8_place_28 (by decide) ?_
      refine sw_callV (pc := 29) (rest := []) hc (c_X8_spot l g C m0 q (st2 σ 42 0 (kPair σ x y)) x y (-1) hN (hWF.t)) md_X8_spot ml_RX8_222 im_X8_spot sl_X8_spot (mW_o hN) rfl rfl rfl (Nat.le_of_ble_eq_true rfl) dX8_place_29 ⟨Nat.le_of_ble_eq_true rfl, Nat.le_of_ble_eq_true rfl, Nat.le_of_ble_eq_true rfl, Nat.le_of_ble_eq_true rfl⟩ (fun v C' hP => ?_) (fun _ _ h => h.elim)
      obtain ⟨rfl, rfl⟩ := hP
      refine sw_st (st' := [.int (rSpot (st2 σ 42 0 (kPair σ x y)) x y (-1))]) rfl ?_
      have h_3 : rSpot (st2 σ 42 0 (kPair σ x y)) x y (-1) = vPlace σ x y := by first | rfl | exact (if_pos (by assumption)).symm | exact (if_neg (by assumption)).symm
      have h_4 : st2 σ 42 0 (kPair σ x y) = fPair σ x y := by first | rfl | exact (if_pos (by assumption)).symm | exact (if_neg (by assumption)).symm
      exact sw_iret (pc := 32) hc hlk hrt rfl ⟨(congrArg (fun z => some (Value.int z)) h_3), (congrArg (fun z => sg_ov C (mW g m0 q z)) h_4)⟩ (Nat.le_of_ble_eq_true rfl) (Nat.le_of_ble_eq_true rfl) dX8_place_32
    ·
      have p_5 : 0 < (kPair σ x y) := bI_n c_1
      refine sw_iconst (pc := 21) (v := (-1)) hc dX8_place_21 (by decide) ?_
      refine sw_goto (pc := 22) (tgt := 32) hc dX8_place_22 (by decide) ?_
      have h_6 : (-1) = vPlace σ x y := by first | rfl | exact (if_pos (by assumption)).symm | exact (if_neg (by assumption)).symm
      have h_7 : st2 σ 42 0 (kPair σ x y) = fPair σ x y := by first | rfl | exact (if_pos (by assumption)).symm | exact (if_neg (by assumption)).symm
      exact sw_iret (pc := 32) hc hlk hrt rfl ⟨(congrArg (fun z => some (Value.int z)) h_6), (congrArg (fun z => sg_ov C (mW g m0 q z)) h_7)⟩ (Nat.le_of_ble_eq_true rfl) (Nat.le_of_ble_eq_true rfl) dX8_place_32
  refine sw_aload_n (pc := 0) hc dX8_place_0 rfl 0 rfl ?_
  refine sw_aload_n (pc := 1) hc dX8_place_1 rfl 0 rfl ?_
  refine sw_iload_n (pc := 2) hc dX8_place_2 rfl 1 rfl ?_
  refine sw_iload_n (pc := 3) hc dX8_place_3 rfl 2 rfl ?_
  refine sw_callV (pc := 4) (rest := [.ref m0]) hc (c_X8_isPair l g C m0 q σ x y hN ) md_X8_isPair ml_RX8_215 im_X8_isPair sl_X8_isPair (mW_o hN) rfl rfl rfl (Nat.le_of_ble_eq_true rfl) dX8_place_4 ⟨Nat.le_of_ble_eq_true rfl, Nat.le_of_ble_eq_true rfl, Nat.le_of_ble_eq_true rfl, Nat.le_of_ble_eq_true rfl⟩ (fun v C' hP => ?_) (fun _ _ h => h.elim)
  obtain ⟨rfl, rfl⟩ := hP
  refine sw_st (st' := [.int (bI (rPair σ x y)), .ref m0]) rfl ?_
  refine sw_if_eq (pc := 7) (tgt := 14) hc dX8_place_7 (by decide) (fun c_8 => ?_) (fun c_8 => ?_)
  ·
    have p_9 : ¬ (rPair σ x y) := bI_0 c_8
    refine sw_iconst (pc := 14) (v := 1) hc dX8_place_14 (by decide) ?_
    have h_10 : 1 = kPair σ x y := by first | with_reducible rfl | (first | with_reducible rfl | (simp [-Int32.not_le, -Int32.not_lt, kPair, st2_a, p_9]; done) | (((try simp only [st2_a, Nat.reduceBEq, Bool.false_and, Bool.true_and, beq_self_eq_true, cond_false, cond_true] at p_9) <;> simp [-Int32.not_le, -Int32.not_lt, kPair, st2_a, p_9]); done) | ((try simp only [kPair]); (repeat' split) <;> simp_all [-Int32.not_le, -Int32.not_lt, st2_a, rGap, rWall]; done))
    refine sw_st (st' := [.int (kPair σ x y), .ref m0]) (congrArg (fun z => ([.int z, .ref m0] : List Value)) h_10) ?_
    exact sw_sub (ks := [0, 1, 2]) rfl (K_15 )
  ·
    have p_11 : rPair σ x y := bI_n c_8
    refine sw_iconst (pc := 10) (v := 0) hc dX8_place_10 (by decide) ?_
    refine sw_goto (pc := 11) (tgt := 15) hc dX8_place_11 (by decide) ?_
    have h_12 : 0 = kPair σ x y := by first | with_reducible rfl | (first | with_reducible rfl | (simp [-Int32.not_le, -Int32.not_lt, kPair, st2_a, p_11]; done) | (((try simp only [st2_a, Nat.reduceBEq, Bool.false_and, Bool.true_and, beq_self_eq_true, cond_false, cond_true] at p_11) <;> simp [-Int32.not_le, -Int32.not_lt, kPair, st2_a, p_11]); done) | ((try simp only [kPair]); (repeat' split) <;> simp_all [-Int32.not_le, -Int32.not_lt, st2_a, rGap, rWall]; done))
    refine sw_st (st' := [.int (kPair σ x y), .ref m0]) (congrArg (fun z => ([.int z, .ref m0] : List Value)) h_12) ?_
    exact sw_sub (ks := [0, 1, 2]) rfl (K_15 )

set_option maxHeartbeats 4000000 in
set_option maxRecDepth 100000 in
theorem c_X8_placeWithout (l : Launch) (g : sg_G) (C : Nat → Option va_E) (m0 : Nat) (q : Nat → Nat) (σ : Mem) (x : Int32) (hN : mN m0 q) (hWF : rWF σ) : sg_Met l yX8_placeWithout cX8_placeWithout 2 (some .int) 5 120 0 0 g [.ref m0, .int x] (sg_ov C (mW g m0 q σ)) (fun v C' => v = some (.int (vPlaceW σ x)) ∧ C' = sg_ov C (mW g m0 q (fIn σ 26 x))) sg_no := by
  refine sg_ofW (by decide) rfl ?_ (Nat.le_of_ble_eq_true rfl)
  intro p e s m below meth c hc hlk hrt hin2 htb
  have hc : sg_Cx p s m _ c cX8_placeWithout 2 RX8 g := hc
  show sg_W p l e _ s m _ below meth c 2 g 0 0 _ (sg_ov C (mW g m0 q σ)) 0 [(0, .ref m0), (1, .int x)] []
  have K_14 : sg_W p l e (sg_rm 5 120 0 0) s m ([.ref m0, .int x] : List Value).toArray below meth c 2 g 0 0 (sg_End below g (fun v C' => v = some (.int (vPlaceW σ x)) ∧ C' = sg_ov C (mW g m0 q (fIn σ 26 x))) sg_no ([.ref m0, .int x] : List Value).toArray s 0 0) (sg_ov C (mW g m0 q σ)) 14 [(0, .ref m0), (1, .int x)] [.int (kIn σ 26 x), .ref m0] := by
    refine sw_callV (pc := 14) (rest := []) hc (c_X8_holds l g C m0 q σ (kIn σ 26 x) hN ) md_X8_holds ml_RX8_171 im_X8_holds sl_X8_holds (mW_o hN) rfl rfl rfl (Nat.le_of_ble_eq_true rfl) dX8_placeWithout_14 ⟨Nat.le_of_ble_eq_true rfl, Nat.le_of_ble_eq_true rfl, Nat.le_of_ble_eq_true rfl, Nat.le_of_ble_eq_true rfl⟩ (fun v C' hP => ?_) (fun _ _ h => h.elim)
    obtain ⟨rfl, rfl⟩ := hP
    refine sw_st (st' := [.int (bI (0 < (kIn σ 26 x)))]) rfl ?_
    refine sw_if_eq (pc := 17) (tgt := 24) hc dX8_placeWithout_17 (by decide) (fun c_1 => ?_) (fun c_1 => ?_)
    ·
      have p_2 : ¬ (0 < (kIn σ 26 x)) := bI_0 c_1
      have k0 := kIn_0 p_2; obtain ⟨fx, fx2⟩ := rIn_x hWF.2.2.2.1 (by decide) k0; have fxb := hWF.2.2.2.1.2
      refine sw_aload_n (pc := 24) hc dX8_placeWithout_24 rfl 0 rfl ?_
      refine sw_aload_n (pc := 25) hc dX8_placeWithout_25 rfl 0 rfl ?_
      refine sw_get (pc := 26) (v := .ref (q 19)) hc fl_RX8_58 (mW_o hN) rfl dX8_placeWithout_26 ?_
      refine sw_iload_n (pc := 29) hc dX8_placeWithout_29 rfl 1 rfl ?_
      refine sw_iald (pc := 30) (j := (iN x)) hc (mW_a19 hN) fx (by omega) (by decide) dX8_placeWithout_30 ?_
      refine sw_aload_n (pc := 31) hc dX8_placeWithout_31 rfl 0 rfl ?_
      refine sw_get (pc := 32) (v := .ref (q 18)) hc fl_RX8_55 (mW_o hN) rfl dX8_placeWithout_32 ?_
      refine sw_iload_n (pc := 35) hc dX8_placeWithout_35 rfl 1 rfl ?_
      refine sw_iald (pc := 36) (j := (iN x)) hc (mW_a18 hN) fx (by omega) (by decide) dX8_placeWithout_36 ?_
      refine sw_iload_n (pc := 37) hc dX8_placeWithout_37 rfl 1 rfl ?_
      refine sw_callV (pc := 38) (rest := []) hc (c_X8_spot l g C m0 q (st2 σ 42 0 (kIn σ 26 x)) ((st2 σ 42 0 (kIn σ 26 x)) 19 (iN x)) ((st2 σ 42 0 (kIn σ 26 x)) 18 (iN x)) x hN (hWF.t)) md_X8_spot ml_RX8_222 im_X8_spot sl_X8_spot (mW_o hN) rfl rfl rfl (Nat.le_of_ble_eq_true rfl) dX8_placeWithout_38 ⟨Nat.le_of_ble_eq_true rfl, Nat.le_of_ble_eq_true rfl, Nat.le_of_ble_eq_true rfl, Nat.le_of_ble_eq_true rfl⟩ (fun v C' hP => ?_) (fun _ _ h => h.elim)
      obtain ⟨rfl, rfl⟩ := hP
      refine sw_st (st' := [.int (rSpot (st2 σ 42 0 (kIn σ 26 x)) ((st2 σ 42 0 (kIn σ 26 x)) 19 (iN x)) ((st2 σ 42 0 (kIn σ 26 x)) 18 (iN x)) x)]) rfl ?_
      have h_3 : rSpot (st2 σ 42 0 (kIn σ 26 x)) ((st2 σ 42 0 (kIn σ 26 x)) 19 (iN x)) ((st2 σ 42 0 (kIn σ 26 x)) 18 (iN x)) x = vPlaceW σ x := by first | rfl | exact (if_pos (by assumption)).symm | exact (if_neg (by assumption)).symm
      have h_4 : st2 σ 42 0 (kIn σ 26 x) = fIn σ 26 x := by first | rfl | exact (if_pos (by assumption)).symm | exact (if_neg (by assumption)).symm
      exact sw_iret (pc := 41) hc hlk hrt rfl ⟨(congrArg (fun z => some (Value.int z)) h_3), (congrArg (fun z => sg_ov C (mW g m0 q z)) h_4)⟩ (Nat.le_of_ble_eq_true rfl) (Nat.le_of_ble_eq_true rfl) dX8_placeWithout_41
    ·
      have p_5 : 0 < (kIn σ 26 x) := bI_n c_1
      refine sw_iconst (pc := 20) (v := (-1)) hc dX8_placeWithout_20 (by decide) ?_
      refine sw_goto (pc := 21) (tgt := 41) hc dX8_placeWithout_21 (by decide) ?_
      have h_6 : (-1) = vPlaceW σ x := by first | rfl | exact (if_pos (by assumption)).symm | exact (if_neg (by assumption)).symm
      have h_7 : st2 σ 42 0 (kIn σ 26 x) = fIn σ 26 x := by first | rfl | exact (if_pos (by assumption)).symm | exact (if_neg (by assumption)).symm
      exact sw_iret (pc := 41) hc hlk hrt rfl ⟨(congrArg (fun z => some (Value.int z)) h_6), (congrArg (fun z => sg_ov C (mW g m0 q z)) h_7)⟩ (Nat.le_of_ble_eq_true rfl) (Nat.le_of_ble_eq_true rfl) dX8_placeWithout_41
  refine sw_aload_n (pc := 0) hc dX8_placeWithout_0 rfl 0 rfl ?_
  refine sw_aload_n (pc := 1) hc dX8_placeWithout_1 rfl 0 rfl ?_
  refine sw_iload_n (pc := 2) hc dX8_placeWithout_2 rfl 1 rfl ?_
  refine sw_callV (pc := 3) (rest := [.ref m0]) hc (c_X8_isRun l g C m0 q σ x hN ) md_X8_isRun ml_RX8_206 im_X8_isRun sl_X8_isRun (mW_o hN) rfl rfl rfl (Nat.le_of_ble_eq_true rfl) dX8_placeWithout_3 ⟨Nat.le_of_ble_eq_true rfl, Nat.le_of_ble_eq_true rfl, Nat.le_of_ble_eq_true rfl, Nat.le_of_ble_eq_true rfl⟩ (fun v C' hP => ?_) (fun _ _ h => h.elim)
  obtain ⟨rfl, rfl⟩ := hP
  refine sw_st (st' := [.int (bI (rIn σ 26 x)), .ref m0]) rfl ?_
  refine sw_if_eq (pc := 6) (tgt := 13) hc dX8_placeWithout_6 (by decide) (fun c_8 => ?_) (fun c_8 => ?_)
  ·
    have p_9 : ¬ (rIn σ 26 x) := bI_0 c_8
    refine sw_iconst (pc := 13) (v := 1) hc dX8_placeWithout_13 (by decide) ?_
    have h_10 : 1 = kIn σ 26 x := by first | with_reducible rfl | (first | with_reducible rfl | (simp [-Int32.not_le, -Int32.not_lt, kIn, st2_a, p_9]; done) | (((try simp only [st2_a, Nat.reduceBEq, Bool.false_and, Bool.true_and, beq_self_eq_true, cond_false, cond_true] at p_9) <;> simp [-Int32.not_le, -Int32.not_lt, kIn, st2_a, p_9]); done) | ((try simp only [kIn]); (repeat' split) <;> simp_all [-Int32.not_le, -Int32.not_lt, st2_a, rGap, rWall]; done))
    refine sw_st (st' := [.int (kIn σ 26 x), .ref m0]) (congrArg (fun z => ([.int z, .ref m0] : List Value)) h_10) ?_
    exact sw_sub (ks := [0, 1]) rfl (K_14 )
  ·
    have p_11 : rIn σ 26 x := bI_n c_8
    refine sw_iconst (pc := 9) (v := 0) hc dX8_placeWithout_9 (by decide) ?_
    refine sw_goto (pc := 10) (tgt := 14) hc dX8_placeWithout_10 (by decide) ?_
    have h_12 : 0 = kIn σ 26 x := by first | with_reducible rfl | (first | with_reducible rfl | (simp [-Int32.not_le, -Int32.not_lt, kIn, st2_a, p_11]; done) | (((try simp only [st2_a, Nat.reduceBEq, Bool.false_and, Bool.true_and, beq_self_eq_true, cond_false, cond_true] at p_11) <;> simp [-Int32.not_le, -Int32.not_lt, kIn, st2_a, p_11]); done) | ((try simp only [kIn]); (repeat' split) <;> simp_all [-Int32.not_le, -Int32.not_lt, st2_a, rGap, rWall]; done))
    refine sw_st (st' := [.int (kIn σ 26 x), .ref m0]) (congrArg (fun z => ([.int z, .ref m0] : List Value)) h_12) ?_
    exact sw_sub (ks := [0, 1]) rfl (K_14 )

set_option maxHeartbeats 4000000 in
set_option maxRecDepth 100000 in
theorem c_X8_guess (l : Launch) (g : sg_G) (C : Nat → Option va_E) (m0 : Nat) (q : Nat → Nat) (σ : Mem) (x : Int32) (y : Int32) (hN : mN m0 q) (hWF : rWF σ) : sg_Met l yX8_guess cX8_guess 6 (some .int) 3 67 0 0 g [.ref m0, .int x, .int y] (sg_ov C (mW g m0 q σ)) (fun v C' => v = some (.int (rGuess σ x y)) ∧ C' = sg_ov C (mW g m0 q σ)) sg_no := by
  refine sg_ofW (by decide) rfl ?_ (Nat.le_of_ble_eq_true rfl)
  intro p e s m below meth c hc hlk hrt hin2 htb
  have hc : sg_Cx p s m _ c cX8_guess 6 RX8 g := hc
  show sg_W p l e _ s m _ below meth c 6 g 0 0 _ (sg_ov C (mW g m0 q σ)) 0 [(0, .ref m0), (1, .int x), (2, .int y)] []
  have K_13 : ∀ (n13 : Nat) (n : Nat) (k : Int32) (u : Int32) (v : Int32) (hn13 : n < n13) (ek : k = nI n - 1) (hG : rGs σ x y n (u, v) = rGsN σ x y) (hnb : n ≤ iN (σ 26 0)) (hv : ∃ j, j ≤ 3 ∧ v = nI j), sg_W p l e (sg_rm 3 67 0 0) s m ([.ref m0, .int x, .int y] : List Value).toArray below meth c 6 g 0 0 (sg_End below g (fun v C' => v = some (.int (rGuess σ x y)) ∧ C' = sg_ov C (mW g m0 q σ)) sg_no ([.ref m0, .int x, .int y] : List Value).toArray s 0 0) (sg_ov C (mW g m0 q σ)) 13 [(0, .ref m0), (1, .int x), (2, .int y), (3, .int u), (4, .int v), (5, .int k)] [] := by
    intro n13
    induction n13 with
    | zero => intro n k u v hn13 ek hG hnb hv; exact absurd hn13 (Nat.not_lt_zero _)
    | succ n13 ih13 =>
      intro n k u v hn13 ek hG hnb hv
      have h26 := hWF.2.2.2.1.2
      refine sw_iload (pc := 13) hc dX8_guess_13 5 rfl ?_
      refine sw_if_lt (pc := 15) (tgt := 74) hc dX8_guess_15 (by decide) (fun c_1 => ?_) (fun c_1 => ?_)
      ·
        have c_1' := Int32.not_le.mpr c_1
        refine sw_iload (pc := 74) hc dX8_guess_74 4 rfl ?_
        refine sw_if_ne (pc := 76) (tgt := 83) hc dX8_guess_76 (by decide) (fun c_2 => ?_) (fun c_2 => ?_)
        ·
          refine sw_bipush (pc := 83) (v := 11) hc dX8_guess_83 (by decide) ?_
          refine sw_iload_n (pc := 85) hc dX8_guess_85 rfl 3 rfl ?_
          refine sw_imul (pc := 86) hc dX8_guess_86 ?_
          refine sw_bipush (pc := 87) (v := 10) hc dX8_guess_87 (by decide) ?_
          refine sw_iload (pc := 89) hc dX8_guess_89 4 rfl ?_
          refine sw_imul (pc := 91) hc dX8_guess_91 ?_
          refine sw_iadd (pc := 92) hc dX8_guess_92 ?_
          refine sw_iconst (pc := 93) (v := 1) hc dX8_guess_93 (by decide) ?_
          refine sw_isub (pc := 94) hc dX8_guess_94 ?_
          refine sw_bipush (pc := 95) (v := 10) hc dX8_guess_95 (by decide) ?_
          refine sw_iload (pc := 97) hc dX8_guess_97 4 rfl ?_
          refine sw_imul (pc := 99) hc dX8_guess_99 ?_
          refine sw_idiv (pc := 100) hc dX8_guess_100 (v_10 hv (by assumption)) ?_
          have hn0 : n = 0 := by
            rcases Nat.eq_zero_or_pos n with z | z
            · exact z
            · exfalso; rw [ek, show n = (n - 1) + 1 by omega, nI_pred] at c_1; exact nI_pos (by omega) c_1
          have hu : (u, v) = rGsN σ x y := by rw [← hG, hn0]; rfl
          have hz : (((11 * u) + (10 * v)) - 1) / (10 * v) = rGuess σ x y := by unfold rGuess; rw [← hu]; first | exact (if_neg (by assumption)).symm | exact (if_pos (by assumption)).symm
          exact sw_iret (pc := 101) hc hlk hrt rfl ⟨congrArg (fun z => some (Value.int z)) hz, rfl⟩ (Nat.le_of_ble_eq_true rfl) (Nat.le_of_ble_eq_true rfl) dX8_guess_101
        ·
          refine sw_iconst (pc := 79) (v := (-1)) hc dX8_guess_79 (by decide) ?_
          refine sw_goto (pc := 80) (tgt := 101) hc dX8_guess_80 (by decide) ?_
          have hn0 : n = 0 := by
            rcases Nat.eq_zero_or_pos n with z | z
            · exact z
            · exfalso; rw [ek, show n = (n - 1) + 1 by omega, nI_pred] at c_1; exact nI_pos (by omega) c_1
          have hu : (u, v) = rGsN σ x y := by rw [← hG, hn0]; rfl
          have hz : (-1) = rGuess σ x y := by unfold rGuess; rw [← hu]; first | exact (if_neg (by assumption)).symm | exact (if_pos (by assumption)).symm
          exact sw_iret (pc := 101) hc hlk hrt rfl ⟨congrArg (fun z => some (Value.int z)) hz, rfl⟩ (Nat.le_of_ble_eq_true rfl) (Nat.le_of_ble_eq_true rfl) dX8_guess_101
      ·
        have c_1' := Int32.not_lt.mp c_1
        refine sw_iload (pc := 18) hc dX8_guess_18 4 rfl ?_
        refine sw_iconst (pc := 20) (v := 3) hc dX8_guess_20 (by decide) ?_
        refine sw_icmp_ge (pc := 21) (tgt := 74) hc dX8_guess_21 (by decide) (fun c_3 => ?_) (fun c_3 => ?_)
        ·
          have c_3' := Int32.not_lt.mpr c_3
          refine sw_iload (pc := 74) hc dX8_guess_74 4 rfl ?_
          refine sw_if_ne (pc := 76) (tgt := 83) hc dX8_guess_76 (by decide) (fun c_4 => ?_) (fun c_4 => ?_)
          ·
            refine sw_bipush (pc := 83) (v := 11) hc dX8_guess_83 (by decide) ?_
            refine sw_iload_n (pc := 85) hc dX8_guess_85 rfl 3 rfl ?_
            refine sw_imul (pc := 86) hc dX8_guess_86 ?_
            refine sw_bipush (pc := 87) (v := 10) hc dX8_guess_87 (by decide) ?_
            refine sw_iload (pc := 89) hc dX8_guess_89 4 rfl ?_
            refine sw_imul (pc := 91) hc dX8_guess_91 ?_
            refine sw_iadd (pc := 92) hc dX8_guess_92 ?_
            refine sw_iconst (pc := 93) (v := 1) hc dX8_guess_93 (by decide) ?_
            refine sw_isub (pc := 94) hc dX8_guess_94 ?_
            refine sw_bipush (pc := 95) (v := 10) hc dX8_guess_95 (by decide) ?_
            refine sw_iload (pc := 97) hc dX8_guess_97 4 rfl ?_
            refine sw_imul (pc := 99) hc dX8_guess_99 ?_
            refine sw_idiv (pc := 100) hc dX8_guess_100 (v_10 hv (by assumption)) ?_
            have hu : (u, v) = rGsN σ x y := by rw [← hG]; exact (rGs_x (Int32.not_lt.mpr c_3)).symm
            have hz : (((11 * u) + (10 * v)) - 1) / (10 * v) = rGuess σ x y := by unfold rGuess; rw [← hu]; first | exact (if_neg (by assumption)).symm | exact (if_pos (by assumption)).symm
            exact sw_iret (pc := 101) hc hlk hrt rfl ⟨congrArg (fun z => some (Value.int z)) hz, rfl⟩ (Nat.le_of_ble_eq_true rfl) (Nat.le_of_ble_eq_true rfl) dX8_guess_101
          ·
            refine sw_iconst (pc := 79) (v := (-1)) hc dX8_guess_79 (by decide) ?_
            refine sw_goto (pc := 80) (tgt := 101) hc dX8_guess_80 (by decide) ?_
            have hu : (u, v) = rGsN σ x y := by rw [← hG]; exact (rGs_x (Int32.not_lt.mpr c_3)).symm
            have hz : (-1) = rGuess σ x y := by unfold rGuess; rw [← hu]; first | exact (if_neg (by assumption)).symm | exact (if_pos (by assumption)).symm
            exact sw_iret (pc := 101) hc hlk hrt rfl ⟨congrArg (fun z => some (Value.int z)) hz, rfl⟩ (Nat.le_of_ble_eq_true rfl) (Nat.le_of_ble_eq_true rfl) dX8_guess_101
        ·
          have c_3' := Int32.not_le.mp c_3
          obtain ⟨n1, en1, ek1⟩ := nI_m1 (by omega) (show ¬ nI n - 1 < 0 by rw [← ek]; exact c_1)
          have ek2 : k = nI n1 := ek.trans ek1
          subst en1
          refine sw_aload_n (pc := 24) hc dX8_guess_24 rfl 0 rfl ?_
          refine sw_get (pc := 25) (v := .ref (q 19)) hc fl_RX8_58 (mW_o hN) rfl dX8_guess_25 ?_
          refine sw_iload (pc := 28) hc dX8_guess_28 5 rfl ?_
          refine sw_st (st' := [.int (nI n1), .ref (q 19)]) (congrArg (fun z => ([.int z, .ref (q 19)] : List Value)) (ek2 : k = nI n1)) ?_
          refine sw_iald (pc := 30) (j := n1) hc (mW_a19 hN) rfl (by omega) (by decide) dX8_guess_30 ?_
          refine sw_iload_n (pc := 31) hc dX8_guess_31 rfl 1 rfl ?_
          refine sw_icmp_ne (pc := 32) (tgt := 68) hc dX8_guess_32 (by decide) (fun c_5 => ?_) (fun c_5 => ?_)
          ·
            refine sw_iinc (pc := 68) (v := k + (-1)) (lv' := [(5, .int (k + (-1))), (0, .ref m0), (1, .int x), (2, .int y), (3, .int u), (4, .int v)]) hc dX8_guess_68 (k := 5) rfl (by rfl) (by decide) rfl ?_
            refine sw_goto (pc := 71) (tgt := 13) hc dX8_guess_71 (by decide) ?_
            have h_6 : k + (-1) = nI n1 - 1 := by first | with_reducible rfl | (rw [ek2, Int32.sub_eq_add_neg])
            have h_7 : rGs σ x y n1 (u, v) = rGsN σ x y := by exact (rGs_n c_3' (fun q => c_5 q.1)).trans hG
            have h_8 : n1 ≤ iN (σ 26 0) := by omega
            have h_9 : ∃ j, j ≤ 3 ∧ v = nI j := by exact hv
            have h_10 : n1 < n13 := by omega
            exact sw_sub (ks := [1, 2, 3, 4, 5, 0]) rfl (ih13 n1 (k + (-1)) u v h_10 h_6 h_7 h_8 h_9)
          ·
            refine sw_aload_n (pc := 35) hc dX8_guess_35 rfl 0 rfl ?_
            refine sw_get (pc := 36) (v := .ref (q 18)) hc fl_RX8_55 (mW_o hN) rfl dX8_guess_36 ?_
            refine sw_iload (pc := 39) hc dX8_guess_39 5 rfl ?_
            refine sw_st (st' := [.int (nI n1), .ref (q 18)]) (congrArg (fun z => ([.int z, .ref (q 18)] : List Value)) (ek2 : k = nI n1)) ?_
            refine sw_iald (pc := 41) (j := n1) hc (mW_a18 hN) rfl (by omega) (by decide) dX8_guess_41 ?_
            refine sw_iload_n (pc := 42) hc dX8_guess_42 rfl 2 rfl ?_
            refine sw_icmp_ne (pc := 43) (tgt := 68) hc dX8_guess_43 (by decide) (fun c_11 => ?_) (fun c_11 => ?_)
            ·
              refine sw_iinc (pc := 68) (v := k + (-1)) (lv' := [(5, .int (k + (-1))), (0, .ref m0), (1, .int x), (2, .int y), (3, .int u), (4, .int v)]) hc dX8_guess_68 (k := 5) rfl (by rfl) (by decide) rfl ?_
              refine sw_goto (pc := 71) (tgt := 13) hc dX8_guess_71 (by decide) ?_
              have h_12 : k + (-1) = nI n1 - 1 := by first | with_reducible rfl | (rw [ek2, Int32.sub_eq_add_neg])
              have h_13 : rGs σ x y n1 (u, v) = rGsN σ x y := by exact (rGs_n c_3' (fun q => c_11 q.2.1)).trans hG
              have h_14 : n1 ≤ iN (σ 26 0) := by omega
              have h_15 : ∃ j, j ≤ 3 ∧ v = nI j := by exact hv
              have h_16 : n1 < n13 := by omega
              exact sw_sub (ks := [1, 2, 3, 4, 5, 0]) rfl (ih13 n1 (k + (-1)) u v h_16 h_12 h_13 h_14 h_15)
            ·
              refine sw_aload_n (pc := 46) hc dX8_guess_46 rfl 0 rfl ?_
              refine sw_iload (pc := 47) hc dX8_guess_47 5 rfl ?_
              refine sw_st (st' := [.int (nI n1), .ref m0]) (congrArg (fun z => ([.int z, .ref m0] : List Value)) (ek2 : k = nI n1)) ?_
              refine sw_callV (pc := 49) (rest := []) hc (c_X8_counts l g C m0 q σ n1 hN (hWF.rn (by omega))) md_X8_counts ml_RX8_209 im_X8_counts sl_X8_counts (mW_o hN) rfl rfl rfl (Nat.le_of_ble_eq_true rfl) dX8_guess_49 ⟨Nat.le_of_ble_eq_true rfl, Nat.le_of_ble_eq_true rfl, Nat.le_of_ble_eq_true rfl, Nat.le_of_ble_eq_true rfl⟩ (fun v C' hP => ?_) (fun _ _ h => h.elim)
              obtain ⟨rfl, rfl⟩ := hP
              refine sw_st (st' := [.int (bI (rCnt σ n1))]) rfl ?_
              refine sw_if_eq (pc := 52) (tgt := 68) hc dX8_guess_52 (by decide) (fun c_17 => ?_) (fun c_17 => ?_)
              ·
                have p_18 : ¬ (rCnt σ n1) := bI_0 c_17
                refine sw_iinc (pc := 68) (v := k + (-1)) (lv' := [(5, .int (k + (-1))), (0, .ref m0), (1, .int x), (2, .int y), (3, .int u), (4, .int v)]) hc dX8_guess_68 (k := 5) rfl (by rfl) (by decide) rfl ?_
                refine sw_goto (pc := 71) (tgt := 13) hc dX8_guess_71 (by decide) ?_
                have h_19 : k + (-1) = nI n1 - 1 := by first | with_reducible rfl | (rw [ek2, Int32.sub_eq_add_neg])
                have h_20 : rGs σ x y n1 (u, v) = rGsN σ x y := by exact (rGs_n c_3' (fun q => p_18 q.2.2)).trans hG
                have h_21 : n1 ≤ iN (σ 26 0) := by omega
                have h_22 : ∃ j, j ≤ 3 ∧ v = nI j := by exact hv
                have h_23 : n1 < n13 := by omega
                exact sw_sub (ks := [1, 2, 3, 4, 5, 0]) rfl (ih13 n1 (k + (-1)) u v h_23 h_19 h_20 h_21 h_22)
              ·
                have p_24 : rCnt σ n1 := bI_n c_17
                refine sw_iload_n (pc := 55) hc dX8_guess_55 rfl 3 rfl ?_
                refine sw_aload_n (pc := 56) hc dX8_guess_56 rfl 0 rfl ?_
                refine sw_get (pc := 57) (v := .ref (q 22)) hc fl_RX8_67 (mW_o hN) rfl dX8_guess_57 ?_
                refine sw_iload (pc := 60) hc dX8_guess_60 5 rfl ?_
                refine sw_st (st' := [.int (nI n1), .ref (q 22), .int u]) (congrArg (fun z => ([.int z, .ref (q 22), .int u] : List Value)) (ek2 : k = nI n1)) ?_
                refine sw_iald (pc := 62) (j := n1) hc (mW_a22 hN) rfl (by omega) (by decide) dX8_guess_62 ?_
                refine sw_iadd (pc := 63) hc dX8_guess_63 ?_
                refine sw_istore_n (pc := 64) hc dX8_guess_64 rfl (by decide) (lv' := [(3, .int (u + (σ 22 n1))), (0, .ref m0), (1, .int x), (2, .int y), (4, .int v), (5, .int k)]) rfl ?_
                refine sw_iinc (pc := 65) (v := v + 1) (lv' := [(4, .int (v + 1)), (3, .int (u + (σ 22 n1))), (0, .ref m0), (1, .int x), (2, .int y), (5, .int k)]) hc dX8_guess_65 (k := 4) rfl (by rfl) (by decide) rfl ?_
                refine sw_iinc (pc := 68) (v := k + (-1)) (lv' := [(5, .int (k + (-1))), (4, .int (v + 1)), (3, .int (u + (σ 22 n1))), (0, .ref m0), (1, .int x), (2, .int y)]) hc dX8_guess_68 (k := 5) rfl (by rfl) (by decide) rfl ?_
                refine sw_goto (pc := 71) (tgt := 13) hc dX8_guess_71 (by decide) ?_
                have h_25 : k + (-1) = nI n1 - 1 := by first | with_reducible rfl | (rw [ek2, Int32.sub_eq_add_neg])
                have h_26 : rGs σ x y n1 ((u + (σ 22 n1)), (v + 1)) = rGsN σ x y := by exact (rGs_y c_3' ⟨c_5, c_11, p_24⟩).trans hG
                have h_27 : n1 ≤ iN (σ 26 0) := by omega
                have h_28 : ∃ j, j ≤ 3 ∧ (v + 1) = nI j := by exact v_up hv c_3'
                have h_29 : n1 < n13 := by omega
                exact sw_sub (ks := [3, 4, 5, 2, 1, 0]) rfl (ih13 n1 (k + (-1)) (u + (σ 22 n1)) (v + 1) h_29 h_25 h_26 h_27 h_28)
  refine sw_iconst (pc := 0) (v := 0) hc dX8_guess_0 (by decide) ?_
  refine sw_istore_n (pc := 1) hc dX8_guess_1 rfl (by decide) (lv' := [(3, .int 0), (0, .ref m0), (1, .int x), (2, .int y)]) rfl ?_
  refine sw_iconst (pc := 2) (v := 0) hc dX8_guess_2 (by decide) ?_
  refine sw_istore (pc := 3) hc dX8_guess_3 (by decide) (lv' := [(4, .int 0), (3, .int 0), (0, .ref m0), (1, .int x), (2, .int y)]) rfl ?_
  refine sw_aload_n (pc := 5) hc dX8_guess_5 rfl 2 rfl ?_
  refine sw_get (pc := 6) (v := .int (σ 26 0)) hc fl_RX8_105 (mW_o hN) rfl dX8_guess_6 ?_
  refine sw_st (st' := [.int (nI (iN (σ 26 0)))]) (congrArg (fun z => ([.int z] : List Value)) (hWF.2.2.2.1.1 : σ 26 0 = nI (iN (σ 26 0)))) ?_
  refine sw_iconst (pc := 9) (v := 1) hc dX8_guess_9 (by decide) ?_
  refine sw_isub (pc := 10) hc dX8_guess_10 ?_
  refine sw_istore (pc := 11) hc dX8_guess_11 (by decide) (lv' := [(5, .int ((nI (iN (σ 26 0))) - 1)), (4, .int 0), (3, .int 0), (0, .ref m0), (1, .int x), (2, .int y)]) rfl ?_
  have h_30 : (nI (iN (σ 26 0))) - 1 = nI (iN (σ 26 0)) - 1 := by first | with_reducible rfl | (rw [ek2, Int32.sub_eq_add_neg])
  have h_31 : rGs σ x y (iN (σ 26 0)) (0, 0) = rGsN σ x y := by rfl
  have h_32 : (iN (σ 26 0)) ≤ iN (σ 26 0) := by omega
  have h_33 : ∃ j, j ≤ 3 ∧ 0 = nI j := by exact ⟨0, by omega, rfl⟩
  exact sw_sub (ks := [3, 4, 5, 2, 1, 0]) rfl (K_13 _ (iN (σ 26 0)) ((nI (iN (σ 26 0))) - 1) 0 0 (Nat.lt_succ_self _) h_30 h_31 h_32 h_33)

set_option maxHeartbeats 4000000 in
set_option maxRecDepth 100000 in
theorem c_X8_estimate (l : Launch) (g : sg_G) (C : Nat → Option va_E) (m0 : Nat) (q : Nat → Nat) (σ : Mem) (x : Int32) (y : Int32) (hN : mN m0 q) (hWF : rWF σ) : sg_Met l yX8_estimate cX8_estimate 3 (some .int) 4 92 0 0 g [.ref m0, .int x, .int y] (sg_ov C (mW g m0 q σ)) (fun v C' => v = some (.int (vEst σ x y)) ∧ C' = sg_ov C (mW g m0 q (fPair σ x y))) sg_no := by
  refine sg_ofW (by decide) rfl ?_ (Nat.le_of_ble_eq_true rfl)
  intro p e s m below meth c hc hlk hrt hin2 htb
  have hc : sg_Cx p s m _ c cX8_estimate 3 RX8 g := hc
  show sg_W p l e _ s m _ below meth c 3 g 0 0 _ (sg_ov C (mW g m0 q σ)) 0 [(0, .ref m0), (1, .int x), (2, .int y)] []
  have K_15 : sg_W p l e (sg_rm 4 92 0 0) s m ([.ref m0, .int x, .int y] : List Value).toArray below meth c 3 g 0 0 (sg_End below g (fun v C' => v = some (.int (vEst σ x y)) ∧ C' = sg_ov C (mW g m0 q (fPair σ x y))) sg_no ([.ref m0, .int x, .int y] : List Value).toArray s 0 0) (sg_ov C (mW g m0 q σ)) 15 [(0, .ref m0), (1, .int x), (2, .int y)] [.int (kPair σ x y), .ref m0] := by
    refine sw_callV (pc := 15) (rest := []) hc (c_X8_holds l g C m0 q σ (kPair σ x y) hN ) md_X8_holds ml_RX8_171 im_X8_holds sl_X8_holds (mW_o hN) rfl rfl rfl (Nat.le_of_ble_eq_true rfl) dX8_estimate_15 ⟨Nat.le_of_ble_eq_true rfl, Nat.le_of_ble_eq_true rfl, Nat.le_of_ble_eq_true rfl, Nat.le_of_ble_eq_true rfl⟩ (fun v C' hP => ?_) (fun _ _ h => h.elim)
    obtain ⟨rfl, rfl⟩ := hP
    refine sw_st (st' := [.int (bI (0 < (kPair σ x y)))]) rfl ?_
    refine sw_if_eq (pc := 18) (tgt := 25) hc dX8_estimate_18 (by decide) (fun c_1 => ?_) (fun c_1 => ?_)
    ·
      have p_2 : ¬ (0 < (kPair σ x y)) := bI_0 c_1
      refine sw_aload_n (pc := 25) hc dX8_estimate_25 rfl 0 rfl ?_
      refine sw_iload_n (pc := 26) hc dX8_estimate_26 rfl 1 rfl ?_
      refine sw_iload_n (pc := 27) hc dX8_estimate_27 rfl 2 rfl ?_
      refine sw_callV (pc := 28) (rest := []) hc (c_X8_guess l g C m0 q (st2 σ 42 0 (kPair σ x y)) x y hN (hWF.t)) md_X8_guess ml_RX8_225 im_X8_guess sl_X8_guess (mW_o hN) rfl rfl rfl (Nat.le_of_ble_eq_true rfl) dX8_estimate_28 ⟨Nat.le_of_ble_eq_true rfl, Nat.le_of_ble_eq_true rfl, Nat.le_of_ble_eq_true rfl, Nat.le_of_ble_eq_true rfl⟩ (fun v C' hP => ?_) (fun _ _ h => h.elim)
      obtain ⟨rfl, rfl⟩ := hP
      refine sw_st (st' := [.int (rGuess (st2 σ 42 0 (kPair σ x y)) x y)]) rfl ?_
      have h_3 : rGuess (st2 σ 42 0 (kPair σ x y)) x y = vEst σ x y := by first | rfl | exact (if_pos (by assumption)).symm | exact (if_neg (by assumption)).symm
      have h_4 : st2 σ 42 0 (kPair σ x y) = fPair σ x y := by first | rfl | exact (if_pos (by assumption)).symm | exact (if_neg (by assumption)).symm
      exact sw_iret (pc := 31) hc hlk hrt rfl ⟨(congrArg (fun z => some (Value.int z)) h_3), (congrArg (fun z => sg_ov C (mW g m0 q z)) h_4)⟩ (Nat.le_of_ble_eq_true rfl) (Nat.le_of_ble_eq_true rfl) dX8_estimate_31
    ·
      have p_5 : 0 < (kPair σ x y) := bI_n c_1
      refine sw_iconst (pc := 21) (v := (-1)) hc dX8_estimate_21 (by decide) ?_
      refine sw_goto (pc := 22) (tgt := 31) hc dX8_estimate_22 (by decide) ?_
      have h_6 : (-1) = vEst σ x y := by first | rfl | exact (if_pos (by assumption)).symm | exact (if_neg (by assumption)).symm
      have h_7 : st2 σ 42 0 (kPair σ x y) = fPair σ x y := by first | rfl | exact (if_pos (by assumption)).symm | exact (if_neg (by assumption)).symm
      exact sw_iret (pc := 31) hc hlk hrt rfl ⟨(congrArg (fun z => some (Value.int z)) h_6), (congrArg (fun z => sg_ov C (mW g m0 q z)) h_7)⟩ (Nat.le_of_ble_eq_true rfl) (Nat.le_of_ble_eq_true rfl) dX8_estimate_31
  refine sw_aload_n (pc := 0) hc dX8_estimate_0 rfl 0 rfl ?_
  refine sw_aload_n (pc := 1) hc dX8_estimate_1 rfl 0 rfl ?_
  refine sw_iload_n (pc := 2) hc dX8_estimate_2 rfl 1 rfl ?_
  refine sw_iload_n (pc := 3) hc dX8_estimate_3 rfl 2 rfl ?_
  refine sw_callV (pc := 4) (rest := [.ref m0]) hc (c_X8_isPair l g C m0 q σ x y hN ) md_X8_isPair ml_RX8_215 im_X8_isPair sl_X8_isPair (mW_o hN) rfl rfl rfl (Nat.le_of_ble_eq_true rfl) dX8_estimate_4 ⟨Nat.le_of_ble_eq_true rfl, Nat.le_of_ble_eq_true rfl, Nat.le_of_ble_eq_true rfl, Nat.le_of_ble_eq_true rfl⟩ (fun v C' hP => ?_) (fun _ _ h => h.elim)
  obtain ⟨rfl, rfl⟩ := hP
  refine sw_st (st' := [.int (bI (rPair σ x y)), .ref m0]) rfl ?_
  refine sw_if_eq (pc := 7) (tgt := 14) hc dX8_estimate_7 (by decide) (fun c_8 => ?_) (fun c_8 => ?_)
  ·
    have p_9 : ¬ (rPair σ x y) := bI_0 c_8
    refine sw_iconst (pc := 14) (v := 1) hc dX8_estimate_14 (by decide) ?_
    have h_10 : 1 = kPair σ x y := by first | with_reducible rfl | (first | with_reducible rfl | (simp [-Int32.not_le, -Int32.not_lt, kPair, st2_a, p_9]; done) | (((try simp only [st2_a, Nat.reduceBEq, Bool.false_and, Bool.true_and, beq_self_eq_true, cond_false, cond_true] at p_9) <;> simp [-Int32.not_le, -Int32.not_lt, kPair, st2_a, p_9]); done) | ((try simp only [kPair]); (repeat' split) <;> simp_all [-Int32.not_le, -Int32.not_lt, st2_a, rGap, rWall]; done))
    refine sw_st (st' := [.int (kPair σ x y), .ref m0]) (congrArg (fun z => ([.int z, .ref m0] : List Value)) h_10) ?_
    exact sw_sub (ks := [0, 1, 2]) rfl (K_15 )
  ·
    have p_11 : rPair σ x y := bI_n c_8
    refine sw_iconst (pc := 10) (v := 0) hc dX8_estimate_10 (by decide) ?_
    refine sw_goto (pc := 11) (tgt := 15) hc dX8_estimate_11 (by decide) ?_
    have h_12 : 0 = kPair σ x y := by first | with_reducible rfl | (first | with_reducible rfl | (simp [-Int32.not_le, -Int32.not_lt, kPair, st2_a, p_11]; done) | (((try simp only [st2_a, Nat.reduceBEq, Bool.false_and, Bool.true_and, beq_self_eq_true, cond_false, cond_true] at p_11) <;> simp [-Int32.not_le, -Int32.not_lt, kPair, st2_a, p_11]); done) | ((try simp only [kPair]); (repeat' split) <;> simp_all [-Int32.not_le, -Int32.not_lt, st2_a, rGap, rWall]; done))
    refine sw_st (st' := [.int (kPair σ x y), .ref m0]) (congrArg (fun z => ([.int z, .ref m0] : List Value)) h_12) ?_
    exact sw_sub (ks := [0, 1, 2]) rfl (K_15 )

set_option maxHeartbeats 4000000 in
set_option maxRecDepth 100000 in
theorem c_X8_at (l : Launch) (g : sg_G) (C : Nat → Option va_E) (m0 : Nat) (q : Nat → Nat) (σ : Mem) (x : Int32) (z : Int32) (hN : mN m0 q) (hWF : rWF σ) : sg_Met l yX8_at cX8_at 9 (some .int) 4 93 0 0 g [.ref m0, .int x, .int z] (sg_ov C (mW g m0 q σ)) (fun v C' => v = some (.int (vAt σ x z)) ∧ C' = sg_ov C (mW g m0 q (fAt σ x z))) sg_no := by
  refine sg_ofW (by decide) rfl ?_ (Nat.le_of_ble_eq_true rfl)
  intro p e s m below meth c hc hlk hrt hin2 htb
  have hc : sg_Cx p s m _ c cX8_at 9 RX8 g := hc
  show sg_W p l e _ s m _ below meth c 9 g 0 0 _ (sg_ov C (mW g m0 q σ)) 0 [(0, .ref m0), (1, .int x), (2, .int z)] []
  have K_124 : ∀ (f : Int32) (ef : f = rAt σ x z), sg_W p l e (sg_rm 4 93 0 0) s m ([.ref m0, .int x, .int z] : List Value).toArray below meth c 9 g 0 0 (sg_End below g (fun v C' => v = some (.int (vAt σ x z)) ∧ C' = sg_ov C (mW g m0 q (fAt σ x z))) sg_no ([.ref m0, .int x, .int z] : List Value).toArray s 0 0) (sg_ov C (mW g m0 q σ)) 124 [(0, .ref m0), (3, .int f)] [.int (kAt σ x z), .ref m0] := by
    intro f ef
    refine sw_callV (pc := 124) (rest := []) hc (c_X8_holds l g C m0 q σ (kAt σ x z) hN ) md_X8_holds ml_RX8_171 im_X8_holds sl_X8_holds (mW_o hN) rfl rfl rfl (Nat.le_of_ble_eq_true rfl) dX8_at_124 ⟨Nat.le_of_ble_eq_true rfl, Nat.le_of_ble_eq_true rfl, Nat.le_of_ble_eq_true rfl, Nat.le_of_ble_eq_true rfl⟩ (fun v C' hP => ?_) (fun _ _ h => h.elim)
    obtain ⟨rfl, rfl⟩ := hP
    refine sw_st (st' := [.int (bI (0 < (kAt σ x z)))]) rfl ?_
    refine sw_if_eq (pc := 127) (tgt := 134) hc dX8_at_127 (by decide) (fun c_1 => ?_) (fun c_1 => ?_)
    ·
      have p_2 : ¬ (0 < (kAt σ x z)) := bI_0 c_1
      refine sw_iload_n (pc := 134) hc dX8_at_134 rfl 1 rfl ?_
      have hz : f = vAt σ x z := by subst ef; first | exact (if_pos (by assumption)).symm | exact (if_neg (by assumption)).symm
      exact sw_iret (pc := 135) hc hlk hrt rfl ⟨congrArg (fun z => some (Value.int z)) hz, rfl⟩ (Nat.le_of_ble_eq_true rfl) (Nat.le_of_ble_eq_true rfl) dX8_at_135
    ·
      have p_3 : 0 < (kAt σ x z) := bI_n c_1
      refine sw_iconst (pc := 130) (v := (-1)) hc dX8_at_130 (by decide) ?_
      refine sw_goto (pc := 131) (tgt := 135) hc dX8_at_131 (by decide) ?_
      have hz : (-1) = vAt σ x z := by subst ef; first | exact (if_pos (by assumption)).symm | exact (if_neg (by assumption)).symm
      exact sw_iret (pc := 135) hc hlk hrt rfl ⟨congrArg (fun z => some (Value.int z)) hz, rfl⟩ (Nat.le_of_ble_eq_true rfl) (Nat.le_of_ble_eq_true rfl) dX8_at_135
  have K_114 : ∀ (f : Int32) (ef : f = rAt σ x z), sg_W p l e (sg_rm 4 93 0 0) s m ([.ref m0, .int x, .int z] : List Value).toArray below meth c 9 g 0 0 (sg_End below g (fun v C' => v = some (.int (vAt σ x z)) ∧ C' = sg_ov C (mW g m0 q (fAt σ x z))) sg_no ([.ref m0, .int x, .int z] : List Value).toArray s 0 0) (sg_ov C (mW g m0 q σ)) 114 [(0, .ref m0), (3, .int f)] [] := by
    intro f ef
    refine sw_aload_n (pc := 114) hc dX8_at_114 rfl 0 rfl ?_
    refine sw_iload_n (pc := 115) hc dX8_at_115 rfl 1 rfl ?_
    refine sw_if_ge (pc := 116) (tgt := 123) hc dX8_at_116 (by decide) (fun c_4 => ?_) (fun c_4 => ?_)
    ·
      have c_4' := Int32.not_lt.mpr c_4
      refine sw_iconst (pc := 123) (v := 0) hc dX8_at_123 (by decide) ?_
      have h_5 : f = rAt σ x z := by first | with_reducible rfl | (subst ef; first | with_reducible rfl | (simp [-Int32.not_le, -Int32.not_lt, kAt, st2_a, c_4, c_4']; done) | (((try simp only [st2_a, Nat.reduceBEq, Bool.false_and, Bool.true_and, beq_self_eq_true, cond_false, cond_true] at c_4 c_4') <;> simp [-Int32.not_le, -Int32.not_lt, kAt, st2_a, c_4, c_4']); done) | ((try simp only [kAt]); (repeat' split) <;> simp_all [-Int32.not_le, -Int32.not_lt, st2_a, rGap, rWall]; done))
      have h_6 : 0 = kAt σ x z := by first | with_reducible rfl | (subst ef; first | with_reducible rfl | (simp [-Int32.not_le, -Int32.not_lt, kAt, st2_a, c_4, c_4']; done) | (((try simp only [st2_a, Nat.reduceBEq, Bool.false_and, Bool.true_and, beq_self_eq_true, cond_false, cond_true] at c_4 c_4') <;> simp [-Int32.not_le, -Int32.not_lt, kAt, st2_a, c_4, c_4']); done) | ((try simp only [kAt]); (repeat' split) <;> simp_all [-Int32.not_le, -Int32.not_lt, st2_a, rGap, rWall]; done))
      refine sw_st (st' := [.int (kAt σ x z), .ref m0]) (congrArg (fun z => ([.int z, .ref m0] : List Value)) h_6) ?_
      exact sw_sub (ks := [0, 1]) rfl (K_124 f h_5)
    ·
      have c_4' := Int32.not_le.mp c_4
      refine sw_iconst (pc := 119) (v := 1) hc dX8_at_119 (by decide) ?_
      refine sw_goto (pc := 120) (tgt := 124) hc dX8_at_120 (by decide) ?_
      have h_7 : f = rAt σ x z := by first | with_reducible rfl | (subst ef; first | with_reducible rfl | (simp [-Int32.not_le, -Int32.not_lt, kAt, st2_a, c_4, c_4']; done) | (((try simp only [st2_a, Nat.reduceBEq, Bool.false_and, Bool.true_and, beq_self_eq_true, cond_false, cond_true] at c_4 c_4') <;> simp [-Int32.not_le, -Int32.not_lt, kAt, st2_a, c_4, c_4']); done) | ((try simp only [kAt]); (repeat' split) <;> simp_all [-Int32.not_le, -Int32.not_lt, st2_a, rGap, rWall]; done))
      have h_8 : 1 = kAt σ x z := by first | with_reducible rfl | (subst ef; first | with_reducible rfl | (simp [-Int32.not_le, -Int32.not_lt, kAt, st2_a, c_4, c_4']; done) | (((try simp only [st2_a, Nat.reduceBEq, Bool.false_and, Bool.true_and, beq_self_eq_true, cond_false, cond_true] at c_4 c_4') <;> simp [-Int32.not_le, -Int32.not_lt, kAt, st2_a, c_4, c_4']); done) | ((try simp only [kAt]); (repeat' split) <;> simp_all [-Int32.not_le, -Int32.not_lt, st2_a, rGap, rWall]; done))
      refine sw_st (st' := [.int (kAt σ x z), .ref m0]) (congrArg (fun z => ([.int z, .ref m0] : List Value)) h_8) ?_
      exact sw_sub (ks := [0, 1]) rfl (K_124 f h_7)
  have K_5 : ∀ (n5 : Nat) (k : Nat) (f : Int32) (hn5 : (8 - k) < n5) (ef : f = rAtF σ x z k) (hkb : k ≤ 8) (hkv : k = 0 ∨ rIn σ 16 x), sg_W p l e (sg_rm 4 93 0 0) s m ([.ref m0, .int x, .int z] : List Value).toArray below meth c 9 g 0 0 (sg_End below g (fun v C' => v = some (.int (vAt σ x z)) ∧ C' = sg_ov C (mW g m0 q (fAt σ x z))) sg_no ([.ref m0, .int x, .int z] : List Value).toArray s 0 0) (sg_ov C (mW g m0 q σ)) 5 [(0, .ref m0), (1, .int x), (2, .int z), (3, .int f), (4, .int (nI k))] [] := by
    intro n5
    induction n5 with
    | zero => intro k f hn5 ef hkb hkv; exact absurd hn5 (Nat.not_lt_zero _)
    | succ n5 ih5 =>
      intro k f hn5 ef hkb hkv
      have h26 := hWF.2.2.2.1.2
      have K_36 : ∀ (n36 : Nat) (j : Nat) (b : Int32) (hn36 : (8 - j) < n36) (eb : b = rAtB σ x (rTopN σ x (nI k) (-1)) j) (hjb : j ≤ 8) (hjo : j = 0 ∨ 0 ≤ rTopN σ x (nI k) (-1)) (hv1 : rIn σ 16 x) (hk7 : k < 8), sg_W p l e (sg_rm 4 93 0 0) s m ([.ref m0, .int x, .int z] : List Value).toArray below meth c 9 g 0 0 (sg_End below g (fun v C' => v = some (.int (vAt σ x z)) ∧ C' = sg_ov C (mW g m0 q (fAt σ x z))) sg_no ([.ref m0, .int x, .int z] : List Value).toArray s 0 0) (sg_ov C (mW g m0 q σ)) 36 [(0, .ref m0), (1, .int x), (2, .int z), (3, .int f), (4, .int (nI k)), (5, .int (rTopN σ x (nI k) (-1))), (6, .int b), (7, .int (nI j))] [] := by
        intro n36
        induction n36 with
        | zero => intro j b hn36 eb hjb hjo hv1 hk7; exact absurd hn36 (Nat.not_lt_zero _)
        | succ n36 ih36 =>
          intro j b hn36 eb hjb hjo hv1 hk7
          refine sw_iload (pc := 36) hc dX8_at_36 7 rfl ?_
          refine sw_bipush (pc := 38) (v := 8) hc dX8_at_38 (by decide) ?_
          refine sw_icmp_ge (pc := 40) (tgt := 90) hc dX8_at_40 (by decide) (fun c_9 => ?_) (fun c_9 => ?_)
          ·
            have n_10 : 8 ≤ j := (nI_leI (a := 8) (b := j) (by omega) (by omega)).mp c_9
            have c_9' := Int32.not_lt.mpr c_9
            refine sw_iload (pc := 90) hc dX8_at_90 5 rfl ?_
            refine sw_if_lt (pc := 92) (tgt := 106) hc dX8_at_92 (by decide) (fun c_11 => ?_) (fun c_11 => ?_)
            ·
              have c_11' := Int32.not_le.mpr c_11
              refine sw_iload_n (pc := 106) hc dX8_at_106 rfl 3 rfl ?_
              refine sw_istore_n (pc := 107) hc dX8_at_107 rfl (by decide) (lv' := [(3, .int f), (0, .ref m0), (1, .int x), (2, .int z), (4, .int (nI k)), (5, .int (rTopN σ x (nI k) (-1))), (6, .int b), (7, .int (nI j))]) rfl ?_
              refine sw_iinc (pc := 108) (v := nI (k + 1)) (lv' := [(4, .int (nI (k + 1))), (3, .int f), (0, .ref m0), (1, .int x), (2, .int z), (5, .int (rTopN σ x (nI k) (-1))), (6, .int b), (7, .int (nI j))]) hc dX8_at_108 (k := 4) rfl (nI_1 _) (by decide) rfl ?_
              refine sw_goto (pc := 111) (tgt := 5) hc dX8_at_111 (by decide) ?_
              have h_12 : f = rAtF σ x z (k + 1) := by first | rfl | exact rAtF_1 ef (by assumption) | exact rAtF_2 (b := b) (Int32.not_lt.mp (by assumption)) (by rw [eb, show j = 8 by omega]) (by assumption) | exact rAtF_3 (b := b) ef (Int32.not_lt.mp (by assumption)) (by rw [eb, show j = 8 by omega]) (by assumption) | exact absurd (by assumption : rTopN σ x (nI k) (-1) < 0) (by assumption)
              have h_13 : (k + 1) ≤ 8 := by omega
              have h_14 : (k + 1) = 0 ∨ rIn σ 16 x := by exact .inr hv1
              have h_15 : (8 - (k + 1)) < n5 := by omega
              exact sw_sub (ks := [2, 3, 4, 1, 0]) rfl (ih5 (k + 1) f h_15 h_12 h_13 h_14)
            ·
              have c_11' := Int32.not_lt.mp c_11
              refine sw_iload (pc := 95) hc dX8_at_95 6 rfl ?_
              refine sw_iload_n (pc := 97) hc dX8_at_97 rfl 2 rfl ?_
              refine sw_icmp_ne (pc := 98) (tgt := 106) hc dX8_at_98 (by decide) (fun c_16 => ?_) (fun c_16 => ?_)
              ·
                refine sw_iload_n (pc := 106) hc dX8_at_106 rfl 3 rfl ?_
                refine sw_istore_n (pc := 107) hc dX8_at_107 rfl (by decide) (lv' := [(3, .int f), (0, .ref m0), (1, .int x), (2, .int z), (4, .int (nI k)), (5, .int (rTopN σ x (nI k) (-1))), (6, .int b), (7, .int (nI j))]) rfl ?_
                refine sw_iinc (pc := 108) (v := nI (k + 1)) (lv' := [(4, .int (nI (k + 1))), (3, .int f), (0, .ref m0), (1, .int x), (2, .int z), (5, .int (rTopN σ x (nI k) (-1))), (6, .int b), (7, .int (nI j))]) hc dX8_at_108 (k := 4) rfl (nI_1 _) (by decide) rfl ?_
                refine sw_goto (pc := 111) (tgt := 5) hc dX8_at_111 (by decide) ?_
                have h_17 : f = rAtF σ x z (k + 1) := by first | rfl | exact rAtF_1 ef (by assumption) | exact rAtF_2 (b := b) (Int32.not_lt.mp (by assumption)) (by rw [eb, show j = 8 by omega]) (by assumption) | exact rAtF_3 (b := b) ef (Int32.not_lt.mp (by assumption)) (by rw [eb, show j = 8 by omega]) (by assumption) | exact absurd (by assumption : rTopN σ x (nI k) (-1) < 0) (by assumption)
                have h_18 : (k + 1) ≤ 8 := by omega
                have h_19 : (k + 1) = 0 ∨ rIn σ 16 x := by exact .inr hv1
                have h_20 : (8 - (k + 1)) < n5 := by omega
                exact sw_sub (ks := [2, 3, 4, 1, 0]) rfl (ih5 (k + 1) f h_20 h_17 h_18 h_19)
              ·
                refine sw_iload (pc := 101) hc dX8_at_101 5 rfl ?_
                refine sw_goto (pc := 103) (tgt := 107) hc dX8_at_103 (by decide) ?_
                refine sw_istore_n (pc := 107) hc dX8_at_107 rfl (by decide) (lv' := [(3, .int (rTopN σ x (nI k) (-1))), (0, .ref m0), (1, .int x), (2, .int z), (4, .int (nI k)), (5, .int (rTopN σ x (nI k) (-1))), (6, .int b), (7, .int (nI j))]) rfl ?_
                refine sw_iinc (pc := 108) (v := nI (k + 1)) (lv' := [(4, .int (nI (k + 1))), (3, .int (rTopN σ x (nI k) (-1))), (0, .ref m0), (1, .int x), (2, .int z), (5, .int (rTopN σ x (nI k) (-1))), (6, .int b), (7, .int (nI j))]) hc dX8_at_108 (k := 4) rfl (nI_1 _) (by decide) rfl ?_
                refine sw_goto (pc := 111) (tgt := 5) hc dX8_at_111 (by decide) ?_
                have h_21 : rTopN σ x (nI k) (-1) = rAtF σ x z (k + 1) := by first | rfl | exact rAtF_1 ef (by assumption) | exact rAtF_2 (b := b) (Int32.not_lt.mp (by assumption)) (by rw [eb, show j = 8 by omega]) (by assumption) | exact rAtF_3 (b := b) ef (Int32.not_lt.mp (by assumption)) (by rw [eb, show j = 8 by omega]) (by assumption) | exact absurd (by assumption : rTopN σ x (nI k) (-1) < 0) (by assumption)
                have h_22 : (k + 1) ≤ 8 := by omega
                have h_23 : (k + 1) = 0 ∨ rIn σ 16 x := by exact .inr hv1
                have h_24 : (8 - (k + 1)) < n5 := by omega
                exact sw_sub (ks := [2, 3, 4, 1, 0]) rfl (ih5 (k + 1) (rTopN σ x (nI k) (-1)) h_24 h_21 h_22 h_23)
          ·
            have n_25 : ¬ (8 ≤ j) := fun z => c_9 ((nI_leI (a := 8) (b := j) (by omega) (by omega)).mpr z)
            have c_9' := Int32.not_le.mp c_9
            refine sw_iload (pc := 43) hc dX8_at_43 5 rfl ?_
            refine sw_if_lt (pc := 45) (tgt := 90) hc dX8_at_45 (by decide) (fun c_26 => ?_) (fun c_26 => ?_)
            ·
              have c_26' := Int32.not_le.mpr c_26
              refine sw_iload (pc := 90) hc dX8_at_90 5 rfl ?_
              refine sw_if_lt (pc := 92) (tgt := 106) hc dX8_at_92 (by decide) (fun c_27 => ?_) (fun c_27 => ?_)
              ·
                have c_27' := Int32.not_le.mpr c_27
                refine sw_iload_n (pc := 106) hc dX8_at_106 rfl 3 rfl ?_
                refine sw_istore_n (pc := 107) hc dX8_at_107 rfl (by decide) (lv' := [(3, .int f), (0, .ref m0), (1, .int x), (2, .int z), (4, .int (nI k)), (5, .int (rTopN σ x (nI k) (-1))), (6, .int b), (7, .int (nI j))]) rfl ?_
                refine sw_iinc (pc := 108) (v := nI (k + 1)) (lv' := [(4, .int (nI (k + 1))), (3, .int f), (0, .ref m0), (1, .int x), (2, .int z), (5, .int (rTopN σ x (nI k) (-1))), (6, .int b), (7, .int (nI j))]) hc dX8_at_108 (k := 4) rfl (nI_1 _) (by decide) rfl ?_
                refine sw_goto (pc := 111) (tgt := 5) hc dX8_at_111 (by decide) ?_
                have h_28 : f = rAtF σ x z (k + 1) := by first | rfl | exact rAtF_1 ef (by assumption) | exact rAtF_2 (b := b) (Int32.not_lt.mp (by assumption)) (by rw [eb, show j = 8 by omega]) (by assumption) | exact rAtF_3 (b := b) ef (Int32.not_lt.mp (by assumption)) (by rw [eb, show j = 8 by omega]) (by assumption) | exact absurd (by assumption : rTopN σ x (nI k) (-1) < 0) (by assumption)
                have h_29 : (k + 1) ≤ 8 := by omega
                have h_30 : (k + 1) = 0 ∨ rIn σ 16 x := by exact .inr hv1
                have h_31 : (8 - (k + 1)) < n5 := by omega
                exact sw_sub (ks := [2, 3, 4, 1, 0]) rfl (ih5 (k + 1) f h_31 h_28 h_29 h_30)
              ·
                have c_27' := Int32.not_lt.mp c_27
                refine sw_iload (pc := 95) hc dX8_at_95 6 rfl ?_
                refine sw_iload_n (pc := 97) hc dX8_at_97 rfl 2 rfl ?_
                refine sw_icmp_ne (pc := 98) (tgt := 106) hc dX8_at_98 (by decide) (fun c_32 => ?_) (fun c_32 => ?_)
                ·
                  refine sw_iload_n (pc := 106) hc dX8_at_106 rfl 3 rfl ?_
                  refine sw_istore_n (pc := 107) hc dX8_at_107 rfl (by decide) (lv' := [(3, .int f), (0, .ref m0), (1, .int x), (2, .int z), (4, .int (nI k)), (5, .int (rTopN σ x (nI k) (-1))), (6, .int b), (7, .int (nI j))]) rfl ?_
                  refine sw_iinc (pc := 108) (v := nI (k + 1)) (lv' := [(4, .int (nI (k + 1))), (3, .int f), (0, .ref m0), (1, .int x), (2, .int z), (5, .int (rTopN σ x (nI k) (-1))), (6, .int b), (7, .int (nI j))]) hc dX8_at_108 (k := 4) rfl (nI_1 _) (by decide) rfl ?_
                  refine sw_goto (pc := 111) (tgt := 5) hc dX8_at_111 (by decide) ?_
                  have h_33 : f = rAtF σ x z (k + 1) := by first | rfl | exact rAtF_1 ef (by assumption) | exact rAtF_2 (b := b) (Int32.not_lt.mp (by assumption)) (by rw [eb, show j = 8 by omega]) (by assumption) | exact rAtF_3 (b := b) ef (Int32.not_lt.mp (by assumption)) (by rw [eb, show j = 8 by omega]) (by assumption) | exact absurd (by assumption : rTopN σ x (nI k) (-1) < 0) (by assumption)
                  have h_34 : (k + 1) ≤ 8 := by omega
                  have h_35 : (k + 1) = 0 ∨ rIn σ 16 x := by exact .inr hv1
                  have h_36 : (8 - (k + 1)) < n5 := by omega
                  exact sw_sub (ks := [2, 3, 4, 1, 0]) rfl (ih5 (k + 1) f h_36 h_33 h_34 h_35)
                ·
                  refine sw_iload (pc := 101) hc dX8_at_101 5 rfl ?_
                  refine sw_goto (pc := 103) (tgt := 107) hc dX8_at_103 (by decide) ?_
                  refine sw_istore_n (pc := 107) hc dX8_at_107 rfl (by decide) (lv' := [(3, .int (rTopN σ x (nI k) (-1))), (0, .ref m0), (1, .int x), (2, .int z), (4, .int (nI k)), (5, .int (rTopN σ x (nI k) (-1))), (6, .int b), (7, .int (nI j))]) rfl ?_
                  refine sw_iinc (pc := 108) (v := nI (k + 1)) (lv' := [(4, .int (nI (k + 1))), (3, .int (rTopN σ x (nI k) (-1))), (0, .ref m0), (1, .int x), (2, .int z), (5, .int (rTopN σ x (nI k) (-1))), (6, .int b), (7, .int (nI j))]) hc dX8_at_108 (k := 4) rfl (nI_1 _) (by decide) rfl ?_
                  refine sw_goto (pc := 111) (tgt := 5) hc dX8_at_111 (by decide) ?_
                  have h_37 : rTopN σ x (nI k) (-1) = rAtF σ x z (k + 1) := by first | rfl | exact rAtF_1 ef (by assumption) | exact rAtF_2 (b := b) (Int32.not_lt.mp (by assumption)) (by rw [eb, show j = 8 by omega]) (by assumption) | exact rAtF_3 (b := b) ef (Int32.not_lt.mp (by assumption)) (by rw [eb, show j = 8 by omega]) (by assumption) | exact absurd (by assumption : rTopN σ x (nI k) (-1) < 0) (by assumption)
                  have h_38 : (k + 1) ≤ 8 := by omega
                  have h_39 : (k + 1) = 0 ∨ rIn σ 16 x := by exact .inr hv1
                  have h_40 : (8 - (k + 1)) < n5 := by omega
                  exact sw_sub (ks := [2, 3, 4, 1, 0]) rfl (ih5 (k + 1) (rTopN σ x (nI k) (-1)) h_40 h_37 h_38 h_39)
            ·
              have c_26' := Int32.not_lt.mp c_26
              refine sw_aload_n (pc := 48) hc dX8_at_48 rfl 0 rfl ?_
              refine sw_iload_n (pc := 49) hc dX8_at_49 rfl 1 rfl ?_
              refine sw_iload (pc := 50) hc dX8_at_50 7 rfl ?_
              refine sw_iconst (pc := 52) (v := (-1)) hc dX8_at_52 (by decide) ?_
              refine sw_callV (pc := 53) (rest := []) hc (c_X8_top l g C m0 q σ x (nI j) (-1) hN (hWF)) md_X8_top ml_RX8_218 im_X8_top sl_X8_top (mW_o hN) rfl rfl rfl (Nat.le_of_ble_eq_true rfl) dX8_at_53 ⟨Nat.le_of_ble_eq_true rfl, Nat.le_of_ble_eq_true rfl, Nat.le_of_ble_eq_true rfl, Nat.le_of_ble_eq_true rfl⟩ (fun v C' hP => ?_) (fun _ _ h => h.elim)
              obtain ⟨rfl, rfl⟩ := hP
              refine sw_st (st' := [.int (rTopN σ x (nI j) (-1))]) rfl ?_
              refine sw_istore (pc := 56) hc dX8_at_56 (by decide) (lv' := [(8, .int (rTopN σ x (nI j) (-1))), (0, .ref m0), (1, .int x), (2, .int z), (3, .int f), (4, .int (nI k)), (5, .int (rTopN σ x (nI k) (-1))), (6, .int b), (7, .int (nI j))]) rfl ?_
              refine sw_iload (pc := 58) hc dX8_at_58 7 rfl ?_
              refine sw_iload (pc := 60) hc dX8_at_60 0 rfl ?_
              refine sw_if_lt (pc := 62) (tgt := 80) hc dX8_at_62 (by decide) (fun c_41 => ?_) (fun c_41 => ?_)
              ·
                have c_41' := Int32.not_le.mpr c_41
                refine sw_iconst (pc := 80) (v := 0) hc dX8_at_80 (by decide) ?_
                refine sw_iadd (pc := 81) hc dX8_at_81 ?_
                refine sw_istore (pc := 82) hc dX8_at_82 (by decide) (lv' := [(6, .int (b + 0)), (8, .int (rTopN σ x (nI j) (-1))), (0, .ref m0), (1, .int x), (2, .int z), (3, .int f), (4, .int (nI k)), (5, .int (rTopN σ x (nI k) (-1))), (7, .int (nI j))]) rfl ?_
                refine sw_iinc (pc := 84) (v := nI (j + 1)) (lv' := [(7, .int (nI (j + 1))), (6, .int (b + 0)), (8, .int (rTopN σ x (nI j) (-1))), (0, .ref m0), (1, .int x), (2, .int z), (3, .int f), (4, .int (nI k)), (5, .int (rTopN σ x (nI k) (-1)))]) hc dX8_at_84 (k := 8) rfl (nI_1 _) (by decide) rfl ?_
                refine sw_goto (pc := 87) (tgt := 36) hc dX8_at_87 (by decide) ?_
                have h_42 : b + 0 = rAtB σ x (rTopN σ x (nI k) (-1)) (j + 1) := by first | rfl | exact rAtB_1 eb (Int32.not_lt.mp (by assumption)) (by assumption) | exact rAtB_2 eb (fun q => absurd q.1 (Int32.not_le.mpr (by assumption))) | exact rAtB_2 eb (fun q => absurd q.2 (by assumption))
                have h_43 : (j + 1) ≤ 8 := by omega
                have h_44 : (j + 1) = 0 ∨ 0 ≤ rTopN σ x (nI k) (-1) := by exact .inr (Int32.not_lt.mp (by assumption))
                have h_45 : rIn σ 16 x := by exact hv1
                have h_46 : k < 8 := by omega
                have h_47 : (8 - (j + 1)) < n36 := by omega
                exact sw_sub (ks := [3, 4, 5, 6, 7, 8, 1, 0]) rfl (ih36 (j + 1) (b + 0) h_47 h_42 h_43 h_44 h_45 h_46)
              ·
                have c_41' := Int32.not_lt.mp c_41
                obtain ⟨fo, fo2⟩ := rTop_x (σ := σ) (n := iN (σ 26 0)) (by omega) (rfl : rTopN σ x (nI k) (-1) = _) c_26; obtain ⟨fn, fn2⟩ := rTop_x (σ := σ) (n := iN (σ 26 0)) (by omega) (rfl : rTopN σ x (nI j) (-1) = _) c_41
                refine sw_aload_n (pc := 65) hc dX8_at_65 rfl 1 rfl ?_
                refine sw_iload (pc := 66) hc dX8_at_66 0 rfl ?_
                refine sw_iload (pc := 68) hc dX8_at_68 6 rfl ?_
                refine sw_st (st' := [.int (nI (iN (rTopN σ x (nI k) (-1)))), .int (rTopN σ x (nI j) (-1)), .ref m0, .int b]) (congrArg (fun z => ([.int z, .int (rTopN σ x (nI j) (-1)), .ref m0, .int b] : List Value)) fo) ?_
                refine sw_st (st' := [.int (nI (iN (rTopN σ x (nI k) (-1)))), .int (nI (iN (rTopN σ x (nI j) (-1)))), .ref m0, .int b]) (congrArg (fun z => ([.int (nI (iN (rTopN σ x (nI k) (-1)))), .int z, .ref m0, .int b] : List Value)) fn) ?_
                refine sw_callV (pc := 70) (rest := [.int b]) hc (c_X8_ahead l g C m0 q σ (iN (rTopN σ x (nI j) (-1))) (iN (rTopN σ x (nI k) (-1))) hN (by omega) (by omega)) md_X8_ahead ml_RX8_212 im_X8_ahead sl_X8_ahead (mW_o hN) rfl rfl rfl (Nat.le_of_ble_eq_true rfl) dX8_at_70 ⟨Nat.le_of_ble_eq_true rfl, Nat.le_of_ble_eq_true rfl, Nat.le_of_ble_eq_true rfl, Nat.le_of_ble_eq_true rfl⟩ (fun v C' hP => ?_) (fun _ _ h => h.elim)
                obtain ⟨rfl, rfl⟩ := hP
                refine sw_st (st' := [.int (bI (rAhd σ (iN (rTopN σ x (nI j) (-1))) (iN (rTopN σ x (nI k) (-1))))), .int b]) rfl ?_
                refine sw_if_eq (pc := 73) (tgt := 80) hc dX8_at_73 (by decide) (fun c_48 => ?_) (fun c_48 => ?_)
                ·
                  have p_49 : ¬ (rAhd σ (iN (rTopN σ x (nI j) (-1))) (iN (rTopN σ x (nI k) (-1)))) := bI_0 c_48
                  refine sw_iconst (pc := 80) (v := 0) hc dX8_at_80 (by decide) ?_
                  refine sw_iadd (pc := 81) hc dX8_at_81 ?_
                  refine sw_istore (pc := 82) hc dX8_at_82 (by decide) (lv' := [(6, .int (b + 0)), (8, .int (rTopN σ x (nI j) (-1))), (0, .ref m0), (1, .int x), (2, .int z), (3, .int f), (4, .int (nI k)), (5, .int (rTopN σ x (nI k) (-1))), (7, .int (nI j))]) rfl ?_
                  refine sw_iinc (pc := 84) (v := nI (j + 1)) (lv' := [(7, .int (nI (j + 1))), (6, .int (b + 0)), (8, .int (rTopN σ x (nI j) (-1))), (0, .ref m0), (1, .int x), (2, .int z), (3, .int f), (4, .int (nI k)), (5, .int (rTopN σ x (nI k) (-1)))]) hc dX8_at_84 (k := 8) rfl (nI_1 _) (by decide) rfl ?_
                  refine sw_goto (pc := 87) (tgt := 36) hc dX8_at_87 (by decide) ?_
                  have h_50 : b + 0 = rAtB σ x (rTopN σ x (nI k) (-1)) (j + 1) := by first | rfl | exact rAtB_1 eb (Int32.not_lt.mp (by assumption)) (by assumption) | exact rAtB_2 eb (fun q => absurd q.1 (Int32.not_le.mpr (by assumption))) | exact rAtB_2 eb (fun q => absurd q.2 (by assumption))
                  have h_51 : (j + 1) ≤ 8 := by omega
                  have h_52 : (j + 1) = 0 ∨ 0 ≤ rTopN σ x (nI k) (-1) := by exact .inr (Int32.not_lt.mp (by assumption))
                  have h_53 : rIn σ 16 x := by exact hv1
                  have h_54 : k < 8 := by omega
                  have h_55 : (8 - (j + 1)) < n36 := by omega
                  exact sw_sub (ks := [3, 4, 5, 6, 7, 8, 1, 0]) rfl (ih36 (j + 1) (b + 0) h_55 h_50 h_51 h_52 h_53 h_54)
                ·
                  have p_56 : rAhd σ (iN (rTopN σ x (nI j) (-1))) (iN (rTopN σ x (nI k) (-1))) := bI_n c_48
                  refine sw_iconst (pc := 76) (v := 1) hc dX8_at_76 (by decide) ?_
                  refine sw_goto (pc := 77) (tgt := 81) hc dX8_at_77 (by decide) ?_
                  refine sw_iadd (pc := 81) hc dX8_at_81 ?_
                  refine sw_istore (pc := 82) hc dX8_at_82 (by decide) (lv' := [(6, .int (b + 1)), (8, .int (rTopN σ x (nI j) (-1))), (0, .ref m0), (1, .int x), (2, .int z), (3, .int f), (4, .int (nI k)), (5, .int (rTopN σ x (nI k) (-1))), (7, .int (nI j))]) rfl ?_
                  refine sw_iinc (pc := 84) (v := nI (j + 1)) (lv' := [(7, .int (nI (j + 1))), (6, .int (b + 1)), (8, .int (rTopN σ x (nI j) (-1))), (0, .ref m0), (1, .int x), (2, .int z), (3, .int f), (4, .int (nI k)), (5, .int (rTopN σ x (nI k) (-1)))]) hc dX8_at_84 (k := 8) rfl (nI_1 _) (by decide) rfl ?_
                  refine sw_goto (pc := 87) (tgt := 36) hc dX8_at_87 (by decide) ?_
                  have h_57 : b + 1 = rAtB σ x (rTopN σ x (nI k) (-1)) (j + 1) := by first | rfl | exact rAtB_1 eb (Int32.not_lt.mp (by assumption)) (by assumption) | exact rAtB_2 eb (fun q => absurd q.1 (Int32.not_le.mpr (by assumption))) | exact rAtB_2 eb (fun q => absurd q.2 (by assumption))
                  have h_58 : (j + 1) ≤ 8 := by omega
                  have h_59 : (j + 1) = 0 ∨ 0 ≤ rTopN σ x (nI k) (-1) := by exact .inr (Int32.not_lt.mp (by assumption))
                  have h_60 : rIn σ 16 x := by exact hv1
                  have h_61 : k < 8 := by omega
                  have h_62 : (8 - (j + 1)) < n36 := by omega
                  exact sw_sub (ks := [3, 4, 5, 6, 7, 8, 1, 0]) rfl (ih36 (j + 1) (b + 1) h_62 h_57 h_58 h_59 h_60 h_61)
      refine sw_iload (pc := 5) hc dX8_at_5 4 rfl ?_
      refine sw_bipush (pc := 7) (v := 8) hc dX8_at_7 (by decide) ?_
      refine sw_icmp_ge (pc := 9) (tgt := 114) hc dX8_at_9 (by decide) (fun c_63 => ?_) (fun c_63 => ?_)
      ·
        have n_64 : 8 ≤ k := (nI_leI (a := 8) (b := k) (by omega) (by omega)).mp c_63
        have c_63' := Int32.not_lt.mpr c_63
        have h_65 : f = rAt σ x z := by first | (rw [ef, show k = 8 by omega]; exact (if_pos (by rcases hkv with q | q; omega; exact q)).symm) | (have hk0 : k = 0 := (hkv.resolve_right (by assumption)); subst hk0; rw [ef]; exact (if_neg (by assumption)).symm)
        exact sw_sub (ks := [0, 3]) rfl (K_114 f h_65)
      ·
        have n_66 : ¬ (8 ≤ k) := fun z => c_63 ((nI_leI (a := 8) (b := k) (by omega) (by omega)).mpr z)
        have c_63' := Int32.not_le.mp c_63
        refine sw_aload_n (pc := 12) hc dX8_at_12 rfl 0 rfl ?_
        refine sw_iload_n (pc := 13) hc dX8_at_13 rfl 1 rfl ?_
        refine sw_callV (pc := 14) (rest := []) hc (c_X8_isCategory l g C m0 q σ x hN ) md_X8_isCategory ml_RX8_197 im_X8_isCategory sl_X8_isCategory (mW_o hN) rfl rfl rfl (Nat.le_of_ble_eq_true rfl) dX8_at_14 ⟨Nat.le_of_ble_eq_true rfl, Nat.le_of_ble_eq_true rfl, Nat.le_of_ble_eq_true rfl, Nat.le_of_ble_eq_true rfl⟩ (fun v C' hP => ?_) (fun _ _ h => h.elim)
        obtain ⟨rfl, rfl⟩ := hP
        refine sw_st (st' := [.int (bI (rIn σ 16 x))]) rfl ?_
        refine sw_if_eq (pc := 17) (tgt := 114) hc dX8_at_17 (by decide) (fun c_67 => ?_) (fun c_67 => ?_)
        ·
          have p_68 : ¬ (rIn σ 16 x) := bI_0 c_67
          have h_69 : f = rAt σ x z := by first | (rw [ef, show k = 8 by omega]; exact (if_pos (by rcases hkv with q | q; omega; exact q)).symm) | (have hk0 : k = 0 := (hkv.resolve_right (by assumption)); subst hk0; rw [ef]; exact (if_neg (by assumption)).symm)
          exact sw_sub (ks := [0, 3]) rfl (K_114 f h_69)
        ·
          have p_70 : rIn σ 16 x := bI_n c_67
          refine sw_aload_n (pc := 20) hc dX8_at_20 rfl 0 rfl ?_
          refine sw_iload_n (pc := 21) hc dX8_at_21 rfl 1 rfl ?_
          refine sw_iload (pc := 22) hc dX8_at_22 4 rfl ?_
          refine sw_iconst (pc := 24) (v := (-1)) hc dX8_at_24 (by decide) ?_
          refine sw_callV (pc := 25) (rest := []) hc (c_X8_top l g C m0 q σ x (nI k) (-1) hN (hWF)) md_X8_top ml_RX8_218 im_X8_top sl_X8_top (mW_o hN) rfl rfl rfl (Nat.le_of_ble_eq_true rfl) dX8_at_25 ⟨Nat.le_of_ble_eq_true rfl, Nat.le_of_ble_eq_true rfl, Nat.le_of_ble_eq_true rfl, Nat.le_of_ble_eq_true rfl⟩ (fun v C' hP => ?_) (fun _ _ h => h.elim)
          obtain ⟨rfl, rfl⟩ := hP
          refine sw_st (st' := [.int (rTopN σ x (nI k) (-1))]) rfl ?_
          refine sw_istore (pc := 28) hc dX8_at_28 (by decide) (lv' := [(5, .int (rTopN σ x (nI k) (-1))), (0, .ref m0), (1, .int x), (2, .int z), (3, .int f), (4, .int (nI k))]) rfl ?_
          refine sw_iconst (pc := 30) (v := 0) hc dX8_at_30 (by decide) ?_
          refine sw_istore (pc := 31) hc dX8_at_31 (by decide) (lv' := [(6, .int 0), (5, .int (rTopN σ x (nI k) (-1))), (0, .ref m0), (1, .int x), (2, .int z), (3, .int f), (4, .int (nI k))]) rfl ?_
          refine sw_iconst (pc := 33) (v := 0) hc dX8_at_33 (by decide) ?_
          refine sw_istore (pc := 34) hc dX8_at_34 (by decide) (lv' := [(7, .int 0), (6, .int 0), (5, .int (rTopN σ x (nI k) (-1))), (0, .ref m0), (1, .int x), (2, .int z), (3, .int f), (4, .int (nI k))]) rfl ?_
          have h_71 : 0 = rAtB σ x (rTopN σ x (nI k) (-1)) 0 := by first | rfl | exact rAtB_1 eb (Int32.not_lt.mp (by assumption)) (by assumption) | exact rAtB_2 eb (fun q => absurd q.1 (Int32.not_le.mpr (by assumption))) | exact rAtB_2 eb (fun q => absurd q.2 (by assumption))
          have h_72 : 0 ≤ 8 := by omega
          have h_73 : 0 = 0 ∨ 0 ≤ rTopN σ x (nI k) (-1) := by exact .inl rfl
          have h_74 : rIn σ 16 x := by exact p_70
          have h_75 : k < 8 := by omega
          exact sw_sub (ks := [3, 4, 5, 6, 7, 2, 1, 0]) rfl (K_36 _ 0 0 (Nat.lt_succ_self _) h_71 h_72 h_73 h_74 h_75)
  refine sw_iconst (pc := 0) (v := (-1)) hc dX8_at_0 (by decide) ?_
  refine sw_istore_n (pc := 1) hc dX8_at_1 rfl (by decide) (lv' := [(3, .int (-1)), (0, .ref m0), (1, .int x), (2, .int z)]) rfl ?_
  refine sw_iconst (pc := 2) (v := 0) hc dX8_at_2 (by decide) ?_
  refine sw_istore (pc := 3) hc dX8_at_3 (by decide) (lv' := [(4, .int 0), (3, .int (-1)), (0, .ref m0), (1, .int x), (2, .int z)]) rfl ?_
  have h_76 : (-1) = rAtF σ x z 0 := by first | rfl | exact rAtF_1 ef (by assumption) | exact rAtF_2 (b := b) (Int32.not_lt.mp (by assumption)) (by rw [eb, show j = 8 by omega]) (by assumption) | exact rAtF_3 (b := b) ef (Int32.not_lt.mp (by assumption)) (by rw [eb, show j = 8 by omega]) (by assumption) | exact absurd (by assumption : rTopN σ x (nI k) (-1) < 0) (by assumption)
  have h_77 : 0 ≤ 8 := by omega
  have h_78 : 0 = 0 ∨ rIn σ 16 x := by exact .inl rfl
  exact sw_sub (ks := [2, 3, 4, 1, 0]) rfl (K_5 _ 0 (-1) (Nat.lt_succ_self _) h_76 h_77 h_78)

