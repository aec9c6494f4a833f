/-! a replay that is run by the class, and by the reference -/
/-- the class's hero is the reference's; v: the buttons before -/
def Sm (h : Her) (τ : Mem) (v : Int32) : Prop := h 0 = τ 32 0 ∧ h 1 = τ 33 0 ∧ h 2 = τ 34 0 ∧ h 3 = τ 35 0 ∧ h 4 = τ 36 0 ∧ h 5 = v ∧ h 6 = τ 37 0 ∧ h 7 = rPurse (τ 37 0) 32 ∧ h 8 = τ 38 0 ∧ h 9 = τ 39 0 ∧ h 10 = τ 40 0 ∧ h 11 = τ 41 0
section SIM
variable {σ τ : Mem} {h : Her} {v w x y b f dn : Int32} {a k c : Nat}
theorem Sm.s0 (hS : Sm h τ v) : h 0 = τ 32 0 := hS.1
theorem Sm.s1 (hS : Sm h τ v) : h 1 = τ 33 0 := hS.2.1
theorem Sm.s2 (hS : Sm h τ v) : h 2 = τ 34 0 := hS.2.2.1
theorem Sm.s3 (hS : Sm h τ v) : h 3 = τ 35 0 := hS.2.2.2.1
theorem Sm.s4 (hS : Sm h τ v) : h 4 = τ 36 0 := hS.2.2.2.2.1
theorem Sm.s5 (hS : Sm h τ v) : h 5 = v := hS.2.2.2.2.2.1
theorem Sm.s6 (hS : Sm h τ v) : h 6 = τ 37 0 := hS.2.2.2.2.2.2.1
theorem Sm.s7 (hS : Sm h τ v) : h 7 = rPurse (τ 37 0) 32 := hS.2.2.2.2.2.2.2.1
theorem Sm.s8 (hS : Sm h τ v) : h 8 = τ 38 0 := hS.2.2.2.2.2.2.2.2.1
theorem Sm.s9 (hS : Sm h τ v) : h 9 = τ 39 0 := hS.2.2.2.2.2.2.2.2.2.1
theorem Sm.s10 (hS : Sm h τ v) : h 10 = τ 40 0 := hS.2.2.2.2.2.2.2.2.2.2.1
theorem Sm.s11 (hS : Sm h τ v) : h 11 = τ 41 0 := hS.2.2.2.2.2.2.2.2.2.2.2
theorem Sm.p0 (hS : Sm h τ v) (e : x = y) : Sm (st1 h 0 x) (st2 τ 32 0 y) v := ⟨e, hS.s1, hS.s2, hS.s3, hS.s4, hS.s5, hS.s6, hS.s7, hS.s8, hS.s9, hS.s10, hS.s11⟩
theorem Sm.p1 (hS : Sm h τ v) (e : x = y) : Sm (st1 h 1 x) (st2 τ 33 0 y) v := ⟨hS.s0, e, hS.s2, hS.s3, hS.s4, hS.s5, hS.s6, hS.s7, hS.s8, hS.s9, hS.s10, hS.s11⟩
theorem Sm.p2 (hS : Sm h τ v) (e : x = y) : Sm (st1 h 2 x) (st2 τ 34 0 y) v := ⟨hS.s0, hS.s1, e, hS.s3, hS.s4, hS.s5, hS.s6, hS.s7, hS.s8, hS.s9, hS.s10, hS.s11⟩
theorem Sm.p3 (hS : Sm h τ v) (e : x = y) : Sm (st1 h 3 x) (st2 τ 35 0 y) v := ⟨hS.s0, hS.s1, hS.s2, e, hS.s4, hS.s5, hS.s6, hS.s7, hS.s8, hS.s9, hS.s10, hS.s11⟩
theorem Sm.p4 (hS : Sm h τ v) (e : x = y) : Sm (st1 h 4 x) (st2 τ 36 0 y) v := ⟨hS.s0, hS.s1, hS.s2, hS.s3, e, hS.s5, hS.s6, hS.s7, hS.s8, hS.s9, hS.s10, hS.s11⟩
theorem Sm.p8 (hS : Sm h τ v) (e : x = y) : Sm (st1 h 8 x) (st2 τ 38 0 y) v := ⟨hS.s0, hS.s1, hS.s2, hS.s3, hS.s4, hS.s5, hS.s6, hS.s7, e, hS.s9, hS.s10, hS.s11⟩
theorem Sm.p9 (hS : Sm h τ v) (e : x = y) : Sm (st1 h 9 x) (st2 τ 39 0 y) v := ⟨hS.s0, hS.s1, hS.s2, hS.s3, hS.s4, hS.s5, hS.s6, hS.s7, hS.s8, e, hS.s10, hS.s11⟩
theorem Sm.p10 (hS : Sm h τ v) (e : x = y) : Sm (st1 h 10 x) (st2 τ 40 0 y) v := ⟨hS.s0, hS.s1, hS.s2, hS.s3, hS.s4, hS.s5, hS.s6, hS.s7, hS.s8, hS.s9, e, hS.s11⟩
theorem Sm.p11 (hS : Sm h τ v) (e : x = y) : Sm (st1 h 11 x) (st2 τ 41 0 y) v := ⟨hS.s0, hS.s1, hS.s2, hS.s3, hS.s4, hS.s5, hS.s6, hS.s7, hS.s8, hS.s9, hS.s10, e⟩
theorem Sm.k4 (hS : Sm h τ v) : Sm h (st2 τ 36 0 (τ 36 0)) v := ⟨hS.s0, hS.s1, hS.s2, hS.s3, hS.s4, hS.s5, hS.s6, hS.s7, hS.s8, hS.s9, hS.s10, hS.s11⟩
theorem Sm.k6 (hS : Sm h τ v) : Sm h (st2 τ 37 0 (τ 37 0)) v := ⟨hS.s0, hS.s1, hS.s2, hS.s3, hS.s4, hS.s5, hS.s6, hS.s7, hS.s8, hS.s9, hS.s10, hS.s11⟩
theorem Sm.k9 (hS : Sm h τ v) : Sm h (st2 τ 39 0 (τ 39 0)) v := ⟨hS.s0, hS.s1, hS.s2, hS.s3, hS.s4, hS.s5, hS.s6, hS.s7, hS.s8, hS.s9, hS.s10, hS.s11⟩
theorem Sm.p5 (hS : Sm h τ v) (w : Int32) : Sm (st1 h 5 w) τ w := ⟨hS.s0, hS.s1, hS.s2, hS.s3, hS.s4, rfl, hS.s6, hS.s7, hS.s8, hS.s9, hS.s10, hS.s11⟩

theorem lGap_v (hF : rFr σ τ) (hk : k < 32) : lGap (lvG σ a) (nI k) ↔ rGap τ a k := by
  have e : (nI k).toNatClampNeg = k := nI_clamp (by omega)
  have e2 : lvG σ a k = bI (σ 0 (32 * a + k) < 0) := if_pos hk
  show (nI k < 0 ∨ 32 ≤ nI k ∨ ¬ lvG σ a (nI k).toNatClampNeg = 0) ↔ τ 0 (32 * a + k) < 0
  rw [e, e2, hF 0 (by decide)]
  constructor
  · intro q
    rcases q with q | q | q
    · exact absurd q (nI_pos (by omega))
    · exact absurd q (show ¬ (32 : Int32) ≤ nI k from nI_ge (b := 32) hk (by decide))
    · exact bI_n q
  · intro q
    exact .inr (.inr (by rw [bI_t q]; decide))
theorem lBase_v (hF : rFr σ τ) (hk : k < 32) : lBase (lvF σ a) (nI k) = rBase τ a k := by
  have e : (nI k).toNatClampNeg = k := nI_clamp (by omega)
  have e2 : lvF σ a k = if σ 0 (32 * a + k) < 0 then 0 else 16 * σ 0 (32 * a + k) := if_pos hk
  have e3 : ¬ (nI k < 0 ∨ 32 ≤ nI k) := fun q => q.elim (nI_pos (by omega)) (show ¬ (32 : Int32) ≤ nI k from nI_ge (b := 32) hk (by decide))
  show (if nI k < 0 ∨ 32 ≤ nI k then 0 else lvF σ a (nI k).toNatClampNeg) = if τ 0 (32 * a + k) < 0 then 0 else 16 * τ 0 (32 * a + k)
  rw [if_neg e3, e, e2, hF 0 (by decide)]
theorem lAbove_v (hF : rFr σ τ) (hk : k < 32) (hy : y = τ 33 0) : lAbove (lvG σ a) (lvF σ a) (nI k) y ↔ rWall τ a k := by
  have e : (nI k).toNatClampNeg = k := nI_clamp (by omega)
  have e1 : lvG σ a k = bI (σ 0 (32 * a + k) < 0) := if_pos hk
  have e2 : lvF σ a k = if σ 0 (32 * a + k) < 0 then 0 else 16 * σ 0 (32 * a + k) := if_pos hk
  show (¬ nI k < 0 ∧ ¬ 32 ≤ nI k ∧ lvG σ a (nI k).toNatClampNeg = 0 ∧ y < lvF σ a (nI k).toNatClampNeg) ↔ (¬ τ 0 (32 * a + k) < 0 ∧ τ 33 0 < 16 * τ 0 (32 * a + k))
  rw [e, e1, e2, hF 0 (by decide), hy]
  by_cases q : σ 0 (32 * a + k) < 0
  · constructor
    · intro z
      exact absurd z.2.2.1 (by rw [bI_t q]; decide)
    · intro z
      exact absurd q z.1
  · rw [bI_f q, if_neg q]
    exact ⟨fun z => ⟨q, z.2.2.2⟩, fun z => ⟨nI_pos (by omega), (show ¬ (32 : Int32) ≤ nI k from nI_ge (b := 32) hk (by decide)), rfl, z.2⟩⟩
theorem lItem_v (hF : rFr σ τ) (hk : k < 32) : lItem (lvI σ a) (nI k) x ↔ τ 1 (32 * a + k) = x := by
  have e : (nI k).toNatClampNeg = k := nI_clamp (by omega)
  have e2 : lvI σ a k = σ 1 (32 * a + k) := if_pos hk
  show (¬ nI k < 0 ∧ ¬ 32 ≤ nI k ∧ lvI σ a (nI k).toNatClampNeg = x) ↔ τ 1 (32 * a + k) = x
  rw [e, e2, hF 1 (by decide)]
  exact ⟨fun z => z.2.2, fun z => ⟨nI_pos (by omega), (show ¬ (32 : Int32) ≤ nI k from nI_ge (b := 32) hk (by decide)), z⟩⟩
theorem way_eq (b : Int32) : hWay b = rWay0 b := by
  obtain ⟨j, hj, e⟩ := pk_andE b (m := 3) 2 (by decide +kernel)
  have e1 : b &&& 1 = nI j &&& 1 := by rw [← e, Int32.and_assoc, show (3 &&& 1 : Int32) = 1 from by decide +kernel]
  have e2 : b &&& 2 = nI j &&& 2 := by rw [← e, Int32.and_assoc, show (3 &&& 2 : Int32) = 2 from by decide +kernel]
  have hj4 : j = 0 ∨ j = 1 ∨ j = 2 ∨ j = 3 := by omega
  unfold hWay hWay1 rWay0
  rw [e, e1, e2]
  rcases hj4 with rfl | rfl | rfl | rfl <;> decide +kernel
theorem dash_iff (hS : Sm h τ v) (hd : ¬ dn = 0 ↔ 0 < f &&& 8) : hDash h dn (hWay b) ↔ rDash τ b f := by
  show (¬ dn = 0 ∧ ¬ hWay b = 0 ∧ ¬ h 4 = 0) ↔ (0 < f &&& 8 ∧ ¬ rWay0 b = 0 ∧ ¬ τ 36 0 = 0)
  rw [hd, way_eq, hS.s4]
theorem Sm.way2 (hS : Sm h τ v) (hd : ¬ dn = 0 ↔ 0 < f &&& 8) : hWay2 h dn (hWay b) = rWay τ b f := by
  unfold hWay2 rWay
  by_cases q : rDash τ b f
  · rw [if_pos q, if_pos ((dash_iff hS hd).mpr q), way_eq]
  · rw [if_neg q, if_neg (fun z => q ((dash_iff hS hd).mp z)), way_eq]
theorem Sm.left (hS : Sm h τ v) : Sm (hLeft h w) (rWayM2 τ w) v := by
  unfold hLeft rWayM2
  by_cases q : w < 0
  · rw [if_neg (Int32.not_le.mpr q), bI_t q]
    exact hS.p9 (by rw [hS.s9])
  · rw [if_pos (Int32.not_lt.mp q), bI_f q, Int32.or_zero]
    exact hS.k9
theorem Sm.choose (hS : Sm h τ v) (hd : ¬ dn = 0 ↔ 0 < f &&& 8) : Sm (hChoose h b dn) (rWayS τ b f) v := by
  unfold hChoose rWayS
  rw [hS.way2 hd]
  refine Sm.left ?_
  unfold hChs rWayM
  by_cases q : rDash τ b f
  · rw [if_pos q, if_pos ((dash_iff hS hd).mpr q)]
    exact (hS.p4 rfl).p9 (show h 9 ||| 2 = τ 39 0 ||| 2 by rw [hS.s9])
  · rw [if_neg q, if_neg (fun z => q ((dash_iff hS hd).mp z))]
    exact hS
theorem Sm.jump (hS : Sm h τ v) : Sm (hJump h f) (rJump τ f) v := by
  have hi : (¬ f &&& 4 = 0 ∧ ¬ h 3 = 0) ↔ (0 < f &&& 4 ∧ ¬ τ 35 0 = 0) := by
    rw [hS.s3, i32_pos (i32_and (show (0 : Int32) ≤ 4 by decide))]
  unfold hJump rJump
  by_cases q : 0 < f &&& 4 ∧ ¬ τ 35 0 = 0
  · rw [if_pos q, if_pos (hi.mpr q)]
    exact ((hS.p2 rfl).p3 rfl).p8 (show h 8 + 1 = τ 38 0 + 1 by rw [hS.s8])
  · rw [if_neg q, if_neg (fun z => q (hi.mp z))]
    exact hS
theorem aim_eq (z : Int32) : jmax 0 (jmin 511 z) = rTo z := by
  unfold jmax jmin rTo
  by_cases h1 : z < 0
  · rw [if_pos h1, if_pos (Int32.lt_trans h1 (by decide)), if_neg (Int32.lt_asymm h1)]
  · rw [if_neg h1]
    by_cases h2 : 511 < z
    · rw [if_pos h2, if_neg (Int32.lt_asymm h2), if_pos (by decide)]
    · rw [if_neg h2]
      by_cases h3 : z < 511
      · rw [if_pos h3]
        by_cases h4 : 0 < z
        · rw [if_pos h4]
        · rw [if_neg h4]
          exact Int32.le_antisymm (Int32.not_lt.mp h1) (Int32.not_lt.mp h4)
      · rw [if_neg h3, if_pos (by decide)]
        exact Int32.le_antisymm (Int32.not_lt.mp h3) (Int32.not_lt.mp h2)
theorem jm_hi (h1 : ∃ k : Nat, k < 512 ∧ x = nI k) (h2 : ∃ k : Nat, k < 512 ∧ y = nI k) : jmax (x / 16) (y / 16) = nI (rHiN x y) ∧ jmin (x / 16) (y / 16) = nI (rLoN x y) := by
  obtain ⟨i, hi, rfl⟩ := h1
  obtain ⟨j, hj, rfl⟩ := h2
  have ei : nI i / 16 = nI (i / 16) := pk_div (d := 16) (by omega) (by decide) (by decide)
  have ej : nI j / 16 = nI (j / 16) := pk_div (d := 16) (by omega) (by decide) (by decide)
  have ci : cN (nI i) = i / 16 := by unfold cN; rw [ei]; exact nI_clamp (by omega)
  have cj : cN (nI j) = j / 16 := by unfold cN; rw [ej]; exact nI_clamp (by omega)
  unfold jmax jmin rHiN rLoN
  rw [ei, ej, ci, cj]
  by_cases q : i < j
  · rw [if_pos ((nI_ltI (by omega) (by omega)).mpr q), if_pos ((nI_ltI (by omega) (by omega)).mpr q)]
    by_cases q2 : i / 16 < j / 16
    · rw [if_pos ((nI_ltI (by omega) (by omega)).mpr q2), if_neg (fun z => absurd ((nI_ltI (by omega) (by omega)).mp z) (by omega))]
      exact ⟨rfl, rfl⟩
    · rw [if_neg (fun z => q2 ((nI_ltI (by omega) (by omega)).mp z)), if_neg (fun z => absurd ((nI_ltI (by omega) (by omega)).mp z) (by omega))]
      exact ⟨congrArg nI (by omega), congrArg nI (by omega)⟩
  · rw [if_neg (fun z => q ((nI_ltI (by omega) (by omega)).mp z)), if_neg (fun z => q ((nI_ltI (by omega) (by omega)).mp z))]
    by_cases q2 : j / 16 < i / 16
    · rw [if_pos ((nI_ltI (by omega) (by omega)).mpr q2), if_neg (fun z => absurd ((nI_ltI (by omega) (by omega)).mp z) (by omega))]
      exact ⟨rfl, rfl⟩
    · rw [if_neg (fun z => q2 ((nI_ltI (by omega) (by omega)).mp z)), if_neg (fun z => absurd ((nI_ltI (by omega) (by omega)).mp z) (by omega))]
      exact ⟨congrArg nI (by omega), congrArg nI (by omega)⟩

theorem Sm.c9 (hS : Sm h (st2 τ 32 0 w) v) (e : x = y) : Sm (st1 h 9 x) (st2 (st2 τ 39 0 y) 32 0 w) v := ⟨hS.s0, hS.s1, hS.s2, hS.s3, hS.s4, hS.s5, hS.s6, hS.s7, hS.s8, e, hS.s10, hS.s11⟩
theorem Sm.c9k (hS : Sm h (st2 τ 32 0 w) v) : Sm h (st2 (st2 τ 39 0 (τ 39 0)) 32 0 w) v := ⟨hS.s0, hS.s1, hS.s2, hS.s3, hS.s4, hS.s5, hS.s6, hS.s7, hS.s8, hS.s9, hS.s10, hS.s11⟩

theorem Sm.clip {w v : Int32} {a : Nat} {σ : Mem} : ∀ (n i : Nat) (h : Her) (τ : Mem), rFr σ τ → i + n ≤ 32 → Sm h (st2 τ 32 0 w) v → Sm (hClip (lvG σ a) (lvF σ a) n (nI i) h) (st2 (rClip a n i τ) 32 0 w) v
  | 0, _, _, _, _, _, hS => hS
  | n + 1, i, h, τ, hF, hn, hS => by
    show Sm (hClip (lvG σ a) (lvF σ a) n (nI i + 1) (if lAbove (lvG σ a) (lvF σ a) (nI i) (h 1) then st1 h 9 (h 9 ||| 4) else h)) (st2 (rClip a n (i + 1) (st2 τ 39 0 (τ 39 0 ||| if rWall τ a i then 4 else 0))) 32 0 w) v
    rw [nI_1]
    refine Sm.clip n (i + 1) _ _ (hF.st2 (by decide)) (by omega) ?_
    have e1 : h 1 = τ 33 0 := hS.s1
    have e9 : h 9 = τ 39 0 := hS.s9
    by_cases q : rWall τ a i
    · rw [if_pos q, if_pos ((lAbove_v hF (by omega) e1).mpr q)]
      exact hS.c9 (by rw [e9])
    · rw [if_neg q, if_neg (fun z => q ((lAbove_v hF (by omega) e1).mp z)), Int32.or_zero]
      exact hS.c9k
theorem Sm.go (hS : Sm h τ v) (hF : rFr σ τ) (hH : rHW τ) : Sm (hGo (lvG σ a) (lvF σ a) h w) (rGo τ a w) v := by
  have e0 : hAim h w = rTo (τ 32 0 + w) := by unfold hAim; rw [aim_eq, hS.s0]
  have hx := rTo_x (τ 32 0 + w)
  have hc := cN_x hx
  have hm := jm_hi hH.1 hx
  have hl := rHiN_lt hH.1 hx
  unfold hGo rGo
  rw [e0, hS.s0, hm.1, hm.2, hc.1]
  by_cases q : rWall τ a (cN (rTo (τ 32 0 + w)))
  · rw [if_pos q, if_pos ((lAbove_v hF hc.2 hS.s1).mpr q)]
    exact hS
  · rw [if_neg q, if_neg (fun z => q ((lAbove_v hF hc.2 hS.s1).mp z))]
    have e2 : ((nI (rHiN (τ 32 0) (rTo (τ 32 0 + w)))).toInt - (nI (rLoN (τ 32 0) (rTo (τ 32 0 + w))) + 1).toInt).toNat = rHiN (τ 32 0) (rTo (τ 32 0 + w)) - (rLoN (τ 32 0) (rTo (τ 32 0 + w)) + 1) := by
      rw [nI_1, nI_toInt (by omega), nI_toInt (by omega)]
      omega
    rw [e2, nI_1]
    exact Sm.clip _ _ _ _ hF (by omega) (hS.p0 rfl)
theorem Sm.f1 (hS : Sm h τ v) (hF : rFr σ τ) (hH : rHW τ) : Sm (hFall1 (lvG σ a) (lvF σ a) h) (rFall1 τ a) v := by
  have hc := cN_x hH.1
  have hi : (¬ h 3 = 0 ∧ (lGap (lvG σ a) (h 0 / 16) ∨ lBase (lvF σ a) (h 0 / 16) < h 1)) ↔ (¬ τ 35 0 = 0 ∧ (rGap τ a (cN (τ 32 0)) ∨ rGnd τ a (cN (τ 32 0)) < τ 33 0)) := by
    rw [hS.s0, hc.1, hS.s3, hS.s1, lBase_v hF hc.2, lGap_v hF hc.2]
    by_cases q : rGap τ a (cN (τ 32 0))
    · exact ⟨fun z => ⟨z.1, .inl q⟩, fun z => ⟨z.1, .inl q⟩⟩
    · rw [show rBase τ a (cN (τ 32 0)) = rGnd τ a (cN (τ 32 0)) from if_neg q]
  unfold hFall1 rFall1
  by_cases q : ¬ τ 35 0 = 0 ∧ (rGap τ a (cN (τ 32 0)) ∨ rGnd τ a (cN (τ 32 0)) < τ 33 0)
  · rw [if_pos q, if_pos (hi.mpr q)]
    exact (hS.p3 rfl).p2 rfl
  · rw [if_neg q, if_neg (fun z => q (hi.mp z))]
    exact hS
theorem sp_eq (z : Int32) : jmax (-14) (z - 2) = rSp z := by
  unfold jmax rSp
  by_cases h1 : z - 2 < -14
  · rw [if_pos h1, if_neg (Int32.lt_asymm h1)]
  · rw [if_neg h1]
    by_cases h2 : -14 < z - 2
    · rw [if_pos h2]
    · rw [if_neg h2]
      exact Int32.le_antisymm (Int32.not_lt.mp h1) (Int32.not_lt.mp h2)
theorem Sm.f2 (hS : Sm h τ v) : Sm (hFall2 h) (rFall2 τ) v := by
  have e : jmax (-14) (h 2 - 2) = rSp (τ 34 0) := by rw [sp_eq, hS.s2]
  unfold hFall2 rFall2
  exact (hS.p2 e).p1 (by rw [e, hS.s1])
theorem Sm.f3 (hS : Sm h τ v) (hF : rFr σ τ) (hc : c < 32) : Sm (hFall3 (lvG σ a) (lvF σ a) (nI c) h) (rFall3 τ a c) v := by
  have hi : (¬ lGap (lvG σ a) (nI c) ∧ h 2 ≤ 0 ∧ h 1 ≤ lBase (lvF σ a) (nI c)) ↔ (¬ rGap τ a c ∧ τ 34 0 ≤ 0 ∧ τ 33 0 ≤ rGnd τ a c) := by
    rw [lGap_v hF hc, hS.s2, hS.s1, lBase_v hF hc]
    by_cases q : rGap τ a c
    · exact ⟨fun z => absurd q z.1, fun z => absurd q z.1⟩
    · rw [show rBase τ a c = rGnd τ a c from if_neg q]
  unfold hFall3 rFall3
  by_cases q : ¬ rGap τ a c ∧ τ 34 0 ≤ 0 ∧ τ 33 0 ≤ rGnd τ a c
  · rw [if_pos q, if_pos (hi.mpr q)]
    have e : lBase (lvF σ a) (nI c) = rGnd τ a c := (lBase_v hF hc).trans (if_neg q.1)
    exact ⟨hS.s0, e, rfl, rfl, hS.s4, hS.s5, hS.s6, hS.s7, hS.s8, hS.s9, hS.s10, hS.s11⟩
  · rw [if_neg q, if_neg (fun z => q (hi.mp z))]
    exact hS
theorem Sm.fall (hS : Sm h τ v) (hF : rFr σ τ) (hH : rHW τ) : Sm (hCan (hFall (lvG σ a) (lvF σ a) h)) (rFall τ a) v := by
  have hc := cN_x hH.1
  have h1 : Sm (hFall1 (lvG σ a) (lvF σ a) h) (rFall1 τ a) v := hS.f1 hF hH
  have hF1 : rFr σ (rFall1 τ a) := by
    unfold rFall1
    split
    · exact (hF.st2 (by decide)).st2 (by decide)
    · exact hF
  have h4 : Sm (hFall (lvG σ a) (lvF σ a) h) (rFall4 (rFall1 τ a) a (cN (τ 32 0))) v := by
    unfold hFall rFall4
    by_cases q : rFall1 τ a 35 0 = 0
    · rw [if_pos q, if_pos (h1.s3.trans q), hS.s0, hc.1]
      exact h1.f2.f3 ((hF1.st2 (by decide)).st2 (by decide)) hc.2
    · rw [if_neg q, if_neg (fun z => q (h1.s3.symm.trans z))]
      exact h1
  have hW4 := rHW_f4 (a := a) (b := cN (τ 32 0)) (rHW_f1 (a := a) hH)
  show Sm (hCan (hFall (lvG σ a) (lvF σ a) h)) (st2 (rFall4 (rFall1 τ a) a (cN (τ 32 0))) 36 0 (rFall4 (rFall1 τ a) a (cN (τ 32 0)) 36 0 ||| rFall4 (rFall1 τ a) a (cN (τ 32 0)) 35 0)) v
  revert h4 hW4
  generalize rFall4 (rFall1 τ a) a (cN (τ 32 0)) = τ4
  generalize hFall (lvG σ a) (lvF σ a) h = h5
  intro h4 hW4
  unfold hCan
  by_cases q : τ4 35 0 = 0
  · rw [if_pos (h4.s3.trans q), q, Int32.or_zero]
    exact h4.k4
  · rw [if_neg (fun z => q (h4.s3.symm.trans z)), hW4.2.1.resolve_left q]
    exact h4.p4 (by rcases hW4.2.2 with e | e <;> rw [e] <;> decide)


theorem bit_tp : ∀ b, b < 32 → ((1 : Int32) <<< (nI b &&& 31)).toBitVec = BitVec.twoPow 32 b := by decide +kernel
theorem bit_sm : ∀ j, j < 32 → ((nI j &&& 31).toBitVec.smod 32).toNat = j := by decide +kernel
theorem bit_and (z : Int32) {j : Nat} (hj : j < 32) : z &&& (1 <<< (nI j &&& 31)) = 0 ↔ z.toBitVec.getLsbD j = false := by
  rw [← Int32.toBitVec_inj, Int32.toBitVec_and, bit_tp j hj, BitVec.and_twoPow]
  show (if z.toBitVec.getLsbD j = true then BitVec.twoPow 32 j else 0#32) = 0#32 ↔ _
  cases hz : z.toBitVec.getLsbD j
  · exact ⟨fun _ => rfl, fun _ => if_neg (by decide)⟩
  · refine ⟨fun q => ?_, fun q => absurd q (by decide)⟩
    rw [if_pos rfl] at q
    have q2 := congrArg (fun t => BitVec.getLsbD t j) q
    simp [BitVec.getLsbD_twoPow, hj] at q2
theorem bit_or (z : Int32) {j : Nat} (hj : j < 32) (hz : ¬ z &&& (1 <<< (nI j &&& 31)) = 0) : z ||| (1 <<< (nI j &&& 31)) = z := by
  have hz2 : z.toBitVec.getLsbD j = true := by
    cases h : z.toBitVec.getLsbD j
    · exact absurd ((bit_and z hj).mpr h) hz
    · rfl
  rw [← Int32.toBitVec_inj, Int32.toBitVec_or, bit_tp j hj]
  apply BitVec.eq_of_getLsbD_eq
  intro i hi
  rw [BitVec.getLsbD_or, BitVec.getLsbD_twoPow]
  by_cases e : j = i
  · subst e
    simp [hz2]
  · simp [e]
theorem shr_1 (z : Int32) {j : Nat} (hj : j < 32) : z >>> (nI j &&& 31) &&& 1 = if z.toBitVec.getLsbD j = true then 1 else 0 := by
  have key : (z >>> (nI j &&& 31)).toBitVec.getLsbD 0 = z.toBitVec.getLsbD j := by
    rw [Int32.toBitVec_shiftRight, BitVec.getLsbD_sshiftRight', bit_sm j hj]
    simp [hj]
  rw [← Int32.toBitVec_inj, Int32.toBitVec_and]
  show (z >>> (nI j &&& 31)).toBitVec &&& 1#32 = _
  rw [BitVec.and_one_eq_setWidth_ofBool_getLsbD, key]
  cases z.toBitVec.getLsbD j <;> rfl
theorem purse_or (z : Int32) {j : Nat} (hj : j < 32) (hz : z.toBitVec.getLsbD j = false) : ∀ k, k ≤ 32 → rPurse (z ||| (1 <<< (nI j &&& 31))) k = rPurse z k + if j < k then 1 else 0
  | 0, _ => by rw [if_neg (Nat.not_lt_zero _), Int32.add_zero]; rfl
  | k + 1, hk => by
    show rPurse (z ||| (1 <<< (nI j &&& 31))) k + ((z ||| (1 <<< (nI j &&& 31))) >>> (nI k &&& 31) &&& 1) = rPurse z k + (z >>> (nI k &&& 31) &&& 1) + if j < k + 1 then 1 else 0
    rw [purse_or z hj hz k (by omega), shr_1 _ (by omega), shr_1 _ (by omega), Int32.toBitVec_or, bit_tp j hj, BitVec.getLsbD_or, BitVec.getLsbD_twoPow]
    by_cases e : j = k
    · subst e
      rw [if_neg (Nat.lt_irrefl j), if_pos (Nat.lt_succ_self j), hz, Int32.add_zero]
      simp [hj]
    · have e2 : j < k + 1 ↔ j < k := by omega
      have e3 : (z.toBitVec.getLsbD k || (decide (j < 32) && decide (j = k))) = z.toBitVec.getLsbD k := by simp [e]
      rw [e3]
      by_cases q : j < k
      · rw [if_pos q, if_pos (e2.mpr q), Int32.add_assoc, Int32.add_comm 1, ← Int32.add_assoc]
      · rw [if_neg q, if_neg (fun t => q (e2.mp t)), Int32.add_zero, Int32.add_zero]
theorem Sm.coin (hS : Sm h τ v) (hF : rFr σ τ) (hH : rHW τ) : Sm (hCoin (lvF σ a) (lvI σ a) h) (rMeet1 τ a (cN (τ 32 0))) v := by
  have hc := cN_x hH.1
  have hi : (lItem (lvI σ a) (nI (cN (τ 32 0))) 1 ∧ h 1 - lBase (lvF σ a) (nI (cN (τ 32 0))) ≤ 24) ↔ (τ 1 (32 * a + cN (τ 32 0)) = 1 ∧ τ 33 0 - rBase τ a (cN (τ 32 0)) ≤ 24) := by
    rw [lItem_v hF hc.2, lBase_v hF hc.2, hS.s1]
  unfold hCoin rMeet1
  rw [hS.s0, hc.1, hS.s6]
  by_cases q : τ 1 (32 * a + cN (τ 32 0)) = 1 ∧ τ 33 0 - rBase τ a (cN (τ 32 0)) ≤ 24
  · rw [if_pos q]
    by_cases t : τ 37 0 &&& (1 <<< (nI (cN (τ 32 0)) &&& 31)) = 0
    · rw [if_pos ⟨t, (hi.mpr q).1, (hi.mpr q).2⟩]
      have e : h 7 + (1 : Int32) = rPurse (τ 37 0 ||| ((1 : Int32) <<< (nI (cN (τ 32 0)) &&& 31))) 32 := by
        rw [purse_or _ hc.2 ((bit_and _ hc.2).mp t) 32 (Nat.le_refl _), if_pos hc.2, hS.s7]
      exact ⟨hS.s0, hS.s1, hS.s2, hS.s3, hS.s4, hS.s5, rfl, e, hS.s8, hS.s9, hS.s10, hS.s11⟩
    · rw [if_neg (fun z => t z.1), bit_or _ hc.2 t]
      exact hS.k6
  · rw [if_neg q, if_neg (fun z => q (hi.mp z.2))]
    exact hS
theorem Sm.fin (hS : Sm h τ v) (hH : rHW τ) (hc : c = cN (τ 32 0)) (h0 : h 11 = 0) (hI : ∀ y, lItem (lvI σ a) (nI c) y ↔ x = y) : Sm (hFin (lvI σ a) (st1 h 10 (h 10 + 1))) (st2 (st2 τ 41 0 (rFate τ c x)) 40 0 (st2 τ 41 0 (rFate τ c x) 40 0 + 1)) v := by
  have hx := cN_x hH.1
  rw [← hc] at hx
  have e10 : h 10 + 1 = τ 40 0 + 1 := by rw [hS.s10]
  have e0 : st1 h 10 (h 10 + 1) 0 / 16 = nI c := (congrArg (fun z => z / 16) hS.s0).trans hx.1
  have hi : (st1 h 10 (h 10 + 1) 1 < -32 ∨ (¬ st1 h 10 (h 10 + 1) 3 = 0 ∧ lItem (lvI σ a) (st1 h 10 (h 10 + 1) 0 / 16) 2)) ↔ (τ 33 0 < -32 ∨ (¬ τ 35 0 = 0 ∧ x = 2)) := by
    rw [e0, hI]
    show (h 1 < -32 ∨ (¬ h 3 = 0 ∧ x = 2)) ↔ _
    rw [hS.s1, hS.s3]
  unfold hFin rFate
  by_cases q : τ 33 0 < -32 ∨ (¬ τ 35 0 = 0 ∧ x = 2)
  · rw [if_pos q, if_pos (hi.mpr q)]
    exact ⟨hS.s0, hS.s1, hS.s2, hS.s3, hS.s4, hS.s5, hS.s6, hS.s7, hS.s8, hS.s9, e10, rfl⟩
  · rw [if_neg q, if_neg (fun z => q (hi.mp z)), e0]
    by_cases q2 : nI c = 31
    · rw [if_pos q2, if_pos q2]
      exact ⟨hS.s0, hS.s1, hS.s2, hS.s3, hS.s4, hS.s5, hS.s6, hS.s7, hS.s8, hS.s9, e10, rfl⟩
    · rw [if_neg q2, if_neg q2]
      exact ⟨hS.s0, hS.s1, hS.s2, hS.s3, hS.s4, hS.s5, hS.s6, hS.s7, hS.s8, hS.s9, e10, h0⟩


theorem r4_way {τ : Mem} {b f : Int32} : rWayS τ b f 40 0 = τ 40 0 ∧ rWayS τ b f 41 0 = τ 41 0 := by
  unfold rWayS rWayM2 rWayM
  split <;> exact ⟨rfl, rfl⟩
theorem r4_jump {τ : Mem} {f : Int32} : rJump τ f 40 0 = τ 40 0 ∧ rJump τ f 41 0 = τ 41 0 := by
  unfold rJump
  split <;> exact ⟨rfl, rfl⟩
theorem r4_clip {a : Nat} : ∀ {n i : Nat} {τ : Mem}, rClip a n i τ 40 0 = τ 40 0 ∧ rClip a n i τ 41 0 = τ 41 0
  | 0, _, _ => ⟨rfl, rfl⟩
  | n + 1, i, τ => ⟨(r4_clip (n := n) (i := i + 1)).1.trans rfl, (r4_clip (n := n) (i := i + 1)).2.trans rfl⟩
theorem r4_go {τ : Mem} {a : Nat} {w : Int32} : rGo τ a w 40 0 = τ 40 0 ∧ rGo τ a w 41 0 = τ 41 0 := by
  unfold rGo
  split
  · exact ⟨rfl, rfl⟩
  · exact ⟨r4_clip.1, r4_clip.2⟩
theorem r4_fall {τ : Mem} {a : Nat} : rFall τ a 40 0 = τ 40 0 ∧ rFall τ a 41 0 = τ 41 0 := by
  unfold rFall rFall4 rFall3 rFall2 rFall1
  split <;> split <;> (try split) <;> exact ⟨rfl, rfl⟩
theorem r4_meet1 {τ : Mem} {a c : Nat} : rMeet1 τ a c 40 0 = τ 40 0 ∧ rMeet1 τ a c 41 0 = τ 41 0 ∧ rMeet1 τ a c 32 0 = τ 32 0 := by
  unfold rMeet1
  split <;> exact ⟨rfl, rfl, rfl⟩
theorem rTick_40 {τ : Mem} {a : Nat} {b f : Int32} : rTick τ a b f 40 0 = τ 40 0 + 1 := by
  show rMeet1 (rFall (rGo (rJump (rWayS τ b (rNew b f)) (rNew b f)) a (rWay τ b (rNew b f))) a) a _ 40 0 + 1 = τ 40 0 + 1
  rw [r4_meet1.1, r4_fall.1, r4_go.1, r4_jump.1, r4_way.1]
theorem Sm.tick (hS : Sm h τ v) (hF : rFr σ τ) (hH : rHW τ) (h0 : h 11 = 0) : Sm (hTick (lvG σ a) (lvF σ a) (lvI σ a) h b) (rTick τ a b v) b := by
  have e5 : hNew h b = rNew b v := by unfold hNew rNew; rw [hS.s5]
  have hd : ¬ hDn h b = 0 ↔ 0 < rNew b v &&& 8 := by
    unfold hDn
    rw [e5, ← i32_pos (i32_and (show (0 : Int32) ≤ 8 by decide))]
    exact ⟨fun q => bI_n q, fun q => by rw [bI_t q]; decide⟩
  have s1 : Sm (st1 h 5 b) τ b := hS.p5 b
  have ew : hWay2 (st1 h 5 b) (hDn h b) (hWay b) = rWay τ b (rNew b v) := s1.way2 hd
  have s3 : Sm (hJump (hChoose (st1 h 5 b) b (hDn h b)) (rNew b v)) (rJump (rWayS τ b (rNew b v)) (rNew b v)) b := (s1.choose hd).jump
  have f3 : rFr σ (rJump (rWayS τ b (rNew b v)) (rNew b v)) := rFr_jump (rFr_way hF)
  have g3 : rHW (rJump (rWayS τ b (rNew b v)) (rNew b v)) := rHW_jump (rHW_way hH)
  have s4 := s3.go (a := a) (w := rWay τ b (rNew b v)) f3 g3
  have s5 := s4.fall (a := a) (rFr_go f3) (rHW_go g3)
  have f5 := rFr_fall (a := a) (rFr_go (a := a) (w := rWay τ b (rNew b v)) f3)
  have g5 := rHW_fall (a := a) (rHW_go (a := a) (w := rWay τ b (rNew b v)) g3)
  have s6 := s5.coin (a := a) f5 g5
  have g6 : rHW (rMeet1 (rFall (rGo (rJump (rWayS τ b (rNew b v)) (rNew b v)) a (rWay τ b (rNew b v))) a) a (cN (rFall (rGo (rJump (rWayS τ b (rNew b v)) (rNew b v)) a (rWay τ b (rNew b v))) a 32 0))) := by
    unfold rMeet1
    split
    · exact rHW_st2 g5 (by decide) (by decide) (by decide)
    · exact g5
  have z6 := s6.s11
  rw [r4_meet1.2.1, r4_fall.2, r4_go.2, r4_jump.2, r4_way.2, ← hS.s11, h0] at z6
  have s7 := s6.fin (σ := σ) (a := a) g6 (congrArg cN r4_meet1.2.2.symm) z6 (x := rFall (rGo (rJump (rWayS τ b (rNew b v)) (rNew b v)) a (rWay τ b (rNew b v))) a 1 (32 * a + cN (rFall (rGo (rJump (rWayS τ b (rNew b v)) (rNew b v)) a (rWay τ b (rNew b v))) a 32 0))) (fun y => lItem_v f5 (cN_x g5.1).2)
  have e : hTick (lvG σ a) (lvF σ a) (lvI σ a) h b = hFin (lvI σ a) (st1 (hCoin (lvF σ a) (lvI σ a) (hCan (hFall (lvG σ a) (lvF σ a) (hGo (lvG σ a) (lvF σ a) (hJump (hChoose (st1 h 5 b) b (hDn h b)) (rNew b v)) (rWay τ b (rNew b v)))))) 10 (hCoin (lvF σ a) (lvI σ a) (hCan (hFall (lvG σ a) (lvF σ a) (hGo (lvG σ a) (lvF σ a) (hJump (hChoose (st1 h 5 b) b (hDn h b)) (rNew b v)) (rWay τ b (rNew b v))))) 10 + 1)) := by
    rw [← ew, ← e5]
    rfl
  rw [e]
  exact s7


theorem Sm.run {σ : Mem} {a T : Nat} {key : Int32} (hT : T ≤ 500) : ∀ (n m t : Nat) (h : Her) (x : Mem × Int32), Sm h x.1 x.2 → rFr σ x.1 → rHW x.1 → x.1 40 0 = nI t → t ≤ T → m = min n (T - t) →
    Sm (hRun (lvG σ a) (lvF σ a) (lvI σ a) key m h) (rIn1 a key (nI T) n x).1 (rIn1 a key (nI T) n x).2 ∧ ∃ t' : Nat, (rIn1 a key (nI T) n x).1 40 0 = nI t' ∧ t' ≤ T ∧ t' ≤ t + n
  | 0, m, t, h, x, hS, _, _, ht, hl, hm => by
    rw [show m = 0 by omega]
    exact ⟨hS, t, ht, hl, by omega⟩
  | n + 1, m, t, h, x, hS, hF, hH, ht, hl, hm => by
    by_cases h0 : x.1 41 0 = 0
    · rcases Nat.lt_or_ge t T with h1 | h1
      · have e : rIn1 a key (nI T) (n + 1) x = rIn1 a key (nI T) n (rTick x.1 a key x.2, key) := if_pos ⟨by rw [ht]; exact (nI_ltI (by omega) (by omega)).mpr h1, h0⟩
        obtain ⟨m', rfl⟩ : ∃ m', m = m' + 1 := ⟨m - 1, by omega⟩
        have e2 : hRun (lvG σ a) (lvF σ a) (lvI σ a) key (m' + 1) h = hRun (lvG σ a) (lvF σ a) (lvI σ a) key m' (hTick (lvG σ a) (lvF σ a) (lvI σ a) h key) := if_neg (fun z => z (hS.s11.trans h0))
        rw [e, e2]
        obtain ⟨r1, t', r2, r3, r4⟩ := Sm.run hT n m' (t + 1) (hTick (lvG σ a) (lvF σ a) (lvI σ a) h key) (rTick x.1 a key x.2, key) (hS.tick hF hH (hS.s11.trans h0)) (rFr_tick hF) (rHW_tick hH) (rTick_40.trans (by rw [ht, nI_1])) h1 (by omega)
        exact ⟨r1, t', r2, r3, by omega⟩
      · have e : rIn1 a key (nI T) (n + 1) x = x := if_neg (fun z => absurd ((nI_ltI (a := t) (b := T) (by omega) (by omega)).mp (by rw [← ht]; exact z.1)) (by omega))
        rw [e, show m = 0 by omega]
        exact ⟨hS, t, ht, hl, by omega⟩
    · have e : rIn1 a key (nI T) (n + 1) x = x := if_neg (fun z => h0 z.2)
      rw [e, hRun_o (fun z => h0 (hS.s11.symm.trans z))]
      exact ⟨hS, t, ht, hl, by omega⟩
theorem jmin_nI {i j : Nat} (hi : i < 2 ^ 31) (hj : j < 2 ^ 31) : iN (jmin (nI i) (nI j)) = min i j := by
  unfold jmin
  by_cases q : j < i
  · rw [if_pos ((nI_ltI hj hi).mpr q)]
    show (nI j).toNatClampNeg = _
    rw [nI_clamp hj]
    omega
  · rw [if_neg (fun z => q ((nI_ltI hj hi).mp z))]
    show (nI i).toNatClampNeg = _
    rw [nI_clamp hi]
    omega
theorem Sm.start (h : Her) : Sm (hStart (lvF σ a) h) (rStart σ a) 0 := by
  have e : lBase (lvF σ a) 0 = if rGap σ a 0 then 0 else rGnd σ a 0 := (lBase_v (k := 0) rFr.rf (by decide)).trans rfl
  exact ⟨rfl, e, rfl, rfl, rfl, rfl, rfl, by show (0 : Int32) = rPurse 0 32; decide +kernel, rfl, rfl, rfl, rfl⟩
theorem Sm.agn {σ : Mem} {r T : Nat} (hT : T ≤ 500) (h8 : ∀ j, isN (σ 8 j) 101) (h : Her) : ∀ p, p ≤ iN (σ 4 r) → iN (σ 4 r) ≤ 20 →
    Sm (hAgn (lvG σ (iN (σ 3 r))) (lvF σ (iN (σ 3 r))) (lvI σ (iN (σ 3 r))) (rpB σ r) (rpT σ r) (nI T) h p) (rOut σ r (nI T) p).1 (rOut σ r (nI T) p).2 ∧ ∃ t : Nat, (rOut σ r (nI T) p).1 40 0 = nI t ∧ t ≤ T ∧ t ≤ rLen σ r p
  | 0, _, _ => ⟨Sm.start h, 0, rfl, by omega, Nat.le_refl _⟩
  | p + 1, hp, hq => by
    obtain ⟨s1, t, s2, s3, s4⟩ := Sm.agn hT h8 h p (by omega) hq
    have eb : rpB σ r p = σ 7 (20 * r + p) := if_pos hp
    have et : rpT σ r p = σ 8 (20 * r + p) := if_pos hp
    have h8p := h8 (20 * r + p)
    have em : iN (jmin (rpT σ r p) (nI T - hAgn (lvG σ (iN (σ 3 r))) (lvF σ (iN (σ 3 r))) (lvI σ (iN (σ 3 r))) (rpB σ r) (rpT σ r) (nI T) h p 10)) = min (iN (σ 8 (20 * r + p))) (T - t) := by
      rw [s1.s10, s2, pk_sub s3, et.trans h8p.1, jmin_nI (by have := h8p.2; omega) (by omega)]
    obtain ⟨r1, t', r2, r3, r4⟩ := Sm.run (a := iN (σ 3 r)) (key := σ 7 (20 * r + p)) hT (iN (σ 8 (20 * r + p))) _ t _ (rOut σ r (nI T) p) s1 rOut_k.1 rOut_k.2 s2 s3 em
    refine ⟨?_, t', r2, r3, ?_⟩
    · show Sm (hRun (lvG σ (iN (σ 3 r))) (lvF σ (iN (σ 3 r))) (lvI σ (iN (σ 3 r))) (rpB σ r p) (iN (jmin (rpT σ r p) (nI T - hAgn (lvG σ (iN (σ 3 r))) (lvF σ (iN (σ 3 r))) (lvI σ (iN (σ 3 r))) (rpB σ r) (rpT σ r) (nI T) h p 10))) (hAgn (lvG σ (iN (σ 3 r))) (lvF σ (iN (σ 3 r))) (lvI σ (iN (σ 3 r))) (rpB σ r) (rpT σ r) (nI T) h p)) _ _
      rw [eb]
      exact r1
    · show t' ≤ rLen σ r p + iN (σ 8 (20 * r + p))
      omega
theorem hfs_eq {h h' : Her} (e : ∀ j, j < 12 → h j = h' j) : hfs h = hfs h' := by
  unfold hfs
  rw [e 0 (by decide), e 1 (by decide), e 2 (by decide), e 3 (by decide), e 4 (by decide), e 5 (by decide), e 6 (by decide), e 7 (by decide), e 8 (by decide), e 9 (by decide), e 10 (by decide), e 11 (by decide)]
theorem Sm.eq {x : Mem × Int32} (hS : Sm h x.1 x.2) : ∀ j, j < 12 → h j = hOf x j := by
  intro j hj
  match j, hj with

  | 0, _ => exact hS.s0
  | 1, _ => exact hS.s1
  | 2, _ => exact hS.s2
  | 3, _ => exact hS.s3
  | 4, _ => exact hS.s4
  | 5, _ => exact hS.s5
  | 6, _ => exact hS.s6
  | 7, _ => exact hS.s7
  | 8, _ => exact hS.s8
  | 9, _ => exact hS.s9
  | 10, _ => exact hS.s10
  | 11, _ => exact hS.s11
  | j + 12, h => exact absurd h (by omega)
theorem hOf_eq {x y : Mem × Int32} (e : ∀ j, j < 12 → hOf x j = hOf y j) : hOf x = hOf y := by
  funext j
  rcases Nat.lt_or_ge j 12 with h | h
  · exact e j h
  · obtain ⟨i, rfl⟩ : ∃ i, j = i + 12 := ⟨j - 12, by omega⟩
    exact e 11 (by decide)
/-- a replay's hero depends on its level and on its pieces alone -/
theorem rOut_hOf {σ τ : Mem} {r p T : Nat} (hT : T ≤ 500) (h8 : ∀ j, isN (σ 8 j) 101) (k8 : ∀ j, isN (τ 8 j) 101) (h3 : σ 3 r = τ 3 r) (hG : lvG σ (iN (σ 3 r)) = lvG τ (iN (σ 3 r))) (hFl : lvF σ (iN (σ 3 r)) = lvF τ (iN (σ 3 r))) (hI : lvI σ (iN (σ 3 r)) = lvI τ (iN (σ 3 r)))
    (hp : p ≤ iN (σ 4 r)) (kp : p ≤ iN (τ 4 r)) (hq : iN (σ 4 r) ≤ 20) (kq : iN (τ 4 r) ≤ 20) (h7 : ∀ i, i < p → σ 7 (20 * r + i) = τ 7 (20 * r + i) ∧ σ 8 (20 * r + i) = τ 8 (20 * r + i)) : hOf (rOut σ r (nI T) p) = hOf (rOut τ r (nI T) p) := by
  have a1 := (Sm.agn hT h8 (fun _ => 0) p hp hq).1.eq
  have a2 := (Sm.agn hT k8 (fun _ => 0) p kp kq).1.eq
  have e : ∀ i, i ≤ p → hAgn (lvG σ (iN (σ 3 r))) (lvF σ (iN (σ 3 r))) (lvI σ (iN (σ 3 r))) (rpB σ r) (rpT σ r) (nI T) (fun _ => 0) i = hAgn (lvG τ (iN (τ 3 r))) (lvF τ (iN (τ 3 r))) (lvI τ (iN (τ 3 r))) (rpB τ r) (rpT τ r) (nI T) (fun _ => 0) i := by
    intro i hi
    induction i with
    | zero =>
      show hStart _ _ = hStart _ _
      rw [← h3, hFl]
    | succ i ih =>
      have b1 : rpB σ r i = σ 7 (20 * r + i) := if_pos (by omega)
      have b2 : rpB τ r i = τ 7 (20 * r + i) := if_pos (by omega)
      have b3 : rpT σ r i = σ 8 (20 * r + i) := if_pos (by omega)
      have b4 : rpT τ r i = τ 8 (20 * r + i) := if_pos (by omega)
      show hRun _ _ _ (rpB σ r i) (iN (jmin (rpT σ r i) (_ - hAgn _ _ _ _ _ _ _ i 10))) (hAgn _ _ _ _ _ _ _ i) = hRun _ _ _ (rpB τ r i) (iN (jmin (rpT τ r i) (_ - hAgn _ _ _ _ _ _ _ i 10))) (hAgn _ _ _ _ _ _ _ i)
      rw [ih (by omega), b1, b2, b3, b4, (h7 i (by omega)).1, (h7 i (by omega)).2, ← h3, hG, hFl, hI]
  refine hOf_eq fun j hj => ?_
  rw [← a1 j hj, ← a2 j hj, e p (Nat.le_refl _)]
theorem WX.p20 {σ : Mem} (hW : WX σ) (k : Nat) : iN (σ 4 k) ≤ 20 := by have := (hW.1.2.2.2.2.2.2.1 k).2; omega
theorem WX.i8 {σ : Mem} (hW : WX σ) : ∀ j, isN (σ 8 j) 101 := hW.1.2.2.2.2.2.2.2.1
/-- a hero that ran all of a replay is the replay's -/
theorem agn_R {σ : Mem} {r : Nat} (hW : WX σ) (h : Her) : hfs (hAgn (lvG σ (iN (σ 3 r))) (lvF σ (iN (σ 3 r))) (lvI σ (iN (σ 3 r))) (rpB σ r) (rpT σ r) 500 h (iN (σ 4 r))) = hfs (heroR σ r) :=
  hfs_eq (Sm.agn (T := 500) (Nat.le_refl _) hW.i8 h _ (Nat.le_refl _) (hW.p20 r)).1.eq
theorem agn_T {σ : Mem} {r T : Nat} (hW : WX σ) (hT : T ≤ 500) (h : Her) : hfs (hAgn (lvG σ (iN (σ 3 r))) (lvF σ (iN (σ 3 r))) (lvI σ (iN (σ 3 r))) (rpB σ r) (rpT σ r) (nI T) h (iN (σ 4 r))) = hfs (hOf (rOut σ r (nI T) (iN (σ 4 r)))) :=
  hfs_eq (Sm.agn hT hW.i8 h _ (Nat.le_refl _) (hW.p20 r)).1.eq
/-- the ticks of a replay's hero -/
theorem heroR_10 {σ : Mem} {r : Nat} (hW : WX σ) : ∃ t : Nat, heroR σ r 10 = nI t ∧ t ≤ 500 ∧ t ≤ rLen σ r (iN (σ 4 r)) :=
  (Sm.agn (T := 500) (Nat.le_refl _) hW.i8 (fun _ => 0) _ (Nat.le_refl _) (hW.p20 r)).2
/-- where only the hero's memory differs, the heroes of the replays are the same -/
theorem heroR_fr {σ τ : Mem} {r : Nat} (hW : WX σ) (hF : rFr σ τ) : heroR σ r = heroR τ r := by
  have e4 : τ 4 = σ 4 := hF 4 (by decide)
  unfold heroR
  rw [e4]
  exact rOut_hOf (T := 500) (Nat.le_refl _) hW.i8 (by rw [hF 8 (by decide)]; exact hW.i8) (by rw [hF 3 (by decide)])
    (by unfold lvG; rw [hF 0 (by decide)]) (by unfold lvF; rw [hF 0 (by decide)]) (by unfold lvI; rw [hF 1 (by decide)]) (Nat.le_refl _) (by rw [e4]; exact Nat.le_refl _) (hW.p20 r) (by rw [e4]; exact hW.p20 r)
    (fun i _ => ⟨by rw [hF 7 (by decide)], by rw [hF 8 (by decide)]⟩)
end SIM
