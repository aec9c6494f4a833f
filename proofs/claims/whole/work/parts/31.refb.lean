
/-! the hero of the reference -/
/-- the place is one of the 512, the two flags are 0 or 1 -/
def rHW (σ : Mem) : Prop := (∃ x : Nat, x < 512 ∧ σ 32 0 = nI x) ∧ (σ 35 0 = 0 ∨ σ 35 0 = 1) ∧ (σ 36 0 = 0 ∨ σ 36 0 = 1)
def cN (x : Int32) : Nat := (x / 16).toNatClampNeg
theorem cN_x {x : Int32} (h : ∃ k : Nat, k < 512 ∧ x = nI k) : x / 16 = nI (cN x) ∧ cN x < 32 := by
  obtain ⟨k, hk, rfl⟩ := h
  have e : nI k / 16 = nI (k / 16) := pk_div (d := 16) (by omega) (by decide) (by decide)
  unfold cN
  rw [e, nI_clamp (by omega)]
  exact ⟨rfl, by omega⟩
def rStart (σ : Mem) (a : Nat) : Mem := st2 (st2 (st2 (st2 (st2 (st2 (st2 (st2 (st2 (st2 σ 32 0 8) 33 0 (if rGap σ a 0 then 0 else rGnd σ a 0)) 34 0 0) 35 0 1) 36 0 1) 37 0 0) 38 0 0) 39 0 0) 40 0 0) 41 0 0
def rWay0 (b : Int32) : Int32 := if b &&& 3 = 2 then 4 else if b &&& 3 = 1 then -4 else 0
abbrev rDash (σ : Mem) (b f : Int32) : Prop := 0 < f &&& 8 ∧ ¬ rWay0 b = 0 ∧ ¬ σ 36 0 = 0
def rWay (σ : Mem) (b f : Int32) : Int32 := if rDash σ b f then rWay0 b * 5 else rWay0 b
def rWayM (σ : Mem) (b f : Int32) : Mem := if rDash σ b f then st2 (st2 σ 36 0 0) 39 0 (σ 39 0 ||| 2) else σ
def rWayM2 (σ : Mem) (w : Int32) : Mem := st2 σ 39 0 (σ 39 0 ||| bI (w < 0))
def rTo (x : Int32) : Int32 := if x < 0 then 0 else if 511 < x then 511 else x
def rClip (a : Nat) : Nat → Nat → Mem → Mem
  | 0, _, σ => σ
  | n + 1, i, σ => rClip a n (i + 1) (st2 σ 39 0 (σ 39 0 ||| if rWall σ a i then 4 else 0))
def rLoN (x y : Int32) : Nat := if x < y then cN x else cN y
def rHiN (x y : Int32) : Nat := if x < y then cN y else cN x
def rGo (σ : Mem) (a : Nat) (w : Int32) : Mem := if rWall σ a (cN (rTo (σ 32 0 + w))) then σ else
  st2 (rClip a (rHiN (σ 32 0) (rTo (σ 32 0 + w)) - (rLoN (σ 32 0) (rTo (σ 32 0 + w)) + 1)) (rLoN (σ 32 0) (rTo (σ 32 0 + w)) + 1) σ) 32 0 (rTo (σ 32 0 + w))
def rFall1 (σ : Mem) (a : Nat) : Mem := if ¬ σ 35 0 = 0 ∧ (rGap σ a (cN (σ 32 0)) ∨ rGnd σ a (cN (σ 32 0)) < σ 33 0) then st2 (st2 σ 35 0 0) 34 0 0 else σ
def rSp (v : Int32) : Int32 := if v - 2 < -14 then -14 else v - 2
def rFall2 (σ : Mem) : Mem := st2 (st2 σ 34 0 (rSp (σ 34 0))) 33 0 (σ 33 0 + rSp (σ 34 0))
def rFall3 (σ : Mem) (a b : Nat) : Mem := if ¬ rGap σ a b ∧ σ 34 0 ≤ 0 ∧ σ 33 0 ≤ rGnd σ a b then st2 (st2 (st2 σ 35 0 1) 33 0 (rGnd σ a b)) 34 0 0 else σ
def rFall4 (σ : Mem) (a b : Nat) : Mem := if σ 35 0 = 0 then rFall3 (rFall2 σ) a b else σ
def rFall (σ : Mem) (a : Nat) : Mem :=
  let τ := rFall4 (rFall1 σ a) a (cN (σ 32 0))
  st2 τ 36 0 (τ 36 0 ||| τ 35 0)
def rBase (σ : Mem) (a b : Nat) : Int32 := if rGap σ a b then 0 else rGnd σ a b
def rMeet1 (σ : Mem) (a b : Nat) : Mem := if σ 1 (32 * a + b) = 1 ∧ σ 33 0 - rBase σ a b ≤ 24 then st2 σ 37 0 (σ 37 0 ||| (1 <<< (nI b &&& 31))) else σ
def rFate (σ : Mem) (b : Nat) (x : Int32) : Int32 := if σ 33 0 < -32 ∨ (¬ σ 35 0 = 0 ∧ x = 2) then 2 else if nI b = 31 then 1 else 0
def rMeet (σ : Mem) (a : Nat) : Mem :=
  let τ := rMeet1 σ a (cN (σ 32 0))
  st2 τ 41 0 (rFate τ (cN (σ 32 0)) (σ 1 (32 * a + cN (σ 32 0))))
def rNew (b f : Int32) : Int32 := b &&& (f ^^^ (-1))
def rJump (σ : Mem) (f : Int32) : Mem := if 0 < f &&& 4 ∧ ¬ σ 35 0 = 0 then st2 (st2 (st2 σ 34 0 14) 35 0 0) 38 0 (σ 38 0 + 1) else σ
def rWayS (σ : Mem) (b f : Int32) : Mem := rWayM2 (rWayM σ b f) (rWay σ b f)
def rTick (σ : Mem) (a : Nat) (b f : Int32) : Mem :=
  let τ := rMeet (rFall (rGo (rJump (rWayS σ b (rNew b f)) (rNew b f)) a (rWay σ b (rNew b f))) a) a
  st2 τ 40 0 (τ 40 0 + 1)

theorem rTo_x (x : Int32) : ∃ k : Nat, k < 512 ∧ rTo x = nI k := by
  unfold rTo
  by_cases h : x < 0
  · exact ⟨0, by omega, by rw [if_pos h]; rfl⟩
  · rw [if_neg h]
    by_cases h2 : 511 < x
    · exact ⟨511, by omega, by rw [if_pos h2]; rfl⟩
    · rw [if_neg h2]
      obtain ⟨j, hj, rfl⟩ := nI_of h
      refine ⟨j, ?_, rfl⟩
      rcases Nat.lt_or_ge j 512 with h3 | h3
      · exact h3
      · exact absurd (nI_lt (a := 511) (b := j) h3 hj) h2
theorem rHW_st2 {σ : Mem} {k : Nat} {v : Int32} (h : rHW σ) (h1 : ¬ k = 32) (h2 : ¬ k = 35) (h3 : ¬ k = 36) : rHW (st2 σ k 0 v) := by
  unfold rHW
  simp only [st2_a]
  rw [show (32 == k) = false by simp; omega, show (35 == k) = false by simp; omega, show (36 == k) = false by simp; omega]
  exact h
theorem rHW_35 {σ : Mem} {v : Int32} (h : rHW σ) (hv : v = 0 ∨ v = 1) : rHW (st2 σ 35 0 v) := ⟨h.1, hv, h.2.2⟩
theorem rHW_36 {σ : Mem} {v : Int32} (h : rHW σ) (hv : v = 0 ∨ v = 1) : rHW (st2 σ 36 0 v) := ⟨h.1, h.2.1, hv⟩
theorem rHW_32 {σ : Mem} {v : Int32} (h : rHW σ) (hv : ∃ x : Nat, x < 512 ∧ v = nI x) : rHW (st2 σ 32 0 v) := ⟨hv, h.2.1, h.2.2⟩
theorem rHW_start (σ : Mem) (a : Nat) : rHW (rStart σ a) := ⟨⟨8, by omega, rfl⟩, Or.inr rfl, Or.inr rfl⟩
theorem rHW_way {σ : Mem} {b f : Int32} (h : rHW σ) : rHW (rWayS σ b f) := by
  unfold rWayS rWayM2 rWayM
  split
  · exact rHW_st2 (rHW_st2 (rHW_36 h (Or.inl rfl)) (by decide) (by decide) (by decide)) (by decide) (by decide) (by decide)
  · exact rHW_st2 h (by decide) (by decide) (by decide)
theorem rHW_jump {σ : Mem} {f : Int32} (h : rHW σ) : rHW (rJump σ f) := by
  unfold rJump
  split
  · exact rHW_st2 (rHW_35 (rHW_st2 h (by decide) (by decide) (by decide)) (Or.inl rfl)) (by decide) (by decide) (by decide)
  · exact h
theorem rHW_clip {a : Nat} : ∀ {n i : Nat} {σ : Mem}, rHW σ → rHW (rClip a n i σ)
  | 0, _, _, h => h
  | n + 1, i, σ, h => rHW_clip (n := n) (i := i + 1) (rHW_st2 (k := 39) h (by decide) (by decide) (by decide))
theorem rHW_go {σ : Mem} {a : Nat} {w : Int32} (h : rHW σ) : rHW (rGo σ a w) := by
  unfold rGo
  split
  · exact h
  · exact rHW_32 (rHW_clip h) (rTo_x _)
theorem rHW_f1 {σ : Mem} {a : Nat} (h : rHW σ) : rHW (rFall1 σ a) := by
  unfold rFall1
  split
  · exact rHW_st2 (rHW_35 h (Or.inl rfl)) (by decide) (by decide) (by decide)
  · exact h
theorem rHW_f2 {σ : Mem} (h : rHW σ) : rHW (rFall2 σ) := rHW_st2 (rHW_st2 h (by decide) (by decide) (by decide)) (by decide) (by decide) (by decide)
theorem rHW_f4 {σ : Mem} {a b : Nat} (h : rHW σ) : rHW (rFall4 σ a b) := by
  unfold rFall4 rFall3
  split
  · split
    · exact rHW_st2 (rHW_st2 (rHW_35 (rHW_f2 h) (Or.inr rfl)) (by decide) (by decide) (by decide)) (by decide) (by decide) (by decide)
    · exact rHW_f2 h
  · exact h
theorem bor_01 {x y : Int32} (h1 : x = 0 ∨ x = 1) (h2 : y = 0 ∨ y = 1) : x ||| y = 0 ∨ x ||| y = 1 := by
  rcases h1 with rfl | rfl <;> rcases h2 with rfl | rfl <;> decide
theorem rHW_fall {σ : Mem} {a : Nat} (h : rHW σ) : rHW (rFall σ a) := by
  have h4 := rHW_f4 (a := a) (b := cN (σ 32 0)) (rHW_f1 (a := a) h)
  exact rHW_36 h4 (bor_01 h4.2.2 h4.2.1)
theorem rHW_meet {σ : Mem} {a : Nat} (h : rHW σ) : rHW (rMeet σ a) := by
  unfold rMeet rMeet1
  refine rHW_st2 ?_ (by decide) (by decide) (by decide)
  split
  · exact rHW_st2 h (by decide) (by decide) (by decide)
  · exact h
theorem rHW_tick {σ : Mem} {a : Nat} {b f : Int32} (h : rHW σ) : rHW (rTick σ a b f) := rHW_st2 (rHW_meet (rHW_fall (rHW_go (rHW_jump (rHW_way h))))) (by decide) (by decide) (by decide)
theorem rFall1_32 (σ : Mem) (a : Nat) : rFall1 σ a 32 0 = σ 32 0 := by unfold rFall1; split <;> rfl

theorem fp_9_33 : sg_FP 9 33 false .int := ⟨RX8, TX8, 43, rfl, rfl, by decide +kernel, rfl⟩
theorem fl_RX8_122 : sg_FL RX8 122 9 34 := ⟨RX8, TX8, 43, "SplitGateModel", rfl, by decide, ti_9, .inl rfl, .inl (sg_mem (i := 898) (by decide +kernel) rfl)⟩
theorem fp_9_34 : sg_FP 9 34 false .int := ⟨RX8, TX8, 43, rfl, rfl, by decide +kernel, rfl⟩
theorem fl_RX8_125 : sg_FL RX8 125 9 35 := ⟨RX8, TX8, 43, "SplitGateModel", rfl, by decide, ti_9, .inl rfl, .inl (sg_mem (i := 899) (by decide +kernel) rfl)⟩
theorem fp_9_35 : sg_FP 9 35 false .boolean := ⟨RX8, TX8, 43, rfl, rfl, by decide +kernel, rfl⟩
theorem fl_RX8_129 : sg_FL RX8 129 9 36 := ⟨RX8, TX8, 43, "SplitGateModel", rfl, by decide, ti_9, .inl rfl, .inl (sg_mem (i := 900) (by decide +kernel) rfl)⟩
theorem fp_9_36 : sg_FP 9 36 false .boolean := ⟨RX8, TX8, 43, rfl, rfl, by decide +kernel, rfl⟩
theorem fl_RX8_132 : sg_FL RX8 132 9 37 := ⟨RX8, TX8, 43, "SplitGateModel", rfl, by decide, ti_9, .inl rfl, .inl (sg_mem (i := 901) (by decide +kernel) rfl)⟩
theorem fp_9_37 : sg_FP 9 37 false .int := ⟨RX8, TX8, 43, rfl, rfl, by decide +kernel, rfl⟩
theorem fl_RX8_135 : sg_FL RX8 135 9 38 := ⟨RX8, TX8, 43, "SplitGateModel", rfl, by decide, ti_9, .inl rfl, .inl (sg_mem (i := 902) (by decide +kernel) rfl)⟩
theorem fp_9_38 : sg_FP 9 38 false .int := ⟨RX8, TX8, 43, rfl, rfl, by decide +kernel, rfl⟩
theorem fl_RX8_138 : sg_FL RX8 138 9 39 := ⟨RX8, TX8, 43, "SplitGateModel", rfl, by decide, ti_9, .inl rfl, .inl (sg_mem (i := 903) (by decide +kernel) rfl)⟩
theorem fp_9_39 : sg_FP 9 39 false .int := ⟨RX8, TX8, 43, rfl, rfl, by decide +kernel, rfl⟩
theorem fl_RX8_141 : sg_FL RX8 141 9 40 := ⟨RX8, TX8, 43, "SplitGateModel", rfl, by decide, ti_9, .inl rfl, .inl (sg_mem (i := 904) (by decide +kernel) rfl)⟩
theorem fp_9_40 : sg_FP 9 40 false .int := ⟨RX8, TX8, 43, rfl, rfl, by decide +kernel, rfl⟩
theorem fl_RX8_144 : sg_FL RX8 144 9 41 := ⟨RX8, TX8, 43, "SplitGateModel", rfl, by decide, ti_9, .inl rfl, .inl (sg_mem (i := 905) (by decide +kernel) rfl)⟩
theorem fp_9_41 : sg_FP 9 41 false .int := ⟨RX8, TX8, 43, rfl, rfl, by decide +kernel, rfl⟩
theorem fl_RX8_119 : sg_FL RX8 119 9 32 := ⟨RX8, TX8, 43, "SplitGateModel", rfl, by decide, ti_9, .inl rfl, .inl (sg_mem (i := 896) (by decide +kernel) rfl)⟩
theorem fp_9_32 : sg_FP 9 32 false .int := ⟨RX8, TX8, 43, rfl, rfl, by decide +kernel, rfl⟩
theorem fl_RX8_13 : sg_FL RX8 13 9 1 := ⟨RX8, TX8, 43, "SplitGateModel", rfl, by decide, ti_9, .inl rfl, .inl (sg_mem (i := 865) (by decide +kernel) rfl)⟩
set_option maxHeartbeats 4000000 in
set_option maxRecDepth 100000 in
theorem c_X8_start (l : Launch) (g : sg_G) (C : Nat → Option va_E) (m0 : Nat) (q : Nat → Nat) (σ : Mem) (a : Nat) (hN : mN m0 q) (ha : a < 3) : sg_Met l yX8_start cX8_start 2 none 1 22 0 0 g [.ref m0, .int (nI a)] (sg_ov C (mW g m0 q σ)) (fun v C' => v = none ∧ C' = sg_ov C (mW g m0 q (rStart σ a))) sg_no := by
  refine sg_ofW (by decide) rfl ?_ (Nat.le_of_ble_eq_true rfl)
  intro p e s m below meth c hc hlk hrt hin2 htb
  have hc : sg_Cx p s m _ c cX8_start 2 RX8 g := hc
  show sg_W p l e _ s m _ below meth c 2 g 0 0 _ (sg_ov C (mW g m0 q σ)) 0 [(0, .ref m0), (1, .int (nI a))] []
  have K_26 : ∀ (y1 : Int32) (ey1 : y1 = if rGap σ a 0 then 0 else rGnd σ a 0), sg_W p l e (sg_rm 1 22 0 0) s m ([.ref m0, .int (nI a)] : List Value).toArray below meth c 2 g 0 0 (sg_End below g (fun v C' => v = none ∧ C' = sg_ov C (mW g m0 q (rStart σ a))) sg_no ([.ref m0, .int (nI a)] : List Value).toArray s 0 0) (sg_ov C (mW g m0 q (st2 σ 32 0 8))) 26 [(0, .ref m0)] [.int y1, .ref m0] := by
    intro y1 ey1
    refine sw_put (pc := 26) (k := 33) hc fl_RX8_116 ty_9 fp_9_33 (mW_o hN) rfl rfl (Nat.le_of_ble_eq_true rfl) rfl dX8_start_26 ?_
    refine sw_eq (mW_p33 hN) ?_
    refine sw_aload_n (pc := 29) hc dX8_start_29 rfl 0 rfl ?_
    refine sw_iconst (pc := 30) (v := 0) hc dX8_start_30 (by decide) ?_
    refine sw_put (pc := 31) (k := 34) hc fl_RX8_122 ty_9 fp_9_34 (mW_o hN) rfl rfl (Nat.le_of_ble_eq_true rfl) rfl dX8_start_31 ?_
    refine sw_eq (mW_p34 hN) ?_
    refine sw_aload_n (pc := 34) hc dX8_start_34 rfl 0 rfl ?_
    refine sw_iconst (pc := 35) (v := 1) hc dX8_start_35 (by decide) ?_
    refine sw_put (pc := 36) (k := 35) hc fl_RX8_125 ty_9 fp_9_35 (mW_o hN) rfl rfl (Nat.le_of_ble_eq_true rfl) rfl dX8_start_36 ?_
    refine sw_eq (mW_p35 hN) ?_
    refine sw_aload_n (pc := 39) hc dX8_start_39 rfl 0 rfl ?_
    refine sw_iconst (pc := 40) (v := 1) hc dX8_start_40 (by decide) ?_
    refine sw_put (pc := 41) (k := 36) hc fl_RX8_129 ty_9 fp_9_36 (mW_o hN) rfl rfl (Nat.le_of_ble_eq_true rfl) rfl dX8_start_41 ?_
    refine sw_eq (mW_p36 hN) ?_
    refine sw_aload_n (pc := 44) hc dX8_start_44 rfl 0 rfl ?_
    refine sw_iconst (pc := 45) (v := 0) hc dX8_start_45 (by decide) ?_
    refine sw_put (pc := 46) (k := 37) hc fl_RX8_132 ty_9 fp_9_37 (mW_o hN) rfl rfl (Nat.le_of_ble_eq_true rfl) rfl dX8_start_46 ?_
    refine sw_eq (mW_p37 hN) ?_
    refine sw_aload_n (pc := 49) hc dX8_start_49 rfl 0 rfl ?_
    refine sw_iconst (pc := 50) (v := 0) hc dX8_start_50 (by decide) ?_
    refine sw_put (pc := 51) (k := 38) hc fl_RX8_135 ty_9 fp_9_38 (mW_o hN) rfl rfl (Nat.le_of_ble_eq_true rfl) rfl dX8_start_51 ?_
    refine sw_eq (mW_p38 hN) ?_
    refine sw_aload_n (pc := 54) hc dX8_start_54 rfl 0 rfl ?_
    refine sw_iconst (pc := 55) (v := 0) hc dX8_start_55 (by decide) ?_
    refine sw_put (pc := 56) (k := 39) hc fl_RX8_138 ty_9 fp_9_39 (mW_o hN) rfl rfl (Nat.le_of_ble_eq_true rfl) rfl dX8_start_56 ?_
    refine sw_eq (mW_p39 hN) ?_
    refine sw_aload_n (pc := 59) hc dX8_start_59 rfl 0 rfl ?_
    refine sw_iconst (pc := 60) (v := 0) hc dX8_start_60 (by decide) ?_
    refine sw_put (pc := 61) (k := 40) hc fl_RX8_141 ty_9 fp_9_40 (mW_o hN) rfl rfl (Nat.le_of_ble_eq_true rfl) rfl dX8_start_61 ?_
    refine sw_eq (mW_p40 hN) ?_
    refine sw_aload_n (pc := 64) hc dX8_start_64 rfl 0 rfl ?_
    refine sw_iconst (pc := 65) (v := 0) hc dX8_start_65 (by decide) ?_
    refine sw_put (pc := 66) (k := 41) hc fl_RX8_144 ty_9 fp_9_41 (mW_o hN) rfl rfl (Nat.le_of_ble_eq_true rfl) rfl dX8_start_66 ?_
    refine sw_eq (mW_p41 hN) ?_
    have h_1 : st2 (st2 (st2 (st2 (st2 (st2 (st2 (st2 (st2 (st2 σ 32 0 8) 33 0 y1) 34 0 0) 35 0 1) 36 0 1) 37 0 0) 38 0 0) 39 0 0) 40 0 0) 41 0 0 = rStart σ a := by (subst ey1; rfl)
    exact sw_vret (pc := 69) hc hlk hrt ⟨rfl, (congrArg (fun z => sg_ov C (mW g m0 q z)) h_1)⟩ (Nat.le_of_ble_eq_true rfl) (Nat.le_of_ble_eq_true rfl) dX8_start_69
  refine sw_aload_n (pc := 0) hc dX8_start_0 rfl 0 rfl ?_
  refine sw_bipush (pc := 1) (v := 8) hc dX8_start_1 (by decide) ?_
  refine sw_put (pc := 3) (k := 32) hc fl_RX8_119 ty_9 fp_9_32 (mW_o hN) rfl rfl (Nat.le_of_ble_eq_true rfl) rfl dX8_start_3 ?_
  refine sw_eq (mW_p32 hN) ?_
  refine sw_aload_n (pc := 6) hc dX8_start_6 rfl 0 rfl ?_
  refine sw_aload_n (pc := 7) hc dX8_start_7 rfl 0 rfl ?_
  refine sw_iload_n (pc := 8) hc dX8_start_8 rfl 1 rfl ?_
  refine sw_iconst (pc := 9) (v := 0) hc dX8_start_9 (by decide) ?_
  refine sw_callV (pc := 10) (rest := [.ref m0]) hc (c_X8_gap l g C m0 q (st2 σ 32 0 8) a 0 hN (by omega)) md_X8_gap ml_RX8_108 im_X8_gap sl_X8_gap (mW_o hN) rfl rfl rfl (Nat.le_of_ble_eq_true rfl) dX8_start_10 ⟨Nat.le_of_ble_eq_true rfl, Nat.le_of_ble_eq_true rfl, Nat.le_of_ble_eq_true rfl, Nat.le_of_ble_eq_true rfl⟩ (fun v C' hP => ?_) (fun _ _ h => h.elim)
  obtain ⟨rfl, rfl⟩ := hP
  refine sw_st (st' := [.int (bI (rGap (st2 σ 32 0 8) a 0)), .ref m0]) rfl ?_
  refine sw_if_eq (pc := 13) (tgt := 20) hc dX8_start_13 (by decide) (fun c_2 => ?_) (fun c_2 => ?_)
  ·
    have p_3 : ¬ (rGap (st2 σ 32 0 8) a 0) := bI_0 c_2
    refine sw_aload_n (pc := 20) hc dX8_start_20 rfl 0 rfl ?_
    refine sw_iload_n (pc := 21) hc dX8_start_21 rfl 1 rfl ?_
    refine sw_iconst (pc := 22) (v := 0) hc dX8_start_22 (by decide) ?_
    refine sw_callV (pc := 23) (rest := [.ref m0]) hc (c_X8_ground l g C m0 q (st2 σ 32 0 8) a 0 hN (by omega)) md_X8_ground ml_RX8_112 im_X8_ground sl_X8_ground (mW_o hN) rfl rfl rfl (Nat.le_of_ble_eq_true rfl) dX8_start_23 ⟨Nat.le_of_ble_eq_true rfl, Nat.le_of_ble_eq_true rfl, Nat.le_of_ble_eq_true rfl, Nat.le_of_ble_eq_true rfl⟩ (fun v C' hP => ?_) (fun _ _ h => h.elim)
    obtain ⟨rfl, rfl⟩ := hP
    refine sw_st (st' := [.int (rGnd (st2 σ 32 0 8) a 0), .ref m0]) rfl ?_
    have h_4 : rGnd (st2 σ 32 0 8) a 0 = if rGap σ a 0 then 0 else rGnd σ a 0 := by first | exact (if_pos (show rGap σ a 0 by assumption)).symm | exact (if_neg (show ¬ rGap σ a 0 by assumption)).symm
    exact sw_sub (ks := [0]) rfl (K_26 (rGnd (st2 σ 32 0 8) a 0) h_4)
  ·
    have p_5 : rGap (st2 σ 32 0 8) a 0 := bI_n c_2
    refine sw_iconst (pc := 16) (v := 0) hc dX8_start_16 (by decide) ?_
    refine sw_goto (pc := 17) (tgt := 26) hc dX8_start_17 (by decide) ?_
    have h_6 : 0 = if rGap σ a 0 then 0 else rGnd σ a 0 := by first | exact (if_pos (show rGap σ a 0 by assumption)).symm | exact (if_neg (show ¬ rGap σ a 0 by assumption)).symm
    exact sw_sub (ks := [0]) rfl (K_26 0 h_6)

set_option maxHeartbeats 4000000 in
set_option maxRecDepth 100000 in
theorem c_X8_way (l : Launch) (g : sg_G) (C : Nat → Option va_E) (m0 : Nat) (q : Nat → Nat) (σ : Mem) (b : Int32) (f : Int32) (hN : mN m0 q) : sg_Met l yX8_way cX8_way 4 (some .int) 0 0 0 0 g [.ref m0, .int b, .int f] (sg_ov C (mW g m0 q σ)) (fun v C' => v = some (.int (rWay σ b f)) ∧ C' = sg_ov C (mW g m0 q (rWayS σ b f))) sg_no := by
  refine sg_ofW (by decide) rfl ?_ (Nat.le_of_ble_eq_true rfl)
  intro p e s m below meth c hc hlk hrt hin2 htb
  have hc : sg_Cx p s m _ c cX8_way 4 RX8 g := hc
  show sg_W p l e _ s m _ below meth c 4 g 0 0 _ (sg_ov C (mW g m0 q σ)) 0 [(0, .ref m0), (1, .int b), (2, .int f)] []
  have K_76 : ∀ (w2 : Int32) (τ : Mem) (d1 : Int32) (ew2 : w2 = rWay σ b f) (eτ : τ = rWayM σ b f) (ed1 : d1 = bI (rWay σ b f < 0)), sg_W p l e (sg_rm 0 0 0 0) s m ([.ref m0, .int b, .int f] : List Value).toArray below meth c 4 g 0 0 (sg_End below g (fun v C' => v = some (.int (rWay σ b f)) ∧ C' = sg_ov C (mW g m0 q (rWayS σ b f))) sg_no ([.ref m0, .int b, .int f] : List Value).toArray s 0 0) (sg_ov C (mW g m0 q τ)) 76 [(0, .ref m0), (3, .int w2)] [.int d1, .int (τ 39 0), .ref m0] := by
    intro w2 τ d1 ew2 eτ ed1
    refine sw_ior (pc := 76) hc dX8_way_76 ?_
    refine sw_put (pc := 77) (k := 39) hc fl_RX8_138 ty_9 fp_9_39 (mW_o hN) rfl rfl (Nat.le_of_ble_eq_true rfl) rfl dX8_way_77 ?_
    refine sw_eq (mW_p39 hN) ?_
    refine sw_iload_n (pc := 80) hc dX8_way_80 rfl 1 rfl ?_
    have h_1 : w2 = rWay σ b f := by (subst ew2 eτ ed1; rfl)
    have h_2 : st2 τ 39 0 ((τ 39 0) ||| d1) = rWayS σ b f := by (subst ew2 eτ ed1; rfl)
    exact sw_iret (pc := 81) hc hlk hrt rfl ⟨(congrArg (fun z => some (Value.int z)) h_1), (congrArg (fun z => sg_ov C (mW g m0 q z)) h_2)⟩ (Nat.le_of_ble_eq_true rfl) (Nat.le_of_ble_eq_true rfl) dX8_way_81
  have K_62 : ∀ (w2 : Int32) (τ : Mem) (ew2 : w2 = rWay σ b f) (eτ : τ = rWayM σ b f), sg_W p l e (sg_rm 0 0 0 0) s m ([.ref m0, .int b, .int f] : List Value).toArray below meth c 4 g 0 0 (sg_End below g (fun v C' => v = some (.int (rWay σ b f)) ∧ C' = sg_ov C (mW g m0 q (rWayS σ b f))) sg_no ([.ref m0, .int b, .int f] : List Value).toArray s 0 0) (sg_ov C (mW g m0 q τ)) 62 [(0, .ref m0), (3, .int w2)] [] := by
    intro w2 τ ew2 eτ
    refine sw_aload_n (pc := 62) hc dX8_way_62 rfl 0 rfl ?_
    refine sw_dup (pc := 63) hc dX8_way_63 rfl ?_
    refine sw_get (pc := 64) (v := .int (τ 39 0)) hc fl_RX8_138 (mW_o hN) rfl dX8_way_64 ?_
    refine sw_iload_n (pc := 67) hc dX8_way_67 rfl 1 rfl ?_
    refine sw_if_ge (pc := 68) (tgt := 75) hc dX8_way_68 (by decide) (fun c_3 => ?_) (fun c_3 => ?_)
    ·
      have c_3' := Int32.not_lt.mpr c_3
      refine sw_iconst (pc := 75) (v := 0) hc dX8_way_75 (by decide) ?_
      have h_4 : w2 = rWay σ b f := by first | with_reducible rfl | (subst eτ ew2; first | with_reducible rfl | (simp [-Int32.not_le, -Int32.not_lt, bI, st2_a, c_3, c_3']; done) | (((try simp only [st2_a, Nat.reduceBEq, Bool.false_and, Bool.true_and, beq_self_eq_true, cond_false, cond_true] at c_3 c_3') <;> simp [-Int32.not_le, -Int32.not_lt, bI, st2_a, c_3, c_3']); done) | ((try simp only [bI]); (repeat' split) <;> simp_all [-Int32.not_le, -Int32.not_lt, st2_a, rGap, rWall]; done))
      have h_5 : τ = rWayM σ b f := by first | with_reducible rfl | (subst eτ ew2; first | with_reducible rfl | (simp [-Int32.not_le, -Int32.not_lt, bI, st2_a, c_3, c_3']; done) | (((try simp only [st2_a, Nat.reduceBEq, Bool.false_and, Bool.true_and, beq_self_eq_true, cond_false, cond_true] at c_3 c_3') <;> simp [-Int32.not_le, -Int32.not_lt, bI, st2_a, c_3, c_3']); done) | ((try simp only [bI]); (repeat' split) <;> simp_all [-Int32.not_le, -Int32.not_lt, st2_a, rGap, rWall]; done))
      have h_6 : 0 = bI (rWay σ b f < 0) := by first | with_reducible rfl | (subst eτ ew2; first | with_reducible rfl | (simp [-Int32.not_le, -Int32.not_lt, bI, st2_a, c_3, c_3']; done) | (((try simp only [st2_a, Nat.reduceBEq, Bool.false_and, Bool.true_and, beq_self_eq_true, cond_false, cond_true] at c_3 c_3') <;> simp [-Int32.not_le, -Int32.not_lt, bI, st2_a, c_3, c_3']); done) | ((try simp only [bI]); (repeat' split) <;> simp_all [-Int32.not_le, -Int32.not_lt, st2_a, rGap, rWall]; done))
      exact sw_sub (ks := [0, 1]) rfl (K_76 w2 τ 0 h_4 h_5 h_6)
    ·
      have c_3' := Int32.not_le.mp c_3
      refine sw_iconst (pc := 71) (v := 1) hc dX8_way_71 (by decide) ?_
      refine sw_goto (pc := 72) (tgt := 76) hc dX8_way_72 (by decide) ?_
      have h_7 : w2 = rWay σ b f := by first | with_reducible rfl | (subst eτ ew2; first | with_reducible rfl | (simp [-Int32.not_le, -Int32.not_lt, bI, st2_a, c_3, c_3']; done) | (((try simp only [st2_a, Nat.reduceBEq, Bool.false_and, Bool.true_and, beq_self_eq_true, cond_false, cond_true] at c_3 c_3') <;> simp [-Int32.not_le, -Int32.not_lt, bI, st2_a, c_3, c_3']); done) | ((try simp only [bI]); (repeat' split) <;> simp_all [-Int32.not_le, -Int32.not_lt, st2_a, rGap, rWall]; done))
      have h_8 : τ = rWayM σ b f := by first | with_reducible rfl | (subst eτ ew2; first | with_reducible rfl | (simp [-Int32.not_le, -Int32.not_lt, bI, st2_a, c_3, c_3']; done) | (((try simp only [st2_a, Nat.reduceBEq, Bool.false_and, Bool.true_and, beq_self_eq_true, cond_false, cond_true] at c_3 c_3') <;> simp [-Int32.not_le, -Int32.not_lt, bI, st2_a, c_3, c_3']); done) | ((try simp only [bI]); (repeat' split) <;> simp_all [-Int32.not_le, -Int32.not_lt, st2_a, rGap, rWall]; done))
      have h_9 : 1 = bI (rWay σ b f < 0) := by first | with_reducible rfl | (subst eτ ew2; first | with_reducible rfl | (simp [-Int32.not_le, -Int32.not_lt, bI, st2_a, c_3, c_3']; done) | (((try simp only [st2_a, Nat.reduceBEq, Bool.false_and, Bool.true_and, beq_self_eq_true, cond_false, cond_true] at c_3 c_3') <;> simp [-Int32.not_le, -Int32.not_lt, bI, st2_a, c_3, c_3']); done) | ((try simp only [bI]); (repeat' split) <;> simp_all [-Int32.not_le, -Int32.not_lt, st2_a, rGap, rWall]; done))
      exact sw_sub (ks := [0, 1]) rfl (K_76 w2 τ 1 h_7 h_8 h_9)
  have K_24 : ∀ (w : Int32) (ew : w = rWay0 b), sg_W p l e (sg_rm 0 0 0 0) s m ([.ref m0, .int b, .int f] : List Value).toArray below meth c 4 g 0 0 (sg_End below g (fun v C' => v = some (.int (rWay σ b f)) ∧ C' = sg_ov C (mW g m0 q (rWayS σ b f))) sg_no ([.ref m0, .int b, .int f] : List Value).toArray s 0 0) (sg_ov C (mW g m0 q σ)) 24 [(0, .ref m0), (1, .int b), (2, .int f)] [.int w] := by
    intro w ew
    refine sw_istore_n (pc := 24) hc dX8_way_24 rfl (by decide) (lv' := [(3, .int w), (0, .ref m0), (1, .int b), (2, .int f)]) rfl ?_
    refine sw_iload_n (pc := 25) hc dX8_way_25 rfl 3 rfl ?_
    refine sw_bipush (pc := 26) (v := 8) hc dX8_way_26 (by decide) ?_
    refine sw_iand (pc := 28) hc dX8_way_28 ?_
    refine sw_if_le (pc := 29) (tgt := 62) hc dX8_way_29 (by decide) (fun c_10 => ?_) (fun c_10 => ?_)
    ·
      have c_10' := Int32.not_lt.mpr c_10
      have h_11 : w = rWay σ b f := by first | with_reducible rfl | (subst ew; first | with_reducible rfl | (simp [-Int32.not_le, -Int32.not_lt, rWay, rWayM, st2_a, c_10, c_10']; done) | (((try simp only [st2_a, Nat.reduceBEq, Bool.false_and, Bool.true_and, beq_self_eq_true, cond_false, cond_true] at c_10 c_10') <;> simp [-Int32.not_le, -Int32.not_lt, rWay, rWayM, st2_a, c_10, c_10']); done) | ((try simp only [rWay, rWayM]); (repeat' split) <;> simp_all [-Int32.not_le, -Int32.not_lt, st2_a, rGap, rWall]; done))
      have h_12 : σ = rWayM σ b f := by first | with_reducible rfl | (subst ew; first | with_reducible rfl | (simp [-Int32.not_le, -Int32.not_lt, rWay, rWayM, st2_a, c_10, c_10']; done) | (((try simp only [st2_a, Nat.reduceBEq, Bool.false_and, Bool.true_and, beq_self_eq_true, cond_false, cond_true] at c_10 c_10') <;> simp [-Int32.not_le, -Int32.not_lt, rWay, rWayM, st2_a, c_10, c_10']); done) | ((try simp only [rWay, rWayM]); (repeat' split) <;> simp_all [-Int32.not_le, -Int32.not_lt, st2_a, rGap, rWall]; done))
      exact sw_sub (ks := [1, 0]) rfl (K_62 w σ h_11 h_12)
    ·
      have c_10' := Int32.not_le.mp c_10
      refine sw_iload_n (pc := 32) hc dX8_way_32 rfl 0 rfl ?_
      refine sw_if_eq (pc := 33) (tgt := 62) hc dX8_way_33 (by decide) (fun c_13 => ?_) (fun c_13 => ?_)
      ·
        have h_14 : w = rWay σ b f := by first | with_reducible rfl | (subst ew; first | with_reducible rfl | (simp [-Int32.not_le, -Int32.not_lt, rWay, rWayM, st2_a, c_10, c_10', c_13]; done) | (((try simp only [st2_a, Nat.reduceBEq, Bool.false_and, Bool.true_and, beq_self_eq_true, cond_false, cond_true] at c_10 c_10' c_13) <;> simp [-Int32.not_le, -Int32.not_lt, rWay, rWayM, st2_a, c_10, c_10', c_13]); done) | ((try simp only [rWay, rWayM]); (repeat' split) <;> simp_all [-Int32.not_le, -Int32.not_lt, st2_a, rGap, rWall]; done))
        have h_15 : σ = rWayM σ b f := by first | with_reducible rfl | (subst ew; first | with_reducible rfl | (simp [-Int32.not_le, -Int32.not_lt, rWay, rWayM, st2_a, c_10, c_10', c_13]; done) | (((try simp only [st2_a, Nat.reduceBEq, Bool.false_and, Bool.true_and, beq_self_eq_true, cond_false, cond_true] at c_10 c_10' c_13) <;> simp [-Int32.not_le, -Int32.not_lt, rWay, rWayM, st2_a, c_10, c_10', c_13]); done) | ((try simp only [rWay, rWayM]); (repeat' split) <;> simp_all [-Int32.not_le, -Int32.not_lt, st2_a, rGap, rWall]; done))
        exact sw_sub (ks := [1, 0]) rfl (K_62 w σ h_14 h_15)
      ·
        refine sw_aload_n (pc := 36) hc dX8_way_36 rfl 1 rfl ?_
        refine sw_get (pc := 37) (v := .int (σ 36 0)) hc fl_RX8_129 (mW_o hN) rfl dX8_way_37 ?_
        refine sw_if_eq (pc := 40) (tgt := 62) hc dX8_way_40 (by decide) (fun c_16 => ?_) (fun c_16 => ?_)
        ·
          have h_17 : w = rWay σ b f := by first | with_reducible rfl | (subst ew; first | with_reducible rfl | (simp [-Int32.not_le, -Int32.not_lt, rWay, rWayM, st2_a, c_10, c_10', c_13, c_16]; done) | (((try simp only [st2_a, Nat.reduceBEq, Bool.false_and, Bool.true_and, beq_self_eq_true, cond_false, cond_true] at c_10 c_10' c_13 c_16) <;> simp [-Int32.not_le, -Int32.not_lt, rWay, rWayM, st2_a, c_10, c_10', c_13, c_16]); done) | ((try simp only [rWay, rWayM]); (repeat' split) <;> simp_all [-Int32.not_le, -Int32.not_lt, st2_a, rGap, rWall]; done))
          have h_18 : σ = rWayM σ b f := by first | with_reducible rfl | (subst ew; first | with_reducible rfl | (simp [-Int32.not_le, -Int32.not_lt, rWay, rWayM, st2_a, c_10, c_10', c_13, c_16]; done) | (((try simp only [st2_a, Nat.reduceBEq, Bool.false_and, Bool.true_and, beq_self_eq_true, cond_false, cond_true] at c_10 c_10' c_13 c_16) <;> simp [-Int32.not_le, -Int32.not_lt, rWay, rWayM, st2_a, c_10, c_10', c_13, c_16]); done) | ((try simp only [rWay, rWayM]); (repeat' split) <;> simp_all [-Int32.not_le, -Int32.not_lt, st2_a, rGap, rWall]; done))
          exact sw_sub (ks := [1, 0]) rfl (K_62 w σ h_17 h_18)
        ·
          refine sw_iload_n (pc := 43) hc dX8_way_43 rfl 0 rfl ?_
          refine sw_iconst (pc := 44) (v := 5) hc dX8_way_44 (by decide) ?_
          refine sw_imul (pc := 45) hc dX8_way_45 ?_
          refine sw_istore_n (pc := 46) hc dX8_way_46 rfl (by decide) (lv' := [(3, .int (w * 5)), (0, .ref m0), (1, .int b), (2, .int f)]) rfl ?_
          refine sw_aload_n (pc := 47) hc dX8_way_47 rfl 1 rfl ?_
          refine sw_iconst (pc := 48) (v := 0) hc dX8_way_48 (by decide) ?_
          refine sw_put (pc := 49) (k := 36) hc fl_RX8_129 ty_9 fp_9_36 (mW_o hN) rfl rfl (Nat.le_of_ble_eq_true rfl) rfl dX8_way_49 ?_
          refine sw_eq (mW_p36 hN) ?_
          refine sw_aload_n (pc := 52) hc dX8_way_52 rfl 1 rfl ?_
          refine sw_dup (pc := 53) hc dX8_way_53 rfl ?_
          refine sw_get (pc := 54) (v := .int (σ 39 0)) hc fl_RX8_138 (mW_o hN) rfl dX8_way_54 ?_
          refine sw_iconst (pc := 57) (v := 2) hc dX8_way_57 (by decide) ?_
          refine sw_ior (pc := 58) hc dX8_way_58 ?_
          refine sw_put (pc := 59) (k := 39) hc fl_RX8_138 ty_9 fp_9_39 (mW_o hN) rfl rfl (Nat.le_of_ble_eq_true rfl) rfl dX8_way_59 ?_
          refine sw_eq (mW_p39 hN) ?_
          have h_19 : w * 5 = rWay σ b f := by first | with_reducible rfl | (subst ew; first | with_reducible rfl | (simp [-Int32.not_le, -Int32.not_lt, rWay, rWayM, st2_a, c_10, c_10', c_13, c_16]; done) | (((try simp only [st2_a, Nat.reduceBEq, Bool.false_and, Bool.true_and, beq_self_eq_true, cond_false, cond_true] at c_10 c_10' c_13 c_16) <;> simp [-Int32.not_le, -Int32.not_lt, rWay, rWayM, st2_a, c_10, c_10', c_13, c_16]); done) | ((try simp only [rWay, rWayM]); (repeat' split) <;> simp_all [-Int32.not_le, -Int32.not_lt, st2_a, rGap, rWall]; done))
          have h_20 : st2 (st2 σ 36 0 0) 39 0 ((σ 39 0) ||| 2) = rWayM σ b f := by first | with_reducible rfl | (subst ew; first | with_reducible rfl | (simp [-Int32.not_le, -Int32.not_lt, rWay, rWayM, st2_a, c_10, c_10', c_13, c_16]; done) | (((try simp only [st2_a, Nat.reduceBEq, Bool.false_and, Bool.true_and, beq_self_eq_true, cond_false, cond_true] at c_10 c_10' c_13 c_16) <;> simp [-Int32.not_le, -Int32.not_lt, rWay, rWayM, st2_a, c_10, c_10', c_13, c_16]); done) | ((try simp only [rWay, rWayM]); (repeat' split) <;> simp_all [-Int32.not_le, -Int32.not_lt, st2_a, rGap, rWall]; done))
          exact sw_sub (ks := [1, 0]) rfl (K_62 (w * 5) (st2 (st2 σ 36 0 0) 39 0 ((σ 39 0) ||| 2)) h_19 h_20)
  refine sw_iload_n (pc := 0) hc dX8_way_0 rfl 1 rfl ?_
  refine sw_iconst (pc := 1) (v := 3) hc dX8_way_1 (by decide) ?_
  refine sw_iand (pc := 2) hc dX8_way_2 ?_
  refine sw_iconst (pc := 3) (v := 2) hc dX8_way_3 (by decide) ?_
  refine sw_icmp_ne (pc := 4) (tgt := 11) hc dX8_way_4 (by decide) (fun c_21 => ?_) (fun c_21 => ?_)
  ·
    refine sw_iload_n (pc := 11) hc dX8_way_11 rfl 1 rfl ?_
    refine sw_iconst (pc := 12) (v := 3) hc dX8_way_12 (by decide) ?_
    refine sw_iand (pc := 13) hc dX8_way_13 ?_
    refine sw_iconst (pc := 14) (v := 1) hc dX8_way_14 (by decide) ?_
    refine sw_icmp_ne (pc := 15) (tgt := 23) hc dX8_way_15 (by decide) (fun c_22 => ?_) (fun c_22 => ?_)
    ·
      refine sw_iconst (pc := 23) (v := 0) hc dX8_way_23 (by decide) ?_
      have h_23 : 0 = rWay0 b := by first | with_reducible rfl | (first | with_reducible rfl | (simp [-Int32.not_le, -Int32.not_lt, rWay0, st2_a, c_21, c_22]; done) | (((try simp only [st2_a, Nat.reduceBEq, Bool.false_and, Bool.true_and, beq_self_eq_true, cond_false, cond_true] at c_21 c_22) <;> simp [-Int32.not_le, -Int32.not_lt, rWay0, st2_a, c_21, c_22]); done) | ((try simp only [rWay0]); (repeat' split) <;> simp_all [-Int32.not_le, -Int32.not_lt, st2_a, rGap, rWall]; done))
      exact sw_sub (ks := [0, 1, 2]) rfl (K_24 0 h_23)
    ·
      refine sw_bipush (pc := 18) (v := (-4)) hc dX8_way_18 (by decide) ?_
      refine sw_goto (pc := 20) (tgt := 24) hc dX8_way_20 (by decide) ?_
      have h_24 : (-4) = rWay0 b := by first | with_reducible rfl | (first | with_reducible rfl | (simp [-Int32.not_le, -Int32.not_lt, rWay0, st2_a, c_21, c_22]; done) | (((try simp only [st2_a, Nat.reduceBEq, Bool.false_and, Bool.true_and, beq_self_eq_true, cond_false, cond_true] at c_21 c_22) <;> simp [-Int32.not_le, -Int32.not_lt, rWay0, st2_a, c_21, c_22]); done) | ((try simp only [rWay0]); (repeat' split) <;> simp_all [-Int32.not_le, -Int32.not_lt, st2_a, rGap, rWall]; done))
      exact sw_sub (ks := [0, 1, 2]) rfl (K_24 (-4) h_24)
  ·
    refine sw_iconst (pc := 7) (v := 4) hc dX8_way_7 (by decide) ?_
    refine sw_goto (pc := 8) (tgt := 24) hc dX8_way_8 (by decide) ?_
    have h_25 : 4 = rWay0 b := by first | with_reducible rfl | (first | with_reducible rfl | (simp [-Int32.not_le, -Int32.not_lt, rWay0, st2_a, c_21]; done) | (((try simp only [st2_a, Nat.reduceBEq, Bool.false_and, Bool.true_and, beq_self_eq_true, cond_false, cond_true] at c_21) <;> simp [-Int32.not_le, -Int32.not_lt, rWay0, st2_a, c_21]); done) | ((try simp only [rWay0]); (repeat' split) <;> simp_all [-Int32.not_le, -Int32.not_lt, st2_a, rGap, rWall]; done))
    exact sw_sub (ks := [0, 1, 2]) rfl (K_24 4 h_25)

set_option maxHeartbeats 4000000 in
set_option maxRecDepth 100000 in
theorem c_X8_fall (l : Launch) (g : sg_G) (C : Nat → Option va_E) (m0 : Nat) (q : Nat → Nat) (σ : Mem) (a : Nat) (hN : mN m0 q) (ha : a < 3) (hw : rHW σ) : sg_Met l yX8_fall cX8_fall 3 none 1 22 0 0 g [.ref m0, .int (nI a)] (sg_ov C (mW g m0 q σ)) (fun v C' => v = none ∧ C' = sg_ov C (mW g m0 q (rFall σ a))) sg_no := by
  refine sg_ofW (by decide) rfl ?_ (Nat.le_of_ble_eq_true rfl)
  intro p e s m below meth c hc hlk hrt hin2 htb
  have hc : sg_Cx p s m _ c cX8_fall 3 RX8 g := hc
  show sg_W p l e _ s m _ below meth c 3 g 0 0 _ (sg_ov C (mW g m0 q σ)) 0 [(0, .ref m0), (1, .int (nI a))] []
  have K_142 : ∀ (τ2 : Mem) (eτ2 : τ2 = rFall4 (rFall1 σ a) a (cN (σ 32 0))), sg_W p l e (sg_rm 1 22 0 0) s m ([.ref m0, .int (nI a)] : List Value).toArray below meth c 3 g 0 0 (sg_End below g (fun v C' => v = none ∧ C' = sg_ov C (mW g m0 q (rFall σ a))) sg_no ([.ref m0, .int (nI a)] : List Value).toArray s 0 0) (sg_ov C (mW g m0 q τ2)) 142 [(0, .ref m0), (1, .int (nI a))] [] := by
    intro τ2 eτ2
    refine sw_aload_n (pc := 142) hc dX8_fall_142 rfl 0 rfl ?_
    refine sw_dup (pc := 143) hc dX8_fall_143 rfl ?_
    refine sw_get (pc := 144) (v := .int (τ2 36 0)) hc fl_RX8_129 (mW_o hN) rfl dX8_fall_144 ?_
    refine sw_aload_n (pc := 147) hc dX8_fall_147 rfl 0 rfl ?_
    refine sw_get (pc := 148) (v := .int (τ2 35 0)) hc fl_RX8_125 (mW_o hN) rfl dX8_fall_148 ?_
    refine sw_ior (pc := 151) hc dX8_fall_151 ?_
    refine sw_put (pc := 152) (k := 36) hc fl_RX8_129 ty_9 fp_9_36 (mW_o hN) (nar_01 (by subst eτ2; exact bor_01 (rHW_f4 (rHW_f1 hw)).2.2 (rHW_f4 (rHW_f1 hw)).2.1)) (fit_01 (by subst eτ2; exact bor_01 (rHW_f4 (rHW_f1 hw)).2.2 (rHW_f4 (rHW_f1 hw)).2.1)) (Nat.le_of_ble_eq_true rfl) rfl dX8_fall_152 ?_
    refine sw_eq (mW_p36 hN) ?_
    have h_1 : st2 τ2 36 0 ((τ2 36 0) ||| (τ2 35 0)) = rFall σ a := by (subst eτ2; rfl)
    exact sw_vret (pc := 155) hc hlk hrt ⟨rfl, (congrArg (fun z => sg_ov C (mW g m0 q z)) h_1)⟩ (Nat.le_of_ble_eq_true rfl) (Nat.le_of_ble_eq_true rfl) dX8_fall_155
  have K_77 : ∀ (τ : Mem) (v : Int32) (eτ : τ = rFall1 σ a) (ev : v = rSp (rFall1 σ a 34 0)) (hs : rFall1 σ a 35 0 = 0), sg_W p l e (sg_rm 1 22 0 0) s m ([.ref m0, .int (nI a)] : List Value).toArray below meth c 3 g 0 0 (sg_End below g (fun v C' => v = none ∧ C' = sg_ov C (mW g m0 q (rFall σ a))) sg_no ([.ref m0, .int (nI a)] : List Value).toArray s 0 0) (sg_ov C (mW g m0 q τ)) 77 [(0, .ref m0), (1, .int (nI a)), (2, .int (nI (cN (σ 32 0))))] [.int v, .ref m0] := by
    intro τ v eτ ev hs
    refine sw_put (pc := 77) (k := 34) hc fl_RX8_122 ty_9 fp_9_34 (mW_o hN) rfl rfl (Nat.le_of_ble_eq_true rfl) rfl dX8_fall_77 ?_
    refine sw_eq (mW_p34 hN) ?_
    refine sw_aload_n (pc := 80) hc dX8_fall_80 rfl 0 rfl ?_
    refine sw_dup (pc := 81) hc dX8_fall_81 rfl ?_
    refine sw_get (pc := 82) (v := .int (τ 33 0)) hc fl_RX8_116 (mW_o hN) rfl dX8_fall_82 ?_
    refine sw_aload_n (pc := 85) hc dX8_fall_85 rfl 0 rfl ?_
    refine sw_get (pc := 86) (v := .int v) hc fl_RX8_122 (mW_o hN) rfl dX8_fall_86 ?_
    refine sw_iadd (pc := 89) hc dX8_fall_89 ?_
    refine sw_put (pc := 90) (k := 33) hc fl_RX8_116 ty_9 fp_9_33 (mW_o hN) rfl rfl (Nat.le_of_ble_eq_true rfl) rfl dX8_fall_90 ?_
    refine sw_eq (mW_p33 hN) ?_
    refine sw_eq (C' := sg_ov C (mW g m0 q (rFall2 τ))) (by subst ev eτ; rfl) ?_
    refine sw_aload_n (pc := 93) hc dX8_fall_93 rfl 0 rfl ?_
    refine sw_iload_n (pc := 94) hc dX8_fall_94 rfl 1 rfl ?_
    refine sw_iload_n (pc := 95) hc dX8_fall_95 rfl 2 rfl ?_
    refine sw_callV (pc := 96) (rest := []) hc (c_X8_gap l g C m0 q (rFall2 τ) a (cN (σ 32 0)) hN (by have := (cN_x hw.1).2; omega)) md_X8_gap ml_RX8_108 im_X8_gap sl_X8_gap (mW_o hN) rfl rfl rfl (Nat.le_of_ble_eq_true rfl) dX8_fall_96 ⟨Nat.le_of_ble_eq_true rfl, Nat.le_of_ble_eq_true rfl, Nat.le_of_ble_eq_true rfl, Nat.le_of_ble_eq_true rfl⟩ (fun v C' hP => ?_) (fun _ _ h => h.elim)
    obtain ⟨rfl, rfl⟩ := hP
    refine sw_st (st' := [.int (bI (rGap (rFall2 τ) a (cN (σ 32 0))))]) rfl ?_
    refine sw_if_ne (pc := 99) (tgt := 142) hc dX8_fall_99 (by decide) (fun c_2 => ?_) (fun c_2 => ?_)
    ·
      have p_3 : rGap (rFall2 τ) a (cN (σ 32 0)) := bI_n c_2
      have h_4 : rFall2 τ = rFall4 (rFall1 σ a) a (cN (σ 32 0)) := by first | with_reducible rfl | (subst ev eτ; first | with_reducible rfl | (simp [-Int32.not_le, -Int32.not_lt, rFall4, rFall3, st2_a, hs, p_3]; done) | (((try simp only [st2_a, Nat.reduceBEq, Bool.false_and, Bool.true_and, beq_self_eq_true, cond_false, cond_true] at hs p_3) <;> simp [-Int32.not_le, -Int32.not_lt, rFall4, rFall3, st2_a, hs, p_3]); done) | ((try simp only [rFall4, rFall3]); (repeat' split) <;> simp_all [-Int32.not_le, -Int32.not_lt, st2_a, rGap, rWall]; done))
      exact sw_sub (ks := [0, 1]) rfl (K_142 (rFall2 τ) h_4)
    ·
      have p_5 : ¬ (rGap (rFall2 τ) a (cN (σ 32 0))) := bI_0 c_2
      refine sw_aload_n (pc := 102) hc dX8_fall_102 rfl 0 rfl ?_
      refine sw_get (pc := 103) (v := .int ((rFall2 τ) 34 0)) hc fl_RX8_122 (mW_o hN) rfl dX8_fall_103 ?_
      refine sw_if_gt (pc := 106) (tgt := 142) hc dX8_fall_106 (by decide) (fun c_6 => ?_) (fun c_6 => ?_)
      ·
        have c_6' := Int32.not_le.mpr c_6
        have h_7 : rFall2 τ = rFall4 (rFall1 σ a) a (cN (σ 32 0)) := by first | with_reducible rfl | (subst ev eτ; first | with_reducible rfl | (simp [-Int32.not_le, -Int32.not_lt, rFall4, rFall3, st2_a, hs, p_5, c_6, c_6']; done) | (((try simp only [st2_a, Nat.reduceBEq, Bool.false_and, Bool.true_and, beq_self_eq_true, cond_false, cond_true] at hs p_5 c_6 c_6') <;> simp [-Int32.not_le, -Int32.not_lt, rFall4, rFall3, st2_a, hs, p_5, c_6, c_6']); done) | ((try simp only [rFall4, rFall3]); (repeat' split) <;> simp_all [-Int32.not_le, -Int32.not_lt, st2_a, rGap, rWall]; done))
        exact sw_sub (ks := [0, 1]) rfl (K_142 (rFall2 τ) h_7)
      ·
        have c_6' := Int32.not_lt.mp c_6
        refine sw_aload_n (pc := 109) hc dX8_fall_109 rfl 0 rfl ?_
        refine sw_get (pc := 110) (v := .int ((rFall2 τ) 33 0)) hc fl_RX8_116 (mW_o hN) rfl dX8_fall_110 ?_
        refine sw_aload_n (pc := 113) hc dX8_fall_113 rfl 0 rfl ?_
        refine sw_iload_n (pc := 114) hc dX8_fall_114 rfl 1 rfl ?_
        refine sw_iload_n (pc := 115) hc dX8_fall_115 rfl 2 rfl ?_
        refine sw_callV (pc := 116) (rest := [.int ((rFall2 τ) 33 0)]) hc (c_X8_ground l g C m0 q (rFall2 τ) a (cN (σ 32 0)) hN (by have := (cN_x hw.1).2; omega)) md_X8_ground ml_RX8_112 im_X8_ground sl_X8_ground (mW_o hN) rfl rfl rfl (Nat.le_of_ble_eq_true rfl) dX8_fall_116 ⟨Nat.le_of_ble_eq_true rfl, Nat.le_of_ble_eq_true rfl, Nat.le_of_ble_eq_true rfl, Nat.le_of_ble_eq_true rfl⟩ (fun v C' hP => ?_) (fun _ _ h => h.elim)
        obtain ⟨rfl, rfl⟩ := hP
        refine sw_st (st' := [.int (rGnd (rFall2 τ) a (cN (σ 32 0))), .int ((rFall2 τ) 33 0)]) rfl ?_
        refine sw_icmp_gt (pc := 119) (tgt := 142) hc dX8_fall_119 (by decide) (fun c_8 => ?_) (fun c_8 => ?_)
        ·
          have c_8' := Int32.not_le.mpr c_8
          have h_9 : rFall2 τ = rFall4 (rFall1 σ a) a (cN (σ 32 0)) := by first | with_reducible rfl | (subst ev eτ; first | with_reducible rfl | (simp [-Int32.not_le, -Int32.not_lt, rFall4, rFall3, st2_a, hs, p_5, c_6, c_6', c_8, c_8']; done) | (((try simp only [st2_a, Nat.reduceBEq, Bool.false_and, Bool.true_and, beq_self_eq_true, cond_false, cond_true] at hs p_5 c_6 c_6' c_8 c_8') <;> simp [-Int32.not_le, -Int32.not_lt, rFall4, rFall3, st2_a, hs, p_5, c_6, c_6', c_8, c_8']); done) | ((try simp only [rFall4, rFall3]); (repeat' split) <;> simp_all [-Int32.not_le, -Int32.not_lt, st2_a, rGap, rWall]; done))
          exact sw_sub (ks := [0, 1]) rfl (K_142 (rFall2 τ) h_9)
        ·
          have c_8' := Int32.not_lt.mp c_8
          refine sw_aload_n (pc := 122) hc dX8_fall_122 rfl 0 rfl ?_
          refine sw_iconst (pc := 123) (v := 1) hc dX8_fall_123 (by decide) ?_
          refine sw_put (pc := 124) (k := 35) hc fl_RX8_125 ty_9 fp_9_35 (mW_o hN) rfl rfl (Nat.le_of_ble_eq_true rfl) rfl dX8_fall_124 ?_
          refine sw_eq (mW_p35 hN) ?_
          refine sw_aload_n (pc := 127) hc dX8_fall_127 rfl 0 rfl ?_
          refine sw_aload_n (pc := 128) hc dX8_fall_128 rfl 0 rfl ?_
          refine sw_iload_n (pc := 129) hc dX8_fall_129 rfl 1 rfl ?_
          refine sw_iload_n (pc := 130) hc dX8_fall_130 rfl 2 rfl ?_
          refine sw_callV (pc := 131) (rest := [.ref m0]) hc (c_X8_ground l g C m0 q (st2 (rFall2 τ) 35 0 1) a (cN (σ 32 0)) hN (by have := (cN_x hw.1).2; omega)) md_X8_ground ml_RX8_112 im_X8_ground sl_X8_ground (mW_o hN) rfl rfl rfl (Nat.le_of_ble_eq_true rfl) dX8_fall_131 ⟨Nat.le_of_ble_eq_true rfl, Nat.le_of_ble_eq_true rfl, Nat.le_of_ble_eq_true rfl, Nat.le_of_ble_eq_true rfl⟩ (fun v C' hP => ?_) (fun _ _ h => h.elim)
          obtain ⟨rfl, rfl⟩ := hP
          refine sw_st (st' := [.int (rGnd (st2 (rFall2 τ) 35 0 1) a (cN (σ 32 0))), .ref m0]) rfl ?_
          refine sw_st (st' := [.int (rGnd (rFall2 τ) a (cN (σ 32 0))), .ref m0]) rfl ?_
          refine sw_put (pc := 134) (k := 33) hc fl_RX8_116 ty_9 fp_9_33 (mW_o hN) rfl rfl (Nat.le_of_ble_eq_true rfl) rfl dX8_fall_134 ?_
          refine sw_eq (mW_p33 hN) ?_
          refine sw_aload_n (pc := 137) hc dX8_fall_137 rfl 0 rfl ?_
          refine sw_iconst (pc := 138) (v := 0) hc dX8_fall_138 (by decide) ?_
          refine sw_put (pc := 139) (k := 34) hc fl_RX8_122 ty_9 fp_9_34 (mW_o hN) rfl rfl (Nat.le_of_ble_eq_true rfl) rfl dX8_fall_139 ?_
          refine sw_eq (mW_p34 hN) ?_
          have h_10 : st2 (st2 (st2 (rFall2 τ) 35 0 1) 33 0 (rGnd (rFall2 τ) a (cN (σ 32 0)))) 34 0 0 = rFall4 (rFall1 σ a) a (cN (σ 32 0)) := by first | with_reducible rfl | (subst ev eτ; first | with_reducible rfl | (simp [-Int32.not_le, -Int32.not_lt, rFall4, rFall3, st2_a, hs, p_5, c_6, c_6', c_8, c_8']; done) | (((try simp only [st2_a, Nat.reduceBEq, Bool.false_and, Bool.true_and, beq_self_eq_true, cond_false, cond_true] at hs p_5 c_6 c_6' c_8 c_8') <;> simp [-Int32.not_le, -Int32.not_lt, rFall4, rFall3, st2_a, hs, p_5, c_6, c_6', c_8, c_8']); done) | ((try simp only [rFall4, rFall3]); (repeat' split) <;> simp_all [-Int32.not_le, -Int32.not_lt, st2_a, rGap, rWall]; done))
          exact sw_sub (ks := [0, 1]) rfl (K_142 (st2 (st2 (st2 (rFall2 τ) 35 0 1) 33 0 (rGnd (rFall2 τ) a (cN (σ 32 0)))) 34 0 0) h_10)
  have K_47 : ∀ (τ : Mem) (eτ : τ = rFall1 σ a), sg_W p l e (sg_rm 1 22 0 0) s m ([.ref m0, .int (nI a)] : List Value).toArray below meth c 3 g 0 0 (sg_End below g (fun v C' => v = none ∧ C' = sg_ov C (mW g m0 q (rFall σ a))) sg_no ([.ref m0, .int (nI a)] : List Value).toArray s 0 0) (sg_ov C (mW g m0 q τ)) 47 [(0, .ref m0), (1, .int (nI a)), (2, .int (nI (cN (σ 32 0))))] [] := by
    intro τ eτ
    refine sw_aload_n (pc := 47) hc dX8_fall_47 rfl 0 rfl ?_
    refine sw_get (pc := 48) (v := .int (τ 35 0)) hc fl_RX8_125 (mW_o hN) rfl dX8_fall_48 ?_
    refine sw_if_ne (pc := 51) (tgt := 142) hc dX8_fall_51 (by decide) (fun c_11 => ?_) (fun c_11 => ?_)
    ·
      have h_12 : τ = rFall4 (rFall1 σ a) a (cN (σ 32 0)) := by first | with_reducible rfl | (subst eτ; first | with_reducible rfl | (simp [-Int32.not_le, -Int32.not_lt, rFall4, rFall3, st2_a, c_11]; done) | (((try simp only [st2_a, Nat.reduceBEq, Bool.false_and, Bool.true_and, beq_self_eq_true, cond_false, cond_true] at c_11) <;> simp [-Int32.not_le, -Int32.not_lt, rFall4, rFall3, st2_a, c_11]); done) | ((try simp only [rFall4, rFall3]); (repeat' split) <;> simp_all [-Int32.not_le, -Int32.not_lt, st2_a, rGap, rWall]; done))
      exact sw_sub (ks := [0, 1]) rfl (K_142 τ h_12)
    ·
      refine sw_aload_n (pc := 54) hc dX8_fall_54 rfl 0 rfl ?_
      refine sw_aload_n (pc := 55) hc dX8_fall_55 rfl 0 rfl ?_
      refine sw_get (pc := 56) (v := .int (τ 34 0)) hc fl_RX8_122 (mW_o hN) rfl dX8_fall_56 ?_
      refine sw_iconst (pc := 59) (v := 2) hc dX8_fall_59 (by decide) ?_
      refine sw_isub (pc := 60) hc dX8_fall_60 ?_
      refine sw_bipush (pc := 61) (v := (-14)) hc dX8_fall_61 (by decide) ?_
      refine sw_icmp_ge (pc := 63) (tgt := 71) hc dX8_fall_63 (by decide) (fun c_13 => ?_) (fun c_13 => ?_)
      ·
        have c_13' := Int32.not_lt.mpr c_13
        refine sw_aload_n (pc := 71) hc dX8_fall_71 rfl 0 rfl ?_
        refine sw_get (pc := 72) (v := .int (τ 34 0)) hc fl_RX8_122 (mW_o hN) rfl dX8_fall_72 ?_
        refine sw_iconst (pc := 75) (v := 2) hc dX8_fall_75 (by decide) ?_
        refine sw_isub (pc := 76) hc dX8_fall_76 ?_
        have h_14 : τ = rFall1 σ a := by first | with_reducible rfl | (subst eτ; first | with_reducible rfl | (simp [-Int32.not_le, -Int32.not_lt, rSp, st2_a, c_11, c_13, c_13']; done) | (((try simp only [st2_a, Nat.reduceBEq, Bool.false_and, Bool.true_and, beq_self_eq_true, cond_false, cond_true] at c_11 c_13 c_13') <;> simp [-Int32.not_le, -Int32.not_lt, rSp, st2_a, c_11, c_13, c_13']); done) | ((try simp only [rSp]); (repeat' split) <;> simp_all [-Int32.not_le, -Int32.not_lt, st2_a, rGap, rWall]; done))
        have h_15 : (τ 34 0) - 2 = rSp (rFall1 σ a 34 0) := by first | with_reducible rfl | (subst eτ; first | with_reducible rfl | (simp [-Int32.not_le, -Int32.not_lt, rSp, st2_a, c_11, c_13, c_13']; done) | (((try simp only [st2_a, Nat.reduceBEq, Bool.false_and, Bool.true_and, beq_self_eq_true, cond_false, cond_true] at c_11 c_13 c_13') <;> simp [-Int32.not_le, -Int32.not_lt, rSp, st2_a, c_11, c_13, c_13']); done) | ((try simp only [rSp]); (repeat' split) <;> simp_all [-Int32.not_le, -Int32.not_lt, st2_a, rGap, rWall]; done))
        have h_16 : rFall1 σ a 35 0 = 0 := by first | with_reducible rfl | (subst eτ; first | with_reducible rfl | (simp [-Int32.not_le, -Int32.not_lt, rSp, st2_a, c_11, c_13, c_13']; done) | (((try simp only [st2_a, Nat.reduceBEq, Bool.false_and, Bool.true_and, beq_self_eq_true, cond_false, cond_true] at c_11 c_13 c_13') <;> simp [-Int32.not_le, -Int32.not_lt, rSp, st2_a, c_11, c_13, c_13']); done) | ((try simp only [rSp]); (repeat' split) <;> simp_all [-Int32.not_le, -Int32.not_lt, st2_a, rGap, rWall]; done))
        exact sw_sub (ks := [0, 1, 2]) rfl (K_77 τ ((τ 34 0) - 2) h_14 h_15 h_16)
      ·
        have c_13' := Int32.not_le.mp c_13
        refine sw_bipush (pc := 66) (v := (-14)) hc dX8_fall_66 (by decide) ?_
        refine sw_goto (pc := 68) (tgt := 77) hc dX8_fall_68 (by decide) ?_
        have h_17 : τ = rFall1 σ a := by first | with_reducible rfl | (subst eτ; first | with_reducible rfl | (simp [-Int32.not_le, -Int32.not_lt, rSp, st2_a, c_11, c_13, c_13']; done) | (((try simp only [st2_a, Nat.reduceBEq, Bool.false_and, Bool.true_and, beq_self_eq_true, cond_false, cond_true] at c_11 c_13 c_13') <;> simp [-Int32.not_le, -Int32.not_lt, rSp, st2_a, c_11, c_13, c_13']); done) | ((try simp only [rSp]); (repeat' split) <;> simp_all [-Int32.not_le, -Int32.not_lt, st2_a, rGap, rWall]; done))
        have h_18 : (-14) = rSp (rFall1 σ a 34 0) := by first | with_reducible rfl | (subst eτ; first | with_reducible rfl | (simp [-Int32.not_le, -Int32.not_lt, rSp, st2_a, c_11, c_13, c_13']; done) | (((try simp only [st2_a, Nat.reduceBEq, Bool.false_and, Bool.true_and, beq_self_eq_true, cond_false, cond_true] at c_11 c_13 c_13') <;> simp [-Int32.not_le, -Int32.not_lt, rSp, st2_a, c_11, c_13, c_13']); done) | ((try simp only [rSp]); (repeat' split) <;> simp_all [-Int32.not_le, -Int32.not_lt, st2_a, rGap, rWall]; done))
        have h_19 : rFall1 σ a 35 0 = 0 := by first | with_reducible rfl | (subst eτ; first | with_reducible rfl | (simp [-Int32.not_le, -Int32.not_lt, rSp, st2_a, c_11, c_13, c_13']; done) | (((try simp only [st2_a, Nat.reduceBEq, Bool.false_and, Bool.true_and, beq_self_eq_true, cond_false, cond_true] at c_11 c_13 c_13') <;> simp [-Int32.not_le, -Int32.not_lt, rSp, st2_a, c_11, c_13, c_13']); done) | ((try simp only [rSp]); (repeat' split) <;> simp_all [-Int32.not_le, -Int32.not_lt, st2_a, rGap, rWall]; done))
        exact sw_sub (ks := [0, 1, 2]) rfl (K_77 τ (-14) h_17 h_18 h_19)
  refine sw_aload_n (pc := 0) hc dX8_fall_0 rfl 0 rfl ?_
  refine sw_get (pc := 1) (v := .int (σ 32 0)) hc fl_RX8_119 (mW_o hN) rfl dX8_fall_1 ?_
  refine sw_bipush (pc := 4) (v := 16) hc dX8_fall_4 (by decide) ?_
  refine sw_idiv (pc := 6) hc dX8_fall_6 (by decide) ?_
  refine sw_st (st' := [.int (nI (cN (σ 32 0)))]) (by rw [show (σ 32 0) / 16 = nI (cN (σ 32 0)) from (cN_x hw.1).1]) ?_
  refine sw_istore_n (pc := 7) hc dX8_fall_7 rfl (by decide) (lv' := [(2, .int (nI (cN (σ 32 0)))), (0, .ref m0), (1, .int (nI a))]) rfl ?_
  refine sw_aload_n (pc := 8) hc dX8_fall_8 rfl 1 rfl ?_
  refine sw_get (pc := 9) (v := .int (σ 35 0)) hc fl_RX8_125 (mW_o hN) rfl dX8_fall_9 ?_
  refine sw_if_eq (pc := 12) (tgt := 47) hc dX8_fall_12 (by decide) (fun c_20 => ?_) (fun c_20 => ?_)
  ·
    have h_21 : σ = rFall1 σ a := by first | with_reducible rfl | (first | with_reducible rfl | (simp [-Int32.not_le, -Int32.not_lt, rFall1, st2_a, c_20]; done) | (((try simp only [st2_a, Nat.reduceBEq, Bool.false_and, Bool.true_and, beq_self_eq_true, cond_false, cond_true] at c_20) <;> simp [-Int32.not_le, -Int32.not_lt, rFall1, st2_a, c_20]); done) | ((try simp only [rFall1]); (repeat' split) <;> simp_all [-Int32.not_le, -Int32.not_lt, st2_a, rGap, rWall]; done))
    exact sw_sub (ks := [1, 2, 0]) rfl (K_47 σ h_21)
  ·
    refine sw_aload_n (pc := 15) hc dX8_fall_15 rfl 1 rfl ?_
    refine sw_iload_n (pc := 16) hc dX8_fall_16 rfl 2 rfl ?_
    refine sw_iload_n (pc := 17) hc dX8_fall_17 rfl 0 rfl ?_
    refine sw_callV (pc := 18) (rest := []) hc (c_X8_gap l g C m0 q σ a (cN (σ 32 0)) hN (by have := (cN_x hw.1).2; omega)) md_X8_gap ml_RX8_108 im_X8_gap sl_X8_gap (mW_o hN) rfl rfl rfl (Nat.le_of_ble_eq_true rfl) dX8_fall_18 ⟨Nat.le_of_ble_eq_true rfl, Nat.le_of_ble_eq_true rfl, Nat.le_of_ble_eq_true rfl, Nat.le_of_ble_eq_true rfl⟩ (fun v C' hP => ?_) (fun _ _ h => h.elim)
    obtain ⟨rfl, rfl⟩ := hP
    refine sw_st (st' := [.int (bI (rGap σ a (cN (σ 32 0))))]) rfl ?_
    refine sw_if_ne (pc := 21) (tgt := 37) hc dX8_fall_21 (by decide) (fun c_22 => ?_) (fun c_22 => ?_)
    ·
      have p_23 : rGap σ a (cN (σ 32 0)) := bI_n c_22
      refine sw_aload_n (pc := 37) hc dX8_fall_37 rfl 1 rfl ?_
      refine sw_iconst (pc := 38) (v := 0) hc dX8_fall_38 (by decide) ?_
      refine sw_put (pc := 39) (k := 35) hc fl_RX8_125 ty_9 fp_9_35 (mW_o hN) rfl rfl (Nat.le_of_ble_eq_true rfl) rfl dX8_fall_39 ?_
      refine sw_eq (mW_p35 hN) ?_
      refine sw_aload_n (pc := 42) hc dX8_fall_42 rfl 1 rfl ?_
      refine sw_iconst (pc := 43) (v := 0) hc dX8_fall_43 (by decide) ?_
      refine sw_put (pc := 44) (k := 34) hc fl_RX8_122 ty_9 fp_9_34 (mW_o hN) rfl rfl (Nat.le_of_ble_eq_true rfl) rfl dX8_fall_44 ?_
      refine sw_eq (mW_p34 hN) ?_
      have h_24 : st2 (st2 σ 35 0 0) 34 0 0 = rFall1 σ a := by first | with_reducible rfl | (first | with_reducible rfl | (simp [-Int32.not_le, -Int32.not_lt, rFall1, st2_a, c_20, p_23]; done) | (((try simp only [st2_a, Nat.reduceBEq, Bool.false_and, Bool.true_and, beq_self_eq_true, cond_false, cond_true] at c_20 p_23) <;> simp [-Int32.not_le, -Int32.not_lt, rFall1, st2_a, c_20, p_23]); done) | ((try simp only [rFall1]); (repeat' split) <;> simp_all [-Int32.not_le, -Int32.not_lt, st2_a, rGap, rWall]; done))
      exact sw_sub (ks := [1, 2, 0]) rfl (K_47 (st2 (st2 σ 35 0 0) 34 0 0) h_24)
    ·
      have p_25 : ¬ (rGap σ a (cN (σ 32 0))) := bI_0 c_22
      refine sw_aload_n (pc := 24) hc dX8_fall_24 rfl 1 rfl ?_
      refine sw_iload_n (pc := 25) hc dX8_fall_25 rfl 2 rfl ?_
      refine sw_iload_n (pc := 26) hc dX8_fall_26 rfl 0 rfl ?_
      refine sw_callV (pc := 27) (rest := []) hc (c_X8_ground l g C m0 q σ a (cN (σ 32 0)) hN (by have := (cN_x hw.1).2; omega)) md_X8_ground ml_RX8_112 im_X8_ground sl_X8_ground (mW_o hN) rfl rfl rfl (Nat.le_of_ble_eq_true rfl) dX8_fall_27 ⟨Nat.le_of_ble_eq_true rfl, Nat.le_of_ble_eq_true rfl, Nat.le_of_ble_eq_true rfl, Nat.le_of_ble_eq_true rfl⟩ (fun v C' hP => ?_) (fun _ _ h => h.elim)
      obtain ⟨rfl, rfl⟩ := hP
      refine sw_st (st' := [.int (rGnd σ a (cN (σ 32 0)))]) rfl ?_
      refine sw_aload_n (pc := 30) hc dX8_fall_30 rfl 1 rfl ?_
      refine sw_get (pc := 31) (v := .int (σ 33 0)) hc fl_RX8_116 (mW_o hN) rfl dX8_fall_31 ?_
      refine sw_icmp_ge (pc := 34) (tgt := 47) hc dX8_fall_34 (by decide) (fun c_26 => ?_) (fun c_26 => ?_)
      ·
        have c_26' := Int32.not_lt.mpr c_26
        have h_27 : σ = rFall1 σ a := by first | with_reducible rfl | (first | with_reducible rfl | (simp [-Int32.not_le, -Int32.not_lt, rFall1, st2_a, c_20, p_25, c_26, c_26']; done) | (((try simp only [st2_a, Nat.reduceBEq, Bool.false_and, Bool.true_and, beq_self_eq_true, cond_false, cond_true] at c_20 p_25 c_26 c_26') <;> simp [-Int32.not_le, -Int32.not_lt, rFall1, st2_a, c_20, p_25, c_26, c_26']); done) | ((try simp only [rFall1]); (repeat' split) <;> simp_all [-Int32.not_le, -Int32.not_lt, st2_a, rGap, rWall]; done))
        exact sw_sub (ks := [1, 2, 0]) rfl (K_47 σ h_27)
      ·
        have c_26' := Int32.not_le.mp c_26
        refine sw_aload_n (pc := 37) hc dX8_fall_37 rfl 1 rfl ?_
        refine sw_iconst (pc := 38) (v := 0) hc dX8_fall_38 (by decide) ?_
        refine sw_put (pc := 39) (k := 35) hc fl_RX8_125 ty_9 fp_9_35 (mW_o hN) rfl rfl (Nat.le_of_ble_eq_true rfl) rfl dX8_fall_39 ?_
        refine sw_eq (mW_p35 hN) ?_
        refine sw_aload_n (pc := 42) hc dX8_fall_42 rfl 1 rfl ?_
        refine sw_iconst (pc := 43) (v := 0) hc dX8_fall_43 (by decide) ?_
        refine sw_put (pc := 44) (k := 34) hc fl_RX8_122 ty_9 fp_9_34 (mW_o hN) rfl rfl (Nat.le_of_ble_eq_true rfl) rfl dX8_fall_44 ?_
        refine sw_eq (mW_p34 hN) ?_
        have h_28 : st2 (st2 σ 35 0 0) 34 0 0 = rFall1 σ a := by first | with_reducible rfl | (first | with_reducible rfl | (simp [-Int32.not_le, -Int32.not_lt, rFall1, st2_a, c_20, p_25, c_26, c_26']; done) | (((try simp only [st2_a, Nat.reduceBEq, Bool.false_and, Bool.true_and, beq_self_eq_true, cond_false, cond_true] at c_20 p_25 c_26 c_26') <;> simp [-Int32.not_le, -Int32.not_lt, rFall1, st2_a, c_20, p_25, c_26, c_26']); done) | ((try simp only [rFall1]); (repeat' split) <;> simp_all [-Int32.not_le, -Int32.not_lt, st2_a, rGap, rWall]; done))
        exact sw_sub (ks := [1, 2, 0]) rfl (K_47 (st2 (st2 σ 35 0 0) 34 0 0) h_28)

set_option maxHeartbeats 4000000 in
set_option maxRecDepth 100000 in
theorem c_X8_meet (l : Launch) (g : sg_G) (C : Nat → Option va_E) (m0 : Nat) (q : Nat → Nat) (σ : Mem) (a : Nat) (hN : mN m0 q) (ha : a < 3) (hw : rHW σ) : sg_Met l yX8_meet cX8_meet 5 none 1 22 0 0 g [.ref m0, .int (nI a)] (sg_ov C (mW g m0 q σ)) (fun v C' => v = none ∧ C' = sg_ov C (mW g m0 q (rMeet σ a))) sg_no := by
  refine sg_ofW (by decide) rfl ?_ (Nat.le_of_ble_eq_true rfl)
  intro p e s m below meth c hc hlk hrt hin2 htb
  have hc : sg_Cx p s m _ c cX8_meet 5 RX8 g := hc
  show sg_W p l e _ s m _ below meth c 5 g 0 0 _ (sg_ov C (mW g m0 q σ)) 0 [(0, .ref m0), (1, .int (nI a))] []
  have K_107 : ∀ (τ : Mem) (v2 : Int32) (eτ : τ = rMeet1 σ a (cN (σ 32 0))) (ev2 : v2 = rFate (rMeet1 σ a (cN (σ 32 0))) (cN (σ 32 0)) (σ 1 (32 * a + cN (σ 32 0)))), sg_W p l e (sg_rm 1 22 0 0) s m ([.ref m0, .int (nI a)] : List Value).toArray below meth c 5 g 0 0 (sg_End below g (fun v C' => v = none ∧ C' = sg_ov C (mW g m0 q (rMeet σ a))) sg_no ([.ref m0, .int (nI a)] : List Value).toArray s 0 0) (sg_ov C (mW g m0 q τ)) 107 [(0, .ref m0), (1, .int (nI a))] [.int v2, .ref m0] := by
    intro τ v2 eτ ev2
    refine sw_put (pc := 107) (k := 41) hc fl_RX8_144 ty_9 fp_9_41 (mW_o hN) rfl rfl (Nat.le_of_ble_eq_true rfl) rfl dX8_meet_107 ?_
    refine sw_eq (mW_p41 hN) ?_
    have h_1 : st2 τ 41 0 v2 = rMeet σ a := by (subst eτ ev2; rfl)
    exact sw_vret (pc := 110) hc hlk hrt ⟨rfl, (congrArg (fun z => sg_ov C (mW g m0 q z)) h_1)⟩ (Nat.le_of_ble_eq_true rfl) (Nat.le_of_ble_eq_true rfl) dX8_meet_110
  have K_70 : ∀ (τ : Mem) (eτ : τ = rMeet1 σ a (cN (σ 32 0))), sg_W p l e (sg_rm 1 22 0 0) s m ([.ref m0, .int (nI a)] : List Value).toArray below meth c 5 g 0 0 (sg_End below g (fun v C' => v = none ∧ C' = sg_ov C (mW g m0 q (rMeet σ a))) sg_no ([.ref m0, .int (nI a)] : List Value).toArray s 0 0) (sg_ov C (mW g m0 q τ)) 70 [(0, .ref m0), (1, .int (nI a)), (2, .int (nI (cN (σ 32 0)))), (3, .int (σ 1 (32 * a + cN (σ 32 0))))] [] := by
    intro τ eτ
    refine sw_aload_n (pc := 70) hc dX8_meet_70 rfl 0 rfl ?_
    refine sw_aload_n (pc := 71) hc dX8_meet_71 rfl 0 rfl ?_
    refine sw_get (pc := 72) (v := .int (τ 33 0)) hc fl_RX8_116 (mW_o hN) rfl dX8_meet_72 ?_
    refine sw_bipush (pc := 75) (v := (-32)) hc dX8_meet_75 (by decide) ?_
    refine sw_icmp_lt (pc := 77) (tgt := 92) hc dX8_meet_77 (by decide) (fun c_2 => ?_) (fun c_2 => ?_)
    ·
      have c_2' := Int32.not_le.mpr c_2
      refine sw_iconst (pc := 92) (v := 2) hc dX8_meet_92 (by decide) ?_
      refine sw_goto (pc := 93) (tgt := 107) hc dX8_meet_93 (by decide) ?_
      have h_3 : τ = rMeet1 σ a (cN (σ 32 0)) := by first | with_reducible rfl | (subst eτ; first | with_reducible rfl | (simp [-Int32.not_le, -Int32.not_lt, rFate, st2_a, c_2, c_2']; done) | (((try simp only [st2_a, Nat.reduceBEq, Bool.false_and, Bool.true_and, beq_self_eq_true, cond_false, cond_true] at c_2 c_2') <;> simp [-Int32.not_le, -Int32.not_lt, rFate, st2_a, c_2, c_2']); done) | ((try simp only [rFate]); (repeat' split) <;> simp_all [-Int32.not_le, -Int32.not_lt, st2_a, rGap, rWall]; done))
      have h_4 : 2 = rFate (rMeet1 σ a (cN (σ 32 0))) (cN (σ 32 0)) (σ 1 (32 * a + cN (σ 32 0))) := by first | with_reducible rfl | (subst eτ; first | with_reducible rfl | (simp [-Int32.not_le, -Int32.not_lt, rFate, st2_a, c_2, c_2']; done) | (((try simp only [st2_a, Nat.reduceBEq, Bool.false_and, Bool.true_and, beq_self_eq_true, cond_false, cond_true] at c_2 c_2') <;> simp [-Int32.not_le, -Int32.not_lt, rFate, st2_a, c_2, c_2']); done) | ((try simp only [rFate]); (repeat' split) <;> simp_all [-Int32.not_le, -Int32.not_lt, st2_a, rGap, rWall]; done))
      exact sw_sub (ks := [0, 1]) rfl (K_107 τ 2 h_3 h_4)
    ·
      have c_2' := Int32.not_lt.mp c_2
      refine sw_aload_n (pc := 80) hc dX8_meet_80 rfl 0 rfl ?_
      refine sw_get (pc := 81) (v := .int (τ 35 0)) hc fl_RX8_125 (mW_o hN) rfl dX8_meet_81 ?_
      refine sw_if_eq (pc := 84) (tgt := 96) hc dX8_meet_84 (by decide) (fun c_5 => ?_) (fun c_5 => ?_)
      ·
        refine sw_iload_n (pc := 96) hc dX8_meet_96 rfl 2 rfl ?_
        refine sw_bipush (pc := 97) (v := 31) hc dX8_meet_97 (by decide) ?_
        refine sw_icmp_ne (pc := 99) (tgt := 106) hc dX8_meet_99 (by decide) (fun c_6 => ?_) (fun c_6 => ?_)
        ·
          refine sw_iconst (pc := 106) (v := 0) hc dX8_meet_106 (by decide) ?_
          have h_7 : τ = rMeet1 σ a (cN (σ 32 0)) := by first | with_reducible rfl | (subst eτ; first | with_reducible rfl | (simp [-Int32.not_le, -Int32.not_lt, rFate, st2_a, c_2, c_2', c_5, c_6]; done) | (((try simp only [st2_a, Nat.reduceBEq, Bool.false_and, Bool.true_and, beq_self_eq_true, cond_false, cond_true] at c_2 c_2' c_5 c_6) <;> simp [-Int32.not_le, -Int32.not_lt, rFate, st2_a, c_2, c_2', c_5, c_6]); done) | ((try simp only [rFate]); (repeat' split) <;> simp_all [-Int32.not_le, -Int32.not_lt, st2_a, rGap, rWall]; done))
          have h_8 : 0 = rFate (rMeet1 σ a (cN (σ 32 0))) (cN (σ 32 0)) (σ 1 (32 * a + cN (σ 32 0))) := by first | with_reducible rfl | (subst eτ; first | with_reducible rfl | (simp [-Int32.not_le, -Int32.not_lt, rFate, st2_a, c_2, c_2', c_5, c_6]; done) | (((try simp only [st2_a, Nat.reduceBEq, Bool.false_and, Bool.true_and, beq_self_eq_true, cond_false, cond_true] at c_2 c_2' c_5 c_6) <;> simp [-Int32.not_le, -Int32.not_lt, rFate, st2_a, c_2, c_2', c_5, c_6]); done) | ((try simp only [rFate]); (repeat' split) <;> simp_all [-Int32.not_le, -Int32.not_lt, st2_a, rGap, rWall]; done))
          exact sw_sub (ks := [0, 1]) rfl (K_107 τ 0 h_7 h_8)
        ·
          refine sw_iconst (pc := 102) (v := 1) hc dX8_meet_102 (by decide) ?_
          refine sw_goto (pc := 103) (tgt := 107) hc dX8_meet_103 (by decide) ?_
          have h_9 : τ = rMeet1 σ a (cN (σ 32 0)) := by first | with_reducible rfl | (subst eτ; first | with_reducible rfl | (simp [-Int32.not_le, -Int32.not_lt, rFate, st2_a, c_2, c_2', c_5, c_6]; done) | (((try simp only [st2_a, Nat.reduceBEq, Bool.false_and, Bool.true_and, beq_self_eq_true, cond_false, cond_true] at c_2 c_2' c_5 c_6) <;> simp [-Int32.not_le, -Int32.not_lt, rFate, st2_a, c_2, c_2', c_5, c_6]); done) | ((try simp only [rFate]); (repeat' split) <;> simp_all [-Int32.not_le, -Int32.not_lt, st2_a, rGap, rWall]; done))
          have h_10 : 1 = rFate (rMeet1 σ a (cN (σ 32 0))) (cN (σ 32 0)) (σ 1 (32 * a + cN (σ 32 0))) := by first | with_reducible rfl | (subst eτ; first | with_reducible rfl | (simp [-Int32.not_le, -Int32.not_lt, rFate, st2_a, c_2, c_2', c_5, c_6]; done) | (((try simp only [st2_a, Nat.reduceBEq, Bool.false_and, Bool.true_and, beq_self_eq_true, cond_false, cond_true] at c_2 c_2' c_5 c_6) <;> simp [-Int32.not_le, -Int32.not_lt, rFate, st2_a, c_2, c_2', c_5, c_6]); done) | ((try simp only [rFate]); (repeat' split) <;> simp_all [-Int32.not_le, -Int32.not_lt, st2_a, rGap, rWall]; done))
          exact sw_sub (ks := [0, 1]) rfl (K_107 τ 1 h_9 h_10)
      ·
        refine sw_iload_n (pc := 87) hc dX8_meet_87 rfl 3 rfl ?_
        refine sw_iconst (pc := 88) (v := 2) hc dX8_meet_88 (by decide) ?_
        refine sw_icmp_ne (pc := 89) (tgt := 96) hc dX8_meet_89 (by decide) (fun c_11 => ?_) (fun c_11 => ?_)
        ·
          refine sw_iload_n (pc := 96) hc dX8_meet_96 rfl 2 rfl ?_
          refine sw_bipush (pc := 97) (v := 31) hc dX8_meet_97 (by decide) ?_
          refine sw_icmp_ne (pc := 99) (tgt := 106) hc dX8_meet_99 (by decide) (fun c_12 => ?_) (fun c_12 => ?_)
          ·
            refine sw_iconst (pc := 106) (v := 0) hc dX8_meet_106 (by decide) ?_
            have h_13 : τ = rMeet1 σ a (cN (σ 32 0)) := by first | with_reducible rfl | (subst eτ; first | with_reducible rfl | (simp [-Int32.not_le, -Int32.not_lt, rFate, st2_a, c_2, c_2', c_5, c_11, c_12]; done) | (((try simp only [st2_a, Nat.reduceBEq, Bool.false_and, Bool.true_and, beq_self_eq_true, cond_false, cond_true] at c_2 c_2' c_5 c_11 c_12) <;> simp [-Int32.not_le, -Int32.not_lt, rFate, st2_a, c_2, c_2', c_5, c_11, c_12]); done) | ((try simp only [rFate]); (repeat' split) <;> simp_all [-Int32.not_le, -Int32.not_lt, st2_a, rGap, rWall]; done))
            have h_14 : 0 = rFate (rMeet1 σ a (cN (σ 32 0))) (cN (σ 32 0)) (σ 1 (32 * a + cN (σ 32 0))) := by first | with_reducible rfl | (subst eτ; first | with_reducible rfl | (simp [-Int32.not_le, -Int32.not_lt, rFate, st2_a, c_2, c_2', c_5, c_11, c_12]; done) | (((try simp only [st2_a, Nat.reduceBEq, Bool.false_and, Bool.true_and, beq_self_eq_true, cond_false, cond_true] at c_2 c_2' c_5 c_11 c_12) <;> simp [-Int32.not_le, -Int32.not_lt, rFate, st2_a, c_2, c_2', c_5, c_11, c_12]); done) | ((try simp only [rFate]); (repeat' split) <;> simp_all [-Int32.not_le, -Int32.not_lt, st2_a, rGap, rWall]; done))
            exact sw_sub (ks := [0, 1]) rfl (K_107 τ 0 h_13 h_14)
          ·
            refine sw_iconst (pc := 102) (v := 1) hc dX8_meet_102 (by decide) ?_
            refine sw_goto (pc := 103) (tgt := 107) hc dX8_meet_103 (by decide) ?_
            have h_15 : τ = rMeet1 σ a (cN (σ 32 0)) := by first | with_reducible rfl | (subst eτ; first | with_reducible rfl | (simp [-Int32.not_le, -Int32.not_lt, rFate, st2_a, c_2, c_2', c_5, c_11, c_12]; done) | (((try simp only [st2_a, Nat.reduceBEq, Bool.false_and, Bool.true_and, beq_self_eq_true, cond_false, cond_true] at c_2 c_2' c_5 c_11 c_12) <;> simp [-Int32.not_le, -Int32.not_lt, rFate, st2_a, c_2, c_2', c_5, c_11, c_12]); done) | ((try simp only [rFate]); (repeat' split) <;> simp_all [-Int32.not_le, -Int32.not_lt, st2_a, rGap, rWall]; done))
            have h_16 : 1 = rFate (rMeet1 σ a (cN (σ 32 0))) (cN (σ 32 0)) (σ 1 (32 * a + cN (σ 32 0))) := by first | with_reducible rfl | (subst eτ; first | with_reducible rfl | (simp [-Int32.not_le, -Int32.not_lt, rFate, st2_a, c_2, c_2', c_5, c_11, c_12]; done) | (((try simp only [st2_a, Nat.reduceBEq, Bool.false_and, Bool.true_and, beq_self_eq_true, cond_false, cond_true] at c_2 c_2' c_5 c_11 c_12) <;> simp [-Int32.not_le, -Int32.not_lt, rFate, st2_a, c_2, c_2', c_5, c_11, c_12]); done) | ((try simp only [rFate]); (repeat' split) <;> simp_all [-Int32.not_le, -Int32.not_lt, st2_a, rGap, rWall]; done))
            exact sw_sub (ks := [0, 1]) rfl (K_107 τ 1 h_15 h_16)
        ·
          refine sw_iconst (pc := 92) (v := 2) hc dX8_meet_92 (by decide) ?_
          refine sw_goto (pc := 93) (tgt := 107) hc dX8_meet_93 (by decide) ?_
          have h_17 : τ = rMeet1 σ a (cN (σ 32 0)) := by first | with_reducible rfl | (subst eτ; first | with_reducible rfl | (simp [-Int32.not_le, -Int32.not_lt, rFate, st2_a, c_2, c_2', c_5, c_11]; done) | (((try simp only [st2_a, Nat.reduceBEq, Bool.false_and, Bool.true_and, beq_self_eq_true, cond_false, cond_true] at c_2 c_2' c_5 c_11) <;> simp [-Int32.not_le, -Int32.not_lt, rFate, st2_a, c_2, c_2', c_5, c_11]); done) | ((try simp only [rFate]); (repeat' split) <;> simp_all [-Int32.not_le, -Int32.not_lt, st2_a, rGap, rWall]; done))
          have h_18 : 2 = rFate (rMeet1 σ a (cN (σ 32 0))) (cN (σ 32 0)) (σ 1 (32 * a + cN (σ 32 0))) := by first | with_reducible rfl | (subst eτ; first | with_reducible rfl | (simp [-Int32.not_le, -Int32.not_lt, rFate, st2_a, c_2, c_2', c_5, c_11]; done) | (((try simp only [st2_a, Nat.reduceBEq, Bool.false_and, Bool.true_and, beq_self_eq_true, cond_false, cond_true] at c_2 c_2' c_5 c_11) <;> simp [-Int32.not_le, -Int32.not_lt, rFate, st2_a, c_2, c_2', c_5, c_11]); done) | ((try simp only [rFate]); (repeat' split) <;> simp_all [-Int32.not_le, -Int32.not_lt, st2_a, rGap, rWall]; done))
          exact sw_sub (ks := [0, 1]) rfl (K_107 τ 2 h_17 h_18)
  have K_39 : ∀ (v : Int32) (ev : v = rBase σ a (cN (σ 32 0))), sg_W p l e (sg_rm 1 22 0 0) s m ([.ref m0, .int (nI a)] : List Value).toArray below meth c 5 g 0 0 (sg_End below g (fun v C' => v = none ∧ C' = sg_ov C (mW g m0 q (rMeet σ a))) sg_no ([.ref m0, .int (nI a)] : List Value).toArray s 0 0) (sg_ov C (mW g m0 q σ)) 39 [(0, .ref m0), (1, .int (nI a)), (2, .int (nI (cN (σ 32 0)))), (3, .int (σ 1 (32 * a + cN (σ 32 0))))] [.int v] := by
    intro v ev
    refine sw_istore (pc := 39) hc dX8_meet_39 (by decide) (lv' := [(4, .int v), (0, .ref m0), (1, .int (nI a)), (2, .int (nI (cN (σ 32 0)))), (3, .int (σ 1 (32 * a + cN (σ 32 0))))]) rfl ?_
    refine sw_iload_n (pc := 41) hc dX8_meet_41 rfl 4 rfl ?_
    refine sw_iconst (pc := 42) (v := 1) hc dX8_meet_42 (by decide) ?_
    refine sw_icmp_ne (pc := 43) (tgt := 70) hc dX8_meet_43 (by decide) (fun c_19 => ?_) (fun c_19 => ?_)
    ·
      have h_20 : σ = rMeet1 σ a (cN (σ 32 0)) := by first | with_reducible rfl | (subst ev; first | with_reducible rfl | (simp [-Int32.not_le, -Int32.not_lt, rMeet1, st2_a, c_19]; done) | (((try simp only [st2_a, Nat.reduceBEq, Bool.false_and, Bool.true_and, beq_self_eq_true, cond_false, cond_true] at c_19) <;> simp [-Int32.not_le, -Int32.not_lt, rMeet1, st2_a, c_19]); done) | ((try simp only [rMeet1]); (repeat' split) <;> simp_all [-Int32.not_le, -Int32.not_lt, st2_a, rGap, rWall]; done))
      exact sw_sub (ks := [1, 2, 3, 4]) rfl (K_70 σ h_20)
    ·
      refine sw_aload_n (pc := 46) hc dX8_meet_46 rfl 1 rfl ?_
      refine sw_get (pc := 47) (v := .int (σ 33 0)) hc fl_RX8_116 (mW_o hN) rfl dX8_meet_47 ?_
      refine sw_iload (pc := 50) hc dX8_meet_50 0 rfl ?_
      refine sw_isub (pc := 52) hc dX8_meet_52 ?_
      refine sw_bipush (pc := 53) (v := 24) hc dX8_meet_53 (by decide) ?_
      refine sw_icmp_gt (pc := 55) (tgt := 70) hc dX8_meet_55 (by decide) (fun c_21 => ?_) (fun c_21 => ?_)
      ·
        have c_21' := Int32.not_le.mpr c_21
        have h_22 : σ = rMeet1 σ a (cN (σ 32 0)) := by first | with_reducible rfl | (subst ev; first | with_reducible rfl | (simp [-Int32.not_le, -Int32.not_lt, rMeet1, st2_a, c_19, c_21, c_21']; done) | (((try simp only [st2_a, Nat.reduceBEq, Bool.false_and, Bool.true_and, beq_self_eq_true, cond_false, cond_true] at c_19 c_21 c_21') <;> simp [-Int32.not_le, -Int32.not_lt, rMeet1, st2_a, c_19, c_21, c_21']); done) | ((try simp only [rMeet1]); (repeat' split) <;> simp_all [-Int32.not_le, -Int32.not_lt, st2_a, rGap, rWall]; done))
        exact sw_sub (ks := [1, 2, 3, 4]) rfl (K_70 σ h_22)
      ·
        have c_21' := Int32.not_lt.mp c_21
        refine sw_aload_n (pc := 58) hc dX8_meet_58 rfl 1 rfl ?_
        refine sw_dup (pc := 59) hc dX8_meet_59 rfl ?_
        refine sw_get (pc := 60) (v := .int (σ 37 0)) hc fl_RX8_132 (mW_o hN) rfl dX8_meet_60 ?_
        refine sw_iconst (pc := 63) (v := 1) hc dX8_meet_63 (by decide) ?_
        refine sw_iload_n (pc := 64) hc dX8_meet_64 rfl 3 rfl ?_
        refine sw_ishl (pc := 65) hc dX8_meet_65 ?_
        refine sw_ior (pc := 66) hc dX8_meet_66 ?_
        refine sw_put (pc := 67) (k := 37) hc fl_RX8_132 ty_9 fp_9_37 (mW_o hN) rfl rfl (Nat.le_of_ble_eq_true rfl) rfl dX8_meet_67 ?_
        refine sw_eq (mW_p37 hN) ?_
        have h_23 : st2 σ 37 0 ((σ 37 0) ||| (1 <<< ((nI (cN (σ 32 0))) &&& 31))) = rMeet1 σ a (cN (σ 32 0)) := by first | with_reducible rfl | (subst ev; first | with_reducible rfl | (simp [-Int32.not_le, -Int32.not_lt, rMeet1, st2_a, c_19, c_21, c_21']; done) | (((try simp only [st2_a, Nat.reduceBEq, Bool.false_and, Bool.true_and, beq_self_eq_true, cond_false, cond_true] at c_19 c_21 c_21') <;> simp [-Int32.not_le, -Int32.not_lt, rMeet1, st2_a, c_19, c_21, c_21']); done) | ((try simp only [rMeet1]); (repeat' split) <;> simp_all [-Int32.not_le, -Int32.not_lt, st2_a, rGap, rWall]; done))
        exact sw_sub (ks := [1, 2, 3, 4]) rfl (K_70 (st2 σ 37 0 ((σ 37 0) ||| (1 <<< ((nI (cN (σ 32 0))) &&& 31)))) h_23)
  refine sw_aload_n (pc := 0) hc dX8_meet_0 rfl 0 rfl ?_
  refine sw_get (pc := 1) (v := .int (σ 32 0)) hc fl_RX8_119 (mW_o hN) rfl dX8_meet_1 ?_
  refine sw_bipush (pc := 4) (v := 16) hc dX8_meet_4 (by decide) ?_
  refine sw_idiv (pc := 6) hc dX8_meet_6 (by decide) ?_
  refine sw_st (st' := [.int (nI (cN (σ 32 0)))]) (by rw [show (σ 32 0) / 16 = nI (cN (σ 32 0)) from (cN_x hw.1).1]) ?_
  refine sw_istore_n (pc := 7) hc dX8_meet_7 rfl (by decide) (lv' := [(2, .int (nI (cN (σ 32 0)))), (0, .ref m0), (1, .int (nI a))]) rfl ?_
  refine sw_aload_n (pc := 8) hc dX8_meet_8 rfl 1 rfl ?_
  refine sw_get (pc := 9) (v := .ref (q 1)) hc fl_RX8_13 (mW_o hN) rfl dX8_meet_9 ?_
  refine sw_bipush (pc := 12) (v := 32) hc dX8_meet_12 (by decide) ?_
  refine sw_iload_n (pc := 14) hc dX8_meet_14 rfl 2 rfl ?_
  refine sw_imul (pc := 15) hc dX8_meet_15 ?_
  refine sw_iload_n (pc := 16) hc dX8_meet_16 rfl 0 rfl ?_
  refine sw_iadd (pc := 17) hc dX8_meet_17 ?_
  refine sw_iald (pc := 18) (j := 32 * a + (cN (σ 32 0))) hc (mW_a1 hN) ((rfl).trans (nI_ix 32)) (by have := (cN_x hw.1).2; omega) (by decide) dX8_meet_18 ?_
  refine sw_istore_n (pc := 19) hc dX8_meet_19 rfl (by decide) (lv' := [(3, .int (σ 1 (32 * a + (cN (σ 32 0))))), (2, .int (nI (cN (σ 32 0)))), (0, .ref m0), (1, .int (nI a))]) rfl ?_
  refine sw_aload_n (pc := 20) hc dX8_meet_20 rfl 2 rfl ?_
  refine sw_iload_n (pc := 21) hc dX8_meet_21 rfl 3 rfl ?_
  refine sw_iload_n (pc := 22) hc dX8_meet_22 rfl 1 rfl ?_
  refine sw_callV (pc := 23) (rest := []) hc (c_X8_gap l g C m0 q σ a (cN (σ 32 0)) hN (by have := (cN_x hw.1).2; omega)) md_X8_gap ml_RX8_108 im_X8_gap sl_X8_gap (mW_o hN) rfl rfl rfl (Nat.le_of_ble_eq_true rfl) dX8_meet_23 ⟨Nat.le_of_ble_eq_true rfl, Nat.le_of_ble_eq_true rfl, Nat.le_of_ble_eq_true rfl, Nat.le_of_ble_eq_true rfl⟩ (fun v C' hP => ?_) (fun _ _ h => h.elim)
  obtain ⟨rfl, rfl⟩ := hP
  refine sw_st (st' := [.int (bI (rGap σ a (cN (σ 32 0))))]) rfl ?_
  refine sw_if_eq (pc := 26) (tgt := 33) hc dX8_meet_26 (by decide) (fun c_24 => ?_) (fun c_24 => ?_)
  ·
    have p_25 : ¬ (rGap σ a (cN (σ 32 0))) := bI_0 c_24
    refine sw_aload_n (pc := 33) hc dX8_meet_33 rfl 2 rfl ?_
    refine sw_iload_n (pc := 34) hc dX8_meet_34 rfl 3 rfl ?_
    refine sw_iload_n (pc := 35) hc dX8_meet_35 rfl 1 rfl ?_
    refine sw_callV (pc := 36) (rest := []) hc (c_X8_ground l g C m0 q σ a (cN (σ 32 0)) hN (by have := (cN_x hw.1).2; omega)) md_X8_ground ml_RX8_112 im_X8_ground sl_X8_ground (mW_o hN) rfl rfl rfl (Nat.le_of_ble_eq_true rfl) dX8_meet_36 ⟨Nat.le_of_ble_eq_true rfl, Nat.le_of_ble_eq_true rfl, Nat.le_of_ble_eq_true rfl, Nat.le_of_ble_eq_true rfl⟩ (fun v C' hP => ?_) (fun _ _ h => h.elim)
    obtain ⟨rfl, rfl⟩ := hP
    refine sw_st (st' := [.int (rGnd σ a (cN (σ 32 0)))]) rfl ?_
    have h_26 : rGnd σ a (cN (σ 32 0)) = rBase σ a (cN (σ 32 0)) := by first | with_reducible rfl | (first | with_reducible rfl | (simp [-Int32.not_le, -Int32.not_lt, rBase, st2_a, p_25]; done) | (((try simp only [st2_a, Nat.reduceBEq, Bool.false_and, Bool.true_and, beq_self_eq_true, cond_false, cond_true] at p_25) <;> simp [-Int32.not_le, -Int32.not_lt, rBase, st2_a, p_25]); done) | ((try simp only [rBase]); (repeat' split) <;> simp_all [-Int32.not_le, -Int32.not_lt, st2_a, rGap, rWall]; done))
    exact sw_sub (ks := [2, 3, 1, 0]) rfl (K_39 (rGnd σ a (cN (σ 32 0))) h_26)
  ·
    have p_27 : rGap σ a (cN (σ 32 0)) := bI_n c_24
    refine sw_iconst (pc := 29) (v := 0) hc dX8_meet_29 (by decide) ?_
    refine sw_goto (pc := 30) (tgt := 39) hc dX8_meet_30 (by decide) ?_
    have h_28 : 0 = rBase σ a (cN (σ 32 0)) := by first | with_reducible rfl | (first | with_reducible rfl | (simp [-Int32.not_le, -Int32.not_lt, rBase, st2_a, p_27]; done) | (((try simp only [st2_a, Nat.reduceBEq, Bool.false_and, Bool.true_and, beq_self_eq_true, cond_false, cond_true] at p_27) <;> simp [-Int32.not_le, -Int32.not_lt, rBase, st2_a, p_27]); done) | ((try simp only [rBase]); (repeat' split) <;> simp_all [-Int32.not_le, -Int32.not_lt, st2_a, rGap, rWall]; done))
    exact sw_sub (ks := [2, 3, 1, 0]) rfl (K_39 0 h_28)

