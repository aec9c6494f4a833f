
theorem rIn_x {σ : Mem} {k : Nat} {x : Int32} {b : Nat} (h : isN (σ k 0) b) (hb : b ≤ 1000) (p : rIn σ k x) : x = nI (iN x) ∧ iN x < iN (σ k 0) := by
  obtain ⟨p1, p2⟩ := p
  obtain ⟨j, hj, rfl⟩ := nI_of (Int32.not_lt.mpr p1)
  rw [iN, nI_clamp hj]
  refine ⟨rfl, ?_⟩
  rw [h.1] at p2
  have hk := h.2
  generalize iN (σ k 0) = K at p2 hk
  rcases Nat.lt_or_ge j K with q | q
  · exact q
  · exfalso
    have e := Int32.le_iff_toInt_le.mp p2
    rw [nI_toInt hj, show (1 : Int32) = nI 1 from rfl, pk_sub_toInt (by omega) (by omega)] at e
    omega
theorem rng_x {x : Int32} {n : Nat} (hn : n < 1000) (h : 0 ≤ x ∧ x ≤ nI n) : x = nI (iN x) ∧ iN x ≤ n := by
  obtain ⟨j, hj, rfl⟩ := nI_of (Int32.not_lt.mpr h.1)
  rw [iN, nI_clamp hj]
  exact ⟨rfl, by have := (nI_leI (a := j) (b := n) hj (by omega)).mp h.2; omega⟩
theorem st2_ss {σ : Mem} {k i : Nat} {v : Int32} : st2 σ k i v k i = v := by rw [st2_a, beq_self_eq_true, beq_self_eq_true]; rfl
def kLevel (σ : Mem) : Int32 := if σ 2 0 = 3 then 1 else 0
def fLevel (σ : Mem) : Mem := if 0 < kLevel σ then st2 σ 42 0 (kLevel σ) else st2 (st2 σ 42 0 (kLevel σ)) 2 0 (σ 2 0 + 1)
def vLevel (σ : Mem) : Int32 := if 0 < kLevel σ then -1 else σ 2 0 + 1 - 1
def rUsd (σ : Mem) (x : Int32) : Nat → Int32
  | 0 => 0
  | n + 1 => rUsd σ x n ||| bI (σ 3 n = x)
theorem rUsd_01 (σ : Mem) (x : Int32) : ∀ n, rUsd σ x n = 0 ∨ rUsd σ x n = 1
  | 0 => .inl rfl
  | n + 1 => bor_01 (rUsd_01 σ x n) bI_01
def rUsed (σ : Mem) (x : Int32) : Int32 := rUsd σ x (iN (σ 9 0))
abbrev rRngC (h t : Int32) : Prop := (-1 ≤ h ∧ h ≤ 6) ∧ (0 ≤ t ∧ t ≤ 2)
def kColumn (σ : Mem) (x y h t : Int32) : Int32 := if ¬ (rIn σ 2 x ∧ (0 ≤ y ∧ y ≤ 31)) then 1 else if ¬ rRngC h t then 2 else if ¬ rUsed σ x = 0 then 3 else 0
def oColumn (σ : Mem) (x y h t : Int32) : Mem := st2 (st2 σ 0 (32 * iN x + iN y) h) 1 (32 * iN x + iN y) t
def fColumn (σ : Mem) (x y h t : Int32) : Mem := if 0 < kColumn σ x y h t then st2 σ 42 0 (kColumn σ x y h t) else oColumn (st2 σ 42 0 (kColumn σ x y h t)) x y h t
theorem kColumn_0 {σ : Mem} {x y h t : Int32} (k : ¬ 0 < kColumn σ x y h t) : (rIn σ 2 x ∧ (0 ≤ y ∧ y ≤ 31)) ∧ rRngC h t ∧ rUsed σ x = 0 := by
  unfold kColumn at k
  split at k
  · exact absurd (by decide) k
  · rename_i h1
    split at k
    · exact absurd (by decide) k
    · rename_i h2
      split at k
      · exact absurd (by decide) k
      · rename_i h3
        exact ⟨Decidable.not_not.mp h1, Decidable.not_not.mp h2, Decidable.not_not.mp h3⟩
def kReplay (σ : Mem) (x : Int32) : Int32 := if ¬ rIn σ 2 x then 1 else if σ 9 0 = 20 then 2 else 0
def oReplay (σ : Mem) (x : Int32) : Mem := st2 (st2 σ 3 (iN (σ 9 0)) x) 9 0 (σ 9 0 + 1)
def fReplay (σ : Mem) (x : Int32) : Mem := if 0 < kReplay σ x then st2 σ 42 0 (kReplay σ x) else oReplay (st2 σ 42 0 (kReplay σ x)) x
def vReplay (σ : Mem) (x : Int32) : Int32 := if 0 < kReplay σ x then -1 else σ 9 0 + 1 - 1
theorem kReplay_0 {σ : Mem} {x : Int32} (k : ¬ 0 < kReplay σ x) : rIn σ 2 x ∧ ¬ σ 9 0 = 20 := by
  unfold kReplay at k
  split at k
  · exact absurd (by decide) k
  · rename_i h1
    split at k
    · exact absurd (by decide) k
    · rename_i h2
      exact ⟨Decidable.not_not.mp h1, h2⟩
theorem isN_ne {x : Int32} {b : Nat} (h : isN x (b + 1)) (hb : b < 1000) (hn : ¬ x = nI b) : iN x < b := by
  rcases Nat.lt_or_ge (iN x) b with q | q
  · exact q
  · exact absurd (by rw [h.1, show iN x = b by have := h.2; omega]) hn
def kCategory (σ : Mem) (x : Int32) : Int32 := if ¬ rIn σ 2 x then 1 else if σ 16 0 = 6 then 2 else 0
def oCategory (σ : Mem) (x : Int32) : Mem := st2 (st2 σ 10 (iN (σ 16 0)) x) 16 0 (σ 16 0 + 1)
def fCategory (σ : Mem) (x : Int32) : Mem := if 0 < kCategory σ x then st2 σ 42 0 (kCategory σ x) else oCategory (st2 σ 42 0 (kCategory σ x)) x
def vCategory (σ : Mem) (x : Int32) : Int32 := if 0 < kCategory σ x then -1 else σ 16 0 + 1 - 1
theorem kCategory_0 {σ : Mem} {x : Int32} (k : ¬ 0 < kCategory σ x) : rIn σ 2 x ∧ ¬ σ 16 0 = 6 := by
  unfold kCategory at k
  split at k
  · exact absurd (by decide) k
  · rename_i h1
    split at k
    · exact absurd (by decide) k
    · rename_i h2
      exact ⟨Decidable.not_not.mp h1, h2⟩
abbrev rRngI (b t : Int32) : Prop := (0 ≤ b ∧ b ≤ 15) ∧ (1 ≤ t ∧ t ≤ 100)
abbrev rFull (σ : Mem) (x b t : Int32) : Prop := rIn σ 9 x ∧ rRngI b t ∧ (σ 6 (iN x) = 1 ∨ σ 4 (iN x) = 20 ∨ 500 < σ 5 (iN x) + t)
def kInput (σ : Mem) (x b t : Int32) : Int32 := if ¬ rIn σ 9 x then 1 else if ¬ rRngI b t then 2 else if rFull σ x b t then 3 else 0
def oInput (σ : Mem) (x b t : Int32) : Mem :=
  st2 (st2 (st2 (st2 σ 7 (20 * iN x + iN (σ 4 (iN x))) b) 8 (20 * iN x + iN (σ 4 (iN x))) t) 4 (iN x) (σ 4 (iN x) + 1)) 5 (iN x) (σ 5 (iN x) + t)
def fInput (σ : Mem) (x b t : Int32) : Mem := if 0 < kInput σ x b t then st2 σ 42 0 (kInput σ x b t) else oInput (st2 σ 42 0 (kInput σ x b t)) x b t
def vInput (σ : Mem) (x b t : Int32) : Int32 := if 0 < kInput σ x b t then -1 else σ 5 (iN x) + t
theorem kInput_0 {σ : Mem} {x b t : Int32} (k : ¬ 0 < kInput σ x b t) : rIn σ 9 x ∧ rRngI b t ∧ ¬ rFull σ x b t := by
  unfold kInput at k
  split at k
  · exact absurd (by decide) k
  · rename_i h1
    split at k
    · exact absurd (by decide) k
    · rename_i h2
      split at k
      · exact absurd (by decide) k
      · rename_i h3
        exact ⟨Decidable.not_not.mp h1, Decidable.not_not.mp h2, h3⟩
def kIn (σ : Mem) (k : Nat) (x : Int32) : Int32 := if rIn σ k x then 0 else 1
theorem kIn_0 {σ : Mem} {k : Nat} {x : Int32} (h : ¬ 0 < kIn σ k x) : rIn σ k x := by
  unfold kIn at h
  split at h
  · assumption
  · exact absurd (by decide) h
theorem rWF.t {σ : Mem} {v : Int32} (h : rWF σ) : rWF (st2 σ 42 0 v) := h.fr (rFr.rf.st2 (by decide))
def fResult (σ : Mem) (x : Int32) : Mem := if 0 < kIn σ 9 x then st2 σ 42 0 (kIn σ 9 x) else rRun (st2 σ 42 0 (kIn σ 9 x)) (iN x) 500
def vResult (σ : Mem) (x : Int32) : Int32 := if 0 < kIn σ 9 x then -1 else 10 * rRun (st2 σ 42 0 (kIn σ 9 x)) (iN x) 500 40 0 + rRun (st2 σ 42 0 (kIn σ 9 x)) (iN x) 500 41 0
def vUsed (σ : Mem) (x : Int32) : Int32 := if 0 < kIn σ 9 x then -1 else 10000 * rPurse (rRun (st2 σ 42 0 (kIn σ 9 x)) (iN x) 500 37 0) 32 + 10 * rRun (st2 σ 42 0 (kIn σ 9 x)) (iN x) 500 38 0 + rRun (st2 σ 42 0 (kIn σ 9 x)) (iN x) 500 39 0
def rWh (σ : Mem) (x : Int32) : Mem := if rIn σ 9 x then rRun σ (iN x) 500 else σ
theorem rWh_fr (σ : Mem) (x : Int32) : rFr σ (rWh σ x) := by
  unfold rWh
  split
  · exact rRun_k.1
  · exact rFr.rf
def kWhere (σ : Mem) (x t : Int32) : Int32 := if rIn (rWh σ x) 9 x ∧ 0 ≤ t ∧ t ≤ rWh σ x 40 0 then 0 else 1
def fWhere (σ : Mem) (x t : Int32) : Mem := if 0 < kWhere σ x t then st2 (rWh σ x) 42 0 (kWhere σ x t) else rRun (st2 (rWh σ x) 42 0 (kWhere σ x t)) (iN x) t
def vWhere (σ : Mem) (x t : Int32) : Int32 := if 0 < kWhere σ x t then -1 else 1000 * rRun (st2 (rWh σ x) 42 0 (kWhere σ x t)) (iN x) t 33 0 + rRun (st2 (rWh σ x) 42 0 (kWhere σ x t)) (iN x) t 32 0
theorem kWhere_0 {σ : Mem} {x t : Int32} (h : ¬ 0 < kWhere σ x t) : rIn (rWh σ x) 9 x := by
  unfold kWhere at h
  split at h
  · rename_i q; exact q.1
  · exact absurd (by decide) h
abbrev rRngP (d : Int32) : Prop := 1 ≤ d ∧ d ≤ 100
def kPass (σ : Mem) (d : Int32) : Int32 := if ¬ rRngP d then 1 else if 1000 < σ 31 0 + d then 2 else 0
def fPass (σ : Mem) (d : Int32) : Mem := if 0 < kPass σ d then st2 σ 42 0 (kPass σ d) else st2 (st2 σ 42 0 (kPass σ d)) 31 0 (σ 31 0 + d)
def vPass (σ : Mem) (d : Int32) : Int32 := if 0 < kPass σ d then -1 else σ 31 0 + d

theorem md_X8_holds : sg_MD yX8_holds cX8_holds 2 (some .boolean) 1 := ⟨sg_mem (i := 1005) (by decide +kernel) rfl, sg_mem (i := 59) (by decide +kernel) rfl, ⟨by decide, by decide⟩, by decide +kernel⟩
theorem ml_RX8_171 : sg_ML RX8 171 yX8_holds := .inl (sg_mem (i := 1002) (by decide +kernel) rfl)
theorem im_X8_holds : Cond.instanceMethod yX8_holds ∈ sg_T := sg_mem (i := 1004) (by decide +kernel) rfl
theorem sl_X8_holds : Cond.selects yX8_holds.cls yX8_holds yX8_holds ∈ sg_T := sg_mem (i := 25) (by decide +kernel) rfl
theorem fp_9_2 : sg_FP 9 2 false .int := ⟨RX8, TX8, 43, rfl, rfl, by decide +kernel, rfl⟩
theorem md_X8_isLevel : sg_MD yX8_isLevel cX8_isLevel 2 (some .boolean) 1 := ⟨sg_mem (i := 1017) (by decide +kernel) rfl, sg_mem (i := 59) (by decide +kernel) rfl, ⟨by decide, by decide⟩, by decide +kernel⟩
theorem ml_RX8_175 : sg_ML RX8 175 yX8_isLevel := .inl (sg_mem (i := 1014) (by decide +kernel) rfl)
theorem im_X8_isLevel : Cond.instanceMethod yX8_isLevel ∈ sg_T := sg_mem (i := 1016) (by decide +kernel) rfl
theorem sl_X8_isLevel : Cond.selects yX8_isLevel.cls yX8_isLevel yX8_isLevel ∈ sg_T := sg_mem (i := 27) (by decide +kernel) rfl
theorem md_X8_isUsed : sg_MD yX8_isUsed cX8_isUsed 4 (some .boolean) 1 := ⟨sg_mem (i := 1021) (by decide +kernel) rfl, sg_mem (i := 59) (by decide +kernel) rfl, ⟨by decide, by decide⟩, by decide +kernel⟩
theorem ml_RX8_178 : sg_ML RX8 178 yX8_isUsed := .inl (sg_mem (i := 1018) (by decide +kernel) rfl)
theorem im_X8_isUsed : Cond.instanceMethod yX8_isUsed ∈ sg_T := sg_mem (i := 1020) (by decide +kernel) rfl
theorem sl_X8_isUsed : Cond.selects yX8_isUsed.cls yX8_isUsed yX8_isUsed ∈ sg_T := sg_mem (i := 28) (by decide +kernel) rfl
theorem fp_9_9 : sg_FP 9 9 false .int := ⟨RX8, TX8, 43, rfl, rfl, by decide +kernel, rfl⟩
theorem fl_RX8_34 : sg_FL RX8 34 9 10 := ⟨RX8, TX8, 43, "SplitGateModel", rfl, by decide, ti_9, .inl rfl, .inl (sg_mem (i := 874) (by decide +kernel) rfl)⟩
theorem fp_9_16 : sg_FP 9 16 false .int := ⟨RX8, TX8, 43, rfl, rfl, by decide +kernel, rfl⟩
theorem fl_RX8_22 : sg_FL RX8 22 9 5 := ⟨RX8, TX8, 43, "SplitGateModel", rfl, by decide, ti_9, .inl rfl, .inl (sg_mem (i := 869) (by decide +kernel) rfl)⟩
theorem md_X8_isReplay : sg_MD yX8_isReplay cX8_isReplay 2 (some .boolean) 1 := ⟨sg_mem (i := 1033) (by decide +kernel) rfl, sg_mem (i := 59) (by decide +kernel) rfl, ⟨by decide, by decide⟩, by decide +kernel⟩
theorem ml_RX8_181 : sg_ML RX8 181 yX8_isReplay := .inl (sg_mem (i := 1030) (by decide +kernel) rfl)
theorem im_X8_isReplay : Cond.instanceMethod yX8_isReplay ∈ sg_T := sg_mem (i := 1032) (by decide +kernel) rfl
theorem sl_X8_isReplay : Cond.selects yX8_isReplay.cls yX8_isReplay yX8_isReplay ∈ sg_T := sg_mem (i := 29) (by decide +kernel) rfl
theorem fl_RX8_25 : sg_FL RX8 25 9 6 := ⟨RX8, TX8, 43, "SplitGateModel", rfl, by decide, ti_9, .inl rfl, .inl (sg_mem (i := 870) (by decide +kernel) rfl)⟩
theorem md_X8_run : sg_MD yX8_run cX8_run 6 none 2 := ⟨sg_mem (i := 1041) (by decide +kernel) rfl, sg_mem (i := 59) (by decide +kernel) rfl, ⟨by decide, by decide⟩, by decide +kernel⟩
theorem ml_RX8_184 : sg_ML RX8 184 yX8_run := .inl (sg_mem (i := 1038) (by decide +kernel) rfl)
theorem im_X8_run : Cond.instanceMethod yX8_run ∈ sg_T := sg_mem (i := 1040) (by decide +kernel) rfl
theorem sl_X8_run : Cond.selects yX8_run.cls yX8_run yX8_run ∈ sg_T := sg_mem (i := 30) (by decide +kernel) rfl
theorem md_X8_purse : sg_MD yX8_purse cX8_purse 3 (some .int) 0 := ⟨sg_mem (i := 1085) (by decide +kernel) rfl, sg_mem (i := 59) (by decide +kernel) rfl, ⟨by decide, by decide⟩, by decide +kernel⟩
theorem ml_RX8_187 : sg_ML RX8 187 yX8_purse := .inl (sg_mem (i := 1082) (by decide +kernel) rfl)
theorem im_X8_purse : Cond.instanceMethod yX8_purse ∈ sg_T := sg_mem (i := 1084) (by decide +kernel) rfl
theorem sl_X8_purse : Cond.selects yX8_purse.cls yX8_purse yX8_purse ∈ sg_T := sg_mem (i := 40) (by decide +kernel) rfl
theorem fl_RX8_200 : sg_FL RX8 200 9 31 := ⟨RX8, TX8, 43, "SplitGateModel", rfl, by decide, ti_9, .inl rfl, .inl (sg_mem (i := 895) (by decide +kernel) rfl)⟩
theorem fp_9_31 : sg_FP 9 31 false .int := ⟨RX8, TX8, 43, rfl, rfl, by decide +kernel, rfl⟩
set_option maxHeartbeats 4000000 in
set_option maxRecDepth 100000 in
theorem c_X8_level (l : Launch) (g : sg_G) (C : Nat → Option va_E) (m0 : Nat) (q : Nat → Nat) (σ : Mem) (hN : mN m0 q) : sg_Met l yX8_level cX8_level 1 (some .int) 1 21 0 0 g [.ref m0] (sg_ov C (mW g m0 q σ)) (fun v C' => v = some (.int (vLevel σ)) ∧ C' = sg_ov C (mW g m0 q (fLevel σ))) sg_no := by
  refine sg_ofW (by decide) rfl ?_ (Nat.le_of_ble_eq_true rfl)
  intro p e s m below meth c hc hlk hrt hin2 htb
  have hc : sg_Cx p s m _ c cX8_level 1 RX8 g := hc
  show sg_W p l e _ s m _ below meth c 1 g 0 0 _ (sg_ov C (mW g m0 q σ)) 0 [(0, .ref m0)] []
  have K_14 : sg_W p l e (sg_rm 1 21 0 0) s m ([.ref m0] : List Value).toArray below meth c 1 g 0 0 (sg_End below g (fun v C' => v = some (.int (vLevel σ)) ∧ C' = sg_ov C (mW g m0 q (fLevel σ))) sg_no ([.ref m0] : List Value).toArray s 0 0) (sg_ov C (mW g m0 q σ)) 14 [(0, .ref m0)] [.int (kLevel σ), .ref m0] := by
    refine sw_callV (pc := 14) (rest := []) hc (c_X8_holds l g C m0 q σ (kLevel σ) hN ) md_X8_holds ml_RX8_171 im_X8_holds sl_X8_holds (mW_o hN) rfl rfl rfl (Nat.le_of_ble_eq_true rfl) dX8_level_14 ⟨Nat.le_of_ble_eq_true rfl, Nat.le_of_ble_eq_true rfl, Nat.le_of_ble_eq_true rfl, Nat.le_of_ble_eq_true rfl⟩ (fun v C' hP => ?_) (fun _ _ h => h.elim)
    obtain ⟨rfl, rfl⟩ := hP
    refine sw_st (st' := [.int (bI (0 < (kLevel σ)))]) rfl ?_
    refine sw_if_eq (pc := 17) (tgt := 22) hc dX8_level_17 (by decide) (fun c_1 => ?_) (fun c_1 => ?_)
    ·
      have p_2 : ¬ (0 < (kLevel σ)) := bI_0 c_1
      refine sw_aload_n (pc := 22) hc dX8_level_22 rfl 0 rfl ?_
      refine sw_dup (pc := 23) hc dX8_level_23 rfl ?_
      refine sw_get (pc := 24) (v := .int ((st2 σ 42 0 (kLevel σ)) 2 0)) hc fl_RX8_92 (mW_o hN) rfl dX8_level_24 ?_
      refine sw_iconst (pc := 27) (v := 1) hc dX8_level_27 (by decide) ?_
      refine sw_iadd (pc := 28) hc dX8_level_28 ?_
      refine sw_put (pc := 29) (k := 2) hc fl_RX8_92 ty_9 fp_9_2 (mW_o hN) rfl rfl (Nat.le_of_ble_eq_true rfl) rfl dX8_level_29 ?_
      refine sw_eq (mW_p2 hN) ?_
      refine sw_aload_n (pc := 32) hc dX8_level_32 rfl 0 rfl ?_
      refine sw_get (pc := 33) (v := .int (((st2 σ 42 0 (kLevel σ)) 2 0) + 1)) hc fl_RX8_92 (mW_o hN) rfl dX8_level_33 ?_
      refine sw_iconst (pc := 36) (v := 1) hc dX8_level_36 (by decide) ?_
      refine sw_isub (pc := 37) hc dX8_level_37 ?_
      have h_3 : (((st2 σ 42 0 (kLevel σ)) 2 0) + 1) - 1 = vLevel σ := by (first | exact (if_pos (by assumption)).symm | exact (if_neg (by assumption)).symm)
      have h_4 : st2 (st2 σ 42 0 (kLevel σ)) 2 0 (((st2 σ 42 0 (kLevel σ)) 2 0) + 1) = fLevel σ := by (first | exact (if_pos (by assumption)).symm | exact (if_neg (by assumption)).symm)
      exact sw_iret (pc := 38) hc hlk hrt rfl ⟨(congrArg (fun z => some (Value.int z)) h_3), (congrArg (fun z => sg_ov C (mW g m0 q z)) h_4)⟩ (Nat.le_of_ble_eq_true rfl) (Nat.le_of_ble_eq_true rfl) dX8_level_38
    ·
      have p_5 : 0 < (kLevel σ) := bI_n c_1
      refine sw_iconst (pc := 20) (v := (-1)) hc dX8_level_20 (by decide) ?_
      have h_6 : (-1) = vLevel σ := by (first | exact (if_pos (by assumption)).symm | exact (if_neg (by assumption)).symm)
      have h_7 : st2 σ 42 0 (kLevel σ) = fLevel σ := by (first | exact (if_pos (by assumption)).symm | exact (if_neg (by assumption)).symm)
      exact sw_iret (pc := 21) hc hlk hrt rfl ⟨(congrArg (fun z => some (Value.int z)) h_6), (congrArg (fun z => sg_ov C (mW g m0 q z)) h_7)⟩ (Nat.le_of_ble_eq_true rfl) (Nat.le_of_ble_eq_true rfl) dX8_level_21
  refine sw_aload_n (pc := 0) hc dX8_level_0 rfl 0 rfl ?_
  refine sw_aload_n (pc := 1) hc dX8_level_1 rfl 0 rfl ?_
  refine sw_get (pc := 2) (v := .int (σ 2 0)) hc fl_RX8_92 (mW_o hN) rfl dX8_level_2 ?_
  refine sw_iconst (pc := 5) (v := 3) hc dX8_level_5 (by decide) ?_
  refine sw_icmp_ne (pc := 6) (tgt := 13) hc dX8_level_6 (by decide) (fun c_8 => ?_) (fun c_8 => ?_)
  ·
    refine sw_iconst (pc := 13) (v := 0) hc dX8_level_13 (by decide) ?_
    have h_9 : 0 = kLevel σ := by first | with_reducible rfl | (first | with_reducible rfl | (simp [-Int32.not_le, -Int32.not_lt, kLevel, st2_a, c_8]; done) | (((try simp only [st2_a, Nat.reduceBEq, Bool.false_and, Bool.true_and, beq_self_eq_true, cond_false, cond_true] at c_8) <;> simp [-Int32.not_le, -Int32.not_lt, kLevel, st2_a, c_8]); done) | ((try simp only [kLevel]); (repeat' split) <;> simp_all [-Int32.not_le, -Int32.not_lt, st2_a, rGap, rWall]; done))
    refine sw_st (st' := [.int (kLevel σ), .ref m0]) (congrArg (fun z => ([.int z, .ref m0] : List Value)) h_9) ?_
    exact sw_sub (ks := [0]) rfl (K_14 )
  ·
    refine sw_iconst (pc := 9) (v := 1) hc dX8_level_9 (by decide) ?_
    refine sw_goto (pc := 10) (tgt := 14) hc dX8_level_10 (by decide) ?_
    have h_10 : 1 = kLevel σ := by first | with_reducible rfl | (first | with_reducible rfl | (simp [-Int32.not_le, -Int32.not_lt, kLevel, st2_a, c_8]; done) | (((try simp only [st2_a, Nat.reduceBEq, Bool.false_and, Bool.true_and, beq_self_eq_true, cond_false, cond_true] at c_8) <;> simp [-Int32.not_le, -Int32.not_lt, kLevel, st2_a, c_8]); done) | ((try simp only [kLevel]); (repeat' split) <;> simp_all [-Int32.not_le, -Int32.not_lt, st2_a, rGap, rWall]; done))
    refine sw_st (st' := [.int (kLevel σ), .ref m0]) (congrArg (fun z => ([.int z, .ref m0] : List Value)) h_10) ?_
    exact sw_sub (ks := [0]) rfl (K_14 )

set_option maxHeartbeats 4000000 in
set_option maxRecDepth 100000 in
theorem c_X8_isUsed (l : Launch) (g : sg_G) (C : Nat → Option va_E) (m0 : Nat) (q : Nat → Nat) (σ : Mem) (x : Int32) (hN : mN m0 q) (hWF : rWF σ) : sg_Met l yX8_isUsed cX8_isUsed 4 (some .boolean) 0 0 0 0 g [.ref m0, .int x] (sg_ov C (mW g m0 q σ)) (fun v C' => v = some (.int (rUsed σ x)) ∧ C' = sg_ov C (mW g m0 q σ)) sg_no := by
  refine sg_ofW (by decide) rfl ?_ (Nat.le_of_ble_eq_true rfl)
  intro p e s m below meth c hc hlk hrt hin2 htb
  have hc : sg_Cx p s m _ c cX8_isUsed 4 RX8 g := hc
  show sg_W p l e _ s m _ below meth c 4 g 0 0 _ (sg_ov C (mW g m0 q σ)) 0 [(0, .ref m0), (1, .int x)] []
  have K_4 : ∀ (n4 : Nat) (kk : Nat) (v : Int32) (hn4 : (iN (σ 9 0) - kk) < n4) (ev : v = rUsd σ x kk) (hkb : kk ≤ iN (σ 9 0)), sg_W p l e (sg_rm 0 0 0 0) s m ([.ref m0, .int x] : List Value).toArray below meth c 4 g 0 0 (sg_End below g (fun v C' => v = some (.int (rUsed σ x)) ∧ C' = sg_ov C (mW g m0 q σ)) sg_no ([.ref m0, .int x] : List Value).toArray s 0 0) (sg_ov C (mW g m0 q σ)) 4 [(0, .ref m0), (1, .int x), (2, .int v), (3, .int (nI kk))] [] := by
    intro n4
    induction n4 with
    | zero => intro kk v hn4 ev hkb; exact absurd hn4 (Nat.not_lt_zero _)
    | succ n4 ih4 =>
      intro kk v hn4 ev hkb
      refine sw_iload_n (pc := 4) hc dX8_isUsed_4 rfl 3 rfl ?_
      refine sw_aload_n (pc := 5) hc dX8_isUsed_5 rfl 0 rfl ?_
      refine sw_get (pc := 6) (v := .int (σ 9 0)) hc fl_RX8_99 (mW_o hN) rfl dX8_isUsed_6 ?_
      refine sw_st (st' := [.int (nI (iN (σ 9 0))), .int (nI kk)]) (congrArg (fun z => ([.int z, .int (nI kk)] : List Value)) hWF.2.1.1) ?_
      refine sw_icmp_ge (pc := 9) (tgt := 36) hc dX8_isUsed_9 (by decide) (fun c_1 => ?_) (fun c_1 => ?_)
      ·
        have n_2 : (iN (σ 9 0)) ≤ kk := (nI_leI (a := (iN (σ 9 0))) (b := kk) (by have := hWF.2.1.2; omega) (by have := hWF.2.1.2; omega)).mp c_1
        have c_1' := Int32.not_lt.mpr c_1
        refine sw_iload_n (pc := 36) hc dX8_isUsed_36 rfl 2 rfl ?_
        have hz : v = rUsed σ x := by rw [ev, show kk = iN (σ 9 0) by omega]; rfl
        exact sw_iret (pc := 37) hc hlk hrt (nar_01 (by rw [ev]; exact rUsd_01 _ _ _)) ⟨congrArg (fun z => some (Value.int z)) hz, rfl⟩ (Nat.le_of_ble_eq_true rfl) (Nat.le_of_ble_eq_true rfl) dX8_isUsed_37
      ·
        have n_3 : ¬ ((iN (σ 9 0)) ≤ kk) := fun z => c_1 ((nI_leI (a := (iN (σ 9 0))) (b := kk) (by have := hWF.2.1.2; omega) (by have := hWF.2.1.2; omega)).mpr z)
        have c_1' := Int32.not_le.mp c_1
        refine sw_iload_n (pc := 12) hc dX8_isUsed_12 rfl 2 rfl ?_
        refine sw_aload_n (pc := 13) hc dX8_isUsed_13 rfl 0 rfl ?_
        refine sw_get (pc := 14) (v := .ref (q 3)) hc fl_RX8_16 (mW_o hN) rfl dX8_isUsed_14 ?_
        refine sw_iload_n (pc := 17) hc dX8_isUsed_17 rfl 3 rfl ?_
        refine sw_iald (pc := 18) (j := kk) hc (mW_a3 hN) rfl (by have := hWF.2.1.2; omega) (by decide) dX8_isUsed_18 ?_
        refine sw_iload_n (pc := 19) hc dX8_isUsed_19 rfl 1 rfl ?_
        refine sw_icmp_ne (pc := 20) (tgt := 27) hc dX8_isUsed_20 (by decide) (fun c_4 => ?_) (fun c_4 => ?_)
        ·
          refine sw_iconst (pc := 27) (v := 0) hc dX8_isUsed_27 (by decide) ?_
          refine sw_ior (pc := 28) hc dX8_isUsed_28 ?_
          refine sw_istore_n (pc := 29) hc dX8_isUsed_29 rfl (by decide) (lv' := [(2, .int (v ||| 0)), (0, .ref m0), (1, .int x), (3, .int (nI kk))]) rfl ?_
          refine sw_iinc (pc := 30) (v := nI (kk + 1)) (lv' := [(3, .int (nI (kk + 1))), (2, .int (v ||| 0)), (0, .ref m0), (1, .int x)]) hc dX8_isUsed_30 (k := 3) rfl (nI_1 _) (by decide) rfl ?_
          refine sw_goto (pc := 33) (tgt := 4) hc dX8_isUsed_33 (by decide) ?_
          have h_5 : v ||| 0 = rUsd σ x (kk + 1) := by first | rfl | (subst ev; rfl) | (subst ev; show _ = rUsd σ x kk ||| bI _; simp [bI, hkb, c_1, n_3, c_1', c_4])
          have h_6 : (kk + 1) ≤ iN (σ 9 0) := by omega
          have h_7 : (iN (σ 9 0) - (kk + 1)) < n4 := by omega
          exact sw_sub (ks := [2, 3, 1, 0]) rfl (ih4 (kk + 1) (v ||| 0) h_7 h_5 h_6)
        ·
          refine sw_iconst (pc := 23) (v := 1) hc dX8_isUsed_23 (by decide) ?_
          refine sw_goto (pc := 24) (tgt := 28) hc dX8_isUsed_24 (by decide) ?_
          refine sw_ior (pc := 28) hc dX8_isUsed_28 ?_
          refine sw_istore_n (pc := 29) hc dX8_isUsed_29 rfl (by decide) (lv' := [(2, .int (v ||| 1)), (0, .ref m0), (1, .int x), (3, .int (nI kk))]) rfl ?_
          refine sw_iinc (pc := 30) (v := nI (kk + 1)) (lv' := [(3, .int (nI (kk + 1))), (2, .int (v ||| 1)), (0, .ref m0), (1, .int x)]) hc dX8_isUsed_30 (k := 3) rfl (nI_1 _) (by decide) rfl ?_
          refine sw_goto (pc := 33) (tgt := 4) hc dX8_isUsed_33 (by decide) ?_
          have h_8 : v ||| 1 = rUsd σ x (kk + 1) := by first | rfl | (subst ev; rfl) | (subst ev; show _ = rUsd σ x kk ||| bI _; simp [bI, hkb, c_1, n_3, c_1', c_4])
          have h_9 : (kk + 1) ≤ iN (σ 9 0) := by omega
          have h_10 : (iN (σ 9 0) - (kk + 1)) < n4 := by omega
          exact sw_sub (ks := [2, 3, 1, 0]) rfl (ih4 (kk + 1) (v ||| 1) h_10 h_8 h_9)
  refine sw_iconst (pc := 0) (v := 0) hc dX8_isUsed_0 (by decide) ?_
  refine sw_istore_n (pc := 1) hc dX8_isUsed_1 rfl (by decide) (lv' := [(2, .int 0), (0, .ref m0), (1, .int x)]) rfl ?_
  refine sw_iconst (pc := 2) (v := 0) hc dX8_isUsed_2 (by decide) ?_
  refine sw_istore_n (pc := 3) hc dX8_isUsed_3 rfl (by decide) (lv' := [(3, .int 0), (2, .int 0), (0, .ref m0), (1, .int x)]) rfl ?_
  have h_11 : 0 = rUsd σ x 0 := by first | rfl | (rfl) | (show _ = rUsd σ x kk ||| bI _; simp [bI, ])
  have h_12 : 0 ≤ iN (σ 9 0) := by omega
  exact sw_sub (ks := [2, 3, 1, 0]) rfl (K_4 _ 0 0 (Nat.lt_succ_self _) h_11 h_12)

set_option maxHeartbeats 4000000 in
set_option maxRecDepth 100000 in
theorem c_X8_column (l : Launch) (g : sg_G) (C : Nat → Option va_E) (m0 : Nat) (q : Nat → Nat) (σ : Mem) (x : Int32) (y : Int32) (h : Int32) (t : Int32) (hN : mN m0 q) (hWF : rWF σ) : sg_Met l yX8_column cX8_column 6 none 2 44 0 0 g [.ref m0, .int x, .int y, .int h, .int t] (sg_ov C (mW g m0 q σ)) (fun v C' => v = none ∧ C' = sg_ov C (mW g m0 q (fColumn σ x y h t))) sg_no := by
  refine sg_ofW (by decide) rfl ?_ (Nat.le_of_ble_eq_true rfl)
  intro p e s m below meth c hc hlk hrt hin2 htb
  have hc : sg_Cx p s m _ c cX8_column 6 RX8 g := hc
  show sg_W p l e _ s m _ below meth c 6 g 0 0 _ (sg_ov C (mW g m0 q σ)) 0 [(0, .ref m0), (1, .int x), (2, .int y), (3, .int h), (4, .int t)] []
  have K_75 : sg_W p l e (sg_rm 2 44 0 0) s m ([.ref m0, .int x, .int y, .int h, .int t] : List Value).toArray below meth c 6 g 0 0 (sg_End below g (fun v C' => v = none ∧ C' = sg_ov C (mW g m0 q (fColumn σ x y h t))) sg_no ([.ref m0, .int x, .int y, .int h, .int t] : List Value).toArray s 0 0) (sg_ov C (mW g m0 q σ)) 75 [(0, .ref m0), (1, .int x), (2, .int y), (3, .int h), (4, .int t)] [.int (kColumn σ x y h t), .ref m0] := by
    refine sw_callV (pc := 75) (rest := []) hc (c_X8_holds l g C m0 q σ (kColumn σ x y h t) hN ) md_X8_holds ml_RX8_171 im_X8_holds sl_X8_holds (mW_o hN) rfl rfl rfl (Nat.le_of_ble_eq_true rfl) dX8_column_75 ⟨Nat.le_of_ble_eq_true rfl, Nat.le_of_ble_eq_true rfl, Nat.le_of_ble_eq_true rfl, Nat.le_of_ble_eq_true rfl⟩ (fun v C' hP => ?_) (fun _ _ h => h.elim)
    obtain ⟨rfl, rfl⟩ := hP
    refine sw_st (st' := [.int (bI (0 < (kColumn σ x y h t)))]) rfl ?_
    refine sw_if_ne (pc := 78) (tgt := 106) hc dX8_column_78 (by decide) (fun c_1 => ?_) (fun c_1 => ?_)
    ·
      have p_2 : 0 < (kColumn σ x y h t) := bI_n c_1
      have h_3 : st2 σ 42 0 (kColumn σ x y h t) = fColumn σ x y h t := by (first | exact (if_pos (by assumption)).symm | exact (if_neg (by assumption)).symm)
      exact sw_vret (pc := 106) hc hlk hrt ⟨rfl, (congrArg (fun z => sg_ov C (mW g m0 q z)) h_3)⟩ (Nat.le_of_ble_eq_true rfl) (Nat.le_of_ble_eq_true rfl) dX8_column_106
    ·
      have p_4 : ¬ (0 < (kColumn σ x y h t)) := bI_0 c_1
      have k0 := kColumn_0 p_4
      obtain ⟨fx, fx2⟩ := rIn_x hWF.1 (by decide) k0.1.1
      obtain ⟨fy, fy2⟩ := rng_x (n := 31) (by decide) k0.1.2
      have fxb := hWF.1.2
      refine sw_aload_n (pc := 81) hc dX8_column_81 rfl 0 rfl ?_
      refine sw_get (pc := 82) (v := .ref (q 0)) hc fl_RX8_7 (mW_o hN) rfl dX8_column_82 ?_
      refine sw_bipush (pc := 85) (v := 32) hc dX8_column_85 (by decide) ?_
      refine sw_iload_n (pc := 87) hc dX8_column_87 rfl 1 rfl ?_
      refine sw_imul (pc := 88) hc dX8_column_88 ?_
      refine sw_iload_n (pc := 89) hc dX8_column_89 rfl 2 rfl ?_
      refine sw_iadd (pc := 90) hc dX8_column_90 ?_
      refine sw_iload_n (pc := 91) hc dX8_column_91 rfl 3 rfl ?_
      refine sw_iast (pc := 92) (j := 32 * (iN x) + (iN y)) hc (mW_a0 hN) ((congr (congrArg (fun z w => 32 * z + w) fx) fy).trans (nI_ix 32)) (by omega) (by decide) dX8_column_92 ?_
      refine sw_eq (mW_s0 hN) ?_
      refine sw_aload_n (pc := 93) hc dX8_column_93 rfl 0 rfl ?_
      refine sw_get (pc := 94) (v := .ref (q 1)) hc fl_RX8_13 (mW_o hN) rfl dX8_column_94 ?_
      refine sw_bipush (pc := 97) (v := 32) hc dX8_column_97 (by decide) ?_
      refine sw_iload_n (pc := 99) hc dX8_column_99 rfl 1 rfl ?_
      refine sw_imul (pc := 100) hc dX8_column_100 ?_
      refine sw_iload_n (pc := 101) hc dX8_column_101 rfl 2 rfl ?_
      refine sw_iadd (pc := 102) hc dX8_column_102 ?_
      refine sw_iload (pc := 103) hc dX8_column_103 4 rfl ?_
      refine sw_iast (pc := 105) (j := 32 * (iN x) + (iN y)) hc (mW_a1 hN) ((congr (congrArg (fun z w => 32 * z + w) fx) fy).trans (nI_ix 32)) (by omega) (by decide) dX8_column_105 ?_
      refine sw_eq (mW_s1 hN) ?_
      have h_5 : st2 (st2 (st2 σ 42 0 (kColumn σ x y h t)) 0 (32 * (iN x) + (iN y)) h) 1 (32 * (iN x) + (iN y)) t = fColumn σ x y h t := by (first | exact (if_pos (by assumption)).symm | exact (if_neg (by assumption)).symm)
      exact sw_vret (pc := 106) hc hlk hrt ⟨rfl, (congrArg (fun z => sg_ov C (mW g m0 q z)) h_5)⟩ (Nat.le_of_ble_eq_true rfl) (Nat.le_of_ble_eq_true rfl) dX8_column_106
  have K_27 : sg_W p l e (sg_rm 2 44 0 0) s m ([.ref m0, .int x, .int y, .int h, .int t] : List Value).toArray below meth c 6 g 0 0 (sg_End below g (fun v C' => v = none ∧ C' = sg_ov C (mW g m0 q (fColumn σ x y h t))) sg_no ([.ref m0, .int x, .int y, .int h, .int t] : List Value).toArray s 0 0) (sg_ov C (mW g m0 q σ)) 27 [(0, .ref m0), (1, .int x), (2, .int y), (3, .int h), (4, .int t)] [.int (bI (rRngC h t))] := by
    refine sw_istore (pc := 27) hc dX8_column_27 (by decide) (lv' := [(5, .int (bI (rRngC h t))), (0, .ref m0), (1, .int x), (2, .int y), (3, .int h), (4, .int t)]) rfl ?_
    refine sw_aload_n (pc := 29) hc dX8_column_29 rfl 1 rfl ?_
    refine sw_aload_n (pc := 30) hc dX8_column_30 rfl 1 rfl ?_
    refine sw_iload_n (pc := 31) hc dX8_column_31 rfl 2 rfl ?_
    refine sw_callV (pc := 32) (rest := [.ref m0]) hc (c_X8_isLevel l g C m0 q σ x hN ) md_X8_isLevel ml_RX8_175 im_X8_isLevel sl_X8_isLevel (mW_o hN) rfl rfl rfl (Nat.le_of_ble_eq_true rfl) dX8_column_32 ⟨Nat.le_of_ble_eq_true rfl, Nat.le_of_ble_eq_true rfl, Nat.le_of_ble_eq_true rfl, Nat.le_of_ble_eq_true rfl⟩ (fun v C' hP => ?_) (fun _ _ h => h.elim)
    obtain ⟨rfl, rfl⟩ := hP
    refine sw_st (st' := [.int (bI (rIn σ 2 x)), .ref m0]) rfl ?_
    refine sw_if_eq (pc := 35) (tgt := 49) hc dX8_column_35 (by decide) (fun c_6 => ?_) (fun c_6 => ?_)
    ·
      have p_7 : ¬ (rIn σ 2 x) := bI_0 c_6
      refine sw_iconst (pc := 49) (v := 1) hc dX8_column_49 (by decide) ?_
      refine sw_goto (pc := 50) (tgt := 75) hc dX8_column_50 (by decide) ?_
      have h_8 : 1 = kColumn σ x y h t := by first | with_reducible rfl | (first | with_reducible rfl | (simp [-Int32.not_le, -Int32.not_lt, kColumn, st2_a, p_7]; done) | (((try simp only [st2_a, Nat.reduceBEq, Bool.false_and, Bool.true_and, beq_self_eq_true, cond_false, cond_true] at p_7) <;> simp [-Int32.not_le, -Int32.not_lt, kColumn, st2_a, p_7]); done) | ((try simp only [kColumn]); (repeat' split) <;> simp_all [-Int32.not_le, -Int32.not_lt, st2_a, rGap, rWall]; done))
      refine sw_st (st' := [.int (kColumn σ x y h t), .ref m0]) (congrArg (fun z => ([.int z, .ref m0] : List Value)) h_8) ?_
      exact sw_sub (ks := [1, 2, 3, 4, 5]) rfl (K_75 )
    ·
      have p_9 : rIn σ 2 x := bI_n c_6
      refine sw_aload_n (pc := 38) hc dX8_column_38 rfl 1 rfl ?_
      refine sw_iload_n (pc := 39) hc dX8_column_39 rfl 3 rfl ?_
      refine sw_iconst (pc := 40) (v := 0) hc dX8_column_40 (by decide) ?_
      refine sw_bipush (pc := 41) (v := 31) hc dX8_column_41 (by decide) ?_
      refine sw_callV (pc := 43) (rest := [.ref m0]) hc (c_X8_between l g C m0 q σ y 0 31 hN ) md_X8_between ml_RX8_95 im_X8_between sl_X8_between (mW_o hN) rfl rfl rfl (Nat.le_of_ble_eq_true rfl) dX8_column_43 ⟨Nat.le_of_ble_eq_true rfl, Nat.le_of_ble_eq_true rfl, Nat.le_of_ble_eq_true rfl, Nat.le_of_ble_eq_true rfl⟩ (fun v C' hP => ?_) (fun _ _ h => h.elim)
      obtain ⟨rfl, rfl⟩ := hP
      refine sw_st (st' := [.int (bI (0 ≤ y ∧ y ≤ 31)), .ref m0]) rfl ?_
      refine sw_if_ne (pc := 46) (tgt := 53) hc dX8_column_46 (by decide) (fun c_10 => ?_) (fun c_10 => ?_)
      ·
        have p_11 : 0 ≤ y ∧ y ≤ 31 := bI_n c_10
        refine sw_iload (pc := 53) hc dX8_column_53 0 rfl ?_
        refine sw_if_ne (pc := 55) (tgt := 62) hc dX8_column_55 (by decide) (fun c_12 => ?_) (fun c_12 => ?_)
        ·
          have p_13 : rRngC h t := bI_n c_12
          refine sw_aload_n (pc := 62) hc dX8_column_62 rfl 1 rfl ?_
          refine sw_iload_n (pc := 63) hc dX8_column_63 rfl 2 rfl ?_
          refine sw_callV (pc := 64) (rest := [.ref m0]) hc (c_X8_isUsed l g C m0 q σ x hN (hWF)) md_X8_isUsed ml_RX8_178 im_X8_isUsed sl_X8_isUsed (mW_o hN) rfl rfl rfl (Nat.le_of_ble_eq_true rfl) dX8_column_64 ⟨Nat.le_of_ble_eq_true rfl, Nat.le_of_ble_eq_true rfl, Nat.le_of_ble_eq_true rfl, Nat.le_of_ble_eq_true rfl⟩ (fun v C' hP => ?_) (fun _ _ h => h.elim)
          obtain ⟨rfl, rfl⟩ := hP
          refine sw_st (st' := [.int (rUsed σ x), .ref m0]) rfl ?_
          refine sw_if_eq (pc := 67) (tgt := 74) hc dX8_column_67 (by decide) (fun c_14 => ?_) (fun c_14 => ?_)
          ·
            refine sw_iconst (pc := 74) (v := 0) hc dX8_column_74 (by decide) ?_
            have h_15 : 0 = kColumn σ x y h t := by first | with_reducible rfl | (first | with_reducible rfl | (simp [-Int32.not_le, -Int32.not_lt, kColumn, st2_a, p_9, p_11, p_13, c_14]; done) | (((try simp only [st2_a, Nat.reduceBEq, Bool.false_and, Bool.true_and, beq_self_eq_true, cond_false, cond_true] at p_9 p_11 p_13 c_14) <;> simp [-Int32.not_le, -Int32.not_lt, kColumn, st2_a, p_9, p_11, p_13, c_14]); done) | ((try simp only [kColumn]); (repeat' split) <;> simp_all [-Int32.not_le, -Int32.not_lt, st2_a, rGap, rWall]; done))
            refine sw_st (st' := [.int (kColumn σ x y h t), .ref m0]) (congrArg (fun z => ([.int z, .ref m0] : List Value)) h_15) ?_
            exact sw_sub (ks := [1, 2, 3, 4, 5]) rfl (K_75 )
          ·
            refine sw_iconst (pc := 70) (v := 3) hc dX8_column_70 (by decide) ?_
            refine sw_goto (pc := 71) (tgt := 75) hc dX8_column_71 (by decide) ?_
            have h_16 : 3 = kColumn σ x y h t := by first | with_reducible rfl | (first | with_reducible rfl | (simp [-Int32.not_le, -Int32.not_lt, kColumn, st2_a, p_9, p_11, p_13, c_14]; done) | (((try simp only [st2_a, Nat.reduceBEq, Bool.false_and, Bool.true_and, beq_self_eq_true, cond_false, cond_true] at p_9 p_11 p_13 c_14) <;> simp [-Int32.not_le, -Int32.not_lt, kColumn, st2_a, p_9, p_11, p_13, c_14]); done) | ((try simp only [kColumn]); (repeat' split) <;> simp_all [-Int32.not_le, -Int32.not_lt, st2_a, rGap, rWall]; done))
            refine sw_st (st' := [.int (kColumn σ x y h t), .ref m0]) (congrArg (fun z => ([.int z, .ref m0] : List Value)) h_16) ?_
            exact sw_sub (ks := [1, 2, 3, 4, 5]) rfl (K_75 )
        ·
          have p_17 : ¬ (rRngC h t) := bI_0 c_12
          refine sw_iconst (pc := 58) (v := 2) hc dX8_column_58 (by decide) ?_
          refine sw_goto (pc := 59) (tgt := 75) hc dX8_column_59 (by decide) ?_
          have h_18 : 2 = kColumn σ x y h t := by first | with_reducible rfl | (first | with_reducible rfl | (simp [-Int32.not_le, -Int32.not_lt, kColumn, st2_a, p_9, p_11, p_17]; done) | (((try simp only [st2_a, Nat.reduceBEq, Bool.false_and, Bool.true_and, beq_self_eq_true, cond_false, cond_true] at p_9 p_11 p_17) <;> simp [-Int32.not_le, -Int32.not_lt, kColumn, st2_a, p_9, p_11, p_17]); done) | ((try simp only [kColumn]); (repeat' split) <;> simp_all [-Int32.not_le, -Int32.not_lt, st2_a, rGap, rWall]; done))
          refine sw_st (st' := [.int (kColumn σ x y h t), .ref m0]) (congrArg (fun z => ([.int z, .ref m0] : List Value)) h_18) ?_
          exact sw_sub (ks := [1, 2, 3, 4, 5]) rfl (K_75 )
      ·
        have p_19 : ¬ (0 ≤ y ∧ y ≤ 31) := bI_0 c_10
        refine sw_iconst (pc := 49) (v := 1) hc dX8_column_49 (by decide) ?_
        refine sw_goto (pc := 50) (tgt := 75) hc dX8_column_50 (by decide) ?_
        have h_20 : 1 = kColumn σ x y h t := by first | with_reducible rfl | (first | with_reducible rfl | (simp [-Int32.not_le, -Int32.not_lt, kColumn, st2_a, p_9, p_19]; done) | (((try simp only [st2_a, Nat.reduceBEq, Bool.false_and, Bool.true_and, beq_self_eq_true, cond_false, cond_true] at p_9 p_19) <;> simp [-Int32.not_le, -Int32.not_lt, kColumn, st2_a, p_9, p_19]); done) | ((try simp only [kColumn]); (repeat' split) <;> simp_all [-Int32.not_le, -Int32.not_lt, st2_a, rGap, rWall]; done))
        refine sw_st (st' := [.int (kColumn σ x y h t), .ref m0]) (congrArg (fun z => ([.int z, .ref m0] : List Value)) h_20) ?_
        exact sw_sub (ks := [1, 2, 3, 4, 5]) rfl (K_75 )
  refine sw_aload_n (pc := 0) hc dX8_column_0 rfl 0 rfl ?_
  refine sw_iload_n (pc := 1) hc dX8_column_1 rfl 3 rfl ?_
  refine sw_iconst (pc := 2) (v := (-1)) hc dX8_column_2 (by decide) ?_
  refine sw_bipush (pc := 3) (v := 6) hc dX8_column_3 (by decide) ?_
  refine sw_callV (pc := 5) (rest := []) hc (c_X8_between l g C m0 q σ h (-1) 6 hN ) md_X8_between ml_RX8_95 im_X8_between sl_X8_between (mW_o hN) rfl rfl rfl (Nat.le_of_ble_eq_true rfl) dX8_column_5 ⟨Nat.le_of_ble_eq_true rfl, Nat.le_of_ble_eq_true rfl, Nat.le_of_ble_eq_true rfl, Nat.le_of_ble_eq_true rfl⟩ (fun v C' hP => ?_) (fun _ _ h => h.elim)
  obtain ⟨rfl, rfl⟩ := hP
  refine sw_st (st' := [.int (bI ((-1) ≤ h ∧ h ≤ 6))]) rfl ?_
  refine sw_if_eq (pc := 8) (tgt := 26) hc dX8_column_8 (by decide) (fun c_21 => ?_) (fun c_21 => ?_)
  ·
    have p_22 : ¬ ((-1) ≤ h ∧ h ≤ 6) := bI_0 c_21
    refine sw_iconst (pc := 26) (v := 0) hc dX8_column_26 (by decide) ?_
    have h_23 : 0 = bI (rRngC h t) := by first | with_reducible rfl | (first | with_reducible rfl | (simp [-Int32.not_le, -Int32.not_lt, bI, st2_a, p_22]; done) | (((try simp only [st2_a, Nat.reduceBEq, Bool.false_and, Bool.true_and, beq_self_eq_true, cond_false, cond_true] at p_22) <;> simp [-Int32.not_le, -Int32.not_lt, bI, st2_a, p_22]); done) | ((try simp only [bI]); (repeat' split) <;> simp_all [-Int32.not_le, -Int32.not_lt, st2_a, rGap, rWall]; done))
    refine sw_st (st' := [.int (bI (rRngC h t))]) (congrArg (fun z => ([.int z] : List Value)) h_23) ?_
    exact sw_sub (ks := [0, 1, 2, 3, 4]) rfl (K_27 )
  ·
    have p_24 : (-1) ≤ h ∧ h ≤ 6 := bI_n c_21
    refine sw_aload_n (pc := 11) hc dX8_column_11 rfl 0 rfl ?_
    refine sw_iload (pc := 12) hc dX8_column_12 4 rfl ?_
    refine sw_iconst (pc := 14) (v := 0) hc dX8_column_14 (by decide) ?_
    refine sw_iconst (pc := 15) (v := 2) hc dX8_column_15 (by decide) ?_
    refine sw_callV (pc := 16) (rest := []) hc (c_X8_between l g C m0 q σ t 0 2 hN ) md_X8_between ml_RX8_95 im_X8_between sl_X8_between (mW_o hN) rfl rfl rfl (Nat.le_of_ble_eq_true rfl) dX8_column_16 ⟨Nat.le_of_ble_eq_true rfl, Nat.le_of_ble_eq_true rfl, Nat.le_of_ble_eq_true rfl, Nat.le_of_ble_eq_true rfl⟩ (fun v C' hP => ?_) (fun _ _ h => h.elim)
    obtain ⟨rfl, rfl⟩ := hP
    refine sw_st (st' := [.int (bI (0 ≤ t ∧ t ≤ 2))]) rfl ?_
    refine sw_if_eq (pc := 19) (tgt := 26) hc dX8_column_19 (by decide) (fun c_25 => ?_) (fun c_25 => ?_)
    ·
      have p_26 : ¬ (0 ≤ t ∧ t ≤ 2) := bI_0 c_25
      refine sw_iconst (pc := 26) (v := 0) hc dX8_column_26 (by decide) ?_
      have h_27 : 0 = bI (rRngC h t) := by first | with_reducible rfl | (first | with_reducible rfl | (simp [-Int32.not_le, -Int32.not_lt, bI, st2_a, p_24, p_26]; done) | (((try simp only [st2_a, Nat.reduceBEq, Bool.false_and, Bool.true_and, beq_self_eq_true, cond_false, cond_true] at p_24 p_26) <;> simp [-Int32.not_le, -Int32.not_lt, bI, st2_a, p_24, p_26]); done) | ((try simp only [bI]); (repeat' split) <;> simp_all [-Int32.not_le, -Int32.not_lt, st2_a, rGap, rWall]; done))
      refine sw_st (st' := [.int (bI (rRngC h t))]) (congrArg (fun z => ([.int z] : List Value)) h_27) ?_
      exact sw_sub (ks := [0, 1, 2, 3, 4]) rfl (K_27 )
    ·
      have p_28 : 0 ≤ t ∧ t ≤ 2 := bI_n c_25
      refine sw_iconst (pc := 22) (v := 1) hc dX8_column_22 (by decide) ?_
      refine sw_goto (pc := 23) (tgt := 27) hc dX8_column_23 (by decide) ?_
      have h_29 : 1 = bI (rRngC h t) := by first | with_reducible rfl | (first | with_reducible rfl | (simp [-Int32.not_le, -Int32.not_lt, bI, st2_a, p_24, p_28]; done) | (((try simp only [st2_a, Nat.reduceBEq, Bool.false_and, Bool.true_and, beq_self_eq_true, cond_false, cond_true] at p_24 p_28) <;> simp [-Int32.not_le, -Int32.not_lt, bI, st2_a, p_24, p_28]); done) | ((try simp only [bI]); (repeat' split) <;> simp_all [-Int32.not_le, -Int32.not_lt, st2_a, rGap, rWall]; done))
      refine sw_st (st' := [.int (bI (rRngC h t))]) (congrArg (fun z => ([.int z] : List Value)) h_29) ?_
      exact sw_sub (ks := [0, 1, 2, 3, 4]) rfl (K_27 )

set_option maxHeartbeats 4000000 in
set_option maxRecDepth 100000 in
theorem c_X8_replay (l : Launch) (g : sg_G) (C : Nat → Option va_E) (m0 : Nat) (q : Nat → Nat) (σ : Mem) (x : Int32) (hN : mN m0 q) (hWF : rWF σ) : sg_Met l yX8_replay cX8_replay 2 (some .int) 2 44 0 0 g [.ref m0, .int x] (sg_ov C (mW g m0 q σ)) (fun v C' => v = some (.int (vReplay σ x)) ∧ C' = sg_ov C (mW g m0 q (fReplay σ x))) sg_no := by
  refine sg_ofW (by decide) rfl ?_ (Nat.le_of_ble_eq_true rfl)
  intro p e s m below meth c hc hlk hrt hin2 htb
  have hc : sg_Cx p s m _ c cX8_replay 2 RX8 g := hc
  show sg_W p l e _ s m _ below meth c 2 g 0 0 _ (sg_ov C (mW g m0 q σ)) 0 [(0, .ref m0), (1, .int x)] []
  have K_27 : sg_W p l e (sg_rm 2 44 0 0) s m ([.ref m0, .int x] : List Value).toArray below meth c 2 g 0 0 (sg_End below g (fun v C' => v = some (.int (vReplay σ x)) ∧ C' = sg_ov C (mW g m0 q (fReplay σ x))) sg_no ([.ref m0, .int x] : List Value).toArray s 0 0) (sg_ov C (mW g m0 q σ)) 27 [(0, .ref m0), (1, .int x)] [.int (kReplay σ x), .ref m0] := by
    refine sw_callV (pc := 27) (rest := []) hc (c_X8_holds l g C m0 q σ (kReplay σ x) hN ) md_X8_holds ml_RX8_171 im_X8_holds sl_X8_holds (mW_o hN) rfl rfl rfl (Nat.le_of_ble_eq_true rfl) dX8_replay_27 ⟨Nat.le_of_ble_eq_true rfl, Nat.le_of_ble_eq_true rfl, Nat.le_of_ble_eq_true rfl, Nat.le_of_ble_eq_true rfl⟩ (fun v C' hP => ?_) (fun _ _ h => h.elim)
    obtain ⟨rfl, rfl⟩ := hP
    refine sw_st (st' := [.int (bI (0 < (kReplay σ x)))]) rfl ?_
    refine sw_if_eq (pc := 30) (tgt := 35) hc dX8_replay_30 (by decide) (fun c_1 => ?_) (fun c_1 => ?_)
    ·
      have p_2 : ¬ (0 < (kReplay σ x)) := bI_0 c_1
      have k0 := kReplay_0 p_2; have fb := isN_ne (b := 20) hWF.2.1 (by decide) k0.2
      refine sw_aload_n (pc := 35) hc dX8_replay_35 rfl 0 rfl ?_
      refine sw_get (pc := 36) (v := .ref (q 3)) hc fl_RX8_16 (mW_o hN) rfl dX8_replay_36 ?_
      refine sw_aload_n (pc := 39) hc dX8_replay_39 rfl 0 rfl ?_
      refine sw_get (pc := 40) (v := .int ((st2 σ 42 0 (kReplay σ x)) 9 0)) hc fl_RX8_99 (mW_o hN) rfl dX8_replay_40 ?_
      refine sw_st (st' := [.int (nI (iN (σ 9 0))), .ref (q 3)]) (congrArg (fun z => ([.int z, .ref (q 3)] : List Value)) hWF.2.1.1) ?_
      refine sw_iload_n (pc := 43) hc dX8_replay_43 rfl 1 rfl ?_
      refine sw_iast (pc := 44) (j := (iN (σ 9 0))) hc (mW_a3 hN) rfl fb (by decide) dX8_replay_44 ?_
      refine sw_eq (mW_s3 hN) ?_
      refine sw_aload_n (pc := 45) hc dX8_replay_45 rfl 0 rfl ?_
      refine sw_dup (pc := 46) hc dX8_replay_46 rfl ?_
      refine sw_get (pc := 47) (v := .int ((st2 σ 42 0 (kReplay σ x)) 9 0)) hc fl_RX8_99 (mW_o hN) rfl dX8_replay_47 ?_
      refine sw_iconst (pc := 50) (v := 1) hc dX8_replay_50 (by decide) ?_
      refine sw_iadd (pc := 51) hc dX8_replay_51 ?_
      refine sw_put (pc := 52) (k := 9) hc fl_RX8_99 ty_9 fp_9_9 (mW_o hN) rfl rfl (Nat.le_of_ble_eq_true rfl) rfl dX8_replay_52 ?_
      refine sw_eq (mW_p9 hN) ?_
      refine sw_aload_n (pc := 55) hc dX8_replay_55 rfl 0 rfl ?_
      refine sw_get (pc := 56) (v := .int (((st2 σ 42 0 (kReplay σ x)) 9 0) + 1)) hc fl_RX8_99 (mW_o hN) rfl dX8_replay_56 ?_
      refine sw_iconst (pc := 59) (v := 1) hc dX8_replay_59 (by decide) ?_
      refine sw_isub (pc := 60) hc dX8_replay_60 ?_
      have h_3 : (((st2 σ 42 0 (kReplay σ x)) 9 0) + 1) - 1 = vReplay σ x := by (first | exact (if_pos (by assumption)).symm | exact (if_neg (by assumption)).symm)
      have h_4 : st2 (st2 (st2 σ 42 0 (kReplay σ x)) 3 (iN (σ 9 0)) x) 9 0 (((st2 σ 42 0 (kReplay σ x)) 9 0) + 1) = fReplay σ x := by (first | exact (if_pos (by assumption)).symm | exact (if_neg (by assumption)).symm)
      exact sw_iret (pc := 61) hc hlk hrt rfl ⟨(congrArg (fun z => some (Value.int z)) h_3), (congrArg (fun z => sg_ov C (mW g m0 q z)) h_4)⟩ (Nat.le_of_ble_eq_true rfl) (Nat.le_of_ble_eq_true rfl) dX8_replay_61
    ·
      have p_5 : 0 < (kReplay σ x) := bI_n c_1
      refine sw_iconst (pc := 33) (v := (-1)) hc dX8_replay_33 (by decide) ?_
      have h_6 : (-1) = vReplay σ x := by (first | exact (if_pos (by assumption)).symm | exact (if_neg (by assumption)).symm)
      have h_7 : st2 σ 42 0 (kReplay σ x) = fReplay σ x := by (first | exact (if_pos (by assumption)).symm | exact (if_neg (by assumption)).symm)
      exact sw_iret (pc := 34) hc hlk hrt rfl ⟨(congrArg (fun z => some (Value.int z)) h_6), (congrArg (fun z => sg_ov C (mW g m0 q z)) h_7)⟩ (Nat.le_of_ble_eq_true rfl) (Nat.le_of_ble_eq_true rfl) dX8_replay_34
  refine sw_aload_n (pc := 0) hc dX8_replay_0 rfl 0 rfl ?_
  refine sw_aload_n (pc := 1) hc dX8_replay_1 rfl 0 rfl ?_
  refine sw_iload_n (pc := 2) hc dX8_replay_2 rfl 1 rfl ?_
  refine sw_callV (pc := 3) (rest := [.ref m0]) hc (c_X8_isLevel l g C m0 q σ x hN ) md_X8_isLevel ml_RX8_175 im_X8_isLevel sl_X8_isLevel (mW_o hN) rfl rfl rfl (Nat.le_of_ble_eq_true rfl) dX8_replay_3 ⟨Nat.le_of_ble_eq_true rfl, Nat.le_of_ble_eq_true rfl, Nat.le_of_ble_eq_true rfl, Nat.le_of_ble_eq_true rfl⟩ (fun v C' hP => ?_) (fun _ _ h => h.elim)
  obtain ⟨rfl, rfl⟩ := hP
  refine sw_st (st' := [.int (bI (rIn σ 2 x)), .ref m0]) rfl ?_
  refine sw_if_ne (pc := 6) (tgt := 13) hc dX8_replay_6 (by decide) (fun c_8 => ?_) (fun c_8 => ?_)
  ·
    have p_9 : rIn σ 2 x := bI_n c_8
    refine sw_aload_n (pc := 13) hc dX8_replay_13 rfl 0 rfl ?_
    refine sw_get (pc := 14) (v := .int (σ 9 0)) hc fl_RX8_99 (mW_o hN) rfl dX8_replay_14 ?_
    refine sw_bipush (pc := 17) (v := 20) hc dX8_replay_17 (by decide) ?_
    refine sw_icmp_ne (pc := 19) (tgt := 26) hc dX8_replay_19 (by decide) (fun c_10 => ?_) (fun c_10 => ?_)
    ·
      refine sw_iconst (pc := 26) (v := 0) hc dX8_replay_26 (by decide) ?_
      have h_11 : 0 = kReplay σ x := by first | with_reducible rfl | (first | with_reducible rfl | (simp [-Int32.not_le, -Int32.not_lt, kReplay, st2_a, p_9, c_10]; done) | (((try simp only [st2_a, Nat.reduceBEq, Bool.false_and, Bool.true_and, beq_self_eq_true, cond_false, cond_true] at p_9 c_10) <;> simp [-Int32.not_le, -Int32.not_lt, kReplay, st2_a, p_9, c_10]); done) | ((try simp only [kReplay]); (repeat' split) <;> simp_all [-Int32.not_le, -Int32.not_lt, st2_a, rGap, rWall]; done))
      refine sw_st (st' := [.int (kReplay σ x), .ref m0]) (congrArg (fun z => ([.int z, .ref m0] : List Value)) h_11) ?_
      exact sw_sub (ks := [0, 1]) rfl (K_27 )
    ·
      refine sw_iconst (pc := 22) (v := 2) hc dX8_replay_22 (by decide) ?_
      refine sw_goto (pc := 23) (tgt := 27) hc dX8_replay_23 (by decide) ?_
      have h_12 : 2 = kReplay σ x := by first | with_reducible rfl | (first | with_reducible rfl | (simp [-Int32.not_le, -Int32.not_lt, kReplay, st2_a, p_9, c_10]; done) | (((try simp only [st2_a, Nat.reduceBEq, Bool.false_and, Bool.true_and, beq_self_eq_true, cond_false, cond_true] at p_9 c_10) <;> simp [-Int32.not_le, -Int32.not_lt, kReplay, st2_a, p_9, c_10]); done) | ((try simp only [kReplay]); (repeat' split) <;> simp_all [-Int32.not_le, -Int32.not_lt, st2_a, rGap, rWall]; done))
      refine sw_st (st' := [.int (kReplay σ x), .ref m0]) (congrArg (fun z => ([.int z, .ref m0] : List Value)) h_12) ?_
      exact sw_sub (ks := [0, 1]) rfl (K_27 )
  ·
    have p_13 : ¬ (rIn σ 2 x) := bI_0 c_8
    refine sw_iconst (pc := 9) (v := 1) hc dX8_replay_9 (by decide) ?_
    refine sw_goto (pc := 10) (tgt := 27) hc dX8_replay_10 (by decide) ?_
    have h_14 : 1 = kReplay σ x := by first | with_reducible rfl | (first | with_reducible rfl | (simp [-Int32.not_le, -Int32.not_lt, kReplay, st2_a, p_13]; done) | (((try simp only [st2_a, Nat.reduceBEq, Bool.false_and, Bool.true_and, beq_self_eq_true, cond_false, cond_true] at p_13) <;> simp [-Int32.not_le, -Int32.not_lt, kReplay, st2_a, p_13]); done) | ((try simp only [kReplay]); (repeat' split) <;> simp_all [-Int32.not_le, -Int32.not_lt, st2_a, rGap, rWall]; done))
    refine sw_st (st' := [.int (kReplay σ x), .ref m0]) (congrArg (fun z => ([.int z, .ref m0] : List Value)) h_14) ?_
    exact sw_sub (ks := [0, 1]) rfl (K_27 )

set_option maxHeartbeats 4000000 in
set_option maxRecDepth 100000 in
theorem c_X8_category (l : Launch) (g : sg_G) (C : Nat → Option va_E) (m0 : Nat) (q : Nat → Nat) (σ : Mem) (x : Int32) (hN : mN m0 q) (hWF : rWF σ) : sg_Met l yX8_category cX8_category 2 (some .int) 2 44 0 0 g [.ref m0, .int x] (sg_ov C (mW g m0 q σ)) (fun v C' => v = some (.int (vCategory σ x)) ∧ C' = sg_ov C (mW g m0 q (fCategory σ x))) sg_no := by
  refine sg_ofW (by decide) rfl ?_ (Nat.le_of_ble_eq_true rfl)
  intro p e s m below meth c hc hlk hrt hin2 htb
  have hc : sg_Cx p s m _ c cX8_category 2 RX8 g := hc
  show sg_W p l e _ s m _ below meth c 2 g 0 0 _ (sg_ov C (mW g m0 q σ)) 0 [(0, .ref m0), (1, .int x)] []
  have K_27 : sg_W p l e (sg_rm 2 44 0 0) s m ([.ref m0, .int x] : List Value).toArray below meth c 2 g 0 0 (sg_End below g (fun v C' => v = some (.int (vCategory σ x)) ∧ C' = sg_ov C (mW g m0 q (fCategory σ x))) sg_no ([.ref m0, .int x] : List Value).toArray s 0 0) (sg_ov C (mW g m0 q σ)) 27 [(0, .ref m0), (1, .int x)] [.int (kCategory σ x), .ref m0] := by
    refine sw_callV (pc := 27) (rest := []) hc (c_X8_holds l g C m0 q σ (kCategory σ x) hN ) md_X8_holds ml_RX8_171 im_X8_holds sl_X8_holds (mW_o hN) rfl rfl rfl (Nat.le_of_ble_eq_true rfl) dX8_category_27 ⟨Nat.le_of_ble_eq_true rfl, Nat.le_of_ble_eq_true rfl, Nat.le_of_ble_eq_true rfl, Nat.le_of_ble_eq_true rfl⟩ (fun v C' hP => ?_) (fun _ _ h => h.elim)
    obtain ⟨rfl, rfl⟩ := hP
    refine sw_st (st' := [.int (bI (0 < (kCategory σ x)))]) rfl ?_
    refine sw_if_eq (pc := 30) (tgt := 35) hc dX8_category_30 (by decide) (fun c_1 => ?_) (fun c_1 => ?_)
    ·
      have p_2 : ¬ (0 < (kCategory σ x)) := bI_0 c_1
      have k0 := kCategory_0 p_2; have fb := isN_ne (b := 6) hWF.2.2.1 (by decide) k0.2
      refine sw_aload_n (pc := 35) hc dX8_category_35 rfl 0 rfl ?_
      refine sw_get (pc := 36) (v := .ref (q 10)) hc fl_RX8_34 (mW_o hN) rfl dX8_category_36 ?_
      refine sw_aload_n (pc := 39) hc dX8_category_39 rfl 0 rfl ?_
      refine sw_get (pc := 40) (v := .int ((st2 σ 42 0 (kCategory σ x)) 16 0)) hc fl_RX8_102 (mW_o hN) rfl dX8_category_40 ?_
      refine sw_st (st' := [.int (nI (iN (σ 16 0))), .ref (q 10)]) (congrArg (fun z => ([.int z, .ref (q 10)] : List Value)) hWF.2.2.1.1) ?_
      refine sw_iload_n (pc := 43) hc dX8_category_43 rfl 1 rfl ?_
      refine sw_iast (pc := 44) (j := (iN (σ 16 0))) hc (mW_a10 hN) rfl fb (by decide) dX8_category_44 ?_
      refine sw_eq (mW_s10 hN) ?_
      refine sw_aload_n (pc := 45) hc dX8_category_45 rfl 0 rfl ?_
      refine sw_dup (pc := 46) hc dX8_category_46 rfl ?_
      refine sw_get (pc := 47) (v := .int ((st2 σ 42 0 (kCategory σ x)) 16 0)) hc fl_RX8_102 (mW_o hN) rfl dX8_category_47 ?_
      refine sw_iconst (pc := 50) (v := 1) hc dX8_category_50 (by decide) ?_
      refine sw_iadd (pc := 51) hc dX8_category_51 ?_
      refine sw_put (pc := 52) (k := 16) hc fl_RX8_102 ty_9 fp_9_16 (mW_o hN) rfl rfl (Nat.le_of_ble_eq_true rfl) rfl dX8_category_52 ?_
      refine sw_eq (mW_p16 hN) ?_
      refine sw_aload_n (pc := 55) hc dX8_category_55 rfl 0 rfl ?_
      refine sw_get (pc := 56) (v := .int (((st2 σ 42 0 (kCategory σ x)) 16 0) + 1)) hc fl_RX8_102 (mW_o hN) rfl dX8_category_56 ?_
      refine sw_iconst (pc := 59) (v := 1) hc dX8_category_59 (by decide) ?_
      refine sw_isub (pc := 60) hc dX8_category_60 ?_
      have h_3 : (((st2 σ 42 0 (kCategory σ x)) 16 0) + 1) - 1 = vCategory σ x := by (first | exact (if_pos (by assumption)).symm | exact (if_neg (by assumption)).symm)
      have h_4 : st2 (st2 (st2 σ 42 0 (kCategory σ x)) 10 (iN (σ 16 0)) x) 16 0 (((st2 σ 42 0 (kCategory σ x)) 16 0) + 1) = fCategory σ x := by (first | exact (if_pos (by assumption)).symm | exact (if_neg (by assumption)).symm)
      exact sw_iret (pc := 61) hc hlk hrt rfl ⟨(congrArg (fun z => some (Value.int z)) h_3), (congrArg (fun z => sg_ov C (mW g m0 q z)) h_4)⟩ (Nat.le_of_ble_eq_true rfl) (Nat.le_of_ble_eq_true rfl) dX8_category_61
    ·
      have p_5 : 0 < (kCategory σ x) := bI_n c_1
      refine sw_iconst (pc := 33) (v := (-1)) hc dX8_category_33 (by decide) ?_
      have h_6 : (-1) = vCategory σ x := by (first | exact (if_pos (by assumption)).symm | exact (if_neg (by assumption)).symm)
      have h_7 : st2 σ 42 0 (kCategory σ x) = fCategory σ x := by (first | exact (if_pos (by assumption)).symm | exact (if_neg (by assumption)).symm)
      exact sw_iret (pc := 34) hc hlk hrt rfl ⟨(congrArg (fun z => some (Value.int z)) h_6), (congrArg (fun z => sg_ov C (mW g m0 q z)) h_7)⟩ (Nat.le_of_ble_eq_true rfl) (Nat.le_of_ble_eq_true rfl) dX8_category_34
  refine sw_aload_n (pc := 0) hc dX8_category_0 rfl 0 rfl ?_
  refine sw_aload_n (pc := 1) hc dX8_category_1 rfl 0 rfl ?_
  refine sw_iload_n (pc := 2) hc dX8_category_2 rfl 1 rfl ?_
  refine sw_callV (pc := 3) (rest := [.ref m0]) hc (c_X8_isLevel l g C m0 q σ x hN ) md_X8_isLevel ml_RX8_175 im_X8_isLevel sl_X8_isLevel (mW_o hN) rfl rfl rfl (Nat.le_of_ble_eq_true rfl) dX8_category_3 ⟨Nat.le_of_ble_eq_true rfl, Nat.le_of_ble_eq_true rfl, Nat.le_of_ble_eq_true rfl, Nat.le_of_ble_eq_true rfl⟩ (fun v C' hP => ?_) (fun _ _ h => h.elim)
  obtain ⟨rfl, rfl⟩ := hP
  refine sw_st (st' := [.int (bI (rIn σ 2 x)), .ref m0]) rfl ?_
  refine sw_if_ne (pc := 6) (tgt := 13) hc dX8_category_6 (by decide) (fun c_8 => ?_) (fun c_8 => ?_)
  ·
    have p_9 : rIn σ 2 x := bI_n c_8
    refine sw_aload_n (pc := 13) hc dX8_category_13 rfl 0 rfl ?_
    refine sw_get (pc := 14) (v := .int (σ 16 0)) hc fl_RX8_102 (mW_o hN) rfl dX8_category_14 ?_
    refine sw_bipush (pc := 17) (v := 6) hc dX8_category_17 (by decide) ?_
    refine sw_icmp_ne (pc := 19) (tgt := 26) hc dX8_category_19 (by decide) (fun c_10 => ?_) (fun c_10 => ?_)
    ·
      refine sw_iconst (pc := 26) (v := 0) hc dX8_category_26 (by decide) ?_
      have h_11 : 0 = kCategory σ x := by first | with_reducible rfl | (first | with_reducible rfl | (simp [-Int32.not_le, -Int32.not_lt, kCategory, st2_a, p_9, c_10]; done) | (((try simp only [st2_a, Nat.reduceBEq, Bool.false_and, Bool.true_and, beq_self_eq_true, cond_false, cond_true] at p_9 c_10) <;> simp [-Int32.not_le, -Int32.not_lt, kCategory, st2_a, p_9, c_10]); done) | ((try simp only [kCategory]); (repeat' split) <;> simp_all [-Int32.not_le, -Int32.not_lt, st2_a, rGap, rWall]; done))
      refine sw_st (st' := [.int (kCategory σ x), .ref m0]) (congrArg (fun z => ([.int z, .ref m0] : List Value)) h_11) ?_
      exact sw_sub (ks := [0, 1]) rfl (K_27 )
    ·
      refine sw_iconst (pc := 22) (v := 2) hc dX8_category_22 (by decide) ?_
      refine sw_goto (pc := 23) (tgt := 27) hc dX8_category_23 (by decide) ?_
      have h_12 : 2 = kCategory σ x := by first | with_reducible rfl | (first | with_reducible rfl | (simp [-Int32.not_le, -Int32.not_lt, kCategory, st2_a, p_9, c_10]; done) | (((try simp only [st2_a, Nat.reduceBEq, Bool.false_and, Bool.true_and, beq_self_eq_true, cond_false, cond_true] at p_9 c_10) <;> simp [-Int32.not_le, -Int32.not_lt, kCategory, st2_a, p_9, c_10]); done) | ((try simp only [kCategory]); (repeat' split) <;> simp_all [-Int32.not_le, -Int32.not_lt, st2_a, rGap, rWall]; done))
      refine sw_st (st' := [.int (kCategory σ x), .ref m0]) (congrArg (fun z => ([.int z, .ref m0] : List Value)) h_12) ?_
      exact sw_sub (ks := [0, 1]) rfl (K_27 )
  ·
    have p_13 : ¬ (rIn σ 2 x) := bI_0 c_8
    refine sw_iconst (pc := 9) (v := 1) hc dX8_category_9 (by decide) ?_
    refine sw_goto (pc := 10) (tgt := 27) hc dX8_category_10 (by decide) ?_
    have h_14 : 1 = kCategory σ x := by first | with_reducible rfl | (first | with_reducible rfl | (simp [-Int32.not_le, -Int32.not_lt, kCategory, st2_a, p_13]; done) | (((try simp only [st2_a, Nat.reduceBEq, Bool.false_and, Bool.true_and, beq_self_eq_true, cond_false, cond_true] at p_13) <;> simp [-Int32.not_le, -Int32.not_lt, kCategory, st2_a, p_13]); done) | ((try simp only [kCategory]); (repeat' split) <;> simp_all [-Int32.not_le, -Int32.not_lt, st2_a, rGap, rWall]; done))
    refine sw_st (st' := [.int (kCategory σ x), .ref m0]) (congrArg (fun z => ([.int z, .ref m0] : List Value)) h_14) ?_
    exact sw_sub (ks := [0, 1]) rfl (K_27 )

set_option maxHeartbeats 4000000 in
set_option maxRecDepth 100000 in
theorem c_X8_input (l : Launch) (g : sg_G) (C : Nat → Option va_E) (m0 : Nat) (q : Nat → Nat) (σ : Mem) (x : Int32) (b : Int32) (t : Int32) (hN : mN m0 q) (hWF : rWF σ) : sg_Met l yX8_input cX8_input 6 (some .int) 2 44 0 0 g [.ref m0, .int x, .int b, .int t] (sg_ov C (mW g m0 q σ)) (fun v C' => v = some (.int (vInput σ x b t)) ∧ C' = sg_ov C (mW g m0 q (fInput σ x b t))) sg_no := by
  refine sg_ofW (by decide) rfl ?_ (Nat.le_of_ble_eq_true rfl)
  intro p e s m below meth c hc hlk hrt hin2 htb
  have hc : sg_Cx p s m _ c cX8_input 6 RX8 g := hc
  show sg_W p l e _ s m _ below meth c 6 g 0 0 _ (sg_ov C (mW g m0 q σ)) 0 [(0, .ref m0), (1, .int x), (2, .int b), (3, .int t)] []
  have K_116 : sg_W p l e (sg_rm 2 44 0 0) s m ([.ref m0, .int x, .int b, .int t] : List Value).toArray below meth c 6 g 0 0 (sg_End below g (fun v C' => v = some (.int (vInput σ x b t)) ∧ C' = sg_ov C (mW g m0 q (fInput σ x b t))) sg_no ([.ref m0, .int x, .int b, .int t] : List Value).toArray s 0 0) (sg_ov C (mW g m0 q σ)) 116 [(0, .ref m0), (1, .int x), (2, .int b), (3, .int t)] [.int (kInput σ x b t), .ref m0] := by
    refine sw_callV (pc := 116) (rest := []) hc (c_X8_holds l g C m0 q σ (kInput σ x b t) hN ) md_X8_holds ml_RX8_171 im_X8_holds sl_X8_holds (mW_o hN) rfl rfl rfl (Nat.le_of_ble_eq_true rfl) dX8_input_116 ⟨Nat.le_of_ble_eq_true rfl, Nat.le_of_ble_eq_true rfl, Nat.le_of_ble_eq_true rfl, Nat.le_of_ble_eq_true rfl⟩ (fun v C' hP => ?_) (fun _ _ h => h.elim)
    obtain ⟨rfl, rfl⟩ := hP
    refine sw_st (st' := [.int (bI (0 < (kInput σ x b t)))]) rfl ?_
    refine sw_if_eq (pc := 119) (tgt := 124) hc dX8_input_119 (by decide) (fun c_1 => ?_) (fun c_1 => ?_)
    ·
      have p_2 : ¬ (0 < (kInput σ x b t)) := bI_0 c_1
      have k0 := kInput_0 p_2
      obtain ⟨fx, fx2⟩ := rIn_x hWF.2.1 (by decide) k0.1; have fxb := hWF.2.1.2
      have fp := isN_ne (b := 20) (hWF.2.2.2.2.2.2.1 (iN x)) (by decide) (fun z => k0.2.2 ⟨k0.1, k0.2.1, .inr (.inl z)⟩)
      refine sw_aload_n (pc := 124) hc dX8_input_124 rfl 0 rfl ?_
      refine sw_get (pc := 125) (v := .ref (q 7)) hc fl_RX8_28 (mW_o hN) rfl dX8_input_125 ?_
      refine sw_bipush (pc := 128) (v := 20) hc dX8_input_128 (by decide) ?_
      refine sw_iload_n (pc := 130) hc dX8_input_130 rfl 1 rfl ?_
      refine sw_imul (pc := 131) hc dX8_input_131 ?_
      refine sw_aload_n (pc := 132) hc dX8_input_132 rfl 0 rfl ?_
      refine sw_get (pc := 133) (v := .ref (q 4)) hc fl_RX8_19 (mW_o hN) rfl dX8_input_133 ?_
      refine sw_iload_n (pc := 136) hc dX8_input_136 rfl 1 rfl ?_
      refine sw_iald (pc := 137) (j := (iN x)) hc (mW_a4 hN) fx (by omega) (by decide) dX8_input_137 ?_
      refine sw_st (st' := [.int (nI (iN (σ 4 (iN x)))), .int (20 * x), .ref (q 7)]) (congrArg (fun z => ([.int z, .int (20 * x), .ref (q 7)] : List Value)) (hWF.2.2.2.2.2.2.1 (iN x)).1) ?_
      refine sw_iadd (pc := 138) hc dX8_input_138 ?_
      refine sw_iload_n (pc := 139) hc dX8_input_139 rfl 2 rfl ?_
      refine sw_iast (pc := 140) (j := 20 * (iN x) + (iN (σ 4 (iN x)))) hc (mW_a7 hN) ((congr (congrArg (fun z w => 20 * z + w) fx) (rfl : _ = nI (iN (σ 4 (iN x))))).trans (nI_ix 20)) (by omega) (by decide) dX8_input_140 ?_
      refine sw_eq (mW_s7 hN) ?_
      refine sw_aload_n (pc := 141) hc dX8_input_141 rfl 0 rfl ?_
      refine sw_get (pc := 142) (v := .ref (q 8)) hc fl_RX8_31 (mW_o hN) rfl dX8_input_142 ?_
      refine sw_bipush (pc := 145) (v := 20) hc dX8_input_145 (by decide) ?_
      refine sw_iload_n (pc := 147) hc dX8_input_147 rfl 1 rfl ?_
      refine sw_imul (pc := 148) hc dX8_input_148 ?_
      refine sw_aload_n (pc := 149) hc dX8_input_149 rfl 0 rfl ?_
      refine sw_get (pc := 150) (v := .ref (q 4)) hc fl_RX8_19 (mW_o hN) rfl dX8_input_150 ?_
      refine sw_iload_n (pc := 153) hc dX8_input_153 rfl 1 rfl ?_
      refine sw_iald (pc := 154) (j := (iN x)) hc (mW_a4 hN) fx (by omega) (by decide) dX8_input_154 ?_
      refine sw_st (st' := [.int (nI (iN (σ 4 (iN x)))), .int (20 * x), .ref (q 8)]) (congrArg (fun z => ([.int z, .int (20 * x), .ref (q 8)] : List Value)) (hWF.2.2.2.2.2.2.1 (iN x)).1) ?_
      refine sw_iadd (pc := 155) hc dX8_input_155 ?_
      refine sw_iload_n (pc := 156) hc dX8_input_156 rfl 3 rfl ?_
      refine sw_iast (pc := 157) (j := 20 * (iN x) + (iN (σ 4 (iN x)))) hc (mW_a8 hN) ((congr (congrArg (fun z w => 20 * z + w) fx) (rfl : _ = nI (iN (σ 4 (iN x))))).trans (nI_ix 20)) (by omega) (by decide) dX8_input_157 ?_
      refine sw_eq (mW_s8 hN) ?_
      refine sw_aload_n (pc := 158) hc dX8_input_158 rfl 0 rfl ?_
      refine sw_get (pc := 159) (v := .ref (q 4)) hc fl_RX8_19 (mW_o hN) rfl dX8_input_159 ?_
      refine sw_iload_n (pc := 162) hc dX8_input_162 rfl 1 rfl ?_
      refine sw_dup2_11 (pc := 163) hc dX8_input_163 rfl rfl ?_
      refine sw_iald (pc := 164) (j := (iN x)) hc (mW_a4 hN) fx (by omega) (by decide) dX8_input_164 ?_
      refine sw_iconst (pc := 165) (v := 1) hc dX8_input_165 (by decide) ?_
      refine sw_iadd (pc := 166) hc dX8_input_166 ?_
      refine sw_iast (pc := 167) (j := (iN x)) hc (mW_a4 hN) fx (by omega) (by decide) dX8_input_167 ?_
      refine sw_eq (mW_s4 hN) ?_
      refine sw_aload_n (pc := 168) hc dX8_input_168 rfl 0 rfl ?_
      refine sw_get (pc := 169) (v := .ref (q 5)) hc fl_RX8_22 (mW_o hN) rfl dX8_input_169 ?_
      refine sw_iload_n (pc := 172) hc dX8_input_172 rfl 1 rfl ?_
      refine sw_dup2_11 (pc := 173) hc dX8_input_173 rfl rfl ?_
      refine sw_iald (pc := 174) (j := (iN x)) hc (mW_a5 hN) fx (by omega) (by decide) dX8_input_174 ?_
      refine sw_iload_n (pc := 175) hc dX8_input_175 rfl 3 rfl ?_
      refine sw_iadd (pc := 176) hc dX8_input_176 ?_
      refine sw_iast (pc := 177) (j := (iN x)) hc (mW_a5 hN) fx (by omega) (by decide) dX8_input_177 ?_
      refine sw_eq (mW_s5 hN) ?_
      refine sw_aload_n (pc := 178) hc dX8_input_178 rfl 0 rfl ?_
      refine sw_get (pc := 179) (v := .ref (q 5)) hc fl_RX8_22 (mW_o hN) rfl dX8_input_179 ?_
      refine sw_iload_n (pc := 182) hc dX8_input_182 rfl 1 rfl ?_
      refine sw_iald (pc := 183) (j := (iN x)) hc (mW_a5 hN) fx (by omega) (by decide) dX8_input_183 ?_
      refine sw_st (st' := [.int (σ 5 (iN x) + t)]) (congrArg (fun z => ([.int z] : List Value)) st2_ss) ?_
      have h_3 : σ 5 (iN x) + t = vInput σ x b t := by (first | exact (if_pos (by assumption)).symm | exact (if_neg (by assumption)).symm)
      have h_4 : st2 (st2 (st2 (st2 (st2 σ 42 0 (kInput σ x b t)) 7 (20 * (iN x) + (iN (σ 4 (iN x)))) b) 8 (20 * (iN x) + (iN (σ 4 (iN x)))) t) 4 (iN x) (((st2 σ 42 0 (kInput σ x b t)) 4 (iN x)) + 1)) 5 (iN x) (((st2 σ 42 0 (kInput σ x b t)) 5 (iN x)) + t) = fInput σ x b t := by (first | exact (if_pos (by assumption)).symm | exact (if_neg (by assumption)).symm)
      exact sw_iret (pc := 184) hc hlk hrt rfl ⟨(congrArg (fun z => some (Value.int z)) h_3), (congrArg (fun z => sg_ov C (mW g m0 q z)) h_4)⟩ (Nat.le_of_ble_eq_true rfl) (Nat.le_of_ble_eq_true rfl) dX8_input_184
    ·
      have p_5 : 0 < (kInput σ x b t) := bI_n c_1
      refine sw_iconst (pc := 122) (v := (-1)) hc dX8_input_122 (by decide) ?_
      have h_6 : (-1) = vInput σ x b t := by (first | exact (if_pos (by assumption)).symm | exact (if_neg (by assumption)).symm)
      have h_7 : st2 σ 42 0 (kInput σ x b t) = fInput σ x b t := by (first | exact (if_pos (by assumption)).symm | exact (if_neg (by assumption)).symm)
      exact sw_iret (pc := 123) hc hlk hrt rfl ⟨(congrArg (fun z => some (Value.int z)) h_6), (congrArg (fun z => sg_ov C (mW g m0 q z)) h_7)⟩ (Nat.le_of_ble_eq_true rfl) (Nat.le_of_ble_eq_true rfl) dX8_input_123
  have K_82 : sg_W p l e (sg_rm 2 44 0 0) s m ([.ref m0, .int x, .int b, .int t] : List Value).toArray below meth c 6 g 0 0 (sg_End below g (fun v C' => v = some (.int (vInput σ x b t)) ∧ C' = sg_ov C (mW g m0 q (fInput σ x b t))) sg_no ([.ref m0, .int x, .int b, .int t] : List Value).toArray s 0 0) (sg_ov C (mW g m0 q σ)) 82 [(0, .ref m0), (1, .int x), (2, .int b), (3, .int t), (4, .int (bI (rRngI b t)))] [.int (bI (rFull σ x b t))] := by
    refine sw_istore (pc := 82) hc dX8_input_82 (by decide) (lv' := [(5, .int (bI (rFull σ x b t))), (0, .ref m0), (1, .int x), (2, .int b), (3, .int t), (4, .int (bI (rRngI b t)))]) rfl ?_
    refine sw_aload_n (pc := 84) hc dX8_input_84 rfl 1 rfl ?_
    refine sw_aload_n (pc := 85) hc dX8_input_85 rfl 1 rfl ?_
    refine sw_iload_n (pc := 86) hc dX8_input_86 rfl 2 rfl ?_
    refine sw_callV (pc := 87) (rest := [.ref m0]) hc (c_X8_isReplay l g C m0 q σ x hN ) md_X8_isReplay ml_RX8_181 im_X8_isReplay sl_X8_isReplay (mW_o hN) rfl rfl rfl (Nat.le_of_ble_eq_true rfl) dX8_input_87 ⟨Nat.le_of_ble_eq_true rfl, Nat.le_of_ble_eq_true rfl, Nat.le_of_ble_eq_true rfl, Nat.le_of_ble_eq_true rfl⟩ (fun v C' hP => ?_) (fun _ _ h => h.elim)
    obtain ⟨rfl, rfl⟩ := hP
    refine sw_st (st' := [.int (bI (rIn σ 9 x)), .ref m0]) rfl ?_
    refine sw_if_ne (pc := 90) (tgt := 97) hc dX8_input_90 (by decide) (fun c_8 => ?_) (fun c_8 => ?_)
    ·
      have p_9 : rIn σ 9 x := bI_n c_8
      refine sw_iload (pc := 97) hc dX8_input_97 5 rfl ?_
      refine sw_if_ne (pc := 99) (tgt := 106) hc dX8_input_99 (by decide) (fun c_10 => ?_) (fun c_10 => ?_)
      ·
        have p_11 : rRngI b t := bI_n c_10
        refine sw_iload (pc := 106) hc dX8_input_106 0 rfl ?_
        refine sw_if_eq (pc := 108) (tgt := 115) hc dX8_input_108 (by decide) (fun c_12 => ?_) (fun c_12 => ?_)
        ·
          have p_13 : ¬ (rFull σ x b t) := bI_0 c_12
          refine sw_iconst (pc := 115) (v := 0) hc dX8_input_115 (by decide) ?_
          have h_14 : 0 = kInput σ x b t := by first | with_reducible rfl | (first | with_reducible rfl | (simp [-Int32.not_le, -Int32.not_lt, kInput, st2_a, p_9, p_11, p_13]; done) | (((try simp only [st2_a, Nat.reduceBEq, Bool.false_and, Bool.true_and, beq_self_eq_true, cond_false, cond_true] at p_9 p_11 p_13) <;> simp [-Int32.not_le, -Int32.not_lt, kInput, st2_a, p_9, p_11, p_13]); done) | ((try simp only [kInput]); (repeat' split) <;> simp_all [-Int32.not_le, -Int32.not_lt, st2_a, rGap, rWall]; done))
          refine sw_st (st' := [.int (kInput σ x b t), .ref m0]) (congrArg (fun z => ([.int z, .ref m0] : List Value)) h_14) ?_
          exact sw_sub (ks := [1, 2, 3, 4]) rfl (K_116 )
        ·
          have p_15 : rFull σ x b t := bI_n c_12
          refine sw_iconst (pc := 111) (v := 3) hc dX8_input_111 (by decide) ?_
          refine sw_goto (pc := 112) (tgt := 116) hc dX8_input_112 (by decide) ?_
          have h_16 : 3 = kInput σ x b t := by first | with_reducible rfl | (first | with_reducible rfl | (simp [-Int32.not_le, -Int32.not_lt, kInput, st2_a, p_9, p_11, p_15]; done) | (((try simp only [st2_a, Nat.reduceBEq, Bool.false_and, Bool.true_and, beq_self_eq_true, cond_false, cond_true] at p_9 p_11 p_15) <;> simp [-Int32.not_le, -Int32.not_lt, kInput, st2_a, p_9, p_11, p_15]); done) | ((try simp only [kInput]); (repeat' split) <;> simp_all [-Int32.not_le, -Int32.not_lt, st2_a, rGap, rWall]; done))
          refine sw_st (st' := [.int (kInput σ x b t), .ref m0]) (congrArg (fun z => ([.int z, .ref m0] : List Value)) h_16) ?_
          exact sw_sub (ks := [1, 2, 3, 4]) rfl (K_116 )
      ·
        have p_17 : ¬ (rRngI b t) := bI_0 c_10
        refine sw_iconst (pc := 102) (v := 2) hc dX8_input_102 (by decide) ?_
        refine sw_goto (pc := 103) (tgt := 116) hc dX8_input_103 (by decide) ?_
        have h_18 : 2 = kInput σ x b t := by first | with_reducible rfl | (first | with_reducible rfl | (simp [-Int32.not_le, -Int32.not_lt, kInput, st2_a, p_9, p_17]; done) | (((try simp only [st2_a, Nat.reduceBEq, Bool.false_and, Bool.true_and, beq_self_eq_true, cond_false, cond_true] at p_9 p_17) <;> simp [-Int32.not_le, -Int32.not_lt, kInput, st2_a, p_9, p_17]); done) | ((try simp only [kInput]); (repeat' split) <;> simp_all [-Int32.not_le, -Int32.not_lt, st2_a, rGap, rWall]; done))
        refine sw_st (st' := [.int (kInput σ x b t), .ref m0]) (congrArg (fun z => ([.int z, .ref m0] : List Value)) h_18) ?_
        exact sw_sub (ks := [1, 2, 3, 4]) rfl (K_116 )
    ·
      have p_19 : ¬ (rIn σ 9 x) := bI_0 c_8
      refine sw_iconst (pc := 93) (v := 1) hc dX8_input_93 (by decide) ?_
      refine sw_goto (pc := 94) (tgt := 116) hc dX8_input_94 (by decide) ?_
      have h_20 : 1 = kInput σ x b t := by first | with_reducible rfl | (first | with_reducible rfl | (simp [-Int32.not_le, -Int32.not_lt, kInput, st2_a, p_19]; done) | (((try simp only [st2_a, Nat.reduceBEq, Bool.false_and, Bool.true_and, beq_self_eq_true, cond_false, cond_true] at p_19) <;> simp [-Int32.not_le, -Int32.not_lt, kInput, st2_a, p_19]); done) | ((try simp only [kInput]); (repeat' split) <;> simp_all [-Int32.not_le, -Int32.not_lt, st2_a, rGap, rWall]; done))
      refine sw_st (st' := [.int (kInput σ x b t), .ref m0]) (congrArg (fun z => ([.int z, .ref m0] : List Value)) h_20) ?_
      exact sw_sub (ks := [1, 2, 3, 4]) rfl (K_116 )
  have K_27 : sg_W p l e (sg_rm 2 44 0 0) s m ([.ref m0, .int x, .int b, .int t] : List Value).toArray below meth c 6 g 0 0 (sg_End below g (fun v C' => v = some (.int (vInput σ x b t)) ∧ C' = sg_ov C (mW g m0 q (fInput σ x b t))) sg_no ([.ref m0, .int x, .int b, .int t] : List Value).toArray s 0 0) (sg_ov C (mW g m0 q σ)) 27 [(0, .ref m0), (1, .int x), (2, .int b), (3, .int t)] [.int (bI (rRngI b t))] := by
    refine sw_istore (pc := 27) hc dX8_input_27 (by decide) (lv' := [(4, .int (bI (rRngI b t))), (0, .ref m0), (1, .int x), (2, .int b), (3, .int t)]) rfl ?_
    refine sw_aload_n (pc := 29) hc dX8_input_29 rfl 1 rfl ?_
    refine sw_iload_n (pc := 30) hc dX8_input_30 rfl 2 rfl ?_
    refine sw_callV (pc := 31) (rest := []) hc (c_X8_isReplay l g C m0 q σ x hN ) md_X8_isReplay ml_RX8_181 im_X8_isReplay sl_X8_isReplay (mW_o hN) rfl rfl rfl (Nat.le_of_ble_eq_true rfl) dX8_input_31 ⟨Nat.le_of_ble_eq_true rfl, Nat.le_of_ble_eq_true rfl, Nat.le_of_ble_eq_true rfl, Nat.le_of_ble_eq_true rfl⟩ (fun v C' hP => ?_) (fun _ _ h => h.elim)
    obtain ⟨rfl, rfl⟩ := hP
    refine sw_st (st' := [.int (bI (rIn σ 9 x))]) rfl ?_
    refine sw_if_eq (pc := 34) (tgt := 81) hc dX8_input_34 (by decide) (fun c_21 => ?_) (fun c_21 => ?_)
    ·
      have p_22 : ¬ (rIn σ 9 x) := bI_0 c_21
      refine sw_iconst (pc := 81) (v := 0) hc dX8_input_81 (by decide) ?_
      have h_23 : 0 = bI (rFull σ x b t) := by first | with_reducible rfl | (first | with_reducible rfl | (simp [-Int32.not_le, -Int32.not_lt, bI, st2_a, p_22]; done) | (((try simp only [st2_a, Nat.reduceBEq, Bool.false_and, Bool.true_and, beq_self_eq_true, cond_false, cond_true] at p_22) <;> simp [-Int32.not_le, -Int32.not_lt, bI, st2_a, p_22]); done) | ((try simp only [bI]); (repeat' split) <;> simp_all [-Int32.not_le, -Int32.not_lt, st2_a, rGap, rWall]; done))
      refine sw_st (st' := [.int (bI (rFull σ x b t))]) (congrArg (fun z => ([.int z] : List Value)) h_23) ?_
      exact sw_sub (ks := [1, 2, 3, 4, 0]) rfl (K_82 )
    ·
      have p_24 : rIn σ 9 x := bI_n c_21
      obtain ⟨f_25, f_252⟩ := rIn_x hWF.2.1 (by decide) p_24
      have f_25b := hWF.2.1.2
      refine sw_iload (pc := 37) hc dX8_input_37 0 rfl ?_
      refine sw_if_eq (pc := 39) (tgt := 81) hc dX8_input_39 (by decide) (fun c_26 => ?_) (fun c_26 => ?_)
      ·
        have p_27 : ¬ (rRngI b t) := bI_0 c_26
        refine sw_iconst (pc := 81) (v := 0) hc dX8_input_81 (by decide) ?_
        have h_28 : 0 = bI (rFull σ x b t) := by first | with_reducible rfl | (first | with_reducible rfl | (simp [-Int32.not_le, -Int32.not_lt, bI, st2_a, p_24, p_27]; done) | (((try simp only [st2_a, Nat.reduceBEq, Bool.false_and, Bool.true_and, beq_self_eq_true, cond_false, cond_true] at p_24 p_27) <;> simp [-Int32.not_le, -Int32.not_lt, bI, st2_a, p_24, p_27]); done) | ((try simp only [bI]); (repeat' split) <;> simp_all [-Int32.not_le, -Int32.not_lt, st2_a, rGap, rWall]; done))
        refine sw_st (st' := [.int (bI (rFull σ x b t))]) (congrArg (fun z => ([.int z] : List Value)) h_28) ?_
        exact sw_sub (ks := [1, 2, 3, 4, 0]) rfl (K_82 )
      ·
        have p_29 : rRngI b t := bI_n c_26
        refine sw_aload_n (pc := 42) hc dX8_input_42 rfl 1 rfl ?_
        refine sw_get (pc := 43) (v := .ref (q 6)) hc fl_RX8_25 (mW_o hN) rfl dX8_input_43 ?_
        refine sw_iload_n (pc := 46) hc dX8_input_46 rfl 2 rfl ?_
        refine sw_iald (pc := 47) (j := (iN x)) hc (mW_a6 hN) f_25 (by omega) (by decide) dX8_input_47 ?_
        refine sw_iconst (pc := 48) (v := 1) hc dX8_input_48 (by decide) ?_
        refine sw_icmp_eq (pc := 49) (tgt := 77) hc dX8_input_49 (by decide) (fun c_30 => ?_) (fun c_30 => ?_)
        ·
          refine sw_iconst (pc := 77) (v := 1) hc dX8_input_77 (by decide) ?_
          refine sw_goto (pc := 78) (tgt := 82) hc dX8_input_78 (by decide) ?_
          have h_31 : 1 = bI (rFull σ x b t) := by first | with_reducible rfl | (first | with_reducible rfl | (simp [-Int32.not_le, -Int32.not_lt, bI, st2_a, p_24, p_29, c_30]; done) | (((try simp only [st2_a, Nat.reduceBEq, Bool.false_and, Bool.true_and, beq_self_eq_true, cond_false, cond_true] at p_24 p_29 c_30) <;> simp [-Int32.not_le, -Int32.not_lt, bI, st2_a, p_24, p_29, c_30]); done) | ((try simp only [bI]); (repeat' split) <;> simp_all [-Int32.not_le, -Int32.not_lt, st2_a, rGap, rWall]; done))
          refine sw_st (st' := [.int (bI (rFull σ x b t))]) (congrArg (fun z => ([.int z] : List Value)) h_31) ?_
          exact sw_sub (ks := [1, 2, 3, 4, 0]) rfl (K_82 )
        ·
          refine sw_aload_n (pc := 52) hc dX8_input_52 rfl 1 rfl ?_
          refine sw_get (pc := 53) (v := .ref (q 4)) hc fl_RX8_19 (mW_o hN) rfl dX8_input_53 ?_
          refine sw_iload_n (pc := 56) hc dX8_input_56 rfl 2 rfl ?_
          refine sw_iald (pc := 57) (j := (iN x)) hc (mW_a4 hN) f_25 (by omega) (by decide) dX8_input_57 ?_
          refine sw_bipush (pc := 58) (v := 20) hc dX8_input_58 (by decide) ?_
          refine sw_icmp_eq (pc := 60) (tgt := 77) hc dX8_input_60 (by decide) (fun c_32 => ?_) (fun c_32 => ?_)
          ·
            refine sw_iconst (pc := 77) (v := 1) hc dX8_input_77 (by decide) ?_
            refine sw_goto (pc := 78) (tgt := 82) hc dX8_input_78 (by decide) ?_
            have h_33 : 1 = bI (rFull σ x b t) := by first | with_reducible rfl | (first | with_reducible rfl | (simp [-Int32.not_le, -Int32.not_lt, bI, st2_a, p_24, p_29, c_30, c_32]; done) | (((try simp only [st2_a, Nat.reduceBEq, Bool.false_and, Bool.true_and, beq_self_eq_true, cond_false, cond_true] at p_24 p_29 c_30 c_32) <;> simp [-Int32.not_le, -Int32.not_lt, bI, st2_a, p_24, p_29, c_30, c_32]); done) | ((try simp only [bI]); (repeat' split) <;> simp_all [-Int32.not_le, -Int32.not_lt, st2_a, rGap, rWall]; done))
            refine sw_st (st' := [.int (bI (rFull σ x b t))]) (congrArg (fun z => ([.int z] : List Value)) h_33) ?_
            exact sw_sub (ks := [1, 2, 3, 4, 0]) rfl (K_82 )
          ·
            refine sw_aload_n (pc := 63) hc dX8_input_63 rfl 1 rfl ?_
            refine sw_get (pc := 64) (v := .ref (q 5)) hc fl_RX8_22 (mW_o hN) rfl dX8_input_64 ?_
            refine sw_iload_n (pc := 67) hc dX8_input_67 rfl 2 rfl ?_
            refine sw_iald (pc := 68) (j := (iN x)) hc (mW_a5 hN) f_25 (by omega) (by decide) dX8_input_68 ?_
            refine sw_iload_n (pc := 69) hc dX8_input_69 rfl 4 rfl ?_
            refine sw_iadd (pc := 70) hc dX8_input_70 ?_
            refine sw_sipush (pc := 71) (v := 500) hc dX8_input_71 (by decide) ?_
            refine sw_icmp_le (pc := 74) (tgt := 81) hc dX8_input_74 (by decide) (fun c_34 => ?_) (fun c_34 => ?_)
            ·
              have c_34' := Int32.not_lt.mpr c_34
              refine sw_iconst (pc := 81) (v := 0) hc dX8_input_81 (by decide) ?_
              have h_35 : 0 = bI (rFull σ x b t) := by first | with_reducible rfl | (first | with_reducible rfl | (simp [-Int32.not_le, -Int32.not_lt, bI, st2_a, p_24, p_29, c_30, c_32, c_34, c_34']; done) | (((try simp only [st2_a, Nat.reduceBEq, Bool.false_and, Bool.true_and, beq_self_eq_true, cond_false, cond_true] at p_24 p_29 c_30 c_32 c_34 c_34') <;> simp [-Int32.not_le, -Int32.not_lt, bI, st2_a, p_24, p_29, c_30, c_32, c_34, c_34']); done) | ((try simp only [bI]); (repeat' split) <;> simp_all [-Int32.not_le, -Int32.not_lt, st2_a, rGap, rWall]; done))
              refine sw_st (st' := [.int (bI (rFull σ x b t))]) (congrArg (fun z => ([.int z] : List Value)) h_35) ?_
              exact sw_sub (ks := [1, 2, 3, 4, 0]) rfl (K_82 )
            ·
              have c_34' := Int32.not_le.mp c_34
              refine sw_iconst (pc := 77) (v := 1) hc dX8_input_77 (by decide) ?_
              refine sw_goto (pc := 78) (tgt := 82) hc dX8_input_78 (by decide) ?_
              have h_36 : 1 = bI (rFull σ x b t) := by first | with_reducible rfl | (first | with_reducible rfl | (simp [-Int32.not_le, -Int32.not_lt, bI, st2_a, p_24, p_29, c_30, c_32, c_34, c_34']; done) | (((try simp only [st2_a, Nat.reduceBEq, Bool.false_and, Bool.true_and, beq_self_eq_true, cond_false, cond_true] at p_24 p_29 c_30 c_32 c_34 c_34') <;> simp [-Int32.not_le, -Int32.not_lt, bI, st2_a, p_24, p_29, c_30, c_32, c_34, c_34']); done) | ((try simp only [bI]); (repeat' split) <;> simp_all [-Int32.not_le, -Int32.not_lt, st2_a, rGap, rWall]; done))
              refine sw_st (st' := [.int (bI (rFull σ x b t))]) (congrArg (fun z => ([.int z] : List Value)) h_36) ?_
              exact sw_sub (ks := [1, 2, 3, 4, 0]) rfl (K_82 )
  refine sw_aload_n (pc := 0) hc dX8_input_0 rfl 0 rfl ?_
  refine sw_iload_n (pc := 1) hc dX8_input_1 rfl 2 rfl ?_
  refine sw_iconst (pc := 2) (v := 0) hc dX8_input_2 (by decide) ?_
  refine sw_bipush (pc := 3) (v := 15) hc dX8_input_3 (by decide) ?_
  refine sw_callV (pc := 5) (rest := []) hc (c_X8_between l g C m0 q σ b 0 15 hN ) md_X8_between ml_RX8_95 im_X8_between sl_X8_between (mW_o hN) rfl rfl rfl (Nat.le_of_ble_eq_true rfl) dX8_input_5 ⟨Nat.le_of_ble_eq_true rfl, Nat.le_of_ble_eq_true rfl, Nat.le_of_ble_eq_true rfl, Nat.le_of_ble_eq_true rfl⟩ (fun v C' hP => ?_) (fun _ _ h => h.elim)
  obtain ⟨rfl, rfl⟩ := hP
  refine sw_st (st' := [.int (bI (0 ≤ b ∧ b ≤ 15))]) rfl ?_
  refine sw_if_eq (pc := 8) (tgt := 26) hc dX8_input_8 (by decide) (fun c_37 => ?_) (fun c_37 => ?_)
  ·
    have p_38 : ¬ (0 ≤ b ∧ b ≤ 15) := bI_0 c_37
    refine sw_iconst (pc := 26) (v := 0) hc dX8_input_26 (by decide) ?_
    have h_39 : 0 = bI (rRngI b t) := by first | with_reducible rfl | (first | with_reducible rfl | (simp [-Int32.not_le, -Int32.not_lt, bI, st2_a, p_38]; done) | (((try simp only [st2_a, Nat.reduceBEq, Bool.false_and, Bool.true_and, beq_self_eq_true, cond_false, cond_true] at p_38) <;> simp [-Int32.not_le, -Int32.not_lt, bI, st2_a, p_38]); done) | ((try simp only [bI]); (repeat' split) <;> simp_all [-Int32.not_le, -Int32.not_lt, st2_a, rGap, rWall]; done))
    refine sw_st (st' := [.int (bI (rRngI b t))]) (congrArg (fun z => ([.int z] : List Value)) h_39) ?_
    exact sw_sub (ks := [0, 1, 2, 3]) rfl (K_27 )
  ·
    have p_40 : 0 ≤ b ∧ b ≤ 15 := bI_n c_37
    refine sw_aload_n (pc := 11) hc dX8_input_11 rfl 0 rfl ?_
    refine sw_iload_n (pc := 12) hc dX8_input_12 rfl 3 rfl ?_
    refine sw_iconst (pc := 13) (v := 1) hc dX8_input_13 (by decide) ?_
    refine sw_bipush (pc := 14) (v := 100) hc dX8_input_14 (by decide) ?_
    refine sw_callV (pc := 16) (rest := []) hc (c_X8_between l g C m0 q σ t 1 100 hN ) md_X8_between ml_RX8_95 im_X8_between sl_X8_between (mW_o hN) rfl rfl rfl (Nat.le_of_ble_eq_true rfl) dX8_input_16 ⟨Nat.le_of_ble_eq_true rfl, Nat.le_of_ble_eq_true rfl, Nat.le_of_ble_eq_true rfl, Nat.le_of_ble_eq_true rfl⟩ (fun v C' hP => ?_) (fun _ _ h => h.elim)
    obtain ⟨rfl, rfl⟩ := hP
    refine sw_st (st' := [.int (bI (1 ≤ t ∧ t ≤ 100))]) rfl ?_
    refine sw_if_eq (pc := 19) (tgt := 26) hc dX8_input_19 (by decide) (fun c_41 => ?_) (fun c_41 => ?_)
    ·
      have p_42 : ¬ (1 ≤ t ∧ t ≤ 100) := bI_0 c_41
      refine sw_iconst (pc := 26) (v := 0) hc dX8_input_26 (by decide) ?_
      have h_43 : 0 = bI (rRngI b t) := by first | with_reducible rfl | (first | with_reducible rfl | (simp [-Int32.not_le, -Int32.not_lt, bI, st2_a, p_40, p_42]; done) | (((try simp only [st2_a, Nat.reduceBEq, Bool.false_and, Bool.true_and, beq_self_eq_true, cond_false, cond_true] at p_40 p_42) <;> simp [-Int32.not_le, -Int32.not_lt, bI, st2_a, p_40, p_42]); done) | ((try simp only [bI]); (repeat' split) <;> simp_all [-Int32.not_le, -Int32.not_lt, st2_a, rGap, rWall]; done))
      refine sw_st (st' := [.int (bI (rRngI b t))]) (congrArg (fun z => ([.int z] : List Value)) h_43) ?_
      exact sw_sub (ks := [0, 1, 2, 3]) rfl (K_27 )
    ·
      have p_44 : 1 ≤ t ∧ t ≤ 100 := bI_n c_41
      refine sw_iconst (pc := 22) (v := 1) hc dX8_input_22 (by decide) ?_
      refine sw_goto (pc := 23) (tgt := 27) hc dX8_input_23 (by decide) ?_
      have h_45 : 1 = bI (rRngI b t) := by first | with_reducible rfl | (first | with_reducible rfl | (simp [-Int32.not_le, -Int32.not_lt, bI, st2_a, p_40, p_44]; done) | (((try simp only [st2_a, Nat.reduceBEq, Bool.false_and, Bool.true_and, beq_self_eq_true, cond_false, cond_true] at p_40 p_44) <;> simp [-Int32.not_le, -Int32.not_lt, bI, st2_a, p_40, p_44]); done) | ((try simp only [bI]); (repeat' split) <;> simp_all [-Int32.not_le, -Int32.not_lt, st2_a, rGap, rWall]; done))
      refine sw_st (st' := [.int (bI (rRngI b t))]) (congrArg (fun z => ([.int z] : List Value)) h_45) ?_
      exact sw_sub (ks := [0, 1, 2, 3]) rfl (K_27 )

set_option maxHeartbeats 4000000 in
set_option maxRecDepth 100000 in
theorem c_X8_result (l : Launch) (g : sg_G) (C : Nat → Option va_E) (m0 : Nat) (q : Nat → Nat) (σ : Mem) (x : Int32) (hN : mN m0 q) (hWF : rWF σ) : sg_Met l yX8_result cX8_result 2 (some .int) 5 120 0 0 g [.ref m0, .int x] (sg_ov C (mW g m0 q σ)) (fun v C' => v = some (.int (vResult σ x)) ∧ C' = sg_ov C (mW g m0 q (fResult σ x))) sg_no := by
  refine sg_ofW (by decide) rfl ?_ (Nat.le_of_ble_eq_true rfl)
  intro p e s m below meth c hc hlk hrt hin2 htb
  have hc : sg_Cx p s m _ c cX8_result 2 RX8 g := hc
  show sg_W p l e _ s m _ below meth c 2 g 0 0 _ (sg_ov C (mW g m0 q σ)) 0 [(0, .ref m0), (1, .int x)] []
  have K_14 : sg_W p l e (sg_rm 5 120 0 0) s m ([.ref m0, .int x] : List Value).toArray below meth c 2 g 0 0 (sg_End below g (fun v C' => v = some (.int (vResult σ x)) ∧ C' = sg_ov C (mW g m0 q (fResult σ x))) sg_no ([.ref m0, .int x] : List Value).toArray s 0 0) (sg_ov C (mW g m0 q σ)) 14 [(0, .ref m0), (1, .int x)] [.int (kIn σ 9 x), .ref m0] := by
    refine sw_callV (pc := 14) (rest := []) hc (c_X8_holds l g C m0 q σ (kIn σ 9 x) hN ) md_X8_holds ml_RX8_171 im_X8_holds sl_X8_holds (mW_o hN) rfl rfl rfl (Nat.le_of_ble_eq_true rfl) dX8_result_14 ⟨Nat.le_of_ble_eq_true rfl, Nat.le_of_ble_eq_true rfl, Nat.le_of_ble_eq_true rfl, Nat.le_of_ble_eq_true rfl⟩ (fun v C' hP => ?_) (fun _ _ h => h.elim)
    obtain ⟨rfl, rfl⟩ := hP
    refine sw_st (st' := [.int (bI (0 < (kIn σ 9 x)))]) rfl ?_
    refine sw_if_eq (pc := 17) (tgt := 22) hc dX8_result_17 (by decide) (fun c_1 => ?_) (fun c_1 => ?_)
    ·
      have p_2 : ¬ (0 < (kIn σ 9 x)) := bI_0 c_1
      have k0 := kIn_0 p_2; obtain ⟨fx, fx2⟩ := rIn_x hWF.2.1 (by decide) k0
      refine sw_aload_n (pc := 22) hc dX8_result_22 rfl 0 rfl ?_
      refine sw_iload_n (pc := 23) hc dX8_result_23 rfl 1 rfl ?_
      refine sw_sipush (pc := 24) (v := 500) hc dX8_result_24 (by decide) ?_
      refine sw_st (st' := [.int 500, .int (nI (iN x)), .ref m0]) (congrArg (fun z => ([.int 500, .int z, .ref m0] : List Value)) fx) ?_
      refine sw_callV (pc := 27) (rest := []) hc (c_X8_run l g C m0 q (st2 σ 42 0 (kIn σ 9 x)) (iN x) 500 hN ((hWF.t).rp fx2)) md_X8_run ml_RX8_184 im_X8_run sl_X8_run (mW_o hN) rfl rfl rfl (Nat.le_of_ble_eq_true rfl) dX8_result_27 ⟨Nat.le_of_ble_eq_true rfl, Nat.le_of_ble_eq_true rfl, Nat.le_of_ble_eq_true rfl, Nat.le_of_ble_eq_true rfl⟩ (fun v C' hP => ?_) (fun _ _ h => h.elim)
      obtain ⟨rfl, rfl⟩ := hP
      refine sw_st (st' := []) rfl ?_
      refine sw_bipush (pc := 30) (v := 10) hc dX8_result_30 (by decide) ?_
      refine sw_aload_n (pc := 32) hc dX8_result_32 rfl 0 rfl ?_
      refine sw_get (pc := 33) (v := .int ((rRun (st2 σ 42 0 (kIn σ 9 x)) (iN x) 500) 40 0)) hc fl_RX8_141 (mW_o hN) rfl dX8_result_33 ?_
      refine sw_imul (pc := 36) hc dX8_result_36 ?_
      refine sw_aload_n (pc := 37) hc dX8_result_37 rfl 0 rfl ?_
      refine sw_get (pc := 38) (v := .int ((rRun (st2 σ 42 0 (kIn σ 9 x)) (iN x) 500) 41 0)) hc fl_RX8_144 (mW_o hN) rfl dX8_result_38 ?_
      refine sw_iadd (pc := 41) hc dX8_result_41 ?_
      have h_3 : (10 * ((rRun (st2 σ 42 0 (kIn σ 9 x)) (iN x) 500) 40 0)) + ((rRun (st2 σ 42 0 (kIn σ 9 x)) (iN x) 500) 41 0) = vResult σ x := by (first | exact (if_pos (by assumption)).symm | exact (if_neg (by assumption)).symm)
      have h_4 : rRun (st2 σ 42 0 (kIn σ 9 x)) (iN x) 500 = fResult σ x := by (first | exact (if_pos (by assumption)).symm | exact (if_neg (by assumption)).symm)
      exact sw_iret (pc := 42) hc hlk hrt rfl ⟨(congrArg (fun z => some (Value.int z)) h_3), (congrArg (fun z => sg_ov C (mW g m0 q z)) h_4)⟩ (Nat.le_of_ble_eq_true rfl) (Nat.le_of_ble_eq_true rfl) dX8_result_42
    ·
      have p_5 : 0 < (kIn σ 9 x) := bI_n c_1
      refine sw_iconst (pc := 20) (v := (-1)) hc dX8_result_20 (by decide) ?_
      have h_6 : (-1) = vResult σ x := by (first | exact (if_pos (by assumption)).symm | exact (if_neg (by assumption)).symm)
      have h_7 : st2 σ 42 0 (kIn σ 9 x) = fResult σ x := by (first | exact (if_pos (by assumption)).symm | exact (if_neg (by assumption)).symm)
      exact sw_iret (pc := 21) hc hlk hrt rfl ⟨(congrArg (fun z => some (Value.int z)) h_6), (congrArg (fun z => sg_ov C (mW g m0 q z)) h_7)⟩ (Nat.le_of_ble_eq_true rfl) (Nat.le_of_ble_eq_true rfl) dX8_result_21
  refine sw_aload_n (pc := 0) hc dX8_result_0 rfl 0 rfl ?_
  refine sw_aload_n (pc := 1) hc dX8_result_1 rfl 0 rfl ?_
  refine sw_iload_n (pc := 2) hc dX8_result_2 rfl 1 rfl ?_
  refine sw_callV (pc := 3) (rest := [.ref m0]) hc (c_X8_isReplay l g C m0 q σ x hN ) md_X8_isReplay ml_RX8_181 im_X8_isReplay sl_X8_isReplay (mW_o hN) rfl rfl rfl (Nat.le_of_ble_eq_true rfl) dX8_result_3 ⟨Nat.le_of_ble_eq_true rfl, Nat.le_of_ble_eq_true rfl, Nat.le_of_ble_eq_true rfl, Nat.le_of_ble_eq_true rfl⟩ (fun v C' hP => ?_) (fun _ _ h => h.elim)
  obtain ⟨rfl, rfl⟩ := hP
  refine sw_st (st' := [.int (bI (rIn σ 9 x)), .ref m0]) rfl ?_
  refine sw_if_eq (pc := 6) (tgt := 13) hc dX8_result_6 (by decide) (fun c_8 => ?_) (fun c_8 => ?_)
  ·
    have p_9 : ¬ (rIn σ 9 x) := bI_0 c_8
    refine sw_iconst (pc := 13) (v := 1) hc dX8_result_13 (by decide) ?_
    have h_10 : 1 = kIn σ 9 x := by first | with_reducible rfl | (first | with_reducible rfl | (simp [-Int32.not_le, -Int32.not_lt, kIn, st2_a, p_9]; done) | (((try simp only [st2_a, Nat.reduceBEq, Bool.false_and, Bool.true_and, beq_self_eq_true, cond_false, cond_true] at p_9) <;> simp [-Int32.not_le, -Int32.not_lt, kIn, st2_a, p_9]); done) | ((try simp only [kIn]); (repeat' split) <;> simp_all [-Int32.not_le, -Int32.not_lt, st2_a, rGap, rWall]; done))
    refine sw_st (st' := [.int (kIn σ 9 x), .ref m0]) (congrArg (fun z => ([.int z, .ref m0] : List Value)) h_10) ?_
    exact sw_sub (ks := [0, 1]) rfl (K_14 )
  ·
    have p_11 : rIn σ 9 x := bI_n c_8
    refine sw_iconst (pc := 9) (v := 0) hc dX8_result_9 (by decide) ?_
    refine sw_goto (pc := 10) (tgt := 14) hc dX8_result_10 (by decide) ?_
    have h_12 : 0 = kIn σ 9 x := by first | with_reducible rfl | (first | with_reducible rfl | (simp [-Int32.not_le, -Int32.not_lt, kIn, st2_a, p_11]; done) | (((try simp only [st2_a, Nat.reduceBEq, Bool.false_and, Bool.true_and, beq_self_eq_true, cond_false, cond_true] at p_11) <;> simp [-Int32.not_le, -Int32.not_lt, kIn, st2_a, p_11]); done) | ((try simp only [kIn]); (repeat' split) <;> simp_all [-Int32.not_le, -Int32.not_lt, st2_a, rGap, rWall]; done))
    refine sw_st (st' := [.int (kIn σ 9 x), .ref m0]) (congrArg (fun z => ([.int z, .ref m0] : List Value)) h_12) ?_
    exact sw_sub (ks := [0, 1]) rfl (K_14 )

set_option maxHeartbeats 4000000 in
set_option maxRecDepth 100000 in
theorem c_X8_used (l : Launch) (g : sg_G) (C : Nat → Option va_E) (m0 : Nat) (q : Nat → Nat) (σ : Mem) (x : Int32) (hN : mN m0 q) (hWF : rWF σ) : sg_Met l yX8_used cX8_used 2 (some .int) 5 120 0 0 g [.ref m0, .int x] (sg_ov C (mW g m0 q σ)) (fun v C' => v = some (.int (vUsed σ x)) ∧ C' = sg_ov C (mW g m0 q (fResult σ x))) sg_no := by
  refine sg_ofW (by decide) rfl ?_ (Nat.le_of_ble_eq_true rfl)
  intro p e s m below meth c hc hlk hrt hin2 htb
  have hc : sg_Cx p s m _ c cX8_used 2 RX8 g := hc
  show sg_W p l e _ s m _ below meth c 2 g 0 0 _ (sg_ov C (mW g m0 q σ)) 0 [(0, .ref m0), (1, .int x)] []
  have K_14 : sg_W p l e (sg_rm 5 120 0 0) s m ([.ref m0, .int x] : List Value).toArray below meth c 2 g 0 0 (sg_End below g (fun v C' => v = some (.int (vUsed σ x)) ∧ C' = sg_ov C (mW g m0 q (fResult σ x))) sg_no ([.ref m0, .int x] : List Value).toArray s 0 0) (sg_ov C (mW g m0 q σ)) 14 [(0, .ref m0), (1, .int x)] [.int (kIn σ 9 x), .ref m0] := by
    refine sw_callV (pc := 14) (rest := []) hc (c_X8_holds l g C m0 q σ (kIn σ 9 x) hN ) md_X8_holds ml_RX8_171 im_X8_holds sl_X8_holds (mW_o hN) rfl rfl rfl (Nat.le_of_ble_eq_true rfl) dX8_used_14 ⟨Nat.le_of_ble_eq_true rfl, Nat.le_of_ble_eq_true rfl, Nat.le_of_ble_eq_true rfl, Nat.le_of_ble_eq_true rfl⟩ (fun v C' hP => ?_) (fun _ _ h => h.elim)
    obtain ⟨rfl, rfl⟩ := hP
    refine sw_st (st' := [.int (bI (0 < (kIn σ 9 x)))]) rfl ?_
    refine sw_if_eq (pc := 17) (tgt := 22) hc dX8_used_17 (by decide) (fun c_1 => ?_) (fun c_1 => ?_)
    ·
      have p_2 : ¬ (0 < (kIn σ 9 x)) := bI_0 c_1
      have k0 := kIn_0 p_2; obtain ⟨fx, fx2⟩ := rIn_x hWF.2.1 (by decide) k0
      refine sw_aload_n (pc := 22) hc dX8_used_22 rfl 0 rfl ?_
      refine sw_iload_n (pc := 23) hc dX8_used_23 rfl 1 rfl ?_
      refine sw_sipush (pc := 24) (v := 500) hc dX8_used_24 (by decide) ?_
      refine sw_st (st' := [.int 500, .int (nI (iN x)), .ref m0]) (congrArg (fun z => ([.int 500, .int z, .ref m0] : List Value)) fx) ?_
      refine sw_callV (pc := 27) (rest := []) hc (c_X8_run l g C m0 q (st2 σ 42 0 (kIn σ 9 x)) (iN x) 500 hN ((hWF.t).rp fx2)) md_X8_run ml_RX8_184 im_X8_run sl_X8_run (mW_o hN) rfl rfl rfl (Nat.le_of_ble_eq_true rfl) dX8_used_27 ⟨Nat.le_of_ble_eq_true rfl, Nat.le_of_ble_eq_true rfl, Nat.le_of_ble_eq_true rfl, Nat.le_of_ble_eq_true rfl⟩ (fun v C' hP => ?_) (fun _ _ h => h.elim)
      obtain ⟨rfl, rfl⟩ := hP
      refine sw_st (st' := []) rfl ?_
      refine sw_sipush (pc := 30) (v := 10000) hc dX8_used_30 (by decide) ?_
      refine sw_aload_n (pc := 33) hc dX8_used_33 rfl 0 rfl ?_
      refine sw_callV (pc := 34) (rest := [.int 10000]) hc (c_X8_purse l g C m0 q (rRun (st2 σ 42 0 (kIn σ 9 x)) (iN x) 500) hN ) md_X8_purse ml_RX8_187 im_X8_purse sl_X8_purse (mW_o hN) rfl rfl rfl (Nat.le_of_ble_eq_true rfl) dX8_used_34 ⟨Nat.le_of_ble_eq_true rfl, Nat.le_of_ble_eq_true rfl, Nat.le_of_ble_eq_true rfl, Nat.le_of_ble_eq_true rfl⟩ (fun v C' hP => ?_) (fun _ _ h => h.elim)
      obtain ⟨rfl, rfl⟩ := hP
      refine sw_st (st' := [.int (rPurse ((rRun (st2 σ 42 0 (kIn σ 9 x)) (iN x) 500) 37 0) 32), .int 10000]) rfl ?_
      refine sw_imul (pc := 37) hc dX8_used_37 ?_
      refine sw_bipush (pc := 38) (v := 10) hc dX8_used_38 (by decide) ?_
      refine sw_aload_n (pc := 40) hc dX8_used_40 rfl 0 rfl ?_
      refine sw_get (pc := 41) (v := .int ((rRun (st2 σ 42 0 (kIn σ 9 x)) (iN x) 500) 38 0)) hc fl_RX8_135 (mW_o hN) rfl dX8_used_41 ?_
      refine sw_imul (pc := 44) hc dX8_used_44 ?_
      refine sw_iadd (pc := 45) hc dX8_used_45 ?_
      refine sw_aload_n (pc := 46) hc dX8_used_46 rfl 0 rfl ?_
      refine sw_get (pc := 47) (v := .int ((rRun (st2 σ 42 0 (kIn σ 9 x)) (iN x) 500) 39 0)) hc fl_RX8_138 (mW_o hN) rfl dX8_used_47 ?_
      refine sw_iadd (pc := 50) hc dX8_used_50 ?_
      have h_3 : ((10000 * (rPurse ((rRun (st2 σ 42 0 (kIn σ 9 x)) (iN x) 500) 37 0) 32)) + (10 * ((rRun (st2 σ 42 0 (kIn σ 9 x)) (iN x) 500) 38 0))) + ((rRun (st2 σ 42 0 (kIn σ 9 x)) (iN x) 500) 39 0) = vUsed σ x := by (first | exact (if_pos (by assumption)).symm | exact (if_neg (by assumption)).symm)
      have h_4 : rRun (st2 σ 42 0 (kIn σ 9 x)) (iN x) 500 = fResult σ x := by (first | exact (if_pos (by assumption)).symm | exact (if_neg (by assumption)).symm)
      exact sw_iret (pc := 51) hc hlk hrt rfl ⟨(congrArg (fun z => some (Value.int z)) h_3), (congrArg (fun z => sg_ov C (mW g m0 q z)) h_4)⟩ (Nat.le_of_ble_eq_true rfl) (Nat.le_of_ble_eq_true rfl) dX8_used_51
    ·
      have p_5 : 0 < (kIn σ 9 x) := bI_n c_1
      refine sw_iconst (pc := 20) (v := (-1)) hc dX8_used_20 (by decide) ?_
      have h_6 : (-1) = vUsed σ x := by (first | exact (if_pos (by assumption)).symm | exact (if_neg (by assumption)).symm)
      have h_7 : st2 σ 42 0 (kIn σ 9 x) = fResult σ x := by (first | exact (if_pos (by assumption)).symm | exact (if_neg (by assumption)).symm)
      exact sw_iret (pc := 21) hc hlk hrt rfl ⟨(congrArg (fun z => some (Value.int z)) h_6), (congrArg (fun z => sg_ov C (mW g m0 q z)) h_7)⟩ (Nat.le_of_ble_eq_true rfl) (Nat.le_of_ble_eq_true rfl) dX8_used_21
  refine sw_aload_n (pc := 0) hc dX8_used_0 rfl 0 rfl ?_
  refine sw_aload_n (pc := 1) hc dX8_used_1 rfl 0 rfl ?_
  refine sw_iload_n (pc := 2) hc dX8_used_2 rfl 1 rfl ?_
  refine sw_callV (pc := 3) (rest := [.ref m0]) hc (c_X8_isReplay l g C m0 q σ x hN ) md_X8_isReplay ml_RX8_181 im_X8_isReplay sl_X8_isReplay (mW_o hN) rfl rfl rfl (Nat.le_of_ble_eq_true rfl) dX8_used_3 ⟨Nat.le_of_ble_eq_true rfl, Nat.le_of_ble_eq_true rfl, Nat.le_of_ble_eq_true rfl, Nat.le_of_ble_eq_true rfl⟩ (fun v C' hP => ?_) (fun _ _ h => h.elim)
  obtain ⟨rfl, rfl⟩ := hP
  refine sw_st (st' := [.int (bI (rIn σ 9 x)), .ref m0]) rfl ?_
  refine sw_if_eq (pc := 6) (tgt := 13) hc dX8_used_6 (by decide) (fun c_8 => ?_) (fun c_8 => ?_)
  ·
    have p_9 : ¬ (rIn σ 9 x) := bI_0 c_8
    refine sw_iconst (pc := 13) (v := 1) hc dX8_used_13 (by decide) ?_
    have h_10 : 1 = kIn σ 9 x := by first | with_reducible rfl | (first | with_reducible rfl | (simp [-Int32.not_le, -Int32.not_lt, kIn, st2_a, p_9]; done) | (((try simp only [st2_a, Nat.reduceBEq, Bool.false_and, Bool.true_and, beq_self_eq_true, cond_false, cond_true] at p_9) <;> simp [-Int32.not_le, -Int32.not_lt, kIn, st2_a, p_9]); done) | ((try simp only [kIn]); (repeat' split) <;> simp_all [-Int32.not_le, -Int32.not_lt, st2_a, rGap, rWall]; done))
    refine sw_st (st' := [.int (kIn σ 9 x), .ref m0]) (congrArg (fun z => ([.int z, .ref m0] : List Value)) h_10) ?_
    exact sw_sub (ks := [0, 1]) rfl (K_14 )
  ·
    have p_11 : rIn σ 9 x := bI_n c_8
    refine sw_iconst (pc := 9) (v := 0) hc dX8_used_9 (by decide) ?_
    refine sw_goto (pc := 10) (tgt := 14) hc dX8_used_10 (by decide) ?_
    have h_12 : 0 = kIn σ 9 x := by first | with_reducible rfl | (first | with_reducible rfl | (simp [-Int32.not_le, -Int32.not_lt, kIn, st2_a, p_11]; done) | (((try simp only [st2_a, Nat.reduceBEq, Bool.false_and, Bool.true_and, beq_self_eq_true, cond_false, cond_true] at p_11) <;> simp [-Int32.not_le, -Int32.not_lt, kIn, st2_a, p_11]); done) | ((try simp only [kIn]); (repeat' split) <;> simp_all [-Int32.not_le, -Int32.not_lt, st2_a, rGap, rWall]; done))
    refine sw_st (st' := [.int (kIn σ 9 x), .ref m0]) (congrArg (fun z => ([.int z, .ref m0] : List Value)) h_12) ?_
    exact sw_sub (ks := [0, 1]) rfl (K_14 )

set_option maxHeartbeats 4000000 in
set_option maxRecDepth 100000 in
theorem c_X8_where (l : Launch) (g : sg_G) (C : Nat → Option va_E) (m0 : Nat) (q : Nat → Nat) (σ : Mem) (x : Int32) (t : Int32) (hN : mN m0 q) (hWF : rWF σ) : sg_Met l yX8_where cX8_where 3 (some .int) 5 120 0 0 g [.ref m0, .int x, .int t] (sg_ov C (mW g m0 q σ)) (fun v C' => v = some (.int (vWhere σ x t)) ∧ C' = sg_ov C (mW g m0 q (fWhere σ x t))) sg_no := by
  refine sg_ofW (by decide) rfl ?_ (Nat.le_of_ble_eq_true rfl)
  intro p e s m below meth c hc hlk hrt hin2 htb
  have hc : sg_Cx p s m _ c cX8_where 3 RX8 g := hc
  show sg_W p l e _ s m _ below meth c 3 g 0 0 _ (sg_ov C (mW g m0 q σ)) 0 [(0, .ref m0), (1, .int x), (2, .int t)] []
  have K_43 : sg_W p l e (sg_rm 5 120 0 0) s m ([.ref m0, .int x, .int t] : List Value).toArray below meth c 3 g 0 0 (sg_End below g (fun v C' => v = some (.int (vWhere σ x t)) ∧ C' = sg_ov C (mW g m0 q (fWhere σ x t))) sg_no ([.ref m0, .int x, .int t] : List Value).toArray s 0 0) (sg_ov C (mW g m0 q (rWh σ x))) 43 [(0, .ref m0), (1, .int x), (2, .int t)] [.int (kWhere σ x t), .ref m0] := by
    refine sw_callV (pc := 43) (rest := []) hc (c_X8_holds l g C m0 q (rWh σ x) (kWhere σ x t) hN ) md_X8_holds ml_RX8_171 im_X8_holds sl_X8_holds (mW_o hN) rfl rfl rfl (Nat.le_of_ble_eq_true rfl) dX8_where_43 ⟨Nat.le_of_ble_eq_true rfl, Nat.le_of_ble_eq_true rfl, Nat.le_of_ble_eq_true rfl, Nat.le_of_ble_eq_true rfl⟩ (fun v C' hP => ?_) (fun _ _ h => h.elim)
    obtain ⟨rfl, rfl⟩ := hP
    refine sw_st (st' := [.int (bI (0 < (kWhere σ x t)))]) rfl ?_
    refine sw_if_eq (pc := 46) (tgt := 51) hc dX8_where_46 (by decide) (fun c_1 => ?_) (fun c_1 => ?_)
    ·
      have p_2 : ¬ (0 < (kWhere σ x t)) := bI_0 c_1
      have k0 := kWhere_0 p_2; obtain ⟨fx, fx2⟩ := rIn_x (hWF.fr (rWh_fr σ x)).2.1 (by decide) k0
      refine sw_aload_n (pc := 51) hc dX8_where_51 rfl 0 rfl ?_
      refine sw_iload_n (pc := 52) hc dX8_where_52 rfl 1 rfl ?_
      refine sw_iload_n (pc := 53) hc dX8_where_53 rfl 2 rfl ?_
      refine sw_st (st' := [.int t, .int (nI (iN x)), .ref m0]) (congrArg (fun z => ([.int t, .int z, .ref m0] : List Value)) fx) ?_
      refine sw_callV (pc := 54) (rest := []) hc (c_X8_run l g C m0 q (st2 (rWh σ x) 42 0 (kWhere σ x t)) (iN x) t hN (((hWF.fr (rWh_fr σ x)).t).rp fx2)) md_X8_run ml_RX8_184 im_X8_run sl_X8_run (mW_o hN) rfl rfl rfl (Nat.le_of_ble_eq_true rfl) dX8_where_54 ⟨Nat.le_of_ble_eq_true rfl, Nat.le_of_ble_eq_true rfl, Nat.le_of_ble_eq_true rfl, Nat.le_of_ble_eq_true rfl⟩ (fun v C' hP => ?_) (fun _ _ h => h.elim)
      obtain ⟨rfl, rfl⟩ := hP
      refine sw_st (st' := []) rfl ?_
      refine sw_sipush (pc := 57) (v := 1000) hc dX8_where_57 (by decide) ?_
      refine sw_aload_n (pc := 60) hc dX8_where_60 rfl 0 rfl ?_
      refine sw_get (pc := 61) (v := .int ((rRun (st2 (rWh σ x) 42 0 (kWhere σ x t)) (iN x) t) 33 0)) hc fl_RX8_116 (mW_o hN) rfl dX8_where_61 ?_
      refine sw_imul (pc := 64) hc dX8_where_64 ?_
      refine sw_aload_n (pc := 65) hc dX8_where_65 rfl 0 rfl ?_
      refine sw_get (pc := 66) (v := .int ((rRun (st2 (rWh σ x) 42 0 (kWhere σ x t)) (iN x) t) 32 0)) hc fl_RX8_119 (mW_o hN) rfl dX8_where_66 ?_
      refine sw_iadd (pc := 69) hc dX8_where_69 ?_
      have h_3 : (1000 * ((rRun (st2 (rWh σ x) 42 0 (kWhere σ x t)) (iN x) t) 33 0)) + ((rRun (st2 (rWh σ x) 42 0 (kWhere σ x t)) (iN x) t) 32 0) = vWhere σ x t := by (first | exact (if_pos (by assumption)).symm | exact (if_neg (by assumption)).symm)
      have h_4 : rRun (st2 (rWh σ x) 42 0 (kWhere σ x t)) (iN x) t = fWhere σ x t := by (first | exact (if_pos (by assumption)).symm | exact (if_neg (by assumption)).symm)
      exact sw_iret (pc := 70) hc hlk hrt rfl ⟨(congrArg (fun z => some (Value.int z)) h_3), (congrArg (fun z => sg_ov C (mW g m0 q z)) h_4)⟩ (Nat.le_of_ble_eq_true rfl) (Nat.le_of_ble_eq_true rfl) dX8_where_70
    ·
      have p_5 : 0 < (kWhere σ x t) := bI_n c_1
      refine sw_iconst (pc := 49) (v := (-1)) hc dX8_where_49 (by decide) ?_
      have h_6 : (-1) = vWhere σ x t := by (first | exact (if_pos (by assumption)).symm | exact (if_neg (by assumption)).symm)
      have h_7 : st2 (rWh σ x) 42 0 (kWhere σ x t) = fWhere σ x t := by (first | exact (if_pos (by assumption)).symm | exact (if_neg (by assumption)).symm)
      exact sw_iret (pc := 50) hc hlk hrt rfl ⟨(congrArg (fun z => some (Value.int z)) h_6), (congrArg (fun z => sg_ov C (mW g m0 q z)) h_7)⟩ (Nat.le_of_ble_eq_true rfl) (Nat.le_of_ble_eq_true rfl) dX8_where_50
  have K_16 : ∀ (υ : Mem) (eυ : υ = rWh σ x), sg_W p l e (sg_rm 5 120 0 0) s m ([.ref m0, .int x, .int t] : List Value).toArray below meth c 3 g 0 0 (sg_End below g (fun v C' => v = some (.int (vWhere σ x t)) ∧ C' = sg_ov C (mW g m0 q (fWhere σ x t))) sg_no ([.ref m0, .int x, .int t] : List Value).toArray s 0 0) (sg_ov C (mW g m0 q υ)) 16 [(0, .ref m0), (1, .int x), (2, .int t)] [] := by
    intro υ eυ
    subst eυ
    refine sw_aload_n (pc := 16) hc dX8_where_16 rfl 0 rfl ?_
    refine sw_aload_n (pc := 17) hc dX8_where_17 rfl 0 rfl ?_
    refine sw_iload_n (pc := 18) hc dX8_where_18 rfl 1 rfl ?_
    refine sw_callV (pc := 19) (rest := [.ref m0]) hc (c_X8_isReplay l g C m0 q (rWh σ x) x hN ) md_X8_isReplay ml_RX8_181 im_X8_isReplay sl_X8_isReplay (mW_o hN) rfl rfl rfl (Nat.le_of_ble_eq_true rfl) dX8_where_19 ⟨Nat.le_of_ble_eq_true rfl, Nat.le_of_ble_eq_true rfl, Nat.le_of_ble_eq_true rfl, Nat.le_of_ble_eq_true rfl⟩ (fun v C' hP => ?_) (fun _ _ h => h.elim)
    obtain ⟨rfl, rfl⟩ := hP
    refine sw_st (st' := [.int (bI (rIn (rWh σ x) 9 x)), .ref m0]) rfl ?_
    refine sw_if_eq (pc := 22) (tgt := 42) hc dX8_where_22 (by decide) (fun c_8 => ?_) (fun c_8 => ?_)
    ·
      have p_9 : ¬ (rIn (rWh σ x) 9 x) := bI_0 c_8
      refine sw_iconst (pc := 42) (v := 1) hc dX8_where_42 (by decide) ?_
      have h_10 : 1 = kWhere σ x t := by first | with_reducible rfl | (first | with_reducible rfl | (simp [-Int32.not_le, -Int32.not_lt, kWhere, st2_a, p_9]; done) | (((try simp only [st2_a, Nat.reduceBEq, Bool.false_and, Bool.true_and, beq_self_eq_true, cond_false, cond_true] at p_9) <;> simp [-Int32.not_le, -Int32.not_lt, kWhere, st2_a, p_9]); done) | ((try simp only [kWhere]); (repeat' split) <;> simp_all [-Int32.not_le, -Int32.not_lt, st2_a, rGap, rWall]; done))
      refine sw_st (st' := [.int (kWhere σ x t), .ref m0]) (congrArg (fun z => ([.int z, .ref m0] : List Value)) h_10) ?_
      exact sw_sub (ks := [0, 1, 2]) rfl (K_43 )
    ·
      have p_11 : rIn (rWh σ x) 9 x := bI_n c_8
      refine sw_aload_n (pc := 25) hc dX8_where_25 rfl 0 rfl ?_
      refine sw_iload_n (pc := 26) hc dX8_where_26 rfl 2 rfl ?_
      refine sw_iconst (pc := 27) (v := 0) hc dX8_where_27 (by decide) ?_
      refine sw_aload_n (pc := 28) hc dX8_where_28 rfl 0 rfl ?_
      refine sw_get (pc := 29) (v := .int ((rWh σ x) 40 0)) hc fl_RX8_141 (mW_o hN) rfl dX8_where_29 ?_
      refine sw_callV (pc := 32) (rest := [.ref m0]) hc (c_X8_between l g C m0 q (rWh σ x) t 0 ((rWh σ x) 40 0) hN ) md_X8_between ml_RX8_95 im_X8_between sl_X8_between (mW_o hN) rfl rfl rfl (Nat.le_of_ble_eq_true rfl) dX8_where_32 ⟨Nat.le_of_ble_eq_true rfl, Nat.le_of_ble_eq_true rfl, Nat.le_of_ble_eq_true rfl, Nat.le_of_ble_eq_true rfl⟩ (fun v C' hP => ?_) (fun _ _ h => h.elim)
      obtain ⟨rfl, rfl⟩ := hP
      refine sw_st (st' := [.int (bI (0 ≤ t ∧ t ≤ ((rWh σ x) 40 0))), .ref m0]) rfl ?_
      refine sw_if_eq (pc := 35) (tgt := 42) hc dX8_where_35 (by decide) (fun c_12 => ?_) (fun c_12 => ?_)
      ·
        have p_13 : ¬ (0 ≤ t ∧ t ≤ ((rWh σ x) 40 0)) := bI_0 c_12
        refine sw_iconst (pc := 42) (v := 1) hc dX8_where_42 (by decide) ?_
        have h_14 : 1 = kWhere σ x t := by first | with_reducible rfl | (first | with_reducible rfl | (simp [-Int32.not_le, -Int32.not_lt, kWhere, st2_a, p_11, p_13]; done) | (((try simp only [st2_a, Nat.reduceBEq, Bool.false_and, Bool.true_and, beq_self_eq_true, cond_false, cond_true] at p_11 p_13) <;> simp [-Int32.not_le, -Int32.not_lt, kWhere, st2_a, p_11, p_13]); done) | ((try simp only [kWhere]); (repeat' split) <;> simp_all [-Int32.not_le, -Int32.not_lt, st2_a, rGap, rWall]; done))
        refine sw_st (st' := [.int (kWhere σ x t), .ref m0]) (congrArg (fun z => ([.int z, .ref m0] : List Value)) h_14) ?_
        exact sw_sub (ks := [0, 1, 2]) rfl (K_43 )
      ·
        have p_15 : 0 ≤ t ∧ t ≤ ((rWh σ x) 40 0) := bI_n c_12
        refine sw_iconst (pc := 38) (v := 0) hc dX8_where_38 (by decide) ?_
        refine sw_goto (pc := 39) (tgt := 43) hc dX8_where_39 (by decide) ?_
        have h_16 : 0 = kWhere σ x t := by first | with_reducible rfl | (first | with_reducible rfl | (simp [-Int32.not_le, -Int32.not_lt, kWhere, st2_a, p_11, p_15]; done) | (((try simp only [st2_a, Nat.reduceBEq, Bool.false_and, Bool.true_and, beq_self_eq_true, cond_false, cond_true] at p_11 p_15) <;> simp [-Int32.not_le, -Int32.not_lt, kWhere, st2_a, p_11, p_15]); done) | ((try simp only [kWhere]); (repeat' split) <;> simp_all [-Int32.not_le, -Int32.not_lt, st2_a, rGap, rWall]; done))
        refine sw_st (st' := [.int (kWhere σ x t), .ref m0]) (congrArg (fun z => ([.int z, .ref m0] : List Value)) h_16) ?_
        exact sw_sub (ks := [0, 1, 2]) rfl (K_43 )
  refine sw_aload_n (pc := 0) hc dX8_where_0 rfl 0 rfl ?_
  refine sw_iload_n (pc := 1) hc dX8_where_1 rfl 1 rfl ?_
  refine sw_callV (pc := 2) (rest := []) hc (c_X8_isReplay l g C m0 q σ x hN ) md_X8_isReplay ml_RX8_181 im_X8_isReplay sl_X8_isReplay (mW_o hN) rfl rfl rfl (Nat.le_of_ble_eq_true rfl) dX8_where_2 ⟨Nat.le_of_ble_eq_true rfl, Nat.le_of_ble_eq_true rfl, Nat.le_of_ble_eq_true rfl, Nat.le_of_ble_eq_true rfl⟩ (fun v C' hP => ?_) (fun _ _ h => h.elim)
  obtain ⟨rfl, rfl⟩ := hP
  refine sw_st (st' := [.int (bI (rIn σ 9 x))]) rfl ?_
  refine sw_if_eq (pc := 5) (tgt := 16) hc dX8_where_5 (by decide) (fun c_17 => ?_) (fun c_17 => ?_)
  ·
    have p_18 : ¬ (rIn σ 9 x) := bI_0 c_17
    have h_19 : σ = rWh σ x := by first | with_reducible rfl | (first | with_reducible rfl | (simp [-Int32.not_le, -Int32.not_lt, rWh, st2_a, p_18]; done) | (((try simp only [st2_a, Nat.reduceBEq, Bool.false_and, Bool.true_and, beq_self_eq_true, cond_false, cond_true] at p_18) <;> simp [-Int32.not_le, -Int32.not_lt, rWh, st2_a, p_18]); done) | ((try simp only [rWh]); (repeat' split) <;> simp_all [-Int32.not_le, -Int32.not_lt, st2_a, rGap, rWall]; done))
    exact sw_sub (ks := [0, 1, 2]) rfl (K_16 σ h_19)
  ·
    have p_20 : rIn σ 9 x := bI_n c_17
    obtain ⟨f_21, f_212⟩ := rIn_x hWF.2.1 (by decide) p_20
    have f_21b := hWF.2.1.2
    refine sw_aload_n (pc := 8) hc dX8_where_8 rfl 0 rfl ?_
    refine sw_iload_n (pc := 9) hc dX8_where_9 rfl 1 rfl ?_
    refine sw_sipush (pc := 10) (v := 500) hc dX8_where_10 (by decide) ?_
    refine sw_st (st' := [.int 500, .int (nI (iN x)), .ref m0]) (congrArg (fun z => ([.int 500, .int z, .ref m0] : List Value)) f_21) ?_
    refine sw_callV (pc := 13) (rest := []) hc (c_X8_run l g C m0 q σ (iN x) 500 hN (hWF.rp f_212)) md_X8_run ml_RX8_184 im_X8_run sl_X8_run (mW_o hN) rfl rfl rfl (Nat.le_of_ble_eq_true rfl) dX8_where_13 ⟨Nat.le_of_ble_eq_true rfl, Nat.le_of_ble_eq_true rfl, Nat.le_of_ble_eq_true rfl, Nat.le_of_ble_eq_true rfl⟩ (fun v C' hP => ?_) (fun _ _ h => h.elim)
    obtain ⟨rfl, rfl⟩ := hP
    refine sw_st (st' := []) rfl ?_
    have h_22 : rRun σ (iN x) 500 = rWh σ x := by first | with_reducible rfl | (first | with_reducible rfl | (simp [-Int32.not_le, -Int32.not_lt, rWh, st2_a, p_20]; done) | (((try simp only [st2_a, Nat.reduceBEq, Bool.false_and, Bool.true_and, beq_self_eq_true, cond_false, cond_true] at p_20) <;> simp [-Int32.not_le, -Int32.not_lt, rWh, st2_a, p_20]); done) | ((try simp only [rWh]); (repeat' split) <;> simp_all [-Int32.not_le, -Int32.not_lt, st2_a, rGap, rWall]; done))
    exact sw_sub (ks := [0, 1, 2]) rfl (K_16 (rRun σ (iN x) 500) h_22)

set_option maxHeartbeats 4000000 in
set_option maxRecDepth 100000 in
theorem c_X8_pass (l : Launch) (g : sg_G) (C : Nat → Option va_E) (m0 : Nat) (q : Nat → Nat) (σ : Mem) (d : Int32) (hN : mN m0 q) : sg_Met l yX8_pass cX8_pass 2 (some .int) 1 23 0 0 g [.ref m0, .int d] (sg_ov C (mW g m0 q σ)) (fun v C' => v = some (.int (vPass σ d)) ∧ C' = sg_ov C (mW g m0 q (fPass σ d))) sg_no := by
  refine sg_ofW (by decide) rfl ?_ (Nat.le_of_ble_eq_true rfl)
  intro p e s m below meth c hc hlk hrt hin2 htb
  have hc : sg_Cx p s m _ c cX8_pass 2 RX8 g := hc
  show sg_W p l e _ s m _ below meth c 2 g 0 0 _ (sg_ov C (mW g m0 q σ)) 0 [(0, .ref m0), (1, .int d)] []
  have K_33 : sg_W p l e (sg_rm 1 23 0 0) s m ([.ref m0, .int d] : List Value).toArray below meth c 2 g 0 0 (sg_End below g (fun v C' => v = some (.int (vPass σ d)) ∧ C' = sg_ov C (mW g m0 q (fPass σ d))) sg_no ([.ref m0, .int d] : List Value).toArray s 0 0) (sg_ov C (mW g m0 q σ)) 33 [(0, .ref m0), (1, .int d)] [.int (kPass σ d), .ref m0] := by
    refine sw_callV (pc := 33) (rest := []) hc (c_X8_holds l g C m0 q σ (kPass σ d) hN ) md_X8_holds ml_RX8_171 im_X8_holds sl_X8_holds (mW_o hN) rfl rfl rfl (Nat.le_of_ble_eq_true rfl) dX8_pass_33 ⟨Nat.le_of_ble_eq_true rfl, Nat.le_of_ble_eq_true rfl, Nat.le_of_ble_eq_true rfl, Nat.le_of_ble_eq_true rfl⟩ (fun v C' hP => ?_) (fun _ _ h => h.elim)
    obtain ⟨rfl, rfl⟩ := hP
    refine sw_st (st' := [.int (bI (0 < (kPass σ d)))]) rfl ?_
    refine sw_if_eq (pc := 36) (tgt := 41) hc dX8_pass_36 (by decide) (fun c_1 => ?_) (fun c_1 => ?_)
    ·
      have p_2 : ¬ (0 < (kPass σ d)) := bI_0 c_1
      refine sw_aload_n (pc := 41) hc dX8_pass_41 rfl 0 rfl ?_
      refine sw_dup (pc := 42) hc dX8_pass_42 rfl ?_
      refine sw_get (pc := 43) (v := .int ((st2 σ 42 0 (kPass σ d)) 31 0)) hc fl_RX8_200 (mW_o hN) rfl dX8_pass_43 ?_
      refine sw_iload_n (pc := 46) hc dX8_pass_46 rfl 1 rfl ?_
      refine sw_iadd (pc := 47) hc dX8_pass_47 ?_
      refine sw_put (pc := 48) (k := 31) hc fl_RX8_200 ty_9 fp_9_31 (mW_o hN) rfl rfl (Nat.le_of_ble_eq_true rfl) rfl dX8_pass_48 ?_
      refine sw_eq (mW_p31 hN) ?_
      refine sw_aload_n (pc := 51) hc dX8_pass_51 rfl 0 rfl ?_
      refine sw_get (pc := 52) (v := .int (((st2 σ 42 0 (kPass σ d)) 31 0) + d)) hc fl_RX8_200 (mW_o hN) rfl dX8_pass_52 ?_
      have h_3 : ((st2 σ 42 0 (kPass σ d)) 31 0) + d = vPass σ d := by (first | exact (if_pos (by assumption)).symm | exact (if_neg (by assumption)).symm)
      have h_4 : st2 (st2 σ 42 0 (kPass σ d)) 31 0 (((st2 σ 42 0 (kPass σ d)) 31 0) + d) = fPass σ d := by (first | exact (if_pos (by assumption)).symm | exact (if_neg (by assumption)).symm)
      exact sw_iret (pc := 55) hc hlk hrt rfl ⟨(congrArg (fun z => some (Value.int z)) h_3), (congrArg (fun z => sg_ov C (mW g m0 q z)) h_4)⟩ (Nat.le_of_ble_eq_true rfl) (Nat.le_of_ble_eq_true rfl) dX8_pass_55
    ·
      have p_5 : 0 < (kPass σ d) := bI_n c_1
      refine sw_iconst (pc := 39) (v := (-1)) hc dX8_pass_39 (by decide) ?_
      have h_6 : (-1) = vPass σ d := by (first | exact (if_pos (by assumption)).symm | exact (if_neg (by assumption)).symm)
      have h_7 : st2 σ 42 0 (kPass σ d) = fPass σ d := by (first | exact (if_pos (by assumption)).symm | exact (if_neg (by assumption)).symm)
      exact sw_iret (pc := 40) hc hlk hrt rfl ⟨(congrArg (fun z => some (Value.int z)) h_6), (congrArg (fun z => sg_ov C (mW g m0 q z)) h_7)⟩ (Nat.le_of_ble_eq_true rfl) (Nat.le_of_ble_eq_true rfl) dX8_pass_40
  refine sw_aload_n (pc := 0) hc dX8_pass_0 rfl 0 rfl ?_
  refine sw_aload_n (pc := 1) hc dX8_pass_1 rfl 0 rfl ?_
  refine sw_iload_n (pc := 2) hc dX8_pass_2 rfl 1 rfl ?_
  refine sw_iconst (pc := 3) (v := 1) hc dX8_pass_3 (by decide) ?_
  refine sw_bipush (pc := 4) (v := 100) hc dX8_pass_4 (by decide) ?_
  refine sw_callV (pc := 6) (rest := [.ref m0]) hc (c_X8_between l g C m0 q σ d 1 100 hN ) md_X8_between ml_RX8_95 im_X8_between sl_X8_between (mW_o hN) rfl rfl rfl (Nat.le_of_ble_eq_true rfl) dX8_pass_6 ⟨Nat.le_of_ble_eq_true rfl, Nat.le_of_ble_eq_true rfl, Nat.le_of_ble_eq_true rfl, Nat.le_of_ble_eq_true rfl⟩ (fun v C' hP => ?_) (fun _ _ h => h.elim)
  obtain ⟨rfl, rfl⟩ := hP
  refine sw_st (st' := [.int (bI (1 ≤ d ∧ d ≤ 100)), .ref m0]) rfl ?_
  refine sw_if_ne (pc := 9) (tgt := 16) hc dX8_pass_9 (by decide) (fun c_8 => ?_) (fun c_8 => ?_)
  ·
    have p_9 : 1 ≤ d ∧ d ≤ 100 := bI_n c_8
    refine sw_aload_n (pc := 16) hc dX8_pass_16 rfl 0 rfl ?_
    refine sw_get (pc := 17) (v := .int (σ 31 0)) hc fl_RX8_200 (mW_o hN) rfl dX8_pass_17 ?_
    refine sw_iload_n (pc := 20) hc dX8_pass_20 rfl 1 rfl ?_
    refine sw_iadd (pc := 21) hc dX8_pass_21 ?_
    refine sw_sipush (pc := 22) (v := 1000) hc dX8_pass_22 (by decide) ?_
    refine sw_icmp_le (pc := 25) (tgt := 32) hc dX8_pass_25 (by decide) (fun c_10 => ?_) (fun c_10 => ?_)
    ·
      have c_10' := Int32.not_lt.mpr c_10
      refine sw_iconst (pc := 32) (v := 0) hc dX8_pass_32 (by decide) ?_
      have h_11 : 0 = kPass σ d := by first | with_reducible rfl | (first | with_reducible rfl | (simp [-Int32.not_le, -Int32.not_lt, kPass, st2_a, p_9, c_10, c_10']; done) | (((try simp only [st2_a, Nat.reduceBEq, Bool.false_and, Bool.true_and, beq_self_eq_true, cond_false, cond_true] at p_9 c_10 c_10') <;> simp [-Int32.not_le, -Int32.not_lt, kPass, st2_a, p_9, c_10, c_10']); done) | ((try simp only [kPass]); (repeat' split) <;> simp_all [-Int32.not_le, -Int32.not_lt, st2_a, rGap, rWall]; done))
      refine sw_st (st' := [.int (kPass σ d), .ref m0]) (congrArg (fun z => ([.int z, .ref m0] : List Value)) h_11) ?_
      exact sw_sub (ks := [0, 1]) rfl (K_33 )
    ·
      have c_10' := Int32.not_le.mp c_10
      refine sw_iconst (pc := 28) (v := 2) hc dX8_pass_28 (by decide) ?_
      refine sw_goto (pc := 29) (tgt := 33) hc dX8_pass_29 (by decide) ?_
      have h_12 : 2 = kPass σ d := by first | with_reducible rfl | (first | with_reducible rfl | (simp [-Int32.not_le, -Int32.not_lt, kPass, st2_a, p_9, c_10, c_10']; done) | (((try simp only [st2_a, Nat.reduceBEq, Bool.false_and, Bool.true_and, beq_self_eq_true, cond_false, cond_true] at p_9 c_10 c_10') <;> simp [-Int32.not_le, -Int32.not_lt, kPass, st2_a, p_9, c_10, c_10']); done) | ((try simp only [kPass]); (repeat' split) <;> simp_all [-Int32.not_le, -Int32.not_lt, st2_a, rGap, rWall]; done))
      refine sw_st (st' := [.int (kPass σ d), .ref m0]) (congrArg (fun z => ([.int z, .ref m0] : List Value)) h_12) ?_
      exact sw_sub (ks := [0, 1]) rfl (K_33 )
  ·
    have p_13 : ¬ (1 ≤ d ∧ d ≤ 100) := bI_0 c_8
    refine sw_iconst (pc := 12) (v := 1) hc dX8_pass_12 (by decide) ?_
    refine sw_goto (pc := 13) (tgt := 33) hc dX8_pass_13 (by decide) ?_
    have h_14 : 1 = kPass σ d := by first | with_reducible rfl | (first | with_reducible rfl | (simp [-Int32.not_le, -Int32.not_lt, kPass, st2_a, p_13]; done) | (((try simp only [st2_a, Nat.reduceBEq, Bool.false_and, Bool.true_and, beq_self_eq_true, cond_false, cond_true] at p_13) <;> simp [-Int32.not_le, -Int32.not_lt, kPass, st2_a, p_13]); done) | ((try simp only [kPass]); (repeat' split) <;> simp_all [-Int32.not_le, -Int32.not_lt, st2_a, rGap, rWall]; done))
    refine sw_st (st' := [.int (kPass σ d), .ref m0]) (congrArg (fun z => ([.int z, .ref m0] : List Value)) h_14) ?_
    exact sw_sub (ks := [0, 1]) rfl (K_33 )

