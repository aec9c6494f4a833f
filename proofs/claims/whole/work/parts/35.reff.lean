
/-! runs and how they are judged -/
def rLaw (σ : Mem) (a : Nat) (d : Int32) : Nat → Int32
  | 0 => -1
  | i + 1 => if σ 12 (10 * a + i) ≤ d ∧ (rLaw σ a d i < 0 ∨ σ 12 (iN (rLaw σ a d i)) ≤ σ 12 (10 * a + i)) then nI (10 * a + i) else rLaw σ a d i
theorem rLaw_v (σ : Mem) (a : Nat) (d : Int32) : ∀ i : Nat, rLaw σ a d i = -1 ∨ ∃ j, j < i ∧ rLaw σ a d i = nI (10 * a + j)
  | 0 => .inl rfl
  | i + 1 => by
    unfold rLaw
    split
    · exact .inr ⟨i, by omega, rfl⟩
    · rcases rLaw_v σ a d i with h | ⟨j, h1, h2⟩
      · exact .inl h
      · exact .inr ⟨j, by omega, h2⟩
theorem rLaw_x {σ : Mem} {a i : Nat} {d x : Int32} (ha : a < 6) (hi : i ≤ 10) (e : x = rLaw σ a d i) (h : ¬ x < 0) : x = nI (iN x) ∧ iN x < 60 := by
  rcases rLaw_v σ a d i with h1 | ⟨j, h1, h2⟩
  · rw [e, h1] at h; exact absurd (by decide) h
  · rw [e, h2, iN, nI_clamp (by omega)]
    exact ⟨rfl, by omega⟩
def rLawI (σ : Mem) (k : Nat) : Int32 := rLaw σ (iN (σ 19 k)) (σ 20 k) (iN (σ 11 (iN (σ 19 k))))
abbrev rBad (σ : Mem) (k j : Nat) : Prop := 0 < σ 25 k &&& σ 13 j ∨ σ 23 k < σ 14 j ∨ σ 15 j < σ 24 k
abbrev rRef (σ : Mem) (k : Nat) : Prop := 0 ≤ rLawI σ k ∧ rBad σ k (iN (rLawI σ k))
/-- what refused wants -/
def rRn (σ : Mem) (k : Nat) : Prop := k < 40 ∧ isN (σ 19 k) 6 ∧ ∀ a, isN (σ 11 a) 11
theorem rWF.rn {σ : Mem} {k : Nat} (h : rWF σ) (hk : k < iN (σ 26 0)) : rRn σ k := by
  obtain ⟨-, -, h16, h26, -, -, -, -, -, h11, -, h19, -⟩ := h
  have a := h16.2
  have b := h26.2
  exact ⟨by omega, ⟨(h19 k hk).1, by have := (h19 k hk).2; omega⟩, h11⟩
abbrev rCnt (σ : Mem) (k : Nat) : Prop := σ 21 k = 0 ∧ ¬ rRef σ k
abbrev rRngR (d f p j : Int32) : Prop := (0 ≤ d ∧ d ≤ 1000) ∧ (0 ≤ f ∧ f ≤ 7) ∧ (0 ≤ p ∧ p ≤ 32) ∧ (0 ≤ j ∧ j ≤ 500)
def kRule (σ : Mem) (x d f pu j : Int32) : Int32 := if ¬ rIn σ 16 x then 1 else if ¬ rRngR d f pu j then 2 else if σ 11 (iN x) = 10 then 3 else 0
theorem kRule_0 {σ : Mem} {x d f pu j : Int32} (k : ¬ 0 < kRule σ x d f pu j) : rIn σ 16 x ∧ rRngR d f pu j ∧ ¬ σ 11 (iN x) = 10 := by
  unfold kRule at k
  split at k
  · exact absurd (by decide) k
  · rename_i h1
    split at k
    · exact absurd (by decide) k
    · rename_i h2
      split at k
      · exact absurd (by decide) k
      · rename_i h3
        exact ⟨Decidable.not_not.mp h1, Decidable.not_not.mp h2, h3⟩
def oRule (σ : Mem) (x d f pu j : Int32) : Mem :=
  st2 (st2 (st2 (st2 (st2 σ 12 (10 * iN x + iN (σ 11 (iN x))) d) 13 (10 * iN x + iN (σ 11 (iN x))) f) 14 (10 * iN x + iN (σ 11 (iN x))) pu) 15 (10 * iN x + iN (σ 11 (iN x))) j) 11 (iN x) (σ 11 (iN x) + 1)
def rRfC (σ : Mem) (x : Int32) : Nat → Int32
  | 0 => 0
  | k + 1 => rRfC σ x k + if σ 19 k = x ∧ rRef σ k then 1 else 0
def fRule (σ : Mem) (x d f pu j : Int32) : Mem := if 0 < kRule σ x d f pu j then st2 σ 42 0 (kRule σ x d f pu j) else oRule (st2 σ 42 0 (kRule σ x d f pu j)) x d f pu j
def vRule (σ : Mem) (x d f pu j : Int32) : Int32 := if 0 < kRule σ x d f pu j then -1 else rRfC (oRule (st2 σ 42 0 (kRule σ x d f pu j)) x d f pu j) x (iN (σ 26 0))
theorem rWF_rule {σ : Mem} {x d f pu j : Int32} (h : rWF σ) (hx : isN (σ 11 (iN x)) 10) : rWF (oRule σ x d f pu j) := by
  obtain ⟨h1, h2, h3, h4, h5, h6, h7, h8, h9, h10, h11, h12, h13⟩ := h
  refine ⟨h1, h2, h3, h4, h5, h6, h7, h8, h9, fun k => ?_, h11, h12, h13⟩
  show isN (st2 _ 11 (iN x) (σ 11 (iN x) + 1) 11 k) 11
  rw [st2_a, beq_self_eq_true, Bool.true_and]
  by_cases q : k = iN x
  · rw [q, beq_self_eq_true]
    show isN (σ 11 (iN x) + 1) 11
    have e : σ 11 (iN x) + 1 = nI (iN (σ 11 (iN x)) + 1) := by rw [← nI_1, ← hx.1]
    have := hx.2
    rw [e]
    exact isN_nI (by omega) (by omega)
  · rw [show (k == iN x) = false by simp [q]]
    exact h10 k
abbrev rPair (σ : Mem) (x y : Int32) : Prop := rIn σ 16 x ∧ (0 ≤ y ∧ y ≤ 7)
abbrev rThere (σ : Mem) (x y z : Int32) : Prop := (0 ≤ x ∧ x ≤ 7) ∧ rIn σ 9 y ∧ rIn σ 16 z
def rSub (σ : Mem) (x y z : Int32) : Mem := if rThere σ x y z then rRun σ (iN y) 500 else σ
theorem rSub_fr (σ : Mem) (x y z : Int32) : rFr σ (rSub σ x y z) := by
  unfold rSub
  split
  · exact rRun_k.1
  · exact rFr.rf
def kSubmit (σ υ : Mem) (x y z : Int32) : Int32 := if ¬ rThere σ x y z then 1 else if ¬ υ 3 (iN y) = υ 10 (iN z) then 2 else if ¬ υ 41 0 = 1 ∨ υ 26 0 = 40 then 3 else 0
theorem kSubmit_0 {σ υ : Mem} {x y z : Int32} (k : ¬ 0 < kSubmit σ υ x y z) : rThere σ x y z ∧ υ 3 (iN y) = υ 10 (iN z) ∧ υ 41 0 = 1 ∧ ¬ υ 26 0 = 40 := by
  unfold kSubmit at k
  split at k
  · exact absurd (by decide) k
  · rename_i h1
    split at k
    · exact absurd (by decide) k
    · rename_i h2
      split at k
      · exact absurd (by decide) k
      · rename_i h3
        rw [not_or] at h3
        exact ⟨Decidable.not_not.mp h1, Decidable.not_not.mp h2, Decidable.not_not.mp h3.1, h3.2⟩
def oSubmit (σ : Mem) (x y z : Int32) : Mem :=
  st2 (st2 (st2 (st2 (st2 (st2 (st2 (st2 (st2 (st2 σ 6 (iN y) 1) 17 (iN (σ 26 0)) y) 18 (iN (σ 26 0)) x) 19 (iN (σ 26 0)) z) 20 (iN (σ 26 0)) (σ 31 0)) 22 (iN (σ 26 0)) (σ 40 0)) 23 (iN (σ 26 0)) (rPurse (σ 37 0) 32)) 24 (iN (σ 26 0)) (σ 38 0)) 25 (iN (σ 26 0)) (σ 39 0)) 26 0 (σ 26 0 + 1)
def fSubmit (σ : Mem) (x y z : Int32) : Mem := if 0 < kSubmit σ (rSub σ x y z) x y z then st2 (rSub σ x y z) 42 0 (kSubmit σ (rSub σ x y z) x y z) else oSubmit (st2 (rSub σ x y z) 42 0 (kSubmit σ (rSub σ x y z) x y z)) x y z
def vSubmit (σ : Mem) (x y z : Int32) : Int32 := if 0 < kSubmit σ (rSub σ x y z) x y z then -1 else rSub σ x y z 26 0 + 1 - 1
def fIn (σ : Mem) (k : Nat) (x : Int32) : Mem := st2 σ 42 0 (kIn σ k x)
def vJudged (σ : Mem) (x : Int32) : Int32 := if 0 < kIn σ 26 x then -1 else bI (rRef (fIn σ 26 x) (iN x)) + 2 * σ 21 (iN x)
def fStrike (σ : Mem) (x : Int32) : Mem := if 0 < kIn σ 26 x then st2 σ 42 0 (kIn σ 26 x) else st2 (st2 σ 42 0 (kIn σ 26 x)) 21 (iN x) (1 - σ 21 (iN x))
abbrev pStrike (σ : Mem) (x : Int32) : Prop := ¬ 0 < kIn σ 26 x ∧ 1 - σ 21 (iN x) = 1

theorem fl_RX8_37 : sg_FL RX8 37 9 11 := ⟨RX8, TX8, 43, "SplitGateModel", rfl, by decide, ti_9, .inl rfl, .inl (sg_mem (i := 875) (by decide +kernel) rfl)⟩
theorem fl_RX8_40 : sg_FL RX8 40 9 12 := ⟨RX8, TX8, 43, "SplitGateModel", rfl, by decide, ti_9, .inl rfl, .inl (sg_mem (i := 876) (by decide +kernel) rfl)⟩
theorem fl_RX8_58 : sg_FL RX8 58 9 19 := ⟨RX8, TX8, 43, "SplitGateModel", rfl, by decide, ti_9, .inl rfl, .inl (sg_mem (i := 883) (by decide +kernel) rfl)⟩
theorem fl_RX8_61 : sg_FL RX8 61 9 20 := ⟨RX8, TX8, 43, "SplitGateModel", rfl, by decide, ti_9, .inl rfl, .inl (sg_mem (i := 884) (by decide +kernel) rfl)⟩
theorem md_X8_law : sg_MD yX8_law cX8_law 5 (some .int) 2 := ⟨sg_mem (i := 1109) (by decide +kernel) rfl, sg_mem (i := 59) (by decide +kernel) rfl, ⟨by decide, by decide⟩, by decide +kernel⟩
theorem ml_RX8_191 : sg_ML RX8 191 yX8_law := .inl (sg_mem (i := 1106) (by decide +kernel) rfl)
theorem im_X8_law : Cond.instanceMethod yX8_law ∈ sg_T := sg_mem (i := 1108) (by decide +kernel) rfl
theorem sl_X8_law : Cond.selects yX8_law.cls yX8_law yX8_law ∈ sg_T := sg_mem (i := 43) (by decide +kernel) rfl
theorem fl_RX8_76 : sg_FL RX8 76 9 25 := ⟨RX8, TX8, 43, "SplitGateModel", rfl, by decide, ti_9, .inl rfl, .inl (sg_mem (i := 889) (by decide +kernel) rfl)⟩
theorem fl_RX8_43 : sg_FL RX8 43 9 13 := ⟨RX8, TX8, 43, "SplitGateModel", rfl, by decide, ti_9, .inl rfl, .inl (sg_mem (i := 877) (by decide +kernel) rfl)⟩
theorem fl_RX8_70 : sg_FL RX8 70 9 23 := ⟨RX8, TX8, 43, "SplitGateModel", rfl, by decide, ti_9, .inl rfl, .inl (sg_mem (i := 887) (by decide +kernel) rfl)⟩
theorem fl_RX8_46 : sg_FL RX8 46 9 14 := ⟨RX8, TX8, 43, "SplitGateModel", rfl, by decide, ti_9, .inl rfl, .inl (sg_mem (i := 878) (by decide +kernel) rfl)⟩
theorem fl_RX8_73 : sg_FL RX8 73 9 24 := ⟨RX8, TX8, 43, "SplitGateModel", rfl, by decide, ti_9, .inl rfl, .inl (sg_mem (i := 888) (by decide +kernel) rfl)⟩
theorem fl_RX8_49 : sg_FL RX8 49 9 15 := ⟨RX8, TX8, 43, "SplitGateModel", rfl, by decide, ti_9, .inl rfl, .inl (sg_mem (i := 879) (by decide +kernel) rfl)⟩
theorem fl_RX8_64 : sg_FL RX8 64 9 21 := ⟨RX8, TX8, 43, "SplitGateModel", rfl, by decide, ti_9, .inl rfl, .inl (sg_mem (i := 885) (by decide +kernel) rfl)⟩
theorem md_X8_refused : sg_MD yX8_refused cX8_refused 3 (some .boolean) 1 := ⟨sg_mem (i := 1105) (by decide +kernel) rfl, sg_mem (i := 59) (by decide +kernel) rfl, ⟨by decide, by decide⟩, by decide +kernel⟩
theorem ml_RX8_194 : sg_ML RX8 194 yX8_refused := .inl (sg_mem (i := 1102) (by decide +kernel) rfl)
theorem im_X8_refused : Cond.instanceMethod yX8_refused ∈ sg_T := sg_mem (i := 1104) (by decide +kernel) rfl
theorem sl_X8_refused : Cond.selects yX8_refused.cls yX8_refused yX8_refused ∈ sg_T := sg_mem (i := 42) (by decide +kernel) rfl
theorem md_X8_isCategory : sg_MD yX8_isCategory cX8_isCategory 2 (some .boolean) 1 := ⟨sg_mem (i := 1101) (by decide +kernel) rfl, sg_mem (i := 59) (by decide +kernel) rfl, ⟨by decide, by decide⟩, by decide +kernel⟩
theorem ml_RX8_197 : sg_ML RX8 197 yX8_isCategory := .inl (sg_mem (i := 1098) (by decide +kernel) rfl)
theorem im_X8_isCategory : Cond.instanceMethod yX8_isCategory ∈ sg_T := sg_mem (i := 1100) (by decide +kernel) rfl
theorem sl_X8_isCategory : Cond.selects yX8_isCategory.cls yX8_isCategory yX8_isCategory ∈ sg_T := sg_mem (i := 41) (by decide +kernel) rfl
theorem md_X8_isRunner : sg_MD yX8_isRunner cX8_isRunner 2 (some .boolean) 1 := ⟨sg_mem (i := 1121) (by decide +kernel) rfl, sg_mem (i := 59) (by decide +kernel) rfl, ⟨by decide, by decide⟩, by decide +kernel⟩
theorem ml_RX8_203 : sg_ML RX8 203 yX8_isRunner := .inl (sg_mem (i := 1118) (by decide +kernel) rfl)
theorem im_X8_isRunner : Cond.instanceMethod yX8_isRunner ∈ sg_T := sg_mem (i := 1120) (by decide +kernel) rfl
theorem sl_X8_isRunner : Cond.selects yX8_isRunner.cls yX8_isRunner yX8_isRunner ∈ sg_T := sg_mem (i := 44) (by decide +kernel) rfl
theorem fl_RX8_52 : sg_FL RX8 52 9 17 := ⟨RX8, TX8, 43, "SplitGateModel", rfl, by decide, ti_9, .inl rfl, .inl (sg_mem (i := 881) (by decide +kernel) rfl)⟩
theorem fl_RX8_55 : sg_FL RX8 55 9 18 := ⟨RX8, TX8, 43, "SplitGateModel", rfl, by decide, ti_9, .inl rfl, .inl (sg_mem (i := 882) (by decide +kernel) rfl)⟩
theorem fl_RX8_67 : sg_FL RX8 67 9 22 := ⟨RX8, TX8, 43, "SplitGateModel", rfl, by decide, ti_9, .inl rfl, .inl (sg_mem (i := 886) (by decide +kernel) rfl)⟩
theorem fp_9_26 : sg_FP 9 26 false .int := ⟨RX8, TX8, 43, rfl, rfl, by decide +kernel, rfl⟩
theorem md_X8_isRun : sg_MD yX8_isRun cX8_isRun 2 (some .boolean) 1 := ⟨sg_mem (i := 1129) (by decide +kernel) rfl, sg_mem (i := 59) (by decide +kernel) rfl, ⟨by decide, by decide⟩, by decide +kernel⟩
theorem ml_RX8_206 : sg_ML RX8 206 yX8_isRun := .inl (sg_mem (i := 1126) (by decide +kernel) rfl)
theorem im_X8_isRun : Cond.instanceMethod yX8_isRun ∈ sg_T := sg_mem (i := 1128) (by decide +kernel) rfl
theorem sl_X8_isRun : Cond.selects yX8_isRun.cls yX8_isRun yX8_isRun ∈ sg_T := sg_mem (i := 45) (by decide +kernel) rfl
set_option maxHeartbeats 4000000 in
set_option maxRecDepth 100000 in
theorem c_X8_law (l : Launch) (g : sg_G) (C : Nat → Option va_E) (m0 : Nat) (q : Nat → Nat) (σ : Mem) (a : Nat) (d : Int32) (hN : mN m0 q) (ha : a < 6) (hr : isN (σ 11 a) 11) : sg_Met l yX8_law cX8_law 5 (some .int) 0 0 0 0 g [.ref m0, .int (nI a), .int d] (sg_ov C (mW g m0 q σ)) (fun v C' => v = some (.int (rLaw σ a d (iN (σ 11 a)))) ∧ C' = sg_ov C (mW g m0 q σ)) sg_no := by
  refine sg_ofW (by decide) rfl ?_ (Nat.le_of_ble_eq_true rfl)
  intro p e s m below meth c hc hlk hrt hin2 htb
  have hc : sg_Cx p s m _ c cX8_law 5 RX8 g := hc
  show sg_W p l e _ s m _ below meth c 5 g 0 0 _ (sg_ov C (mW g m0 q σ)) 0 [(0, .ref m0), (1, .int (nI a)), (2, .int d)] []
  have K_8 : ∀ (n8 : Nat) (i : Nat) (f : Int32) (hn8 : (iN (σ 11 a) - i) < n8) (ef : f = rLaw σ a d i) (hib : i ≤ iN (σ 11 a)), sg_W p l e (sg_rm 0 0 0 0) s m ([.ref m0, .int (nI a), .int d] : List Value).toArray below meth c 5 g 0 0 (sg_End below g (fun v C' => v = some (.int (rLaw σ a d (iN (σ 11 a)))) ∧ C' = sg_ov C (mW g m0 q σ)) sg_no ([.ref m0, .int (nI a), .int d] : List Value).toArray s 0 0) (sg_ov C (mW g m0 q σ)) 8 [(0, .ref m0), (1, .int (nI a)), (2, .int d), (3, .int f), (4, .int (nI (10 * a + i)))] [] := by
    intro n8
    induction n8 with
    | zero => intro i f hn8 ef hib; exact absurd hn8 (Nat.not_lt_zero _)
    | succ n8 ih8 =>
      intro i f hn8 ef hib
      have hr2 := hr.2
      refine sw_iload (pc := 8) hc dX8_law_8 4 rfl ?_
      refine sw_bipush (pc := 10) (v := 10) hc dX8_law_10 (by decide) ?_
      refine sw_iload_n (pc := 12) hc dX8_law_12 rfl 1 rfl ?_
      refine sw_imul (pc := 13) hc dX8_law_13 ?_
      refine sw_st (st' := [.int (nI (10 * a)), .int (nI (10 * a + i))]) (congrArg (fun z => ([.int z, .int (nI (10 * a + i))] : List Value)) (pk_mul 10 a : 10 * (nI a) = nI (10 * a))) ?_
      refine sw_aload_n (pc := 14) hc dX8_law_14 rfl 0 rfl ?_
      refine sw_get (pc := 15) (v := .ref (q 11)) hc fl_RX8_37 (mW_o hN) rfl dX8_law_15 ?_
      refine sw_iload_n (pc := 18) hc dX8_law_18 rfl 1 rfl ?_
      refine sw_iald (pc := 19) (j := a) hc (mW_a11 hN) rfl ha (by decide) dX8_law_19 ?_
      refine sw_st (st' := [.int (nI (iN (σ 11 a))), .int (nI (10 * a)), .int (nI (10 * a + i))]) (congrArg (fun z => ([.int z, .int (nI (10 * a)), .int (nI (10 * a + i))] : List Value)) (hr.1 : σ 11 a = nI (iN (σ 11 a)))) ?_
      refine sw_iadd (pc := 20) hc dX8_law_20 ?_
      refine sw_st (st' := [.int (nI (10 * a + iN (σ 11 a))), .int (nI (10 * a + i))]) (congrArg (fun z => ([.int z, .int (nI (10 * a + i))] : List Value)) (nI_add _ _ : (nI (10 * a)) + (nI (iN (σ 11 a))) = nI (10 * a + iN (σ 11 a)))) ?_
      refine sw_icmp_ge (pc := 21) (tgt := 68) hc dX8_law_21 (by decide) (fun c_1 => ?_) (fun c_1 => ?_)
      ·
        have n_2 : (10 * a + iN (σ 11 a)) ≤ (10 * a + i) := (nI_leI (a := (10 * a + iN (σ 11 a))) (b := (10 * a + i)) (by have := hr.2; omega) (by have := hr.2; omega)).mp c_1
        have c_1' := Int32.not_lt.mpr c_1
        refine sw_iload_n (pc := 68) hc dX8_law_68 rfl 3 rfl ?_
        have hz : f = rLaw σ a d (iN (σ 11 a)) := by rw [ef, show i = iN (σ 11 a) by omega]
        exact sw_iret (pc := 69) hc hlk hrt rfl ⟨congrArg (fun z => some (Value.int z)) hz, rfl⟩ (Nat.le_of_ble_eq_true rfl) (Nat.le_of_ble_eq_true rfl) dX8_law_69
      ·
        have n_3 : ¬ ((10 * a + iN (σ 11 a)) ≤ (10 * a + i)) := fun z => c_1 ((nI_leI (a := (10 * a + iN (σ 11 a))) (b := (10 * a + i)) (by have := hr.2; omega) (by have := hr.2; omega)).mpr z)
        have c_1' := Int32.not_le.mp c_1
        refine sw_aload_n (pc := 24) hc dX8_law_24 rfl 0 rfl ?_
        refine sw_get (pc := 25) (v := .ref (q 12)) hc fl_RX8_40 (mW_o hN) rfl dX8_law_25 ?_
        refine sw_iload (pc := 28) hc dX8_law_28 4 rfl ?_
        refine sw_iald (pc := 30) (j := (10 * a + i)) hc (mW_a12 hN) rfl (by omega) (by decide) dX8_law_30 ?_
        refine sw_iload_n (pc := 31) hc dX8_law_31 rfl 2 rfl ?_
        refine sw_icmp_gt (pc := 32) (tgt := 60) hc dX8_law_32 (by decide) (fun c_4 => ?_) (fun c_4 => ?_)
        ·
          have c_4' := Int32.not_le.mpr c_4
          refine sw_iload_n (pc := 60) hc dX8_law_60 rfl 3 rfl ?_
          refine sw_istore_n (pc := 61) hc dX8_law_61 rfl (by decide) (lv' := [(3, .int f), (0, .ref m0), (1, .int (nI a)), (2, .int d), (4, .int (nI (10 * a + i)))]) rfl ?_
          refine sw_iinc (pc := 62) (v := nI (10 * a + (i + 1))) (lv' := [(4, .int (nI (10 * a + (i + 1)))), (3, .int f), (0, .ref m0), (1, .int (nI a)), (2, .int d)]) hc dX8_law_62 (k := 4) rfl (nI_1 _) (by decide) rfl ?_
          refine sw_goto (pc := 65) (tgt := 8) hc dX8_law_65 (by decide) ?_
          have h_5 : f = rLaw σ a d (i + 1) := by first | with_reducible rfl | (subst ef; first | with_reducible rfl | (simp [-Int32.not_le, -Int32.not_lt, rLaw, st2_a, hib, c_1, n_3, c_1', c_4, c_4']; done) | (((try simp only [st2_a, Nat.reduceBEq, Bool.false_and, Bool.true_and, beq_self_eq_true, cond_false, cond_true] at hib c_1 n_3 c_1' c_4 c_4') <;> simp [-Int32.not_le, -Int32.not_lt, rLaw, st2_a, hib, c_1, n_3, c_1', c_4, c_4']); done) | ((try simp only [rLaw]); (repeat' split) <;> simp_all [-Int32.not_le, -Int32.not_lt, st2_a, rGap, rWall]; done))
          have h_6 : (i + 1) ≤ iN (σ 11 a) := by omega
          have h_7 : (iN (σ 11 a) - (i + 1)) < n8 := by omega
          exact sw_sub (ks := [2, 3, 4, 1, 0]) rfl (ih8 (i + 1) f h_7 h_5 h_6)
        ·
          have c_4' := Int32.not_lt.mp c_4
          refine sw_iload_n (pc := 35) hc dX8_law_35 rfl 3 rfl ?_
          refine sw_if_lt (pc := 36) (tgt := 55) hc dX8_law_36 (by decide) (fun c_8 => ?_) (fun c_8 => ?_)
          ·
            have c_8' := Int32.not_le.mpr c_8
            refine sw_iload (pc := 55) hc dX8_law_55 4 rfl ?_
            refine sw_goto (pc := 57) (tgt := 61) hc dX8_law_57 (by decide) ?_
            refine sw_istore_n (pc := 61) hc dX8_law_61 rfl (by decide) (lv' := [(3, .int (nI (10 * a + i))), (0, .ref m0), (1, .int (nI a)), (2, .int d), (4, .int (nI (10 * a + i)))]) rfl ?_
            refine sw_iinc (pc := 62) (v := nI (10 * a + (i + 1))) (lv' := [(4, .int (nI (10 * a + (i + 1)))), (3, .int (nI (10 * a + i))), (0, .ref m0), (1, .int (nI a)), (2, .int d)]) hc dX8_law_62 (k := 4) rfl (nI_1 _) (by decide) rfl ?_
            refine sw_goto (pc := 65) (tgt := 8) hc dX8_law_65 (by decide) ?_
            have h_9 : nI (10 * a + i) = rLaw σ a d (i + 1) := by first | with_reducible rfl | (subst ef; first | with_reducible rfl | (simp [-Int32.not_le, -Int32.not_lt, rLaw, st2_a, hib, c_1, n_3, c_1', c_4, c_4', c_8, c_8']; done) | (((try simp only [st2_a, Nat.reduceBEq, Bool.false_and, Bool.true_and, beq_self_eq_true, cond_false, cond_true] at hib c_1 n_3 c_1' c_4 c_4' c_8 c_8') <;> simp [-Int32.not_le, -Int32.not_lt, rLaw, st2_a, hib, c_1, n_3, c_1', c_4, c_4', c_8, c_8']); done) | ((try simp only [rLaw]); (repeat' split) <;> simp_all [-Int32.not_le, -Int32.not_lt, st2_a, rGap, rWall]; done))
            have h_10 : (i + 1) ≤ iN (σ 11 a) := by omega
            have h_11 : (iN (σ 11 a) - (i + 1)) < n8 := by omega
            exact sw_sub (ks := [2, 3, 4, 1, 0]) rfl (ih8 (i + 1) (nI (10 * a + i)) h_11 h_9 h_10)
          ·
            have c_8' := Int32.not_lt.mp c_8
            obtain ⟨ff, ff2⟩ := rLaw_x ha (by omega) ef c_8
            refine sw_aload_n (pc := 39) hc dX8_law_39 rfl 0 rfl ?_
            refine sw_get (pc := 40) (v := .ref (q 12)) hc fl_RX8_40 (mW_o hN) rfl dX8_law_40 ?_
            refine sw_iload (pc := 43) hc dX8_law_43 4 rfl ?_
            refine sw_iald (pc := 45) (j := (10 * a + i)) hc (mW_a12 hN) rfl (by omega) (by decide) dX8_law_45 ?_
            refine sw_aload_n (pc := 46) hc dX8_law_46 rfl 0 rfl ?_
            refine sw_get (pc := 47) (v := .ref (q 12)) hc fl_RX8_40 (mW_o hN) rfl dX8_law_47 ?_
            refine sw_iload_n (pc := 50) hc dX8_law_50 rfl 3 rfl ?_
            refine sw_iald (pc := 51) (j := (iN f)) hc (mW_a12 hN) ff (by omega) (by decide) dX8_law_51 ?_
            refine sw_icmp_lt (pc := 52) (tgt := 60) hc dX8_law_52 (by decide) (fun c_12 => ?_) (fun c_12 => ?_)
            ·
              have c_12' := Int32.not_le.mpr c_12
              refine sw_iload_n (pc := 60) hc dX8_law_60 rfl 3 rfl ?_
              refine sw_istore_n (pc := 61) hc dX8_law_61 rfl (by decide) (lv' := [(3, .int f), (0, .ref m0), (1, .int (nI a)), (2, .int d), (4, .int (nI (10 * a + i)))]) rfl ?_
              refine sw_iinc (pc := 62) (v := nI (10 * a + (i + 1))) (lv' := [(4, .int (nI (10 * a + (i + 1)))), (3, .int f), (0, .ref m0), (1, .int (nI a)), (2, .int d)]) hc dX8_law_62 (k := 4) rfl (nI_1 _) (by decide) rfl ?_
              refine sw_goto (pc := 65) (tgt := 8) hc dX8_law_65 (by decide) ?_
              have h_13 : f = rLaw σ a d (i + 1) := by first | with_reducible rfl | (subst ef; first | with_reducible rfl | (simp [-Int32.not_le, -Int32.not_lt, rLaw, st2_a, hib, c_1, n_3, c_1', c_4, c_4', c_8, c_8', c_12, c_12']; done) | (((try simp only [st2_a, Nat.reduceBEq, Bool.false_and, Bool.true_and, beq_self_eq_true, cond_false, cond_true] at hib c_1 n_3 c_1' c_4 c_4' c_8 c_8' c_12 c_12') <;> simp [-Int32.not_le, -Int32.not_lt, rLaw, st2_a, hib, c_1, n_3, c_1', c_4, c_4', c_8, c_8', c_12, c_12']); done) | ((try simp only [rLaw]); (repeat' split) <;> simp_all [-Int32.not_le, -Int32.not_lt, st2_a, rGap, rWall]; done))
              have h_14 : (i + 1) ≤ iN (σ 11 a) := by omega
              have h_15 : (iN (σ 11 a) - (i + 1)) < n8 := by omega
              exact sw_sub (ks := [2, 3, 4, 1, 0]) rfl (ih8 (i + 1) f h_15 h_13 h_14)
            ·
              have c_12' := Int32.not_lt.mp c_12
              refine sw_iload (pc := 55) hc dX8_law_55 4 rfl ?_
              refine sw_goto (pc := 57) (tgt := 61) hc dX8_law_57 (by decide) ?_
              refine sw_istore_n (pc := 61) hc dX8_law_61 rfl (by decide) (lv' := [(3, .int (nI (10 * a + i))), (0, .ref m0), (1, .int (nI a)), (2, .int d), (4, .int (nI (10 * a + i)))]) rfl ?_
              refine sw_iinc (pc := 62) (v := nI (10 * a + (i + 1))) (lv' := [(4, .int (nI (10 * a + (i + 1)))), (3, .int (nI (10 * a + i))), (0, .ref m0), (1, .int (nI a)), (2, .int d)]) hc dX8_law_62 (k := 4) rfl (nI_1 _) (by decide) rfl ?_
              refine sw_goto (pc := 65) (tgt := 8) hc dX8_law_65 (by decide) ?_
              have h_16 : nI (10 * a + i) = rLaw σ a d (i + 1) := by first | with_reducible rfl | (subst ef; first | with_reducible rfl | (simp [-Int32.not_le, -Int32.not_lt, rLaw, st2_a, hib, c_1, n_3, c_1', c_4, c_4', c_8, c_8', c_12, c_12']; done) | (((try simp only [st2_a, Nat.reduceBEq, Bool.false_and, Bool.true_and, beq_self_eq_true, cond_false, cond_true] at hib c_1 n_3 c_1' c_4 c_4' c_8 c_8' c_12 c_12') <;> simp [-Int32.not_le, -Int32.not_lt, rLaw, st2_a, hib, c_1, n_3, c_1', c_4, c_4', c_8, c_8', c_12, c_12']); done) | ((try simp only [rLaw]); (repeat' split) <;> simp_all [-Int32.not_le, -Int32.not_lt, st2_a, rGap, rWall]; done))
              have h_17 : (i + 1) ≤ iN (σ 11 a) := by omega
              have h_18 : (iN (σ 11 a) - (i + 1)) < n8 := by omega
              exact sw_sub (ks := [2, 3, 4, 1, 0]) rfl (ih8 (i + 1) (nI (10 * a + i)) h_18 h_16 h_17)
  refine sw_iconst (pc := 0) (v := (-1)) hc dX8_law_0 (by decide) ?_
  refine sw_istore_n (pc := 1) hc dX8_law_1 rfl (by decide) (lv' := [(3, .int (-1)), (0, .ref m0), (1, .int (nI a)), (2, .int d)]) rfl ?_
  refine sw_bipush (pc := 2) (v := 10) hc dX8_law_2 (by decide) ?_
  refine sw_iload_n (pc := 4) hc dX8_law_4 rfl 2 rfl ?_
  refine sw_imul (pc := 5) hc dX8_law_5 ?_
  refine sw_st (st' := [.int (nI (10 * a))]) (congrArg (fun z => ([.int z] : List Value)) (pk_mul 10 a : 10 * (nI a) = nI (10 * a))) ?_
  refine sw_istore (pc := 6) hc dX8_law_6 (by decide) (lv' := [(4, .int (nI (10 * a))), (3, .int (-1)), (0, .ref m0), (1, .int (nI a)), (2, .int d)]) rfl ?_
  have h_19 : (-1) = rLaw σ a d 0 := by first | with_reducible rfl | (first | with_reducible rfl | (simp [-Int32.not_le, -Int32.not_lt, rLaw, st2_a]; done)  | ((try simp only [rLaw]); (repeat' split) <;> simp_all [-Int32.not_le, -Int32.not_lt, st2_a, rGap, rWall]; done))
  have h_20 : 0 ≤ iN (σ 11 a) := by omega
  exact sw_sub (ks := [2, 3, 4, 1, 0]) rfl (K_8 _ 0 (-1) (Nat.lt_succ_self _) h_19 h_20)

set_option maxHeartbeats 4000000 in
set_option maxRecDepth 100000 in
theorem c_X8_refused (l : Launch) (g : sg_G) (C : Nat → Option va_E) (m0 : Nat) (q : Nat → Nat) (σ : Mem) (k : Nat) (hN : mN m0 q) (hr : rRn σ k) : sg_Met l yX8_refused cX8_refused 3 (some .boolean) 1 24 0 0 g [.ref m0, .int (nI k)] (sg_ov C (mW g m0 q σ)) (fun v C' => v = some (.int (bI (rRef σ k))) ∧ C' = sg_ov C (mW g m0 q σ)) sg_no := by
  refine sg_ofW (by decide) rfl ?_ (Nat.le_of_ble_eq_true rfl)
  intro p e s m below meth c hc hlk hrt hin2 htb
  have hc : sg_Cx p s m _ c cX8_refused 3 RX8 g := hc
  show sg_W p l e _ s m _ below meth c 3 g 0 0 _ (sg_ov C (mW g m0 q σ)) 0 [(0, .ref m0), (1, .int (nI k))] []
  refine sw_aload_n (pc := 0) hc dX8_refused_0 rfl 0 rfl ?_
  refine sw_aload_n (pc := 1) hc dX8_refused_1 rfl 0 rfl ?_
  refine sw_get (pc := 2) (v := .ref (q 19)) hc fl_RX8_58 (mW_o hN) rfl dX8_refused_2 ?_
  refine sw_iload_n (pc := 5) hc dX8_refused_5 rfl 1 rfl ?_
  refine sw_iald (pc := 6) (j := k) hc (mW_a19 hN) rfl hr.1 (by decide) dX8_refused_6 ?_
  refine sw_st (st' := [.int (nI (iN (σ 19 k))), .ref m0]) (congrArg (fun z => ([.int z, .ref m0] : List Value)) (hr.2.1.1 : σ 19 k = nI (iN (σ 19 k)))) ?_
  refine sw_aload_n (pc := 7) hc dX8_refused_7 rfl 0 rfl ?_
  refine sw_get (pc := 8) (v := .ref (q 20)) hc fl_RX8_61 (mW_o hN) rfl dX8_refused_8 ?_
  refine sw_iload_n (pc := 11) hc dX8_refused_11 rfl 1 rfl ?_
  refine sw_iald (pc := 12) (j := k) hc (mW_a20 hN) rfl hr.1 (by decide) dX8_refused_12 ?_
  refine sw_callV (pc := 13) (rest := []) hc (c_X8_law l g C m0 q σ (iN (σ 19 k)) (σ 20 k) hN (hr.2.1.2) (hr.2.2 _)) md_X8_law ml_RX8_191 im_X8_law sl_X8_law (mW_o hN) rfl rfl rfl (Nat.le_of_ble_eq_true rfl) dX8_refused_13 ⟨Nat.le_of_ble_eq_true rfl, Nat.le_of_ble_eq_true rfl, Nat.le_of_ble_eq_true rfl, Nat.le_of_ble_eq_true rfl⟩ (fun v C' hP => ?_) (fun _ _ h => h.elim)
  obtain ⟨rfl, rfl⟩ := hP
  refine sw_st (st' := [.int (rLaw σ (iN (σ 19 k)) (σ 20 k) (iN (σ 11 (iN (σ 19 k)))))]) rfl ?_
  refine sw_st (st' := [.int (rLawI σ k)]) rfl ?_
  refine sw_istore_n (pc := 16) hc dX8_refused_16 rfl (by decide) (lv' := [(2, .int (rLawI σ k)), (0, .ref m0), (1, .int (nI k))]) rfl ?_
  refine sw_iload_n (pc := 17) hc dX8_refused_17 rfl 0 rfl ?_
  refine sw_if_lt (pc := 18) (tgt := 71) hc dX8_refused_18 (by decide) (fun c_1 => ?_) (fun c_1 => ?_)
  ·
    have c_1' := Int32.not_le.mpr c_1
    refine sw_iconst (pc := 71) (v := 0) hc dX8_refused_71 (by decide) ?_
    have h_2 : 0 = bI (rRef σ k) := by first | with_reducible rfl | (first | with_reducible rfl | (simp [-Int32.not_le, -Int32.not_lt, bI, st2_a, c_1, c_1']; done) | (((try simp only [st2_a, Nat.reduceBEq, Bool.false_and, Bool.true_and, beq_self_eq_true, cond_false, cond_true] at c_1 c_1') <;> simp [-Int32.not_le, -Int32.not_lt, bI, st2_a, c_1, c_1']); done) | ((try simp only [bI]); (repeat' split) <;> simp_all [-Int32.not_le, -Int32.not_lt, st2_a, rGap, rWall]; done))
    exact sw_iret (pc := 72) hc hlk hrt rfl ⟨(congrArg (fun z => some (Value.int z)) h_2), rfl⟩ (Nat.le_of_ble_eq_true rfl) (Nat.le_of_ble_eq_true rfl) dX8_refused_72
  ·
    have c_1' := Int32.not_lt.mp c_1
    obtain ⟨ff, ff2⟩ := rLaw_x (x := rLawI σ k) hr.2.1.2 (by have := (hr.2.2 (iN (σ 19 k))).2; omega) rfl c_1
    refine sw_aload_n (pc := 21) hc dX8_refused_21 rfl 1 rfl ?_
    refine sw_get (pc := 22) (v := .ref (q 25)) hc fl_RX8_76 (mW_o hN) rfl dX8_refused_22 ?_
    refine sw_iload_n (pc := 25) hc dX8_refused_25 rfl 2 rfl ?_
    refine sw_iald (pc := 26) (j := k) hc (mW_a25 hN) rfl hr.1 (by decide) dX8_refused_26 ?_
    refine sw_aload_n (pc := 27) hc dX8_refused_27 rfl 1 rfl ?_
    refine sw_get (pc := 28) (v := .ref (q 13)) hc fl_RX8_43 (mW_o hN) rfl dX8_refused_28 ?_
    refine sw_iload_n (pc := 31) hc dX8_refused_31 rfl 0 rfl ?_
    refine sw_iald (pc := 32) (j := (iN (rLawI σ k))) hc (mW_a13 hN) ff ff2 (by decide) dX8_refused_32 ?_
    refine sw_iand (pc := 33) hc dX8_refused_33 ?_
    refine sw_if_gt (pc := 34) (tgt := 67) hc dX8_refused_34 (by decide) (fun c_3 => ?_) (fun c_3 => ?_)
    ·
      have c_3' := Int32.not_le.mpr c_3
      refine sw_iconst (pc := 67) (v := 1) hc dX8_refused_67 (by decide) ?_
      refine sw_goto (pc := 68) (tgt := 72) hc dX8_refused_68 (by decide) ?_
      have h_4 : 1 = bI (rRef σ k) := by first | with_reducible rfl | (first | with_reducible rfl | (simp [-Int32.not_le, -Int32.not_lt, bI, st2_a, c_1, c_1', c_3, c_3']; done) | (((try simp only [st2_a, Nat.reduceBEq, Bool.false_and, Bool.true_and, beq_self_eq_true, cond_false, cond_true] at c_1 c_1' c_3 c_3') <;> simp [-Int32.not_le, -Int32.not_lt, bI, st2_a, c_1, c_1', c_3, c_3']); done) | ((try simp only [bI]); (repeat' split) <;> simp_all [-Int32.not_le, -Int32.not_lt, st2_a, rGap, rWall]; done))
      exact sw_iret (pc := 72) hc hlk hrt rfl ⟨(congrArg (fun z => some (Value.int z)) h_4), rfl⟩ (Nat.le_of_ble_eq_true rfl) (Nat.le_of_ble_eq_true rfl) dX8_refused_72
    ·
      have c_3' := Int32.not_lt.mp c_3
      refine sw_aload_n (pc := 37) hc dX8_refused_37 rfl 1 rfl ?_
      refine sw_get (pc := 38) (v := .ref (q 23)) hc fl_RX8_70 (mW_o hN) rfl dX8_refused_38 ?_
      refine sw_iload_n (pc := 41) hc dX8_refused_41 rfl 2 rfl ?_
      refine sw_iald (pc := 42) (j := k) hc (mW_a23 hN) rfl hr.1 (by decide) dX8_refused_42 ?_
      refine sw_aload_n (pc := 43) hc dX8_refused_43 rfl 1 rfl ?_
      refine sw_get (pc := 44) (v := .ref (q 14)) hc fl_RX8_46 (mW_o hN) rfl dX8_refused_44 ?_
      refine sw_iload_n (pc := 47) hc dX8_refused_47 rfl 0 rfl ?_
      refine sw_iald (pc := 48) (j := (iN (rLawI σ k))) hc (mW_a14 hN) ff ff2 (by decide) dX8_refused_48 ?_
      refine sw_icmp_lt (pc := 49) (tgt := 67) hc dX8_refused_49 (by decide) (fun c_5 => ?_) (fun c_5 => ?_)
      ·
        have c_5' := Int32.not_le.mpr c_5
        refine sw_iconst (pc := 67) (v := 1) hc dX8_refused_67 (by decide) ?_
        refine sw_goto (pc := 68) (tgt := 72) hc dX8_refused_68 (by decide) ?_
        have h_6 : 1 = bI (rRef σ k) := by first | with_reducible rfl | (first | with_reducible rfl | (simp [-Int32.not_le, -Int32.not_lt, bI, st2_a, c_1, c_1', c_3, c_3', c_5, c_5']; done) | (((try simp only [st2_a, Nat.reduceBEq, Bool.false_and, Bool.true_and, beq_self_eq_true, cond_false, cond_true] at c_1 c_1' c_3 c_3' c_5 c_5') <;> simp [-Int32.not_le, -Int32.not_lt, bI, st2_a, c_1, c_1', c_3, c_3', c_5, c_5']); done) | ((try simp only [bI]); (repeat' split) <;> simp_all [-Int32.not_le, -Int32.not_lt, st2_a, rGap, rWall]; done))
        exact sw_iret (pc := 72) hc hlk hrt rfl ⟨(congrArg (fun z => some (Value.int z)) h_6), rfl⟩ (Nat.le_of_ble_eq_true rfl) (Nat.le_of_ble_eq_true rfl) dX8_refused_72
      ·
        have c_5' := Int32.not_lt.mp c_5
        refine sw_aload_n (pc := 52) hc dX8_refused_52 rfl 1 rfl ?_
        refine sw_get (pc := 53) (v := .ref (q 24)) hc fl_RX8_73 (mW_o hN) rfl dX8_refused_53 ?_
        refine sw_iload_n (pc := 56) hc dX8_refused_56 rfl 2 rfl ?_
        refine sw_iald (pc := 57) (j := k) hc (mW_a24 hN) rfl hr.1 (by decide) dX8_refused_57 ?_
        refine sw_aload_n (pc := 58) hc dX8_refused_58 rfl 1 rfl ?_
        refine sw_get (pc := 59) (v := .ref (q 15)) hc fl_RX8_49 (mW_o hN) rfl dX8_refused_59 ?_
        refine sw_iload_n (pc := 62) hc dX8_refused_62 rfl 0 rfl ?_
        refine sw_iald (pc := 63) (j := (iN (rLawI σ k))) hc (mW_a15 hN) ff ff2 (by decide) dX8_refused_63 ?_
        refine sw_icmp_le (pc := 64) (tgt := 71) hc dX8_refused_64 (by decide) (fun c_7 => ?_) (fun c_7 => ?_)
        ·
          have c_7' := Int32.not_lt.mpr c_7
          refine sw_iconst (pc := 71) (v := 0) hc dX8_refused_71 (by decide) ?_
          have h_8 : 0 = bI (rRef σ k) := by first | with_reducible rfl | (first | with_reducible rfl | (simp [-Int32.not_le, -Int32.not_lt, bI, st2_a, c_1, c_1', c_3, c_3', c_5, c_5', c_7, c_7']; done) | (((try simp only [st2_a, Nat.reduceBEq, Bool.false_and, Bool.true_and, beq_self_eq_true, cond_false, cond_true] at c_1 c_1' c_3 c_3' c_5 c_5' c_7 c_7') <;> simp [-Int32.not_le, -Int32.not_lt, bI, st2_a, c_1, c_1', c_3, c_3', c_5, c_5', c_7, c_7']); done) | ((try simp only [bI]); (repeat' split) <;> simp_all [-Int32.not_le, -Int32.not_lt, st2_a, rGap, rWall]; done))
          exact sw_iret (pc := 72) hc hlk hrt rfl ⟨(congrArg (fun z => some (Value.int z)) h_8), rfl⟩ (Nat.le_of_ble_eq_true rfl) (Nat.le_of_ble_eq_true rfl) dX8_refused_72
        ·
          have c_7' := Int32.not_le.mp c_7
          refine sw_iconst (pc := 67) (v := 1) hc dX8_refused_67 (by decide) ?_
          refine sw_goto (pc := 68) (tgt := 72) hc dX8_refused_68 (by decide) ?_
          have h_9 : 1 = bI (rRef σ k) := by first | with_reducible rfl | (first | with_reducible rfl | (simp [-Int32.not_le, -Int32.not_lt, bI, st2_a, c_1, c_1', c_3, c_3', c_5, c_5', c_7, c_7']; done) | (((try simp only [st2_a, Nat.reduceBEq, Bool.false_and, Bool.true_and, beq_self_eq_true, cond_false, cond_true] at c_1 c_1' c_3 c_3' c_5 c_5' c_7 c_7') <;> simp [-Int32.not_le, -Int32.not_lt, bI, st2_a, c_1, c_1', c_3, c_3', c_5, c_5', c_7, c_7']); done) | ((try simp only [bI]); (repeat' split) <;> simp_all [-Int32.not_le, -Int32.not_lt, st2_a, rGap, rWall]; done))
          exact sw_iret (pc := 72) hc hlk hrt rfl ⟨(congrArg (fun z => some (Value.int z)) h_9), rfl⟩ (Nat.le_of_ble_eq_true rfl) (Nat.le_of_ble_eq_true rfl) dX8_refused_72

set_option maxHeartbeats 4000000 in
set_option maxRecDepth 100000 in
theorem c_X8_counts (l : Launch) (g : sg_G) (C : Nat → Option va_E) (m0 : Nat) (q : Nat → Nat) (σ : Mem) (k : Nat) (hN : mN m0 q) (hr : rRn σ k) : sg_Met l yX8_counts cX8_counts 2 (some .boolean) 2 46 0 0 g [.ref m0, .int (nI k)] (sg_ov C (mW g m0 q σ)) (fun v C' => v = some (.int (bI (rCnt σ k))) ∧ C' = sg_ov C (mW g m0 q σ)) sg_no := by
  refine sg_ofW (by decide) rfl ?_ (Nat.le_of_ble_eq_true rfl)
  intro p e s m below meth c hc hlk hrt hin2 htb
  have hc : sg_Cx p s m _ c cX8_counts 2 RX8 g := hc
  show sg_W p l e _ s m _ below meth c 2 g 0 0 _ (sg_ov C (mW g m0 q σ)) 0 [(0, .ref m0), (1, .int (nI k))] []
  refine sw_aload_n (pc := 0) hc dX8_counts_0 rfl 0 rfl ?_
  refine sw_get (pc := 1) (v := .ref (q 21)) hc fl_RX8_64 (mW_o hN) rfl dX8_counts_1 ?_
  refine sw_iload_n (pc := 4) hc dX8_counts_4 rfl 1 rfl ?_
  refine sw_iald (pc := 5) (j := k) hc (mW_a21 hN) rfl hr.1 (by decide) dX8_counts_5 ?_
  refine sw_if_ne (pc := 6) (tgt := 21) hc dX8_counts_6 (by decide) (fun c_1 => ?_) (fun c_1 => ?_)
  ·
    refine sw_iconst (pc := 21) (v := 0) hc dX8_counts_21 (by decide) ?_
    have h_2 : 0 = bI (rCnt σ k) := by first | with_reducible rfl | (first | with_reducible rfl | (simp [-Int32.not_le, -Int32.not_lt, bI, st2_a, c_1]; done) | (((try simp only [st2_a, Nat.reduceBEq, Bool.false_and, Bool.true_and, beq_self_eq_true, cond_false, cond_true] at c_1) <;> simp [-Int32.not_le, -Int32.not_lt, bI, st2_a, c_1]); done) | ((try simp only [bI]); (repeat' split) <;> simp_all [-Int32.not_le, -Int32.not_lt, st2_a, rGap, rWall]; done))
    exact sw_iret (pc := 22) hc hlk hrt rfl ⟨(congrArg (fun z => some (Value.int z)) h_2), rfl⟩ (Nat.le_of_ble_eq_true rfl) (Nat.le_of_ble_eq_true rfl) dX8_counts_22
  ·
    refine sw_aload_n (pc := 9) hc dX8_counts_9 rfl 0 rfl ?_
    refine sw_iload_n (pc := 10) hc dX8_counts_10 rfl 1 rfl ?_
    refine sw_callV (pc := 11) (rest := []) hc (c_X8_refused l g C m0 q σ k hN (hr)) md_X8_refused ml_RX8_194 im_X8_refused sl_X8_refused (mW_o hN) rfl rfl rfl (Nat.le_of_ble_eq_true rfl) dX8_counts_11 ⟨Nat.le_of_ble_eq_true rfl, Nat.le_of_ble_eq_true rfl, Nat.le_of_ble_eq_true rfl, Nat.le_of_ble_eq_true rfl⟩ (fun v C' hP => ?_) (fun _ _ h => h.elim)
    obtain ⟨rfl, rfl⟩ := hP
    refine sw_st (st' := [.int (bI (rRef σ k))]) rfl ?_
    refine sw_if_ne (pc := 14) (tgt := 21) hc dX8_counts_14 (by decide) (fun c_3 => ?_) (fun c_3 => ?_)
    ·
      have p_4 : rRef σ k := bI_n c_3
      refine sw_iconst (pc := 21) (v := 0) hc dX8_counts_21 (by decide) ?_
      have h_5 : 0 = bI (rCnt σ k) := by first | with_reducible rfl | (first | with_reducible rfl | (simp [-Int32.not_le, -Int32.not_lt, bI, st2_a, c_1, p_4]; done) | (((try simp only [st2_a, Nat.reduceBEq, Bool.false_and, Bool.true_and, beq_self_eq_true, cond_false, cond_true] at c_1 p_4) <;> simp [-Int32.not_le, -Int32.not_lt, bI, st2_a, c_1, p_4]); done) | ((try simp only [bI]); (repeat' split) <;> simp_all [-Int32.not_le, -Int32.not_lt, st2_a, rGap, rWall]; done))
      exact sw_iret (pc := 22) hc hlk hrt rfl ⟨(congrArg (fun z => some (Value.int z)) h_5), rfl⟩ (Nat.le_of_ble_eq_true rfl) (Nat.le_of_ble_eq_true rfl) dX8_counts_22
    ·
      have p_6 : ¬ (rRef σ k) := bI_0 c_3
      refine sw_iconst (pc := 17) (v := 1) hc dX8_counts_17 (by decide) ?_
      refine sw_goto (pc := 18) (tgt := 22) hc dX8_counts_18 (by decide) ?_
      have h_7 : 1 = bI (rCnt σ k) := by first | with_reducible rfl | (first | with_reducible rfl | (simp [-Int32.not_le, -Int32.not_lt, bI, st2_a, c_1, p_6]; done) | (((try simp only [st2_a, Nat.reduceBEq, Bool.false_and, Bool.true_and, beq_self_eq_true, cond_false, cond_true] at c_1 p_6) <;> simp [-Int32.not_le, -Int32.not_lt, bI, st2_a, c_1, p_6]); done) | ((try simp only [bI]); (repeat' split) <;> simp_all [-Int32.not_le, -Int32.not_lt, st2_a, rGap, rWall]; done))
      exact sw_iret (pc := 22) hc hlk hrt rfl ⟨(congrArg (fun z => some (Value.int z)) h_7), rfl⟩ (Nat.le_of_ble_eq_true rfl) (Nat.le_of_ble_eq_true rfl) dX8_counts_22

set_option maxHeartbeats 4000000 in
set_option maxRecDepth 100000 in
theorem c_X8_rule (l : Launch) (g : sg_G) (C : Nat → Option va_E) (m0 : Nat) (q : Nat → Nat) (σ : Mem) (x : Int32) (d : Int32) (f : Int32) (pu : Int32) (j : Int32) (hN : mN m0 q) (hWF : rWF σ) : sg_Met l yX8_rule cX8_rule 10 (some .int) 2 46 0 0 g [.ref m0, .int x, .int d, .int f, .int pu, .int j] (sg_ov C (mW g m0 q σ)) (fun v C' => v = some (.int (vRule σ x d f pu j)) ∧ C' = sg_ov C (mW g m0 q (fRule σ x d f pu j))) sg_no := by
  refine sg_ofW (by decide) rfl ?_ (Nat.le_of_ble_eq_true rfl)
  intro p e s m below meth c hc hlk hrt hin2 htb
  have hc : sg_Cx p s m _ c cX8_rule 10 RX8 g := hc
  show sg_W p l e _ s m _ below meth c 10 g 0 0 _ (sg_ov C (mW g m0 q σ)) 0 [(0, .ref m0), (1, .int x), (2, .int d), (3, .int f), (4, .int pu), (5, .int j)] []
  have K_164 : ∀ (n164 : Nat) (kk : Nat) (v : Int32) (hn164 : (iN (σ 26 0) - kk) < n164) (ev : v = rRfC (oRule (st2 σ 42 0 (kRule σ x d f pu j)) x d f pu j) x kk) (k1 : ¬ 0 < kRule σ x d f pu j) (hkb : kk ≤ iN (σ 26 0)) (hW : rWF (oRule (st2 σ 42 0 (kRule σ x d f pu j)) x d f pu j)), sg_W p l e (sg_rm 2 46 0 0) s m ([.ref m0, .int x, .int d, .int f, .int pu, .int j] : List Value).toArray below meth c 10 g 0 0 (sg_End below g (fun v C' => v = some (.int (vRule σ x d f pu j)) ∧ C' = sg_ov C (mW g m0 q (fRule σ x d f pu j))) sg_no ([.ref m0, .int x, .int d, .int f, .int pu, .int j] : List Value).toArray s 0 0) (sg_ov C (mW g m0 q (oRule (st2 σ 42 0 (kRule σ x d f pu j)) x d f pu j))) 164 [(0, .ref m0), (1, .int x), (8, .int v), (9, .int (nI kk))] [] := by
    intro n164
    induction n164 with
    | zero => intro kk v hn164 ev k1 hkb hW; exact absurd hn164 (Nat.not_lt_zero _)
    | succ n164 ih164 =>
      intro kk v hn164 ev k1 hkb hW
      have h26 := hWF.2.2.2.1.2
      refine sw_iload (pc := 164) hc dX8_rule_164 3 rfl ?_
      refine sw_aload_n (pc := 166) hc dX8_rule_166 rfl 0 rfl ?_
      refine sw_get (pc := 167) (v := .int ((oRule (st2 σ 42 0 (kRule σ x d f pu j)) x d f pu j) 26 0)) hc fl_RX8_105 (mW_o hN) rfl dX8_rule_167 ?_
      refine sw_st (st' := [.int (nI (iN (σ 26 0))), .int (nI kk)]) (congrArg (fun z => ([.int z, .int (nI kk)] : List Value)) (hWF.2.2.2.1.1 : (oRule (st2 σ 42 0 (kRule σ x d f pu j)) x d f pu j) 26 0 = nI (iN (σ 26 0)))) ?_
      refine sw_icmp_ge (pc := 170) (tgt := 209) hc dX8_rule_170 (by decide) (fun c_1 => ?_) (fun c_1 => ?_)
      ·
        have n_2 : (iN (σ 26 0)) ≤ kk := (nI_leI (a := (iN (σ 26 0))) (b := kk) (by omega) (by omega)).mp c_1
        have c_1' := Int32.not_lt.mpr c_1
        refine sw_iload (pc := 209) hc dX8_rule_209 2 rfl ?_
        have hz : v = vRule σ x d f pu j := by rw [ev, show kk = iN (σ 26 0) by omega]; exact (if_neg k1).symm
        have hz2 : oRule (st2 σ 42 0 (kRule σ x d f pu j)) x d f pu j = fRule σ x d f pu j := (if_neg k1).symm
        exact sw_iret (pc := 211) hc hlk hrt rfl ⟨congrArg (fun z => some (Value.int z)) hz, congrArg (fun z => sg_ov C (mW g m0 q z)) hz2⟩ (Nat.le_of_ble_eq_true rfl) (Nat.le_of_ble_eq_true rfl) dX8_rule_211
      ·
        have n_3 : ¬ ((iN (σ 26 0)) ≤ kk) := fun z => c_1 ((nI_leI (a := (iN (σ 26 0))) (b := kk) (by omega) (by omega)).mpr z)
        have c_1' := Int32.not_le.mp c_1
        refine sw_iload (pc := 173) hc dX8_rule_173 2 rfl ?_
        refine sw_aload_n (pc := 175) hc dX8_rule_175 rfl 0 rfl ?_
        refine sw_get (pc := 176) (v := .ref (q 19)) hc fl_RX8_58 (mW_o hN) rfl dX8_rule_176 ?_
        refine sw_iload (pc := 179) hc dX8_rule_179 3 rfl ?_
        refine sw_iald (pc := 181) (j := kk) hc (mW_a19 hN) rfl (by omega) (by decide) dX8_rule_181 ?_
        refine sw_iload_n (pc := 182) hc dX8_rule_182 rfl 1 rfl ?_
        refine sw_icmp_ne (pc := 183) (tgt := 199) hc dX8_rule_183 (by decide) (fun c_4 => ?_) (fun c_4 => ?_)
        ·
          refine sw_iconst (pc := 199) (v := 0) hc dX8_rule_199 (by decide) ?_
          refine sw_iadd (pc := 200) hc dX8_rule_200 ?_
          refine sw_istore (pc := 201) hc dX8_rule_201 (by decide) (lv' := [(8, .int (v + 0)), (0, .ref m0), (1, .int x), (9, .int (nI kk))]) rfl ?_
          refine sw_iinc (pc := 203) (v := nI (kk + 1)) (lv' := [(9, .int (nI (kk + 1))), (8, .int (v + 0)), (0, .ref m0), (1, .int x)]) hc dX8_rule_203 (k := 3) rfl (nI_1 _) (by decide) rfl ?_
          refine sw_goto (pc := 206) (tgt := 164) hc dX8_rule_206 (by decide) ?_
          have h_5 : v + 0 = rRfC (oRule (st2 σ 42 0 (kRule σ x d f pu j)) x d f pu j) x (kk + 1) := by first | with_reducible rfl | (subst ev; first | with_reducible rfl | (simp [-Int32.not_le, -Int32.not_lt, rRfC, st2_a, k1, hkb, hW, c_1, n_3, c_1', c_4]; done) | (((try simp only [st2_a, Nat.reduceBEq, Bool.false_and, Bool.true_and, beq_self_eq_true, cond_false, cond_true] at k1 hkb hW c_1 n_3 c_1' c_4) <;> simp [-Int32.not_le, -Int32.not_lt, rRfC, st2_a, k1, hkb, hW, c_1, n_3, c_1', c_4]); done) | ((try simp only [rRfC]); (repeat' split) <;> simp_all [-Int32.not_le, -Int32.not_lt, st2_a, rGap, rWall]; done))
          have h_6 : ¬ 0 < kRule σ x d f pu j := by exact k1
          have h_7 : (kk + 1) ≤ iN (σ 26 0) := by omega
          have h_8 : rWF (oRule (st2 σ 42 0 (kRule σ x d f pu j)) x d f pu j) := by exact hW
          have h_9 : (iN (σ 26 0) - (kk + 1)) < n164 := by omega
          exact sw_sub (ks := [2, 3, 1, 0]) rfl (ih164 (kk + 1) (v + 0) h_9 h_5 h_6 h_7 h_8)
        ·
          refine sw_aload_n (pc := 186) hc dX8_rule_186 rfl 0 rfl ?_
          refine sw_iload (pc := 187) hc dX8_rule_187 3 rfl ?_
          refine sw_callV (pc := 189) (rest := [.int v]) hc (c_X8_refused l g C m0 q (oRule (st2 σ 42 0 (kRule σ x d f pu j)) x d f pu j) kk hN (hW.rn (show kk < iN (σ 26 0) by omega))) md_X8_refused ml_RX8_194 im_X8_refused sl_X8_refused (mW_o hN) rfl rfl rfl (Nat.le_of_ble_eq_true rfl) dX8_rule_189 ⟨Nat.le_of_ble_eq_true rfl, Nat.le_of_ble_eq_true rfl, Nat.le_of_ble_eq_true rfl, Nat.le_of_ble_eq_true rfl⟩ (fun v C' hP => ?_) (fun _ _ h => h.elim)
          obtain ⟨rfl, rfl⟩ := hP
          refine sw_st (st' := [.int (bI (rRef (oRule (st2 σ 42 0 (kRule σ x d f pu j)) x d f pu j) kk)), .int v]) rfl ?_
          refine sw_if_eq (pc := 192) (tgt := 199) hc dX8_rule_192 (by decide) (fun c_10 => ?_) (fun c_10 => ?_)
          ·
            have p_11 : ¬ (rRef (oRule (st2 σ 42 0 (kRule σ x d f pu j)) x d f pu j) kk) := bI_0 c_10
            refine sw_iconst (pc := 199) (v := 0) hc dX8_rule_199 (by decide) ?_
            refine sw_iadd (pc := 200) hc dX8_rule_200 ?_
            refine sw_istore (pc := 201) hc dX8_rule_201 (by decide) (lv' := [(8, .int (v + 0)), (0, .ref m0), (1, .int x), (9, .int (nI kk))]) rfl ?_
            refine sw_iinc (pc := 203) (v := nI (kk + 1)) (lv' := [(9, .int (nI (kk + 1))), (8, .int (v + 0)), (0, .ref m0), (1, .int x)]) hc dX8_rule_203 (k := 3) rfl (nI_1 _) (by decide) rfl ?_
            refine sw_goto (pc := 206) (tgt := 164) hc dX8_rule_206 (by decide) ?_
            have h_12 : v + 0 = rRfC (oRule (st2 σ 42 0 (kRule σ x d f pu j)) x d f pu j) x (kk + 1) := by first | with_reducible rfl | (subst ev; first | with_reducible rfl | (simp [-Int32.not_le, -Int32.not_lt, rRfC, st2_a, k1, hkb, hW, c_1, n_3, c_1', c_4, p_11]; done) | (((try simp only [st2_a, Nat.reduceBEq, Bool.false_and, Bool.true_and, beq_self_eq_true, cond_false, cond_true] at k1 hkb hW c_1 n_3 c_1' c_4 p_11) <;> simp [-Int32.not_le, -Int32.not_lt, rRfC, st2_a, k1, hkb, hW, c_1, n_3, c_1', c_4, p_11]); done) | ((try simp only [rRfC]); (repeat' split) <;> simp_all [-Int32.not_le, -Int32.not_lt, st2_a, rGap, rWall]; done))
            have h_13 : ¬ 0 < kRule σ x d f pu j := by exact k1
            have h_14 : (kk + 1) ≤ iN (σ 26 0) := by omega
            have h_15 : rWF (oRule (st2 σ 42 0 (kRule σ x d f pu j)) x d f pu j) := by exact hW
            have h_16 : (iN (σ 26 0) - (kk + 1)) < n164 := by omega
            exact sw_sub (ks := [2, 3, 1, 0]) rfl (ih164 (kk + 1) (v + 0) h_16 h_12 h_13 h_14 h_15)
          ·
            have p_17 : rRef (oRule (st2 σ 42 0 (kRule σ x d f pu j)) x d f pu j) kk := bI_n c_10
            refine sw_iconst (pc := 195) (v := 1) hc dX8_rule_195 (by decide) ?_
            refine sw_goto (pc := 196) (tgt := 200) hc dX8_rule_196 (by decide) ?_
            refine sw_iadd (pc := 200) hc dX8_rule_200 ?_
            refine sw_istore (pc := 201) hc dX8_rule_201 (by decide) (lv' := [(8, .int (v + 1)), (0, .ref m0), (1, .int x), (9, .int (nI kk))]) rfl ?_
            refine sw_iinc (pc := 203) (v := nI (kk + 1)) (lv' := [(9, .int (nI (kk + 1))), (8, .int (v + 1)), (0, .ref m0), (1, .int x)]) hc dX8_rule_203 (k := 3) rfl (nI_1 _) (by decide) rfl ?_
            refine sw_goto (pc := 206) (tgt := 164) hc dX8_rule_206 (by decide) ?_
            have h_18 : v + 1 = rRfC (oRule (st2 σ 42 0 (kRule σ x d f pu j)) x d f pu j) x (kk + 1) := by first | with_reducible rfl | (subst ev; first | with_reducible rfl | (simp [-Int32.not_le, -Int32.not_lt, rRfC, st2_a, k1, hkb, hW, c_1, n_3, c_1', c_4, p_17]; done) | (((try simp only [st2_a, Nat.reduceBEq, Bool.false_and, Bool.true_and, beq_self_eq_true, cond_false, cond_true] at k1 hkb hW c_1 n_3 c_1' c_4 p_17) <;> simp [-Int32.not_le, -Int32.not_lt, rRfC, st2_a, k1, hkb, hW, c_1, n_3, c_1', c_4, p_17]); done) | ((try simp only [rRfC]); (repeat' split) <;> simp_all [-Int32.not_le, -Int32.not_lt, st2_a, rGap, rWall]; done))
            have h_19 : ¬ 0 < kRule σ x d f pu j := by exact k1
            have h_20 : (kk + 1) ≤ iN (σ 26 0) := by omega
            have h_21 : rWF (oRule (st2 σ 42 0 (kRule σ x d f pu j)) x d f pu j) := by exact hW
            have h_22 : (iN (σ 26 0) - (kk + 1)) < n164 := by omega
            exact sw_sub (ks := [2, 3, 1, 0]) rfl (ih164 (kk + 1) (v + 1) h_22 h_18 h_19 h_20 h_21)
  have K_93 : sg_W p l e (sg_rm 2 46 0 0) s m ([.ref m0, .int x, .int d, .int f, .int pu, .int j] : List Value).toArray below meth c 10 g 0 0 (sg_End below g (fun v C' => v = some (.int (vRule σ x d f pu j)) ∧ C' = sg_ov C (mW g m0 q (fRule σ x d f pu j))) sg_no ([.ref m0, .int x, .int d, .int f, .int pu, .int j] : List Value).toArray s 0 0) (sg_ov C (mW g m0 q σ)) 93 [(0, .ref m0), (1, .int x), (2, .int d), (3, .int f), (4, .int pu), (5, .int j)] [.int (kRule σ x d f pu j), .ref m0] := by
    refine sw_callV (pc := 93) (rest := []) hc (c_X8_holds l g C m0 q σ (kRule σ x d f pu j) hN ) md_X8_holds ml_RX8_171 im_X8_holds sl_X8_holds (mW_o hN) rfl rfl rfl (Nat.le_of_ble_eq_true rfl) dX8_rule_93 ⟨Nat.le_of_ble_eq_true rfl, Nat.le_of_ble_eq_true rfl, Nat.le_of_ble_eq_true rfl, Nat.le_of_ble_eq_true rfl⟩ (fun v C' hP => ?_) (fun _ _ h => h.elim)
    obtain ⟨rfl, rfl⟩ := hP
    refine sw_st (st' := [.int (bI (0 < (kRule σ x d f pu j)))]) rfl ?_
    refine sw_if_eq (pc := 96) (tgt := 101) hc dX8_rule_96 (by decide) (fun c_23 => ?_) (fun c_23 => ?_)
    ·
      have p_24 : ¬ (0 < (kRule σ x d f pu j)) := bI_0 c_23
      have k0 := kRule_0 p_24; have k1 := p_24; obtain ⟨fx, fx2⟩ := rIn_x hWF.2.2.1 (by decide) k0.1; have fxb := hWF.2.2.1.2; have fr := isN_ne (hWF.2.2.2.2.2.2.2.2.2.1 (iN x)) (by decide) k0.2.2
      refine sw_bipush (pc := 101) (v := 10) hc dX8_rule_101 (by decide) ?_
      refine sw_iload_n (pc := 103) hc dX8_rule_103 rfl 1 rfl ?_
      refine sw_st (st' := [.int (nI (iN x)), .int 10]) (congrArg (fun z => ([.int z, .int 10] : List Value)) (fx : x = nI (iN x))) ?_
      refine sw_imul (pc := 104) hc dX8_rule_104 ?_
      refine sw_aload_n (pc := 105) hc dX8_rule_105 rfl 0 rfl ?_
      refine sw_get (pc := 106) (v := .ref (q 11)) hc fl_RX8_37 (mW_o hN) rfl dX8_rule_106 ?_
      refine sw_iload_n (pc := 109) hc dX8_rule_109 rfl 1 rfl ?_
      refine sw_iald (pc := 110) (j := (iN x)) hc (mW_a11 hN) fx (by omega) (by decide) dX8_rule_110 ?_
      refine sw_st (st' := [.int (nI (iN (σ 11 (iN x)))), .int (10 * (nI (iN x)))]) (congrArg (fun z => ([.int z, .int (10 * (nI (iN x)))] : List Value)) ((hWF.2.2.2.2.2.2.2.2.2.1 (iN x)).1 : (st2 σ 42 0 (kRule σ x d f pu j)) 11 (iN x) = nI (iN (σ 11 (iN x))))) ?_
      refine sw_iadd (pc := 111) hc dX8_rule_111 ?_
      refine sw_st (st' := [.int (nI (10 * iN x + iN (σ 11 (iN x))))]) (congrArg (fun z => ([.int z] : List Value)) (nI_ix 10 : (10 * (nI (iN x))) + (nI (iN (σ 11 (iN x)))) = nI (10 * iN x + iN (σ 11 (iN x))))) ?_
      refine sw_istore (pc := 112) hc dX8_rule_112 (by decide) (lv' := [(7, .int (nI (10 * iN x + iN (σ 11 (iN x))))), (0, .ref m0), (1, .int x), (2, .int d), (3, .int f), (4, .int pu), (5, .int j)]) rfl ?_
      refine sw_aload_n (pc := 114) hc dX8_rule_114 rfl 1 rfl ?_
      refine sw_get (pc := 115) (v := .ref (q 12)) hc fl_RX8_40 (mW_o hN) rfl dX8_rule_115 ?_
      refine sw_iload (pc := 118) hc dX8_rule_118 0 rfl ?_
      refine sw_iload_n (pc := 120) hc dX8_rule_120 rfl 3 rfl ?_
      refine sw_iast (pc := 121) (j := (10 * iN x + iN (σ 11 (iN x)))) hc (mW_a12 hN) rfl (by omega) (by decide) dX8_rule_121 ?_
      refine sw_eq (mW_s12 hN) ?_
      refine sw_aload_n (pc := 122) hc dX8_rule_122 rfl 1 rfl ?_
      refine sw_get (pc := 123) (v := .ref (q 13)) hc fl_RX8_43 (mW_o hN) rfl dX8_rule_123 ?_
      refine sw_iload (pc := 126) hc dX8_rule_126 0 rfl ?_
      refine sw_iload_n (pc := 128) hc dX8_rule_128 rfl 4 rfl ?_
      refine sw_iast (pc := 129) (j := (10 * iN x + iN (σ 11 (iN x)))) hc (mW_a13 hN) rfl (by omega) (by decide) dX8_rule_129 ?_
      refine sw_eq (mW_s13 hN) ?_
      refine sw_aload_n (pc := 130) hc dX8_rule_130 rfl 1 rfl ?_
      refine sw_get (pc := 131) (v := .ref (q 14)) hc fl_RX8_46 (mW_o hN) rfl dX8_rule_131 ?_
      refine sw_iload (pc := 134) hc dX8_rule_134 0 rfl ?_
      refine sw_iload (pc := 136) hc dX8_rule_136 5 rfl ?_
      refine sw_iast (pc := 138) (j := (10 * iN x + iN (σ 11 (iN x)))) hc (mW_a14 hN) rfl (by omega) (by decide) dX8_rule_138 ?_
      refine sw_eq (mW_s14 hN) ?_
      refine sw_aload_n (pc := 139) hc dX8_rule_139 rfl 1 rfl ?_
      refine sw_get (pc := 140) (v := .ref (q 15)) hc fl_RX8_49 (mW_o hN) rfl dX8_rule_140 ?_
      refine sw_iload (pc := 143) hc dX8_rule_143 0 rfl ?_
      refine sw_iload (pc := 145) hc dX8_rule_145 6 rfl ?_
      refine sw_iast (pc := 147) (j := (10 * iN x + iN (σ 11 (iN x)))) hc (mW_a15 hN) rfl (by omega) (by decide) dX8_rule_147 ?_
      refine sw_eq (mW_s15 hN) ?_
      refine sw_aload_n (pc := 148) hc dX8_rule_148 rfl 1 rfl ?_
      refine sw_get (pc := 149) (v := .ref (q 11)) hc fl_RX8_37 (mW_o hN) rfl dX8_rule_149 ?_
      refine sw_iload_n (pc := 152) hc dX8_rule_152 rfl 2 rfl ?_
      refine sw_dup2_11 (pc := 153) hc dX8_rule_153 rfl rfl ?_
      refine sw_iald (pc := 154) (j := (iN x)) hc (mW_a11 hN) fx (by omega) (by decide) dX8_rule_154 ?_
      refine sw_iconst (pc := 155) (v := 1) hc dX8_rule_155 (by decide) ?_
      refine sw_iadd (pc := 156) hc dX8_rule_156 ?_
      refine sw_iast (pc := 157) (j := (iN x)) hc (mW_a11 hN) fx (by omega) (by decide) dX8_rule_157 ?_
      refine sw_eq (mW_s11 hN) ?_
      refine sw_eq (C' := sg_ov C (mW g m0 q (oRule (st2 σ 42 0 (kRule σ x d f pu j)) x d f pu j))) rfl ?_
      refine sw_iconst (pc := 158) (v := 0) hc dX8_rule_158 (by decide) ?_
      refine sw_istore (pc := 159) hc dX8_rule_159 (by decide) (lv' := [(8, .int 0), (7, .int (nI (10 * iN x + iN (σ 11 (iN x))))), (0, .ref m0), (1, .int x), (2, .int d), (3, .int f), (4, .int pu), (5, .int j)]) rfl ?_
      refine sw_iconst (pc := 161) (v := 0) hc dX8_rule_161 (by decide) ?_
      refine sw_istore (pc := 162) hc dX8_rule_162 (by decide) (lv' := [(9, .int 0), (8, .int 0), (7, .int (nI (10 * iN x + iN (σ 11 (iN x))))), (0, .ref m0), (1, .int x), (2, .int d), (3, .int f), (4, .int pu), (5, .int j)]) rfl ?_
      have h_25 : 0 = rRfC (oRule (st2 σ 42 0 (kRule σ x d f pu j)) x d f pu j) x 0 := by first | with_reducible rfl | (first | with_reducible rfl | (simp [-Int32.not_le, -Int32.not_lt, rRfC, st2_a, p_24]; done) | (((try simp only [st2_a, Nat.reduceBEq, Bool.false_and, Bool.true_and, beq_self_eq_true, cond_false, cond_true] at p_24) <;> simp [-Int32.not_le, -Int32.not_lt, rRfC, st2_a, p_24]); done) | ((try simp only [rRfC]); (repeat' split) <;> simp_all [-Int32.not_le, -Int32.not_lt, st2_a, rGap, rWall]; done))
      have h_26 : ¬ 0 < kRule σ x d f pu j := by exact k1
      have h_27 : 0 ≤ iN (σ 26 0) := by omega
      have h_28 : rWF (oRule (st2 σ 42 0 (kRule σ x d f pu j)) x d f pu j) := by exact rWF_rule hWF.t ⟨(hWF.2.2.2.2.2.2.2.2.2.1 (iN x)).1, fr⟩
      exact sw_sub (ks := [3, 4, 1, 0]) rfl (K_164 _ 0 0 (Nat.lt_succ_self _) h_25 h_26 h_27 h_28)
    ·
      have p_29 : 0 < (kRule σ x d f pu j) := bI_n c_23
      refine sw_iconst (pc := 99) (v := (-1)) hc dX8_rule_99 (by decide) ?_
      have h_30 : (-1) = vRule σ x d f pu j := by (first | exact (if_pos (by assumption)).symm | exact (if_neg (by assumption)).symm)
      have h_31 : st2 σ 42 0 (kRule σ x d f pu j) = fRule σ x d f pu j := by (first | exact (if_pos (by assumption)).symm | exact (if_neg (by assumption)).symm)
      exact sw_iret (pc := 100) hc hlk hrt rfl ⟨(congrArg (fun z => some (Value.int z)) h_30), (congrArg (fun z => sg_ov C (mW g m0 q z)) h_31)⟩ (Nat.le_of_ble_eq_true rfl) (Nat.le_of_ble_eq_true rfl) dX8_rule_100
  have K_53 : sg_W p l e (sg_rm 2 46 0 0) s m ([.ref m0, .int x, .int d, .int f, .int pu, .int j] : List Value).toArray below meth c 10 g 0 0 (sg_End below g (fun v C' => v = some (.int (vRule σ x d f pu j)) ∧ C' = sg_ov C (mW g m0 q (fRule σ x d f pu j))) sg_no ([.ref m0, .int x, .int d, .int f, .int pu, .int j] : List Value).toArray s 0 0) (sg_ov C (mW g m0 q σ)) 53 [(0, .ref m0), (1, .int x), (2, .int d), (3, .int f), (4, .int pu), (5, .int j)] [.int (bI (rRngR d f pu j))] := by
    refine sw_istore (pc := 53) hc dX8_rule_53 (by decide) (lv' := [(6, .int (bI (rRngR d f pu j))), (0, .ref m0), (1, .int x), (2, .int d), (3, .int f), (4, .int pu), (5, .int j)]) rfl ?_
    refine sw_aload_n (pc := 55) hc dX8_rule_55 rfl 1 rfl ?_
    refine sw_aload_n (pc := 56) hc dX8_rule_56 rfl 1 rfl ?_
    refine sw_iload_n (pc := 57) hc dX8_rule_57 rfl 2 rfl ?_
    refine sw_callV (pc := 58) (rest := [.ref m0]) hc (c_X8_isCategory l g C m0 q σ x hN ) md_X8_isCategory ml_RX8_197 im_X8_isCategory sl_X8_isCategory (mW_o hN) rfl rfl rfl (Nat.le_of_ble_eq_true rfl) dX8_rule_58 ⟨Nat.le_of_ble_eq_true rfl, Nat.le_of_ble_eq_true rfl, Nat.le_of_ble_eq_true rfl, Nat.le_of_ble_eq_true rfl⟩ (fun v C' hP => ?_) (fun _ _ h => h.elim)
    obtain ⟨rfl, rfl⟩ := hP
    refine sw_st (st' := [.int (bI (rIn σ 16 x)), .ref m0]) rfl ?_
    refine sw_if_ne (pc := 61) (tgt := 68) hc dX8_rule_61 (by decide) (fun c_32 => ?_) (fun c_32 => ?_)
    ·
      have p_33 : rIn σ 16 x := bI_n c_32
      refine sw_iload (pc := 68) hc dX8_rule_68 0 rfl ?_
      refine sw_if_ne (pc := 70) (tgt := 77) hc dX8_rule_70 (by decide) (fun c_34 => ?_) (fun c_34 => ?_)
      ·
        have p_35 : rRngR d f pu j := bI_n c_34
        obtain ⟨f_36, f_362⟩ := rIn_x hWF.2.2.1 (by decide) p_33
        have f_36b := hWF.2.2.1.2
        refine sw_aload_n (pc := 77) hc dX8_rule_77 rfl 1 rfl ?_
        refine sw_get (pc := 78) (v := .ref (q 11)) hc fl_RX8_37 (mW_o hN) rfl dX8_rule_78 ?_
        refine sw_iload_n (pc := 81) hc dX8_rule_81 rfl 2 rfl ?_
        refine sw_iald (pc := 82) (j := (iN x)) hc (mW_a11 hN) f_36 (by omega) (by decide) dX8_rule_82 ?_
        refine sw_bipush (pc := 83) (v := 10) hc dX8_rule_83 (by decide) ?_
        refine sw_icmp_ne (pc := 85) (tgt := 92) hc dX8_rule_85 (by decide) (fun c_37 => ?_) (fun c_37 => ?_)
        ·
          refine sw_iconst (pc := 92) (v := 0) hc dX8_rule_92 (by decide) ?_
          have h_38 : 0 = kRule σ x d f pu j := by first | with_reducible rfl | (first | with_reducible rfl | (simp [-Int32.not_le, -Int32.not_lt, kRule, st2_a, p_33, p_35, c_37]; done) | (((try simp only [st2_a, Nat.reduceBEq, Bool.false_and, Bool.true_and, beq_self_eq_true, cond_false, cond_true] at p_33 p_35 c_37) <;> simp [-Int32.not_le, -Int32.not_lt, kRule, st2_a, p_33, p_35, c_37]); done) | ((try simp only [kRule]); (repeat' split) <;> simp_all [-Int32.not_le, -Int32.not_lt, st2_a, rGap, rWall]; done))
          refine sw_st (st' := [.int (kRule σ x d f pu j), .ref m0]) (congrArg (fun z => ([.int z, .ref m0] : List Value)) h_38) ?_
          exact sw_sub (ks := [1, 2, 3, 4, 5, 6]) rfl (K_93 )
        ·
          refine sw_iconst (pc := 88) (v := 3) hc dX8_rule_88 (by decide) ?_
          refine sw_goto (pc := 89) (tgt := 93) hc dX8_rule_89 (by decide) ?_
          have h_39 : 3 = kRule σ x d f pu j := by first | with_reducible rfl | (first | with_reducible rfl | (simp [-Int32.not_le, -Int32.not_lt, kRule, st2_a, p_33, p_35, c_37]; done) | (((try simp only [st2_a, Nat.reduceBEq, Bool.false_and, Bool.true_and, beq_self_eq_true, cond_false, cond_true] at p_33 p_35 c_37) <;> simp [-Int32.not_le, -Int32.not_lt, kRule, st2_a, p_33, p_35, c_37]); done) | ((try simp only [kRule]); (repeat' split) <;> simp_all [-Int32.not_le, -Int32.not_lt, st2_a, rGap, rWall]; done))
          refine sw_st (st' := [.int (kRule σ x d f pu j), .ref m0]) (congrArg (fun z => ([.int z, .ref m0] : List Value)) h_39) ?_
          exact sw_sub (ks := [1, 2, 3, 4, 5, 6]) rfl (K_93 )
      ·
        have p_40 : ¬ (rRngR d f pu j) := bI_0 c_34
        refine sw_iconst (pc := 73) (v := 2) hc dX8_rule_73 (by decide) ?_
        refine sw_goto (pc := 74) (tgt := 93) hc dX8_rule_74 (by decide) ?_
        have h_41 : 2 = kRule σ x d f pu j := by first | with_reducible rfl | (first | with_reducible rfl | (simp [-Int32.not_le, -Int32.not_lt, kRule, st2_a, p_33, p_40]; done) | (((try simp only [st2_a, Nat.reduceBEq, Bool.false_and, Bool.true_and, beq_self_eq_true, cond_false, cond_true] at p_33 p_40) <;> simp [-Int32.not_le, -Int32.not_lt, kRule, st2_a, p_33, p_40]); done) | ((try simp only [kRule]); (repeat' split) <;> simp_all [-Int32.not_le, -Int32.not_lt, st2_a, rGap, rWall]; done))
        refine sw_st (st' := [.int (kRule σ x d f pu j), .ref m0]) (congrArg (fun z => ([.int z, .ref m0] : List Value)) h_41) ?_
        exact sw_sub (ks := [1, 2, 3, 4, 5, 6]) rfl (K_93 )
    ·
      have p_42 : ¬ (rIn σ 16 x) := bI_0 c_32
      refine sw_iconst (pc := 64) (v := 1) hc dX8_rule_64 (by decide) ?_
      refine sw_goto (pc := 65) (tgt := 93) hc dX8_rule_65 (by decide) ?_
      have h_43 : 1 = kRule σ x d f pu j := by first | with_reducible rfl | (first | with_reducible rfl | (simp [-Int32.not_le, -Int32.not_lt, kRule, st2_a, p_42]; done) | (((try simp only [st2_a, Nat.reduceBEq, Bool.false_and, Bool.true_and, beq_self_eq_true, cond_false, cond_true] at p_42) <;> simp [-Int32.not_le, -Int32.not_lt, kRule, st2_a, p_42]); done) | ((try simp only [kRule]); (repeat' split) <;> simp_all [-Int32.not_le, -Int32.not_lt, st2_a, rGap, rWall]; done))
      refine sw_st (st' := [.int (kRule σ x d f pu j), .ref m0]) (congrArg (fun z => ([.int z, .ref m0] : List Value)) h_43) ?_
      exact sw_sub (ks := [1, 2, 3, 4, 5, 6]) rfl (K_93 )
  refine sw_aload_n (pc := 0) hc dX8_rule_0 rfl 0 rfl ?_
  refine sw_iload_n (pc := 1) hc dX8_rule_1 rfl 2 rfl ?_
  refine sw_iconst (pc := 2) (v := 0) hc dX8_rule_2 (by decide) ?_
  refine sw_sipush (pc := 3) (v := 1000) hc dX8_rule_3 (by decide) ?_
  refine sw_callV (pc := 6) (rest := []) hc (c_X8_between l g C m0 q σ d 0 1000 hN ) md_X8_between ml_RX8_95 im_X8_between sl_X8_between (mW_o hN) rfl rfl rfl (Nat.le_of_ble_eq_true rfl) dX8_rule_6 ⟨Nat.le_of_ble_eq_true rfl, Nat.le_of_ble_eq_true rfl, Nat.le_of_ble_eq_true rfl, Nat.le_of_ble_eq_true rfl⟩ (fun v C' hP => ?_) (fun _ _ h => h.elim)
  obtain ⟨rfl, rfl⟩ := hP
  refine sw_st (st' := [.int (bI (0 ≤ d ∧ d ≤ 1000))]) rfl ?_
  refine sw_if_eq (pc := 9) (tgt := 52) hc dX8_rule_9 (by decide) (fun c_44 => ?_) (fun c_44 => ?_)
  ·
    have p_45 : ¬ (0 ≤ d ∧ d ≤ 1000) := bI_0 c_44
    refine sw_iconst (pc := 52) (v := 0) hc dX8_rule_52 (by decide) ?_
    have h_46 : 0 = bI (rRngR d f pu j) := by first | with_reducible rfl | (first | with_reducible rfl | (simp [-Int32.not_le, -Int32.not_lt, bI, st2_a, p_45]; done) | (((try simp only [st2_a, Nat.reduceBEq, Bool.false_and, Bool.true_and, beq_self_eq_true, cond_false, cond_true] at p_45) <;> simp [-Int32.not_le, -Int32.not_lt, bI, st2_a, p_45]); done) | ((try simp only [bI]); (repeat' split) <;> simp_all [-Int32.not_le, -Int32.not_lt, st2_a, rGap, rWall]; done))
    refine sw_st (st' := [.int (bI (rRngR d f pu j))]) (congrArg (fun z => ([.int z] : List Value)) h_46) ?_
    exact sw_sub (ks := [0, 1, 2, 3, 4, 5]) rfl (K_53 )
  ·
    have p_47 : 0 ≤ d ∧ d ≤ 1000 := bI_n c_44
    refine sw_aload_n (pc := 12) hc dX8_rule_12 rfl 0 rfl ?_
    refine sw_iload_n (pc := 13) hc dX8_rule_13 rfl 3 rfl ?_
    refine sw_iconst (pc := 14) (v := 0) hc dX8_rule_14 (by decide) ?_
    refine sw_bipush (pc := 15) (v := 7) hc dX8_rule_15 (by decide) ?_
    refine sw_callV (pc := 17) (rest := []) hc (c_X8_between l g C m0 q σ f 0 7 hN ) md_X8_between ml_RX8_95 im_X8_between sl_X8_between (mW_o hN) rfl rfl rfl (Nat.le_of_ble_eq_true rfl) dX8_rule_17 ⟨Nat.le_of_ble_eq_true rfl, Nat.le_of_ble_eq_true rfl, Nat.le_of_ble_eq_true rfl, Nat.le_of_ble_eq_true rfl⟩ (fun v C' hP => ?_) (fun _ _ h => h.elim)
    obtain ⟨rfl, rfl⟩ := hP
    refine sw_st (st' := [.int (bI (0 ≤ f ∧ f ≤ 7))]) rfl ?_
    refine sw_if_eq (pc := 20) (tgt := 52) hc dX8_rule_20 (by decide) (fun c_48 => ?_) (fun c_48 => ?_)
    ·
      have p_49 : ¬ (0 ≤ f ∧ f ≤ 7) := bI_0 c_48
      refine sw_iconst (pc := 52) (v := 0) hc dX8_rule_52 (by decide) ?_
      have h_50 : 0 = bI (rRngR d f pu j) := by first | with_reducible rfl | (first | with_reducible rfl | (simp [-Int32.not_le, -Int32.not_lt, bI, st2_a, p_47, p_49]; done) | (((try simp only [st2_a, Nat.reduceBEq, Bool.false_and, Bool.true_and, beq_self_eq_true, cond_false, cond_true] at p_47 p_49) <;> simp [-Int32.not_le, -Int32.not_lt, bI, st2_a, p_47, p_49]); done) | ((try simp only [bI]); (repeat' split) <;> simp_all [-Int32.not_le, -Int32.not_lt, st2_a, rGap, rWall]; done))
      refine sw_st (st' := [.int (bI (rRngR d f pu j))]) (congrArg (fun z => ([.int z] : List Value)) h_50) ?_
      exact sw_sub (ks := [0, 1, 2, 3, 4, 5]) rfl (K_53 )
    ·
      have p_51 : 0 ≤ f ∧ f ≤ 7 := bI_n c_48
      refine sw_aload_n (pc := 23) hc dX8_rule_23 rfl 0 rfl ?_
      refine sw_iload (pc := 24) hc dX8_rule_24 4 rfl ?_
      refine sw_iconst (pc := 26) (v := 0) hc dX8_rule_26 (by decide) ?_
      refine sw_bipush (pc := 27) (v := 32) hc dX8_rule_27 (by decide) ?_
      refine sw_callV (pc := 29) (rest := []) hc (c_X8_between l g C m0 q σ pu 0 32 hN ) md_X8_between ml_RX8_95 im_X8_between sl_X8_between (mW_o hN) rfl rfl rfl (Nat.le_of_ble_eq_true rfl) dX8_rule_29 ⟨Nat.le_of_ble_eq_true rfl, Nat.le_of_ble_eq_true rfl, Nat.le_of_ble_eq_true rfl, Nat.le_of_ble_eq_true rfl⟩ (fun v C' hP => ?_) (fun _ _ h => h.elim)
      obtain ⟨rfl, rfl⟩ := hP
      refine sw_st (st' := [.int (bI (0 ≤ pu ∧ pu ≤ 32))]) rfl ?_
      refine sw_if_eq (pc := 32) (tgt := 52) hc dX8_rule_32 (by decide) (fun c_52 => ?_) (fun c_52 => ?_)
      ·
        have p_53 : ¬ (0 ≤ pu ∧ pu ≤ 32) := bI_0 c_52
        refine sw_iconst (pc := 52) (v := 0) hc dX8_rule_52 (by decide) ?_
        have h_54 : 0 = bI (rRngR d f pu j) := by first | with_reducible rfl | (first | with_reducible rfl | (simp [-Int32.not_le, -Int32.not_lt, bI, st2_a, p_47, p_51, p_53]; done) | (((try simp only [st2_a, Nat.reduceBEq, Bool.false_and, Bool.true_and, beq_self_eq_true, cond_false, cond_true] at p_47 p_51 p_53) <;> simp [-Int32.not_le, -Int32.not_lt, bI, st2_a, p_47, p_51, p_53]); done) | ((try simp only [bI]); (repeat' split) <;> simp_all [-Int32.not_le, -Int32.not_lt, st2_a, rGap, rWall]; done))
        refine sw_st (st' := [.int (bI (rRngR d f pu j))]) (congrArg (fun z => ([.int z] : List Value)) h_54) ?_
        exact sw_sub (ks := [0, 1, 2, 3, 4, 5]) rfl (K_53 )
      ·
        have p_55 : 0 ≤ pu ∧ pu ≤ 32 := bI_n c_52
        refine sw_aload_n (pc := 35) hc dX8_rule_35 rfl 0 rfl ?_
        refine sw_iload (pc := 36) hc dX8_rule_36 5 rfl ?_
        refine sw_iconst (pc := 38) (v := 0) hc dX8_rule_38 (by decide) ?_
        refine sw_sipush (pc := 39) (v := 500) hc dX8_rule_39 (by decide) ?_
        refine sw_callV (pc := 42) (rest := []) hc (c_X8_between l g C m0 q σ j 0 500 hN ) md_X8_between ml_RX8_95 im_X8_between sl_X8_between (mW_o hN) rfl rfl rfl (Nat.le_of_ble_eq_true rfl) dX8_rule_42 ⟨Nat.le_of_ble_eq_true rfl, Nat.le_of_ble_eq_true rfl, Nat.le_of_ble_eq_true rfl, Nat.le_of_ble_eq_true rfl⟩ (fun v C' hP => ?_) (fun _ _ h => h.elim)
        obtain ⟨rfl, rfl⟩ := hP
        refine sw_st (st' := [.int (bI (0 ≤ j ∧ j ≤ 500))]) rfl ?_
        refine sw_if_eq (pc := 45) (tgt := 52) hc dX8_rule_45 (by decide) (fun c_56 => ?_) (fun c_56 => ?_)
        ·
          have p_57 : ¬ (0 ≤ j ∧ j ≤ 500) := bI_0 c_56
          refine sw_iconst (pc := 52) (v := 0) hc dX8_rule_52 (by decide) ?_
          have h_58 : 0 = bI (rRngR d f pu j) := by first | with_reducible rfl | (first | with_reducible rfl | (simp [-Int32.not_le, -Int32.not_lt, bI, st2_a, p_47, p_51, p_55, p_57]; done) | (((try simp only [st2_a, Nat.reduceBEq, Bool.false_and, Bool.true_and, beq_self_eq_true, cond_false, cond_true] at p_47 p_51 p_55 p_57) <;> simp [-Int32.not_le, -Int32.not_lt, bI, st2_a, p_47, p_51, p_55, p_57]); done) | ((try simp only [bI]); (repeat' split) <;> simp_all [-Int32.not_le, -Int32.not_lt, st2_a, rGap, rWall]; done))
          refine sw_st (st' := [.int (bI (rRngR d f pu j))]) (congrArg (fun z => ([.int z] : List Value)) h_58) ?_
          exact sw_sub (ks := [0, 1, 2, 3, 4, 5]) rfl (K_53 )
        ·
          have p_59 : 0 ≤ j ∧ j ≤ 500 := bI_n c_56
          refine sw_iconst (pc := 48) (v := 1) hc dX8_rule_48 (by decide) ?_
          refine sw_goto (pc := 49) (tgt := 53) hc dX8_rule_49 (by decide) ?_
          have h_60 : 1 = bI (rRngR d f pu j) := by first | with_reducible rfl | (first | with_reducible rfl | (simp [-Int32.not_le, -Int32.not_lt, bI, st2_a, p_47, p_51, p_55, p_59]; done) | (((try simp only [st2_a, Nat.reduceBEq, Bool.false_and, Bool.true_and, beq_self_eq_true, cond_false, cond_true] at p_47 p_51 p_55 p_59) <;> simp [-Int32.not_le, -Int32.not_lt, bI, st2_a, p_47, p_51, p_55, p_59]); done) | ((try simp only [bI]); (repeat' split) <;> simp_all [-Int32.not_le, -Int32.not_lt, st2_a, rGap, rWall]; done))
          refine sw_st (st' := [.int (bI (rRngR d f pu j))]) (congrArg (fun z => ([.int z] : List Value)) h_60) ?_
          exact sw_sub (ks := [0, 1, 2, 3, 4, 5]) rfl (K_53 )

set_option maxHeartbeats 4000000 in
set_option maxRecDepth 100000 in
theorem c_X8_isPair (l : Launch) (g : sg_G) (C : Nat → Option va_E) (m0 : Nat) (q : Nat → Nat) (σ : Mem) (x : Int32) (y : Int32) (hN : mN m0 q) : sg_Met l yX8_isPair cX8_isPair 3 (some .boolean) 2 44 0 0 g [.ref m0, .int x, .int y] (sg_ov C (mW g m0 q σ)) (fun v C' => v = some (.int (bI (rPair σ x y))) ∧ C' = sg_ov C (mW g m0 q σ)) sg_no := by
  refine sg_ofW (by decide) rfl ?_ (Nat.le_of_ble_eq_true rfl)
  intro p e s m below meth c hc hlk hrt hin2 htb
  have hc : sg_Cx p s m _ c cX8_isPair 3 RX8 g := hc
  show sg_W p l e _ s m _ below meth c 3 g 0 0 _ (sg_ov C (mW g m0 q σ)) 0 [(0, .ref m0), (1, .int x), (2, .int y)] []
  refine sw_aload_n (pc := 0) hc dX8_isPair_0 rfl 0 rfl ?_
  refine sw_iload_n (pc := 1) hc dX8_isPair_1 rfl 1 rfl ?_
  refine sw_callV (pc := 2) (rest := []) hc (c_X8_isCategory l g C m0 q σ x hN ) md_X8_isCategory ml_RX8_197 im_X8_isCategory sl_X8_isCategory (mW_o hN) rfl rfl rfl (Nat.le_of_ble_eq_true rfl) dX8_isPair_2 ⟨Nat.le_of_ble_eq_true rfl, Nat.le_of_ble_eq_true rfl, Nat.le_of_ble_eq_true rfl, Nat.le_of_ble_eq_true rfl⟩ (fun v C' hP => ?_) (fun _ _ h => h.elim)
  obtain ⟨rfl, rfl⟩ := hP
  refine sw_st (st' := [.int (bI (rIn σ 16 x))]) rfl ?_
  refine sw_if_eq (pc := 5) (tgt := 20) hc dX8_isPair_5 (by decide) (fun c_1 => ?_) (fun c_1 => ?_)
  ·
    have p_2 : ¬ (rIn σ 16 x) := bI_0 c_1
    refine sw_iconst (pc := 20) (v := 0) hc dX8_isPair_20 (by decide) ?_
    have h_3 : 0 = bI (rPair σ x y) := by first | with_reducible rfl | (first | with_reducible rfl | (simp [-Int32.not_le, -Int32.not_lt, bI, st2_a, p_2]; done) | (((try simp only [st2_a, Nat.reduceBEq, Bool.false_and, Bool.true_and, beq_self_eq_true, cond_false, cond_true] at p_2) <;> simp [-Int32.not_le, -Int32.not_lt, bI, st2_a, p_2]); done) | ((try simp only [bI]); (repeat' split) <;> simp_all [-Int32.not_le, -Int32.not_lt, st2_a, rGap, rWall]; done))
    exact sw_iret (pc := 21) hc hlk hrt rfl ⟨(congrArg (fun z => some (Value.int z)) h_3), rfl⟩ (Nat.le_of_ble_eq_true rfl) (Nat.le_of_ble_eq_true rfl) dX8_isPair_21
  ·
    have p_4 : rIn σ 16 x := bI_n c_1
    refine sw_aload_n (pc := 8) hc dX8_isPair_8 rfl 0 rfl ?_
    refine sw_iload_n (pc := 9) hc dX8_isPair_9 rfl 2 rfl ?_
    refine sw_callV (pc := 10) (rest := []) hc (c_X8_isRunner l g C m0 q σ y hN ) md_X8_isRunner ml_RX8_203 im_X8_isRunner sl_X8_isRunner (mW_o hN) rfl rfl rfl (Nat.le_of_ble_eq_true rfl) dX8_isPair_10 ⟨Nat.le_of_ble_eq_true rfl, Nat.le_of_ble_eq_true rfl, Nat.le_of_ble_eq_true rfl, Nat.le_of_ble_eq_true rfl⟩ (fun v C' hP => ?_) (fun _ _ h => h.elim)
    obtain ⟨rfl, rfl⟩ := hP
    refine sw_st (st' := [.int (bI (0 ≤ y ∧ y ≤ 7))]) rfl ?_
    refine sw_if_eq (pc := 13) (tgt := 20) hc dX8_isPair_13 (by decide) (fun c_5 => ?_) (fun c_5 => ?_)
    ·
      have p_6 : ¬ (0 ≤ y ∧ y ≤ 7) := bI_0 c_5
      refine sw_iconst (pc := 20) (v := 0) hc dX8_isPair_20 (by decide) ?_
      have h_7 : 0 = bI (rPair σ x y) := by first | with_reducible rfl | (first | with_reducible rfl | (simp [-Int32.not_le, -Int32.not_lt, bI, st2_a, p_4, p_6]; done) | (((try simp only [st2_a, Nat.reduceBEq, Bool.false_and, Bool.true_and, beq_self_eq_true, cond_false, cond_true] at p_4 p_6) <;> simp [-Int32.not_le, -Int32.not_lt, bI, st2_a, p_4, p_6]); done) | ((try simp only [bI]); (repeat' split) <;> simp_all [-Int32.not_le, -Int32.not_lt, st2_a, rGap, rWall]; done))
      exact sw_iret (pc := 21) hc hlk hrt rfl ⟨(congrArg (fun z => some (Value.int z)) h_7), rfl⟩ (Nat.le_of_ble_eq_true rfl) (Nat.le_of_ble_eq_true rfl) dX8_isPair_21
    ·
      have p_8 : 0 ≤ y ∧ y ≤ 7 := bI_n c_5
      refine sw_iconst (pc := 16) (v := 1) hc dX8_isPair_16 (by decide) ?_
      refine sw_goto (pc := 17) (tgt := 21) hc dX8_isPair_17 (by decide) ?_
      have h_9 : 1 = bI (rPair σ x y) := by first | with_reducible rfl | (first | with_reducible rfl | (simp [-Int32.not_le, -Int32.not_lt, bI, st2_a, p_4, p_8]; done) | (((try simp only [st2_a, Nat.reduceBEq, Bool.false_and, Bool.true_and, beq_self_eq_true, cond_false, cond_true] at p_4 p_8) <;> simp [-Int32.not_le, -Int32.not_lt, bI, st2_a, p_4, p_8]); done) | ((try simp only [bI]); (repeat' split) <;> simp_all [-Int32.not_le, -Int32.not_lt, st2_a, rGap, rWall]; done))
      exact sw_iret (pc := 21) hc hlk hrt rfl ⟨(congrArg (fun z => some (Value.int z)) h_9), rfl⟩ (Nat.le_of_ble_eq_true rfl) (Nat.le_of_ble_eq_true rfl) dX8_isPair_21

set_option maxHeartbeats 4000000 in
set_option maxRecDepth 100000 in
theorem c_X8_submit (l : Launch) (g : sg_G) (C : Nat → Option va_E) (m0 : Nat) (q : Nat → Nat) (σ : Mem) (x : Int32) (y : Int32) (z : Int32) (hN : mN m0 q) (hWF : rWF σ) : sg_Met l yX8_submit cX8_submit 5 (some .int) 5 120 0 0 g [.ref m0, .int x, .int y, .int z] (sg_ov C (mW g m0 q σ)) (fun v C' => v = some (.int (vSubmit σ x y z)) ∧ C' = sg_ov C (mW g m0 q (fSubmit σ x y z))) sg_no := by
  refine sg_ofW (by decide) rfl ?_ (Nat.le_of_ble_eq_true rfl)
  intro p e s m below meth c hc hlk hrt hin2 htb
  have hc : sg_Cx p s m _ c cX8_submit 5 RX8 g := hc
  show sg_W p l e _ s m _ below meth c 5 g 0 0 _ (sg_ov C (mW g m0 q σ)) 0 [(0, .ref m0), (1, .int x), (2, .int y), (3, .int z)] []
  have K_95 : sg_W p l e (sg_rm 5 120 0 0) s m ([.ref m0, .int x, .int y, .int z] : List Value).toArray below meth c 5 g 0 0 (sg_End below g (fun v C' => v = some (.int (vSubmit σ x y z)) ∧ C' = sg_ov C (mW g m0 q (fSubmit σ x y z))) sg_no ([.ref m0, .int x, .int y, .int z] : List Value).toArray s 0 0) (sg_ov C (mW g m0 q (rSub σ x y z))) 95 [(0, .ref m0), (1, .int x), (2, .int y), (3, .int z)] [.int (kSubmit σ (rSub σ x y z) x y z), .ref m0] := by
    refine sw_callV (pc := 95) (rest := []) hc (c_X8_holds l g C m0 q (rSub σ x y z) (kSubmit σ (rSub σ x y z) x y z) hN ) md_X8_holds ml_RX8_171 im_X8_holds sl_X8_holds (mW_o hN) rfl rfl rfl (Nat.le_of_ble_eq_true rfl) dX8_submit_95 ⟨Nat.le_of_ble_eq_true rfl, Nat.le_of_ble_eq_true rfl, Nat.le_of_ble_eq_true rfl, Nat.le_of_ble_eq_true rfl⟩ (fun v C' hP => ?_) (fun _ _ h => h.elim)
    obtain ⟨rfl, rfl⟩ := hP
    refine sw_st (st' := [.int (bI (0 < (kSubmit σ (rSub σ x y z) x y z)))]) rfl ?_
    refine sw_if_eq (pc := 98) (tgt := 103) hc dX8_submit_98 (by decide) (fun c_1 => ?_) (fun c_1 => ?_)
    ·
      have p_2 : ¬ (0 < (kSubmit σ (rSub σ x y z) x y z)) := bI_0 c_1
      have k0 := kSubmit_0 p_2; obtain ⟨fy, fy2⟩ := rIn_x hWF.2.1 (by decide) k0.1.2.1; obtain ⟨fz, fz2⟩ := rIn_x hWF.2.2.1 (by decide) k0.1.2.2; have b9 := hWF.2.1.2; have b16 := hWF.2.2.1.2
      have hW2 := hWF.fr (rSub_fr σ x y z); have fb := isN_ne (b := 40) hW2.2.2.2.1 (by decide) k0.2.2.2
      refine sw_aload_n (pc := 103) hc dX8_submit_103 rfl 0 rfl ?_
      refine sw_get (pc := 104) (v := .ref (q 6)) hc fl_RX8_25 (mW_o hN) rfl dX8_submit_104 ?_
      refine sw_iload_n (pc := 107) hc dX8_submit_107 rfl 2 rfl ?_
      refine sw_iconst (pc := 108) (v := 1) hc dX8_submit_108 (by decide) ?_
      refine sw_iast (pc := 109) (j := (iN y)) hc (mW_a6 hN) fy (by omega) (by decide) dX8_submit_109 ?_
      refine sw_eq (mW_s6 hN) ?_
      refine sw_aload_n (pc := 110) hc dX8_submit_110 rfl 0 rfl ?_
      refine sw_get (pc := 111) (v := .ref (q 17)) hc fl_RX8_52 (mW_o hN) rfl dX8_submit_111 ?_
      refine sw_aload_n (pc := 114) hc dX8_submit_114 rfl 0 rfl ?_
      refine sw_get (pc := 115) (v := .int ((st2 (rSub σ x y z) 42 0 (kSubmit σ (rSub σ x y z) x y z)) 26 0)) hc fl_RX8_105 (mW_o hN) rfl dX8_submit_115 ?_
      refine sw_st (st' := [.int (nI (iN (rSub σ x y z 26 0))), .ref (q 17)]) (congrArg (fun z => ([.int z, .ref (q 17)] : List Value)) (hW2.2.2.2.1.1 : (st2 (rSub σ x y z) 42 0 (kSubmit σ (rSub σ x y z) x y z)) 26 0 = nI (iN (rSub σ x y z 26 0)))) ?_
      refine sw_iload_n (pc := 118) hc dX8_submit_118 rfl 2 rfl ?_
      refine sw_iast (pc := 119) (j := (iN (rSub σ x y z 26 0))) hc (mW_a17 hN) rfl fb (by decide) dX8_submit_119 ?_
      refine sw_eq (mW_s17 hN) ?_
      refine sw_aload_n (pc := 120) hc dX8_submit_120 rfl 0 rfl ?_
      refine sw_get (pc := 121) (v := .ref (q 18)) hc fl_RX8_55 (mW_o hN) rfl dX8_submit_121 ?_
      refine sw_aload_n (pc := 124) hc dX8_submit_124 rfl 0 rfl ?_
      refine sw_get (pc := 125) (v := .int ((st2 (rSub σ x y z) 42 0 (kSubmit σ (rSub σ x y z) x y z)) 26 0)) hc fl_RX8_105 (mW_o hN) rfl dX8_submit_125 ?_
      refine sw_st (st' := [.int (nI (iN (rSub σ x y z 26 0))), .ref (q 18)]) (congrArg (fun z => ([.int z, .ref (q 18)] : List Value)) (hW2.2.2.2.1.1 : (st2 (rSub σ x y z) 42 0 (kSubmit σ (rSub σ x y z) x y z)) 26 0 = nI (iN (rSub σ x y z 26 0)))) ?_
      refine sw_iload_n (pc := 128) hc dX8_submit_128 rfl 1 rfl ?_
      refine sw_iast (pc := 129) (j := (iN (rSub σ x y z 26 0))) hc (mW_a18 hN) rfl fb (by decide) dX8_submit_129 ?_
      refine sw_eq (mW_s18 hN) ?_
      refine sw_aload_n (pc := 130) hc dX8_submit_130 rfl 0 rfl ?_
      refine sw_get (pc := 131) (v := .ref (q 19)) hc fl_RX8_58 (mW_o hN) rfl dX8_submit_131 ?_
      refine sw_aload_n (pc := 134) hc dX8_submit_134 rfl 0 rfl ?_
      refine sw_get (pc := 135) (v := .int ((st2 (rSub σ x y z) 42 0 (kSubmit σ (rSub σ x y z) x y z)) 26 0)) hc fl_RX8_105 (mW_o hN) rfl dX8_submit_135 ?_
      refine sw_st (st' := [.int (nI (iN (rSub σ x y z 26 0))), .ref (q 19)]) (congrArg (fun z => ([.int z, .ref (q 19)] : List Value)) (hW2.2.2.2.1.1 : (st2 (rSub σ x y z) 42 0 (kSubmit σ (rSub σ x y z) x y z)) 26 0 = nI (iN (rSub σ x y z 26 0)))) ?_
      refine sw_iload_n (pc := 138) hc dX8_submit_138 rfl 3 rfl ?_
      refine sw_iast (pc := 139) (j := (iN (rSub σ x y z 26 0))) hc (mW_a19 hN) rfl fb (by decide) dX8_submit_139 ?_
      refine sw_eq (mW_s19 hN) ?_
      refine sw_aload_n (pc := 140) hc dX8_submit_140 rfl 0 rfl ?_
      refine sw_get (pc := 141) (v := .ref (q 20)) hc fl_RX8_61 (mW_o hN) rfl dX8_submit_141 ?_
      refine sw_aload_n (pc := 144) hc dX8_submit_144 rfl 0 rfl ?_
      refine sw_get (pc := 145) (v := .int ((st2 (rSub σ x y z) 42 0 (kSubmit σ (rSub σ x y z) x y z)) 26 0)) hc fl_RX8_105 (mW_o hN) rfl dX8_submit_145 ?_
      refine sw_st (st' := [.int (nI (iN (rSub σ x y z 26 0))), .ref (q 20)]) (congrArg (fun z => ([.int z, .ref (q 20)] : List Value)) (hW2.2.2.2.1.1 : (st2 (rSub σ x y z) 42 0 (kSubmit σ (rSub σ x y z) x y z)) 26 0 = nI (iN (rSub σ x y z 26 0)))) ?_
      refine sw_aload_n (pc := 148) hc dX8_submit_148 rfl 0 rfl ?_
      refine sw_get (pc := 149) (v := .int ((st2 (rSub σ x y z) 42 0 (kSubmit σ (rSub σ x y z) x y z)) 31 0)) hc fl_RX8_200 (mW_o hN) rfl dX8_submit_149 ?_
      refine sw_iast (pc := 152) (j := (iN (rSub σ x y z 26 0))) hc (mW_a20 hN) rfl fb (by decide) dX8_submit_152 ?_
      refine sw_eq (mW_s20 hN) ?_
      refine sw_aload_n (pc := 153) hc dX8_submit_153 rfl 0 rfl ?_
      refine sw_get (pc := 154) (v := .ref (q 22)) hc fl_RX8_67 (mW_o hN) rfl dX8_submit_154 ?_
      refine sw_aload_n (pc := 157) hc dX8_submit_157 rfl 0 rfl ?_
      refine sw_get (pc := 158) (v := .int ((st2 (rSub σ x y z) 42 0 (kSubmit σ (rSub σ x y z) x y z)) 26 0)) hc fl_RX8_105 (mW_o hN) rfl dX8_submit_158 ?_
      refine sw_st (st' := [.int (nI (iN (rSub σ x y z 26 0))), .ref (q 22)]) (congrArg (fun z => ([.int z, .ref (q 22)] : List Value)) (hW2.2.2.2.1.1 : (st2 (rSub σ x y z) 42 0 (kSubmit σ (rSub σ x y z) x y z)) 26 0 = nI (iN (rSub σ x y z 26 0)))) ?_
      refine sw_aload_n (pc := 161) hc dX8_submit_161 rfl 0 rfl ?_
      refine sw_get (pc := 162) (v := .int ((st2 (rSub σ x y z) 42 0 (kSubmit σ (rSub σ x y z) x y z)) 40 0)) hc fl_RX8_141 (mW_o hN) rfl dX8_submit_162 ?_
      refine sw_iast (pc := 165) (j := (iN (rSub σ x y z 26 0))) hc (mW_a22 hN) rfl fb (by decide) dX8_submit_165 ?_
      refine sw_eq (mW_s22 hN) ?_
      refine sw_aload_n (pc := 166) hc dX8_submit_166 rfl 0 rfl ?_
      refine sw_get (pc := 167) (v := .ref (q 23)) hc fl_RX8_70 (mW_o hN) rfl dX8_submit_167 ?_
      refine sw_aload_n (pc := 170) hc dX8_submit_170 rfl 0 rfl ?_
      refine sw_get (pc := 171) (v := .int ((st2 (rSub σ x y z) 42 0 (kSubmit σ (rSub σ x y z) x y z)) 26 0)) hc fl_RX8_105 (mW_o hN) rfl dX8_submit_171 ?_
      refine sw_st (st' := [.int (nI (iN (rSub σ x y z 26 0))), .ref (q 23)]) (congrArg (fun z => ([.int z, .ref (q 23)] : List Value)) (hW2.2.2.2.1.1 : (st2 (rSub σ x y z) 42 0 (kSubmit σ (rSub σ x y z) x y z)) 26 0 = nI (iN (rSub σ x y z 26 0)))) ?_
      refine sw_aload_n (pc := 174) hc dX8_submit_174 rfl 0 rfl ?_
      refine sw_callV (pc := 175) (rest := [.int (nI (iN (rSub σ x y z 26 0))), .ref (q 23)]) hc (c_X8_purse l g C m0 q (st2 (st2 (st2 (st2 (st2 (st2 (st2 (rSub σ x y z) 42 0 (kSubmit σ (rSub σ x y z) x y z)) 6 (iN y) 1) 17 (iN (rSub σ x y z 26 0)) y) 18 (iN (rSub σ x y z 26 0)) x) 19 (iN (rSub σ x y z 26 0)) z) 20 (iN (rSub σ x y z 26 0)) ((st2 (rSub σ x y z) 42 0 (kSubmit σ (rSub σ x y z) x y z)) 31 0)) 22 (iN (rSub σ x y z 26 0)) ((st2 (rSub σ x y z) 42 0 (kSubmit σ (rSub σ x y z) x y z)) 40 0)) hN ) md_X8_purse ml_RX8_187 im_X8_purse sl_X8_purse (mW_o hN) rfl rfl rfl (Nat.le_of_ble_eq_true rfl) dX8_submit_175 ⟨Nat.le_of_ble_eq_true rfl, Nat.le_of_ble_eq_true rfl, Nat.le_of_ble_eq_true rfl, Nat.le_of_ble_eq_true rfl⟩ (fun v C' hP => ?_) (fun _ _ h => h.elim)
      obtain ⟨rfl, rfl⟩ := hP
      refine sw_st (st' := [.int (rPurse ((st2 (st2 (st2 (st2 (st2 (st2 (st2 (rSub σ x y z) 42 0 (kSubmit σ (rSub σ x y z) x y z)) 6 (iN y) 1) 17 (iN (rSub σ x y z 26 0)) y) 18 (iN (rSub σ x y z 26 0)) x) 19 (iN (rSub σ x y z 26 0)) z) 20 (iN (rSub σ x y z 26 0)) ((st2 (rSub σ x y z) 42 0 (kSubmit σ (rSub σ x y z) x y z)) 31 0)) 22 (iN (rSub σ x y z 26 0)) ((st2 (rSub σ x y z) 42 0 (kSubmit σ (rSub σ x y z) x y z)) 40 0)) 37 0) 32), .int (nI (iN (rSub σ x y z 26 0))), .ref (q 23)]) rfl ?_
      refine sw_iast (pc := 178) (j := (iN (rSub σ x y z 26 0))) hc (mW_a23 hN) rfl fb (by decide) dX8_submit_178 ?_
      refine sw_eq (mW_s23 hN) ?_
      refine sw_aload_n (pc := 179) hc dX8_submit_179 rfl 0 rfl ?_
      refine sw_get (pc := 180) (v := .ref (q 24)) hc fl_RX8_73 (mW_o hN) rfl dX8_submit_180 ?_
      refine sw_aload_n (pc := 183) hc dX8_submit_183 rfl 0 rfl ?_
      refine sw_get (pc := 184) (v := .int ((st2 (rSub σ x y z) 42 0 (kSubmit σ (rSub σ x y z) x y z)) 26 0)) hc fl_RX8_105 (mW_o hN) rfl dX8_submit_184 ?_
      refine sw_st (st' := [.int (nI (iN (rSub σ x y z 26 0))), .ref (q 24)]) (congrArg (fun z => ([.int z, .ref (q 24)] : List Value)) (hW2.2.2.2.1.1 : (st2 (rSub σ x y z) 42 0 (kSubmit σ (rSub σ x y z) x y z)) 26 0 = nI (iN (rSub σ x y z 26 0)))) ?_
      refine sw_aload_n (pc := 187) hc dX8_submit_187 rfl 0 rfl ?_
      refine sw_get (pc := 188) (v := .int ((st2 (rSub σ x y z) 42 0 (kSubmit σ (rSub σ x y z) x y z)) 38 0)) hc fl_RX8_135 (mW_o hN) rfl dX8_submit_188 ?_
      refine sw_iast (pc := 191) (j := (iN (rSub σ x y z 26 0))) hc (mW_a24 hN) rfl fb (by decide) dX8_submit_191 ?_
      refine sw_eq (mW_s24 hN) ?_
      refine sw_aload_n (pc := 192) hc dX8_submit_192 rfl 0 rfl ?_
      refine sw_get (pc := 193) (v := .ref (q 25)) hc fl_RX8_76 (mW_o hN) rfl dX8_submit_193 ?_
      refine sw_aload_n (pc := 196) hc dX8_submit_196 rfl 0 rfl ?_
      refine sw_get (pc := 197) (v := .int ((st2 (rSub σ x y z) 42 0 (kSubmit σ (rSub σ x y z) x y z)) 26 0)) hc fl_RX8_105 (mW_o hN) rfl dX8_submit_197 ?_
      refine sw_st (st' := [.int (nI (iN (rSub σ x y z 26 0))), .ref (q 25)]) (congrArg (fun z => ([.int z, .ref (q 25)] : List Value)) (hW2.2.2.2.1.1 : (st2 (rSub σ x y z) 42 0 (kSubmit σ (rSub σ x y z) x y z)) 26 0 = nI (iN (rSub σ x y z 26 0)))) ?_
      refine sw_aload_n (pc := 200) hc dX8_submit_200 rfl 0 rfl ?_
      refine sw_get (pc := 201) (v := .int ((st2 (rSub σ x y z) 42 0 (kSubmit σ (rSub σ x y z) x y z)) 39 0)) hc fl_RX8_138 (mW_o hN) rfl dX8_submit_201 ?_
      refine sw_iast (pc := 204) (j := (iN (rSub σ x y z 26 0))) hc (mW_a25 hN) rfl fb (by decide) dX8_submit_204 ?_
      refine sw_eq (mW_s25 hN) ?_
      refine sw_aload_n (pc := 205) hc dX8_submit_205 rfl 0 rfl ?_
      refine sw_dup (pc := 206) hc dX8_submit_206 rfl ?_
      refine sw_get (pc := 207) (v := .int ((st2 (rSub σ x y z) 42 0 (kSubmit σ (rSub σ x y z) x y z)) 26 0)) hc fl_RX8_105 (mW_o hN) rfl dX8_submit_207 ?_
      refine sw_iconst (pc := 210) (v := 1) hc dX8_submit_210 (by decide) ?_
      refine sw_iadd (pc := 211) hc dX8_submit_211 ?_
      refine sw_top (fun x_3 ex_3 => ?_)
      refine sw_put (pc := 212) (k := 26) hc fl_RX8_105 ty_9 fp_9_26 (mW_o hN) rfl rfl (Nat.le_of_ble_eq_true rfl) rfl dX8_submit_212 ?_
      refine sw_eq (mW_p26 hN) ?_
      refine sw_aload_n (pc := 215) hc dX8_submit_215 rfl 0 rfl ?_
      refine sw_get (pc := 216) (v := .int x_3) hc fl_RX8_105 (mW_o hN) rfl dX8_submit_216 ?_
      refine sw_iconst (pc := 219) (v := 1) hc dX8_submit_219 (by decide) ?_
      refine sw_isub (pc := 220) hc dX8_submit_220 ?_
      have h_4 : x_3 - 1 = vSubmit σ x y z := by (subst ex_3; first | exact (if_pos (by assumption)).symm | exact (if_neg (by assumption)).symm)
      have h_5 : st2 (st2 (st2 (st2 (st2 (st2 (st2 (st2 (st2 (st2 (st2 (rSub σ x y z) 42 0 (kSubmit σ (rSub σ x y z) x y z)) 6 (iN y) 1) 17 (iN (rSub σ x y z 26 0)) y) 18 (iN (rSub σ x y z 26 0)) x) 19 (iN (rSub σ x y z 26 0)) z) 20 (iN (rSub σ x y z 26 0)) ((st2 (rSub σ x y z) 42 0 (kSubmit σ (rSub σ x y z) x y z)) 31 0)) 22 (iN (rSub σ x y z 26 0)) ((st2 (rSub σ x y z) 42 0 (kSubmit σ (rSub σ x y z) x y z)) 40 0)) 23 (iN (rSub σ x y z 26 0)) (rPurse ((st2 (st2 (st2 (st2 (st2 (st2 (st2 (rSub σ x y z) 42 0 (kSubmit σ (rSub σ x y z) x y z)) 6 (iN y) 1) 17 (iN (rSub σ x y z 26 0)) y) 18 (iN (rSub σ x y z 26 0)) x) 19 (iN (rSub σ x y z 26 0)) z) 20 (iN (rSub σ x y z 26 0)) ((st2 (rSub σ x y z) 42 0 (kSubmit σ (rSub σ x y z) x y z)) 31 0)) 22 (iN (rSub σ x y z 26 0)) ((st2 (rSub σ x y z) 42 0 (kSubmit σ (rSub σ x y z) x y z)) 40 0)) 37 0) 32)) 24 (iN (rSub σ x y z 26 0)) ((st2 (rSub σ x y z) 42 0 (kSubmit σ (rSub σ x y z) x y z)) 38 0)) 25 (iN (rSub σ x y z 26 0)) ((st2 (rSub σ x y z) 42 0 (kSubmit σ (rSub σ x y z) x y z)) 39 0)) 26 0 x_3 = fSubmit σ x y z := by (subst ex_3; first | exact (if_pos (by assumption)).symm | exact (if_neg (by assumption)).symm)
      exact sw_iret (pc := 221) hc hlk hrt rfl ⟨(congrArg (fun z => some (Value.int z)) h_4), (congrArg (fun z => sg_ov C (mW g m0 q z)) h_5)⟩ (Nat.le_of_ble_eq_true rfl) (Nat.le_of_ble_eq_true rfl) dX8_submit_221
    ·
      have p_6 : 0 < (kSubmit σ (rSub σ x y z) x y z) := bI_n c_1
      refine sw_iconst (pc := 101) (v := (-1)) hc dX8_submit_101 (by decide) ?_
      have h_7 : (-1) = vSubmit σ x y z := by (first | exact (if_pos (by assumption)).symm | exact (if_neg (by assumption)).symm)
      have h_8 : st2 (rSub σ x y z) 42 0 (kSubmit σ (rSub σ x y z) x y z) = fSubmit σ x y z := by (first | exact (if_pos (by assumption)).symm | exact (if_neg (by assumption)).symm)
      exact sw_iret (pc := 102) hc hlk hrt rfl ⟨(congrArg (fun z => some (Value.int z)) h_7), (congrArg (fun z => sg_ov C (mW g m0 q z)) h_8)⟩ (Nat.le_of_ble_eq_true rfl) (Nat.le_of_ble_eq_true rfl) dX8_submit_102
  have K_44 : ∀ (υ : Mem) (eυ : υ = rSub σ x y z), sg_W p l e (sg_rm 5 120 0 0) s m ([.ref m0, .int x, .int y, .int z] : List Value).toArray below meth c 5 g 0 0 (sg_End below g (fun v C' => v = some (.int (vSubmit σ x y z)) ∧ C' = sg_ov C (mW g m0 q (fSubmit σ x y z))) sg_no ([.ref m0, .int x, .int y, .int z] : List Value).toArray s 0 0) (sg_ov C (mW g m0 q υ)) 44 [(0, .ref m0), (1, .int x), (2, .int y), (3, .int z), (4, .int (bI (rThere σ x y z)))] [] := by
    intro υ eυ
    subst eυ
    refine sw_aload_n (pc := 44) hc dX8_submit_44 rfl 0 rfl ?_
    refine sw_iload (pc := 45) hc dX8_submit_45 4 rfl ?_
    refine sw_if_ne (pc := 47) (tgt := 54) hc dX8_submit_47 (by decide) (fun c_9 => ?_) (fun c_9 => ?_)
    ·
      have p_10 : rThere σ x y z := bI_n c_9
      obtain ⟨fy, fy2⟩ := rIn_x hWF.2.1 (by decide) p_10.2.1; obtain ⟨fz, fz2⟩ := rIn_x hWF.2.2.1 (by decide) p_10.2.2; have b9 := hWF.2.1.2; have b16 := hWF.2.2.1.2
      refine sw_aload_n (pc := 54) hc dX8_submit_54 rfl 0 rfl ?_
      refine sw_get (pc := 55) (v := .ref (q 3)) hc fl_RX8_16 (mW_o hN) rfl dX8_submit_55 ?_
      refine sw_iload_n (pc := 58) hc dX8_submit_58 rfl 2 rfl ?_
      refine sw_iald (pc := 59) (j := (iN y)) hc (mW_a3 hN) fy (by omega) (by decide) dX8_submit_59 ?_
      refine sw_aload_n (pc := 60) hc dX8_submit_60 rfl 0 rfl ?_
      refine sw_get (pc := 61) (v := .ref (q 10)) hc fl_RX8_34 (mW_o hN) rfl dX8_submit_61 ?_
      refine sw_iload_n (pc := 64) hc dX8_submit_64 rfl 3 rfl ?_
      refine sw_iald (pc := 65) (j := (iN z)) hc (mW_a10 hN) fz (by omega) (by decide) dX8_submit_65 ?_
      refine sw_icmp_eq (pc := 66) (tgt := 73) hc dX8_submit_66 (by decide) (fun c_11 => ?_) (fun c_11 => ?_)
      ·
        refine sw_aload_n (pc := 73) hc dX8_submit_73 rfl 0 rfl ?_
        refine sw_get (pc := 74) (v := .int ((rSub σ x y z) 41 0)) hc fl_RX8_144 (mW_o hN) rfl dX8_submit_74 ?_
        refine sw_iconst (pc := 77) (v := 1) hc dX8_submit_77 (by decide) ?_
        refine sw_icmp_ne (pc := 78) (tgt := 90) hc dX8_submit_78 (by decide) (fun c_12 => ?_) (fun c_12 => ?_)
        ·
          refine sw_iconst (pc := 90) (v := 3) hc dX8_submit_90 (by decide) ?_
          refine sw_goto (pc := 91) (tgt := 95) hc dX8_submit_91 (by decide) ?_
          have h_13 : 3 = kSubmit σ (rSub σ x y z) x y z := by first | with_reducible rfl | (first | with_reducible rfl | (simp [-Int32.not_le, -Int32.not_lt, kSubmit, st2_a, p_10, c_11, c_12]; done) | (((try simp only [st2_a, Nat.reduceBEq, Bool.false_and, Bool.true_and, beq_self_eq_true, cond_false, cond_true] at p_10 c_11 c_12) <;> simp [-Int32.not_le, -Int32.not_lt, kSubmit, st2_a, p_10, c_11, c_12]); done) | ((try simp only [kSubmit]); (repeat' split) <;> simp_all [-Int32.not_le, -Int32.not_lt, st2_a, rGap, rWall]; done))
          refine sw_st (st' := [.int (kSubmit σ (rSub σ x y z) x y z), .ref m0]) (congrArg (fun z => ([.int z, .ref m0] : List Value)) h_13) ?_
          exact sw_sub (ks := [0, 1, 2, 3]) rfl (K_95 )
        ·
          refine sw_aload_n (pc := 81) hc dX8_submit_81 rfl 0 rfl ?_
          refine sw_get (pc := 82) (v := .int ((rSub σ x y z) 26 0)) hc fl_RX8_105 (mW_o hN) rfl dX8_submit_82 ?_
          refine sw_bipush (pc := 85) (v := 40) hc dX8_submit_85 (by decide) ?_
          refine sw_icmp_ne (pc := 87) (tgt := 94) hc dX8_submit_87 (by decide) (fun c_14 => ?_) (fun c_14 => ?_)
          ·
            refine sw_iconst (pc := 94) (v := 0) hc dX8_submit_94 (by decide) ?_
            have h_15 : 0 = kSubmit σ (rSub σ x y z) x y z := by first | with_reducible rfl | (first | with_reducible rfl | (simp [-Int32.not_le, -Int32.not_lt, kSubmit, st2_a, p_10, c_11, c_12, c_14]; done) | (((try simp only [st2_a, Nat.reduceBEq, Bool.false_and, Bool.true_and, beq_self_eq_true, cond_false, cond_true] at p_10 c_11 c_12 c_14) <;> simp [-Int32.not_le, -Int32.not_lt, kSubmit, st2_a, p_10, c_11, c_12, c_14]); done) | ((try simp only [kSubmit]); (repeat' split) <;> simp_all [-Int32.not_le, -Int32.not_lt, st2_a, rGap, rWall]; done))
            refine sw_st (st' := [.int (kSubmit σ (rSub σ x y z) x y z), .ref m0]) (congrArg (fun z => ([.int z, .ref m0] : List Value)) h_15) ?_
            exact sw_sub (ks := [0, 1, 2, 3]) rfl (K_95 )
          ·
            refine sw_iconst (pc := 90) (v := 3) hc dX8_submit_90 (by decide) ?_
            refine sw_goto (pc := 91) (tgt := 95) hc dX8_submit_91 (by decide) ?_
            have h_16 : 3 = kSubmit σ (rSub σ x y z) x y z := by first | with_reducible rfl | (first | with_reducible rfl | (simp [-Int32.not_le, -Int32.not_lt, kSubmit, st2_a, p_10, c_11, c_12, c_14]; done) | (((try simp only [st2_a, Nat.reduceBEq, Bool.false_and, Bool.true_and, beq_self_eq_true, cond_false, cond_true] at p_10 c_11 c_12 c_14) <;> simp [-Int32.not_le, -Int32.not_lt, kSubmit, st2_a, p_10, c_11, c_12, c_14]); done) | ((try simp only [kSubmit]); (repeat' split) <;> simp_all [-Int32.not_le, -Int32.not_lt, st2_a, rGap, rWall]; done))
            refine sw_st (st' := [.int (kSubmit σ (rSub σ x y z) x y z), .ref m0]) (congrArg (fun z => ([.int z, .ref m0] : List Value)) h_16) ?_
            exact sw_sub (ks := [0, 1, 2, 3]) rfl (K_95 )
      ·
        refine sw_iconst (pc := 69) (v := 2) hc dX8_submit_69 (by decide) ?_
        refine sw_goto (pc := 70) (tgt := 95) hc dX8_submit_70 (by decide) ?_
        have h_17 : 2 = kSubmit σ (rSub σ x y z) x y z := by first | with_reducible rfl | (first | with_reducible rfl | (simp [-Int32.not_le, -Int32.not_lt, kSubmit, st2_a, p_10, c_11]; done) | (((try simp only [st2_a, Nat.reduceBEq, Bool.false_and, Bool.true_and, beq_self_eq_true, cond_false, cond_true] at p_10 c_11) <;> simp [-Int32.not_le, -Int32.not_lt, kSubmit, st2_a, p_10, c_11]); done) | ((try simp only [kSubmit]); (repeat' split) <;> simp_all [-Int32.not_le, -Int32.not_lt, st2_a, rGap, rWall]; done))
        refine sw_st (st' := [.int (kSubmit σ (rSub σ x y z) x y z), .ref m0]) (congrArg (fun z => ([.int z, .ref m0] : List Value)) h_17) ?_
        exact sw_sub (ks := [0, 1, 2, 3]) rfl (K_95 )
    ·
      have p_18 : ¬ (rThere σ x y z) := bI_0 c_9
      refine sw_iconst (pc := 50) (v := 1) hc dX8_submit_50 (by decide) ?_
      refine sw_goto (pc := 51) (tgt := 95) hc dX8_submit_51 (by decide) ?_
      have h_19 : 1 = kSubmit σ (rSub σ x y z) x y z := by first | with_reducible rfl | (first | with_reducible rfl | (simp [-Int32.not_le, -Int32.not_lt, kSubmit, st2_a, p_18]; done) | (((try simp only [st2_a, Nat.reduceBEq, Bool.false_and, Bool.true_and, beq_self_eq_true, cond_false, cond_true] at p_18) <;> simp [-Int32.not_le, -Int32.not_lt, kSubmit, st2_a, p_18]); done) | ((try simp only [kSubmit]); (repeat' split) <;> simp_all [-Int32.not_le, -Int32.not_lt, st2_a, rGap, rWall]; done))
      refine sw_st (st' := [.int (kSubmit σ (rSub σ x y z) x y z), .ref m0]) (congrArg (fun z => ([.int z, .ref m0] : List Value)) h_19) ?_
      exact sw_sub (ks := [0, 1, 2, 3]) rfl (K_95 )
  have K_29 : sg_W p l e (sg_rm 5 120 0 0) s m ([.ref m0, .int x, .int y, .int z] : List Value).toArray below meth c 5 g 0 0 (sg_End below g (fun v C' => v = some (.int (vSubmit σ x y z)) ∧ C' = sg_ov C (mW g m0 q (fSubmit σ x y z))) sg_no ([.ref m0, .int x, .int y, .int z] : List Value).toArray s 0 0) (sg_ov C (mW g m0 q σ)) 29 [(0, .ref m0), (1, .int x), (2, .int y), (3, .int z)] [.int (bI (rThere σ x y z))] := by
    refine sw_istore (pc := 29) hc dX8_submit_29 (by decide) (lv' := [(4, .int (bI (rThere σ x y z))), (0, .ref m0), (1, .int x), (2, .int y), (3, .int z)]) rfl ?_
    refine sw_iload (pc := 31) hc dX8_submit_31 0 rfl ?_
    refine sw_if_eq (pc := 33) (tgt := 44) hc dX8_submit_33 (by decide) (fun c_20 => ?_) (fun c_20 => ?_)
    ·
      have p_21 : ¬ (rThere σ x y z) := bI_0 c_20
      have h_22 : σ = rSub σ x y z := by first | with_reducible rfl | (first | with_reducible rfl | (simp [-Int32.not_le, -Int32.not_lt, rSub, st2_a, p_21]; done) | (((try simp only [st2_a, Nat.reduceBEq, Bool.false_and, Bool.true_and, beq_self_eq_true, cond_false, cond_true] at p_21) <;> simp [-Int32.not_le, -Int32.not_lt, rSub, st2_a, p_21]); done) | ((try simp only [rSub]); (repeat' split) <;> simp_all [-Int32.not_le, -Int32.not_lt, st2_a, rGap, rWall]; done))
      exact sw_sub (ks := [1, 2, 3, 4, 0]) rfl (K_44 σ h_22)
    ·
      have p_23 : rThere σ x y z := bI_n c_20
      obtain ⟨fy, fy2⟩ := rIn_x hWF.2.1 (by decide) p_23.2.1; obtain ⟨fz, fz2⟩ := rIn_x hWF.2.2.1 (by decide) p_23.2.2; have b9 := hWF.2.1.2; have b16 := hWF.2.2.1.2
      refine sw_aload_n (pc := 36) hc dX8_submit_36 rfl 1 rfl ?_
      refine sw_iload_n (pc := 37) hc dX8_submit_37 rfl 3 rfl ?_
      refine sw_sipush (pc := 38) (v := 500) hc dX8_submit_38 (by decide) ?_
      refine sw_st (st' := [.int 500, .int (nI (iN y)), .ref m0]) (congrArg (fun z => ([.int 500, .int z, .ref m0] : List Value)) fy) ?_
      refine sw_callV (pc := 41) (rest := []) hc (c_X8_run l g C m0 q σ (iN y) 500 hN (hWF.rp fy2)) md_X8_run ml_RX8_184 im_X8_run sl_X8_run (mW_o hN) rfl rfl rfl (Nat.le_of_ble_eq_true rfl) dX8_submit_41 ⟨Nat.le_of_ble_eq_true rfl, Nat.le_of_ble_eq_true rfl, Nat.le_of_ble_eq_true rfl, Nat.le_of_ble_eq_true rfl⟩ (fun v C' hP => ?_) (fun _ _ h => h.elim)
      obtain ⟨rfl, rfl⟩ := hP
      refine sw_st (st' := []) rfl ?_
      have h_24 : rRun σ (iN y) 500 = rSub σ x y z := by first | with_reducible rfl | (first | with_reducible rfl | (simp [-Int32.not_le, -Int32.not_lt, rSub, st2_a, p_23]; done) | (((try simp only [st2_a, Nat.reduceBEq, Bool.false_and, Bool.true_and, beq_self_eq_true, cond_false, cond_true] at p_23) <;> simp [-Int32.not_le, -Int32.not_lt, rSub, st2_a, p_23]); done) | ((try simp only [rSub]); (repeat' split) <;> simp_all [-Int32.not_le, -Int32.not_lt, st2_a, rGap, rWall]; done))
      exact sw_sub (ks := [1, 2, 3, 4, 0]) rfl (K_44 (rRun σ (iN y) 500) h_24)
  refine sw_aload_n (pc := 0) hc dX8_submit_0 rfl 0 rfl ?_
  refine sw_iload_n (pc := 1) hc dX8_submit_1 rfl 1 rfl ?_
  refine sw_callV (pc := 2) (rest := []) hc (c_X8_isRunner l g C m0 q σ x hN ) md_X8_isRunner ml_RX8_203 im_X8_isRunner sl_X8_isRunner (mW_o hN) rfl rfl rfl (Nat.le_of_ble_eq_true rfl) dX8_submit_2 ⟨Nat.le_of_ble_eq_true rfl, Nat.le_of_ble_eq_true rfl, Nat.le_of_ble_eq_true rfl, Nat.le_of_ble_eq_true rfl⟩ (fun v C' hP => ?_) (fun _ _ h => h.elim)
  obtain ⟨rfl, rfl⟩ := hP
  refine sw_st (st' := [.int (bI (0 ≤ x ∧ x ≤ 7))]) rfl ?_
  refine sw_if_eq (pc := 5) (tgt := 28) hc dX8_submit_5 (by decide) (fun c_25 => ?_) (fun c_25 => ?_)
  ·
    have p_26 : ¬ (0 ≤ x ∧ x ≤ 7) := bI_0 c_25
    refine sw_iconst (pc := 28) (v := 0) hc dX8_submit_28 (by decide) ?_
    have h_27 : 0 = bI (rThere σ x y z) := by first | with_reducible rfl | (first | with_reducible rfl | (simp [-Int32.not_le, -Int32.not_lt, bI, st2_a, p_26]; done) | (((try simp only [st2_a, Nat.reduceBEq, Bool.false_and, Bool.true_and, beq_self_eq_true, cond_false, cond_true] at p_26) <;> simp [-Int32.not_le, -Int32.not_lt, bI, st2_a, p_26]); done) | ((try simp only [bI]); (repeat' split) <;> simp_all [-Int32.not_le, -Int32.not_lt, st2_a, rGap, rWall]; done))
    refine sw_st (st' := [.int (bI (rThere σ x y z))]) (congrArg (fun z => ([.int z] : List Value)) h_27) ?_
    exact sw_sub (ks := [0, 1, 2, 3]) rfl (K_29 )
  ·
    have p_28 : 0 ≤ x ∧ x ≤ 7 := bI_n c_25
    refine sw_aload_n (pc := 8) hc dX8_submit_8 rfl 0 rfl ?_
    refine sw_iload_n (pc := 9) hc dX8_submit_9 rfl 2 rfl ?_
    refine sw_callV (pc := 10) (rest := []) hc (c_X8_isReplay l g C m0 q σ y hN ) md_X8_isReplay ml_RX8_181 im_X8_isReplay sl_X8_isReplay (mW_o hN) rfl rfl rfl (Nat.le_of_ble_eq_true rfl) dX8_submit_10 ⟨Nat.le_of_ble_eq_true rfl, Nat.le_of_ble_eq_true rfl, Nat.le_of_ble_eq_true rfl, Nat.le_of_ble_eq_true rfl⟩ (fun v C' hP => ?_) (fun _ _ h => h.elim)
    obtain ⟨rfl, rfl⟩ := hP
    refine sw_st (st' := [.int (bI (rIn σ 9 y))]) rfl ?_
    refine sw_if_eq (pc := 13) (tgt := 28) hc dX8_submit_13 (by decide) (fun c_29 => ?_) (fun c_29 => ?_)
    ·
      have p_30 : ¬ (rIn σ 9 y) := bI_0 c_29
      refine sw_iconst (pc := 28) (v := 0) hc dX8_submit_28 (by decide) ?_
      have h_31 : 0 = bI (rThere σ x y z) := by first | with_reducible rfl | (first | with_reducible rfl | (simp [-Int32.not_le, -Int32.not_lt, bI, st2_a, p_28, p_30]; done) | (((try simp only [st2_a, Nat.reduceBEq, Bool.false_and, Bool.true_and, beq_self_eq_true, cond_false, cond_true] at p_28 p_30) <;> simp [-Int32.not_le, -Int32.not_lt, bI, st2_a, p_28, p_30]); done) | ((try simp only [bI]); (repeat' split) <;> simp_all [-Int32.not_le, -Int32.not_lt, st2_a, rGap, rWall]; done))
      refine sw_st (st' := [.int (bI (rThere σ x y z))]) (congrArg (fun z => ([.int z] : List Value)) h_31) ?_
      exact sw_sub (ks := [0, 1, 2, 3]) rfl (K_29 )
    ·
      have p_32 : rIn σ 9 y := bI_n c_29
      refine sw_aload_n (pc := 16) hc dX8_submit_16 rfl 0 rfl ?_
      refine sw_iload_n (pc := 17) hc dX8_submit_17 rfl 3 rfl ?_
      refine sw_callV (pc := 18) (rest := []) hc (c_X8_isCategory l g C m0 q σ z hN ) md_X8_isCategory ml_RX8_197 im_X8_isCategory sl_X8_isCategory (mW_o hN) rfl rfl rfl (Nat.le_of_ble_eq_true rfl) dX8_submit_18 ⟨Nat.le_of_ble_eq_true rfl, Nat.le_of_ble_eq_true rfl, Nat.le_of_ble_eq_true rfl, Nat.le_of_ble_eq_true rfl⟩ (fun v C' hP => ?_) (fun _ _ h => h.elim)
      obtain ⟨rfl, rfl⟩ := hP
      refine sw_st (st' := [.int (bI (rIn σ 16 z))]) rfl ?_
      refine sw_if_eq (pc := 21) (tgt := 28) hc dX8_submit_21 (by decide) (fun c_33 => ?_) (fun c_33 => ?_)
      ·
        have p_34 : ¬ (rIn σ 16 z) := bI_0 c_33
        refine sw_iconst (pc := 28) (v := 0) hc dX8_submit_28 (by decide) ?_
        have h_35 : 0 = bI (rThere σ x y z) := by first | with_reducible rfl | (first | with_reducible rfl | (simp [-Int32.not_le, -Int32.not_lt, bI, st2_a, p_28, p_32, p_34]; done) | (((try simp only [st2_a, Nat.reduceBEq, Bool.false_and, Bool.true_and, beq_self_eq_true, cond_false, cond_true] at p_28 p_32 p_34) <;> simp [-Int32.not_le, -Int32.not_lt, bI, st2_a, p_28, p_32, p_34]); done) | ((try simp only [bI]); (repeat' split) <;> simp_all [-Int32.not_le, -Int32.not_lt, st2_a, rGap, rWall]; done))
        refine sw_st (st' := [.int (bI (rThere σ x y z))]) (congrArg (fun z => ([.int z] : List Value)) h_35) ?_
        exact sw_sub (ks := [0, 1, 2, 3]) rfl (K_29 )
      ·
        have p_36 : rIn σ 16 z := bI_n c_33
        refine sw_iconst (pc := 24) (v := 1) hc dX8_submit_24 (by decide) ?_
        refine sw_goto (pc := 25) (tgt := 29) hc dX8_submit_25 (by decide) ?_
        have h_37 : 1 = bI (rThere σ x y z) := by first | with_reducible rfl | (first | with_reducible rfl | (simp [-Int32.not_le, -Int32.not_lt, bI, st2_a, p_28, p_32, p_36]; done) | (((try simp only [st2_a, Nat.reduceBEq, Bool.false_and, Bool.true_and, beq_self_eq_true, cond_false, cond_true] at p_28 p_32 p_36) <;> simp [-Int32.not_le, -Int32.not_lt, bI, st2_a, p_28, p_32, p_36]); done) | ((try simp only [bI]); (repeat' split) <;> simp_all [-Int32.not_le, -Int32.not_lt, st2_a, rGap, rWall]; done))
        refine sw_st (st' := [.int (bI (rThere σ x y z))]) (congrArg (fun z => ([.int z] : List Value)) h_37) ?_
        exact sw_sub (ks := [0, 1, 2, 3]) rfl (K_29 )

set_option maxHeartbeats 4000000 in
set_option maxRecDepth 100000 in
theorem c_X8_judged (l : Launch) (g : sg_G) (C : Nat → Option va_E) (m0 : Nat) (q : Nat → Nat) (σ : Mem) (x : Int32) (hN : mN m0 q) (hWF : rWF σ) : sg_Met l yX8_judged cX8_judged 2 (some .int) 2 46 0 0 g [.ref m0, .int x] (sg_ov C (mW g m0 q σ)) (fun v C' => v = some (.int (vJudged σ x)) ∧ C' = sg_ov C (mW g m0 q (fIn σ 26 x))) sg_no := by
  refine sg_ofW (by decide) rfl ?_ (Nat.le_of_ble_eq_true rfl)
  intro p e s m below meth c hc hlk hrt hin2 htb
  have hc : sg_Cx p s m _ c cX8_judged 2 RX8 g := hc
  show sg_W p l e _ s m _ below meth c 2 g 0 0 _ (sg_ov C (mW g m0 q σ)) 0 [(0, .ref m0), (1, .int x)] []
  have K_14 : sg_W p l e (sg_rm 2 46 0 0) s m ([.ref m0, .int x] : List Value).toArray below meth c 2 g 0 0 (sg_End below g (fun v C' => v = some (.int (vJudged σ x)) ∧ C' = sg_ov C (mW g m0 q (fIn σ 26 x))) sg_no ([.ref m0, .int x] : List Value).toArray s 0 0) (sg_ov C (mW g m0 q σ)) 14 [(0, .ref m0), (1, .int x)] [.int (kIn σ 26 x), .ref m0] := by
    refine sw_callV (pc := 14) (rest := []) hc (c_X8_holds l g C m0 q σ (kIn σ 26 x) hN ) md_X8_holds ml_RX8_171 im_X8_holds sl_X8_holds (mW_o hN) rfl rfl rfl (Nat.le_of_ble_eq_true rfl) dX8_judged_14 ⟨Nat.le_of_ble_eq_true rfl, Nat.le_of_ble_eq_true rfl, Nat.le_of_ble_eq_true rfl, Nat.le_of_ble_eq_true rfl⟩ (fun v C' hP => ?_) (fun _ _ h => h.elim)
    obtain ⟨rfl, rfl⟩ := hP
    refine sw_st (st' := [.int (bI (0 < (kIn σ 26 x)))]) rfl ?_
    refine sw_if_eq (pc := 17) (tgt := 24) hc dX8_judged_17 (by decide) (fun c_1 => ?_) (fun c_1 => ?_)
    ·
      have p_2 : ¬ (0 < (kIn σ 26 x)) := bI_0 c_1
      have k0 := kIn_0 p_2; obtain ⟨fx, fx2⟩ := rIn_x hWF.2.2.2.1 (by decide) k0; have fxb := hWF.2.2.2.1.2
      refine sw_aload_n (pc := 24) hc dX8_judged_24 rfl 0 rfl ?_
      refine sw_iload_n (pc := 25) hc dX8_judged_25 rfl 1 rfl ?_
      refine sw_st (st' := [.int (nI (iN x)), .ref m0]) (congrArg (fun z => ([.int z, .ref m0] : List Value)) fx) ?_
      refine sw_callV (pc := 26) (rest := []) hc (c_X8_refused l g C m0 q (st2 σ 42 0 (kIn σ 26 x)) (iN x) hN (hWF.t.rn fx2)) md_X8_refused ml_RX8_194 im_X8_refused sl_X8_refused (mW_o hN) rfl rfl rfl (Nat.le_of_ble_eq_true rfl) dX8_judged_26 ⟨Nat.le_of_ble_eq_true rfl, Nat.le_of_ble_eq_true rfl, Nat.le_of_ble_eq_true rfl, Nat.le_of_ble_eq_true rfl⟩ (fun v C' hP => ?_) (fun _ _ h => h.elim)
      obtain ⟨rfl, rfl⟩ := hP
      refine sw_st (st' := [.int (bI (rRef (st2 σ 42 0 (kIn σ 26 x)) (iN x)))]) rfl ?_
      refine sw_if_eq (pc := 29) (tgt := 36) hc dX8_judged_29 (by decide) (fun c_3 => ?_) (fun c_3 => ?_)
      ·
        have p_4 : ¬ (rRef (st2 σ 42 0 (kIn σ 26 x)) (iN x)) := bI_0 c_3
        refine sw_iconst (pc := 36) (v := 0) hc dX8_judged_36 (by decide) ?_
        refine sw_iconst (pc := 37) (v := 2) hc dX8_judged_37 (by decide) ?_
        refine sw_aload_n (pc := 38) hc dX8_judged_38 rfl 0 rfl ?_
        refine sw_get (pc := 39) (v := .ref (q 21)) hc fl_RX8_64 (mW_o hN) rfl dX8_judged_39 ?_
        refine sw_iload_n (pc := 42) hc dX8_judged_42 rfl 1 rfl ?_
        refine sw_iald (pc := 43) (j := (iN x)) hc (mW_a21 hN) fx (by omega) (by decide) dX8_judged_43 ?_
        refine sw_imul (pc := 44) hc dX8_judged_44 ?_
        refine sw_iadd (pc := 45) hc dX8_judged_45 ?_
        have h_5 : 0 + (2 * ((st2 σ 42 0 (kIn σ 26 x)) 21 (iN x))) = vJudged σ x := by first | rfl | exact (if_pos (by assumption)).symm | (unfold vJudged; rw [if_neg (by assumption)]; first | (rw [bI_t (by assumption)]; rfl) | (rw [bI_f (by assumption)]; rfl))
        have h_6 : st2 σ 42 0 (kIn σ 26 x) = fIn σ 26 x := by first | rfl | exact (if_pos (by assumption)).symm | (unfold vJudged; rw [if_neg (by assumption)]; first | (rw [bI_t (by assumption)]; rfl) | (rw [bI_f (by assumption)]; rfl))
        exact sw_iret (pc := 46) hc hlk hrt rfl ⟨(congrArg (fun z => some (Value.int z)) h_5), (congrArg (fun z => sg_ov C (mW g m0 q z)) h_6)⟩ (Nat.le_of_ble_eq_true rfl) (Nat.le_of_ble_eq_true rfl) dX8_judged_46
      ·
        have p_7 : rRef (st2 σ 42 0 (kIn σ 26 x)) (iN x) := bI_n c_3
        refine sw_iconst (pc := 32) (v := 1) hc dX8_judged_32 (by decide) ?_
        refine sw_goto (pc := 33) (tgt := 37) hc dX8_judged_33 (by decide) ?_
        refine sw_iconst (pc := 37) (v := 2) hc dX8_judged_37 (by decide) ?_
        refine sw_aload_n (pc := 38) hc dX8_judged_38 rfl 0 rfl ?_
        refine sw_get (pc := 39) (v := .ref (q 21)) hc fl_RX8_64 (mW_o hN) rfl dX8_judged_39 ?_
        refine sw_iload_n (pc := 42) hc dX8_judged_42 rfl 1 rfl ?_
        refine sw_iald (pc := 43) (j := (iN x)) hc (mW_a21 hN) fx (by omega) (by decide) dX8_judged_43 ?_
        refine sw_imul (pc := 44) hc dX8_judged_44 ?_
        refine sw_iadd (pc := 45) hc dX8_judged_45 ?_
        have h_8 : 1 + (2 * ((st2 σ 42 0 (kIn σ 26 x)) 21 (iN x))) = vJudged σ x := by first | rfl | exact (if_pos (by assumption)).symm | (unfold vJudged; rw [if_neg (by assumption)]; first | (rw [bI_t (by assumption)]; rfl) | (rw [bI_f (by assumption)]; rfl))
        have h_9 : st2 σ 42 0 (kIn σ 26 x) = fIn σ 26 x := by first | rfl | exact (if_pos (by assumption)).symm | (unfold vJudged; rw [if_neg (by assumption)]; first | (rw [bI_t (by assumption)]; rfl) | (rw [bI_f (by assumption)]; rfl))
        exact sw_iret (pc := 46) hc hlk hrt rfl ⟨(congrArg (fun z => some (Value.int z)) h_8), (congrArg (fun z => sg_ov C (mW g m0 q z)) h_9)⟩ (Nat.le_of_ble_eq_true rfl) (Nat.le_of_ble_eq_true rfl) dX8_judged_46
    ·
      have p_10 : 0 < (kIn σ 26 x) := bI_n c_1
      refine sw_iconst (pc := 20) (v := (-1)) hc dX8_judged_20 (by decide) ?_
      refine sw_goto (pc := 21) (tgt := 46) hc dX8_judged_21 (by decide) ?_
      have h_11 : (-1) = vJudged σ x := by first | rfl | exact (if_pos (by assumption)).symm | (unfold vJudged; rw [if_neg (by assumption)]; first | (rw [bI_t (by assumption)]; rfl) | (rw [bI_f (by assumption)]; rfl))
      have h_12 : st2 σ 42 0 (kIn σ 26 x) = fIn σ 26 x := by first | rfl | exact (if_pos (by assumption)).symm | (unfold vJudged; rw [if_neg (by assumption)]; first | (rw [bI_t (by assumption)]; rfl) | (rw [bI_f (by assumption)]; rfl))
      exact sw_iret (pc := 46) hc hlk hrt rfl ⟨(congrArg (fun z => some (Value.int z)) h_11), (congrArg (fun z => sg_ov C (mW g m0 q z)) h_12)⟩ (Nat.le_of_ble_eq_true rfl) (Nat.le_of_ble_eq_true rfl) dX8_judged_46
  refine sw_aload_n (pc := 0) hc dX8_judged_0 rfl 0 rfl ?_
  refine sw_aload_n (pc := 1) hc dX8_judged_1 rfl 0 rfl ?_
  refine sw_iload_n (pc := 2) hc dX8_judged_2 rfl 1 rfl ?_
  refine sw_callV (pc := 3) (rest := [.ref m0]) hc (c_X8_isRun l g C m0 q σ x hN ) md_X8_isRun ml_RX8_206 im_X8_isRun sl_X8_isRun (mW_o hN) rfl rfl rfl (Nat.le_of_ble_eq_true rfl) dX8_judged_3 ⟨Nat.le_of_ble_eq_true rfl, Nat.le_of_ble_eq_true rfl, Nat.le_of_ble_eq_true rfl, Nat.le_of_ble_eq_true rfl⟩ (fun v C' hP => ?_) (fun _ _ h => h.elim)
  obtain ⟨rfl, rfl⟩ := hP
  refine sw_st (st' := [.int (bI (rIn σ 26 x)), .ref m0]) rfl ?_
  refine sw_if_eq (pc := 6) (tgt := 13) hc dX8_judged_6 (by decide) (fun c_13 => ?_) (fun c_13 => ?_)
  ·
    have p_14 : ¬ (rIn σ 26 x) := bI_0 c_13
    refine sw_iconst (pc := 13) (v := 1) hc dX8_judged_13 (by decide) ?_
    have h_15 : 1 = kIn σ 26 x := by first | with_reducible rfl | (first | with_reducible rfl | (simp [-Int32.not_le, -Int32.not_lt, kIn, st2_a, p_14]; done) | (((try simp only [st2_a, Nat.reduceBEq, Bool.false_and, Bool.true_and, beq_self_eq_true, cond_false, cond_true] at p_14) <;> simp [-Int32.not_le, -Int32.not_lt, kIn, st2_a, p_14]); done) | ((try simp only [kIn]); (repeat' split) <;> simp_all [-Int32.not_le, -Int32.not_lt, st2_a, rGap, rWall]; done))
    refine sw_st (st' := [.int (kIn σ 26 x), .ref m0]) (congrArg (fun z => ([.int z, .ref m0] : List Value)) h_15) ?_
    exact sw_sub (ks := [0, 1]) rfl (K_14 )
  ·
    have p_16 : rIn σ 26 x := bI_n c_13
    refine sw_iconst (pc := 9) (v := 0) hc dX8_judged_9 (by decide) ?_
    refine sw_goto (pc := 10) (tgt := 14) hc dX8_judged_10 (by decide) ?_
    have h_17 : 0 = kIn σ 26 x := by first | with_reducible rfl | (first | with_reducible rfl | (simp [-Int32.not_le, -Int32.not_lt, kIn, st2_a, p_16]; done) | (((try simp only [st2_a, Nat.reduceBEq, Bool.false_and, Bool.true_and, beq_self_eq_true, cond_false, cond_true] at p_16) <;> simp [-Int32.not_le, -Int32.not_lt, kIn, st2_a, p_16]); done) | ((try simp only [kIn]); (repeat' split) <;> simp_all [-Int32.not_le, -Int32.not_lt, st2_a, rGap, rWall]; done))
    refine sw_st (st' := [.int (kIn σ 26 x), .ref m0]) (congrArg (fun z => ([.int z, .ref m0] : List Value)) h_17) ?_
    exact sw_sub (ks := [0, 1]) rfl (K_14 )

set_option maxHeartbeats 4000000 in
set_option maxRecDepth 100000 in
theorem c_X8_strike (l : Launch) (g : sg_G) (C : Nat → Option va_E) (m0 : Nat) (q : Nat → Nat) (σ : Mem) (x : Int32) (hN : mN m0 q) (hWF : rWF σ) : sg_Met l yX8_strike cX8_strike 2 (some .boolean) 2 44 0 0 g [.ref m0, .int x] (sg_ov C (mW g m0 q σ)) (fun v C' => v = some (.int (bI (pStrike σ x))) ∧ C' = sg_ov C (mW g m0 q (fStrike σ x))) sg_no := by
  refine sg_ofW (by decide) rfl ?_ (Nat.le_of_ble_eq_true rfl)
  intro p e s m below meth c hc hlk hrt hin2 htb
  have hc : sg_Cx p s m _ c cX8_strike 2 RX8 g := hc
  show sg_W p l e _ s m _ below meth c 2 g 0 0 _ (sg_ov C (mW g m0 q σ)) 0 [(0, .ref m0), (1, .int x)] []
  have K_14 : sg_W p l e (sg_rm 2 44 0 0) s m ([.ref m0, .int x] : List Value).toArray below meth c 2 g 0 0 (sg_End below g (fun v C' => v = some (.int (bI (pStrike σ x))) ∧ C' = sg_ov C (mW g m0 q (fStrike σ x))) sg_no ([.ref m0, .int x] : List Value).toArray s 0 0) (sg_ov C (mW g m0 q σ)) 14 [(0, .ref m0), (1, .int x)] [.int (kIn σ 26 x), .ref m0] := by
    refine sw_callV (pc := 14) (rest := []) hc (c_X8_holds l g C m0 q σ (kIn σ 26 x) hN ) md_X8_holds ml_RX8_171 im_X8_holds sl_X8_holds (mW_o hN) rfl rfl rfl (Nat.le_of_ble_eq_true rfl) dX8_strike_14 ⟨Nat.le_of_ble_eq_true rfl, Nat.le_of_ble_eq_true rfl, Nat.le_of_ble_eq_true rfl, Nat.le_of_ble_eq_true rfl⟩ (fun v C' hP => ?_) (fun _ _ h => h.elim)
    obtain ⟨rfl, rfl⟩ := hP
    refine sw_st (st' := [.int (bI (0 < (kIn σ 26 x)))]) rfl ?_
    refine sw_if_eq (pc := 17) (tgt := 22) hc dX8_strike_17 (by decide) (fun c_1 => ?_) (fun c_1 => ?_)
    ·
      have p_2 : ¬ (0 < (kIn σ 26 x)) := bI_0 c_1
      have k0 := kIn_0 p_2; obtain ⟨fx, fx2⟩ := rIn_x hWF.2.2.2.1 (by decide) k0; have fxb := hWF.2.2.2.1.2
      refine sw_aload_n (pc := 22) hc dX8_strike_22 rfl 0 rfl ?_
      refine sw_get (pc := 23) (v := .ref (q 21)) hc fl_RX8_64 (mW_o hN) rfl dX8_strike_23 ?_
      refine sw_iload_n (pc := 26) hc dX8_strike_26 rfl 1 rfl ?_
      refine sw_iconst (pc := 27) (v := 1) hc dX8_strike_27 (by decide) ?_
      refine sw_aload_n (pc := 28) hc dX8_strike_28 rfl 0 rfl ?_
      refine sw_get (pc := 29) (v := .ref (q 21)) hc fl_RX8_64 (mW_o hN) rfl dX8_strike_29 ?_
      refine sw_iload_n (pc := 32) hc dX8_strike_32 rfl 1 rfl ?_
      refine sw_iald (pc := 33) (j := (iN x)) hc (mW_a21 hN) fx (by omega) (by decide) dX8_strike_33 ?_
      refine sw_isub (pc := 34) hc dX8_strike_34 ?_
      refine sw_iast (pc := 35) (j := (iN x)) hc (mW_a21 hN) fx (by omega) (by decide) dX8_strike_35 ?_
      refine sw_eq (mW_s21 hN) ?_
      refine sw_aload_n (pc := 36) hc dX8_strike_36 rfl 0 rfl ?_
      refine sw_get (pc := 37) (v := .ref (q 21)) hc fl_RX8_64 (mW_o hN) rfl dX8_strike_37 ?_
      refine sw_iload_n (pc := 40) hc dX8_strike_40 rfl 1 rfl ?_
      refine sw_iald (pc := 41) (j := (iN x)) hc (mW_a21 hN) fx (by omega) (by decide) dX8_strike_41 ?_
      refine sw_st (st' := [.int (1 - σ 21 (iN x))]) (congrArg (fun z => ([.int z] : List Value)) (st2_ss : (st2 (st2 σ 42 0 (kIn σ 26 x)) 21 (iN x) (1 - ((st2 σ 42 0 (kIn σ 26 x)) 21 (iN x)))) 21 (iN x) = 1 - σ 21 (iN x))) ?_
      refine sw_iconst (pc := 42) (v := 1) hc dX8_strike_42 (by decide) ?_
      refine sw_icmp_ne (pc := 43) (tgt := 50) hc dX8_strike_43 (by decide) (fun c_3 => ?_) (fun c_3 => ?_)
      ·
        refine sw_iconst (pc := 50) (v := 0) hc dX8_strike_50 (by decide) ?_
        have h_4 : 0 = bI (pStrike σ x) := by first | exact (if_pos (by assumption)).symm | exact (if_neg (by assumption)).symm | simp [bI, p_2, c_3]
        have h_5 : st2 (st2 σ 42 0 (kIn σ 26 x)) 21 (iN x) (1 - ((st2 σ 42 0 (kIn σ 26 x)) 21 (iN x))) = fStrike σ x := by first | exact (if_pos (by assumption)).symm | exact (if_neg (by assumption)).symm | simp [bI, p_2, c_3]
        exact sw_iret (pc := 51) hc hlk hrt rfl ⟨(congrArg (fun z => some (Value.int z)) h_4), (congrArg (fun z => sg_ov C (mW g m0 q z)) h_5)⟩ (Nat.le_of_ble_eq_true rfl) (Nat.le_of_ble_eq_true rfl) dX8_strike_51
      ·
        refine sw_iconst (pc := 46) (v := 1) hc dX8_strike_46 (by decide) ?_
        refine sw_goto (pc := 47) (tgt := 51) hc dX8_strike_47 (by decide) ?_
        have h_6 : 1 = bI (pStrike σ x) := by first | exact (if_pos (by assumption)).symm | exact (if_neg (by assumption)).symm | simp [bI, p_2, c_3]
        have h_7 : st2 (st2 σ 42 0 (kIn σ 26 x)) 21 (iN x) (1 - ((st2 σ 42 0 (kIn σ 26 x)) 21 (iN x))) = fStrike σ x := by first | exact (if_pos (by assumption)).symm | exact (if_neg (by assumption)).symm | simp [bI, p_2, c_3]
        exact sw_iret (pc := 51) hc hlk hrt rfl ⟨(congrArg (fun z => some (Value.int z)) h_6), (congrArg (fun z => sg_ov C (mW g m0 q z)) h_7)⟩ (Nat.le_of_ble_eq_true rfl) (Nat.le_of_ble_eq_true rfl) dX8_strike_51
    ·
      have p_8 : 0 < (kIn σ 26 x) := bI_n c_1
      refine sw_iconst (pc := 20) (v := 0) hc dX8_strike_20 (by decide) ?_
      have h_9 : 0 = bI (pStrike σ x) := by first | exact (if_pos (by assumption)).symm | exact (if_neg (by assumption)).symm | simp [bI, p_8]
      have h_10 : st2 σ 42 0 (kIn σ 26 x) = fStrike σ x := by first | exact (if_pos (by assumption)).symm | exact (if_neg (by assumption)).symm | simp [bI, p_8]
      exact sw_iret (pc := 21) hc hlk hrt rfl ⟨(congrArg (fun z => some (Value.int z)) h_9), (congrArg (fun z => sg_ov C (mW g m0 q z)) h_10)⟩ (Nat.le_of_ble_eq_true rfl) (Nat.le_of_ble_eq_true rfl) dX8_strike_21
  refine sw_aload_n (pc := 0) hc dX8_strike_0 rfl 0 rfl ?_
  refine sw_aload_n (pc := 1) hc dX8_strike_1 rfl 0 rfl ?_
  refine sw_iload_n (pc := 2) hc dX8_strike_2 rfl 1 rfl ?_
  refine sw_callV (pc := 3) (rest := [.ref m0]) hc (c_X8_isRun l g C m0 q σ x hN ) md_X8_isRun ml_RX8_206 im_X8_isRun sl_X8_isRun (mW_o hN) rfl rfl rfl (Nat.le_of_ble_eq_true rfl) dX8_strike_3 ⟨Nat.le_of_ble_eq_true rfl, Nat.le_of_ble_eq_true rfl, Nat.le_of_ble_eq_true rfl, Nat.le_of_ble_eq_true rfl⟩ (fun v C' hP => ?_) (fun _ _ h => h.elim)
  obtain ⟨rfl, rfl⟩ := hP
  refine sw_st (st' := [.int (bI (rIn σ 26 x)), .ref m0]) rfl ?_
  refine sw_if_eq (pc := 6) (tgt := 13) hc dX8_strike_6 (by decide) (fun c_11 => ?_) (fun c_11 => ?_)
  ·
    have p_12 : ¬ (rIn σ 26 x) := bI_0 c_11
    refine sw_iconst (pc := 13) (v := 1) hc dX8_strike_13 (by decide) ?_
    have h_13 : 1 = kIn σ 26 x := by first | with_reducible rfl | (first | with_reducible rfl | (simp [-Int32.not_le, -Int32.not_lt, kIn, st2_a, p_12]; done) | (((try simp only [st2_a, Nat.reduceBEq, Bool.false_and, Bool.true_and, beq_self_eq_true, cond_false, cond_true] at p_12) <;> simp [-Int32.not_le, -Int32.not_lt, kIn, st2_a, p_12]); done) | ((try simp only [kIn]); (repeat' split) <;> simp_all [-Int32.not_le, -Int32.not_lt, st2_a, rGap, rWall]; done))
    refine sw_st (st' := [.int (kIn σ 26 x), .ref m0]) (congrArg (fun z => ([.int z, .ref m0] : List Value)) h_13) ?_
    exact sw_sub (ks := [0, 1]) rfl (K_14 )
  ·
    have p_14 : rIn σ 26 x := bI_n c_11
    refine sw_iconst (pc := 9) (v := 0) hc dX8_strike_9 (by decide) ?_
    refine sw_goto (pc := 10) (tgt := 14) hc dX8_strike_10 (by decide) ?_
    have h_15 : 0 = kIn σ 26 x := by first | with_reducible rfl | (first | with_reducible rfl | (simp [-Int32.not_le, -Int32.not_lt, kIn, st2_a, p_14]; done) | (((try simp only [st2_a, Nat.reduceBEq, Bool.false_and, Bool.true_and, beq_self_eq_true, cond_false, cond_true] at p_14) <;> simp [-Int32.not_le, -Int32.not_lt, kIn, st2_a, p_14]); done) | ((try simp only [kIn]); (repeat' split) <;> simp_all [-Int32.not_le, -Int32.not_lt, st2_a, rGap, rWall]; done))
    refine sw_st (st' := [.int (kIn σ 26 x), .ref m0]) (congrArg (fun z => ([.int z, .ref m0] : List Value)) h_15) ?_
    exact sw_sub (ks := [0, 1]) rfl (K_14 )

