
abbrev rOpen (σ : Mem) (o : Nat) : Prop := 0 ≤ rTopN σ (σ 27 o) (σ 28 o) (-1)
def rAgn (σ : Mem) (x y : Int32) : Nat → Int32
  | 0 => 0
  | n + 1 => rAgn σ x y n ||| bI (σ 27 n = x ∧ σ 28 n = y)
abbrev rBar (σ : Mem) (x y : Int32) : Prop := rPair σ x y ∧ (¬ rAgn σ x y (iN (σ 30 0)) = 0 ∨ σ 30 0 = 10 ∨ rTopN σ x y (-1) < 0)
def kOffer (σ : Mem) (x y : Int32) : Int32 := if ¬ rPair σ x y then 1 else if rBar σ x y then 2 else 0
theorem kOffer_0 {σ : Mem} {x y : Int32} (k : ¬ 0 < kOffer σ x y) : rPair σ x y ∧ ¬ rBar σ x y := by
  unfold kOffer at k
  split at k
  · exact absurd (by decide) k
  · rename_i h1
    split at k
    · exact absurd (by decide) k
    · rename_i h2
      exact ⟨Decidable.not_not.mp h1, h2⟩
def oOffer (σ : Mem) (x y : Int32) : Mem := st2 (st2 (st2 σ 27 (iN (σ 30 0)) x) 28 (iN (σ 30 0)) y) 30 0 (σ 30 0 + 1)
def fOffer (σ : Mem) (x y : Int32) : Mem := if 0 < kOffer σ x y then st2 σ 42 0 (kOffer σ x y) else oOffer (st2 σ 42 0 (kOffer σ x y)) x y
def vOffer (σ : Mem) (x y : Int32) : Int32 := if 0 < kOffer σ x y then -1 else σ 30 0 + 1 - 1
def kGift (σ : Mem) (x a : Int32) : Int32 := if ¬ rIn σ 30 x then 1 else if ¬ (1 ≤ a ∧ a ≤ 1000) then 2 else if rOpen σ (iN x) then 0 else 3
theorem kGift_0 {σ : Mem} {x a : Int32} (k : ¬ 0 < kGift σ x a) : rIn σ 30 x ∧ (1 ≤ a ∧ a ≤ 1000) ∧ rOpen σ (iN x) := by
  unfold kGift at k
  split at k
  · exact absurd (by decide) k
  · rename_i h1
    split at k
    · exact absurd (by decide) k
    · rename_i h2
      split at k
      · rename_i h3; exact ⟨Decidable.not_not.mp h1, Decidable.not_not.mp h2, h3⟩
      · exact absurd (by decide) k
def fGift (σ : Mem) (x a : Int32) : Mem := if 0 < kGift σ x a then st2 σ 42 0 (kGift σ x a) else st2 (st2 σ 42 0 (kGift σ x a)) 29 (iN x) (σ 29 (iN x) + a)
def vGift (σ : Mem) (x a : Int32) : Int32 := if 0 < kGift σ x a then -1 else σ 29 (iN x) + a
def kPlan (r : Int32) : Int32 := if 0 ≤ r ∧ r ≤ 10000 then 0 else 1
abbrev rBit (s k : Nat) : Prop := nI s >>> (nI k &&& 31) &&& 1 = 1
/-- a set: its gifts, its estimates, whether all are open -/
def rPl1 (σ : Mem) (s : Nat) : Nat → Int32 × Int32 × Int32
  | 0 => (0, 0, 1)
  | k + 1 => if rBit s k then ((rPl1 σ s k).1 + σ 29 k, (rPl1 σ s k).2.1 + rGuess σ (σ 27 k) (σ 28 k), (rPl1 σ s k).2.2 &&& bI (0 ≤ rGuess σ (σ 27 k) (σ 28 k))) else rPl1 σ s k
abbrev rPlB (r : Int32) (a : Int32 × Int32 × Int32) (b : Int32 × Int32 × Int32) : Prop := ¬ a.2.2 = 0 ∧ a.2.1 ≤ r ∧ (b.2.1 < a.1 ∨ (a.1 = b.2.1 ∧ a.2.1 < b.2.2))
/-- the sets up to s: the best, its gifts, its time -/
def rPl2 (σ : Mem) (r : Int32) (O : Nat) : Nat → Int32 × Int32 × Int32
  | 0 => (0, 0, 0)
  | s + 1 => if rPlB r (rPl1 σ s O) (rPl2 σ r O s) then (nI s, (rPl1 σ s O).1, (rPl1 σ s O).2.1) else rPl2 σ r O s
def fPlan (σ : Mem) (r : Int32) : Mem := st2 σ 42 0 (kPlan r)
def vPlan (σ : Mem) (r : Int32) : Int32 := if 0 < kPlan r then -1 else (rPl2 (fPlan σ r) r (iN (σ 30 0)) (2 ^ iN (σ 30 0))).1
theorem shl_p {O : Nat} (h : O < 11) : (1 : Int32) <<< (nI O &&& 31) = nI (2 ^ O) := by
  have : ∀ k : Fin 11, (1 : Int32) <<< (nI k.1 &&& 31) = nI (2 ^ k.1) := by decide
  exact this ⟨O, h⟩
theorem pow_b {O : Nat} (h : O < 11) : 2 ^ O ≤ 1024 := by
  have : ∀ k : Fin 11, 2 ^ k.1 ≤ 1024 := by decide
  exact this ⟨O, h⟩
theorem rAgn_01 (σ : Mem) (x y : Int32) : ∀ n, rAgn σ x y n = 0 ∨ rAgn σ x y n = 1
  | 0 => .inl rfl
  | n + 1 => bor_01 (rAgn_01 σ x y n) bI_01
theorem rPl1_y {σ : Mem} {s k : Nat} {u v w : Int32} (hS : rPl1 σ s k = (u, v, w)) (h : rBit s k) {b : Int32} (hb : b = bI (0 ≤ rGuess σ (σ 27 k) (σ 28 k))) : rPl1 σ s (k + 1) = (u + σ 29 k, v + rGuess σ (σ 27 k) (σ 28 k), w &&& b) := by
  show (if _ then _ else _) = _
  rw [if_pos h, hS, hb]
theorem rPl1_n {σ : Mem} {s k : Nat} {u v w : Int32} (hS : rPl1 σ s k = (u, v, w)) (h : ¬ rBit s k) : rPl1 σ s (k + 1) = (u, v, w) := by
  show (if _ then _ else _) = _
  rw [if_neg h, hS]
theorem rPl2_y {σ : Mem} {r : Int32} {O s : Nat} {a b c u v w : Int32} (hS : rPl2 σ r O s = (a, b, c)) (h1 : rPl1 σ s O = (u, v, w)) (h : rPlB r (u, v, w) (a, b, c)) : rPl2 σ r O (s + 1) = (nI s, u, v) := by
  show (if _ then _ else _) = _
  rw [h1, hS, if_pos h]
theorem rPl2_n {σ : Mem} {r : Int32} {O s : Nat} {a b c u v w : Int32} (hS : rPl2 σ r O s = (a, b, c)) (h1 : rPl1 σ s O = (u, v, w)) (h : ¬ rPlB r (u, v, w) (a, b, c)) : rPl2 σ r O (s + 1) = (a, b, c) := by
  show (if _ then _ else _) = _
  rw [h1, hS, if_neg h]

theorem fl_RX8_79 : sg_FL RX8 79 9 27 := ⟨RX8, TX8, 43, "SplitGateModel", rfl, by decide, ti_9, .inl rfl, .inl (sg_mem (i := 891) (by decide +kernel) rfl)⟩
theorem fl_RX8_82 : sg_FL RX8 82 9 28 := ⟨RX8, TX8, 43, "SplitGateModel", rfl, by decide, ti_9, .inl rfl, .inl (sg_mem (i := 892) (by decide +kernel) rfl)⟩
theorem fl_RX8_228 : sg_FL RX8 228 9 30 := ⟨RX8, TX8, 43, "SplitGateModel", rfl, by decide, ti_9, .inl rfl, .inl (sg_mem (i := 894) (by decide +kernel) rfl)⟩
theorem fp_9_30 : sg_FP 9 30 false .int := ⟨RX8, TX8, 43, rfl, rfl, by decide +kernel, rfl⟩
theorem fl_RX8_85 : sg_FL RX8 85 9 29 := ⟨RX8, TX8, 43, "SplitGateModel", rfl, by decide, ti_9, .inl rfl, .inl (sg_mem (i := 893) (by decide +kernel) rfl)⟩
theorem md_X8_isOpen : sg_MD yX8_isOpen cX8_isOpen 2 (some .boolean) 1 := ⟨sg_mem (i := 1193) (by decide +kernel) rfl, sg_mem (i := 59) (by decide +kernel) rfl, ⟨by decide, by decide⟩, by decide +kernel⟩
theorem ml_RX8_231 : sg_ML RX8 231 yX8_isOpen := .inl (sg_mem (i := 1190) (by decide +kernel) rfl)
theorem im_X8_isOpen : Cond.instanceMethod yX8_isOpen ∈ sg_T := sg_mem (i := 1192) (by decide +kernel) rfl
theorem sl_X8_isOpen : Cond.selects yX8_isOpen.cls yX8_isOpen yX8_isOpen ∈ sg_T := sg_mem (i := 52) (by decide +kernel) rfl
set_option maxHeartbeats 4000000 in
set_option maxRecDepth 100000 in
theorem c_X8_isOpen (l : Launch) (g : sg_G) (C : Nat → Option va_E) (m0 : Nat) (q : Nat → Nat) (σ : Mem) (a : Nat) (hN : mN m0 q) (ha : a < 10) (hWF : rWF σ) : sg_Met l yX8_isOpen cX8_isOpen 2 (some .boolean) 4 93 0 0 g [.ref m0, .int (nI a)] (sg_ov C (mW g m0 q σ)) (fun v C' => v = some (.int (bI (rOpen σ a))) ∧ C' = sg_ov C (mW g m0 q σ)) sg_no := by
  refine sg_ofW (by decide) rfl ?_ (Nat.le_of_ble_eq_true rfl)
  intro p e s m below meth c hc hlk hrt hin2 htb
  have hc : sg_Cx p s m _ c cX8_isOpen 2 RX8 g := hc
  show sg_W p l e _ s m _ below meth c 2 g 0 0 _ (sg_ov C (mW g m0 q σ)) 0 [(0, .ref m0), (1, .int (nI a))] []
  refine sw_aload_n (pc := 0) hc dX8_isOpen_0 rfl 0 rfl ?_
  refine sw_aload_n (pc := 1) hc dX8_isOpen_1 rfl 0 rfl ?_
  refine sw_get (pc := 2) (v := .ref (q 27)) hc fl_RX8_79 (mW_o hN) rfl dX8_isOpen_2 ?_
  refine sw_iload_n (pc := 5) hc dX8_isOpen_5 rfl 1 rfl ?_
  refine sw_iald (pc := 6) (j := a) hc (mW_a27 hN) rfl ha (by decide) dX8_isOpen_6 ?_
  refine sw_aload_n (pc := 7) hc dX8_isOpen_7 rfl 0 rfl ?_
  refine sw_get (pc := 8) (v := .ref (q 28)) hc fl_RX8_82 (mW_o hN) rfl dX8_isOpen_8 ?_
  refine sw_iload_n (pc := 11) hc dX8_isOpen_11 rfl 1 rfl ?_
  refine sw_iald (pc := 12) (j := a) hc (mW_a28 hN) rfl ha (by decide) dX8_isOpen_12 ?_
  refine sw_iconst (pc := 13) (v := (-1)) hc dX8_isOpen_13 (by decide) ?_
  refine sw_callV (pc := 14) (rest := []) hc (c_X8_top l g C m0 q σ (σ 27 a) (σ 28 a) (-1) hN (hWF)) md_X8_top ml_RX8_218 im_X8_top sl_X8_top (mW_o hN) rfl rfl rfl (Nat.le_of_ble_eq_true rfl) dX8_isOpen_14 ⟨Nat.le_of_ble_eq_true rfl, Nat.le_of_ble_eq_true rfl, Nat.le_of_ble_eq_true rfl, Nat.le_of_ble_eq_true rfl⟩ (fun v C' hP => ?_) (fun _ _ h => h.elim)
  obtain ⟨rfl, rfl⟩ := hP
  refine sw_st (st' := [.int (rTopN σ (σ 27 a) (σ 28 a) (-1))]) rfl ?_
  refine sw_if_lt (pc := 17) (tgt := 24) hc dX8_isOpen_17 (by decide) (fun c_1 => ?_) (fun c_1 => ?_)
  ·
    have c_1' := Int32.not_le.mpr c_1
    refine sw_iconst (pc := 24) (v := 0) hc dX8_isOpen_24 (by decide) ?_
    have h_2 : 0 = bI (rOpen σ a) := by first | with_reducible rfl | (first | with_reducible rfl | (simp [-Int32.not_le, -Int32.not_lt, bI, st2_a, c_1, c_1']; done) | (((try simp only [st2_a, Nat.reduceBEq, Bool.false_and, Bool.true_and, beq_self_eq_true, cond_false, cond_true] at c_1 c_1') <;> simp [-Int32.not_le, -Int32.not_lt, bI, st2_a, c_1, c_1']); done) | ((try simp only [bI]); (repeat' split) <;> simp_all [-Int32.not_le, -Int32.not_lt, st2_a, rGap, rWall]; done))
    exact sw_iret (pc := 25) hc hlk hrt rfl ⟨(congrArg (fun z => some (Value.int z)) h_2), rfl⟩ (Nat.le_of_ble_eq_true rfl) (Nat.le_of_ble_eq_true rfl) dX8_isOpen_25
  ·
    have c_1' := Int32.not_lt.mp c_1
    refine sw_iconst (pc := 20) (v := 1) hc dX8_isOpen_20 (by decide) ?_
    refine sw_goto (pc := 21) (tgt := 25) hc dX8_isOpen_21 (by decide) ?_
    have h_3 : 1 = bI (rOpen σ a) := by first | with_reducible rfl | (first | with_reducible rfl | (simp [-Int32.not_le, -Int32.not_lt, bI, st2_a, c_1, c_1']; done) | (((try simp only [st2_a, Nat.reduceBEq, Bool.false_and, Bool.true_and, beq_self_eq_true, cond_false, cond_true] at c_1 c_1') <;> simp [-Int32.not_le, -Int32.not_lt, bI, st2_a, c_1, c_1']); done) | ((try simp only [bI]); (repeat' split) <;> simp_all [-Int32.not_le, -Int32.not_lt, st2_a, rGap, rWall]; done))
    exact sw_iret (pc := 25) hc hlk hrt rfl ⟨(congrArg (fun z => some (Value.int z)) h_3), rfl⟩ (Nat.le_of_ble_eq_true rfl) (Nat.le_of_ble_eq_true rfl) dX8_isOpen_25

set_option maxHeartbeats 4000000 in
set_option maxRecDepth 100000 in
theorem c_X8_offer (l : Launch) (g : sg_G) (C : Nat → Option va_E) (m0 : Nat) (q : Nat → Nat) (σ : Mem) (x : Int32) (y : Int32) (hN : mN m0 q) (hWF : rWF σ) : sg_Met l yX8_offer cX8_offer 5 (some .int) 4 93 0 0 g [.ref m0, .int x, .int y] (sg_ov C (mW g m0 q σ)) (fun v C' => v = some (.int (vOffer σ x y)) ∧ C' = sg_ov C (mW g m0 q (fOffer σ x y))) sg_no := by
  refine sg_ofW (by decide) rfl ?_ (Nat.le_of_ble_eq_true rfl)
  intro p e s m below meth c hc hlk hrt hin2 htb
  have hc : sg_Cx p s m _ c cX8_offer 5 RX8 g := hc
  show sg_W p l e _ s m _ below meth c 5 g 0 0 _ (sg_ov C (mW g m0 q σ)) 0 [(0, .ref m0), (1, .int x), (2, .int y)] []
  have K_113 : sg_W p l e (sg_rm 4 93 0 0) s m ([.ref m0, .int x, .int y] : List Value).toArray below meth c 5 g 0 0 (sg_End below g (fun v C' => v = some (.int (vOffer σ x y)) ∧ C' = sg_ov C (mW g m0 q (fOffer σ x y))) sg_no ([.ref m0, .int x, .int y] : List Value).toArray s 0 0) (sg_ov C (mW g m0 q σ)) 113 [(0, .ref m0), (1, .int x), (2, .int y)] [.int (kOffer σ x y), .ref m0] := by
    refine sw_callV (pc := 113) (rest := []) hc (c_X8_holds l g C m0 q σ (kOffer σ x y) hN ) md_X8_holds ml_RX8_171 im_X8_holds sl_X8_holds (mW_o hN) rfl rfl rfl (Nat.le_of_ble_eq_true rfl) dX8_offer_113 ⟨Nat.le_of_ble_eq_true rfl, Nat.le_of_ble_eq_true rfl, Nat.le_of_ble_eq_true rfl, Nat.le_of_ble_eq_true rfl⟩ (fun v C' hP => ?_) (fun _ _ h => h.elim)
    obtain ⟨rfl, rfl⟩ := hP
    refine sw_st (st' := [.int (bI (0 < (kOffer σ x y)))]) rfl ?_
    refine sw_if_eq (pc := 116) (tgt := 121) hc dX8_offer_116 (by decide) (fun c_1 => ?_) (fun c_1 => ?_)
    ·
      have p_2 : ¬ (0 < (kOffer σ x y)) := bI_0 c_1
      have k0 := kOffer_0 p_2; have fb := isN_ne (b := 10) hWF.2.2.2.2.1 (by decide) (fun z => k0.2 ⟨k0.1, .inr (.inl z)⟩)
      refine sw_aload_n (pc := 121) hc dX8_offer_121 rfl 0 rfl ?_
      refine sw_get (pc := 122) (v := .ref (q 27)) hc fl_RX8_79 (mW_o hN) rfl dX8_offer_122 ?_
      refine sw_aload_n (pc := 125) hc dX8_offer_125 rfl 0 rfl ?_
      refine sw_get (pc := 126) (v := .int ((st2 σ 42 0 (kOffer σ x y)) 30 0)) hc fl_RX8_228 (mW_o hN) rfl dX8_offer_126 ?_
      refine sw_st (st' := [.int (nI (iN (σ 30 0))), .ref (q 27)]) (congrArg (fun z => ([.int z, .ref (q 27)] : List Value)) (hWF.2.2.2.2.1.1 : (st2 σ 42 0 (kOffer σ x y)) 30 0 = nI (iN (σ 30 0)))) ?_
      refine sw_iload_n (pc := 129) hc dX8_offer_129 rfl 1 rfl ?_
      refine sw_iast (pc := 130) (j := (iN (σ 30 0))) hc (mW_a27 hN) rfl (by omega) (by decide) dX8_offer_130 ?_
      refine sw_eq (mW_s27 hN) ?_
      refine sw_aload_n (pc := 131) hc dX8_offer_131 rfl 0 rfl ?_
      refine sw_get (pc := 132) (v := .ref (q 28)) hc fl_RX8_82 (mW_o hN) rfl dX8_offer_132 ?_
      refine sw_aload_n (pc := 135) hc dX8_offer_135 rfl 0 rfl ?_
      refine sw_get (pc := 136) (v := .int ((st2 σ 42 0 (kOffer σ x y)) 30 0)) hc fl_RX8_228 (mW_o hN) rfl dX8_offer_136 ?_
      refine sw_st (st' := [.int (nI (iN (σ 30 0))), .ref (q 28)]) (congrArg (fun z => ([.int z, .ref (q 28)] : List Value)) (hWF.2.2.2.2.1.1 : (st2 σ 42 0 (kOffer σ x y)) 30 0 = nI (iN (σ 30 0)))) ?_
      refine sw_iload_n (pc := 139) hc dX8_offer_139 rfl 2 rfl ?_
      refine sw_iast (pc := 140) (j := (iN (σ 30 0))) hc (mW_a28 hN) rfl (by omega) (by decide) dX8_offer_140 ?_
      refine sw_eq (mW_s28 hN) ?_
      refine sw_aload_n (pc := 141) hc dX8_offer_141 rfl 0 rfl ?_
      refine sw_dup (pc := 142) hc dX8_offer_142 rfl ?_
      refine sw_get (pc := 143) (v := .int ((st2 σ 42 0 (kOffer σ x y)) 30 0)) hc fl_RX8_228 (mW_o hN) rfl dX8_offer_143 ?_
      refine sw_iconst (pc := 146) (v := 1) hc dX8_offer_146 (by decide) ?_
      refine sw_iadd (pc := 147) hc dX8_offer_147 ?_
      refine sw_put (pc := 148) (k := 30) hc fl_RX8_228 ty_9 fp_9_30 (mW_o hN) rfl rfl (Nat.le_of_ble_eq_true rfl) rfl dX8_offer_148 ?_
      refine sw_eq (mW_p30 hN) ?_
      refine sw_aload_n (pc := 151) hc dX8_offer_151 rfl 0 rfl ?_
      refine sw_get (pc := 152) (v := .int (((st2 σ 42 0 (kOffer σ x y)) 30 0) + 1)) hc fl_RX8_228 (mW_o hN) rfl dX8_offer_152 ?_
      refine sw_iconst (pc := 155) (v := 1) hc dX8_offer_155 (by decide) ?_
      refine sw_isub (pc := 156) hc dX8_offer_156 ?_
      have h_3 : (((st2 σ 42 0 (kOffer σ x y)) 30 0) + 1) - 1 = vOffer σ x y := by (first | exact (if_pos (by assumption)).symm | exact (if_neg (by assumption)).symm)
      have h_4 : st2 (st2 (st2 (st2 σ 42 0 (kOffer σ x y)) 27 (iN (σ 30 0)) x) 28 (iN (σ 30 0)) y) 30 0 (((st2 σ 42 0 (kOffer σ x y)) 30 0) + 1) = fOffer σ x y := by (first | exact (if_pos (by assumption)).symm | exact (if_neg (by assumption)).symm)
      exact sw_iret (pc := 157) hc hlk hrt rfl ⟨(congrArg (fun z => some (Value.int z)) h_3), (congrArg (fun z => sg_ov C (mW g m0 q z)) h_4)⟩ (Nat.le_of_ble_eq_true rfl) (Nat.le_of_ble_eq_true rfl) dX8_offer_157
    ·
      have p_5 : 0 < (kOffer σ x y) := bI_n c_1
      refine sw_iconst (pc := 119) (v := (-1)) hc dX8_offer_119 (by decide) ?_
      have h_6 : (-1) = vOffer σ x y := by (first | exact (if_pos (by assumption)).symm | exact (if_neg (by assumption)).symm)
      have h_7 : st2 σ 42 0 (kOffer σ x y) = fOffer σ x y := by (first | exact (if_pos (by assumption)).symm | exact (if_neg (by assumption)).symm)
      exact sw_iret (pc := 120) hc hlk hrt rfl ⟨(congrArg (fun z => some (Value.int z)) h_6), (congrArg (fun z => sg_ov C (mW g m0 q z)) h_7)⟩ (Nat.le_of_ble_eq_true rfl) (Nat.le_of_ble_eq_true rfl) dX8_offer_120
  have K_87 : sg_W p l e (sg_rm 4 93 0 0) s m ([.ref m0, .int x, .int y] : List Value).toArray below meth c 5 g 0 0 (sg_End below g (fun v C' => v = some (.int (vOffer σ x y)) ∧ C' = sg_ov C (mW g m0 q (fOffer σ x y))) sg_no ([.ref m0, .int x, .int y] : List Value).toArray s 0 0) (sg_ov C (mW g m0 q σ)) 87 [(0, .ref m0), (1, .int x), (2, .int y)] [.int (bI (rBar σ x y))] := by
    refine sw_istore (pc := 87) hc dX8_offer_87 (by decide) (lv' := [(4, .int (bI (rBar σ x y))), (0, .ref m0), (1, .int x), (2, .int y)]) rfl ?_
    refine sw_aload_n (pc := 89) hc dX8_offer_89 rfl 1 rfl ?_
    refine sw_aload_n (pc := 90) hc dX8_offer_90 rfl 1 rfl ?_
    refine sw_iload_n (pc := 91) hc dX8_offer_91 rfl 2 rfl ?_
    refine sw_iload_n (pc := 92) hc dX8_offer_92 rfl 3 rfl ?_
    refine sw_callV (pc := 93) (rest := [.ref m0]) hc (c_X8_isPair l g C m0 q σ x y hN ) md_X8_isPair ml_RX8_215 im_X8_isPair sl_X8_isPair (mW_o hN) rfl rfl rfl (Nat.le_of_ble_eq_true rfl) dX8_offer_93 ⟨Nat.le_of_ble_eq_true rfl, Nat.le_of_ble_eq_true rfl, Nat.le_of_ble_eq_true rfl, Nat.le_of_ble_eq_true rfl⟩ (fun v C' hP => ?_) (fun _ _ h => h.elim)
    obtain ⟨rfl, rfl⟩ := hP
    refine sw_st (st' := [.int (bI (rPair σ x y)), .ref m0]) rfl ?_
    refine sw_if_ne (pc := 96) (tgt := 103) hc dX8_offer_96 (by decide) (fun c_8 => ?_) (fun c_8 => ?_)
    ·
      have p_9 : rPair σ x y := bI_n c_8
      refine sw_iload (pc := 103) hc dX8_offer_103 0 rfl ?_
      refine sw_if_eq (pc := 105) (tgt := 112) hc dX8_offer_105 (by decide) (fun c_10 => ?_) (fun c_10 => ?_)
      ·
        have p_11 : ¬ (rBar σ x y) := bI_0 c_10
        refine sw_iconst (pc := 112) (v := 0) hc dX8_offer_112 (by decide) ?_
        have h_12 : 0 = kOffer σ x y := by first | exact (if_pos (by assumption)).symm | (unfold kOffer; rw [if_neg (Decidable.not_not.mpr (by assumption))]; first | exact (if_pos (by assumption)).symm | exact (if_neg (by assumption)).symm)
        refine sw_st (st' := [.int (kOffer σ x y), .ref m0]) (congrArg (fun z => ([.int z, .ref m0] : List Value)) h_12) ?_
        exact sw_sub (ks := [1, 2, 3]) rfl (K_113 )
      ·
        have p_13 : rBar σ x y := bI_n c_10
        refine sw_iconst (pc := 108) (v := 2) hc dX8_offer_108 (by decide) ?_
        refine sw_goto (pc := 109) (tgt := 113) hc dX8_offer_109 (by decide) ?_
        have h_14 : 2 = kOffer σ x y := by first | exact (if_pos (by assumption)).symm | (unfold kOffer; rw [if_neg (Decidable.not_not.mpr (by assumption))]; first | exact (if_pos (by assumption)).symm | exact (if_neg (by assumption)).symm)
        refine sw_st (st' := [.int (kOffer σ x y), .ref m0]) (congrArg (fun z => ([.int z, .ref m0] : List Value)) h_14) ?_
        exact sw_sub (ks := [1, 2, 3]) rfl (K_113 )
    ·
      have p_15 : ¬ (rPair σ x y) := bI_0 c_8
      refine sw_iconst (pc := 99) (v := 1) hc dX8_offer_99 (by decide) ?_
      refine sw_goto (pc := 100) (tgt := 113) hc dX8_offer_100 (by decide) ?_
      have h_16 : 1 = kOffer σ x y := by first | exact (if_pos (by assumption)).symm | (unfold kOffer; rw [if_neg (Decidable.not_not.mpr (by assumption))]; first | exact (if_pos (by assumption)).symm | exact (if_neg (by assumption)).symm)
      refine sw_st (st' := [.int (kOffer σ x y), .ref m0]) (congrArg (fun z => ([.int z, .ref m0] : List Value)) h_16) ?_
      exact sw_sub (ks := [1, 2, 3]) rfl (K_113 )
  have K_50 : ∀ (v : Int32) (ev : v = rAgn σ x y (iN (σ 30 0))), sg_W p l e (sg_rm 4 93 0 0) s m ([.ref m0, .int x, .int y] : List Value).toArray below meth c 5 g 0 0 (sg_End below g (fun v C' => v = some (.int (vOffer σ x y)) ∧ C' = sg_ov C (mW g m0 q (fOffer σ x y))) sg_no ([.ref m0, .int x, .int y] : List Value).toArray s 0 0) (sg_ov C (mW g m0 q σ)) 50 [(0, .ref m0), (1, .int x), (2, .int y), (3, .int v)] [] := by
    intro v ev
    refine sw_aload_n (pc := 50) hc dX8_offer_50 rfl 0 rfl ?_
    refine sw_iload_n (pc := 51) hc dX8_offer_51 rfl 1 rfl ?_
    refine sw_iload_n (pc := 52) hc dX8_offer_52 rfl 2 rfl ?_
    refine sw_callV (pc := 53) (rest := []) hc (c_X8_isPair l g C m0 q σ x y hN ) md_X8_isPair ml_RX8_215 im_X8_isPair sl_X8_isPair (mW_o hN) rfl rfl rfl (Nat.le_of_ble_eq_true rfl) dX8_offer_53 ⟨Nat.le_of_ble_eq_true rfl, Nat.le_of_ble_eq_true rfl, Nat.le_of_ble_eq_true rfl, Nat.le_of_ble_eq_true rfl⟩ (fun v C' hP => ?_) (fun _ _ h => h.elim)
    obtain ⟨rfl, rfl⟩ := hP
    refine sw_st (st' := [.int (bI (rPair σ x y))]) rfl ?_
    refine sw_if_eq (pc := 56) (tgt := 86) hc dX8_offer_56 (by decide) (fun c_17 => ?_) (fun c_17 => ?_)
    ·
      have p_18 : ¬ (rPair σ x y) := bI_0 c_17
      refine sw_iconst (pc := 86) (v := 0) hc dX8_offer_86 (by decide) ?_
      have h_19 : 0 = bI (rBar σ x y) := by (subst ev; first | exact (bI_f (fun q => absurd q.1 (by assumption))).symm | exact (bI_t ⟨by assumption, .inl (by assumption)⟩).symm | exact (bI_t ⟨by assumption, .inr (.inl (by assumption))⟩).symm | exact (bI_t ⟨by assumption, .inr (.inr (Int32.not_le.mp (by assumption)))⟩).symm | exact (bI_f (by rintro ⟨-, q | q | q⟩; exact q (by assumption); exact absurd q (by assumption); exact absurd q (Int32.not_lt.mpr (by assumption)))).symm)
      refine sw_st (st' := [.int (bI (rBar σ x y))]) (congrArg (fun z => ([.int z] : List Value)) h_19) ?_
      exact sw_sub (ks := [0, 1, 2]) rfl (K_87 )
    ·
      have p_20 : rPair σ x y := bI_n c_17
      refine sw_iload_n (pc := 59) hc dX8_offer_59 rfl 3 rfl ?_
      refine sw_if_ne (pc := 60) (tgt := 82) hc dX8_offer_60 (by decide) (fun c_21 => ?_) (fun c_21 => ?_)
      ·
        refine sw_iconst (pc := 82) (v := 1) hc dX8_offer_82 (by decide) ?_
        refine sw_goto (pc := 83) (tgt := 87) hc dX8_offer_83 (by decide) ?_
        have h_22 : 1 = bI (rBar σ x y) := by (subst ev; first | exact (bI_f (fun q => absurd q.1 (by assumption))).symm | exact (bI_t ⟨by assumption, .inl (by assumption)⟩).symm | exact (bI_t ⟨by assumption, .inr (.inl (by assumption))⟩).symm | exact (bI_t ⟨by assumption, .inr (.inr (Int32.not_le.mp (by assumption)))⟩).symm | exact (bI_f (by rintro ⟨-, q | q | q⟩; exact q (by assumption); exact absurd q (by assumption); exact absurd q (Int32.not_lt.mpr (by assumption)))).symm)
        refine sw_st (st' := [.int (bI (rBar σ x y))]) (congrArg (fun z => ([.int z] : List Value)) h_22) ?_
        exact sw_sub (ks := [0, 1, 2]) rfl (K_87 )
      ·
        refine sw_aload_n (pc := 63) hc dX8_offer_63 rfl 0 rfl ?_
        refine sw_get (pc := 64) (v := .int (σ 30 0)) hc fl_RX8_228 (mW_o hN) rfl dX8_offer_64 ?_
        refine sw_bipush (pc := 67) (v := 10) hc dX8_offer_67 (by decide) ?_
        refine sw_icmp_eq (pc := 69) (tgt := 82) hc dX8_offer_69 (by decide) (fun c_23 => ?_) (fun c_23 => ?_)
        ·
          refine sw_iconst (pc := 82) (v := 1) hc dX8_offer_82 (by decide) ?_
          refine sw_goto (pc := 83) (tgt := 87) hc dX8_offer_83 (by decide) ?_
          have h_24 : 1 = bI (rBar σ x y) := by (subst ev; first | exact (bI_f (fun q => absurd q.1 (by assumption))).symm | exact (bI_t ⟨by assumption, .inl (by assumption)⟩).symm | exact (bI_t ⟨by assumption, .inr (.inl (by assumption))⟩).symm | exact (bI_t ⟨by assumption, .inr (.inr (Int32.not_le.mp (by assumption)))⟩).symm | exact (bI_f (by rintro ⟨-, q | q | q⟩; exact q (by assumption); exact absurd q (by assumption); exact absurd q (Int32.not_lt.mpr (by assumption)))).symm)
          refine sw_st (st' := [.int (bI (rBar σ x y))]) (congrArg (fun z => ([.int z] : List Value)) h_24) ?_
          exact sw_sub (ks := [0, 1, 2]) rfl (K_87 )
        ·
          refine sw_aload_n (pc := 72) hc dX8_offer_72 rfl 0 rfl ?_
          refine sw_iload_n (pc := 73) hc dX8_offer_73 rfl 1 rfl ?_
          refine sw_iload_n (pc := 74) hc dX8_offer_74 rfl 2 rfl ?_
          refine sw_iconst (pc := 75) (v := (-1)) hc dX8_offer_75 (by decide) ?_
          refine sw_callV (pc := 76) (rest := []) hc (c_X8_top l g C m0 q σ x y (-1) hN (hWF)) md_X8_top ml_RX8_218 im_X8_top sl_X8_top (mW_o hN) rfl rfl rfl (Nat.le_of_ble_eq_true rfl) dX8_offer_76 ⟨Nat.le_of_ble_eq_true rfl, Nat.le_of_ble_eq_true rfl, Nat.le_of_ble_eq_true rfl, Nat.le_of_ble_eq_true rfl⟩ (fun v C' hP => ?_) (fun _ _ h => h.elim)
          obtain ⟨rfl, rfl⟩ := hP
          refine sw_st (st' := [.int (rTopN σ x y (-1))]) rfl ?_
          refine sw_if_ge (pc := 79) (tgt := 86) hc dX8_offer_79 (by decide) (fun c_25 => ?_) (fun c_25 => ?_)
          ·
            have c_25' := Int32.not_lt.mpr c_25
            refine sw_iconst (pc := 86) (v := 0) hc dX8_offer_86 (by decide) ?_
            have h_26 : 0 = bI (rBar σ x y) := by (subst ev; first | exact (bI_f (fun q => absurd q.1 (by assumption))).symm | exact (bI_t ⟨by assumption, .inl (by assumption)⟩).symm | exact (bI_t ⟨by assumption, .inr (.inl (by assumption))⟩).symm | exact (bI_t ⟨by assumption, .inr (.inr (Int32.not_le.mp (by assumption)))⟩).symm | exact (bI_f (by rintro ⟨-, q | q | q⟩; exact q (by assumption); exact absurd q (by assumption); exact absurd q (Int32.not_lt.mpr (by assumption)))).symm)
            refine sw_st (st' := [.int (bI (rBar σ x y))]) (congrArg (fun z => ([.int z] : List Value)) h_26) ?_
            exact sw_sub (ks := [0, 1, 2]) rfl (K_87 )
          ·
            have c_25' := Int32.not_le.mp c_25
            refine sw_iconst (pc := 82) (v := 1) hc dX8_offer_82 (by decide) ?_
            refine sw_goto (pc := 83) (tgt := 87) hc dX8_offer_83 (by decide) ?_
            have h_27 : 1 = bI (rBar σ x y) := by (subst ev; first | exact (bI_f (fun q => absurd q.1 (by assumption))).symm | exact (bI_t ⟨by assumption, .inl (by assumption)⟩).symm | exact (bI_t ⟨by assumption, .inr (.inl (by assumption))⟩).symm | exact (bI_t ⟨by assumption, .inr (.inr (Int32.not_le.mp (by assumption)))⟩).symm | exact (bI_f (by rintro ⟨-, q | q | q⟩; exact q (by assumption); exact absurd q (by assumption); exact absurd q (Int32.not_lt.mpr (by assumption)))).symm)
            refine sw_st (st' := [.int (bI (rBar σ x y))]) (congrArg (fun z => ([.int z] : List Value)) h_27) ?_
            exact sw_sub (ks := [0, 1, 2]) rfl (K_87 )
  have K_5 : ∀ (n5 : Nat) (k : Nat) (v : Int32) (hn5 : (iN (σ 30 0) - k) < n5) (ev : v = rAgn σ x y k) (hkb : k ≤ iN (σ 30 0)), sg_W p l e (sg_rm 4 93 0 0) s m ([.ref m0, .int x, .int y] : List Value).toArray below meth c 5 g 0 0 (sg_End below g (fun v C' => v = some (.int (vOffer σ x y)) ∧ C' = sg_ov C (mW g m0 q (fOffer σ x y))) sg_no ([.ref m0, .int x, .int y] : List Value).toArray s 0 0) (sg_ov C (mW g m0 q σ)) 5 [(0, .ref m0), (1, .int x), (2, .int y), (3, .int v), (4, .int (nI k))] [] := by
    intro n5
    induction n5 with
    | zero => intro k v hn5 ev hkb; exact absurd hn5 (Nat.not_lt_zero _)
    | succ n5 ih5 =>
      intro k v hn5 ev hkb
      have h30 := hWF.2.2.2.2.1.2
      refine sw_iload (pc := 5) hc dX8_offer_5 4 rfl ?_
      refine sw_aload_n (pc := 7) hc dX8_offer_7 rfl 0 rfl ?_
      refine sw_get (pc := 8) (v := .int (σ 30 0)) hc fl_RX8_228 (mW_o hN) rfl dX8_offer_8 ?_
      refine sw_st (st' := [.int (nI (iN (σ 30 0))), .int (nI k)]) (congrArg (fun z => ([.int z, .int (nI k)] : List Value)) (hWF.2.2.2.2.1.1 : σ 30 0 = nI (iN (σ 30 0)))) ?_
      refine sw_icmp_ge (pc := 11) (tgt := 50) hc dX8_offer_11 (by decide) (fun c_28 => ?_) (fun c_28 => ?_)
      ·
        have n_29 : (iN (σ 30 0)) ≤ k := (nI_leI (a := (iN (σ 30 0))) (b := k) (by omega) (by omega)).mp c_28
        have c_28' := Int32.not_lt.mpr c_28
        have h_30 : v = rAgn σ x y (iN (σ 30 0)) := by (rw [ev, show k = iN (σ 30 0) by omega])
        exact sw_sub (ks := [0, 1, 2, 3]) rfl (K_50 v h_30)
      ·
        have n_31 : ¬ ((iN (σ 30 0)) ≤ k) := fun z => c_28 ((nI_leI (a := (iN (σ 30 0))) (b := k) (by omega) (by omega)).mpr z)
        have c_28' := Int32.not_le.mp c_28
        refine sw_iload_n (pc := 14) hc dX8_offer_14 rfl 3 rfl ?_
        refine sw_aload_n (pc := 15) hc dX8_offer_15 rfl 0 rfl ?_
        refine sw_get (pc := 16) (v := .ref (q 27)) hc fl_RX8_79 (mW_o hN) rfl dX8_offer_16 ?_
        refine sw_iload (pc := 19) hc dX8_offer_19 4 rfl ?_
        refine sw_iald (pc := 21) (j := k) hc (mW_a27 hN) rfl (by omega) (by decide) dX8_offer_21 ?_
        refine sw_iload_n (pc := 22) hc dX8_offer_22 rfl 1 rfl ?_
        refine sw_icmp_ne (pc := 23) (tgt := 41) hc dX8_offer_23 (by decide) (fun c_32 => ?_) (fun c_32 => ?_)
        ·
          refine sw_iconst (pc := 41) (v := 0) hc dX8_offer_41 (by decide) ?_
          refine sw_ior (pc := 42) hc dX8_offer_42 ?_
          refine sw_istore_n (pc := 43) hc dX8_offer_43 rfl (by decide) (lv' := [(3, .int (v ||| 0)), (0, .ref m0), (1, .int x), (2, .int y), (4, .int (nI k))]) rfl ?_
          refine sw_iinc (pc := 44) (v := nI (k + 1)) (lv' := [(4, .int (nI (k + 1))), (3, .int (v ||| 0)), (0, .ref m0), (1, .int x), (2, .int y)]) hc dX8_offer_44 (k := 4) rfl (nI_1 _) (by decide) rfl ?_
          refine sw_goto (pc := 47) (tgt := 5) hc dX8_offer_47 (by decide) ?_
          have h_33 : v ||| 0 = rAgn σ x y (k + 1) := by first | exact (rfl : (0 : Int32) = rAgn σ x y 0) | (rw [ev]; show _ = rAgn σ x y k ||| bI _; first | (rw [bI_t ⟨by assumption, by assumption⟩]) | (rw [bI_f (fun q => absurd q.1 (by assumption))]) | (rw [bI_f (fun q => absurd q.2 (by assumption))]))
          have h_34 : (k + 1) ≤ iN (σ 30 0) := by omega
          have h_35 : (iN (σ 30 0) - (k + 1)) < n5 := by omega
          exact sw_sub (ks := [2, 3, 4, 1, 0]) rfl (ih5 (k + 1) (v ||| 0) h_35 h_33 h_34)
        ·
          refine sw_aload_n (pc := 26) hc dX8_offer_26 rfl 0 rfl ?_
          refine sw_get (pc := 27) (v := .ref (q 28)) hc fl_RX8_82 (mW_o hN) rfl dX8_offer_27 ?_
          refine sw_iload (pc := 30) hc dX8_offer_30 4 rfl ?_
          refine sw_iald (pc := 32) (j := k) hc (mW_a28 hN) rfl (by omega) (by decide) dX8_offer_32 ?_
          refine sw_iload_n (pc := 33) hc dX8_offer_33 rfl 2 rfl ?_
          refine sw_icmp_ne (pc := 34) (tgt := 41) hc dX8_offer_34 (by decide) (fun c_36 => ?_) (fun c_36 => ?_)
          ·
            refine sw_iconst (pc := 41) (v := 0) hc dX8_offer_41 (by decide) ?_
            refine sw_ior (pc := 42) hc dX8_offer_42 ?_
            refine sw_istore_n (pc := 43) hc dX8_offer_43 rfl (by decide) (lv' := [(3, .int (v ||| 0)), (0, .ref m0), (1, .int x), (2, .int y), (4, .int (nI k))]) rfl ?_
            refine sw_iinc (pc := 44) (v := nI (k + 1)) (lv' := [(4, .int (nI (k + 1))), (3, .int (v ||| 0)), (0, .ref m0), (1, .int x), (2, .int y)]) hc dX8_offer_44 (k := 4) rfl (nI_1 _) (by decide) rfl ?_
            refine sw_goto (pc := 47) (tgt := 5) hc dX8_offer_47 (by decide) ?_
            have h_37 : v ||| 0 = rAgn σ x y (k + 1) := by first | exact (rfl : (0 : Int32) = rAgn σ x y 0) | (rw [ev]; show _ = rAgn σ x y k ||| bI _; first | (rw [bI_t ⟨by assumption, by assumption⟩]) | (rw [bI_f (fun q => absurd q.1 (by assumption))]) | (rw [bI_f (fun q => absurd q.2 (by assumption))]))
            have h_38 : (k + 1) ≤ iN (σ 30 0) := by omega
            have h_39 : (iN (σ 30 0) - (k + 1)) < n5 := by omega
            exact sw_sub (ks := [2, 3, 4, 1, 0]) rfl (ih5 (k + 1) (v ||| 0) h_39 h_37 h_38)
          ·
            refine sw_iconst (pc := 37) (v := 1) hc dX8_offer_37 (by decide) ?_
            refine sw_goto (pc := 38) (tgt := 42) hc dX8_offer_38 (by decide) ?_
            refine sw_ior (pc := 42) hc dX8_offer_42 ?_
            refine sw_istore_n (pc := 43) hc dX8_offer_43 rfl (by decide) (lv' := [(3, .int (v ||| 1)), (0, .ref m0), (1, .int x), (2, .int y), (4, .int (nI k))]) rfl ?_
            refine sw_iinc (pc := 44) (v := nI (k + 1)) (lv' := [(4, .int (nI (k + 1))), (3, .int (v ||| 1)), (0, .ref m0), (1, .int x), (2, .int y)]) hc dX8_offer_44 (k := 4) rfl (nI_1 _) (by decide) rfl ?_
            refine sw_goto (pc := 47) (tgt := 5) hc dX8_offer_47 (by decide) ?_
            have h_40 : v ||| 1 = rAgn σ x y (k + 1) := by first | exact (rfl : (0 : Int32) = rAgn σ x y 0) | (rw [ev]; show _ = rAgn σ x y k ||| bI _; first | (rw [bI_t ⟨by assumption, by assumption⟩]) | (rw [bI_f (fun q => absurd q.1 (by assumption))]) | (rw [bI_f (fun q => absurd q.2 (by assumption))]))
            have h_41 : (k + 1) ≤ iN (σ 30 0) := by omega
            have h_42 : (iN (σ 30 0) - (k + 1)) < n5 := by omega
            exact sw_sub (ks := [2, 3, 4, 1, 0]) rfl (ih5 (k + 1) (v ||| 1) h_42 h_40 h_41)
  refine sw_iconst (pc := 0) (v := 0) hc dX8_offer_0 (by decide) ?_
  refine sw_istore_n (pc := 1) hc dX8_offer_1 rfl (by decide) (lv' := [(3, .int 0), (0, .ref m0), (1, .int x), (2, .int y)]) rfl ?_
  refine sw_iconst (pc := 2) (v := 0) hc dX8_offer_2 (by decide) ?_
  refine sw_istore (pc := 3) hc dX8_offer_3 (by decide) (lv' := [(4, .int 0), (3, .int 0), (0, .ref m0), (1, .int x), (2, .int y)]) rfl ?_
  have h_43 : 0 = rAgn σ x y 0 := by first | exact (rfl : (0 : Int32) = rAgn σ x y 0) | (rw [ev]; show _ = rAgn σ x y k ||| bI _; first | (rw [bI_t ⟨by assumption, by assumption⟩]) | (rw [bI_f (fun q => absurd q.1 (by assumption))]) | (rw [bI_f (fun q => absurd q.2 (by assumption))]))
  have h_44 : 0 ≤ iN (σ 30 0) := by omega
  exact sw_sub (ks := [2, 3, 4, 1, 0]) rfl (K_5 _ 0 0 (Nat.lt_succ_self _) h_43 h_44)

set_option maxHeartbeats 4000000 in
set_option maxRecDepth 100000 in
theorem c_X8_gift (l : Launch) (g : sg_G) (C : Nat → Option va_E) (m0 : Nat) (q : Nat → Nat) (σ : Mem) (x : Int32) (a : Int32) (hN : mN m0 q) (hWF : rWF σ) : sg_Met l yX8_gift cX8_gift 4 (some .int) 5 114 0 0 g [.ref m0, .int x, .int a] (sg_ov C (mW g m0 q σ)) (fun v C' => v = some (.int (vGift σ x a)) ∧ C' = sg_ov C (mW g m0 q (fGift σ x a))) sg_no := by
  refine sg_ofW (by decide) rfl ?_ (Nat.le_of_ble_eq_true rfl)
  intro p e s m below meth c hc hlk hrt hin2 htb
  have hc : sg_Cx p s m _ c cX8_gift 4 RX8 g := hc
  show sg_W p l e _ s m _ below meth c 4 g 0 0 _ (sg_ov C (mW g m0 q σ)) 0 [(0, .ref m0), (1, .int x), (2, .int a)] []
  have K_51 : sg_W p l e (sg_rm 5 114 0 0) s m ([.ref m0, .int x, .int a] : List Value).toArray below meth c 4 g 0 0 (sg_End below g (fun v C' => v = some (.int (vGift σ x a)) ∧ C' = sg_ov C (mW g m0 q (fGift σ x a))) sg_no ([.ref m0, .int x, .int a] : List Value).toArray s 0 0) (sg_ov C (mW g m0 q σ)) 51 [(0, .ref m0), (1, .int x), (2, .int a)] [.int (kGift σ x a), .ref m0] := by
    refine sw_callV (pc := 51) (rest := []) hc (c_X8_holds l g C m0 q σ (kGift σ x a) hN ) md_X8_holds ml_RX8_171 im_X8_holds sl_X8_holds (mW_o hN) rfl rfl rfl (Nat.le_of_ble_eq_true rfl) dX8_gift_51 ⟨Nat.le_of_ble_eq_true rfl, Nat.le_of_ble_eq_true rfl, Nat.le_of_ble_eq_true rfl, Nat.le_of_ble_eq_true rfl⟩ (fun v C' hP => ?_) (fun _ _ h => h.elim)
    obtain ⟨rfl, rfl⟩ := hP
    refine sw_st (st' := [.int (bI (0 < (kGift σ x a)))]) rfl ?_
    refine sw_if_eq (pc := 54) (tgt := 59) hc dX8_gift_54 (by decide) (fun c_1 => ?_) (fun c_1 => ?_)
    ·
      have p_2 : ¬ (0 < (kGift σ x a)) := bI_0 c_1
      have k0 := kGift_0 p_2; obtain ⟨fx, fx2⟩ := rIn_x hWF.2.2.2.2.1 (by decide) k0.1; have fxb := hWF.2.2.2.2.1.2
      refine sw_aload_n (pc := 59) hc dX8_gift_59 rfl 0 rfl ?_
      refine sw_get (pc := 60) (v := .ref (q 29)) hc fl_RX8_85 (mW_o hN) rfl dX8_gift_60 ?_
      refine sw_iload_n (pc := 63) hc dX8_gift_63 rfl 1 rfl ?_
      refine sw_dup2_11 (pc := 64) hc dX8_gift_64 rfl rfl ?_
      refine sw_iald (pc := 65) (j := (iN x)) hc (mW_a29 hN) fx (by omega) (by decide) dX8_gift_65 ?_
      refine sw_iload_n (pc := 66) hc dX8_gift_66 rfl 2 rfl ?_
      refine sw_iadd (pc := 67) hc dX8_gift_67 ?_
      refine sw_iast (pc := 68) (j := (iN x)) hc (mW_a29 hN) fx (by omega) (by decide) dX8_gift_68 ?_
      refine sw_eq (mW_s29 hN) ?_
      refine sw_aload_n (pc := 69) hc dX8_gift_69 rfl 0 rfl ?_
      refine sw_get (pc := 70) (v := .ref (q 29)) hc fl_RX8_85 (mW_o hN) rfl dX8_gift_70 ?_
      refine sw_iload_n (pc := 73) hc dX8_gift_73 rfl 1 rfl ?_
      refine sw_iald (pc := 74) (j := (iN x)) hc (mW_a29 hN) fx (by omega) (by decide) dX8_gift_74 ?_
      refine sw_st (st' := [.int (σ 29 (iN x) + a)]) (congrArg (fun z => ([.int z] : List Value)) (st2_ss : (st2 (st2 σ 42 0 (kGift σ x a)) 29 (iN x) (((st2 σ 42 0 (kGift σ x a)) 29 (iN x)) + a)) 29 (iN x) = σ 29 (iN x) + a)) ?_
      have h_3 : σ 29 (iN x) + a = vGift σ x a := by (first | exact (if_pos (by assumption)).symm | exact (if_neg (by assumption)).symm)
      have h_4 : st2 (st2 σ 42 0 (kGift σ x a)) 29 (iN x) (((st2 σ 42 0 (kGift σ x a)) 29 (iN x)) + a) = fGift σ x a := by (first | exact (if_pos (by assumption)).symm | exact (if_neg (by assumption)).symm)
      exact sw_iret (pc := 75) hc hlk hrt rfl ⟨(congrArg (fun z => some (Value.int z)) h_3), (congrArg (fun z => sg_ov C (mW g m0 q z)) h_4)⟩ (Nat.le_of_ble_eq_true rfl) (Nat.le_of_ble_eq_true rfl) dX8_gift_75
    ·
      have p_5 : 0 < (kGift σ x a) := bI_n c_1
      refine sw_iconst (pc := 57) (v := (-1)) hc dX8_gift_57 (by decide) ?_
      have h_6 : (-1) = vGift σ x a := by (first | exact (if_pos (by assumption)).symm | exact (if_neg (by assumption)).symm)
      have h_7 : st2 σ 42 0 (kGift σ x a) = fGift σ x a := by (first | exact (if_pos (by assumption)).symm | exact (if_neg (by assumption)).symm)
      exact sw_iret (pc := 58) hc hlk hrt rfl ⟨(congrArg (fun z => some (Value.int z)) h_6), (congrArg (fun z => sg_ov C (mW g m0 q z)) h_7)⟩ (Nat.le_of_ble_eq_true rfl) (Nat.le_of_ble_eq_true rfl) dX8_gift_58
  refine sw_aload_n (pc := 0) hc dX8_gift_0 rfl 0 rfl ?_
  refine sw_iload_n (pc := 1) hc dX8_gift_1 rfl 1 rfl ?_
  refine sw_iconst (pc := 2) (v := 0) hc dX8_gift_2 (by decide) ?_
  refine sw_aload_n (pc := 3) hc dX8_gift_3 rfl 0 rfl ?_
  refine sw_get (pc := 4) (v := .int (σ 30 0)) hc fl_RX8_228 (mW_o hN) rfl dX8_gift_4 ?_
  refine sw_iconst (pc := 7) (v := 1) hc dX8_gift_7 (by decide) ?_
  refine sw_isub (pc := 8) hc dX8_gift_8 ?_
  refine sw_callV (pc := 9) (rest := []) hc (c_X8_between l g C m0 q σ x 0 ((σ 30 0) - 1) hN ) md_X8_between ml_RX8_95 im_X8_between sl_X8_between (mW_o hN) rfl rfl rfl (Nat.le_of_ble_eq_true rfl) dX8_gift_9 ⟨Nat.le_of_ble_eq_true rfl, Nat.le_of_ble_eq_true rfl, Nat.le_of_ble_eq_true rfl, Nat.le_of_ble_eq_true rfl⟩ (fun v C' hP => ?_) (fun _ _ h => h.elim)
  obtain ⟨rfl, rfl⟩ := hP
  refine sw_st (st' := [.int (bI (0 ≤ x ∧ x ≤ ((σ 30 0) - 1)))]) rfl ?_
  refine sw_istore_n (pc := 12) hc dX8_gift_12 rfl (by decide) (lv' := [(3, .int (bI (0 ≤ x ∧ x ≤ ((σ 30 0) - 1)))), (0, .ref m0), (1, .int x), (2, .int a)]) rfl ?_
  refine sw_aload_n (pc := 13) hc dX8_gift_13 rfl 1 rfl ?_
  refine sw_iload_n (pc := 14) hc dX8_gift_14 rfl 0 rfl ?_
  refine sw_if_ne (pc := 15) (tgt := 22) hc dX8_gift_15 (by decide) (fun c_8 => ?_) (fun c_8 => ?_)
  ·
    have p_9 : 0 ≤ x ∧ x ≤ ((σ 30 0) - 1) := bI_n c_8
    refine sw_aload_n (pc := 22) hc dX8_gift_22 rfl 1 rfl ?_
    refine sw_iload_n (pc := 23) hc dX8_gift_23 rfl 3 rfl ?_
    refine sw_iconst (pc := 24) (v := 1) hc dX8_gift_24 (by decide) ?_
    refine sw_sipush (pc := 25) (v := 1000) hc dX8_gift_25 (by decide) ?_
    refine sw_callV (pc := 28) (rest := [.ref m0]) hc (c_X8_between l g C m0 q σ a 1 1000 hN ) md_X8_between ml_RX8_95 im_X8_between sl_X8_between (mW_o hN) rfl rfl rfl (Nat.le_of_ble_eq_true rfl) dX8_gift_28 ⟨Nat.le_of_ble_eq_true rfl, Nat.le_of_ble_eq_true rfl, Nat.le_of_ble_eq_true rfl, Nat.le_of_ble_eq_true rfl⟩ (fun v C' hP => ?_) (fun _ _ h => h.elim)
    obtain ⟨rfl, rfl⟩ := hP
    refine sw_st (st' := [.int (bI (1 ≤ a ∧ a ≤ 1000)), .ref m0]) rfl ?_
    refine sw_if_ne (pc := 31) (tgt := 38) hc dX8_gift_31 (by decide) (fun c_10 => ?_) (fun c_10 => ?_)
    ·
      have p_11 : 1 ≤ a ∧ a ≤ 1000 := bI_n c_10
      obtain ⟨fx, fx2⟩ := rIn_x hWF.2.2.2.2.1 (by decide) p_9; have fxb := hWF.2.2.2.2.1.2
      refine sw_aload_n (pc := 38) hc dX8_gift_38 rfl 1 rfl ?_
      refine sw_iload_n (pc := 39) hc dX8_gift_39 rfl 2 rfl ?_
      refine sw_st (st' := [.int (nI (iN x)), .ref m0, .ref m0]) (congrArg (fun z => ([.int z, .ref m0, .ref m0] : List Value)) fx) ?_
      refine sw_callV (pc := 40) (rest := [.ref m0]) hc (c_X8_isOpen l g C m0 q σ (iN x) hN (by omega) (hWF)) md_X8_isOpen ml_RX8_231 im_X8_isOpen sl_X8_isOpen (mW_o hN) rfl rfl rfl (Nat.le_of_ble_eq_true rfl) dX8_gift_40 ⟨Nat.le_of_ble_eq_true rfl, Nat.le_of_ble_eq_true rfl, Nat.le_of_ble_eq_true rfl, Nat.le_of_ble_eq_true rfl⟩ (fun v C' hP => ?_) (fun _ _ h => h.elim)
      obtain ⟨rfl, rfl⟩ := hP
      refine sw_st (st' := [.int (bI (rOpen σ (iN x))), .ref m0]) rfl ?_
      refine sw_if_eq (pc := 43) (tgt := 50) hc dX8_gift_43 (by decide) (fun c_12 => ?_) (fun c_12 => ?_)
      ·
        have p_13 : ¬ (rOpen σ (iN x)) := bI_0 c_12
        refine sw_iconst (pc := 50) (v := 3) hc dX8_gift_50 (by decide) ?_
        have h_14 : 3 = kGift σ x a := by first | with_reducible rfl | (first | with_reducible rfl | (simp [-Int32.not_le, -Int32.not_lt, kGift, st2_a, p_9, p_11, p_13]; done) | (((try simp only [st2_a, Nat.reduceBEq, Bool.false_and, Bool.true_and, beq_self_eq_true, cond_false, cond_true] at p_9 p_11 p_13) <;> simp [-Int32.not_le, -Int32.not_lt, kGift, st2_a, p_9, p_11, p_13]); done) | ((try simp only [kGift]); (repeat' split) <;> simp_all [-Int32.not_le, -Int32.not_lt, st2_a, rGap, rWall]; done))
        refine sw_st (st' := [.int (kGift σ x a), .ref m0]) (congrArg (fun z => ([.int z, .ref m0] : List Value)) h_14) ?_
        exact sw_sub (ks := [1, 2, 3]) rfl (K_51 )
      ·
        have p_15 : rOpen σ (iN x) := bI_n c_12
        refine sw_iconst (pc := 46) (v := 0) hc dX8_gift_46 (by decide) ?_
        refine sw_goto (pc := 47) (tgt := 51) hc dX8_gift_47 (by decide) ?_
        have h_16 : 0 = kGift σ x a := by first | with_reducible rfl | (first | with_reducible rfl | (simp [-Int32.not_le, -Int32.not_lt, kGift, st2_a, p_9, p_11, p_15]; done) | (((try simp only [st2_a, Nat.reduceBEq, Bool.false_and, Bool.true_and, beq_self_eq_true, cond_false, cond_true] at p_9 p_11 p_15) <;> simp [-Int32.not_le, -Int32.not_lt, kGift, st2_a, p_9, p_11, p_15]); done) | ((try simp only [kGift]); (repeat' split) <;> simp_all [-Int32.not_le, -Int32.not_lt, st2_a, rGap, rWall]; done))
        refine sw_st (st' := [.int (kGift σ x a), .ref m0]) (congrArg (fun z => ([.int z, .ref m0] : List Value)) h_16) ?_
        exact sw_sub (ks := [1, 2, 3]) rfl (K_51 )
    ·
      have p_17 : ¬ (1 ≤ a ∧ a ≤ 1000) := bI_0 c_10
      refine sw_iconst (pc := 34) (v := 2) hc dX8_gift_34 (by decide) ?_
      refine sw_goto (pc := 35) (tgt := 51) hc dX8_gift_35 (by decide) ?_
      have h_18 : 2 = kGift σ x a := by first | with_reducible rfl | (first | with_reducible rfl | (simp [-Int32.not_le, -Int32.not_lt, kGift, st2_a, p_9, p_17]; done) | (((try simp only [st2_a, Nat.reduceBEq, Bool.false_and, Bool.true_and, beq_self_eq_true, cond_false, cond_true] at p_9 p_17) <;> simp [-Int32.not_le, -Int32.not_lt, kGift, st2_a, p_9, p_17]); done) | ((try simp only [kGift]); (repeat' split) <;> simp_all [-Int32.not_le, -Int32.not_lt, st2_a, rGap, rWall]; done))
      refine sw_st (st' := [.int (kGift σ x a), .ref m0]) (congrArg (fun z => ([.int z, .ref m0] : List Value)) h_18) ?_
      exact sw_sub (ks := [1, 2, 3]) rfl (K_51 )
  ·
    have p_19 : ¬ (0 ≤ x ∧ x ≤ ((σ 30 0) - 1)) := bI_0 c_8
    refine sw_iconst (pc := 18) (v := 1) hc dX8_gift_18 (by decide) ?_
    refine sw_goto (pc := 19) (tgt := 51) hc dX8_gift_19 (by decide) ?_
    have h_20 : 1 = kGift σ x a := by first | with_reducible rfl | (first | with_reducible rfl | (simp [-Int32.not_le, -Int32.not_lt, kGift, st2_a, p_19]; done) | (((try simp only [st2_a, Nat.reduceBEq, Bool.false_and, Bool.true_and, beq_self_eq_true, cond_false, cond_true] at p_19) <;> simp [-Int32.not_le, -Int32.not_lt, kGift, st2_a, p_19]); done) | ((try simp only [kGift]); (repeat' split) <;> simp_all [-Int32.not_le, -Int32.not_lt, st2_a, rGap, rWall]; done))
    refine sw_st (st' := [.int (kGift σ x a), .ref m0]) (congrArg (fun z => ([.int z, .ref m0] : List Value)) h_20) ?_
    exact sw_sub (ks := [1, 2, 3]) rfl (K_51 )

set_option maxHeartbeats 4000000 in
set_option maxRecDepth 100000 in
theorem c_X8_plan (l : Launch) (g : sg_G) (C : Nat → Option va_E) (m0 : Nat) (q : Nat → Nat) (σ : Mem) (r : Int32) (hN : mN m0 q) (hWF : rWF σ) : sg_Met l yX8_plan cX8_plan 11 (some .int) 4 92 0 0 g [.ref m0, .int r] (sg_ov C (mW g m0 q σ)) (fun v C' => v = some (.int (vPlan σ r)) ∧ C' = sg_ov C (mW g m0 q (fPlan σ r))) sg_no := by
  refine sg_ofW (by decide) rfl ?_ (Nat.le_of_ble_eq_true rfl)
  intro p e s m below meth c hc hlk hrt hin2 htb
  have hc : sg_Cx p s m _ c cX8_plan 11 RX8 g := hc
  show sg_W p l e _ s m _ below meth c 11 g 0 0 _ (sg_ov C (mW g m0 q σ)) 0 [(0, .ref m0), (1, .int r)] []
  have K_36 : ∀ (n36 : Nat) (ss : Nat) (a : Int32) (b : Int32) (d : Int32) (hn36 : (2 ^ iN (σ 30 0) - ss) < n36) (k1 : ¬ 0 < kPlan r) (hS : rPl2 (fPlan σ r) r (iN (σ 30 0)) ss = (a, b, d)) (hsb : ss ≤ 2 ^ iN (σ 30 0)), sg_W p l e (sg_rm 4 92 0 0) s m ([.ref m0, .int r] : List Value).toArray below meth c 11 g 0 0 (sg_End below g (fun v C' => v = some (.int (vPlan σ r)) ∧ C' = sg_ov C (mW g m0 q (fPlan σ r))) sg_no ([.ref m0, .int r] : List Value).toArray s 0 0) (sg_ov C (mW g m0 q (fPlan σ r))) 36 [(0, .ref m0), (1, .int r), (2, .int a), (3, .int b), (4, .int d), (5, .int (nI ss))] [] := by
    intro n36
    induction n36 with
    | zero => intro ss a b d hn36 k1 hS hsb; exact absurd hn36 (Nat.not_lt_zero _)
    | succ n36 ih36 =>
      intro ss a b d hn36 k1 hS hsb
      have h30 := hWF.2.2.2.2.1.2; have hp2 := pow_b h30
      have K_59 : ∀ (n59 : Nat) (k : Nat) (u : Int32) (v : Int32) (w : Int32) (hn59 : (iN (σ 30 0) - k) < n59) (hS1 : rPl1 (fPlan σ r) ss k = (u, v, w)) (hkb : k ≤ iN (σ 30 0)) (hs2 : ss < 2 ^ iN (σ 30 0)), sg_W p l e (sg_rm 4 92 0 0) s m ([.ref m0, .int r] : List Value).toArray below meth c 11 g 0 0 (sg_End below g (fun v C' => v = some (.int (vPlan σ r)) ∧ C' = sg_ov C (mW g m0 q (fPlan σ r))) sg_no ([.ref m0, .int r] : List Value).toArray s 0 0) (sg_ov C (mW g m0 q (fPlan σ r))) 59 [(0, .ref m0), (1, .int r), (2, .int a), (3, .int b), (4, .int d), (5, .int (nI ss)), (6, .int u), (7, .int v), (8, .int w), (9, .int (nI k))] [] := by
        intro n59
        induction n59 with
        | zero => intro k u v w hn59 hS1 hkb hs2; exact absurd hn59 (Nat.not_lt_zero _)
        | succ n59 ih59 =>
          intro k u v w hn59 hS1 hkb hs2
          refine sw_iload (pc := 59) hc dX8_plan_59 9 rfl ?_
          refine sw_aload_n (pc := 61) hc dX8_plan_61 rfl 0 rfl ?_
          refine sw_get (pc := 62) (v := .int ((fPlan σ r) 30 0)) hc fl_RX8_228 (mW_o hN) rfl dX8_plan_62 ?_
          refine sw_st (st' := [.int (nI (iN (σ 30 0))), .int (nI k)]) (congrArg (fun z => ([.int z, .int (nI k)] : List Value)) (hWF.2.2.2.2.1.1 : (fPlan σ r) 30 0 = nI (iN (σ 30 0)))) ?_
          refine sw_icmp_ge (pc := 65) (tgt := 139) hc dX8_plan_65 (by decide) (fun c_1 => ?_) (fun c_1 => ?_)
          ·
            have n_2 : (iN (σ 30 0)) ≤ k := (nI_leI (a := (iN (σ 30 0))) (b := k) (by omega) (by omega)).mp c_1
            have c_1' := Int32.not_lt.mpr c_1
            refine sw_iload (pc := 139) hc dX8_plan_139 8 rfl ?_
            refine sw_if_eq (pc := 141) (tgt := 179) hc dX8_plan_141 (by decide) (fun c_3 => ?_) (fun c_3 => ?_)
            ·
              refine sw_iinc (pc := 179) (v := nI (ss + 1)) (lv' := [(5, .int (nI (ss + 1))), (0, .ref m0), (1, .int r), (2, .int a), (3, .int b), (4, .int d), (6, .int u), (7, .int v), (8, .int w), (9, .int (nI k))]) hc dX8_plan_179 (k := 5) rfl (nI_1 _) (by decide) rfl ?_
              refine sw_goto (pc := 182) (tgt := 36) hc dX8_plan_182 (by decide) ?_
              have h_4 : ¬ 0 < kPlan r := by exact k1
              have hk8 : k = iN (σ 30 0) := by omega
              have hS2 := hS1; rw [hk8] at hS2
              have h_5 : rPl2 (fPlan σ r) r (iN (σ 30 0)) (ss + 1) = (a, b, d) := by exact rPl2_n hS hS2 (fun q => q.1 c_3)
              have h_6 : (ss + 1) ≤ 2 ^ iN (σ 30 0) := by omega
              have h_7 : (2 ^ iN (σ 30 0) - (ss + 1)) < n36 := by omega
              exact sw_sub (ks := [1, 2, 3, 4, 5, 0]) rfl (ih36 (ss + 1) a b d h_7 h_4 h_5 h_6)
            ·
              refine sw_iload (pc := 144) hc dX8_plan_144 7 rfl ?_
              refine sw_iload_n (pc := 146) hc dX8_plan_146 rfl 1 rfl ?_
              refine sw_icmp_gt (pc := 147) (tgt := 179) hc dX8_plan_147 (by decide) (fun c_8 => ?_) (fun c_8 => ?_)
              ·
                have c_8' := Int32.not_le.mpr c_8
                refine sw_iinc (pc := 179) (v := nI (ss + 1)) (lv' := [(5, .int (nI (ss + 1))), (0, .ref m0), (1, .int r), (2, .int a), (3, .int b), (4, .int d), (6, .int u), (7, .int v), (8, .int w), (9, .int (nI k))]) hc dX8_plan_179 (k := 5) rfl (nI_1 _) (by decide) rfl ?_
                refine sw_goto (pc := 182) (tgt := 36) hc dX8_plan_182 (by decide) ?_
                have h_9 : ¬ 0 < kPlan r := by exact k1
                have hk8 : k = iN (σ 30 0) := by omega
                have hS2 := hS1; rw [hk8] at hS2
                have h_10 : rPl2 (fPlan σ r) r (iN (σ 30 0)) (ss + 1) = (a, b, d) := by exact rPl2_n hS hS2 (fun q => absurd q.2.1 (Int32.not_le.mpr c_8))
                have h_11 : (ss + 1) ≤ 2 ^ iN (σ 30 0) := by omega
                have h_12 : (2 ^ iN (σ 30 0) - (ss + 1)) < n36 := by omega
                exact sw_sub (ks := [1, 2, 3, 4, 5, 0]) rfl (ih36 (ss + 1) a b d h_12 h_9 h_10 h_11)
              ·
                have c_8' := Int32.not_lt.mp c_8
                refine sw_iload (pc := 150) hc dX8_plan_150 6 rfl ?_
                refine sw_iload_n (pc := 152) hc dX8_plan_152 rfl 3 rfl ?_
                refine sw_icmp_gt (pc := 153) (tgt := 169) hc dX8_plan_153 (by decide) (fun c_13 => ?_) (fun c_13 => ?_)
                ·
                  have c_13' := Int32.not_le.mpr c_13
                  refine sw_iload (pc := 169) hc dX8_plan_169 5 rfl ?_
                  refine sw_istore_n (pc := 171) hc dX8_plan_171 rfl (by decide) (lv' := [(2, .int (nI ss)), (0, .ref m0), (1, .int r), (3, .int b), (4, .int d), (5, .int (nI ss)), (6, .int u), (7, .int v), (8, .int w), (9, .int (nI k))]) rfl ?_
                  refine sw_iload (pc := 172) hc dX8_plan_172 6 rfl ?_
                  refine sw_istore_n (pc := 174) hc dX8_plan_174 rfl (by decide) (lv' := [(3, .int u), (2, .int (nI ss)), (0, .ref m0), (1, .int r), (4, .int d), (5, .int (nI ss)), (6, .int u), (7, .int v), (8, .int w), (9, .int (nI k))]) rfl ?_
                  refine sw_iload (pc := 175) hc dX8_plan_175 7 rfl ?_
                  refine sw_istore (pc := 177) hc dX8_plan_177 (by decide) (lv' := [(4, .int v), (3, .int u), (2, .int (nI ss)), (0, .ref m0), (1, .int r), (5, .int (nI ss)), (6, .int u), (7, .int v), (8, .int w), (9, .int (nI k))]) rfl ?_
                  refine sw_iinc (pc := 179) (v := nI (ss + 1)) (lv' := [(5, .int (nI (ss + 1))), (4, .int v), (3, .int u), (2, .int (nI ss)), (0, .ref m0), (1, .int r), (6, .int u), (7, .int v), (8, .int w), (9, .int (nI k))]) hc dX8_plan_179 (k := 5) rfl (nI_1 _) (by decide) rfl ?_
                  refine sw_goto (pc := 182) (tgt := 36) hc dX8_plan_182 (by decide) ?_
                  have h_14 : ¬ 0 < kPlan r := by exact k1
                  have hk8 : k = iN (σ 30 0) := by omega
                  have hS2 := hS1; rw [hk8] at hS2
                  have h_15 : rPl2 (fPlan σ r) r (iN (σ 30 0)) (ss + 1) = ((nI ss), u, v) := by exact rPl2_y hS hS2 ⟨c_3, Int32.not_lt.mp c_8, .inl c_13⟩
                  have h_16 : (ss + 1) ≤ 2 ^ iN (σ 30 0) := by omega
                  have h_17 : (2 ^ iN (σ 30 0) - (ss + 1)) < n36 := by omega
                  exact sw_sub (ks := [4, 5, 3, 2, 1, 0]) rfl (ih36 (ss + 1) (nI ss) u v h_17 h_14 h_15 h_16)
                ·
                  have c_13' := Int32.not_lt.mp c_13
                  refine sw_iload (pc := 156) hc dX8_plan_156 6 rfl ?_
                  refine sw_iload_n (pc := 158) hc dX8_plan_158 rfl 3 rfl ?_
                  refine sw_icmp_ne (pc := 159) (tgt := 179) hc dX8_plan_159 (by decide) (fun c_18 => ?_) (fun c_18 => ?_)
                  ·
                    refine sw_iinc (pc := 179) (v := nI (ss + 1)) (lv' := [(5, .int (nI (ss + 1))), (0, .ref m0), (1, .int r), (2, .int a), (3, .int b), (4, .int d), (6, .int u), (7, .int v), (8, .int w), (9, .int (nI k))]) hc dX8_plan_179 (k := 5) rfl (nI_1 _) (by decide) rfl ?_
                    refine sw_goto (pc := 182) (tgt := 36) hc dX8_plan_182 (by decide) ?_
                    have h_19 : ¬ 0 < kPlan r := by exact k1
                    have hk8 : k = iN (σ 30 0) := by omega
                    have hS2 := hS1; rw [hk8] at hS2
                    have h_20 : rPl2 (fPlan σ r) r (iN (σ 30 0)) (ss + 1) = (a, b, d) := by exact rPl2_n hS hS2 (fun q => q.2.2.elim c_13 (fun z => c_18 z.1))
                    have h_21 : (ss + 1) ≤ 2 ^ iN (σ 30 0) := by omega
                    have h_22 : (2 ^ iN (σ 30 0) - (ss + 1)) < n36 := by omega
                    exact sw_sub (ks := [1, 2, 3, 4, 5, 0]) rfl (ih36 (ss + 1) a b d h_22 h_19 h_20 h_21)
                  ·
                    refine sw_iload (pc := 162) hc dX8_plan_162 7 rfl ?_
                    refine sw_iload (pc := 164) hc dX8_plan_164 4 rfl ?_
                    refine sw_icmp_ge (pc := 166) (tgt := 179) hc dX8_plan_166 (by decide) (fun c_23 => ?_) (fun c_23 => ?_)
                    ·
                      have c_23' := Int32.not_lt.mpr c_23
                      refine sw_iinc (pc := 179) (v := nI (ss + 1)) (lv' := [(5, .int (nI (ss + 1))), (0, .ref m0), (1, .int r), (2, .int a), (3, .int b), (4, .int d), (6, .int u), (7, .int v), (8, .int w), (9, .int (nI k))]) hc dX8_plan_179 (k := 5) rfl (nI_1 _) (by decide) rfl ?_
                      refine sw_goto (pc := 182) (tgt := 36) hc dX8_plan_182 (by decide) ?_
                      have h_24 : ¬ 0 < kPlan r := by exact k1
                      have hk8 : k = iN (σ 30 0) := by omega
                      have hS2 := hS1; rw [hk8] at hS2
                      have h_25 : rPl2 (fPlan σ r) r (iN (σ 30 0)) (ss + 1) = (a, b, d) := by exact rPl2_n hS hS2 (fun q => q.2.2.elim c_13 (fun z => absurd z.2 (Int32.not_lt.mpr c_23)))
                      have h_26 : (ss + 1) ≤ 2 ^ iN (σ 30 0) := by omega
                      have h_27 : (2 ^ iN (σ 30 0) - (ss + 1)) < n36 := by omega
                      exact sw_sub (ks := [1, 2, 3, 4, 5, 0]) rfl (ih36 (ss + 1) a b d h_27 h_24 h_25 h_26)
                    ·
                      have c_23' := Int32.not_le.mp c_23
                      refine sw_iload (pc := 169) hc dX8_plan_169 5 rfl ?_
                      refine sw_istore_n (pc := 171) hc dX8_plan_171 rfl (by decide) (lv' := [(2, .int (nI ss)), (0, .ref m0), (1, .int r), (3, .int b), (4, .int d), (5, .int (nI ss)), (6, .int u), (7, .int v), (8, .int w), (9, .int (nI k))]) rfl ?_
                      refine sw_iload (pc := 172) hc dX8_plan_172 6 rfl ?_
                      refine sw_istore_n (pc := 174) hc dX8_plan_174 rfl (by decide) (lv' := [(3, .int u), (2, .int (nI ss)), (0, .ref m0), (1, .int r), (4, .int d), (5, .int (nI ss)), (6, .int u), (7, .int v), (8, .int w), (9, .int (nI k))]) rfl ?_
                      refine sw_iload (pc := 175) hc dX8_plan_175 7 rfl ?_
                      refine sw_istore (pc := 177) hc dX8_plan_177 (by decide) (lv' := [(4, .int v), (3, .int u), (2, .int (nI ss)), (0, .ref m0), (1, .int r), (5, .int (nI ss)), (6, .int u), (7, .int v), (8, .int w), (9, .int (nI k))]) rfl ?_
                      refine sw_iinc (pc := 179) (v := nI (ss + 1)) (lv' := [(5, .int (nI (ss + 1))), (4, .int v), (3, .int u), (2, .int (nI ss)), (0, .ref m0), (1, .int r), (6, .int u), (7, .int v), (8, .int w), (9, .int (nI k))]) hc dX8_plan_179 (k := 5) rfl (nI_1 _) (by decide) rfl ?_
                      refine sw_goto (pc := 182) (tgt := 36) hc dX8_plan_182 (by decide) ?_
                      have h_28 : ¬ 0 < kPlan r := by exact k1
                      have hk8 : k = iN (σ 30 0) := by omega
                      have hS2 := hS1; rw [hk8] at hS2
                      have h_29 : rPl2 (fPlan σ r) r (iN (σ 30 0)) (ss + 1) = ((nI ss), u, v) := by exact rPl2_y hS hS2 ⟨c_3, Int32.not_lt.mp c_8, .inr ⟨c_18, Int32.not_le.mp c_23⟩⟩
                      have h_30 : (ss + 1) ≤ 2 ^ iN (σ 30 0) := by omega
                      have h_31 : (2 ^ iN (σ 30 0) - (ss + 1)) < n36 := by omega
                      exact sw_sub (ks := [4, 5, 3, 2, 1, 0]) rfl (ih36 (ss + 1) (nI ss) u v h_31 h_28 h_29 h_30)
          ·
            have n_32 : ¬ ((iN (σ 30 0)) ≤ k) := fun z => c_1 ((nI_leI (a := (iN (σ 30 0))) (b := k) (by omega) (by omega)).mpr z)
            have c_1' := Int32.not_le.mp c_1
            refine sw_iload (pc := 68) hc dX8_plan_68 5 rfl ?_
            refine sw_iload (pc := 70) hc dX8_plan_70 9 rfl ?_
            refine sw_ishr (pc := 72) hc dX8_plan_72 ?_
            refine sw_iconst (pc := 73) (v := 1) hc dX8_plan_73 (by decide) ?_
            refine sw_iand (pc := 74) hc dX8_plan_74 ?_
            refine sw_iconst (pc := 75) (v := 1) hc dX8_plan_75 (by decide) ?_
            refine sw_icmp_ne (pc := 76) (tgt := 133) hc dX8_plan_76 (by decide) (fun c_33 => ?_) (fun c_33 => ?_)
            ·
              refine sw_iinc (pc := 133) (v := nI (k + 1)) (lv' := [(9, .int (nI (k + 1))), (0, .ref m0), (1, .int r), (2, .int a), (3, .int b), (4, .int d), (5, .int (nI ss)), (6, .int u), (7, .int v), (8, .int w)]) hc dX8_plan_133 (k := 9) rfl (nI_1 _) (by decide) rfl ?_
              refine sw_goto (pc := 136) (tgt := 59) hc dX8_plan_136 (by decide) ?_
              have h_34 : rPl1 (fPlan σ r) ss (k + 1) = (u, v, w) := by exact rPl1_n hS1 c_33
              have h_35 : (k + 1) ≤ iN (σ 30 0) := by omega
              have h_36 : ss < 2 ^ iN (σ 30 0) := by omega
              have h_37 : (iN (σ 30 0) - (k + 1)) < n59 := by omega
              exact sw_sub (ks := [1, 2, 3, 4, 5, 6, 7, 8, 9, 0]) rfl (ih59 (k + 1) u v w h_37 h_34 h_35 h_36)
            ·
              refine sw_aload_n (pc := 79) hc dX8_plan_79 rfl 0 rfl ?_
              refine sw_aload_n (pc := 80) hc dX8_plan_80 rfl 0 rfl ?_
              refine sw_get (pc := 81) (v := .ref (q 27)) hc fl_RX8_79 (mW_o hN) rfl dX8_plan_81 ?_
              refine sw_iload (pc := 84) hc dX8_plan_84 9 rfl ?_
              refine sw_iald (pc := 86) (j := k) hc (mW_a27 hN) rfl (by omega) (by decide) dX8_plan_86 ?_
              refine sw_aload_n (pc := 87) hc dX8_plan_87 rfl 0 rfl ?_
              refine sw_get (pc := 88) (v := .ref (q 28)) hc fl_RX8_82 (mW_o hN) rfl dX8_plan_88 ?_
              refine sw_iload (pc := 91) hc dX8_plan_91 9 rfl ?_
              refine sw_iald (pc := 93) (j := k) hc (mW_a28 hN) rfl (by omega) (by decide) dX8_plan_93 ?_
              refine sw_callV (pc := 94) (rest := []) hc (c_X8_guess l g C m0 q (fPlan σ r) ((fPlan σ r) 27 k) ((fPlan σ r) 28 k) hN (hWF.t)) md_X8_guess ml_RX8_225 im_X8_guess sl_X8_guess (mW_o hN) rfl rfl rfl (Nat.le_of_ble_eq_true rfl) dX8_plan_94 ⟨Nat.le_of_ble_eq_true rfl, Nat.le_of_ble_eq_true rfl, Nat.le_of_ble_eq_true rfl, Nat.le_of_ble_eq_true rfl⟩ (fun v C' hP => ?_) (fun _ _ h => h.elim)
              obtain ⟨rfl, rfl⟩ := hP
              refine sw_st (st' := [.int (rGuess (fPlan σ r) ((fPlan σ r) 27 k) ((fPlan σ r) 28 k))]) rfl ?_
              refine sw_top (fun x_38 ex_38 => ?_)
              refine sw_istore (pc := 97) hc dX8_plan_97 (by decide) (lv' := [(10, .int x_38), (0, .ref m0), (1, .int r), (2, .int a), (3, .int b), (4, .int d), (5, .int (nI ss)), (6, .int u), (7, .int v), (8, .int w), (9, .int (nI k))]) rfl ?_
              refine sw_iload (pc := 99) hc dX8_plan_99 9 rfl ?_
              refine sw_iload (pc := 101) hc dX8_plan_101 0 rfl ?_
              refine sw_if_lt (pc := 103) (tgt := 110) hc dX8_plan_103 (by decide) (fun c_39 => ?_) (fun c_39 => ?_)
              ·
                have c_39' := Int32.not_le.mpr c_39
                refine sw_iconst (pc := 110) (v := 0) hc dX8_plan_110 (by decide) ?_
                refine sw_iand (pc := 111) hc dX8_plan_111 ?_
                refine sw_istore (pc := 112) hc dX8_plan_112 (by decide) (lv' := [(8, .int (w &&& 0)), (10, .int x_38), (0, .ref m0), (1, .int r), (2, .int a), (3, .int b), (4, .int d), (5, .int (nI ss)), (6, .int u), (7, .int v), (9, .int (nI k))]) rfl ?_
                refine sw_iload (pc := 114) hc dX8_plan_114 8 rfl ?_
                refine sw_aload_n (pc := 116) hc dX8_plan_116 rfl 2 rfl ?_
                refine sw_get (pc := 117) (v := .ref (q 29)) hc fl_RX8_85 (mW_o hN) rfl dX8_plan_117 ?_
                refine sw_iload (pc := 120) hc dX8_plan_120 10 rfl ?_
                refine sw_iald (pc := 122) (j := k) hc (mW_a29 hN) rfl (by omega) (by decide) dX8_plan_122 ?_
                refine sw_iadd (pc := 123) hc dX8_plan_123 ?_
                refine sw_istore (pc := 124) hc dX8_plan_124 (by decide) (lv' := [(6, .int (u + ((fPlan σ r) 29 k))), (8, .int (w &&& 0)), (10, .int x_38), (0, .ref m0), (1, .int r), (2, .int a), (3, .int b), (4, .int d), (5, .int (nI ss)), (7, .int v), (9, .int (nI k))]) rfl ?_
                refine sw_iload (pc := 126) hc dX8_plan_126 9 rfl ?_
                refine sw_iload (pc := 128) hc dX8_plan_128 2 rfl ?_
                refine sw_iadd (pc := 130) hc dX8_plan_130 ?_
                refine sw_istore (pc := 131) hc dX8_plan_131 (by decide) (lv' := [(7, .int (v + x_38)), (6, .int (u + ((fPlan σ r) 29 k))), (8, .int (w &&& 0)), (10, .int x_38), (0, .ref m0), (1, .int r), (2, .int a), (3, .int b), (4, .int d), (5, .int (nI ss)), (9, .int (nI k))]) rfl ?_
                refine sw_iinc (pc := 133) (v := nI (k + 1)) (lv' := [(9, .int (nI (k + 1))), (7, .int (v + x_38)), (6, .int (u + ((fPlan σ r) 29 k))), (8, .int (w &&& 0)), (10, .int x_38), (0, .ref m0), (1, .int r), (2, .int a), (3, .int b), (4, .int d), (5, .int (nI ss))]) hc dX8_plan_133 (k := 10) rfl (nI_1 _) (by decide) rfl ?_
                refine sw_goto (pc := 136) (tgt := 59) hc dX8_plan_136 (by decide) ?_
                have h_40 : rPl1 (fPlan σ r) ss (k + 1) = ((u + ((fPlan σ r) 29 k)), (v + x_38), (w &&& 0)) := by (subst ex_38; exact rPl1_y hS1 c_33 ((bI_f (Int32.not_le.mpr c_39)).symm))
                have h_41 : (k + 1) ≤ iN (σ 30 0) := by omega
                have h_42 : ss < 2 ^ iN (σ 30 0) := by omega
                have h_43 : (iN (σ 30 0) - (k + 1)) < n59 := by omega
                exact sw_sub (ks := [5, 6, 7, 8, 9, 10, 2, 1, 3, 0]) rfl (ih59 (k + 1) (u + ((fPlan σ r) 29 k)) (v + x_38) (w &&& 0) h_43 h_40 h_41 h_42)
              ·
                have c_39' := Int32.not_lt.mp c_39
                refine sw_iconst (pc := 106) (v := 1) hc dX8_plan_106 (by decide) ?_
                refine sw_goto (pc := 107) (tgt := 111) hc dX8_plan_107 (by decide) ?_
                refine sw_iand (pc := 111) hc dX8_plan_111 ?_
                refine sw_istore (pc := 112) hc dX8_plan_112 (by decide) (lv' := [(8, .int (w &&& 1)), (10, .int x_38), (0, .ref m0), (1, .int r), (2, .int a), (3, .int b), (4, .int d), (5, .int (nI ss)), (6, .int u), (7, .int v), (9, .int (nI k))]) rfl ?_
                refine sw_iload (pc := 114) hc dX8_plan_114 8 rfl ?_
                refine sw_aload_n (pc := 116) hc dX8_plan_116 rfl 2 rfl ?_
                refine sw_get (pc := 117) (v := .ref (q 29)) hc fl_RX8_85 (mW_o hN) rfl dX8_plan_117 ?_
                refine sw_iload (pc := 120) hc dX8_plan_120 10 rfl ?_
                refine sw_iald (pc := 122) (j := k) hc (mW_a29 hN) rfl (by omega) (by decide) dX8_plan_122 ?_
                refine sw_iadd (pc := 123) hc dX8_plan_123 ?_
                refine sw_istore (pc := 124) hc dX8_plan_124 (by decide) (lv' := [(6, .int (u + ((fPlan σ r) 29 k))), (8, .int (w &&& 1)), (10, .int x_38), (0, .ref m0), (1, .int r), (2, .int a), (3, .int b), (4, .int d), (5, .int (nI ss)), (7, .int v), (9, .int (nI k))]) rfl ?_
                refine sw_iload (pc := 126) hc dX8_plan_126 9 rfl ?_
                refine sw_iload (pc := 128) hc dX8_plan_128 2 rfl ?_
                refine sw_iadd (pc := 130) hc dX8_plan_130 ?_
                refine sw_istore (pc := 131) hc dX8_plan_131 (by decide) (lv' := [(7, .int (v + x_38)), (6, .int (u + ((fPlan σ r) 29 k))), (8, .int (w &&& 1)), (10, .int x_38), (0, .ref m0), (1, .int r), (2, .int a), (3, .int b), (4, .int d), (5, .int (nI ss)), (9, .int (nI k))]) rfl ?_
                refine sw_iinc (pc := 133) (v := nI (k + 1)) (lv' := [(9, .int (nI (k + 1))), (7, .int (v + x_38)), (6, .int (u + ((fPlan σ r) 29 k))), (8, .int (w &&& 1)), (10, .int x_38), (0, .ref m0), (1, .int r), (2, .int a), (3, .int b), (4, .int d), (5, .int (nI ss))]) hc dX8_plan_133 (k := 10) rfl (nI_1 _) (by decide) rfl ?_
                refine sw_goto (pc := 136) (tgt := 59) hc dX8_plan_136 (by decide) ?_
                have h_44 : rPl1 (fPlan σ r) ss (k + 1) = ((u + ((fPlan σ r) 29 k)), (v + x_38), (w &&& 1)) := by (subst ex_38; exact rPl1_y hS1 c_33 ((bI_t (Int32.not_lt.mp c_39)).symm))
                have h_45 : (k + 1) ≤ iN (σ 30 0) := by omega
                have h_46 : ss < 2 ^ iN (σ 30 0) := by omega
                have h_47 : (iN (σ 30 0) - (k + 1)) < n59 := by omega
                exact sw_sub (ks := [5, 6, 7, 8, 9, 10, 2, 1, 3, 0]) rfl (ih59 (k + 1) (u + ((fPlan σ r) 29 k)) (v + x_38) (w &&& 1) h_47 h_44 h_45 h_46)
      refine sw_iload (pc := 36) hc dX8_plan_36 5 rfl ?_
      refine sw_iconst (pc := 38) (v := 1) hc dX8_plan_38 (by decide) ?_
      refine sw_aload_n (pc := 39) hc dX8_plan_39 rfl 0 rfl ?_
      refine sw_get (pc := 40) (v := .int ((fPlan σ r) 30 0)) hc fl_RX8_228 (mW_o hN) rfl dX8_plan_40 ?_
      refine sw_st (st' := [.int (nI (iN (σ 30 0))), .int 1, .int (nI ss)]) (congrArg (fun z => ([.int z, .int 1, .int (nI ss)] : List Value)) (hWF.2.2.2.2.1.1 : (fPlan σ r) 30 0 = nI (iN (σ 30 0)))) ?_
      refine sw_ishl (pc := 43) hc dX8_plan_43 ?_
      refine sw_st (st' := [.int (nI (2 ^ iN (σ 30 0))), .int (nI ss)]) (congrArg (fun z => ([.int z, .int (nI ss)] : List Value)) (shl_p hWF.2.2.2.2.1.2 : 1 <<< ((nI (iN (σ 30 0))) &&& 31) = nI (2 ^ iN (σ 30 0)))) ?_
      refine sw_icmp_ge (pc := 44) (tgt := 185) hc dX8_plan_44 (by decide) (fun c_48 => ?_) (fun c_48 => ?_)
      ·
        have n_49 : (2 ^ iN (σ 30 0)) ≤ ss := (nI_leI (a := (2 ^ iN (σ 30 0))) (b := ss) (by omega) (by omega)).mp c_48
        have c_48' := Int32.not_lt.mpr c_48
        refine sw_iload_n (pc := 185) hc dX8_plan_185 rfl 2 rfl ?_
        have hs8 : ss = 2 ^ iN (σ 30 0) := by omega
        rw [hs8] at hS
        have hz : a = vPlan σ r := (show a = (rPl2 (fPlan σ r) r (iN (σ 30 0)) (2 ^ iN (σ 30 0))).1 by rw [hS]).trans (if_neg k1).symm
        exact sw_iret (pc := 186) hc hlk hrt rfl ⟨congrArg (fun z => some (Value.int z)) hz, rfl⟩ (Nat.le_of_ble_eq_true rfl) (Nat.le_of_ble_eq_true rfl) dX8_plan_186
      ·
        have n_50 : ¬ ((2 ^ iN (σ 30 0)) ≤ ss) := fun z => c_48 ((nI_leI (a := (2 ^ iN (σ 30 0))) (b := ss) (by omega) (by omega)).mpr z)
        have c_48' := Int32.not_le.mp c_48
        refine sw_iconst (pc := 47) (v := 0) hc dX8_plan_47 (by decide) ?_
        refine sw_istore (pc := 48) hc dX8_plan_48 (by decide) (lv' := [(6, .int 0), (0, .ref m0), (1, .int r), (2, .int a), (3, .int b), (4, .int d), (5, .int (nI ss))]) rfl ?_
        refine sw_iconst (pc := 50) (v := 0) hc dX8_plan_50 (by decide) ?_
        refine sw_istore (pc := 51) hc dX8_plan_51 (by decide) (lv' := [(7, .int 0), (6, .int 0), (0, .ref m0), (1, .int r), (2, .int a), (3, .int b), (4, .int d), (5, .int (nI ss))]) rfl ?_
        refine sw_iconst (pc := 53) (v := 1) hc dX8_plan_53 (by decide) ?_
        refine sw_istore (pc := 54) hc dX8_plan_54 (by decide) (lv' := [(8, .int 1), (7, .int 0), (6, .int 0), (0, .ref m0), (1, .int r), (2, .int a), (3, .int b), (4, .int d), (5, .int (nI ss))]) rfl ?_
        refine sw_iconst (pc := 56) (v := 0) hc dX8_plan_56 (by decide) ?_
        refine sw_istore (pc := 57) hc dX8_plan_57 (by decide) (lv' := [(9, .int 0), (8, .int 1), (7, .int 0), (6, .int 0), (0, .ref m0), (1, .int r), (2, .int a), (3, .int b), (4, .int d), (5, .int (nI ss))]) rfl ?_
        have h_51 : rPl1 (fPlan σ r) ss 0 = (0, 0, 1) := by rfl
        have h_52 : 0 ≤ iN (σ 30 0) := by omega
        have h_53 : ss < 2 ^ iN (σ 30 0) := by omega
        exact sw_sub (ks := [4, 5, 6, 7, 8, 9, 3, 2, 1, 0]) rfl (K_59 _ 0 0 0 1 (Nat.lt_succ_self _) h_51 h_52 h_53)
  have K_18 : sg_W p l e (sg_rm 4 92 0 0) s m ([.ref m0, .int r] : List Value).toArray below meth c 11 g 0 0 (sg_End below g (fun v C' => v = some (.int (vPlan σ r)) ∧ C' = sg_ov C (mW g m0 q (fPlan σ r))) sg_no ([.ref m0, .int r] : List Value).toArray s 0 0) (sg_ov C (mW g m0 q σ)) 18 [(0, .ref m0), (1, .int r)] [.int (kPlan r), .ref m0] := by
    refine sw_callV (pc := 18) (rest := []) hc (c_X8_holds l g C m0 q σ (kPlan r) hN ) md_X8_holds ml_RX8_171 im_X8_holds sl_X8_holds (mW_o hN) rfl rfl rfl (Nat.le_of_ble_eq_true rfl) dX8_plan_18 ⟨Nat.le_of_ble_eq_true rfl, Nat.le_of_ble_eq_true rfl, Nat.le_of_ble_eq_true rfl, Nat.le_of_ble_eq_true rfl⟩ (fun v C' hP => ?_) (fun _ _ h => h.elim)
    obtain ⟨rfl, rfl⟩ := hP
    refine sw_st (st' := [.int (bI (0 < (kPlan r)))]) rfl ?_
    refine sw_if_eq (pc := 21) (tgt := 26) hc dX8_plan_21 (by decide) (fun c_54 => ?_) (fun c_54 => ?_)
    ·
      have p_55 : ¬ (0 < (kPlan r)) := bI_0 c_54
      have k1 := p_55
      refine sw_eq (C' := sg_ov C (mW g m0 q (fPlan σ r))) rfl ?_
      refine sw_iconst (pc := 26) (v := 0) hc dX8_plan_26 (by decide) ?_
      refine sw_istore_n (pc := 27) hc dX8_plan_27 rfl (by decide) (lv' := [(2, .int 0), (0, .ref m0), (1, .int r)]) rfl ?_
      refine sw_iconst (pc := 28) (v := 0) hc dX8_plan_28 (by decide) ?_
      refine sw_istore_n (pc := 29) hc dX8_plan_29 rfl (by decide) (lv' := [(3, .int 0), (2, .int 0), (0, .ref m0), (1, .int r)]) rfl ?_
      refine sw_iconst (pc := 30) (v := 0) hc dX8_plan_30 (by decide) ?_
      refine sw_istore (pc := 31) hc dX8_plan_31 (by decide) (lv' := [(4, .int 0), (3, .int 0), (2, .int 0), (0, .ref m0), (1, .int r)]) rfl ?_
      refine sw_iconst (pc := 33) (v := 0) hc dX8_plan_33 (by decide) ?_
      refine sw_istore (pc := 34) hc dX8_plan_34 (by decide) (lv' := [(5, .int 0), (4, .int 0), (3, .int 0), (2, .int 0), (0, .ref m0), (1, .int r)]) rfl ?_
      have h_56 : ¬ 0 < kPlan r := by exact k1
      have h_57 : rPl2 (fPlan σ r) r (iN (σ 30 0)) 0 = (0, 0, 0) := by rfl
      have h_58 : 0 ≤ 2 ^ iN (σ 30 0) := by exact Nat.zero_le _
      exact sw_sub (ks := [4, 5, 3, 2, 1, 0]) rfl (K_36 _ 0 0 0 0 (Nat.lt_succ_self _) h_56 h_57 h_58)
    ·
      have p_59 : 0 < (kPlan r) := bI_n c_54
      refine sw_iconst (pc := 24) (v := (-1)) hc dX8_plan_24 (by decide) ?_
      have h_60 : (-1) = vPlan σ r := by first | rfl | exact (if_pos (by assumption)).symm | exact (if_neg (by assumption)).symm
      have h_61 : st2 σ 42 0 (kPlan r) = fPlan σ r := by first | rfl | exact (if_pos (by assumption)).symm | exact (if_neg (by assumption)).symm
      exact sw_iret (pc := 25) hc hlk hrt rfl ⟨(congrArg (fun z => some (Value.int z)) h_60), (congrArg (fun z => sg_ov C (mW g m0 q z)) h_61)⟩ (Nat.le_of_ble_eq_true rfl) (Nat.le_of_ble_eq_true rfl) dX8_plan_25
  refine sw_aload_n (pc := 0) hc dX8_plan_0 rfl 0 rfl ?_
  refine sw_aload_n (pc := 1) hc dX8_plan_1 rfl 0 rfl ?_
  refine sw_iload_n (pc := 2) hc dX8_plan_2 rfl 1 rfl ?_
  refine sw_iconst (pc := 3) (v := 0) hc dX8_plan_3 (by decide) ?_
  refine sw_sipush (pc := 4) (v := 10000) hc dX8_plan_4 (by decide) ?_
  refine sw_callV (pc := 7) (rest := [.ref m0]) hc (c_X8_between l g C m0 q σ r 0 10000 hN ) md_X8_between ml_RX8_95 im_X8_between sl_X8_between (mW_o hN) rfl rfl rfl (Nat.le_of_ble_eq_true rfl) dX8_plan_7 ⟨Nat.le_of_ble_eq_true rfl, Nat.le_of_ble_eq_true rfl, Nat.le_of_ble_eq_true rfl, Nat.le_of_ble_eq_true rfl⟩ (fun v C' hP => ?_) (fun _ _ h => h.elim)
  obtain ⟨rfl, rfl⟩ := hP
  refine sw_st (st' := [.int (bI (0 ≤ r ∧ r ≤ 10000)), .ref m0]) rfl ?_
  refine sw_if_eq (pc := 10) (tgt := 17) hc dX8_plan_10 (by decide) (fun c_62 => ?_) (fun c_62 => ?_)
  ·
    have p_63 : ¬ (0 ≤ r ∧ r ≤ 10000) := bI_0 c_62
    refine sw_iconst (pc := 17) (v := 1) hc dX8_plan_17 (by decide) ?_
    have h_64 : 1 = kPlan r := by first | with_reducible rfl | (first | with_reducible rfl | (simp [-Int32.not_le, -Int32.not_lt, kPlan, st2_a, p_63]; done) | (((try simp only [st2_a, Nat.reduceBEq, Bool.false_and, Bool.true_and, beq_self_eq_true, cond_false, cond_true] at p_63) <;> simp [-Int32.not_le, -Int32.not_lt, kPlan, st2_a, p_63]); done) | ((try simp only [kPlan]); (repeat' split) <;> simp_all [-Int32.not_le, -Int32.not_lt, st2_a, rGap, rWall]; done))
    refine sw_st (st' := [.int (kPlan r), .ref m0]) (congrArg (fun z => ([.int z, .ref m0] : List Value)) h_64) ?_
    exact sw_sub (ks := [0, 1]) rfl (K_18 )
  ·
    have p_65 : 0 ≤ r ∧ r ≤ 10000 := bI_n c_62
    refine sw_iconst (pc := 13) (v := 0) hc dX8_plan_13 (by decide) ?_
    refine sw_goto (pc := 14) (tgt := 18) hc dX8_plan_14 (by decide) ?_
    have h_66 : 0 = kPlan r := by first | with_reducible rfl | (first | with_reducible rfl | (simp [-Int32.not_le, -Int32.not_lt, kPlan, st2_a, p_65]; done) | (((try simp only [st2_a, Nat.reduceBEq, Bool.false_and, Bool.true_and, beq_self_eq_true, cond_false, cond_true] at p_65) <;> simp [-Int32.not_le, -Int32.not_lt, kPlan, st2_a, p_65]); done) | ((try simp only [kPlan]); (repeat' split) <;> simp_all [-Int32.not_le, -Int32.not_lt, st2_a, rGap, rWall]; done))
    refine sw_st (st' := [.int (kPlan r), .ref m0]) (congrArg (fun z => ([.int z, .ref m0] : List Value)) h_66) ?_
    exact sw_sub (ks := [0, 1]) rfl (K_18 )

