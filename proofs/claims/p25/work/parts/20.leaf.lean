
/-! what the class's small methods answer -/
def hfs (h : Nat → Int32) : List Value := [.int (h 0), .int (h 1), .int (h 2), .int (h 3), .int (h 4), .int (h 5), .int (h 6), .int (h 7), .int (h 8), .int (h 9), .int (h 10), .int (h 11)]
theorem sg_nn {c : Int32} (h0 : ¬ c < 0) (h1 : ¬ (32 : Int32) ≤ c) : c = nI c.toNatClampNeg ∧ c.toNatClampNeg < 32 := by
  obtain ⟨j, hj, rfl⟩ := nI_of h0
  rw [nI_clamp hj]
  refine ⟨rfl, ?_⟩
  rcases Nat.lt_or_ge j 32 with h | h
  · exact h
  · exact absurd (nI_le h hj) h1
abbrev lGap (gp : Nat → Int32) (c : Int32) : Prop := c < 0 ∨ 32 ≤ c ∨ ¬ gp c.toNatClampNeg = 0
def lBase (fl : Nat → Int32) (c : Int32) : Int32 := if c < 0 ∨ 32 ≤ c then 0 else fl c.toNatClampNeg
abbrev lAbove (gp fl : Nat → Int32) (c h : Int32) : Prop := ¬ c < 0 ∧ ¬ 32 ≤ c ∧ gp c.toNatClampNeg = 0 ∧ h < fl c.toNatClampNeg
abbrev lItem (it : Nat → Int32) (c x : Int32) : Prop := ¬ c < 0 ∧ ¬ 32 ≤ c ∧ it c.toNatClampNeg = x

abbrev Her : Type := Nat → Int32
def hStart (fl : Nat → Int32) (h : Her) : Her := st1 (st1 (st1 (st1 (st1 (st1 (st1 (st1 (st1 (st1 (st1 (st1 h 0 8) 1 (lBase fl 0)) 2 0) 3 1) 4 1) 5 0) 6 0) 7 0) 8 0) 9 0) 10 0) 11 0
def hWay1 (b : Int32) : Int32 := if b &&& 2 = 0 then 0 else 0 + 4
def hWay (b : Int32) : Int32 := if b &&& 1 = 0 then hWay1 b else hWay1 b + (-4)
abbrev hDash (h : Her) (dn w : Int32) : Prop := ¬ dn = 0 ∧ ¬ w = 0 ∧ ¬ h 4 = 0
def hWay2 (h : Her) (dn w : Int32) : Int32 := if hDash h dn w then w * 5 else w
def hChs (h : Her) (dn w : Int32) : Her := if hDash h dn w then st1 (st1 h 4 0) 9 (st1 h 4 0 9 ||| 2) else h
def hLeft (h : Her) (w : Int32) : Her := if 0 ≤ w then h else st1 h 9 (h 9 ||| 1)
def hClip (gp fl : Nat → Int32) : Nat → Int32 → Her → Her
  | 0, _, h => h
  | n + 1, i, h => hClip gp fl n (i + 1) (if lAbove gp fl i (h 1) then st1 h 9 (h 9 ||| 4) else h)
def hAim (h : Her) (w : Int32) : Int32 := jmax 0 (jmin 511 (h 0 + w))
def hGo (gp fl : Nat → Int32) (h : Her) (w : Int32) : Her := if lAbove gp fl (hAim h w / 16) (h 1) then h else
  hClip gp fl ((jmax (h 0 / 16) (hAim h w / 16)).toInt - (jmin (h 0 / 16) (hAim h w / 16) + 1).toInt).toNat (jmin (h 0 / 16) (hAim h w / 16) + 1) (st1 h 0 (hAim h w))
def hFall1 (gp fl : Nat → Int32) (h : Her) : Her := if ¬ h 3 = 0 ∧ (lGap gp (h 0 / 16) ∨ lBase fl (h 0 / 16) < h 1) then st1 (st1 h 3 0) 2 0 else h
def hFall2 (h : Her) : Her := st1 (st1 h 2 (jmax (-14) (h 2 - 2))) 1 (h 1 + jmax (-14) (h 2 - 2))
def hFall3 (gp fl : Nat → Int32) (c : Int32) (h : Her) : Her := if ¬ lGap gp c ∧ h 2 ≤ 0 ∧ h 1 ≤ lBase fl c then st1 (st1 (st1 h 1 (lBase fl c)) 3 1) 2 0 else h
def hFall (gp fl : Nat → Int32) (h : Her) : Her := if hFall1 gp fl h 3 = 0 then hFall3 gp fl (h 0 / 16) (hFall2 (hFall1 gp fl h)) else hFall1 gp fl h
def hCoin (fl it : Nat → Int32) (h : Her) : Her := if h 6 &&& (1 <<< (h 0 / 16 &&& 31)) = 0 ∧ lItem it (h 0 / 16) 1 ∧ h 1 - lBase fl (h 0 / 16) ≤ 24 then st1 (st1 h 6 (h 6 ||| (1 <<< (h 0 / 16 &&& 31)))) 7 (h 7 + 1) else h
def hFin (it : Nat → Int32) (h : Her) : Her := if h 1 < -32 ∨ (¬ h 3 = 0 ∧ lItem it (h 0 / 16) 2) then st1 h 11 2 else if h 0 / 16 = 31 then st1 h 11 1 else h
def hJump (h : Her) (a : Int32) : Her := if ¬ a &&& 4 = 0 ∧ ¬ h 3 = 0 then st1 (st1 (st1 h 2 14) 3 0) 8 (h 8 + 1) else h
def hCan (h : Her) : Her := if h 3 = 0 then h else st1 h 4 1
def hNew (h : Her) (b : Int32) : Int32 := b &&& (h 5 ^^^ (-1))
def hDn (h : Her) (b : Int32) : Int32 := bI (¬ hNew h b &&& 8 = 0)
def hChoose (h : Her) (b dn : Int32) : Her := hLeft (hChs h dn (hWay b)) (hWay2 h dn (hWay b))
def hTick (gp fl it : Nat → Int32) (h : Her) (b : Int32) : Her :=
  let h1 := hJump (hChoose (st1 h 5 b) b (hDn h b)) (hNew h b)
  let h2 := hCan (hFall gp fl (hGo gp fl h1 (hWay2 (st1 h 5 b) (hDn h b) (hWay b))))
  let h3 := hCoin fl it h2
  hFin it (st1 h3 10 (h3 10 + 1))
theorem i32_succ {a b : Int32} (h : a < b) : (a + 1).toInt = a.toInt + 1 := by
  have h1 := Int32.lt_iff_toInt_lt.mp h
  have h2 := b.toInt_lt
  have h3 := a.le_toInt
  rw [Int32.toInt_add]
  have : (1 : Int32).toInt = 1 := rfl
  rw [this]
  apply Int.bmod_eq_of_le <;> omega

theorem ti_3 : ∀ w ∈ u_ws RX2 TX2 3, w ∈ sg_T := List.forall_mem_cons.mpr ⟨sg_mem (i := 249) (by decide +kernel) rfl, List.forall_mem_cons.mpr ⟨sg_mem (i := 251) (by decide +kernel) rfl, List.forall_mem_cons.mpr ⟨sg_mem (i := 253) (by decide +kernel) rfl, fun _ h => absurd h List.not_mem_nil⟩⟩⟩
theorem fl_RX2_9 : sg_FL RX2 9 3 0 := ⟨RX2, TX2, 3, "SplitGate$Level", rfl, by decide, ti_3, .inl rfl, .inl (sg_mem (i := 246) (by decide +kernel) rfl)⟩
theorem fl_RX2_15 : sg_FL RX2 15 3 1 := ⟨RX2, TX2, 3, "SplitGate$Level", rfl, by decide, ti_3, .inl rfl, .inl (sg_mem (i := 247) (by decide +kernel) rfl)⟩
theorem fl_RX2_19 : sg_FL RX2 19 3 2 := ⟨RX2, TX2, 3, "SplitGate$Level", rfl, by decide, ti_3, .inl rfl, .inl (sg_mem (i := 248) (by decide +kernel) rfl)⟩
theorem ti_2 : ∀ w ∈ u_ws RX1 TX1 12, w ∈ sg_T := List.forall_mem_cons.mpr ⟨sg_mem (i := 110) (by decide +kernel) rfl, List.forall_mem_cons.mpr ⟨sg_mem (i := 112) (by decide +kernel) rfl, List.forall_mem_cons.mpr ⟨sg_mem (i := 114) (by decide +kernel) rfl, List.forall_mem_cons.mpr ⟨sg_mem (i := 116) (by decide +kernel) rfl, List.forall_mem_cons.mpr ⟨sg_mem (i := 118) (by decide +kernel) rfl, List.forall_mem_cons.mpr ⟨sg_mem (i := 120) (by decide +kernel) rfl, List.forall_mem_cons.mpr ⟨sg_mem (i := 122) (by decide +kernel) rfl, List.forall_mem_cons.mpr ⟨sg_mem (i := 124) (by decide +kernel) rfl, List.forall_mem_cons.mpr ⟨sg_mem (i := 126) (by decide +kernel) rfl, List.forall_mem_cons.mpr ⟨sg_mem (i := 128) (by decide +kernel) rfl, List.forall_mem_cons.mpr ⟨sg_mem (i := 130) (by decide +kernel) rfl, List.forall_mem_cons.mpr ⟨sg_mem (i := 132) (by decide +kernel) rfl, fun _ h => absurd h List.not_mem_nil⟩⟩⟩⟩⟩⟩⟩⟩⟩⟩⟩⟩
theorem fl_RX1_52 : sg_FL RX1 52 2 11 := ⟨RX1, TX1, 12, "SplitGate$Hero", rfl, by decide, ti_2, .inl rfl, .inl (sg_mem (i := 108) (by decide +kernel) rfl)⟩
theorem fl_RX1_11 : sg_FL RX1 11 2 0 := ⟨RX1, TX1, 12, "SplitGate$Hero", rfl, by decide, ti_2, .inl rfl, .inl (sg_mem (i := 89) (by decide +kernel) rfl)⟩
theorem ty_2 : sg_TY 2 := ⟨RX1, TX1, 12, tyX1, rfl, tyX1_ok, nmX1⟩
theorem fp_2_0 : sg_FP 2 0 false .int := ⟨RX1, TX1, 12, rfl, rfl, by decide +kernel, rfl⟩
theorem md_X2_base : sg_MD yX2_base cX2_base 2 (some .int) 1 := ⟨sg_mem (i := 373) (by decide +kernel) rfl, sg_mem (i := 35) (by decide +kernel) rfl, ⟨by decide, by decide⟩, by decide +kernel⟩
theorem ml_RX1_15 : sg_ML RX1 15 yX2_base := .inl (sg_mem (i := 370) (by decide +kernel) rfl)
theorem im_X2_base : Cond.instanceMethod yX2_base ∈ sg_T := sg_mem (i := 371) (by decide +kernel) rfl
theorem sl_X2_base : Cond.selects yX2_base.cls yX2_base yX2_base ∈ sg_T := sg_mem (i := 372) (by decide +kernel) rfl
theorem fl_RX1_21 : sg_FL RX1 21 2 1 := ⟨RX1, TX1, 12, "SplitGate$Hero", rfl, by decide, ti_2, .inl rfl, .inl (sg_mem (i := 91) (by decide +kernel) rfl)⟩
theorem fp_2_1 : sg_FP 2 1 false .int := ⟨RX1, TX1, 12, rfl, rfl, by decide +kernel, rfl⟩
theorem fl_RX1_24 : sg_FL RX1 24 2 2 := ⟨RX1, TX1, 12, "SplitGate$Hero", rfl, by decide, ti_2, .inl rfl, .inl (sg_mem (i := 93) (by decide +kernel) rfl)⟩
theorem fp_2_2 : sg_FP 2 2 false .int := ⟨RX1, TX1, 12, rfl, rfl, by decide +kernel, rfl⟩
theorem fl_RX1_27 : sg_FL RX1 27 2 3 := ⟨RX1, TX1, 12, "SplitGate$Hero", rfl, by decide, ti_2, .inl rfl, .inl (sg_mem (i := 94) (by decide +kernel) rfl)⟩
theorem fp_2_3 : sg_FP 2 3 false .boolean := ⟨RX1, TX1, 12, rfl, rfl, by decide +kernel, rfl⟩
theorem fl_RX1_31 : sg_FL RX1 31 2 4 := ⟨RX1, TX1, 12, "SplitGate$Hero", rfl, by decide, ti_2, .inl rfl, .inl (sg_mem (i := 95) (by decide +kernel) rfl)⟩
theorem fp_2_4 : sg_FP 2 4 false .boolean := ⟨RX1, TX1, 12, rfl, rfl, by decide +kernel, rfl⟩
theorem fl_RX1_34 : sg_FL RX1 34 2 5 := ⟨RX1, TX1, 12, "SplitGate$Hero", rfl, by decide, ti_2, .inl rfl, .inl (sg_mem (i := 96) (by decide +kernel) rfl)⟩
theorem fp_2_5 : sg_FP 2 5 false .int := ⟨RX1, TX1, 12, rfl, rfl, by decide +kernel, rfl⟩
theorem fl_RX1_37 : sg_FL RX1 37 2 6 := ⟨RX1, TX1, 12, "SplitGate$Hero", rfl, by decide, ti_2, .inl rfl, .inl (sg_mem (i := 97) (by decide +kernel) rfl)⟩
theorem fp_2_6 : sg_FP 2 6 false .int := ⟨RX1, TX1, 12, rfl, rfl, by decide +kernel, rfl⟩
theorem fl_RX1_40 : sg_FL RX1 40 2 7 := ⟨RX1, TX1, 12, "SplitGate$Hero", rfl, by decide, ti_2, .inl rfl, .inl (sg_mem (i := 99) (by decide +kernel) rfl)⟩
theorem fp_2_7 : sg_FP 2 7 false .int := ⟨RX1, TX1, 12, rfl, rfl, by decide +kernel, rfl⟩
theorem fl_RX1_43 : sg_FL RX1 43 2 8 := ⟨RX1, TX1, 12, "SplitGate$Hero", rfl, by decide, ti_2, .inl rfl, .inl (sg_mem (i := 101) (by decide +kernel) rfl)⟩
theorem fp_2_8 : sg_FP 2 8 false .int := ⟨RX1, TX1, 12, rfl, rfl, by decide +kernel, rfl⟩
theorem fl_RX1_46 : sg_FL RX1 46 2 9 := ⟨RX1, TX1, 12, "SplitGate$Hero", rfl, by decide, ti_2, .inl rfl, .inl (sg_mem (i := 103) (by decide +kernel) rfl)⟩
theorem fp_2_9 : sg_FP 2 9 false .int := ⟨RX1, TX1, 12, rfl, rfl, by decide +kernel, rfl⟩
theorem fl_RX1_49 : sg_FL RX1 49 2 10 := ⟨RX1, TX1, 12, "SplitGate$Hero", rfl, by decide, ti_2, .inl rfl, .inl (sg_mem (i := 105) (by decide +kernel) rfl)⟩
theorem fp_2_10 : sg_FP 2 10 false .int := ⟨RX1, TX1, 12, rfl, rfl, by decide +kernel, rfl⟩
theorem fp_2_11 : sg_FP 2 11 false .int := ⟨RX1, TX1, 12, rfl, rfl, by decide +kernel, rfl⟩
theorem mm_RX1_79 : sg_Mmax RX1 79 := ⟨sg_mem (i := 526) (by decide +kernel) rfl, sg_mem (i := 277) (by decide +kernel) rfl, sg_mem (i := 37) (by decide +kernel) rfl, sg_mem (i := 278) (by decide +kernel) rfl⟩
theorem md_X1_columnHere : sg_MD yX1_columnHere cX1_columnHere 1 (some .int) 0 := ⟨sg_mem (i := 530) (by decide +kernel) rfl, sg_mem (i := 30) (by decide +kernel) rfl, ⟨by decide, by decide⟩, by decide +kernel⟩
theorem ml_RX1_82 : sg_ML RX1 82 yX1_columnHere := .inl (sg_mem (i := 527) (by decide +kernel) rfl)
theorem im_X1_columnHere : Cond.instanceMethod yX1_columnHere ∈ sg_T := sg_mem (i := 529) (by decide +kernel) rfl
theorem sl_X1_columnHere : Cond.selects yX1_columnHere.cls yX1_columnHere yX1_columnHere ∈ sg_T := sg_mem (i := 10) (by decide +kernel) rfl
theorem md_X2_isGap : sg_MD yX2_isGap cX2_isGap 2 (some .boolean) 1 := ⟨sg_mem (i := 542) (by decide +kernel) rfl, sg_mem (i := 35) (by decide +kernel) rfl, ⟨by decide, by decide⟩, by decide +kernel⟩
theorem ml_RX1_90 : sg_ML RX1 90 yX2_isGap := .inl (sg_mem (i := 539) (by decide +kernel) rfl)
theorem im_X2_isGap : Cond.instanceMethod yX2_isGap ∈ sg_T := sg_mem (i := 540) (by decide +kernel) rfl
theorem sl_X2_isGap : Cond.selects yX2_isGap.cls yX2_isGap yX2_isGap ∈ sg_T := sg_mem (i := 541) (by decide +kernel) rfl
theorem md_X2_hasItem : sg_MD yX2_hasItem cX2_hasItem 3 (some .boolean) 2 := ⟨sg_mem (i := 550) (by decide +kernel) rfl, sg_mem (i := 35) (by decide +kernel) rfl, ⟨by decide, by decide⟩, by decide +kernel⟩
theorem ml_RX1_94 : sg_ML RX1 94 yX2_hasItem := .inl (sg_mem (i := 547) (by decide +kernel) rfl)
theorem im_X2_hasItem : Cond.instanceMethod yX2_hasItem ∈ sg_T := sg_mem (i := 548) (by decide +kernel) rfl
theorem sl_X2_hasItem : Cond.selects yX2_hasItem.cls yX2_hasItem yX2_hasItem ∈ sg_T := sg_mem (i := 549) (by decide +kernel) rfl
set_option maxHeartbeats 4000000 in
set_option maxRecDepth 100000 in
theorem c_X2_isGap (l : Launch) (g : sg_G) (C : Nat → Option va_E) (lv : Nat) (x : Int32) (ag : Nat) (af : Nat) (ai : Nat) (gp : Nat → Int32) (hC_lv : C lv = some (.inr (3, [.ref ag, .ref af, .ref ai]))) (hC_ag : C ag = some (sg_za g 32 gp)) : sg_Met l yX2_isGap cX2_isGap 2 (some .boolean) 0 0 0 0 g [.ref lv, .int x] C (fun v C' => v = some (.int (bI (lGap gp x))) ∧ C' = C) sg_no := by
  refine sg_ofW (by decide) rfl ?_ (Nat.le_of_ble_eq_true rfl)
  intro p e s m below meth c hc hlk hrt hin2 ht
  have hc : sg_Cx p s m _ c cX2_isGap 2 RX2 g := hc
  show sg_W p l e _ s m _ below meth c 2 g 0 0 _ C 0 [(0, .ref lv), (1, .int x)] []
  refine sw_iload_n (pc := 0) hc dX2_isGap_0 rfl 1 rfl ?_
  refine sw_if_lt (pc := 1) (tgt := 19) hc dX2_isGap_1 (by decide) (fun c_1 => ?_) (fun c_1 => ?_)
  ·
    have c_1' := Int32.not_le.mpr c_1
    refine sw_iconst (pc := 19) (v := 1) hc dX2_isGap_19 (by decide) ?_
    refine sw_goto (pc := 20) (tgt := 24) hc dX2_isGap_20 (by decide) ?_
    have h_2 : 1 = bI (lGap gp x) := by first | with_reducible rfl | (first | with_reducible rfl | (simp [-Int32.not_le, -Int32.not_lt, bI, st1_a, c_1, c_1']; done) | (((try simp only [st1_a, Nat.reduceBEq, cond_false, cond_true] at c_1 c_1') <;> simp [-Int32.not_le, -Int32.not_lt, bI, st1_a, c_1, c_1']); done) | ((try simp only [bI]); (repeat' split) <;> simp_all [-Int32.not_le, -Int32.not_lt, st1_a, lItem, lAbove, lGap]; done))
    exact sw_iret (pc := 24) hc hlk hrt rfl ⟨(congrArg (fun z => some (Value.int z)) h_2), rfl⟩ (Nat.le_of_ble_eq_true rfl) (Nat.le_of_ble_eq_true rfl) dX2_isGap_24
  ·
    have c_1' := Int32.not_lt.mp c_1
    refine sw_iload_n (pc := 4) hc dX2_isGap_4 rfl 1 rfl ?_
    refine sw_bipush (pc := 5) (v := 32) hc dX2_isGap_5 (by decide) ?_
    refine sw_icmp_ge (pc := 7) (tgt := 19) hc dX2_isGap_7 (by decide) (fun c_3 => ?_) (fun c_3 => ?_)
    ·
      have c_3' := Int32.not_lt.mpr c_3
      refine sw_iconst (pc := 19) (v := 1) hc dX2_isGap_19 (by decide) ?_
      refine sw_goto (pc := 20) (tgt := 24) hc dX2_isGap_20 (by decide) ?_
      have h_4 : 1 = bI (lGap gp x) := by first | with_reducible rfl | (first | with_reducible rfl | (simp [-Int32.not_le, -Int32.not_lt, bI, st1_a, c_1, c_1', c_3, c_3']; done) | (((try simp only [st1_a, Nat.reduceBEq, cond_false, cond_true] at c_1 c_1' c_3 c_3') <;> simp [-Int32.not_le, -Int32.not_lt, bI, st1_a, c_1, c_1', c_3, c_3']); done) | ((try simp only [bI]); (repeat' split) <;> simp_all [-Int32.not_le, -Int32.not_lt, st1_a, lItem, lAbove, lGap]; done))
      exact sw_iret (pc := 24) hc hlk hrt rfl ⟨(congrArg (fun z => some (Value.int z)) h_4), rfl⟩ (Nat.le_of_ble_eq_true rfl) (Nat.le_of_ble_eq_true rfl) dX2_isGap_24
    ·
      have c_3' := Int32.not_le.mp c_3
      refine sw_aload_n (pc := 10) hc dX2_isGap_10 rfl 0 rfl ?_
      refine sw_get (pc := 11) (v := .ref ag) hc fl_RX2_9 hC_lv rfl dX2_isGap_11 ?_
      refine sw_iload_n (pc := 14) hc dX2_isGap_14 rfl 1 rfl ?_
      obtain ⟨n_5, n_52⟩ := sg_nn c_1 c_3
      refine sw_zald (pc := 15) (j := (x).toNatClampNeg) hc hC_ag n_5 n_52 (by decide) dX2_isGap_15 ?_
      refine sw_if_eq (pc := 16) (tgt := 23) hc dX2_isGap_16 (by decide) (fun c_6 => ?_) (fun c_6 => ?_)
      ·
        refine sw_iconst (pc := 23) (v := 0) hc dX2_isGap_23 (by decide) ?_
        have h_7 : 0 = bI (lGap gp x) := by first | with_reducible rfl | (first | with_reducible rfl | (simp [-Int32.not_le, -Int32.not_lt, bI, st1_a, c_1, c_1', c_3, c_3', c_6]; done) | (((try simp only [st1_a, Nat.reduceBEq, cond_false, cond_true] at c_1 c_1' c_3 c_3' c_6) <;> simp [-Int32.not_le, -Int32.not_lt, bI, st1_a, c_1, c_1', c_3, c_3', c_6]); done) | ((try simp only [bI]); (repeat' split) <;> simp_all [-Int32.not_le, -Int32.not_lt, st1_a, lItem, lAbove, lGap]; done))
        exact sw_iret (pc := 24) hc hlk hrt rfl ⟨(congrArg (fun z => some (Value.int z)) h_7), rfl⟩ (Nat.le_of_ble_eq_true rfl) (Nat.le_of_ble_eq_true rfl) dX2_isGap_24
      ·
        refine sw_iconst (pc := 19) (v := 1) hc dX2_isGap_19 (by decide) ?_
        refine sw_goto (pc := 20) (tgt := 24) hc dX2_isGap_20 (by decide) ?_
        have h_8 : 1 = bI (lGap gp x) := by first | with_reducible rfl | (first | with_reducible rfl | (simp [-Int32.not_le, -Int32.not_lt, bI, st1_a, c_1, c_1', c_3, c_3', c_6]; done) | (((try simp only [st1_a, Nat.reduceBEq, cond_false, cond_true] at c_1 c_1' c_3 c_3' c_6) <;> simp [-Int32.not_le, -Int32.not_lt, bI, st1_a, c_1, c_1', c_3, c_3', c_6]); done) | ((try simp only [bI]); (repeat' split) <;> simp_all [-Int32.not_le, -Int32.not_lt, st1_a, lItem, lAbove, lGap]; done))
        exact sw_iret (pc := 24) hc hlk hrt rfl ⟨(congrArg (fun z => some (Value.int z)) h_8), rfl⟩ (Nat.le_of_ble_eq_true rfl) (Nat.le_of_ble_eq_true rfl) dX2_isGap_24

set_option maxHeartbeats 4000000 in
set_option maxRecDepth 100000 in
theorem c_X2_base (l : Launch) (g : sg_G) (C : Nat → Option va_E) (lv : Nat) (x : Int32) (ag : Nat) (af : Nat) (ai : Nat) (fl : Nat → Int32) (hC_lv : C lv = some (.inr (3, [.ref ag, .ref af, .ref ai]))) (hC_af : C af = some (sg_ia g 32 fl)) : sg_Met l yX2_base cX2_base 2 (some .int) 0 0 0 0 g [.ref lv, .int x] C (fun v C' => v = some (.int (lBase fl x)) ∧ C' = C) sg_no := by
  refine sg_ofW (by decide) rfl ?_ (Nat.le_of_ble_eq_true rfl)
  intro p e s m below meth c hc hlk hrt hin2 ht
  have hc : sg_Cx p s m _ c cX2_base 2 RX2 g := hc
  show sg_W p l e _ s m _ below meth c 2 g 0 0 _ C 0 [(0, .ref lv), (1, .int x)] []
  refine sw_iload_n (pc := 0) hc dX2_base_0 rfl 1 rfl ?_
  refine sw_if_lt (pc := 1) (tgt := 19) hc dX2_base_1 (by decide) (fun c_1 => ?_) (fun c_1 => ?_)
  ·
    have c_1' := Int32.not_le.mpr c_1
    refine sw_iconst (pc := 19) (v := 0) hc dX2_base_19 (by decide) ?_
    have h_2 : 0 = lBase fl x := by first | with_reducible rfl | (first | with_reducible rfl | (simp [-Int32.not_le, -Int32.not_lt, lBase, st1_a, c_1, c_1']; done) | (((try simp only [st1_a, Nat.reduceBEq, cond_false, cond_true] at c_1 c_1') <;> simp [-Int32.not_le, -Int32.not_lt, lBase, st1_a, c_1, c_1']); done) | ((try simp only [lBase]); (repeat' split) <;> simp_all [-Int32.not_le, -Int32.not_lt, st1_a, lItem, lAbove, lGap]; done))
    exact sw_iret (pc := 20) hc hlk hrt rfl ⟨(congrArg (fun z => some (Value.int z)) h_2), rfl⟩ (Nat.le_of_ble_eq_true rfl) (Nat.le_of_ble_eq_true rfl) dX2_base_20
  ·
    have c_1' := Int32.not_lt.mp c_1
    refine sw_iload_n (pc := 4) hc dX2_base_4 rfl 1 rfl ?_
    refine sw_bipush (pc := 5) (v := 32) hc dX2_base_5 (by decide) ?_
    refine sw_icmp_ge (pc := 7) (tgt := 19) hc dX2_base_7 (by decide) (fun c_3 => ?_) (fun c_3 => ?_)
    ·
      have c_3' := Int32.not_lt.mpr c_3
      refine sw_iconst (pc := 19) (v := 0) hc dX2_base_19 (by decide) ?_
      have h_4 : 0 = lBase fl x := by first | with_reducible rfl | (first | with_reducible rfl | (simp [-Int32.not_le, -Int32.not_lt, lBase, st1_a, c_1, c_1', c_3, c_3']; done) | (((try simp only [st1_a, Nat.reduceBEq, cond_false, cond_true] at c_1 c_1' c_3 c_3') <;> simp [-Int32.not_le, -Int32.not_lt, lBase, st1_a, c_1, c_1', c_3, c_3']); done) | ((try simp only [lBase]); (repeat' split) <;> simp_all [-Int32.not_le, -Int32.not_lt, st1_a, lItem, lAbove, lGap]; done))
      exact sw_iret (pc := 20) hc hlk hrt rfl ⟨(congrArg (fun z => some (Value.int z)) h_4), rfl⟩ (Nat.le_of_ble_eq_true rfl) (Nat.le_of_ble_eq_true rfl) dX2_base_20
    ·
      have c_3' := Int32.not_le.mp c_3
      refine sw_aload_n (pc := 10) hc dX2_base_10 rfl 0 rfl ?_
      refine sw_get (pc := 11) (v := .ref af) hc fl_RX2_15 hC_lv rfl dX2_base_11 ?_
      refine sw_iload_n (pc := 14) hc dX2_base_14 rfl 1 rfl ?_
      obtain ⟨n_5, n_52⟩ := sg_nn c_1 c_3
      refine sw_iald (pc := 15) (j := (x).toNatClampNeg) hc hC_af n_5 n_52 (by decide) dX2_base_15 ?_
      refine sw_goto (pc := 16) (tgt := 20) hc dX2_base_16 (by decide) ?_
      have h_6 : fl ((x).toNatClampNeg) = lBase fl x := by first | with_reducible rfl | (first | with_reducible rfl | (simp [-Int32.not_le, -Int32.not_lt, lBase, st1_a, c_1, c_1', c_3, c_3']; done) | (((try simp only [st1_a, Nat.reduceBEq, cond_false, cond_true] at c_1 c_1' c_3 c_3') <;> simp [-Int32.not_le, -Int32.not_lt, lBase, st1_a, c_1, c_1', c_3, c_3']); done) | ((try simp only [lBase]); (repeat' split) <;> simp_all [-Int32.not_le, -Int32.not_lt, st1_a, lItem, lAbove, lGap]; done))
      exact sw_iret (pc := 20) hc hlk hrt rfl ⟨(congrArg (fun z => some (Value.int z)) h_6), rfl⟩ (Nat.le_of_ble_eq_true rfl) (Nat.le_of_ble_eq_true rfl) dX2_base_20

set_option maxHeartbeats 4000000 in
set_option maxRecDepth 100000 in
theorem c_X2_isFloorAbove (l : Launch) (g : sg_G) (C : Nat → Option va_E) (lv : Nat) (x : Int32) (y : Int32) (ag : Nat) (af : Nat) (ai : Nat) (gp : Nat → Int32) (fl : Nat → Int32) (hC_lv : C lv = some (.inr (3, [.ref ag, .ref af, .ref ai]))) (hC_ag : C ag = some (sg_za g 32 gp)) (hC_af : C af = some (sg_ia g 32 fl)) : sg_Met l yX2_isFloorAbove cX2_isFloorAbove 3 (some .boolean) 0 0 0 0 g [.ref lv, .int x, .int y] C (fun v C' => v = some (.int (bI (lAbove gp fl x y))) ∧ C' = C) sg_no := by
  refine sg_ofW (by decide) rfl ?_ (Nat.le_of_ble_eq_true rfl)
  intro p e s m below meth c hc hlk hrt hin2 ht
  have hc : sg_Cx p s m _ c cX2_isFloorAbove 3 RX2 g := hc
  show sg_W p l e _ s m _ below meth c 3 g 0 0 _ C 0 [(0, .ref lv), (1, .int x), (2, .int y)] []
  refine sw_iload_n (pc := 0) hc dX2_isFloorAbove_0 rfl 1 rfl ?_
  refine sw_if_lt (pc := 1) (tgt := 33) hc dX2_isFloorAbove_1 (by decide) (fun c_1 => ?_) (fun c_1 => ?_)
  ·
    have c_1' := Int32.not_le.mpr c_1
    refine sw_iconst (pc := 33) (v := 0) hc dX2_isFloorAbove_33 (by decide) ?_
    have h_2 : 0 = bI (lAbove gp fl x y) := by first | with_reducible rfl | (first | with_reducible rfl | (simp [-Int32.not_le, -Int32.not_lt, bI, st1_a, c_1, c_1']; done) | (((try simp only [st1_a, Nat.reduceBEq, cond_false, cond_true] at c_1 c_1') <;> simp [-Int32.not_le, -Int32.not_lt, bI, st1_a, c_1, c_1']); done) | ((try simp only [bI]); (repeat' split) <;> simp_all [-Int32.not_le, -Int32.not_lt, st1_a, lItem, lAbove, lGap]; done))
    exact sw_iret (pc := 34) hc hlk hrt rfl ⟨(congrArg (fun z => some (Value.int z)) h_2), rfl⟩ (Nat.le_of_ble_eq_true rfl) (Nat.le_of_ble_eq_true rfl) dX2_isFloorAbove_34
  ·
    have c_1' := Int32.not_lt.mp c_1
    refine sw_iload_n (pc := 4) hc dX2_isFloorAbove_4 rfl 1 rfl ?_
    refine sw_bipush (pc := 5) (v := 32) hc dX2_isFloorAbove_5 (by decide) ?_
    refine sw_icmp_ge (pc := 7) (tgt := 33) hc dX2_isFloorAbove_7 (by decide) (fun c_3 => ?_) (fun c_3 => ?_)
    ·
      have c_3' := Int32.not_lt.mpr c_3
      refine sw_iconst (pc := 33) (v := 0) hc dX2_isFloorAbove_33 (by decide) ?_
      have h_4 : 0 = bI (lAbove gp fl x y) := by first | with_reducible rfl | (first | with_reducible rfl | (simp [-Int32.not_le, -Int32.not_lt, bI, st1_a, c_1, c_1', c_3, c_3']; done) | (((try simp only [st1_a, Nat.reduceBEq, cond_false, cond_true] at c_1 c_1' c_3 c_3') <;> simp [-Int32.not_le, -Int32.not_lt, bI, st1_a, c_1, c_1', c_3, c_3']); done) | ((try simp only [bI]); (repeat' split) <;> simp_all [-Int32.not_le, -Int32.not_lt, st1_a, lItem, lAbove, lGap]; done))
      exact sw_iret (pc := 34) hc hlk hrt rfl ⟨(congrArg (fun z => some (Value.int z)) h_4), rfl⟩ (Nat.le_of_ble_eq_true rfl) (Nat.le_of_ble_eq_true rfl) dX2_isFloorAbove_34
    ·
      have c_3' := Int32.not_le.mp c_3
      refine sw_aload_n (pc := 10) hc dX2_isFloorAbove_10 rfl 0 rfl ?_
      refine sw_get (pc := 11) (v := .ref ag) hc fl_RX2_9 hC_lv rfl dX2_isFloorAbove_11 ?_
      refine sw_iload_n (pc := 14) hc dX2_isFloorAbove_14 rfl 1 rfl ?_
      obtain ⟨n_5, n_52⟩ := sg_nn c_1 c_3
      refine sw_zald (pc := 15) (j := (x).toNatClampNeg) hc hC_ag n_5 n_52 (by decide) dX2_isFloorAbove_15 ?_
      refine sw_if_ne (pc := 16) (tgt := 33) hc dX2_isFloorAbove_16 (by decide) (fun c_6 => ?_) (fun c_6 => ?_)
      ·
        refine sw_iconst (pc := 33) (v := 0) hc dX2_isFloorAbove_33 (by decide) ?_
        have h_7 : 0 = bI (lAbove gp fl x y) := by first | with_reducible rfl | (first | with_reducible rfl | (simp [-Int32.not_le, -Int32.not_lt, bI, st1_a, c_1, c_1', c_3, c_3', c_6]; done) | (((try simp only [st1_a, Nat.reduceBEq, cond_false, cond_true] at c_1 c_1' c_3 c_3' c_6) <;> simp [-Int32.not_le, -Int32.not_lt, bI, st1_a, c_1, c_1', c_3, c_3', c_6]); done) | ((try simp only [bI]); (repeat' split) <;> simp_all [-Int32.not_le, -Int32.not_lt, st1_a, lItem, lAbove, lGap]; done))
        exact sw_iret (pc := 34) hc hlk hrt rfl ⟨(congrArg (fun z => some (Value.int z)) h_7), rfl⟩ (Nat.le_of_ble_eq_true rfl) (Nat.le_of_ble_eq_true rfl) dX2_isFloorAbove_34
      ·
        refine sw_aload_n (pc := 19) hc dX2_isFloorAbove_19 rfl 0 rfl ?_
        refine sw_get (pc := 20) (v := .ref af) hc fl_RX2_15 hC_lv rfl dX2_isFloorAbove_20 ?_
        refine sw_iload_n (pc := 23) hc dX2_isFloorAbove_23 rfl 1 rfl ?_
        obtain ⟨n_8, n_82⟩ := sg_nn c_1 c_3
        refine sw_iald (pc := 24) (j := (x).toNatClampNeg) hc hC_af n_8 n_82 (by decide) dX2_isFloorAbove_24 ?_
        refine sw_iload_n (pc := 25) hc dX2_isFloorAbove_25 rfl 2 rfl ?_
        refine sw_icmp_le (pc := 26) (tgt := 33) hc dX2_isFloorAbove_26 (by decide) (fun c_9 => ?_) (fun c_9 => ?_)
        ·
          have c_9' := Int32.not_lt.mpr c_9
          refine sw_iconst (pc := 33) (v := 0) hc dX2_isFloorAbove_33 (by decide) ?_
          have h_10 : 0 = bI (lAbove gp fl x y) := by first | with_reducible rfl | (first | with_reducible rfl | (simp [-Int32.not_le, -Int32.not_lt, bI, st1_a, c_1, c_1', c_3, c_3', c_6, c_9, c_9']; done) | (((try simp only [st1_a, Nat.reduceBEq, cond_false, cond_true] at c_1 c_1' c_3 c_3' c_6 c_9 c_9') <;> simp [-Int32.not_le, -Int32.not_lt, bI, st1_a, c_1, c_1', c_3, c_3', c_6, c_9, c_9']); done) | ((try simp only [bI]); (repeat' split) <;> simp_all [-Int32.not_le, -Int32.not_lt, st1_a, lItem, lAbove, lGap]; done))
          exact sw_iret (pc := 34) hc hlk hrt rfl ⟨(congrArg (fun z => some (Value.int z)) h_10), rfl⟩ (Nat.le_of_ble_eq_true rfl) (Nat.le_of_ble_eq_true rfl) dX2_isFloorAbove_34
        ·
          have c_9' := Int32.not_le.mp c_9
          refine sw_iconst (pc := 29) (v := 1) hc dX2_isFloorAbove_29 (by decide) ?_
          refine sw_goto (pc := 30) (tgt := 34) hc dX2_isFloorAbove_30 (by decide) ?_
          have h_11 : 1 = bI (lAbove gp fl x y) := by first | with_reducible rfl | (first | with_reducible rfl | (simp [-Int32.not_le, -Int32.not_lt, bI, st1_a, c_1, c_1', c_3, c_3', c_6, c_9, c_9']; done) | (((try simp only [st1_a, Nat.reduceBEq, cond_false, cond_true] at c_1 c_1' c_3 c_3' c_6 c_9 c_9') <;> simp [-Int32.not_le, -Int32.not_lt, bI, st1_a, c_1, c_1', c_3, c_3', c_6, c_9, c_9']); done) | ((try simp only [bI]); (repeat' split) <;> simp_all [-Int32.not_le, -Int32.not_lt, st1_a, lItem, lAbove, lGap]; done))
          exact sw_iret (pc := 34) hc hlk hrt rfl ⟨(congrArg (fun z => some (Value.int z)) h_11), rfl⟩ (Nat.le_of_ble_eq_true rfl) (Nat.le_of_ble_eq_true rfl) dX2_isFloorAbove_34

set_option maxHeartbeats 4000000 in
set_option maxRecDepth 100000 in
theorem c_X2_hasItem (l : Launch) (g : sg_G) (C : Nat → Option va_E) (lv : Nat) (x : Int32) (y : Int32) (ag : Nat) (af : Nat) (ai : Nat) (it : Nat → Int32) (hC_lv : C lv = some (.inr (3, [.ref ag, .ref af, .ref ai]))) (hC_ai : C ai = some (sg_ia g 32 it)) : sg_Met l yX2_hasItem cX2_hasItem 3 (some .boolean) 0 0 0 0 g [.ref lv, .int x, .int y] C (fun v C' => v = some (.int (bI (lItem it x y))) ∧ C' = C) sg_no := by
  refine sg_ofW (by decide) rfl ?_ (Nat.le_of_ble_eq_true rfl)
  intro p e s m below meth c hc hlk hrt hin2 ht
  have hc : sg_Cx p s m _ c cX2_hasItem 3 RX2 g := hc
  show sg_W p l e _ s m _ below meth c 3 g 0 0 _ C 0 [(0, .ref lv), (1, .int x), (2, .int y)] []
  refine sw_iload_n (pc := 0) hc dX2_hasItem_0 rfl 1 rfl ?_
  refine sw_if_lt (pc := 1) (tgt := 24) hc dX2_hasItem_1 (by decide) (fun c_1 => ?_) (fun c_1 => ?_)
  ·
    have c_1' := Int32.not_le.mpr c_1
    refine sw_iconst (pc := 24) (v := 0) hc dX2_hasItem_24 (by decide) ?_
    have h_2 : 0 = bI (lItem it x y) := by first | with_reducible rfl | (first | with_reducible rfl | (simp [-Int32.not_le, -Int32.not_lt, bI, st1_a, c_1, c_1']; done) | (((try simp only [st1_a, Nat.reduceBEq, cond_false, cond_true] at c_1 c_1') <;> simp [-Int32.not_le, -Int32.not_lt, bI, st1_a, c_1, c_1']); done) | ((try simp only [bI]); (repeat' split) <;> simp_all [-Int32.not_le, -Int32.not_lt, st1_a, lItem, lAbove, lGap]; done))
    exact sw_iret (pc := 25) hc hlk hrt rfl ⟨(congrArg (fun z => some (Value.int z)) h_2), rfl⟩ (Nat.le_of_ble_eq_true rfl) (Nat.le_of_ble_eq_true rfl) dX2_hasItem_25
  ·
    have c_1' := Int32.not_lt.mp c_1
    refine sw_iload_n (pc := 4) hc dX2_hasItem_4 rfl 1 rfl ?_
    refine sw_bipush (pc := 5) (v := 32) hc dX2_hasItem_5 (by decide) ?_
    refine sw_icmp_ge (pc := 7) (tgt := 24) hc dX2_hasItem_7 (by decide) (fun c_3 => ?_) (fun c_3 => ?_)
    ·
      have c_3' := Int32.not_lt.mpr c_3
      refine sw_iconst (pc := 24) (v := 0) hc dX2_hasItem_24 (by decide) ?_
      have h_4 : 0 = bI (lItem it x y) := by first | with_reducible rfl | (first | with_reducible rfl | (simp [-Int32.not_le, -Int32.not_lt, bI, st1_a, c_1, c_1', c_3, c_3']; done) | (((try simp only [st1_a, Nat.reduceBEq, cond_false, cond_true] at c_1 c_1' c_3 c_3') <;> simp [-Int32.not_le, -Int32.not_lt, bI, st1_a, c_1, c_1', c_3, c_3']); done) | ((try simp only [bI]); (repeat' split) <;> simp_all [-Int32.not_le, -Int32.not_lt, st1_a, lItem, lAbove, lGap]; done))
      exact sw_iret (pc := 25) hc hlk hrt rfl ⟨(congrArg (fun z => some (Value.int z)) h_4), rfl⟩ (Nat.le_of_ble_eq_true rfl) (Nat.le_of_ble_eq_true rfl) dX2_hasItem_25
    ·
      have c_3' := Int32.not_le.mp c_3
      refine sw_aload_n (pc := 10) hc dX2_hasItem_10 rfl 0 rfl ?_
      refine sw_get (pc := 11) (v := .ref ai) hc fl_RX2_19 hC_lv rfl dX2_hasItem_11 ?_
      refine sw_iload_n (pc := 14) hc dX2_hasItem_14 rfl 1 rfl ?_
      obtain ⟨n_5, n_52⟩ := sg_nn c_1 c_3
      refine sw_iald (pc := 15) (j := (x).toNatClampNeg) hc hC_ai n_5 n_52 (by decide) dX2_hasItem_15 ?_
      refine sw_iload_n (pc := 16) hc dX2_hasItem_16 rfl 2 rfl ?_
      refine sw_icmp_ne (pc := 17) (tgt := 24) hc dX2_hasItem_17 (by decide) (fun c_6 => ?_) (fun c_6 => ?_)
      ·
        refine sw_iconst (pc := 24) (v := 0) hc dX2_hasItem_24 (by decide) ?_
        have h_7 : 0 = bI (lItem it x y) := by first | with_reducible rfl | (first | with_reducible rfl | (simp [-Int32.not_le, -Int32.not_lt, bI, st1_a, c_1, c_1', c_3, c_3', c_6]; done) | (((try simp only [st1_a, Nat.reduceBEq, cond_false, cond_true] at c_1 c_1' c_3 c_3' c_6) <;> simp [-Int32.not_le, -Int32.not_lt, bI, st1_a, c_1, c_1', c_3, c_3', c_6]); done) | ((try simp only [bI]); (repeat' split) <;> simp_all [-Int32.not_le, -Int32.not_lt, st1_a, lItem, lAbove, lGap]; done))
        exact sw_iret (pc := 25) hc hlk hrt rfl ⟨(congrArg (fun z => some (Value.int z)) h_7), rfl⟩ (Nat.le_of_ble_eq_true rfl) (Nat.le_of_ble_eq_true rfl) dX2_hasItem_25
      ·
        refine sw_iconst (pc := 20) (v := 1) hc dX2_hasItem_20 (by decide) ?_
        refine sw_goto (pc := 21) (tgt := 25) hc dX2_hasItem_21 (by decide) ?_
        have h_8 : 1 = bI (lItem it x y) := by first | with_reducible rfl | (first | with_reducible rfl | (simp [-Int32.not_le, -Int32.not_lt, bI, st1_a, c_1, c_1', c_3, c_3', c_6]; done) | (((try simp only [st1_a, Nat.reduceBEq, cond_false, cond_true] at c_1 c_1' c_3 c_3' c_6) <;> simp [-Int32.not_le, -Int32.not_lt, bI, st1_a, c_1, c_1', c_3, c_3', c_6]); done) | ((try simp only [bI]); (repeat' split) <;> simp_all [-Int32.not_le, -Int32.not_lt, st1_a, lItem, lAbove, lGap]; done))
        exact sw_iret (pc := 25) hc hlk hrt rfl ⟨(congrArg (fun z => some (Value.int z)) h_8), rfl⟩ (Nat.le_of_ble_eq_true rfl) (Nat.le_of_ble_eq_true rfl) dX2_hasItem_25

set_option maxHeartbeats 4000000 in
set_option maxRecDepth 100000 in
theorem c_X1_isOver (l : Launch) (g : sg_G) (C : Nat → Option va_E) (h : Nat) (hs : Nat → Int32) (hC_h : C h = some (.inr (2, hfs hs))) : sg_Met l yX1_isOver cX1_isOver 1 (some .boolean) 0 0 0 0 g [.ref h] C (fun v C' => v = some (.int (bI (¬ hs 11 = 0))) ∧ C' = C) sg_no := by
  refine sg_ofW (by decide) rfl ?_ (Nat.le_of_ble_eq_true rfl)
  intro p e s m below meth c hc hlk hrt hin2 ht
  have hc : sg_Cx p s m _ c cX1_isOver 1 RX1 g := hc
  show sg_W p l e _ s m _ below meth c 1 g 0 0 _ C 0 [(0, .ref h)] []
  refine sw_aload_n (pc := 0) hc dX1_isOver_0 rfl 0 rfl ?_
  refine sw_get (pc := 1) (v := .int (hs 11)) hc fl_RX1_52 hC_h rfl dX1_isOver_1 ?_
  refine sw_if_eq (pc := 4) (tgt := 11) hc dX1_isOver_4 (by decide) (fun c_1 => ?_) (fun c_1 => ?_)
  ·
    refine sw_iconst (pc := 11) (v := 0) hc dX1_isOver_11 (by decide) ?_
    have h_2 : 0 = bI (¬ hs 11 = 0) := by first | with_reducible rfl | (first | with_reducible rfl | (simp [-Int32.not_le, -Int32.not_lt, bI, st1_a, c_1]; done) | (((try simp only [st1_a, Nat.reduceBEq, cond_false, cond_true] at c_1) <;> simp [-Int32.not_le, -Int32.not_lt, bI, st1_a, c_1]); done) | ((try simp only [bI]); (repeat' split) <;> simp_all [-Int32.not_le, -Int32.not_lt, st1_a, lItem, lAbove, lGap]; done))
    exact sw_iret (pc := 12) hc hlk hrt rfl ⟨(congrArg (fun z => some (Value.int z)) h_2), rfl⟩ (Nat.le_of_ble_eq_true rfl) (Nat.le_of_ble_eq_true rfl) dX1_isOver_12
  ·
    refine sw_iconst (pc := 7) (v := 1) hc dX1_isOver_7 (by decide) ?_
    refine sw_goto (pc := 8) (tgt := 12) hc dX1_isOver_8 (by decide) ?_
    have h_3 : 1 = bI (¬ hs 11 = 0) := by first | with_reducible rfl | (first | with_reducible rfl | (simp [-Int32.not_le, -Int32.not_lt, bI, st1_a, c_1]; done) | (((try simp only [st1_a, Nat.reduceBEq, cond_false, cond_true] at c_1) <;> simp [-Int32.not_le, -Int32.not_lt, bI, st1_a, c_1]); done) | ((try simp only [bI]); (repeat' split) <;> simp_all [-Int32.not_le, -Int32.not_lt, st1_a, lItem, lAbove, lGap]; done))
    exact sw_iret (pc := 12) hc hlk hrt rfl ⟨(congrArg (fun z => some (Value.int z)) h_3), rfl⟩ (Nat.le_of_ble_eq_true rfl) (Nat.le_of_ble_eq_true rfl) dX1_isOver_12

set_option maxHeartbeats 4000000 in
set_option maxRecDepth 100000 in
theorem c_X1_isHome (l : Launch) (g : sg_G) (C : Nat → Option va_E) (h : Nat) (hs : Nat → Int32) (hC_h : C h = some (.inr (2, hfs hs))) : sg_Met l yX1_isHome cX1_isHome 1 (some .boolean) 0 0 0 0 g [.ref h] C (fun v C' => v = some (.int (bI (hs 11 = 1))) ∧ C' = C) sg_no := by
  refine sg_ofW (by decide) rfl ?_ (Nat.le_of_ble_eq_true rfl)
  intro p e s m below meth c hc hlk hrt hin2 ht
  have hc : sg_Cx p s m _ c cX1_isHome 1 RX1 g := hc
  show sg_W p l e _ s m _ below meth c 1 g 0 0 _ C 0 [(0, .ref h)] []
  refine sw_aload_n (pc := 0) hc dX1_isHome_0 rfl 0 rfl ?_
  refine sw_get (pc := 1) (v := .int (hs 11)) hc fl_RX1_52 hC_h rfl dX1_isHome_1 ?_
  refine sw_iconst (pc := 4) (v := 1) hc dX1_isHome_4 (by decide) ?_
  refine sw_icmp_ne (pc := 5) (tgt := 12) hc dX1_isHome_5 (by decide) (fun c_1 => ?_) (fun c_1 => ?_)
  ·
    refine sw_iconst (pc := 12) (v := 0) hc dX1_isHome_12 (by decide) ?_
    have h_2 : 0 = bI (hs 11 = 1) := by first | with_reducible rfl | (first | with_reducible rfl | (simp [-Int32.not_le, -Int32.not_lt, bI, st1_a, c_1]; done) | (((try simp only [st1_a, Nat.reduceBEq, cond_false, cond_true] at c_1) <;> simp [-Int32.not_le, -Int32.not_lt, bI, st1_a, c_1]); done) | ((try simp only [bI]); (repeat' split) <;> simp_all [-Int32.not_le, -Int32.not_lt, st1_a, lItem, lAbove, lGap]; done))
    exact sw_iret (pc := 13) hc hlk hrt rfl ⟨(congrArg (fun z => some (Value.int z)) h_2), rfl⟩ (Nat.le_of_ble_eq_true rfl) (Nat.le_of_ble_eq_true rfl) dX1_isHome_13
  ·
    refine sw_iconst (pc := 8) (v := 1) hc dX1_isHome_8 (by decide) ?_
    refine sw_goto (pc := 9) (tgt := 13) hc dX1_isHome_9 (by decide) ?_
    have h_3 : 1 = bI (hs 11 = 1) := by first | with_reducible rfl | (first | with_reducible rfl | (simp [-Int32.not_le, -Int32.not_lt, bI, st1_a, c_1]; done) | (((try simp only [st1_a, Nat.reduceBEq, cond_false, cond_true] at c_1) <;> simp [-Int32.not_le, -Int32.not_lt, bI, st1_a, c_1]); done) | ((try simp only [bI]); (repeat' split) <;> simp_all [-Int32.not_le, -Int32.not_lt, st1_a, lItem, lAbove, lGap]; done))
    exact sw_iret (pc := 13) hc hlk hrt rfl ⟨(congrArg (fun z => some (Value.int z)) h_3), rfl⟩ (Nat.le_of_ble_eq_true rfl) (Nat.le_of_ble_eq_true rfl) dX1_isHome_13

set_option maxHeartbeats 4000000 in
set_option maxRecDepth 100000 in
theorem c_X1_columnHere (l : Launch) (g : sg_G) (C : Nat → Option va_E) (h : Nat) (hs : Nat → Int32) (hC_h : C h = some (.inr (2, hfs hs))) : sg_Met l yX1_columnHere cX1_columnHere 1 (some .int) 0 0 0 0 g [.ref h] C (fun v C' => v = some (.int (hs 0 / 16)) ∧ C' = C) sg_no := by
  refine sg_ofW (by decide) rfl ?_ (Nat.le_of_ble_eq_true rfl)
  intro p e s m below meth c hc hlk hrt hin2 ht
  have hc : sg_Cx p s m _ c cX1_columnHere 1 RX1 g := hc
  show sg_W p l e _ s m _ below meth c 1 g 0 0 _ C 0 [(0, .ref h)] []
  refine sw_aload_n (pc := 0) hc dX1_columnHere_0 rfl 0 rfl ?_
  refine sw_get (pc := 1) (v := .int (hs 0)) hc fl_RX1_11 hC_h rfl dX1_columnHere_1 ?_
  refine sw_bipush (pc := 4) (v := 16) hc dX1_columnHere_4 (by decide) ?_
  refine sw_idiv (pc := 6) hc dX1_columnHere_6 (by decide) ?_
  have h_1 : (hs 0) / 16 = hs 0 / 16 := by first | with_reducible rfl | (first | with_reducible rfl | (simp [-Int32.not_le, -Int32.not_lt, st1_a]; done)  | ((repeat' split) <;> simp_all [-Int32.not_le, -Int32.not_lt, st1_a, lItem, lAbove, lGap]; done))
  exact sw_iret (pc := 7) hc hlk hrt rfl ⟨(congrArg (fun z => some (Value.int z)) h_1), rfl⟩ (Nat.le_of_ble_eq_true rfl) (Nat.le_of_ble_eq_true rfl) dX1_columnHere_7

set_option maxHeartbeats 4000000 in
set_option maxRecDepth 100000 in
theorem c_X1_start (l : Launch) (g : sg_G) (C : Nat → Option va_E) (h : Nat) (lv : Nat) (hs : Nat → Int32) (ag : Nat) (af : Nat) (ai : Nat) (fl : Nat → Int32) (hC_h : C h = some (.inr (2, hfs hs))) (hC_lv : C lv = some (.inr (3, [.ref ag, .ref af, .ref ai]))) (hC_af : C af = some (sg_ia g 32 fl)) : sg_Met l yX1_start cX1_start 2 none 1 21 0 0 g [.ref h, .ref lv] C (fun v C' => v = none ∧ C' = sg_ov C [(h, .inr (2, hfs (hStart fl hs)))]) sg_no := by
  refine sg_ofW (by decide) rfl ?_ (Nat.le_of_ble_eq_true rfl)
  intro p e s m below meth c hc hlk hrt hin2 ht
  have hc : sg_Cx p s m _ c cX1_start 2 RX1 g := hc
  show sg_W p l e _ s m _ below meth c 2 g 0 0 _ C 0 [(0, .ref h), (1, .ref lv)] []
  have hN : sg_nd [h] := ⟨List.not_mem_nil, trivial⟩
  have hO_lv : lv ∉ [h] := sg_nin (sg_ne hC_lv hC_h (Nat.ne_of_beq_eq_false rfl)) (List.not_mem_nil)
  have hO_af : af ∉ [h] := sg_nin (sg_ne hC_af hC_h (Nat.ne_of_beq_eq_false rfl)) (List.not_mem_nil)
  refine sw_eq (C' := sg_ov C [(h, .inr (2, hfs hs))]) (sg_ov_self2 (List.forall_mem_cons.mpr ⟨hC_h, fun _ h => absurd h List.not_mem_nil⟩)).symm ?_
  refine sw_aload_n (pc := 0) hc dX1_start_0 rfl 0 rfl ?_
  refine sw_bipush (pc := 1) (v := 8) hc dX1_start_1 (by decide) ?_
  refine sw_putO (pc := 3) (k := 0) (fs' := hfs (st1 hs 0 8)) (L := [(h, .inr (2, hfs hs))]) (l' := [(h, .inr (2, hfs (st1 hs 0 8)))]) hc fl_RX1_11 ty_2 fp_2_0 hN (q0 := 0) rfl rfl rfl (Nat.le_of_ble_eq_true rfl) rfl rfl dX1_start_3 ?_
  refine sw_aload_n (pc := 6) hc dX1_start_6 rfl 0 rfl ?_
  refine sw_aload_n (pc := 7) hc dX1_start_7 rfl 1 rfl ?_
  refine sw_iconst (pc := 8) (v := 0) hc dX1_start_8 (by decide) ?_
  refine sw_callV (pc := 9) (rest := [.ref h]) hc (c_X2_base l g (sg_ov C [(h, .inr (2, hfs (st1 hs 0 8)))]) lv 0 ag af ai fl ((sg_ov_out hO_lv).trans hC_lv) ((sg_ov_out hO_af).trans hC_af)) md_X2_base ml_RX1_15 im_X2_base sl_X2_base ((sg_ov_out hO_lv).trans hC_lv) rfl rfl rfl (Nat.le_of_ble_eq_true rfl) dX1_start_9 ⟨Nat.le_of_ble_eq_true rfl, Nat.le_of_ble_eq_true rfl, Nat.le_of_ble_eq_true rfl, Nat.le_of_ble_eq_true rfl⟩ (fun v C' hP => ?_) (fun _ _ h => h.elim)
  obtain ⟨rfl, rfl⟩ := hP
  refine sw_st (st' := [.int (lBase fl 0), .ref h]) rfl ?_
  refine sw_putO (pc := 12) (k := 1) (fs' := hfs (st1 (st1 hs 0 8) 1 (lBase fl 0))) (L := [(h, .inr (2, hfs (st1 hs 0 8)))]) (l' := [(h, .inr (2, hfs (st1 (st1 hs 0 8) 1 (lBase fl 0))))]) hc fl_RX1_21 ty_2 fp_2_1 hN (q0 := 0) rfl rfl rfl (Nat.le_of_ble_eq_true rfl) rfl rfl dX1_start_12 ?_
  refine sw_aload_n (pc := 15) hc dX1_start_15 rfl 0 rfl ?_
  refine sw_iconst (pc := 16) (v := 0) hc dX1_start_16 (by decide) ?_
  refine sw_putO (pc := 17) (k := 2) (fs' := hfs (st1 (st1 (st1 hs 0 8) 1 (lBase fl 0)) 2 0)) (L := [(h, .inr (2, hfs (st1 (st1 hs 0 8) 1 (lBase fl 0))))]) (l' := [(h, .inr (2, hfs (st1 (st1 (st1 hs 0 8) 1 (lBase fl 0)) 2 0)))]) hc fl_RX1_24 ty_2 fp_2_2 hN (q0 := 0) rfl rfl rfl (Nat.le_of_ble_eq_true rfl) rfl rfl dX1_start_17 ?_
  refine sw_aload_n (pc := 20) hc dX1_start_20 rfl 0 rfl ?_
  refine sw_iconst (pc := 21) (v := 1) hc dX1_start_21 (by decide) ?_
  refine sw_putO (pc := 22) (k := 3) (fs' := hfs (st1 (st1 (st1 (st1 hs 0 8) 1 (lBase fl 0)) 2 0) 3 1)) (L := [(h, .inr (2, hfs (st1 (st1 (st1 hs 0 8) 1 (lBase fl 0)) 2 0)))]) (l' := [(h, .inr (2, hfs (st1 (st1 (st1 (st1 hs 0 8) 1 (lBase fl 0)) 2 0) 3 1)))]) hc fl_RX1_27 ty_2 fp_2_3 hN (q0 := 0) rfl rfl rfl (Nat.le_of_ble_eq_true rfl) rfl rfl dX1_start_22 ?_
  refine sw_aload_n (pc := 25) hc dX1_start_25 rfl 0 rfl ?_
  refine sw_iconst (pc := 26) (v := 1) hc dX1_start_26 (by decide) ?_
  refine sw_putO (pc := 27) (k := 4) (fs' := hfs (st1 (st1 (st1 (st1 (st1 hs 0 8) 1 (lBase fl 0)) 2 0) 3 1) 4 1)) (L := [(h, .inr (2, hfs (st1 (st1 (st1 (st1 hs 0 8) 1 (lBase fl 0)) 2 0) 3 1)))]) (l' := [(h, .inr (2, hfs (st1 (st1 (st1 (st1 (st1 hs 0 8) 1 (lBase fl 0)) 2 0) 3 1) 4 1)))]) hc fl_RX1_31 ty_2 fp_2_4 hN (q0 := 0) rfl rfl rfl (Nat.le_of_ble_eq_true rfl) rfl rfl dX1_start_27 ?_
  refine sw_aload_n (pc := 30) hc dX1_start_30 rfl 0 rfl ?_
  refine sw_iconst (pc := 31) (v := 0) hc dX1_start_31 (by decide) ?_
  refine sw_putO (pc := 32) (k := 5) (fs' := hfs (st1 (st1 (st1 (st1 (st1 (st1 hs 0 8) 1 (lBase fl 0)) 2 0) 3 1) 4 1) 5 0)) (L := [(h, .inr (2, hfs (st1 (st1 (st1 (st1 (st1 hs 0 8) 1 (lBase fl 0)) 2 0) 3 1) 4 1)))]) (l' := [(h, .inr (2, hfs (st1 (st1 (st1 (st1 (st1 (st1 hs 0 8) 1 (lBase fl 0)) 2 0) 3 1) 4 1) 5 0)))]) hc fl_RX1_34 ty_2 fp_2_5 hN (q0 := 0) rfl rfl rfl (Nat.le_of_ble_eq_true rfl) rfl rfl dX1_start_32 ?_
  refine sw_aload_n (pc := 35) hc dX1_start_35 rfl 0 rfl ?_
  refine sw_iconst (pc := 36) (v := 0) hc dX1_start_36 (by decide) ?_
  refine sw_putO (pc := 37) (k := 6) (fs' := hfs (st1 (st1 (st1 (st1 (st1 (st1 (st1 hs 0 8) 1 (lBase fl 0)) 2 0) 3 1) 4 1) 5 0) 6 0)) (L := [(h, .inr (2, hfs (st1 (st1 (st1 (st1 (st1 (st1 hs 0 8) 1 (lBase fl 0)) 2 0) 3 1) 4 1) 5 0)))]) (l' := [(h, .inr (2, hfs (st1 (st1 (st1 (st1 (st1 (st1 (st1 hs 0 8) 1 (lBase fl 0)) 2 0) 3 1) 4 1) 5 0) 6 0)))]) hc fl_RX1_37 ty_2 fp_2_6 hN (q0 := 0) rfl rfl rfl (Nat.le_of_ble_eq_true rfl) rfl rfl dX1_start_37 ?_
  refine sw_aload_n (pc := 40) hc dX1_start_40 rfl 0 rfl ?_
  refine sw_iconst (pc := 41) (v := 0) hc dX1_start_41 (by decide) ?_
  refine sw_putO (pc := 42) (k := 7) (fs' := hfs (st1 (st1 (st1 (st1 (st1 (st1 (st1 (st1 hs 0 8) 1 (lBase fl 0)) 2 0) 3 1) 4 1) 5 0) 6 0) 7 0)) (L := [(h, .inr (2, hfs (st1 (st1 (st1 (st1 (st1 (st1 (st1 hs 0 8) 1 (lBase fl 0)) 2 0) 3 1) 4 1) 5 0) 6 0)))]) (l' := [(h, .inr (2, hfs (st1 (st1 (st1 (st1 (st1 (st1 (st1 (st1 hs 0 8) 1 (lBase fl 0)) 2 0) 3 1) 4 1) 5 0) 6 0) 7 0)))]) hc fl_RX1_40 ty_2 fp_2_7 hN (q0 := 0) rfl rfl rfl (Nat.le_of_ble_eq_true rfl) rfl rfl dX1_start_42 ?_
  refine sw_aload_n (pc := 45) hc dX1_start_45 rfl 0 rfl ?_
  refine sw_iconst (pc := 46) (v := 0) hc dX1_start_46 (by decide) ?_
  refine sw_putO (pc := 47) (k := 8) (fs' := hfs (st1 (st1 (st1 (st1 (st1 (st1 (st1 (st1 (st1 hs 0 8) 1 (lBase fl 0)) 2 0) 3 1) 4 1) 5 0) 6 0) 7 0) 8 0)) (L := [(h, .inr (2, hfs (st1 (st1 (st1 (st1 (st1 (st1 (st1 (st1 hs 0 8) 1 (lBase fl 0)) 2 0) 3 1) 4 1) 5 0) 6 0) 7 0)))]) (l' := [(h, .inr (2, hfs (st1 (st1 (st1 (st1 (st1 (st1 (st1 (st1 (st1 hs 0 8) 1 (lBase fl 0)) 2 0) 3 1) 4 1) 5 0) 6 0) 7 0) 8 0)))]) hc fl_RX1_43 ty_2 fp_2_8 hN (q0 := 0) rfl rfl rfl (Nat.le_of_ble_eq_true rfl) rfl rfl dX1_start_47 ?_
  refine sw_aload_n (pc := 50) hc dX1_start_50 rfl 0 rfl ?_
  refine sw_iconst (pc := 51) (v := 0) hc dX1_start_51 (by decide) ?_
  refine sw_putO (pc := 52) (k := 9) (fs' := hfs (st1 (st1 (st1 (st1 (st1 (st1 (st1 (st1 (st1 (st1 hs 0 8) 1 (lBase fl 0)) 2 0) 3 1) 4 1) 5 0) 6 0) 7 0) 8 0) 9 0)) (L := [(h, .inr (2, hfs (st1 (st1 (st1 (st1 (st1 (st1 (st1 (st1 (st1 hs 0 8) 1 (lBase fl 0)) 2 0) 3 1) 4 1) 5 0) 6 0) 7 0) 8 0)))]) (l' := [(h, .inr (2, hfs (st1 (st1 (st1 (st1 (st1 (st1 (st1 (st1 (st1 (st1 hs 0 8) 1 (lBase fl 0)) 2 0) 3 1) 4 1) 5 0) 6 0) 7 0) 8 0) 9 0)))]) hc fl_RX1_46 ty_2 fp_2_9 hN (q0 := 0) rfl rfl rfl (Nat.le_of_ble_eq_true rfl) rfl rfl dX1_start_52 ?_
  refine sw_aload_n (pc := 55) hc dX1_start_55 rfl 0 rfl ?_
  refine sw_iconst (pc := 56) (v := 0) hc dX1_start_56 (by decide) ?_
  refine sw_putO (pc := 57) (k := 10) (fs' := hfs (st1 (st1 (st1 (st1 (st1 (st1 (st1 (st1 (st1 (st1 (st1 hs 0 8) 1 (lBase fl 0)) 2 0) 3 1) 4 1) 5 0) 6 0) 7 0) 8 0) 9 0) 10 0)) (L := [(h, .inr (2, hfs (st1 (st1 (st1 (st1 (st1 (st1 (st1 (st1 (st1 (st1 hs 0 8) 1 (lBase fl 0)) 2 0) 3 1) 4 1) 5 0) 6 0) 7 0) 8 0) 9 0)))]) (l' := [(h, .inr (2, hfs (st1 (st1 (st1 (st1 (st1 (st1 (st1 (st1 (st1 (st1 (st1 hs 0 8) 1 (lBase fl 0)) 2 0) 3 1) 4 1) 5 0) 6 0) 7 0) 8 0) 9 0) 10 0)))]) hc fl_RX1_49 ty_2 fp_2_10 hN (q0 := 0) rfl rfl rfl (Nat.le_of_ble_eq_true rfl) rfl rfl dX1_start_57 ?_
  refine sw_aload_n (pc := 60) hc dX1_start_60 rfl 0 rfl ?_
  refine sw_iconst (pc := 61) (v := 0) hc dX1_start_61 (by decide) ?_
  refine sw_putO (pc := 62) (k := 11) (fs' := hfs (st1 (st1 (st1 (st1 (st1 (st1 (st1 (st1 (st1 (st1 (st1 (st1 hs 0 8) 1 (lBase fl 0)) 2 0) 3 1) 4 1) 5 0) 6 0) 7 0) 8 0) 9 0) 10 0) 11 0)) (L := [(h, .inr (2, hfs (st1 (st1 (st1 (st1 (st1 (st1 (st1 (st1 (st1 (st1 (st1 hs 0 8) 1 (lBase fl 0)) 2 0) 3 1) 4 1) 5 0) 6 0) 7 0) 8 0) 9 0) 10 0)))]) (l' := [(h, .inr (2, hfs (st1 (st1 (st1 (st1 (st1 (st1 (st1 (st1 (st1 (st1 (st1 (st1 hs 0 8) 1 (lBase fl 0)) 2 0) 3 1) 4 1) 5 0) 6 0) 7 0) 8 0) 9 0) 10 0) 11 0)))]) hc fl_RX1_52 ty_2 fp_2_11 hN (q0 := 0) rfl rfl rfl (Nat.le_of_ble_eq_true rfl) rfl rfl dX1_start_62 ?_
  have h_1 : st1 (st1 (st1 (st1 (st1 (st1 (st1 (st1 (st1 (st1 (st1 (st1 hs 0 8) 1 (lBase fl 0)) 2 0) 3 1) 4 1) 5 0) 6 0) 7 0) 8 0) 9 0) 10 0) 11 0 = hStart fl hs := by rfl
  exact sw_vret (pc := 65) hc hlk hrt ⟨rfl, (congrArg (fun zz => sg_ov C [(h, .inr (2, hfs zz))]) h_1)⟩ (Nat.le_of_ble_eq_true rfl) (Nat.le_of_ble_eq_true rfl) dX1_start_65

set_option maxHeartbeats 4000000 in
set_option maxRecDepth 100000 in
theorem c_X1_choose (l : Launch) (g : sg_G) (C : Nat → Option va_E) (h : Nat) (b : Int32) (dn : Int32) (hs : Nat → Int32) (hC_h : C h = some (.inr (2, hfs hs))) : sg_Met l yX1_choose cX1_choose 4 (some .int) 0 0 0 0 g [.ref h, .int b, .int dn] C (fun v C' => v = some (.int (hWay2 hs dn (hWay b))) ∧ C' = sg_ov C [(h, .inr (2, hfs (hChoose hs b dn)))]) sg_no := by
  refine sg_ofW (by decide) rfl ?_ (Nat.le_of_ble_eq_true rfl)
  intro p e s m below meth c hc hlk hrt hin2 ht
  have hc : sg_Cx p s m _ c cX1_choose 4 RX1 g := hc
  show sg_W p l e _ s m _ below meth c 4 g 0 0 _ C 0 [(0, .ref h), (1, .int b), (2, .int dn)] []
  have hN : sg_nd [h] := ⟨List.not_mem_nil, trivial⟩
  have K_54 : ∀ (w2 : Int32) (h2 : Nat → Int32) (ew2 : w2 = hWay2 hs dn (hWay b)) (eh2 : h2 = hChs hs dn (hWay b)), sg_W p l e (sg_rm 0 0 0 0) s m ([.ref h, .int b, .int dn] : List Value).toArray below meth c 4 g 0 0 (sg_End below g (fun v C' => v = some (.int (hWay2 hs dn (hWay b))) ∧ C' = sg_ov C [(h, .inr (2, hfs (hChoose hs b dn)))]) sg_no ([.ref h, .int b, .int dn] : List Value).toArray s 0 0) (sg_ov C [(h, .inr (2, hfs h2))]) 54 [(0, .ref h), (3, .int w2)] [] := by
    intro w2 h2 ew2 eh2
    refine sw_iload_n (pc := 54) hc dX1_choose_54 rfl 1 rfl ?_
    refine sw_if_ge (pc := 55) (tgt := 68) hc dX1_choose_55 (by decide) (fun c_1 => ?_) (fun c_1 => ?_)
    ·
      have c_1' := Int32.not_lt.mpr c_1
      refine sw_iload_n (pc := 68) hc dX1_choose_68 rfl 1 rfl ?_
      have h_2 : w2 = hWay2 hs dn (hWay b) := by first | with_reducible rfl | (subst eh2 ew2; first | with_reducible rfl | (simp [-Int32.not_le, -Int32.not_lt, hChoose, hLeft, st1_a, c_1, c_1']; done) | (((try simp only [st1_a, Nat.reduceBEq, cond_false, cond_true] at c_1 c_1') <;> simp [-Int32.not_le, -Int32.not_lt, hChoose, hLeft, st1_a, c_1, c_1']); done) | ((try simp only [hChoose, hLeft]); (repeat' split) <;> simp_all [-Int32.not_le, -Int32.not_lt, st1_a, lItem, lAbove, lGap]; done))
      have h_3 : h2 = hChoose hs b dn := by first | with_reducible rfl | (subst eh2 ew2; first | with_reducible rfl | (simp [-Int32.not_le, -Int32.not_lt, hChoose, hLeft, st1_a, c_1, c_1']; done) | (((try simp only [st1_a, Nat.reduceBEq, cond_false, cond_true] at c_1 c_1') <;> simp [-Int32.not_le, -Int32.not_lt, hChoose, hLeft, st1_a, c_1, c_1']); done) | ((try simp only [hChoose, hLeft]); (repeat' split) <;> simp_all [-Int32.not_le, -Int32.not_lt, st1_a, lItem, lAbove, lGap]; done))
      exact sw_iret (pc := 69) hc hlk hrt rfl ⟨(congrArg (fun z => some (Value.int z)) h_2), (congrArg (fun zz => sg_ov C [(h, .inr (2, hfs zz))]) h_3)⟩ (Nat.le_of_ble_eq_true rfl) (Nat.le_of_ble_eq_true rfl) dX1_choose_69
    ·
      have c_1' := Int32.not_le.mp c_1
      refine sw_aload_n (pc := 58) hc dX1_choose_58 rfl 0 rfl ?_
      refine sw_dup (pc := 59) hc dX1_choose_59 rfl ?_
      refine sw_get (pc := 60) (v := .int (h2 9)) hc fl_RX1_46 (sg_ov_at hN (k := 0) rfl) rfl dX1_choose_60 ?_
      refine sw_iconst (pc := 63) (v := 1) hc dX1_choose_63 (by decide) ?_
      refine sw_ior (pc := 64) hc dX1_choose_64 ?_
      refine sw_putO (pc := 65) (k := 9) (fs' := hfs (st1 h2 9 ((h2 9) ||| 1))) (L := [(h, .inr (2, hfs h2))]) (l' := [(h, .inr (2, hfs (st1 h2 9 ((h2 9) ||| 1))))]) hc fl_RX1_46 ty_2 fp_2_9 hN (q0 := 0) rfl rfl rfl (Nat.le_of_ble_eq_true rfl) rfl rfl dX1_choose_65 ?_
      refine sw_iload_n (pc := 68) hc dX1_choose_68 rfl 1 rfl ?_
      have h_4 : w2 = hWay2 hs dn (hWay b) := by first | with_reducible rfl | (subst eh2 ew2; first | with_reducible rfl | (simp [-Int32.not_le, -Int32.not_lt, hChoose, hLeft, st1_a, c_1, c_1']; done) | (((try simp only [st1_a, Nat.reduceBEq, cond_false, cond_true] at c_1 c_1') <;> simp [-Int32.not_le, -Int32.not_lt, hChoose, hLeft, st1_a, c_1, c_1']); done) | ((try simp only [hChoose, hLeft]); (repeat' split) <;> simp_all [-Int32.not_le, -Int32.not_lt, st1_a, lItem, lAbove, lGap]; done))
      have h_5 : st1 h2 9 ((h2 9) ||| 1) = hChoose hs b dn := by first | with_reducible rfl | (subst eh2 ew2; first | with_reducible rfl | (simp [-Int32.not_le, -Int32.not_lt, hChoose, hLeft, st1_a, c_1, c_1']; done) | (((try simp only [st1_a, Nat.reduceBEq, cond_false, cond_true] at c_1 c_1') <;> simp [-Int32.not_le, -Int32.not_lt, hChoose, hLeft, st1_a, c_1, c_1']); done) | ((try simp only [hChoose, hLeft]); (repeat' split) <;> simp_all [-Int32.not_le, -Int32.not_lt, st1_a, lItem, lAbove, lGap]; done))
      exact sw_iret (pc := 69) hc hlk hrt rfl ⟨(congrArg (fun z => some (Value.int z)) h_4), (congrArg (fun zz => sg_ov C [(h, .inr (2, hfs zz))]) h_5)⟩ (Nat.le_of_ble_eq_true rfl) (Nat.le_of_ble_eq_true rfl) dX1_choose_69
  have K_20 : ∀ (w : Int32) (ew : w = hWay b), sg_W p l e (sg_rm 0 0 0 0) s m ([.ref h, .int b, .int dn] : List Value).toArray below meth c 4 g 0 0 (sg_End below g (fun v C' => v = some (.int (hWay2 hs dn (hWay b))) ∧ C' = sg_ov C [(h, .inr (2, hfs (hChoose hs b dn)))]) sg_no ([.ref h, .int b, .int dn] : List Value).toArray s 0 0) (sg_ov C [(h, .inr (2, hfs hs))]) 20 [(0, .ref h), (1, .int b), (2, .int dn), (3, .int w)] [] := by
    intro w ew
    refine sw_iload_n (pc := 20) hc dX1_choose_20 rfl 2 rfl ?_
    refine sw_if_eq (pc := 21) (tgt := 54) hc dX1_choose_21 (by decide) (fun c_6 => ?_) (fun c_6 => ?_)
    ·
      have h_7 : w = hWay2 hs dn (hWay b) := by first | with_reducible rfl | (subst ew; first | with_reducible rfl | (simp [-Int32.not_le, -Int32.not_lt, hWay2, hChs, st1_a, c_6]; done) | (((try simp only [st1_a, Nat.reduceBEq, cond_false, cond_true] at c_6) <;> simp [-Int32.not_le, -Int32.not_lt, hWay2, hChs, st1_a, c_6]); done) | ((try simp only [hWay2, hChs]); (repeat' split) <;> simp_all [-Int32.not_le, -Int32.not_lt, st1_a, lItem, lAbove, lGap]; done))
      have h_8 : hs = hChs hs dn (hWay b) := by first | with_reducible rfl | (subst ew; first | with_reducible rfl | (simp [-Int32.not_le, -Int32.not_lt, hWay2, hChs, st1_a, c_6]; done) | (((try simp only [st1_a, Nat.reduceBEq, cond_false, cond_true] at c_6) <;> simp [-Int32.not_le, -Int32.not_lt, hWay2, hChs, st1_a, c_6]); done) | ((try simp only [hWay2, hChs]); (repeat' split) <;> simp_all [-Int32.not_le, -Int32.not_lt, st1_a, lItem, lAbove, lGap]; done))
      exact sw_sub (ks := [0, 3]) rfl (K_54 w hs h_7 h_8)
    ·
      refine sw_iload_n (pc := 24) hc dX1_choose_24 rfl 3 rfl ?_
      refine sw_if_eq (pc := 25) (tgt := 54) hc dX1_choose_25 (by decide) (fun c_9 => ?_) (fun c_9 => ?_)
      ·
        have h_10 : w = hWay2 hs dn (hWay b) := by first | with_reducible rfl | (subst ew; first | with_reducible rfl | (simp [-Int32.not_le, -Int32.not_lt, hWay2, hChs, st1_a, c_6, c_9]; done) | (((try simp only [st1_a, Nat.reduceBEq, cond_false, cond_true] at c_6 c_9) <;> simp [-Int32.not_le, -Int32.not_lt, hWay2, hChs, st1_a, c_6, c_9]); done) | ((try simp only [hWay2, hChs]); (repeat' split) <;> simp_all [-Int32.not_le, -Int32.not_lt, st1_a, lItem, lAbove, lGap]; done))
        have h_11 : hs = hChs hs dn (hWay b) := by first | with_reducible rfl | (subst ew; first | with_reducible rfl | (simp [-Int32.not_le, -Int32.not_lt, hWay2, hChs, st1_a, c_6, c_9]; done) | (((try simp only [st1_a, Nat.reduceBEq, cond_false, cond_true] at c_6 c_9) <;> simp [-Int32.not_le, -Int32.not_lt, hWay2, hChs, st1_a, c_6, c_9]); done) | ((try simp only [hWay2, hChs]); (repeat' split) <;> simp_all [-Int32.not_le, -Int32.not_lt, st1_a, lItem, lAbove, lGap]; done))
        exact sw_sub (ks := [0, 3]) rfl (K_54 w hs h_10 h_11)
      ·
        refine sw_aload_n (pc := 28) hc dX1_choose_28 rfl 0 rfl ?_
        refine sw_get (pc := 29) (v := .int (hs 4)) hc fl_RX1_31 (sg_ov_at hN (k := 0) rfl) rfl dX1_choose_29 ?_
        refine sw_if_eq (pc := 32) (tgt := 54) hc dX1_choose_32 (by decide) (fun c_12 => ?_) (fun c_12 => ?_)
        ·
          have h_13 : w = hWay2 hs dn (hWay b) := by first | with_reducible rfl | (subst ew; first | with_reducible rfl | (simp [-Int32.not_le, -Int32.not_lt, hWay2, hChs, st1_a, c_6, c_9, c_12]; done) | (((try simp only [st1_a, Nat.reduceBEq, cond_false, cond_true] at c_6 c_9 c_12) <;> simp [-Int32.not_le, -Int32.not_lt, hWay2, hChs, st1_a, c_6, c_9, c_12]); done) | ((try simp only [hWay2, hChs]); (repeat' split) <;> simp_all [-Int32.not_le, -Int32.not_lt, st1_a, lItem, lAbove, lGap]; done))
          have h_14 : hs = hChs hs dn (hWay b) := by first | with_reducible rfl | (subst ew; first | with_reducible rfl | (simp [-Int32.not_le, -Int32.not_lt, hWay2, hChs, st1_a, c_6, c_9, c_12]; done) | (((try simp only [st1_a, Nat.reduceBEq, cond_false, cond_true] at c_6 c_9 c_12) <;> simp [-Int32.not_le, -Int32.not_lt, hWay2, hChs, st1_a, c_6, c_9, c_12]); done) | ((try simp only [hWay2, hChs]); (repeat' split) <;> simp_all [-Int32.not_le, -Int32.not_lt, st1_a, lItem, lAbove, lGap]; done))
          exact sw_sub (ks := [0, 3]) rfl (K_54 w hs h_13 h_14)
        ·
          refine sw_iload_n (pc := 35) hc dX1_choose_35 rfl 3 rfl ?_
          refine sw_iconst (pc := 36) (v := 5) hc dX1_choose_36 (by decide) ?_
          refine sw_imul (pc := 37) hc dX1_choose_37 ?_
          refine sw_istore_n (pc := 38) hc dX1_choose_38 rfl (by decide) (lv' := [(3, .int (w * 5)), (0, .ref h), (1, .int b), (2, .int dn)]) rfl ?_
          refine sw_aload_n (pc := 39) hc dX1_choose_39 rfl 1 rfl ?_
          refine sw_iconst (pc := 40) (v := 0) hc dX1_choose_40 (by decide) ?_
          refine sw_putO (pc := 41) (k := 4) (fs' := hfs (st1 hs 4 0)) (L := [(h, .inr (2, hfs hs))]) (l' := [(h, .inr (2, hfs (st1 hs 4 0)))]) hc fl_RX1_31 ty_2 fp_2_4 hN (q0 := 0) rfl rfl rfl (Nat.le_of_ble_eq_true rfl) rfl rfl dX1_choose_41 ?_
          refine sw_aload_n (pc := 44) hc dX1_choose_44 rfl 1 rfl ?_
          refine sw_dup (pc := 45) hc dX1_choose_45 rfl ?_
          refine sw_get (pc := 46) (v := .int ((st1 hs 4 0) 9)) hc fl_RX1_46 (sg_ov_at hN (k := 0) rfl) rfl dX1_choose_46 ?_
          refine sw_iconst (pc := 49) (v := 2) hc dX1_choose_49 (by decide) ?_
          refine sw_ior (pc := 50) hc dX1_choose_50 ?_
          refine sw_putO (pc := 51) (k := 9) (fs' := hfs (st1 (st1 hs 4 0) 9 (((st1 hs 4 0) 9) ||| 2))) (L := [(h, .inr (2, hfs (st1 hs 4 0)))]) (l' := [(h, .inr (2, hfs (st1 (st1 hs 4 0) 9 (((st1 hs 4 0) 9) ||| 2))))]) hc fl_RX1_46 ty_2 fp_2_9 hN (q0 := 0) rfl rfl rfl (Nat.le_of_ble_eq_true rfl) rfl rfl dX1_choose_51 ?_
          have h_15 : w * 5 = hWay2 hs dn (hWay b) := by first | with_reducible rfl | (subst ew; first | with_reducible rfl | (simp [-Int32.not_le, -Int32.not_lt, hWay2, hChs, st1_a, c_6, c_9, c_12]; done) | (((try simp only [st1_a, Nat.reduceBEq, cond_false, cond_true] at c_6 c_9 c_12) <;> simp [-Int32.not_le, -Int32.not_lt, hWay2, hChs, st1_a, c_6, c_9, c_12]); done) | ((try simp only [hWay2, hChs]); (repeat' split) <;> simp_all [-Int32.not_le, -Int32.not_lt, st1_a, lItem, lAbove, lGap]; done))
          have h_16 : st1 (st1 hs 4 0) 9 (((st1 hs 4 0) 9) ||| 2) = hChs hs dn (hWay b) := by first | with_reducible rfl | (subst ew; first | with_reducible rfl | (simp [-Int32.not_le, -Int32.not_lt, hWay2, hChs, st1_a, c_6, c_9, c_12]; done) | (((try simp only [st1_a, Nat.reduceBEq, cond_false, cond_true] at c_6 c_9 c_12) <;> simp [-Int32.not_le, -Int32.not_lt, hWay2, hChs, st1_a, c_6, c_9, c_12]); done) | ((try simp only [hWay2, hChs]); (repeat' split) <;> simp_all [-Int32.not_le, -Int32.not_lt, st1_a, lItem, lAbove, lGap]; done))
          exact sw_sub (ks := [1, 0]) rfl (K_54 (w * 5) (st1 (st1 hs 4 0) 9 (((st1 hs 4 0) 9) ||| 2)) h_15 h_16)
  refine sw_eq (C' := sg_ov C [(h, .inr (2, hfs hs))]) (sg_ov_self2 (List.forall_mem_cons.mpr ⟨hC_h, fun _ h => absurd h List.not_mem_nil⟩)).symm ?_
  refine sw_iconst (pc := 0) (v := 0) hc dX1_choose_0 (by decide) ?_
  refine sw_istore_n (pc := 1) hc dX1_choose_1 rfl (by decide) (lv' := [(3, .int 0), (0, .ref h), (1, .int b), (2, .int dn)]) rfl ?_
  refine sw_iload_n (pc := 2) hc dX1_choose_2 rfl 2 rfl ?_
  refine sw_iconst (pc := 3) (v := 2) hc dX1_choose_3 (by decide) ?_
  refine sw_iand (pc := 4) hc dX1_choose_4 ?_
  refine sw_if_eq (pc := 5) (tgt := 11) hc dX1_choose_5 (by decide) (fun c_17 => ?_) (fun c_17 => ?_)
  ·
    refine sw_iload_n (pc := 11) hc dX1_choose_11 rfl 2 rfl ?_
    refine sw_iconst (pc := 12) (v := 1) hc dX1_choose_12 (by decide) ?_
    refine sw_iand (pc := 13) hc dX1_choose_13 ?_
    refine sw_if_eq (pc := 14) (tgt := 20) hc dX1_choose_14 (by decide) (fun c_18 => ?_) (fun c_18 => ?_)
    ·
      have h_19 : 0 = hWay b := by first | with_reducible rfl | (first | with_reducible rfl | (simp [-Int32.not_le, -Int32.not_lt, hWay, hWay1, st1_a, c_17, c_18]; done) | (((try simp only [st1_a, Nat.reduceBEq, cond_false, cond_true] at c_17 c_18) <;> simp [-Int32.not_le, -Int32.not_lt, hWay, hWay1, st1_a, c_17, c_18]); done) | ((try simp only [hWay, hWay1]); (repeat' split) <;> simp_all [-Int32.not_le, -Int32.not_lt, st1_a, lItem, lAbove, lGap]; done))
      exact sw_sub (ks := [1, 2, 3, 0]) rfl (K_20 0 h_19)
    ·
      refine sw_iinc (pc := 17) (v := 0 + (-4)) (lv' := [(3, .int (0 + (-4))), (0, .ref h), (1, .int b), (2, .int dn)]) hc dX1_choose_17 (k := 0) rfl (by rfl) (by decide) rfl ?_
      have h_20 : 0 + (-4) = hWay b := by first | with_reducible rfl | (first | with_reducible rfl | (simp [-Int32.not_le, -Int32.not_lt, hWay, hWay1, st1_a, c_17, c_18]; done) | (((try simp only [st1_a, Nat.reduceBEq, cond_false, cond_true] at c_17 c_18) <;> simp [-Int32.not_le, -Int32.not_lt, hWay, hWay1, st1_a, c_17, c_18]); done) | ((try simp only [hWay, hWay1]); (repeat' split) <;> simp_all [-Int32.not_le, -Int32.not_lt, st1_a, lItem, lAbove, lGap]; done))
      exact sw_sub (ks := [1, 2, 3, 0]) rfl (K_20 (0 + (-4)) h_20)
  ·
    refine sw_iinc (pc := 8) (v := 0 + 4) (lv' := [(3, .int (0 + 4)), (0, .ref h), (1, .int b), (2, .int dn)]) hc dX1_choose_8 (k := 0) rfl (by rfl) (by decide) rfl ?_
    refine sw_iload_n (pc := 11) hc dX1_choose_11 rfl 2 rfl ?_
    refine sw_iconst (pc := 12) (v := 1) hc dX1_choose_12 (by decide) ?_
    refine sw_iand (pc := 13) hc dX1_choose_13 ?_
    refine sw_if_eq (pc := 14) (tgt := 20) hc dX1_choose_14 (by decide) (fun c_21 => ?_) (fun c_21 => ?_)
    ·
      have h_22 : 0 + 4 = hWay b := by first | with_reducible rfl | (first | with_reducible rfl | (simp [-Int32.not_le, -Int32.not_lt, hWay, hWay1, st1_a, c_17, c_21]; done) | (((try simp only [st1_a, Nat.reduceBEq, cond_false, cond_true] at c_17 c_21) <;> simp [-Int32.not_le, -Int32.not_lt, hWay, hWay1, st1_a, c_17, c_21]); done) | ((try simp only [hWay, hWay1]); (repeat' split) <;> simp_all [-Int32.not_le, -Int32.not_lt, st1_a, lItem, lAbove, lGap]; done))
      exact sw_sub (ks := [1, 2, 3, 0]) rfl (K_20 (0 + 4) h_22)
    ·
      refine sw_iinc (pc := 17) (v := (0 + 4) + (-4)) (lv' := [(3, .int ((0 + 4) + (-4))), (0, .ref h), (1, .int b), (2, .int dn)]) hc dX1_choose_17 (k := 0) rfl (by rfl) (by decide) rfl ?_
      have h_23 : (0 + 4) + (-4) = hWay b := by first | with_reducible rfl | (first | with_reducible rfl | (simp [-Int32.not_le, -Int32.not_lt, hWay, hWay1, st1_a, c_17, c_21]; done) | (((try simp only [st1_a, Nat.reduceBEq, cond_false, cond_true] at c_17 c_21) <;> simp [-Int32.not_le, -Int32.not_lt, hWay, hWay1, st1_a, c_17, c_21]); done) | ((try simp only [hWay, hWay1]); (repeat' split) <;> simp_all [-Int32.not_le, -Int32.not_lt, st1_a, lItem, lAbove, lGap]; done))
      exact sw_sub (ks := [1, 2, 3, 0]) rfl (K_20 ((0 + 4) + (-4)) h_23)

set_option maxHeartbeats 4000000 in
set_option maxRecDepth 100000 in
theorem c_X1_fall (l : Launch) (g : sg_G) (C : Nat → Option va_E) (h : Nat) (lv : Nat) (hs : Nat → Int32) (ag : Nat) (af : Nat) (ai : Nat) (gp : Nat → Int32) (fl : Nat → Int32) (hC_h : C h = some (.inr (2, hfs hs))) (hC_lv : C lv = some (.inr (3, [.ref ag, .ref af, .ref ai]))) (hC_ag : C ag = some (sg_za g 32 gp)) (hC_af : C af = some (sg_ia g 32 fl)) : sg_Met l yX1_fall cX1_fall 5 none 1 21 0 0 g [.ref h, .ref lv] C (fun v C' => v = none ∧ C' = sg_ov C [(h, .inr (2, hfs (hFall gp fl hs)))]) sg_no := by
  refine sg_ofW (by decide) rfl ?_ (Nat.le_of_ble_eq_true rfl)
  intro p e s m below meth c hc hlk hrt hin2 ht
  have hc : sg_Cx p s m _ c cX1_fall 5 RX1 g := hc
  show sg_W p l e _ s m _ below meth c 5 g 0 0 _ C 0 [(0, .ref h), (1, .ref lv)] []
  have hN : sg_nd [h] := ⟨List.not_mem_nil, trivial⟩
  have hO_lv : lv ∉ [h] := sg_nin (sg_ne hC_lv hC_h (Nat.ne_of_beq_eq_false rfl)) (List.not_mem_nil)
  have hO_ag : ag ∉ [h] := sg_nin (sg_ne hC_ag hC_h (Nat.ne_of_beq_eq_false rfl)) (List.not_mem_nil)
  have hO_af : af ∉ [h] := sg_nin (sg_ne hC_af hC_h (Nat.ne_of_beq_eq_false rfl)) (List.not_mem_nil)
  have K_48 : ∀ (h2 : Nat → Int32) (eh2 : h2 = hFall1 gp fl hs), sg_W p l e (sg_rm 1 21 0 0) s m ([.ref h, .ref lv] : List Value).toArray below meth c 5 g 0 0 (sg_End below g (fun v C' => v = none ∧ C' = sg_ov C [(h, .inr (2, hfs (hFall gp fl hs)))]) sg_no ([.ref h, .ref lv] : List Value).toArray s 0 0) (sg_ov C [(h, .inr (2, hfs h2))]) 48 [(0, .ref h), (3, .int (bI (lGap gp (hs 0 / 16)))), (4, .int (lBase fl (hs 0 / 16)))] [] := by
    intro h2 eh2
    refine sw_aload_n (pc := 48) hc dX1_fall_48 rfl 0 rfl ?_
    refine sw_get (pc := 49) (v := .int (h2 3)) hc fl_RX1_27 (sg_ov_at hN (k := 0) rfl) rfl dX1_fall_49 ?_
    refine sw_if_ne (pc := 52) (tgt := 119) hc dX1_fall_52 (by decide) (fun c_1 => ?_) (fun c_1 => ?_)
    ·
      have h_2 : h2 = hFall gp fl hs := by first | with_reducible rfl | (subst eh2; first | with_reducible rfl | (simp [-Int32.not_le, -Int32.not_lt, hFall, hFall3, hFall2, st1_a, c_1]; done) | (((try simp only [st1_a, Nat.reduceBEq, cond_false, cond_true] at c_1) <;> simp [-Int32.not_le, -Int32.not_lt, hFall, hFall3, hFall2, st1_a, c_1]); done) | ((try simp only [hFall, hFall3, hFall2]); (repeat' split) <;> simp_all [-Int32.not_le, -Int32.not_lt, st1_a, lItem, lAbove, lGap]; done))
      exact sw_vret (pc := 119) hc hlk hrt ⟨rfl, (congrArg (fun zz => sg_ov C [(h, .inr (2, hfs zz))]) h_2)⟩ (Nat.le_of_ble_eq_true rfl) (Nat.le_of_ble_eq_true rfl) dX1_fall_119
    ·
      refine sw_aload_n (pc := 55) hc dX1_fall_55 rfl 0 rfl ?_
      refine sw_bipush (pc := 56) (v := (-14)) hc dX1_fall_56 (by decide) ?_
      refine sw_aload_n (pc := 58) hc dX1_fall_58 rfl 0 rfl ?_
      refine sw_get (pc := 59) (v := .int (h2 2)) hc fl_RX1_24 (sg_ov_at hN (k := 0) rfl) rfl dX1_fall_59 ?_
      refine sw_iconst (pc := 62) (v := 2) hc dX1_fall_62 (by decide) ?_
      refine sw_isub (pc := 63) hc dX1_fall_63 ?_
      refine sw_mmax (pc := 64) hc mm_RX1_79 ⟨Nat.le_of_ble_eq_true rfl, Nat.le_of_ble_eq_true rfl, Nat.le_of_ble_eq_true rfl, Nat.le_of_ble_eq_true rfl⟩ dX1_fall_64 ?_
      refine sw_putO (pc := 67) (k := 2) (fs' := hfs (st1 h2 2 (jmax (-14) ((h2 2) - 2)))) (L := [(h, .inr (2, hfs h2))]) (l' := [(h, .inr (2, hfs (st1 h2 2 (jmax (-14) ((h2 2) - 2)))))]) hc fl_RX1_24 ty_2 fp_2_2 hN (q0 := 0) rfl rfl rfl (Nat.le_of_ble_eq_true rfl) rfl rfl dX1_fall_67 ?_
      refine sw_aload_n (pc := 70) hc dX1_fall_70 rfl 0 rfl ?_
      refine sw_dup (pc := 71) hc dX1_fall_71 rfl ?_
      refine sw_get (pc := 72) (v := .int ((st1 h2 2 (jmax (-14) ((h2 2) - 2))) 1)) hc fl_RX1_21 (sg_ov_at hN (k := 0) rfl) rfl dX1_fall_72 ?_
      refine sw_aload_n (pc := 75) hc dX1_fall_75 rfl 0 rfl ?_
      refine sw_get (pc := 76) (v := .int ((st1 h2 2 (jmax (-14) ((h2 2) - 2))) 2)) hc fl_RX1_24 (sg_ov_at hN (k := 0) rfl) rfl dX1_fall_76 ?_
      refine sw_iadd (pc := 79) hc dX1_fall_79 ?_
      refine sw_top (fun x_3 ex_3 => ?_)
      refine sw_putO (pc := 80) (k := 1) (fs' := hfs (st1 (st1 h2 2 (jmax (-14) ((h2 2) - 2))) 1 x_3)) (L := [(h, .inr (2, hfs (st1 h2 2 (jmax (-14) ((h2 2) - 2)))))]) (l' := [(h, .inr (2, hfs (st1 (st1 h2 2 (jmax (-14) ((h2 2) - 2))) 1 x_3)))]) hc fl_RX1_21 ty_2 fp_2_1 hN (q0 := 0) rfl rfl rfl (Nat.le_of_ble_eq_true rfl) rfl rfl dX1_fall_80 ?_
      refine sw_iload_n (pc := 83) hc dX1_fall_83 rfl 1 rfl ?_
      refine sw_if_ne (pc := 84) (tgt := 119) hc dX1_fall_84 (by decide) (fun c_4 => ?_) (fun c_4 => ?_)
      ·
        have p_5 : lGap gp (hs 0 / 16) := bI_n c_4
        have h_6 : st1 (st1 h2 2 (jmax (-14) ((h2 2) - 2))) 1 x_3 = hFall gp fl hs := by first | with_reducible rfl | (subst ex_3 eh2; first | with_reducible rfl | (simp [-Int32.not_le, -Int32.not_lt, hFall, hFall3, hFall2, st1_a, c_1, p_5]; done) | (((try simp only [st1_a, Nat.reduceBEq, cond_false, cond_true] at c_1 p_5) <;> simp [-Int32.not_le, -Int32.not_lt, hFall, hFall3, hFall2, st1_a, c_1, p_5]); done) | ((try simp only [hFall, hFall3, hFall2]); (repeat' split) <;> simp_all [-Int32.not_le, -Int32.not_lt, st1_a, lItem, lAbove, lGap]; done))
        exact sw_vret (pc := 119) hc hlk hrt ⟨rfl, (congrArg (fun zz => sg_ov C [(h, .inr (2, hfs zz))]) h_6)⟩ (Nat.le_of_ble_eq_true rfl) (Nat.le_of_ble_eq_true rfl) dX1_fall_119
      ·
        have p_7 : ¬ (lGap gp (hs 0 / 16)) := bI_0 c_4
        refine sw_aload_n (pc := 87) hc dX1_fall_87 rfl 0 rfl ?_
        refine sw_get (pc := 88) (v := .int ((st1 (st1 h2 2 (jmax (-14) ((h2 2) - 2))) 1 x_3) 2)) hc fl_RX1_24 (sg_ov_at hN (k := 0) rfl) rfl dX1_fall_88 ?_
        refine sw_if_gt (pc := 91) (tgt := 119) hc dX1_fall_91 (by decide) (fun c_8 => ?_) (fun c_8 => ?_)
        ·
          have c_8' := Int32.not_le.mpr c_8
          have h_9 : st1 (st1 h2 2 (jmax (-14) ((h2 2) - 2))) 1 x_3 = hFall gp fl hs := by first | with_reducible rfl | (subst ex_3 eh2; first | with_reducible rfl | (simp [-Int32.not_le, -Int32.not_lt, hFall, hFall3, hFall2, st1_a, c_1, p_7, c_8, c_8']; done) | (((try simp only [st1_a, Nat.reduceBEq, cond_false, cond_true] at c_1 p_7 c_8 c_8') <;> simp [-Int32.not_le, -Int32.not_lt, hFall, hFall3, hFall2, st1_a, c_1, p_7, c_8, c_8']); done) | ((try simp only [hFall, hFall3, hFall2]); (repeat' split) <;> simp_all [-Int32.not_le, -Int32.not_lt, st1_a, lItem, lAbove, lGap]; done))
          exact sw_vret (pc := 119) hc hlk hrt ⟨rfl, (congrArg (fun zz => sg_ov C [(h, .inr (2, hfs zz))]) h_9)⟩ (Nat.le_of_ble_eq_true rfl) (Nat.le_of_ble_eq_true rfl) dX1_fall_119
        ·
          have c_8' := Int32.not_lt.mp c_8
          refine sw_aload_n (pc := 94) hc dX1_fall_94 rfl 0 rfl ?_
          refine sw_get (pc := 95) (v := .int ((st1 (st1 h2 2 (jmax (-14) ((h2 2) - 2))) 1 x_3) 1)) hc fl_RX1_21 (sg_ov_at hN (k := 0) rfl) rfl dX1_fall_95 ?_
          refine sw_iload (pc := 98) hc dX1_fall_98 2 rfl ?_
          refine sw_icmp_gt (pc := 100) (tgt := 119) hc dX1_fall_100 (by decide) (fun c_10 => ?_) (fun c_10 => ?_)
          ·
            have c_10' := Int32.not_le.mpr c_10
            have h_11 : st1 (st1 h2 2 (jmax (-14) ((h2 2) - 2))) 1 x_3 = hFall gp fl hs := by first | with_reducible rfl | (subst ex_3 eh2; first | with_reducible rfl | (simp [-Int32.not_le, -Int32.not_lt, hFall, hFall3, hFall2, st1_a, c_1, p_7, c_8, c_8', c_10, c_10']; done) | (((try simp only [st1_a, Nat.reduceBEq, cond_false, cond_true] at c_1 p_7 c_8 c_8' c_10 c_10') <;> simp [-Int32.not_le, -Int32.not_lt, hFall, hFall3, hFall2, st1_a, c_1, p_7, c_8, c_8', c_10, c_10']); done) | ((try simp only [hFall, hFall3, hFall2]); (repeat' split) <;> simp_all [-Int32.not_le, -Int32.not_lt, st1_a, lItem, lAbove, lGap]; done))
            exact sw_vret (pc := 119) hc hlk hrt ⟨rfl, (congrArg (fun zz => sg_ov C [(h, .inr (2, hfs zz))]) h_11)⟩ (Nat.le_of_ble_eq_true rfl) (Nat.le_of_ble_eq_true rfl) dX1_fall_119
          ·
            have c_10' := Int32.not_lt.mp c_10
            refine sw_aload_n (pc := 103) hc dX1_fall_103 rfl 0 rfl ?_
            refine sw_iload (pc := 104) hc dX1_fall_104 2 rfl ?_
            refine sw_putO (pc := 106) (k := 1) (fs' := hfs (st1 (st1 (st1 h2 2 (jmax (-14) ((h2 2) - 2))) 1 x_3) 1 (lBase fl (hs 0 / 16)))) (L := [(h, .inr (2, hfs (st1 (st1 h2 2 (jmax (-14) ((h2 2) - 2))) 1 x_3)))]) (l' := [(h, .inr (2, hfs (st1 (st1 (st1 h2 2 (jmax (-14) ((h2 2) - 2))) 1 x_3) 1 (lBase fl (hs 0 / 16)))))]) hc fl_RX1_21 ty_2 fp_2_1 hN (q0 := 0) rfl rfl rfl (Nat.le_of_ble_eq_true rfl) rfl rfl dX1_fall_106 ?_
            refine sw_aload_n (pc := 109) hc dX1_fall_109 rfl 0 rfl ?_
            refine sw_iconst (pc := 110) (v := 1) hc dX1_fall_110 (by decide) ?_
            refine sw_putO (pc := 111) (k := 3) (fs' := hfs (st1 (st1 (st1 (st1 h2 2 (jmax (-14) ((h2 2) - 2))) 1 x_3) 1 (lBase fl (hs 0 / 16))) 3 1)) (L := [(h, .inr (2, hfs (st1 (st1 (st1 h2 2 (jmax (-14) ((h2 2) - 2))) 1 x_3) 1 (lBase fl (hs 0 / 16)))))]) (l' := [(h, .inr (2, hfs (st1 (st1 (st1 (st1 h2 2 (jmax (-14) ((h2 2) - 2))) 1 x_3) 1 (lBase fl (hs 0 / 16))) 3 1)))]) hc fl_RX1_27 ty_2 fp_2_3 hN (q0 := 0) rfl rfl rfl (Nat.le_of_ble_eq_true rfl) rfl rfl dX1_fall_111 ?_
            refine sw_aload_n (pc := 114) hc dX1_fall_114 rfl 0 rfl ?_
            refine sw_iconst (pc := 115) (v := 0) hc dX1_fall_115 (by decide) ?_
            refine sw_putO (pc := 116) (k := 2) (fs' := hfs (st1 (st1 (st1 (st1 (st1 h2 2 (jmax (-14) ((h2 2) - 2))) 1 x_3) 1 (lBase fl (hs 0 / 16))) 3 1) 2 0)) (L := [(h, .inr (2, hfs (st1 (st1 (st1 (st1 h2 2 (jmax (-14) ((h2 2) - 2))) 1 x_3) 1 (lBase fl (hs 0 / 16))) 3 1)))]) (l' := [(h, .inr (2, hfs (st1 (st1 (st1 (st1 (st1 h2 2 (jmax (-14) ((h2 2) - 2))) 1 x_3) 1 (lBase fl (hs 0 / 16))) 3 1) 2 0)))]) hc fl_RX1_24 ty_2 fp_2_2 hN (q0 := 0) rfl rfl rfl (Nat.le_of_ble_eq_true rfl) rfl rfl dX1_fall_116 ?_
            have h_12 : st1 (st1 (st1 (st1 (st1 h2 2 (jmax (-14) ((h2 2) - 2))) 1 x_3) 1 (lBase fl (hs 0 / 16))) 3 1) 2 0 = hFall gp fl hs := by first | with_reducible rfl | (subst ex_3 eh2; first | with_reducible rfl | (simp [-Int32.not_le, -Int32.not_lt, hFall, hFall3, hFall2, st1_a, c_1, p_7, c_8, c_8', c_10, c_10']; done) | (((try simp only [st1_a, Nat.reduceBEq, cond_false, cond_true] at c_1 p_7 c_8 c_8' c_10 c_10') <;> simp [-Int32.not_le, -Int32.not_lt, hFall, hFall3, hFall2, st1_a, c_1, p_7, c_8, c_8', c_10, c_10']); done) | ((try simp only [hFall, hFall3, hFall2]); (repeat' split) <;> simp_all [-Int32.not_le, -Int32.not_lt, st1_a, lItem, lAbove, lGap]; done))
            exact sw_vret (pc := 119) hc hlk hrt ⟨rfl, (congrArg (fun zz => sg_ov C [(h, .inr (2, hfs zz))]) h_12)⟩ (Nat.le_of_ble_eq_true rfl) (Nat.le_of_ble_eq_true rfl) dX1_fall_119
  refine sw_eq (C' := sg_ov C [(h, .inr (2, hfs hs))]) (sg_ov_self2 (List.forall_mem_cons.mpr ⟨hC_h, fun _ h => absurd h List.not_mem_nil⟩)).symm ?_
  refine sw_aload_n (pc := 0) hc dX1_fall_0 rfl 0 rfl ?_
  refine sw_callV (pc := 1) (rest := []) hc (c_X1_columnHere l g (sg_ov C [(h, .inr (2, hfs hs))]) h hs (sg_ov_at hN (k := 0) rfl)) md_X1_columnHere ml_RX1_82 im_X1_columnHere sl_X1_columnHere (sg_ov_at hN (k := 0) rfl) rfl rfl rfl (Nat.le_of_ble_eq_true rfl) dX1_fall_1 ⟨Nat.le_of_ble_eq_true rfl, Nat.le_of_ble_eq_true rfl, Nat.le_of_ble_eq_true rfl, Nat.le_of_ble_eq_true rfl⟩ (fun v C' hP => ?_) (fun _ _ h => h.elim)
  obtain ⟨rfl, rfl⟩ := hP
  refine sw_st (st' := [.int (hs 0 / 16)]) rfl ?_
  refine sw_istore_n (pc := 4) hc dX1_fall_4 rfl (by decide) (lv' := [(2, .int (hs 0 / 16)), (0, .ref h), (1, .ref lv)]) rfl ?_
  refine sw_aload_n (pc := 5) hc dX1_fall_5 rfl 2 rfl ?_
  refine sw_iload_n (pc := 6) hc dX1_fall_6 rfl 0 rfl ?_
  refine sw_callV (pc := 7) (rest := []) hc (c_X2_isGap l g (sg_ov C [(h, .inr (2, hfs hs))]) lv (hs 0 / 16) ag af ai gp ((sg_ov_out hO_lv).trans hC_lv) ((sg_ov_out hO_ag).trans hC_ag)) md_X2_isGap ml_RX1_90 im_X2_isGap sl_X2_isGap ((sg_ov_out hO_lv).trans hC_lv) rfl rfl rfl (Nat.le_of_ble_eq_true rfl) dX1_fall_7 ⟨Nat.le_of_ble_eq_true rfl, Nat.le_of_ble_eq_true rfl, Nat.le_of_ble_eq_true rfl, Nat.le_of_ble_eq_true rfl⟩ (fun v C' hP => ?_) (fun _ _ h => h.elim)
  obtain ⟨rfl, rfl⟩ := hP
  refine sw_st (st' := [.int (bI (lGap gp (hs 0 / 16)))]) rfl ?_
  refine sw_istore_n (pc := 10) hc dX1_fall_10 rfl (by decide) (lv' := [(3, .int (bI (lGap gp (hs 0 / 16)))), (2, .int (hs 0 / 16)), (0, .ref h), (1, .ref lv)]) rfl ?_
  refine sw_aload_n (pc := 11) hc dX1_fall_11 rfl 3 rfl ?_
  refine sw_iload_n (pc := 12) hc dX1_fall_12 rfl 1 rfl ?_
  refine sw_callV (pc := 13) (rest := []) hc (c_X2_base l g (sg_ov C [(h, .inr (2, hfs hs))]) lv (hs 0 / 16) ag af ai fl ((sg_ov_out hO_lv).trans hC_lv) ((sg_ov_out hO_af).trans hC_af)) md_X2_base ml_RX1_15 im_X2_base sl_X2_base ((sg_ov_out hO_lv).trans hC_lv) rfl rfl rfl (Nat.le_of_ble_eq_true rfl) dX1_fall_13 ⟨Nat.le_of_ble_eq_true rfl, Nat.le_of_ble_eq_true rfl, Nat.le_of_ble_eq_true rfl, Nat.le_of_ble_eq_true rfl⟩ (fun v C' hP => ?_) (fun _ _ h => h.elim)
  obtain ⟨rfl, rfl⟩ := hP
  refine sw_st (st' := [.int (lBase fl (hs 0 / 16))]) rfl ?_
  refine sw_istore (pc := 16) hc dX1_fall_16 (by decide) (lv' := [(4, .int (lBase fl (hs 0 / 16))), (3, .int (bI (lGap gp (hs 0 / 16)))), (2, .int (hs 0 / 16)), (0, .ref h), (1, .ref lv)]) rfl ?_
  refine sw_aload_n (pc := 18) hc dX1_fall_18 rfl 3 rfl ?_
  refine sw_get (pc := 19) (v := .int (hs 3)) hc fl_RX1_27 (sg_ov_at hN (k := 0) rfl) rfl dX1_fall_19 ?_
  refine sw_if_eq (pc := 22) (tgt := 48) hc dX1_fall_22 (by decide) (fun c_13 => ?_) (fun c_13 => ?_)
  ·
    have h_14 : hs = hFall1 gp fl hs := by first | with_reducible rfl | (first | with_reducible rfl | (simp [-Int32.not_le, -Int32.not_lt, hFall1, st1_a, c_13]; done) | (((try simp only [st1_a, Nat.reduceBEq, cond_false, cond_true] at c_13) <;> simp [-Int32.not_le, -Int32.not_lt, hFall1, st1_a, c_13]); done) | ((try simp only [hFall1]); (repeat' split) <;> simp_all [-Int32.not_le, -Int32.not_lt, st1_a, lItem, lAbove, lGap]; done))
    exact sw_sub (ks := [3, 1, 0]) rfl (K_48 hs h_14)
  ·
    refine sw_iload_n (pc := 25) hc dX1_fall_25 rfl 1 rfl ?_
    refine sw_if_ne (pc := 26) (tgt := 38) hc dX1_fall_26 (by decide) (fun c_15 => ?_) (fun c_15 => ?_)
    ·
      have p_16 : lGap gp (hs 0 / 16) := bI_n c_15
      refine sw_aload_n (pc := 38) hc dX1_fall_38 rfl 3 rfl ?_
      refine sw_iconst (pc := 39) (v := 0) hc dX1_fall_39 (by decide) ?_
      refine sw_putO (pc := 40) (k := 3) (fs' := hfs (st1 hs 3 0)) (L := [(h, .inr (2, hfs hs))]) (l' := [(h, .inr (2, hfs (st1 hs 3 0)))]) hc fl_RX1_27 ty_2 fp_2_3 hN (q0 := 0) rfl rfl rfl (Nat.le_of_ble_eq_true rfl) rfl rfl dX1_fall_40 ?_
      refine sw_aload_n (pc := 43) hc dX1_fall_43 rfl 3 rfl ?_
      refine sw_iconst (pc := 44) (v := 0) hc dX1_fall_44 (by decide) ?_
      refine sw_putO (pc := 45) (k := 2) (fs' := hfs (st1 (st1 hs 3 0) 2 0)) (L := [(h, .inr (2, hfs (st1 hs 3 0)))]) (l' := [(h, .inr (2, hfs (st1 (st1 hs 3 0) 2 0)))]) hc fl_RX1_24 ty_2 fp_2_2 hN (q0 := 0) rfl rfl rfl (Nat.le_of_ble_eq_true rfl) rfl rfl dX1_fall_45 ?_
      have h_17 : st1 (st1 hs 3 0) 2 0 = hFall1 gp fl hs := by first | with_reducible rfl | (first | with_reducible rfl | (simp [-Int32.not_le, -Int32.not_lt, hFall1, st1_a, c_13, p_16]; done) | (((try simp only [st1_a, Nat.reduceBEq, cond_false, cond_true] at c_13 p_16) <;> simp [-Int32.not_le, -Int32.not_lt, hFall1, st1_a, c_13, p_16]); done) | ((try simp only [hFall1]); (repeat' split) <;> simp_all [-Int32.not_le, -Int32.not_lt, st1_a, lItem, lAbove, lGap]; done))
      exact sw_sub (ks := [3, 1, 0]) rfl (K_48 (st1 (st1 hs 3 0) 2 0) h_17)
    ·
      have p_18 : ¬ (lGap gp (hs 0 / 16)) := bI_0 c_15
      refine sw_iload (pc := 29) hc dX1_fall_29 0 rfl ?_
      refine sw_aload_n (pc := 31) hc dX1_fall_31 rfl 3 rfl ?_
      refine sw_get (pc := 32) (v := .int (hs 1)) hc fl_RX1_21 (sg_ov_at hN (k := 0) rfl) rfl dX1_fall_32 ?_
      refine sw_icmp_ge (pc := 35) (tgt := 48) hc dX1_fall_35 (by decide) (fun c_19 => ?_) (fun c_19 => ?_)
      ·
        have c_19' := Int32.not_lt.mpr c_19
        have h_20 : hs = hFall1 gp fl hs := by first | with_reducible rfl | (first | with_reducible rfl | (simp [-Int32.not_le, -Int32.not_lt, hFall1, st1_a, c_13, p_18, c_19, c_19']; done) | (((try simp only [st1_a, Nat.reduceBEq, cond_false, cond_true] at c_13 p_18 c_19 c_19') <;> simp [-Int32.not_le, -Int32.not_lt, hFall1, st1_a, c_13, p_18, c_19, c_19']); done) | ((try simp only [hFall1]); (repeat' split) <;> simp_all [-Int32.not_le, -Int32.not_lt, st1_a, lItem, lAbove, lGap]; done))
        exact sw_sub (ks := [3, 1, 0]) rfl (K_48 hs h_20)
      ·
        have c_19' := Int32.not_le.mp c_19
        refine sw_aload_n (pc := 38) hc dX1_fall_38 rfl 3 rfl ?_
        refine sw_iconst (pc := 39) (v := 0) hc dX1_fall_39 (by decide) ?_
        refine sw_putO (pc := 40) (k := 3) (fs' := hfs (st1 hs 3 0)) (L := [(h, .inr (2, hfs hs))]) (l' := [(h, .inr (2, hfs (st1 hs 3 0)))]) hc fl_RX1_27 ty_2 fp_2_3 hN (q0 := 0) rfl rfl rfl (Nat.le_of_ble_eq_true rfl) rfl rfl dX1_fall_40 ?_
        refine sw_aload_n (pc := 43) hc dX1_fall_43 rfl 3 rfl ?_
        refine sw_iconst (pc := 44) (v := 0) hc dX1_fall_44 (by decide) ?_
        refine sw_putO (pc := 45) (k := 2) (fs' := hfs (st1 (st1 hs 3 0) 2 0)) (L := [(h, .inr (2, hfs (st1 hs 3 0)))]) (l' := [(h, .inr (2, hfs (st1 (st1 hs 3 0) 2 0)))]) hc fl_RX1_24 ty_2 fp_2_2 hN (q0 := 0) rfl rfl rfl (Nat.le_of_ble_eq_true rfl) rfl rfl dX1_fall_45 ?_
        have h_21 : st1 (st1 hs 3 0) 2 0 = hFall1 gp fl hs := by first | with_reducible rfl | (first | with_reducible rfl | (simp [-Int32.not_le, -Int32.not_lt, hFall1, st1_a, c_13, p_18, c_19, c_19']; done) | (((try simp only [st1_a, Nat.reduceBEq, cond_false, cond_true] at c_13 p_18 c_19 c_19') <;> simp [-Int32.not_le, -Int32.not_lt, hFall1, st1_a, c_13, p_18, c_19, c_19']); done) | ((try simp only [hFall1]); (repeat' split) <;> simp_all [-Int32.not_le, -Int32.not_lt, st1_a, lItem, lAbove, lGap]; done))
        exact sw_sub (ks := [3, 1, 0]) rfl (K_48 (st1 (st1 hs 3 0) 2 0) h_21)

set_option maxHeartbeats 4000000 in
set_option maxRecDepth 100000 in
theorem c_X1_takeCoin (l : Launch) (g : sg_G) (C : Nat → Option va_E) (h : Nat) (lv : Nat) (hs : Nat → Int32) (ag : Nat) (af : Nat) (ai : Nat) (fl : Nat → Int32) (it : Nat → Int32) (hC_h : C h = some (.inr (2, hfs hs))) (hC_lv : C lv = some (.inr (3, [.ref ag, .ref af, .ref ai]))) (hC_af : C af = some (sg_ia g 32 fl)) (hC_ai : C ai = some (sg_ia g 32 it)) : sg_Met l yX1_takeCoin cX1_takeCoin 4 none 1 22 0 0 g [.ref h, .ref lv] C (fun v C' => v = none ∧ C' = sg_ov C [(h, .inr (2, hfs (hCoin fl it hs)))]) sg_no := by
  refine sg_ofW (by decide) rfl ?_ (Nat.le_of_ble_eq_true rfl)
  intro p e s m below meth c hc hlk hrt hin2 ht
  have hc : sg_Cx p s m _ c cX1_takeCoin 4 RX1 g := hc
  show sg_W p l e _ s m _ below meth c 4 g 0 0 _ C 0 [(0, .ref h), (1, .ref lv)] []
  have hN : sg_nd [h] := ⟨List.not_mem_nil, trivial⟩
  have hO_lv : lv ∉ [h] := sg_nin (sg_ne hC_lv hC_h (Nat.ne_of_beq_eq_false rfl)) (List.not_mem_nil)
  have hO_af : af ∉ [h] := sg_nin (sg_ne hC_af hC_h (Nat.ne_of_beq_eq_false rfl)) (List.not_mem_nil)
  have hO_ai : ai ∉ [h] := sg_nin (sg_ne hC_ai hC_h (Nat.ne_of_beq_eq_false rfl)) (List.not_mem_nil)
  refine sw_eq (C' := sg_ov C [(h, .inr (2, hfs hs))]) (sg_ov_self2 (List.forall_mem_cons.mpr ⟨hC_h, fun _ h => absurd h List.not_mem_nil⟩)).symm ?_
  refine sw_aload_n (pc := 0) hc dX1_takeCoin_0 rfl 0 rfl ?_
  refine sw_callV (pc := 1) (rest := []) hc (c_X1_columnHere l g (sg_ov C [(h, .inr (2, hfs hs))]) h hs (sg_ov_at hN (k := 0) rfl)) md_X1_columnHere ml_RX1_82 im_X1_columnHere sl_X1_columnHere (sg_ov_at hN (k := 0) rfl) rfl rfl rfl (Nat.le_of_ble_eq_true rfl) dX1_takeCoin_1 ⟨Nat.le_of_ble_eq_true rfl, Nat.le_of_ble_eq_true rfl, Nat.le_of_ble_eq_true rfl, Nat.le_of_ble_eq_true rfl⟩ (fun v C' hP => ?_) (fun _ _ h => h.elim)
  obtain ⟨rfl, rfl⟩ := hP
  refine sw_st (st' := [.int (hs 0 / 16)]) rfl ?_
  refine sw_istore_n (pc := 4) hc dX1_takeCoin_4 rfl (by decide) (lv' := [(2, .int (hs 0 / 16)), (0, .ref h), (1, .ref lv)]) rfl ?_
  refine sw_aload_n (pc := 5) hc dX1_takeCoin_5 rfl 1 rfl ?_
  refine sw_get (pc := 6) (v := .int (hs 6)) hc fl_RX1_37 (sg_ov_at hN (k := 0) rfl) rfl dX1_takeCoin_6 ?_
  refine sw_iconst (pc := 9) (v := 1) hc dX1_takeCoin_9 (by decide) ?_
  refine sw_iload_n (pc := 10) hc dX1_takeCoin_10 rfl 0 rfl ?_
  refine sw_ishl (pc := 11) hc dX1_takeCoin_11 ?_
  refine sw_iand (pc := 12) hc dX1_takeCoin_12 ?_
  refine sw_if_eq (pc := 13) (tgt := 20) hc dX1_takeCoin_13 (by decide) (fun c_1 => ?_) (fun c_1 => ?_)
  ·
    refine sw_iconst (pc := 20) (v := 0) hc dX1_takeCoin_20 (by decide) ?_
    refine sw_istore_n (pc := 21) hc dX1_takeCoin_21 rfl (by decide) (lv' := [(3, .int 0), (2, .int (hs 0 / 16)), (0, .ref h), (1, .ref lv)]) rfl ?_
    refine sw_iload_n (pc := 22) hc dX1_takeCoin_22 rfl 0 rfl ?_
    refine sw_if_ne (pc := 23) (tgt := 72) hc dX1_takeCoin_23 (by decide) (fun c_2 => ?_) (fun c_2 => ?_)
    ·
      exact absurd c_2 (by decide)
    ·
      refine sw_aload_n (pc := 26) hc dX1_takeCoin_26 rfl 3 rfl ?_
      refine sw_iload_n (pc := 27) hc dX1_takeCoin_27 rfl 1 rfl ?_
      refine sw_iconst (pc := 28) (v := 1) hc dX1_takeCoin_28 (by decide) ?_
      refine sw_callV (pc := 29) (rest := []) hc (c_X2_hasItem l g (sg_ov C [(h, .inr (2, hfs hs))]) lv (hs 0 / 16) 1 ag af ai it ((sg_ov_out hO_lv).trans hC_lv) ((sg_ov_out hO_ai).trans hC_ai)) md_X2_hasItem ml_RX1_94 im_X2_hasItem sl_X2_hasItem ((sg_ov_out hO_lv).trans hC_lv) rfl rfl rfl (Nat.le_of_ble_eq_true rfl) dX1_takeCoin_29 ⟨Nat.le_of_ble_eq_true rfl, Nat.le_of_ble_eq_true rfl, Nat.le_of_ble_eq_true rfl, Nat.le_of_ble_eq_true rfl⟩ (fun v C' hP => ?_) (fun _ _ h => h.elim)
      obtain ⟨rfl, rfl⟩ := hP
      refine sw_st (st' := [.int (bI (lItem it (hs 0 / 16) 1))]) rfl ?_
      refine sw_if_eq (pc := 32) (tgt := 72) hc dX1_takeCoin_32 (by decide) (fun c_3 => ?_) (fun c_3 => ?_)
      ·
        have p_4 : ¬ (lItem it (hs 0 / 16) 1) := bI_0 c_3
        have h_5 : hs = hCoin fl it hs := by first | with_reducible rfl | (first | with_reducible rfl | (simp [-Int32.not_le, -Int32.not_lt, hCoin, st1_a, c_1, c_2, p_4]; done) | (((try simp only [st1_a, Nat.reduceBEq, cond_false, cond_true] at c_1 c_2 p_4) <;> simp [-Int32.not_le, -Int32.not_lt, hCoin, st1_a, c_1, c_2, p_4]); done) | ((try simp only [hCoin]); (repeat' split) <;> simp_all [-Int32.not_le, -Int32.not_lt, st1_a, lItem, lAbove, lGap]; done))
        exact sw_vret (pc := 72) hc hlk hrt ⟨rfl, (congrArg (fun zz => sg_ov C [(h, .inr (2, hfs zz))]) h_5)⟩ (Nat.le_of_ble_eq_true rfl) (Nat.le_of_ble_eq_true rfl) dX1_takeCoin_72
      ·
        have p_6 : lItem it (hs 0 / 16) 1 := bI_n c_3
        refine sw_aload_n (pc := 35) hc dX1_takeCoin_35 rfl 2 rfl ?_
        refine sw_get (pc := 36) (v := .int (hs 1)) hc fl_RX1_21 (sg_ov_at hN (k := 0) rfl) rfl dX1_takeCoin_36 ?_
        refine sw_aload_n (pc := 39) hc dX1_takeCoin_39 rfl 3 rfl ?_
        refine sw_iload_n (pc := 40) hc dX1_takeCoin_40 rfl 1 rfl ?_
        refine sw_callV (pc := 41) (rest := [.int (hs 1)]) hc (c_X2_base l g (sg_ov C [(h, .inr (2, hfs hs))]) lv (hs 0 / 16) ag af ai fl ((sg_ov_out hO_lv).trans hC_lv) ((sg_ov_out hO_af).trans hC_af)) md_X2_base ml_RX1_15 im_X2_base sl_X2_base ((sg_ov_out hO_lv).trans hC_lv) rfl rfl rfl (Nat.le_of_ble_eq_true rfl) dX1_takeCoin_41 ⟨Nat.le_of_ble_eq_true rfl, Nat.le_of_ble_eq_true rfl, Nat.le_of_ble_eq_true rfl, Nat.le_of_ble_eq_true rfl⟩ (fun v C' hP => ?_) (fun _ _ h => h.elim)
        obtain ⟨rfl, rfl⟩ := hP
        refine sw_st (st' := [.int (lBase fl (hs 0 / 16)), .int (hs 1)]) rfl ?_
        refine sw_isub (pc := 44) hc dX1_takeCoin_44 ?_
        refine sw_bipush (pc := 45) (v := 24) hc dX1_takeCoin_45 (by decide) ?_
        refine sw_icmp_gt (pc := 47) (tgt := 72) hc dX1_takeCoin_47 (by decide) (fun c_7 => ?_) (fun c_7 => ?_)
        ·
          have c_7' := Int32.not_le.mpr c_7
          have h_8 : hs = hCoin fl it hs := by first | with_reducible rfl | (first | with_reducible rfl | (simp [-Int32.not_le, -Int32.not_lt, hCoin, st1_a, c_1, c_2, p_6, c_7, c_7']; done) | (((try simp only [st1_a, Nat.reduceBEq, cond_false, cond_true] at c_1 c_2 p_6 c_7 c_7') <;> simp [-Int32.not_le, -Int32.not_lt, hCoin, st1_a, c_1, c_2, p_6, c_7, c_7']); done) | ((try simp only [hCoin]); (repeat' split) <;> simp_all [-Int32.not_le, -Int32.not_lt, st1_a, lItem, lAbove, lGap]; done))
          exact sw_vret (pc := 72) hc hlk hrt ⟨rfl, (congrArg (fun zz => sg_ov C [(h, .inr (2, hfs zz))]) h_8)⟩ (Nat.le_of_ble_eq_true rfl) (Nat.le_of_ble_eq_true rfl) dX1_takeCoin_72
        ·
          have c_7' := Int32.not_lt.mp c_7
          refine sw_aload_n (pc := 50) hc dX1_takeCoin_50 rfl 2 rfl ?_
          refine sw_dup (pc := 51) hc dX1_takeCoin_51 rfl ?_
          refine sw_get (pc := 52) (v := .int (hs 6)) hc fl_RX1_37 (sg_ov_at hN (k := 0) rfl) rfl dX1_takeCoin_52 ?_
          refine sw_iconst (pc := 55) (v := 1) hc dX1_takeCoin_55 (by decide) ?_
          refine sw_iload_n (pc := 56) hc dX1_takeCoin_56 rfl 1 rfl ?_
          refine sw_ishl (pc := 57) hc dX1_takeCoin_57 ?_
          refine sw_ior (pc := 58) hc dX1_takeCoin_58 ?_
          refine sw_putO (pc := 59) (k := 6) (fs' := hfs (st1 hs 6 ((hs 6) ||| (1 <<< ((hs 0 / 16) &&& 31))))) (L := [(h, .inr (2, hfs hs))]) (l' := [(h, .inr (2, hfs (st1 hs 6 ((hs 6) ||| (1 <<< ((hs 0 / 16) &&& 31))))))]) hc fl_RX1_37 ty_2 fp_2_6 hN (q0 := 0) rfl rfl rfl (Nat.le_of_ble_eq_true rfl) rfl rfl dX1_takeCoin_59 ?_
          refine sw_aload_n (pc := 62) hc dX1_takeCoin_62 rfl 2 rfl ?_
          refine sw_dup (pc := 63) hc dX1_takeCoin_63 rfl ?_
          refine sw_get (pc := 64) (v := .int ((st1 hs 6 ((hs 6) ||| (1 <<< ((hs 0 / 16) &&& 31)))) 7)) hc fl_RX1_40 (sg_ov_at hN (k := 0) rfl) rfl dX1_takeCoin_64 ?_
          refine sw_iconst (pc := 67) (v := 1) hc dX1_takeCoin_67 (by decide) ?_
          refine sw_iadd (pc := 68) hc dX1_takeCoin_68 ?_
          refine sw_putO (pc := 69) (k := 7) (fs' := hfs (st1 (st1 hs 6 ((hs 6) ||| (1 <<< ((hs 0 / 16) &&& 31)))) 7 (((st1 hs 6 ((hs 6) ||| (1 <<< ((hs 0 / 16) &&& 31)))) 7) + 1))) (L := [(h, .inr (2, hfs (st1 hs 6 ((hs 6) ||| (1 <<< ((hs 0 / 16) &&& 31))))))]) (l' := [(h, .inr (2, hfs (st1 (st1 hs 6 ((hs 6) ||| (1 <<< ((hs 0 / 16) &&& 31)))) 7 (((st1 hs 6 ((hs 6) ||| (1 <<< ((hs 0 / 16) &&& 31)))) 7) + 1))))]) hc fl_RX1_40 ty_2 fp_2_7 hN (q0 := 0) rfl rfl rfl (Nat.le_of_ble_eq_true rfl) rfl rfl dX1_takeCoin_69 ?_
          have h_9 : st1 (st1 hs 6 ((hs 6) ||| (1 <<< ((hs 0 / 16) &&& 31)))) 7 (((st1 hs 6 ((hs 6) ||| (1 <<< ((hs 0 / 16) &&& 31)))) 7) + 1) = hCoin fl it hs := by first | with_reducible rfl | (first | with_reducible rfl | (simp [-Int32.not_le, -Int32.not_lt, hCoin, st1_a, c_1, c_2, p_6, c_7, c_7']; done) | (((try simp only [st1_a, Nat.reduceBEq, cond_false, cond_true] at c_1 c_2 p_6 c_7 c_7') <;> simp [-Int32.not_le, -Int32.not_lt, hCoin, st1_a, c_1, c_2, p_6, c_7, c_7']); done) | ((try simp only [hCoin]); (repeat' split) <;> simp_all [-Int32.not_le, -Int32.not_lt, st1_a, lItem, lAbove, lGap]; done))
          exact sw_vret (pc := 72) hc hlk hrt ⟨rfl, (congrArg (fun zz => sg_ov C [(h, .inr (2, hfs zz))]) h_9)⟩ (Nat.le_of_ble_eq_true rfl) (Nat.le_of_ble_eq_true rfl) dX1_takeCoin_72
  ·
    refine sw_iconst (pc := 16) (v := 1) hc dX1_takeCoin_16 (by decide) ?_
    refine sw_goto (pc := 17) (tgt := 21) hc dX1_takeCoin_17 (by decide) ?_
    refine sw_istore_n (pc := 21) hc dX1_takeCoin_21 rfl (by decide) (lv' := [(3, .int 1), (2, .int (hs 0 / 16)), (0, .ref h), (1, .ref lv)]) rfl ?_
    refine sw_iload_n (pc := 22) hc dX1_takeCoin_22 rfl 0 rfl ?_
    refine sw_if_ne (pc := 23) (tgt := 72) hc dX1_takeCoin_23 (by decide) (fun c_10 => ?_) (fun c_10 => ?_)
    ·
      have h_11 : hs = hCoin fl it hs := by first | with_reducible rfl | (first | with_reducible rfl | (simp [-Int32.not_le, -Int32.not_lt, hCoin, st1_a, c_1, c_10]; done) | (((try simp only [st1_a, Nat.reduceBEq, cond_false, cond_true] at c_1 c_10) <;> simp [-Int32.not_le, -Int32.not_lt, hCoin, st1_a, c_1, c_10]); done) | ((try simp only [hCoin]); (repeat' split) <;> simp_all [-Int32.not_le, -Int32.not_lt, st1_a, lItem, lAbove, lGap]; done))
      exact sw_vret (pc := 72) hc hlk hrt ⟨rfl, (congrArg (fun zz => sg_ov C [(h, .inr (2, hfs zz))]) h_11)⟩ (Nat.le_of_ble_eq_true rfl) (Nat.le_of_ble_eq_true rfl) dX1_takeCoin_72
    ·
      exact absurd c_10 (by decide)

set_option maxHeartbeats 4000000 in
set_option maxRecDepth 100000 in
theorem c_X1_finish (l : Launch) (g : sg_G) (C : Nat → Option va_E) (h : Nat) (lv : Nat) (hs : Nat → Int32) (ag : Nat) (af : Nat) (ai : Nat) (it : Nat → Int32) (hC_h : C h = some (.inr (2, hfs hs))) (hC_lv : C lv = some (.inr (3, [.ref ag, .ref af, .ref ai]))) (hC_ai : C ai = some (sg_ia g 32 it)) : sg_Met l yX1_finish cX1_finish 2 none 1 22 0 0 g [.ref h, .ref lv] C (fun v C' => v = none ∧ C' = sg_ov C [(h, .inr (2, hfs (hFin it hs)))]) sg_no := by
  refine sg_ofW (by decide) rfl ?_ (Nat.le_of_ble_eq_true rfl)
  intro p e s m below meth c hc hlk hrt hin2 ht
  have hc : sg_Cx p s m _ c cX1_finish 2 RX1 g := hc
  show sg_W p l e _ s m _ below meth c 2 g 0 0 _ C 0 [(0, .ref h), (1, .ref lv)] []
  have hN : sg_nd [h] := ⟨List.not_mem_nil, trivial⟩
  have hO_lv : lv ∉ [h] := sg_nin (sg_ne hC_lv hC_h (Nat.ne_of_beq_eq_false rfl)) (List.not_mem_nil)
  have hO_ai : ai ∉ [h] := sg_nin (sg_ne hC_ai hC_h (Nat.ne_of_beq_eq_false rfl)) (List.not_mem_nil)
  refine sw_eq (C' := sg_ov C [(h, .inr (2, hfs hs))]) (sg_ov_self2 (List.forall_mem_cons.mpr ⟨hC_h, fun _ h => absurd h List.not_mem_nil⟩)).symm ?_
  refine sw_aload_n (pc := 0) hc dX1_finish_0 rfl 0 rfl ?_
  refine sw_get (pc := 1) (v := .int (hs 1)) hc fl_RX1_21 (sg_ov_at hN (k := 0) rfl) rfl dX1_finish_1 ?_
  refine sw_bipush (pc := 4) (v := (-32)) hc dX1_finish_4 (by decide) ?_
  refine sw_icmp_lt (pc := 6) (tgt := 28) hc dX1_finish_6 (by decide) (fun c_1 => ?_) (fun c_1 => ?_)
  ·
    have c_1' := Int32.not_le.mpr c_1
    refine sw_aload_n (pc := 28) hc dX1_finish_28 rfl 0 rfl ?_
    refine sw_iconst (pc := 29) (v := 2) hc dX1_finish_29 (by decide) ?_
    refine sw_putO (pc := 30) (k := 11) (fs' := hfs (st1 hs 11 2)) (L := [(h, .inr (2, hfs hs))]) (l' := [(h, .inr (2, hfs (st1 hs 11 2)))]) hc fl_RX1_52 ty_2 fp_2_11 hN (q0 := 0) rfl rfl rfl (Nat.le_of_ble_eq_true rfl) rfl rfl dX1_finish_30 ?_
    refine sw_goto (pc := 33) (tgt := 50) hc dX1_finish_33 (by decide) ?_
    have h_2 : st1 hs 11 2 = hFin it hs := by first | with_reducible rfl | (first | with_reducible rfl | (simp [-Int32.not_le, -Int32.not_lt, hFin, st1_a, c_1, c_1']; done) | (((try simp only [st1_a, Nat.reduceBEq, cond_false, cond_true] at c_1 c_1') <;> simp [-Int32.not_le, -Int32.not_lt, hFin, st1_a, c_1, c_1']); done) | ((try simp only [hFin]); (repeat' split) <;> simp_all [-Int32.not_le, -Int32.not_lt, st1_a, lItem, lAbove, lGap]; done))
    exact sw_vret (pc := 50) hc hlk hrt ⟨rfl, (congrArg (fun zz => sg_ov C [(h, .inr (2, hfs zz))]) h_2)⟩ (Nat.le_of_ble_eq_true rfl) (Nat.le_of_ble_eq_true rfl) dX1_finish_50
  ·
    have c_1' := Int32.not_lt.mp c_1
    refine sw_aload_n (pc := 9) hc dX1_finish_9 rfl 0 rfl ?_
    refine sw_get (pc := 10) (v := .int (hs 3)) hc fl_RX1_27 (sg_ov_at hN (k := 0) rfl) rfl dX1_finish_10 ?_
    refine sw_if_eq (pc := 13) (tgt := 36) hc dX1_finish_13 (by decide) (fun c_3 => ?_) (fun c_3 => ?_)
    ·
      refine sw_aload_n (pc := 36) hc dX1_finish_36 rfl 0 rfl ?_
      refine sw_callV (pc := 37) (rest := []) hc (c_X1_columnHere l g (sg_ov C [(h, .inr (2, hfs hs))]) h hs (sg_ov_at hN (k := 0) rfl)) md_X1_columnHere ml_RX1_82 im_X1_columnHere sl_X1_columnHere (sg_ov_at hN (k := 0) rfl) rfl rfl rfl (Nat.le_of_ble_eq_true rfl) dX1_finish_37 ⟨Nat.le_of_ble_eq_true rfl, Nat.le_of_ble_eq_true rfl, Nat.le_of_ble_eq_true rfl, Nat.le_of_ble_eq_true rfl⟩ (fun v C' hP => ?_) (fun _ _ h => h.elim)
      obtain ⟨rfl, rfl⟩ := hP
      refine sw_st (st' := [.int (hs 0 / 16)]) rfl ?_
      refine sw_bipush (pc := 40) (v := 31) hc dX1_finish_40 (by decide) ?_
      refine sw_icmp_ne (pc := 42) (tgt := 50) hc dX1_finish_42 (by decide) (fun c_4 => ?_) (fun c_4 => ?_)
      ·
        have h_5 : hs = hFin it hs := by first | with_reducible rfl | (first | with_reducible rfl | (simp [-Int32.not_le, -Int32.not_lt, hFin, st1_a, c_1, c_1', c_3, c_4]; done) | (((try simp only [st1_a, Nat.reduceBEq, cond_false, cond_true] at c_1 c_1' c_3 c_4) <;> simp [-Int32.not_le, -Int32.not_lt, hFin, st1_a, c_1, c_1', c_3, c_4]); done) | ((try simp only [hFin]); (repeat' split) <;> simp_all [-Int32.not_le, -Int32.not_lt, st1_a, lItem, lAbove, lGap]; done))
        exact sw_vret (pc := 50) hc hlk hrt ⟨rfl, (congrArg (fun zz => sg_ov C [(h, .inr (2, hfs zz))]) h_5)⟩ (Nat.le_of_ble_eq_true rfl) (Nat.le_of_ble_eq_true rfl) dX1_finish_50
      ·
        refine sw_aload_n (pc := 45) hc dX1_finish_45 rfl 0 rfl ?_
        refine sw_iconst (pc := 46) (v := 1) hc dX1_finish_46 (by decide) ?_
        refine sw_putO (pc := 47) (k := 11) (fs' := hfs (st1 hs 11 1)) (L := [(h, .inr (2, hfs hs))]) (l' := [(h, .inr (2, hfs (st1 hs 11 1)))]) hc fl_RX1_52 ty_2 fp_2_11 hN (q0 := 0) rfl rfl rfl (Nat.le_of_ble_eq_true rfl) rfl rfl dX1_finish_47 ?_
        have h_6 : st1 hs 11 1 = hFin it hs := by first | with_reducible rfl | (first | with_reducible rfl | (simp [-Int32.not_le, -Int32.not_lt, hFin, st1_a, c_1, c_1', c_3, c_4]; done) | (((try simp only [st1_a, Nat.reduceBEq, cond_false, cond_true] at c_1 c_1' c_3 c_4) <;> simp [-Int32.not_le, -Int32.not_lt, hFin, st1_a, c_1, c_1', c_3, c_4]); done) | ((try simp only [hFin]); (repeat' split) <;> simp_all [-Int32.not_le, -Int32.not_lt, st1_a, lItem, lAbove, lGap]; done))
        exact sw_vret (pc := 50) hc hlk hrt ⟨rfl, (congrArg (fun zz => sg_ov C [(h, .inr (2, hfs zz))]) h_6)⟩ (Nat.le_of_ble_eq_true rfl) (Nat.le_of_ble_eq_true rfl) dX1_finish_50
    ·
      refine sw_aload_n (pc := 16) hc dX1_finish_16 rfl 1 rfl ?_
      refine sw_aload_n (pc := 17) hc dX1_finish_17 rfl 0 rfl ?_
      refine sw_callV (pc := 18) (rest := [.ref lv]) hc (c_X1_columnHere l g (sg_ov C [(h, .inr (2, hfs hs))]) h hs (sg_ov_at hN (k := 0) rfl)) md_X1_columnHere ml_RX1_82 im_X1_columnHere sl_X1_columnHere (sg_ov_at hN (k := 0) rfl) rfl rfl rfl (Nat.le_of_ble_eq_true rfl) dX1_finish_18 ⟨Nat.le_of_ble_eq_true rfl, Nat.le_of_ble_eq_true rfl, Nat.le_of_ble_eq_true rfl, Nat.le_of_ble_eq_true rfl⟩ (fun v C' hP => ?_) (fun _ _ h => h.elim)
      obtain ⟨rfl, rfl⟩ := hP
      refine sw_st (st' := [.int (hs 0 / 16), .ref lv]) rfl ?_
      refine sw_iconst (pc := 21) (v := 2) hc dX1_finish_21 (by decide) ?_
      refine sw_callV (pc := 22) (rest := []) hc (c_X2_hasItem l g (sg_ov C [(h, .inr (2, hfs hs))]) lv (hs 0 / 16) 2 ag af ai it ((sg_ov_out hO_lv).trans hC_lv) ((sg_ov_out hO_ai).trans hC_ai)) md_X2_hasItem ml_RX1_94 im_X2_hasItem sl_X2_hasItem ((sg_ov_out hO_lv).trans hC_lv) rfl rfl rfl (Nat.le_of_ble_eq_true rfl) dX1_finish_22 ⟨Nat.le_of_ble_eq_true rfl, Nat.le_of_ble_eq_true rfl, Nat.le_of_ble_eq_true rfl, Nat.le_of_ble_eq_true rfl⟩ (fun v C' hP => ?_) (fun _ _ h => h.elim)
      obtain ⟨rfl, rfl⟩ := hP
      refine sw_st (st' := [.int (bI (lItem it (hs 0 / 16) 2))]) rfl ?_
      refine sw_if_eq (pc := 25) (tgt := 36) hc dX1_finish_25 (by decide) (fun c_7 => ?_) (fun c_7 => ?_)
      ·
        have p_8 : ¬ (lItem it (hs 0 / 16) 2) := bI_0 c_7
        refine sw_aload_n (pc := 36) hc dX1_finish_36 rfl 0 rfl ?_
        refine sw_callV (pc := 37) (rest := []) hc (c_X1_columnHere l g (sg_ov C [(h, .inr (2, hfs hs))]) h hs (sg_ov_at hN (k := 0) rfl)) md_X1_columnHere ml_RX1_82 im_X1_columnHere sl_X1_columnHere (sg_ov_at hN (k := 0) rfl) rfl rfl rfl (Nat.le_of_ble_eq_true rfl) dX1_finish_37 ⟨Nat.le_of_ble_eq_true rfl, Nat.le_of_ble_eq_true rfl, Nat.le_of_ble_eq_true rfl, Nat.le_of_ble_eq_true rfl⟩ (fun v C' hP => ?_) (fun _ _ h => h.elim)
        obtain ⟨rfl, rfl⟩ := hP
        refine sw_st (st' := [.int (hs 0 / 16)]) rfl ?_
        refine sw_bipush (pc := 40) (v := 31) hc dX1_finish_40 (by decide) ?_
        refine sw_icmp_ne (pc := 42) (tgt := 50) hc dX1_finish_42 (by decide) (fun c_9 => ?_) (fun c_9 => ?_)
        ·
          have h_10 : hs = hFin it hs := by first | with_reducible rfl | (first | with_reducible rfl | (simp [-Int32.not_le, -Int32.not_lt, hFin, st1_a, c_1, c_1', c_3, p_8, c_9]; done) | (((try simp only [st1_a, Nat.reduceBEq, cond_false, cond_true] at c_1 c_1' c_3 p_8 c_9) <;> simp [-Int32.not_le, -Int32.not_lt, hFin, st1_a, c_1, c_1', c_3, p_8, c_9]); done) | ((try simp only [hFin]); (repeat' split) <;> simp_all [-Int32.not_le, -Int32.not_lt, st1_a, lItem, lAbove, lGap]; done))
          exact sw_vret (pc := 50) hc hlk hrt ⟨rfl, (congrArg (fun zz => sg_ov C [(h, .inr (2, hfs zz))]) h_10)⟩ (Nat.le_of_ble_eq_true rfl) (Nat.le_of_ble_eq_true rfl) dX1_finish_50
        ·
          refine sw_aload_n (pc := 45) hc dX1_finish_45 rfl 0 rfl ?_
          refine sw_iconst (pc := 46) (v := 1) hc dX1_finish_46 (by decide) ?_
          refine sw_putO (pc := 47) (k := 11) (fs' := hfs (st1 hs 11 1)) (L := [(h, .inr (2, hfs hs))]) (l' := [(h, .inr (2, hfs (st1 hs 11 1)))]) hc fl_RX1_52 ty_2 fp_2_11 hN (q0 := 0) rfl rfl rfl (Nat.le_of_ble_eq_true rfl) rfl rfl dX1_finish_47 ?_
          have h_11 : st1 hs 11 1 = hFin it hs := by first | with_reducible rfl | (first | with_reducible rfl | (simp [-Int32.not_le, -Int32.not_lt, hFin, st1_a, c_1, c_1', c_3, p_8, c_9]; done) | (((try simp only [st1_a, Nat.reduceBEq, cond_false, cond_true] at c_1 c_1' c_3 p_8 c_9) <;> simp [-Int32.not_le, -Int32.not_lt, hFin, st1_a, c_1, c_1', c_3, p_8, c_9]); done) | ((try simp only [hFin]); (repeat' split) <;> simp_all [-Int32.not_le, -Int32.not_lt, st1_a, lItem, lAbove, lGap]; done))
          exact sw_vret (pc := 50) hc hlk hrt ⟨rfl, (congrArg (fun zz => sg_ov C [(h, .inr (2, hfs zz))]) h_11)⟩ (Nat.le_of_ble_eq_true rfl) (Nat.le_of_ble_eq_true rfl) dX1_finish_50
      ·
        have p_12 : lItem it (hs 0 / 16) 2 := bI_n c_7
        refine sw_aload_n (pc := 28) hc dX1_finish_28 rfl 0 rfl ?_
        refine sw_iconst (pc := 29) (v := 2) hc dX1_finish_29 (by decide) ?_
        refine sw_putO (pc := 30) (k := 11) (fs' := hfs (st1 hs 11 2)) (L := [(h, .inr (2, hfs hs))]) (l' := [(h, .inr (2, hfs (st1 hs 11 2)))]) hc fl_RX1_52 ty_2 fp_2_11 hN (q0 := 0) rfl rfl rfl (Nat.le_of_ble_eq_true rfl) rfl rfl dX1_finish_30 ?_
        refine sw_goto (pc := 33) (tgt := 50) hc dX1_finish_33 (by decide) ?_
        have h_13 : st1 hs 11 2 = hFin it hs := by first | with_reducible rfl | (first | with_reducible rfl | (simp [-Int32.not_le, -Int32.not_lt, hFin, st1_a, c_1, c_1', c_3, p_12]; done) | (((try simp only [st1_a, Nat.reduceBEq, cond_false, cond_true] at c_1 c_1' c_3 p_12) <;> simp [-Int32.not_le, -Int32.not_lt, hFin, st1_a, c_1, c_1', c_3, p_12]); done) | ((try simp only [hFin]); (repeat' split) <;> simp_all [-Int32.not_le, -Int32.not_lt, st1_a, lItem, lAbove, lGap]; done))
        exact sw_vret (pc := 50) hc hlk hrt ⟨rfl, (congrArg (fun zz => sg_ov C [(h, .inr (2, hfs zz))]) h_13)⟩ (Nat.le_of_ble_eq_true rfl) (Nat.le_of_ble_eq_true rfl) dX1_finish_50
