
theorem fl_RX5_22 : sg_FL RX5 22 2 9 := ⟨RX1, TX1, 12, "SplitGate$Hero", rfl, by decide, ti_2, .inl rfl, .inr ⟨"SplitGate", sg_memN (i := 102) (by decide +kernel) rfl⟩⟩
theorem fl_RX5_27 : sg_FL RX5 27 2 7 := ⟨RX1, TX1, 12, "SplitGate$Hero", rfl, by decide, ti_2, .inl rfl, .inr ⟨"SplitGate", sg_memN (i := 98) (by decide +kernel) rfl⟩⟩
theorem fl_RX5_30 : sg_FL RX5 30 2 8 := ⟨RX1, TX1, 12, "SplitGate$Hero", rfl, by decide, ti_2, .inl rfl, .inr ⟨"SplitGate", sg_memN (i := 100) (by decide +kernel) rfl⟩⟩
theorem fl_RX4_33 : sg_FL RX4 33 5 4 := ⟨RX4, TX4, 7, "SplitGate$Replay", rfl, by decide, ti_5, .inl rfl, .inl (sg_mem (i := 381) (by decide +kernel) rfl)⟩
theorem fl_RX4_37 : sg_FL RX4 37 5 5 := ⟨RX4, TX4, 7, "SplitGate$Replay", rfl, by decide, ti_5, .inl rfl, .inl (sg_mem (i := 382) (by decide +kernel) rfl)⟩
set_option maxHeartbeats 4000000 in
set_option maxRecDepth 100000 in
theorem c_X5_refuses (l : Launch) (g : sg_G) (C : Nat → Option va_E) (a : Nat) (h : Nat) (x0 : Int32) (x1 : Int32) (x2 : Int32) (x3 : Int32) (hs : Nat → Int32) (hC_a : C a = some (.inr (6, [.int x0, .int x1, .int x2, .int x3]))) (hC_h : C h = some (.inr (2, hfs hs))) : sg_Met l yX5_refuses cX5_refuses 2 (some .boolean) 0 0 0 0 g [.ref a, .ref h] C (fun v C' => v = some (.int (bI (¬ hs 9 &&& x1 = 0 ∨ hs 7 < x2 ∨ x3 < hs 8))) ∧ C' = C) sg_no := by
  refine sg_ofW (by decide) rfl ?_ (Nat.le_of_ble_eq_true rfl)
  intro p e s m below meth c hc hlk hrt hin2 ht
  have hc : sg_Cx p s m _ c cX5_refuses 2 RX5 g := hc
  show sg_W p l e _ s m _ below meth c 2 g 0 0 _ C 0 [(0, .ref a), (1, .ref h)] []
  refine sw_aload_n (pc := 0) hc dX5_refuses_0 rfl 1 rfl ?_
  refine sw_get (pc := 1) (v := .int (hs 9)) hc fl_RX5_22 hC_h rfl dX5_refuses_1 ?_
  refine sw_aload_n (pc := 4) hc dX5_refuses_4 rfl 0 rfl ?_
  refine sw_get (pc := 5) (v := .int x1) hc fl_RX5_13 hC_a rfl dX5_refuses_5 ?_
  refine sw_iand (pc := 8) hc dX5_refuses_8 ?_
  refine sw_if_ne (pc := 9) (tgt := 34) hc dX5_refuses_9 (by decide) (fun c_1 => ?_) (fun c_1 => ?_)
  ·
    refine sw_iconst (pc := 34) (v := 1) hc dX5_refuses_34 (by decide) ?_
    refine sw_goto (pc := 35) (tgt := 39) hc dX5_refuses_35 (by decide) ?_
    have h_2 : 1 = bI (¬ hs 9 &&& x1 = 0 ∨ hs 7 < x2 ∨ x3 < hs 8) := by first | with_reducible rfl | (first | with_reducible rfl | (simp [-Int32.not_le, -Int32.not_lt, bI, st1_a, c_1]; done) | (((try simp only [st1_a, Nat.reduceBEq, cond_false, cond_true] at c_1) <;> simp [-Int32.not_le, -Int32.not_lt, bI, st1_a, c_1]); done) | ((try simp only [bI]); (repeat' split) <;> simp_all [-Int32.not_le, -Int32.not_lt, st1_a, lItem, lAbove, lGap]; done))
    exact sw_iret (pc := 39) hc hlk hrt rfl ⟨(congrArg (fun z => some (Value.int z)) h_2), rfl⟩ (Nat.le_of_ble_eq_true rfl) (Nat.le_of_ble_eq_true rfl) dX5_refuses_39
  ·
    refine sw_aload_n (pc := 12) hc dX5_refuses_12 rfl 1 rfl ?_
    refine sw_get (pc := 13) (v := .int (hs 7)) hc fl_RX5_27 hC_h rfl dX5_refuses_13 ?_
    refine sw_aload_n (pc := 16) hc dX5_refuses_16 rfl 0 rfl ?_
    refine sw_get (pc := 17) (v := .int x2) hc fl_RX5_16 hC_a rfl dX5_refuses_17 ?_
    refine sw_icmp_lt (pc := 20) (tgt := 34) hc dX5_refuses_20 (by decide) (fun c_3 => ?_) (fun c_3 => ?_)
    ·
      have c_3' := Int32.not_le.mpr c_3
      refine sw_iconst (pc := 34) (v := 1) hc dX5_refuses_34 (by decide) ?_
      refine sw_goto (pc := 35) (tgt := 39) hc dX5_refuses_35 (by decide) ?_
      have h_4 : 1 = bI (¬ hs 9 &&& x1 = 0 ∨ hs 7 < x2 ∨ x3 < hs 8) := by first | with_reducible rfl | (first | with_reducible rfl | (simp [-Int32.not_le, -Int32.not_lt, bI, st1_a, c_1, c_3, c_3']; done) | (((try simp only [st1_a, Nat.reduceBEq, cond_false, cond_true] at c_1 c_3 c_3') <;> simp [-Int32.not_le, -Int32.not_lt, bI, st1_a, c_1, c_3, c_3']); done) | ((try simp only [bI]); (repeat' split) <;> simp_all [-Int32.not_le, -Int32.not_lt, st1_a, lItem, lAbove, lGap]; done))
      exact sw_iret (pc := 39) hc hlk hrt rfl ⟨(congrArg (fun z => some (Value.int z)) h_4), rfl⟩ (Nat.le_of_ble_eq_true rfl) (Nat.le_of_ble_eq_true rfl) dX5_refuses_39
    ·
      have c_3' := Int32.not_lt.mp c_3
      refine sw_aload_n (pc := 23) hc dX5_refuses_23 rfl 1 rfl ?_
      refine sw_get (pc := 24) (v := .int (hs 8)) hc fl_RX5_30 hC_h rfl dX5_refuses_24 ?_
      refine sw_aload_n (pc := 27) hc dX5_refuses_27 rfl 0 rfl ?_
      refine sw_get (pc := 28) (v := .int x3) hc fl_RX5_19 hC_a rfl dX5_refuses_28 ?_
      refine sw_icmp_le (pc := 31) (tgt := 38) hc dX5_refuses_31 (by decide) (fun c_5 => ?_) (fun c_5 => ?_)
      ·
        have c_5' := Int32.not_lt.mpr c_5
        refine sw_iconst (pc := 38) (v := 0) hc dX5_refuses_38 (by decide) ?_
        have h_6 : 0 = bI (¬ hs 9 &&& x1 = 0 ∨ hs 7 < x2 ∨ x3 < hs 8) := by first | with_reducible rfl | (first | with_reducible rfl | (simp [-Int32.not_le, -Int32.not_lt, bI, st1_a, c_1, c_3, c_3', c_5, c_5']; done) | (((try simp only [st1_a, Nat.reduceBEq, cond_false, cond_true] at c_1 c_3 c_3' c_5 c_5') <;> simp [-Int32.not_le, -Int32.not_lt, bI, st1_a, c_1, c_3, c_3', c_5, c_5']); done) | ((try simp only [bI]); (repeat' split) <;> simp_all [-Int32.not_le, -Int32.not_lt, st1_a, lItem, lAbove, lGap]; done))
        exact sw_iret (pc := 39) hc hlk hrt rfl ⟨(congrArg (fun z => some (Value.int z)) h_6), rfl⟩ (Nat.le_of_ble_eq_true rfl) (Nat.le_of_ble_eq_true rfl) dX5_refuses_39
      ·
        have c_5' := Int32.not_le.mp c_5
        refine sw_iconst (pc := 34) (v := 1) hc dX5_refuses_34 (by decide) ?_
        refine sw_goto (pc := 35) (tgt := 39) hc dX5_refuses_35 (by decide) ?_
        have h_7 : 1 = bI (¬ hs 9 &&& x1 = 0 ∨ hs 7 < x2 ∨ x3 < hs 8) := by first | with_reducible rfl | (first | with_reducible rfl | (simp [-Int32.not_le, -Int32.not_lt, bI, st1_a, c_1, c_3, c_3', c_5, c_5']; done) | (((try simp only [st1_a, Nat.reduceBEq, cond_false, cond_true] at c_1 c_3 c_3' c_5 c_5') <;> simp [-Int32.not_le, -Int32.not_lt, bI, st1_a, c_1, c_3, c_3', c_5, c_5']); done) | ((try simp only [bI]); (repeat' split) <;> simp_all [-Int32.not_le, -Int32.not_lt, st1_a, lItem, lAbove, lGap]; done))
        exact sw_iret (pc := 39) hc hlk hrt rfl ⟨(congrArg (fun z => some (Value.int z)) h_7), rfl⟩ (Nat.le_of_ble_eq_true rfl) (Nat.le_of_ble_eq_true rfl) dX5_refuses_39

set_option maxHeartbeats 4000000 in
set_option maxRecDepth 100000 in
theorem c_X6_isFor (l : Launch) (g : sg_G) (C : Nat → Option va_E) (a : Nat) (k : Nat) (x : Int32) (y0 : Int32) (y1 : Int32) (r2y : Nat) (r3y : Nat) (y4 : Int32) (y5 : Int32) (y6 : Int32) (hC_a : C a = some (.inr (7, [.int y0, .int y1, .ref r2y, .ref r3y, .int y4, .int y5, .int y6]))) : sg_Met l yX6_isFor cX6_isFor 3 (some .boolean) 0 0 0 0 g [.ref a, .ref k, .int x] C (fun v C' => v = some (.int (bI (r3y = k ∧ y1 = x))) ∧ C' = C) sg_no := by
  refine sg_ofW (by decide) rfl ?_ (Nat.le_of_ble_eq_true rfl)
  intro p e s m below meth c hc hlk hrt hin2 ht
  have hc : sg_Cx p s m _ c cX6_isFor 3 RX6 g := hc
  show sg_W p l e _ s m _ below meth c 3 g 0 0 _ C 0 [(0, .ref a), (1, .ref k), (2, .int x)] []
  refine sw_aload_n (pc := 0) hc dX6_isFor_0 rfl 0 rfl ?_
  refine sw_get (pc := 1) (v := .ref r3y) hc fl_RX6_20 hC_a rfl dX6_isFor_1 ?_
  refine sw_aload_n (pc := 4) hc dX6_isFor_4 rfl 1 rfl ?_
  refine sw_acmp_ne (pc := 5) (rx := (some r3y)) (ry := (some k)) (tgt := 20) hc dX6_isFor_5 (by decide) (fun c_1 => ?_) (fun c_1 => ?_)
  ·
    refine sw_iconst (pc := 20) (v := 0) hc dX6_isFor_20 (by decide) ?_
    have h_2 : 0 = bI (r3y = k ∧ y1 = x) := by first | with_reducible rfl | (first | with_reducible rfl | (simp [-Int32.not_le, -Int32.not_lt, bI, st1_a, c_1]; done) | (((try simp only [st1_a, Nat.reduceBEq, cond_false, cond_true] at c_1) <;> simp [-Int32.not_le, -Int32.not_lt, bI, st1_a, c_1]); done) | ((try simp only [bI]); (repeat' split) <;> simp_all [-Int32.not_le, -Int32.not_lt, st1_a, lItem, lAbove, lGap]; done))
    exact sw_iret (pc := 21) hc hlk hrt rfl ⟨(congrArg (fun z => some (Value.int z)) h_2), rfl⟩ (Nat.le_of_ble_eq_true rfl) (Nat.le_of_ble_eq_true rfl) dX6_isFor_21
  ·
    refine sw_aload_n (pc := 8) hc dX6_isFor_8 rfl 0 rfl ?_
    refine sw_get (pc := 9) (v := .int y1) hc fl_RX6_13 hC_a rfl dX6_isFor_9 ?_
    refine sw_iload_n (pc := 12) hc dX6_isFor_12 rfl 2 rfl ?_
    refine sw_icmp_ne (pc := 13) (tgt := 20) hc dX6_isFor_13 (by decide) (fun c_3 => ?_) (fun c_3 => ?_)
    ·
      refine sw_iconst (pc := 20) (v := 0) hc dX6_isFor_20 (by decide) ?_
      have h_4 : 0 = bI (r3y = k ∧ y1 = x) := by first | with_reducible rfl | (first | with_reducible rfl | (simp [-Int32.not_le, -Int32.not_lt, bI, st1_a, c_1, c_3]; done) | (((try simp only [st1_a, Nat.reduceBEq, cond_false, cond_true] at c_1 c_3) <;> simp [-Int32.not_le, -Int32.not_lt, bI, st1_a, c_1, c_3]); done) | ((try simp only [bI]); (repeat' split) <;> simp_all [-Int32.not_le, -Int32.not_lt, st1_a, lItem, lAbove, lGap]; done))
      exact sw_iret (pc := 21) hc hlk hrt rfl ⟨(congrArg (fun z => some (Value.int z)) h_4), rfl⟩ (Nat.le_of_ble_eq_true rfl) (Nat.le_of_ble_eq_true rfl) dX6_isFor_21
    ·
      refine sw_iconst (pc := 16) (v := 1) hc dX6_isFor_16 (by decide) ?_
      refine sw_goto (pc := 17) (tgt := 21) hc dX6_isFor_17 (by decide) ?_
      have h_5 : 1 = bI (r3y = k ∧ y1 = x) := by first | with_reducible rfl | (first | with_reducible rfl | (simp [-Int32.not_le, -Int32.not_lt, bI, st1_a, c_1, c_3]; done) | (((try simp only [st1_a, Nat.reduceBEq, cond_false, cond_true] at c_1 c_3) <;> simp [-Int32.not_le, -Int32.not_lt, bI, st1_a, c_1, c_3]); done) | ((try simp only [bI]); (repeat' split) <;> simp_all [-Int32.not_le, -Int32.not_lt, st1_a, lItem, lAbove, lGap]; done))
      exact sw_iret (pc := 21) hc hlk hrt rfl ⟨(congrArg (fun z => some (Value.int z)) h_5), rfl⟩ (Nat.le_of_ble_eq_true rfl) (Nat.le_of_ble_eq_true rfl) dX6_isFor_21

set_option maxHeartbeats 4000000 in
set_option maxRecDepth 100000 in
theorem c_X6_isAheadOf (l : Launch) (g : sg_G) (C : Nat → Option va_E) (a : Nat) (b : Nat) (y0 : Int32) (y1 : Int32) (r2y : Nat) (r3y : Nat) (y4 : Int32) (y5 : Int32) (y6 : Int32) (z0 : Int32) (z1 : Int32) (r2z : Nat) (r3z : Nat) (z4 : Int32) (z5 : Int32) (z6 : Int32) (hC_a : C a = some (.inr (7, [.int y0, .int y1, .ref r2y, .ref r3y, .int y4, .int y5, .int y6]))) (hC_b : C b = some (.inr (7, [.int z0, .int z1, .ref r2z, .ref r3z, .int z4, .int z5, .int z6]))) : sg_Met l yX6_isAheadOf cX6_isAheadOf 2 (some .boolean) 0 0 0 0 g [.ref a, .ref b] C (fun v C' => v = some (.int (bI (y5 < z5 ∨ (y5 = z5 ∧ y0 < z0)))) ∧ C' = C) sg_no := by
  refine sg_ofW (by decide) rfl ?_ (Nat.le_of_ble_eq_true rfl)
  intro p e s m below meth c hc hlk hrt hin2 ht
  have hc : sg_Cx p s m _ c cX6_isAheadOf 2 RX6 g := hc
  show sg_W p l e _ s m _ below meth c 2 g 0 0 _ C 0 [(0, .ref a), (1, .ref b)] []
  refine sw_aload_n (pc := 0) hc dX6_isAheadOf_0 rfl 0 rfl ?_
  refine sw_get (pc := 1) (v := .int y5) hc fl_RX6_38 hC_a rfl dX6_isAheadOf_1 ?_
  refine sw_aload_n (pc := 4) hc dX6_isAheadOf_4 rfl 1 rfl ?_
  refine sw_get (pc := 5) (v := .int z5) hc fl_RX6_38 hC_b rfl dX6_isAheadOf_5 ?_
  refine sw_icmp_lt (pc := 8) (tgt := 33) hc dX6_isAheadOf_8 (by decide) (fun c_1 => ?_) (fun c_1 => ?_)
  ·
    have c_1' := Int32.not_le.mpr c_1
    refine sw_iconst (pc := 33) (v := 1) hc dX6_isAheadOf_33 (by decide) ?_
    refine sw_goto (pc := 34) (tgt := 38) hc dX6_isAheadOf_34 (by decide) ?_
    have h_2 : 1 = bI (y5 < z5 ∨ (y5 = z5 ∧ y0 < z0)) := by first | with_reducible rfl | (first | with_reducible rfl | (simp [-Int32.not_le, -Int32.not_lt, bI, st1_a, c_1, c_1']; done) | (((try simp only [st1_a, Nat.reduceBEq, cond_false, cond_true] at c_1 c_1') <;> simp [-Int32.not_le, -Int32.not_lt, bI, st1_a, c_1, c_1']); done) | ((try simp only [bI]); (repeat' split) <;> simp_all [-Int32.not_le, -Int32.not_lt, st1_a, lItem, lAbove, lGap]; done))
    exact sw_iret (pc := 38) hc hlk hrt rfl ⟨(congrArg (fun z => some (Value.int z)) h_2), rfl⟩ (Nat.le_of_ble_eq_true rfl) (Nat.le_of_ble_eq_true rfl) dX6_isAheadOf_38
  ·
    have c_1' := Int32.not_lt.mp c_1
    refine sw_aload_n (pc := 11) hc dX6_isAheadOf_11 rfl 0 rfl ?_
    refine sw_get (pc := 12) (v := .int y5) hc fl_RX6_38 hC_a rfl dX6_isAheadOf_12 ?_
    refine sw_aload_n (pc := 15) hc dX6_isAheadOf_15 rfl 1 rfl ?_
    refine sw_get (pc := 16) (v := .int z5) hc fl_RX6_38 hC_b rfl dX6_isAheadOf_16 ?_
    refine sw_icmp_ne (pc := 19) (tgt := 37) hc dX6_isAheadOf_19 (by decide) (fun c_3 => ?_) (fun c_3 => ?_)
    ·
      refine sw_iconst (pc := 37) (v := 0) hc dX6_isAheadOf_37 (by decide) ?_
      have h_4 : 0 = bI (y5 < z5 ∨ (y5 = z5 ∧ y0 < z0)) := by first | with_reducible rfl | (first | with_reducible rfl | (simp [-Int32.not_le, -Int32.not_lt, bI, st1_a, c_1, c_1', c_3]; done) | (((try simp only [st1_a, Nat.reduceBEq, cond_false, cond_true] at c_1 c_1' c_3) <;> simp [-Int32.not_le, -Int32.not_lt, bI, st1_a, c_1, c_1', c_3]); done) | ((try simp only [bI]); (repeat' split) <;> simp_all [-Int32.not_le, -Int32.not_lt, st1_a, lItem, lAbove, lGap]; done))
      exact sw_iret (pc := 38) hc hlk hrt rfl ⟨(congrArg (fun z => some (Value.int z)) h_4), rfl⟩ (Nat.le_of_ble_eq_true rfl) (Nat.le_of_ble_eq_true rfl) dX6_isAheadOf_38
    ·
      refine sw_aload_n (pc := 22) hc dX6_isAheadOf_22 rfl 0 rfl ?_
      refine sw_get (pc := 23) (v := .int y0) hc fl_RX6_7 hC_a rfl dX6_isAheadOf_23 ?_
      refine sw_aload_n (pc := 26) hc dX6_isAheadOf_26 rfl 1 rfl ?_
      refine sw_get (pc := 27) (v := .int z0) hc fl_RX6_7 hC_b rfl dX6_isAheadOf_27 ?_
      refine sw_icmp_ge (pc := 30) (tgt := 37) hc dX6_isAheadOf_30 (by decide) (fun c_5 => ?_) (fun c_5 => ?_)
      ·
        have c_5' := Int32.not_lt.mpr c_5
        refine sw_iconst (pc := 37) (v := 0) hc dX6_isAheadOf_37 (by decide) ?_
        have h_6 : 0 = bI (y5 < z5 ∨ (y5 = z5 ∧ y0 < z0)) := by first | with_reducible rfl | (first | with_reducible rfl | (simp [-Int32.not_le, -Int32.not_lt, bI, st1_a, c_1, c_1', c_3, c_5, c_5']; done) | (((try simp only [st1_a, Nat.reduceBEq, cond_false, cond_true] at c_1 c_1' c_3 c_5 c_5') <;> simp [-Int32.not_le, -Int32.not_lt, bI, st1_a, c_1, c_1', c_3, c_5, c_5']); done) | ((try simp only [bI]); (repeat' split) <;> simp_all [-Int32.not_le, -Int32.not_lt, st1_a, lItem, lAbove, lGap]; done))
        exact sw_iret (pc := 38) hc hlk hrt rfl ⟨(congrArg (fun z => some (Value.int z)) h_6), rfl⟩ (Nat.le_of_ble_eq_true rfl) (Nat.le_of_ble_eq_true rfl) dX6_isAheadOf_38
      ·
        have c_5' := Int32.not_le.mp c_5
        refine sw_iconst (pc := 33) (v := 1) hc dX6_isAheadOf_33 (by decide) ?_
        refine sw_goto (pc := 34) (tgt := 38) hc dX6_isAheadOf_34 (by decide) ?_
        have h_7 : 1 = bI (y5 < z5 ∨ (y5 = z5 ∧ y0 < z0)) := by first | with_reducible rfl | (first | with_reducible rfl | (simp [-Int32.not_le, -Int32.not_lt, bI, st1_a, c_1, c_1', c_3, c_5, c_5']; done) | (((try simp only [st1_a, Nat.reduceBEq, cond_false, cond_true] at c_1 c_1' c_3 c_5 c_5') <;> simp [-Int32.not_le, -Int32.not_lt, bI, st1_a, c_1, c_1', c_3, c_5, c_5']); done) | ((try simp only [bI]); (repeat' split) <;> simp_all [-Int32.not_le, -Int32.not_lt, st1_a, lItem, lAbove, lGap]; done))
        exact sw_iret (pc := 38) hc hlk hrt rfl ⟨(congrArg (fun z => some (Value.int z)) h_7), rfl⟩ (Nat.le_of_ble_eq_true rfl) (Nat.le_of_ble_eq_true rfl) dX6_isAheadOf_38

set_option maxHeartbeats 4000000 in
set_option maxRecDepth 100000 in
theorem c_X4_hasRoomFor (l : Launch) (g : sg_G) (C : Nat → Option va_E) (a : Nat) (x : Int32) (r0 : Nat) (r1 : Nat) (r2 : Nat) (h : Nat) (y4 : Int32) (y5 : Int32) (y6 : Int32) (hC_a : C a = some (.inr (5, [.ref r0, .ref r1, .ref r2, .ref h, .int y4, .int y5, .int y6]))) : sg_Met l yX4_hasRoomFor cX4_hasRoomFor 2 (some .boolean) 0 0 0 0 g [.ref a, .int x] C (fun v C' => v = some (.int (bI (y4 < 20 ∧ y5 + x ≤ 500))) ∧ C' = C) sg_no := by
  refine sg_ofW (by decide) rfl ?_ (Nat.le_of_ble_eq_true rfl)
  intro p e s m below meth c hc hlk hrt hin2 ht
  have hc : sg_Cx p s m _ c cX4_hasRoomFor 2 RX4 g := hc
  show sg_W p l e _ s m _ below meth c 2 g 0 0 _ C 0 [(0, .ref a), (1, .int x)] []
  refine sw_aload_n (pc := 0) hc dX4_hasRoomFor_0 rfl 0 rfl ?_
  refine sw_get (pc := 1) (v := .int y4) hc fl_RX4_33 hC_a rfl dX4_hasRoomFor_1 ?_
  refine sw_bipush (pc := 4) (v := 20) hc dX4_hasRoomFor_4 (by decide) ?_
  refine sw_icmp_ge (pc := 6) (tgt := 25) hc dX4_hasRoomFor_6 (by decide) (fun c_1 => ?_) (fun c_1 => ?_)
  ·
    have c_1' := Int32.not_lt.mpr c_1
    refine sw_iconst (pc := 25) (v := 0) hc dX4_hasRoomFor_25 (by decide) ?_
    have h_2 : 0 = bI (y4 < 20 ∧ y5 + x ≤ 500) := by first | with_reducible rfl | (first | with_reducible rfl | (simp [-Int32.not_le, -Int32.not_lt, bI, st1_a, c_1, c_1']; done) | (((try simp only [st1_a, Nat.reduceBEq, cond_false, cond_true] at c_1 c_1') <;> simp [-Int32.not_le, -Int32.not_lt, bI, st1_a, c_1, c_1']); done) | ((try simp only [bI]); (repeat' split) <;> simp_all [-Int32.not_le, -Int32.not_lt, st1_a, lItem, lAbove, lGap]; done))
    exact sw_iret (pc := 26) hc hlk hrt rfl ⟨(congrArg (fun z => some (Value.int z)) h_2), rfl⟩ (Nat.le_of_ble_eq_true rfl) (Nat.le_of_ble_eq_true rfl) dX4_hasRoomFor_26
  ·
    have c_1' := Int32.not_le.mp c_1
    refine sw_aload_n (pc := 9) hc dX4_hasRoomFor_9 rfl 0 rfl ?_
    refine sw_get (pc := 10) (v := .int y5) hc fl_RX4_37 hC_a rfl dX4_hasRoomFor_10 ?_
    refine sw_iload_n (pc := 13) hc dX4_hasRoomFor_13 rfl 1 rfl ?_
    refine sw_iadd (pc := 14) hc dX4_hasRoomFor_14 ?_
    refine sw_sipush (pc := 15) (v := 500) hc dX4_hasRoomFor_15 (by decide) ?_
    refine sw_icmp_gt (pc := 18) (tgt := 25) hc dX4_hasRoomFor_18 (by decide) (fun c_3 => ?_) (fun c_3 => ?_)
    ·
      have c_3' := Int32.not_le.mpr c_3
      refine sw_iconst (pc := 25) (v := 0) hc dX4_hasRoomFor_25 (by decide) ?_
      have h_4 : 0 = bI (y4 < 20 ∧ y5 + x ≤ 500) := by first | with_reducible rfl | (first | with_reducible rfl | (simp [-Int32.not_le, -Int32.not_lt, bI, st1_a, c_1, c_1', c_3, c_3']; done) | (((try simp only [st1_a, Nat.reduceBEq, cond_false, cond_true] at c_1 c_1' c_3 c_3') <;> simp [-Int32.not_le, -Int32.not_lt, bI, st1_a, c_1, c_1', c_3, c_3']); done) | ((try simp only [bI]); (repeat' split) <;> simp_all [-Int32.not_le, -Int32.not_lt, st1_a, lItem, lAbove, lGap]; done))
      exact sw_iret (pc := 26) hc hlk hrt rfl ⟨(congrArg (fun z => some (Value.int z)) h_4), rfl⟩ (Nat.le_of_ble_eq_true rfl) (Nat.le_of_ble_eq_true rfl) dX4_hasRoomFor_26
    ·
      have c_3' := Int32.not_lt.mp c_3
      refine sw_iconst (pc := 21) (v := 1) hc dX4_hasRoomFor_21 (by decide) ?_
      refine sw_goto (pc := 22) (tgt := 26) hc dX4_hasRoomFor_22 (by decide) ?_
      have h_5 : 1 = bI (y4 < 20 ∧ y5 + x ≤ 500) := by first | with_reducible rfl | (first | with_reducible rfl | (simp [-Int32.not_le, -Int32.not_lt, bI, st1_a, c_1, c_1', c_3, c_3']; done) | (((try simp only [st1_a, Nat.reduceBEq, cond_false, cond_true] at c_1 c_1' c_3 c_3') <;> simp [-Int32.not_le, -Int32.not_lt, bI, st1_a, c_1, c_1', c_3, c_3']); done) | ((try simp only [bI]); (repeat' split) <;> simp_all [-Int32.not_le, -Int32.not_lt, st1_a, lItem, lAbove, lGap]; done))
      exact sw_iret (pc := 26) hc hlk hrt rfl ⟨(congrArg (fun z => some (Value.int z)) h_5), rfl⟩ (Nat.le_of_ble_eq_true rfl) (Nat.le_of_ble_eq_true rfl) dX4_hasRoomFor_26

set_option maxHeartbeats 4000000 in
set_option maxRecDepth 100000 in
theorem c_X7_isWithin (l : Launch) (g : sg_G) (C : Nat → Option va_E) (x : Int32) (y : Int32) (z : Int32) : sg_Met l yX7_isWithin cX7_isWithin 3 (some .boolean) 0 0 0 0 g [.int x, .int y, .int z] C (fun v C' => v = some (.int (bI (y ≤ x ∧ x ≤ z))) ∧ C' = C) sg_no := by
  refine sg_ofW (by decide) rfl ?_ (Nat.le_of_ble_eq_true rfl)
  intro p e s m below meth c hc hlk hrt hin2 ht
  have hc : sg_Cx p s m _ c cX7_isWithin 3 RX7 g := hc
  show sg_W p l e _ s m _ below meth c 3 g 0 0 _ C 0 [(0, .int x), (1, .int y), (2, .int z)] []
  refine sw_iload_n (pc := 0) hc dX7_isWithin_0 rfl 0 rfl ?_
  refine sw_iload_n (pc := 1) hc dX7_isWithin_1 rfl 1 rfl ?_
  refine sw_icmp_lt (pc := 2) (tgt := 14) hc dX7_isWithin_2 (by decide) (fun c_1 => ?_) (fun c_1 => ?_)
  ·
    have c_1' := Int32.not_le.mpr c_1
    refine sw_iconst (pc := 14) (v := 0) hc dX7_isWithin_14 (by decide) ?_
    have h_2 : 0 = bI (y ≤ x ∧ x ≤ z) := by first | with_reducible rfl | (first | with_reducible rfl | (simp [-Int32.not_le, -Int32.not_lt, bI, st1_a, c_1, c_1']; done) | (((try simp only [st1_a, Nat.reduceBEq, cond_false, cond_true] at c_1 c_1') <;> simp [-Int32.not_le, -Int32.not_lt, bI, st1_a, c_1, c_1']); done) | ((try simp only [bI]); (repeat' split) <;> simp_all [-Int32.not_le, -Int32.not_lt, st1_a, lItem, lAbove, lGap]; done))
    exact sw_iret (pc := 15) hc hlk hrt rfl ⟨(congrArg (fun z => some (Value.int z)) h_2), rfl⟩ (Nat.le_of_ble_eq_true rfl) (Nat.le_of_ble_eq_true rfl) dX7_isWithin_15
  ·
    have c_1' := Int32.not_lt.mp c_1
    refine sw_iload_n (pc := 5) hc dX7_isWithin_5 rfl 0 rfl ?_
    refine sw_iload_n (pc := 6) hc dX7_isWithin_6 rfl 2 rfl ?_
    refine sw_icmp_gt (pc := 7) (tgt := 14) hc dX7_isWithin_7 (by decide) (fun c_3 => ?_) (fun c_3 => ?_)
    ·
      have c_3' := Int32.not_le.mpr c_3
      refine sw_iconst (pc := 14) (v := 0) hc dX7_isWithin_14 (by decide) ?_
      have h_4 : 0 = bI (y ≤ x ∧ x ≤ z) := by first | with_reducible rfl | (first | with_reducible rfl | (simp [-Int32.not_le, -Int32.not_lt, bI, st1_a, c_1, c_1', c_3, c_3']; done) | (((try simp only [st1_a, Nat.reduceBEq, cond_false, cond_true] at c_1 c_1' c_3 c_3') <;> simp [-Int32.not_le, -Int32.not_lt, bI, st1_a, c_1, c_1', c_3, c_3']); done) | ((try simp only [bI]); (repeat' split) <;> simp_all [-Int32.not_le, -Int32.not_lt, st1_a, lItem, lAbove, lGap]; done))
      exact sw_iret (pc := 15) hc hlk hrt rfl ⟨(congrArg (fun z => some (Value.int z)) h_4), rfl⟩ (Nat.le_of_ble_eq_true rfl) (Nat.le_of_ble_eq_true rfl) dX7_isWithin_15
    ·
      have c_3' := Int32.not_lt.mp c_3
      refine sw_iconst (pc := 10) (v := 1) hc dX7_isWithin_10 (by decide) ?_
      refine sw_goto (pc := 11) (tgt := 15) hc dX7_isWithin_11 (by decide) ?_
      have h_5 : 1 = bI (y ≤ x ∧ x ≤ z) := by first | with_reducible rfl | (first | with_reducible rfl | (simp [-Int32.not_le, -Int32.not_lt, bI, st1_a, c_1, c_1', c_3, c_3']; done) | (((try simp only [st1_a, Nat.reduceBEq, cond_false, cond_true] at c_1 c_1' c_3 c_3') <;> simp [-Int32.not_le, -Int32.not_lt, bI, st1_a, c_1, c_1', c_3, c_3']); done) | ((try simp only [bI]); (repeat' split) <;> simp_all [-Int32.not_le, -Int32.not_lt, st1_a, lItem, lAbove, lGap]; done))
      exact sw_iret (pc := 15) hc hlk hrt rfl ⟨(congrArg (fun z => some (Value.int z)) h_5), rfl⟩ (Nat.le_of_ble_eq_true rfl) (Nat.le_of_ble_eq_true rfl) dX7_isWithin_15
