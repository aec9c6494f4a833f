
/-! what the class's small methods answer -/
def hfs (h : Nat → Int32) : List Value := [.int (h 0), .int (h 1), .int (h 2), .int (h 3), .int (h 4), .int (h 5), .int (h 6), .int (h 7), .int (h 8), .int (h 9), .int (h 10), .int (h 11)]
theorem sg_nn {c : Int32} (h0 : ¬ c < 0) (h1 : ¬ (32 : Int32) ≤ c) : c = nI c.toNatClampNeg ∧ c.toNatClampNeg < 32 := by
  obtain ⟨j, hj, rfl⟩ := nI_of h0
  rw [nI_clamp hj]
  refine ⟨rfl, ?_⟩
  rcases Nat.lt_or_ge j 32 with h | h
  · exact h
  · exact absurd (nI_le h hj) h1
abbrev lGap (gp : Nat → Int32) (c : Int32) : Prop := c < 0 ∨ 32 ≤ c ∨ ¬ gp c.toNatClampNeg = 0
def lBase (fl : Nat → Int32) (c : Int32) : Int32 := if c < 0 ∨ 32 ≤ c then 0 else fl c.toNatClampNeg
abbrev lAbove (gp fl : Nat → Int32) (c h : Int32) : Prop := ¬ c < 0 ∧ ¬ 32 ≤ c ∧ gp c.toNatClampNeg = 0 ∧ h < fl c.toNatClampNeg
abbrev lItem (it : Nat → Int32) (c x : Int32) : Prop := ¬ c < 0 ∧ ¬ 32 ≤ c ∧ it c.toNatClampNeg = x

theorem ti_3 : ∀ w ∈ u_ws RX2 TX2 3, w ∈ sg_T := List.forall_mem_cons.mpr ⟨sg_mem (i := 285) (by decide +kernel) rfl, List.forall_mem_cons.mpr ⟨sg_mem (i := 287) (by decide +kernel) rfl, List.forall_mem_cons.mpr ⟨sg_mem (i := 289) (by decide +kernel) rfl, fun _ h => absurd h List.not_mem_nil⟩⟩⟩
theorem fl_RX2_9 : sg_FL RX2 9 3 0 := ⟨RX2, TX2, 3, "SplitGate$Level", rfl, by decide, ti_3, .inl rfl, .inl (sg_mem (i := 282) (by decide +kernel) rfl)⟩
theorem fl_RX2_15 : sg_FL RX2 15 3 1 := ⟨RX2, TX2, 3, "SplitGate$Level", rfl, by decide, ti_3, .inl rfl, .inl (sg_mem (i := 283) (by decide +kernel) rfl)⟩
theorem fl_RX2_19 : sg_FL RX2 19 3 2 := ⟨RX2, TX2, 3, "SplitGate$Level", rfl, by decide, ti_3, .inl rfl, .inl (sg_mem (i := 284) (by decide +kernel) rfl)⟩
theorem ti_2 : ∀ w ∈ u_ws RX1 TX1 12, w ∈ sg_T := List.forall_mem_cons.mpr ⟨sg_mem (i := 142) (by decide +kernel) rfl, List.forall_mem_cons.mpr ⟨sg_mem (i := 144) (by decide +kernel) rfl, List.forall_mem_cons.mpr ⟨sg_mem (i := 146) (by decide +kernel) rfl, List.forall_mem_cons.mpr ⟨sg_mem (i := 148) (by decide +kernel) rfl, List.forall_mem_cons.mpr ⟨sg_mem (i := 150) (by decide +kernel) rfl, List.forall_mem_cons.mpr ⟨sg_mem (i := 152) (by decide +kernel) rfl, List.forall_mem_cons.mpr ⟨sg_mem (i := 154) (by decide +kernel) rfl, List.forall_mem_cons.mpr ⟨sg_mem (i := 156) (by decide +kernel) rfl, List.forall_mem_cons.mpr ⟨sg_mem (i := 158) (by decide +kernel) rfl, List.forall_mem_cons.mpr ⟨sg_mem (i := 160) (by decide +kernel) rfl, List.forall_mem_cons.mpr ⟨sg_mem (i := 162) (by decide +kernel) rfl, List.forall_mem_cons.mpr ⟨sg_mem (i := 164) (by decide +kernel) rfl, fun _ h => absurd h List.not_mem_nil⟩⟩⟩⟩⟩⟩⟩⟩⟩⟩⟩⟩
theorem fl_RX1_52 : sg_FL RX1 52 2 11 := ⟨RX1, TX1, 12, "SplitGate$Hero", rfl, by decide, ti_2, .inl rfl, .inl (sg_mem (i := 140) (by decide +kernel) rfl)⟩
theorem fl_RX1_11 : sg_FL RX1 11 2 0 := ⟨RX1, TX1, 12, "SplitGate$Hero", rfl, by decide, ti_2, .inl rfl, .inl (sg_mem (i := 118) (by decide +kernel) rfl)⟩
set_option maxHeartbeats 4000000 in
set_option maxRecDepth 100000 in
theorem c_X2_isGap (l : Launch) (g : sg_G) (C : Nat → Option va_E) (lv : Nat) (x : Int32) (ag : Nat) (af : Nat) (ai : Nat) (gp : Nat → Int32) (hC_lv : C lv = some (.inr (3, [.ref ag, .ref af, .ref ai]))) (hC_ag : C ag = some (sg_za g 32 gp)) : sg_Met l yX2_isGap cX2_isGap 2 (some .boolean) 0 0 0 0 g [.ref lv, .int x] C (fun v C' => v = some (.int (bI (lGap gp x))) ∧ C' = C) sg_no := by
  refine sg_ofW (by decide) rfl ?_ (Nat.le_of_ble_eq_true rfl)
  intro p e s m below meth c hc hk hr hin2 ht
  have hc : sg_Cx p s m _ c cX2_isGap 2 RX2 g := hc
  show sg_W p l e _ s m _ below meth c 2 g 0 0 _ C 0 [(0, .ref lv), (1, .int x)] []
  refine sw_iload_n (pc := 0) hc dX2_isGap_0 rfl 1 rfl ?_
  refine sw_if_lt (pc := 1) (tgt := 19) hc dX2_isGap_1 (by decide) (fun c_1 => ?_) (fun c_1 => ?_)
  ·
    refine sw_iconst (pc := 19) (v := 1) hc dX2_isGap_19 (by decide) ?_
    refine sw_goto (pc := 20) (tgt := 24) hc dX2_isGap_20 (by decide) ?_
    have h_2 : 1 = bI (lGap gp x) := by simp [bI, c_1]
    exact sw_iret (pc := 24) hc hk hr rfl ⟨(congrArg (fun z => some (Value.int z)) h_2), rfl⟩ (Nat.le_of_ble_eq_true rfl) (Nat.le_of_ble_eq_true rfl) dX2_isGap_24
  ·
    refine sw_iload_n (pc := 4) hc dX2_isGap_4 rfl 1 rfl ?_
    refine sw_bipush (pc := 5) (v := 32) hc dX2_isGap_5 (by decide) ?_
    refine sw_icmp_ge (pc := 7) (tgt := 19) hc dX2_isGap_7 (by decide) (fun c_3 => ?_) (fun c_3 => ?_)
    ·
      refine sw_iconst (pc := 19) (v := 1) hc dX2_isGap_19 (by decide) ?_
      refine sw_goto (pc := 20) (tgt := 24) hc dX2_isGap_20 (by decide) ?_
      have h_4 : 1 = bI (lGap gp x) := by simp [bI, c_1, c_3]
      exact sw_iret (pc := 24) hc hk hr rfl ⟨(congrArg (fun z => some (Value.int z)) h_4), rfl⟩ (Nat.le_of_ble_eq_true rfl) (Nat.le_of_ble_eq_true rfl) dX2_isGap_24
    ·
      refine sw_aload_n (pc := 10) hc dX2_isGap_10 rfl 0 rfl ?_
      refine sw_get (pc := 11) (v := .ref ag) hc fl_RX2_9 hC_lv rfl dX2_isGap_11 ?_
      refine sw_iload_n (pc := 14) hc dX2_isGap_14 rfl 1 rfl ?_
      obtain ⟨n_5, n_52⟩ := sg_nn c_1 c_3
      refine sw_zald (pc := 15) (j := (x).toNatClampNeg) hc hC_ag n_5 n_52 (by decide) dX2_isGap_15 ?_
      refine sw_if_eq (pc := 16) (tgt := 23) hc dX2_isGap_16 (by decide) (fun c_6 => ?_) (fun c_6 => ?_)
      ·
        refine sw_iconst (pc := 23) (v := 0) hc dX2_isGap_23 (by decide) ?_
        have h_7 : 0 = bI (lGap gp x) := by simp [bI, c_1, c_3, c_6]
        exact sw_iret (pc := 24) hc hk hr rfl ⟨(congrArg (fun z => some (Value.int z)) h_7), rfl⟩ (Nat.le_of_ble_eq_true rfl) (Nat.le_of_ble_eq_true rfl) dX2_isGap_24
      ·
        refine sw_iconst (pc := 19) (v := 1) hc dX2_isGap_19 (by decide) ?_
        refine sw_goto (pc := 20) (tgt := 24) hc dX2_isGap_20 (by decide) ?_
        have h_8 : 1 = bI (lGap gp x) := by simp [bI, c_1, c_3, c_6]
        exact sw_iret (pc := 24) hc hk hr rfl ⟨(congrArg (fun z => some (Value.int z)) h_8), rfl⟩ (Nat.le_of_ble_eq_true rfl) (Nat.le_of_ble_eq_true rfl) dX2_isGap_24

set_option maxHeartbeats 4000000 in
set_option maxRecDepth 100000 in
theorem c_X2_base (l : Launch) (g : sg_G) (C : Nat → Option va_E) (lv : Nat) (x : Int32) (ag : Nat) (af : Nat) (ai : Nat) (fl : Nat → Int32) (hC_lv : C lv = some (.inr (3, [.ref ag, .ref af, .ref ai]))) (hC_af : C af = some (sg_ia g 32 fl)) : sg_Met l yX2_base cX2_base 2 (some .int) 0 0 0 0 g [.ref lv, .int x] C (fun v C' => v = some (.int (lBase fl x)) ∧ C' = C) sg_no := by
  refine sg_ofW (by decide) rfl ?_ (Nat.le_of_ble_eq_true rfl)
  intro p e s m below meth c hc hk hr hin2 ht
  have hc : sg_Cx p s m _ c cX2_base 2 RX2 g := hc
  show sg_W p l e _ s m _ below meth c 2 g 0 0 _ C 0 [(0, .ref lv), (1, .int x)] []
  refine sw_iload_n (pc := 0) hc dX2_base_0 rfl 1 rfl ?_
  refine sw_if_lt (pc := 1) (tgt := 19) hc dX2_base_1 (by decide) (fun c_1 => ?_) (fun c_1 => ?_)
  ·
    refine sw_iconst (pc := 19) (v := 0) hc dX2_base_19 (by decide) ?_
    have h_2 : 0 = lBase fl x := by simp [lBase, c_1]
    exact sw_iret (pc := 20) hc hk hr rfl ⟨(congrArg (fun z => some (Value.int z)) h_2), rfl⟩ (Nat.le_of_ble_eq_true rfl) (Nat.le_of_ble_eq_true rfl) dX2_base_20
  ·
    refine sw_iload_n (pc := 4) hc dX2_base_4 rfl 1 rfl ?_
    refine sw_bipush (pc := 5) (v := 32) hc dX2_base_5 (by decide) ?_
    refine sw_icmp_ge (pc := 7) (tgt := 19) hc dX2_base_7 (by decide) (fun c_3 => ?_) (fun c_3 => ?_)
    ·
      refine sw_iconst (pc := 19) (v := 0) hc dX2_base_19 (by decide) ?_
      have h_4 : 0 = lBase fl x := by simp [lBase, c_1, c_3]
      exact sw_iret (pc := 20) hc hk hr rfl ⟨(congrArg (fun z => some (Value.int z)) h_4), rfl⟩ (Nat.le_of_ble_eq_true rfl) (Nat.le_of_ble_eq_true rfl) dX2_base_20
    ·
      refine sw_aload_n (pc := 10) hc dX2_base_10 rfl 0 rfl ?_
      refine sw_get (pc := 11) (v := .ref af) hc fl_RX2_15 hC_lv rfl dX2_base_11 ?_
      refine sw_iload_n (pc := 14) hc dX2_base_14 rfl 1 rfl ?_
      obtain ⟨n_5, n_52⟩ := sg_nn c_1 c_3
      refine sw_iald (pc := 15) (j := (x).toNatClampNeg) hc hC_af n_5 n_52 (by decide) dX2_base_15 ?_
      refine sw_goto (pc := 16) (tgt := 20) hc dX2_base_16 (by decide) ?_
      have h_6 : fl ((x).toNatClampNeg) = lBase fl x := by simp [lBase, c_1, c_3]
      exact sw_iret (pc := 20) hc hk hr rfl ⟨(congrArg (fun z => some (Value.int z)) h_6), rfl⟩ (Nat.le_of_ble_eq_true rfl) (Nat.le_of_ble_eq_true rfl) dX2_base_20

set_option maxHeartbeats 4000000 in
set_option maxRecDepth 100000 in
theorem c_X2_isFloorAbove (l : Launch) (g : sg_G) (C : Nat → Option va_E) (lv : Nat) (x : Int32) (y : Int32) (ag : Nat) (af : Nat) (ai : Nat) (gp : Nat → Int32) (fl : Nat → Int32) (hC_lv : C lv = some (.inr (3, [.ref ag, .ref af, .ref ai]))) (hC_ag : C ag = some (sg_za g 32 gp)) (hC_af : C af = some (sg_ia g 32 fl)) : sg_Met l yX2_isFloorAbove cX2_isFloorAbove 3 (some .boolean) 0 0 0 0 g [.ref lv, .int x, .int y] C (fun v C' => v = some (.int (bI (lAbove gp fl x y))) ∧ C' = C) sg_no := by
  refine sg_ofW (by decide) rfl ?_ (Nat.le_of_ble_eq_true rfl)
  intro p e s m below meth c hc hk hr hin2 ht
  have hc : sg_Cx p s m _ c cX2_isFloorAbove 3 RX2 g := hc
  show sg_W p l e _ s m _ below meth c 3 g 0 0 _ C 0 [(0, .ref lv), (1, .int x), (2, .int y)] []
  refine sw_iload_n (pc := 0) hc dX2_isFloorAbove_0 rfl 1 rfl ?_
  refine sw_if_lt (pc := 1) (tgt := 33) hc dX2_isFloorAbove_1 (by decide) (fun c_1 => ?_) (fun c_1 => ?_)
  ·
    refine sw_iconst (pc := 33) (v := 0) hc dX2_isFloorAbove_33 (by decide) ?_
    have h_2 : 0 = bI (lAbove gp fl x y) := by simp [bI, c_1]
    exact sw_iret (pc := 34) hc hk hr rfl ⟨(congrArg (fun z => some (Value.int z)) h_2), rfl⟩ (Nat.le_of_ble_eq_true rfl) (Nat.le_of_ble_eq_true rfl) dX2_isFloorAbove_34
  ·
    refine sw_iload_n (pc := 4) hc dX2_isFloorAbove_4 rfl 1 rfl ?_
    refine sw_bipush (pc := 5) (v := 32) hc dX2_isFloorAbove_5 (by decide) ?_
    refine sw_icmp_ge (pc := 7) (tgt := 33) hc dX2_isFloorAbove_7 (by decide) (fun c_3 => ?_) (fun c_3 => ?_)
    ·
      refine sw_iconst (pc := 33) (v := 0) hc dX2_isFloorAbove_33 (by decide) ?_
      have h_4 : 0 = bI (lAbove gp fl x y) := by simp [bI, c_1, c_3]
      exact sw_iret (pc := 34) hc hk hr rfl ⟨(congrArg (fun z => some (Value.int z)) h_4), rfl⟩ (Nat.le_of_ble_eq_true rfl) (Nat.le_of_ble_eq_true rfl) dX2_isFloorAbove_34
    ·
      refine sw_aload_n (pc := 10) hc dX2_isFloorAbove_10 rfl 0 rfl ?_
      refine sw_get (pc := 11) (v := .ref ag) hc fl_RX2_9 hC_lv rfl dX2_isFloorAbove_11 ?_
      refine sw_iload_n (pc := 14) hc dX2_isFloorAbove_14 rfl 1 rfl ?_
      obtain ⟨n_5, n_52⟩ := sg_nn c_1 c_3
      refine sw_zald (pc := 15) (j := (x).toNatClampNeg) hc hC_ag n_5 n_52 (by decide) dX2_isFloorAbove_15 ?_
      refine sw_if_ne (pc := 16) (tgt := 33) hc dX2_isFloorAbove_16 (by decide) (fun c_6 => ?_) (fun c_6 => ?_)
      ·
        refine sw_iconst (pc := 33) (v := 0) hc dX2_isFloorAbove_33 (by decide) ?_
        have h_7 : 0 = bI (lAbove gp fl x y) := by simp [bI, c_1, c_3, c_6]
        exact sw_iret (pc := 34) hc hk hr rfl ⟨(congrArg (fun z => some (Value.int z)) h_7), rfl⟩ (Nat.le_of_ble_eq_true rfl) (Nat.le_of_ble_eq_true rfl) dX2_isFloorAbove_34
      ·
        refine sw_aload_n (pc := 19) hc dX2_isFloorAbove_19 rfl 0 rfl ?_
        refine sw_get (pc := 20) (v := .ref af) hc fl_RX2_15 hC_lv rfl dX2_isFloorAbove_20 ?_
        refine sw_iload_n (pc := 23) hc dX2_isFloorAbove_23 rfl 1 rfl ?_
        obtain ⟨n_8, n_82⟩ := sg_nn c_1 c_3
        refine sw_iald (pc := 24) (j := (x).toNatClampNeg) hc hC_af n_8 n_82 (by decide) dX2_isFloorAbove_24 ?_
        refine sw_iload_n (pc := 25) hc dX2_isFloorAbove_25 rfl 2 rfl ?_
        refine sw_icmp_le (pc := 26) (tgt := 33) hc dX2_isFloorAbove_26 (by decide) (fun c_9 => ?_) (fun c_9 => ?_)
        ·
          refine sw_iconst (pc := 33) (v := 0) hc dX2_isFloorAbove_33 (by decide) ?_
          have h_10 : 0 = bI (lAbove gp fl x y) := by simp [bI, c_1, c_3, c_6, c_9]
          exact sw_iret (pc := 34) hc hk hr rfl ⟨(congrArg (fun z => some (Value.int z)) h_10), rfl⟩ (Nat.le_of_ble_eq_true rfl) (Nat.le_of_ble_eq_true rfl) dX2_isFloorAbove_34
        ·
          refine sw_iconst (pc := 29) (v := 1) hc dX2_isFloorAbove_29 (by decide) ?_
          refine sw_goto (pc := 30) (tgt := 34) hc dX2_isFloorAbove_30 (by decide) ?_
          have h_11 : 1 = bI (lAbove gp fl x y) := by simp [bI, c_1, c_3, c_6, c_9]
          exact sw_iret (pc := 34) hc hk hr rfl ⟨(congrArg (fun z => some (Value.int z)) h_11), rfl⟩ (Nat.le_of_ble_eq_true rfl) (Nat.le_of_ble_eq_true rfl) dX2_isFloorAbove_34

set_option maxHeartbeats 4000000 in
set_option maxRecDepth 100000 in
theorem c_X2_hasItem (l : Launch) (g : sg_G) (C : Nat → Option va_E) (lv : Nat) (x : Int32) (y : Int32) (ag : Nat) (af : Nat) (ai : Nat) (it : Nat → Int32) (hC_lv : C lv = some (.inr (3, [.ref ag, .ref af, .ref ai]))) (hC_ai : C ai = some (sg_ia g 32 it)) : sg_Met l yX2_hasItem cX2_hasItem 3 (some .boolean) 0 0 0 0 g [.ref lv, .int x, .int y] C (fun v C' => v = some (.int (bI (lItem it x y))) ∧ C' = C) sg_no := by
  refine sg_ofW (by decide) rfl ?_ (Nat.le_of_ble_eq_true rfl)
  intro p e s m below meth c hc hk hr hin2 ht
  have hc : sg_Cx p s m _ c cX2_hasItem 3 RX2 g := hc
  show sg_W p l e _ s m _ below meth c 3 g 0 0 _ C 0 [(0, .ref lv), (1, .int x), (2, .int y)] []
  refine sw_iload_n (pc := 0) hc dX2_hasItem_0 rfl 1 rfl ?_
  refine sw_if_lt (pc := 1) (tgt := 24) hc dX2_hasItem_1 (by decide) (fun c_1 => ?_) (fun c_1 => ?_)
  ·
    refine sw_iconst (pc := 24) (v := 0) hc dX2_hasItem_24 (by decide) ?_
    have h_2 : 0 = bI (lItem it x y) := by simp [bI, c_1]
    exact sw_iret (pc := 25) hc hk hr rfl ⟨(congrArg (fun z => some (Value.int z)) h_2), rfl⟩ (Nat.le_of_ble_eq_true rfl) (Nat.le_of_ble_eq_true rfl) dX2_hasItem_25
  ·
    refine sw_iload_n (pc := 4) hc dX2_hasItem_4 rfl 1 rfl ?_
    refine sw_bipush (pc := 5) (v := 32) hc dX2_hasItem_5 (by decide) ?_
    refine sw_icmp_ge (pc := 7) (tgt := 24) hc dX2_hasItem_7 (by decide) (fun c_3 => ?_) (fun c_3 => ?_)
    ·
      refine sw_iconst (pc := 24) (v := 0) hc dX2_hasItem_24 (by decide) ?_
      have h_4 : 0 = bI (lItem it x y) := by simp [bI, c_1, c_3]
      exact sw_iret (pc := 25) hc hk hr rfl ⟨(congrArg (fun z => some (Value.int z)) h_4), rfl⟩ (Nat.le_of_ble_eq_true rfl) (Nat.le_of_ble_eq_true rfl) dX2_hasItem_25
    ·
      refine sw_aload_n (pc := 10) hc dX2_hasItem_10 rfl 0 rfl ?_
      refine sw_get (pc := 11) (v := .ref ai) hc fl_RX2_19 hC_lv rfl dX2_hasItem_11 ?_
      refine sw_iload_n (pc := 14) hc dX2_hasItem_14 rfl 1 rfl ?_
      obtain ⟨n_5, n_52⟩ := sg_nn c_1 c_3
      refine sw_iald (pc := 15) (j := (x).toNatClampNeg) hc hC_ai n_5 n_52 (by decide) dX2_hasItem_15 ?_
      refine sw_iload_n (pc := 16) hc dX2_hasItem_16 rfl 2 rfl ?_
      refine sw_icmp_ne (pc := 17) (tgt := 24) hc dX2_hasItem_17 (by decide) (fun c_6 => ?_) (fun c_6 => ?_)
      ·
        refine sw_iconst (pc := 24) (v := 0) hc dX2_hasItem_24 (by decide) ?_
        have h_7 : 0 = bI (lItem it x y) := by simp [bI, c_1, c_3, c_6]
        exact sw_iret (pc := 25) hc hk hr rfl ⟨(congrArg (fun z => some (Value.int z)) h_7), rfl⟩ (Nat.le_of_ble_eq_true rfl) (Nat.le_of_ble_eq_true rfl) dX2_hasItem_25
      ·
        refine sw_iconst (pc := 20) (v := 1) hc dX2_hasItem_20 (by decide) ?_
        refine sw_goto (pc := 21) (tgt := 25) hc dX2_hasItem_21 (by decide) ?_
        have h_8 : 1 = bI (lItem it x y) := by simp [bI, c_1, c_3, c_6]
        exact sw_iret (pc := 25) hc hk hr rfl ⟨(congrArg (fun z => some (Value.int z)) h_8), rfl⟩ (Nat.le_of_ble_eq_true rfl) (Nat.le_of_ble_eq_true rfl) dX2_hasItem_25

set_option maxHeartbeats 4000000 in
set_option maxRecDepth 100000 in
theorem c_X1_isOver (l : Launch) (g : sg_G) (C : Nat → Option va_E) (h : Nat) (hs : Nat → Int32) (hC_h : C h = some (.inr (2, hfs hs))) : sg_Met l yX1_isOver cX1_isOver 1 (some .boolean) 0 0 0 0 g [.ref h] C (fun v C' => v = some (.int (bI (¬ hs 11 = 0))) ∧ C' = C) sg_no := by
  refine sg_ofW (by decide) rfl ?_ (Nat.le_of_ble_eq_true rfl)
  intro p e s m below meth c hc hk hr hin2 ht
  have hc : sg_Cx p s m _ c cX1_isOver 1 RX1 g := hc
  show sg_W p l e _ s m _ below meth c 1 g 0 0 _ C 0 [(0, .ref h)] []
  refine sw_aload_n (pc := 0) hc dX1_isOver_0 rfl 0 rfl ?_
  refine sw_get (pc := 1) (v := .int (hs 11)) hc fl_RX1_52 hC_h rfl dX1_isOver_1 ?_
  refine sw_if_eq (pc := 4) (tgt := 11) hc dX1_isOver_4 (by decide) (fun c_1 => ?_) (fun c_1 => ?_)
  ·
    refine sw_iconst (pc := 11) (v := 0) hc dX1_isOver_11 (by decide) ?_
    have h_2 : 0 = bI (¬ hs 11 = 0) := by simp [bI, c_1]
    exact sw_iret (pc := 12) hc hk hr rfl ⟨(congrArg (fun z => some (Value.int z)) h_2), rfl⟩ (Nat.le_of_ble_eq_true rfl) (Nat.le_of_ble_eq_true rfl) dX1_isOver_12
  ·
    refine sw_iconst (pc := 7) (v := 1) hc dX1_isOver_7 (by decide) ?_
    refine sw_goto (pc := 8) (tgt := 12) hc dX1_isOver_8 (by decide) ?_
    have h_3 : 1 = bI (¬ hs 11 = 0) := by simp [bI, c_1]
    exact sw_iret (pc := 12) hc hk hr rfl ⟨(congrArg (fun z => some (Value.int z)) h_3), rfl⟩ (Nat.le_of_ble_eq_true rfl) (Nat.le_of_ble_eq_true rfl) dX1_isOver_12

set_option maxHeartbeats 4000000 in
set_option maxRecDepth 100000 in
theorem c_X1_isHome (l : Launch) (g : sg_G) (C : Nat → Option va_E) (h : Nat) (hs : Nat → Int32) (hC_h : C h = some (.inr (2, hfs hs))) : sg_Met l yX1_isHome cX1_isHome 1 (some .boolean) 0 0 0 0 g [.ref h] C (fun v C' => v = some (.int (bI (hs 11 = 1))) ∧ C' = C) sg_no := by
  refine sg_ofW (by decide) rfl ?_ (Nat.le_of_ble_eq_true rfl)
  intro p e s m below meth c hc hk hr hin2 ht
  have hc : sg_Cx p s m _ c cX1_isHome 1 RX1 g := hc
  show sg_W p l e _ s m _ below meth c 1 g 0 0 _ C 0 [(0, .ref h)] []
  refine sw_aload_n (pc := 0) hc dX1_isHome_0 rfl 0 rfl ?_
  refine sw_get (pc := 1) (v := .int (hs 11)) hc fl_RX1_52 hC_h rfl dX1_isHome_1 ?_
  refine sw_iconst (pc := 4) (v := 1) hc dX1_isHome_4 (by decide) ?_
  refine sw_icmp_ne (pc := 5) (tgt := 12) hc dX1_isHome_5 (by decide) (fun c_1 => ?_) (fun c_1 => ?_)
  ·
    refine sw_iconst (pc := 12) (v := 0) hc dX1_isHome_12 (by decide) ?_
    have h_2 : 0 = bI (hs 11 = 1) := by simp [bI, c_1]
    exact sw_iret (pc := 13) hc hk hr rfl ⟨(congrArg (fun z => some (Value.int z)) h_2), rfl⟩ (Nat.le_of_ble_eq_true rfl) (Nat.le_of_ble_eq_true rfl) dX1_isHome_13
  ·
    refine sw_iconst (pc := 8) (v := 1) hc dX1_isHome_8 (by decide) ?_
    refine sw_goto (pc := 9) (tgt := 13) hc dX1_isHome_9 (by decide) ?_
    have h_3 : 1 = bI (hs 11 = 1) := by simp [bI, c_1]
    exact sw_iret (pc := 13) hc hk hr rfl ⟨(congrArg (fun z => some (Value.int z)) h_3), rfl⟩ (Nat.le_of_ble_eq_true rfl) (Nat.le_of_ble_eq_true rfl) dX1_isHome_13

set_option maxHeartbeats 4000000 in
set_option maxRecDepth 100000 in
theorem c_X1_columnHere (l : Launch) (g : sg_G) (C : Nat → Option va_E) (h : Nat) (hs : Nat → Int32) (hC_h : C h = some (.inr (2, hfs hs))) : sg_Met l yX1_columnHere cX1_columnHere 1 (some .int) 0 0 0 0 g [.ref h] C (fun v C' => v = some (.int (hs 0 / 16)) ∧ C' = C) sg_no := by
  refine sg_ofW (by decide) rfl ?_ (Nat.le_of_ble_eq_true rfl)
  intro p e s m below meth c hc hk hr hin2 ht
  have hc : sg_Cx p s m _ c cX1_columnHere 1 RX1 g := hc
  show sg_W p l e _ s m _ below meth c 1 g 0 0 _ C 0 [(0, .ref h)] []
  refine sw_aload_n (pc := 0) hc dX1_columnHere_0 rfl 0 rfl ?_
  refine sw_get (pc := 1) (v := .int (hs 0)) hc fl_RX1_11 hC_h rfl dX1_columnHere_1 ?_
  refine sw_bipush (pc := 4) (v := 16) hc dX1_columnHere_4 (by decide) ?_
  refine sw_idiv (pc := 6) hc dX1_columnHere_6 (by decide) ?_
  have h_1 : (hs 0) / 16 = hs 0 / 16 := by simp []
  exact sw_iret (pc := 7) hc hk hr rfl ⟨(congrArg (fun z => some (Value.int z)) h_1), rfl⟩ (Nat.le_of_ble_eq_true rfl) (Nat.le_of_ble_eq_true rfl) dX1_columnHere_7

