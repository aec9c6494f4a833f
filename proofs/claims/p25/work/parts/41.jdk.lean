
/-! the JDK's list, as the class uses it -/
theorem jmin_le {k n : Nat} (h : k ≤ n) (hn : n ≤ 100000) : jmin (nI k) (nI n) = nI k := by
  unfold jmin
  split
  · rename_i h2
    exact absurd h2 (nI_nlt h (by omega))
  · rfl
theorem va_cpy_tr (f : Nat → Nat) (k : Nat) : va_cpy (sg_tr f k) (fun _ => none) 0 0 k = sg_tr f k := by
  funext i
  unfold va_cpy sg_tr
  by_cases h : i < k
  · simp [h]
  · simp [h]

theorem md_J3_checkIndex_8e157 : sg_MD yJ3_checkIndex_8e157 cJ3_checkIndex_8e157 3 (some .int) 3 := ⟨sg_mem (i := 352) (by decide +kernel) rfl, sg_mem (i := 42) (by decide +kernel) rfl, ⟨by decide, by decide⟩, by decide +kernel⟩
theorem ml_RJ15_105 : sg_ML RJ15 105 yJ3_checkIndex_8e157 := .inl (sg_mem (i := 350) (by decide +kernel) rfl)
theorem st_J3_checkIndex_8e157 : Cond.static yJ3_checkIndex_8e157 ∈ sg_T := sg_mem (i := 351) (by decide +kernel) rfl
theorem ti_0 : ∀ w ∈ u_ws RJx4a65c TJx4a65c 3, w ∈ sg_T := List.forall_mem_cons.mpr ⟨sg_mem (i := 80) (by decide +kernel) rfl, List.forall_mem_cons.mpr ⟨sg_mem (i := 76) (by decide +kernel) rfl, List.forall_mem_cons.mpr ⟨sg_mem (i := 78) (by decide +kernel) rfl, fun _ h => absurd h List.not_mem_nil⟩⟩⟩
theorem fl_RJx4a65c_9 : sg_FL RJx4a65c 9 0 1 := ⟨RJx4a65c, TJx4a65c, 3, "java/util/ArrayList", rfl, by decide, ti_0, .inl rfl, .inl (sg_mem (i := 71) (by decide +kernel) rfl)⟩
theorem fl_RJx4a65c_48 : sg_FL RJx4a65c 48 0 2 := ⟨RJx4a65c, TJx4a65c, 3, "java/util/ArrayList", rfl, by decide, ti_0, .inl rfl, .inl (sg_mem (i := 72) (by decide +kernel) rfl)⟩
theorem md_J15_checkIndex_7cf53 : sg_MD yJ15_checkIndex_7cf53 cJ15_checkIndex_7cf53 2 (some .int) 2 := ⟨sg_mem (i := 349) (by decide +kernel) rfl, sg_mem (i := 41) (by decide +kernel) rfl, ⟨by decide, by decide⟩, by decide +kernel⟩
theorem ml_RJx4a65c_118 : sg_ML RJx4a65c 118 yJ15_checkIndex_7cf53 := .inl (sg_mem (i := 347) (by decide +kernel) rfl)
theorem st_J15_checkIndex_7cf53 : Cond.static yJ15_checkIndex_7cf53 ∈ sg_T := sg_mem (i := 348) (by decide +kernel) rfl
theorem md_Jx4a65c_elementData_915e3 : sg_MD yJx4a65c_elementData_915e3 cJx4a65c_elementData_915e3 2 (some (.object "java/lang/Object")) 1 := ⟨sg_mem (i := 356) (by decide +kernel) rfl, sg_mem (i := 29) (by decide +kernel) rfl, ⟨by decide, by decide⟩, by decide +kernel⟩
theorem ml_RJx4a65c_123 : sg_ML RJx4a65c 123 yJx4a65c_elementData_915e3 := .inl (sg_mem (i := 353) (by decide +kernel) rfl)
theorem im_Jx4a65c_elementData_915e3 : Cond.instanceMethod yJx4a65c_elementData_915e3 ∈ sg_T := sg_mem (i := 354) (by decide +kernel) rfl
theorem sl_Jx4a65c_elementData_915e3 : Cond.selects yJx4a65c_elementData_915e3.cls yJx4a65c_elementData_915e3 yJx4a65c_elementData_915e3 ∈ sg_T := sg_mem (i := 355) (by decide +kernel) rfl
theorem mm_RJ8_194 : sg_Mmax RJ8 194 := ⟨sg_mem (i := 276) (by decide +kernel) rfl, sg_mem (i := 277) (by decide +kernel) rfl, sg_mem (i := 37) (by decide +kernel) rfl, sg_mem (i := 278) (by decide +kernel) rfl⟩
theorem cn_RJ8_200 : Cond.constant RJ8 200 (2147483639 : Int32) ∈ sg_T := sg_mem (i := 279) (by decide +kernel) rfl
theorem oi_RJxa1e45_1 : Cond.methodLink RJxa1e45 1 Lib.objectInit ∈ sg_T := sg_mem (i := 68) (by decide +kernel) rfl
theorem oi_i : Cond.instanceMethod Lib.objectInit ∈ sg_T := sg_mem (i := 55) (by decide +kernel) rfl
theorem oi_c : Cond.code Lib.objectInit ⟨#[0xb1]⟩ 1 none ∈ sg_T := sg_mem (i := 56) (by decide +kernel) rfl
theorem md_Jxa1e45_init_da8c8 : sg_MD yJxa1e45_init_da8c8 cJxa1e45_init_da8c8 1 none 0 := ⟨sg_mem (i := 67) (by decide +kernel) rfl, sg_mem (i := 27) (by decide +kernel) rfl, ⟨by decide, by decide⟩, by decide +kernel⟩
theorem ml_RJxc12de_1 : sg_ML RJxc12de 1 yJxa1e45_init_da8c8 := .inl (sg_mem (i := 65) (by decide +kernel) rfl)
theorem im_Jxa1e45_init_da8c8 : Cond.instanceMethod yJxa1e45_init_da8c8 ∈ sg_T := sg_mem (i := 66) (by decide +kernel) rfl
theorem fl_RJxc12de_7 : sg_FL RJxc12de 7 0 0 := ⟨RJx4a65c, TJx4a65c, 3, "java/util/AbstractList", rfl, by decide, ti_0, .inl rfl, .inl (sg_mem (i := 73) (by decide +kernel) rfl)⟩
theorem ty_0 : sg_TY 0 := ⟨RJx4a65c, TJx4a65c, 3, tyJx4a65c, rfl, tyJx4a65c_ok, nmJx4a65c⟩
theorem fp2_0_0 : sg_FP2 0 0 .int := ⟨RJx4a65c, TJx4a65c, 3, rfl, rfl, by decide +kernel⟩
set_option maxHeartbeats 4000000 in
set_option maxRecDepth 100000 in
theorem c_J3_checkIndex_8e157 (l : Launch) (g : sg_G) (C : Nat → Option va_E) (i : Nat) (n : Nat) (hi : i < n) (hn : n ≤ 100000) : sg_Met l yJ3_checkIndex_8e157 cJ3_checkIndex_8e157 3 (some .int) 0 0 0 0 g [.int (nI i), .int (nI n), .null] C (fun v C' => v = some (.int (nI i)) ∧ C' = C) sg_no := by
  refine sg_ofW (by decide) rfl ?_ (Nat.le_of_ble_eq_true rfl)
  intro p e s m below meth c hc hlk hrt hin2 ht
  have hc : sg_Cx p s m _ c cJ3_checkIndex_8e157 3 RJ3 g := hc
  show sg_W p l e _ s m _ below meth c 3 g 0 0 _ C 0 [(0, .int (nI i)), (1, .int (nI n)), (2, .null)] []
  refine sw_iload_n (pc := 0) hc dJ3_checkIndex_8e157_0 rfl 0 rfl ?_
  refine sw_if_lt (pc := 1) (tgt := 9) hc dJ3_checkIndex_8e157_1 (by decide) (fun c_1 => ?_) (fun c_1 => ?_)
  ·
    exact absurd c_1 (nI_pos (by omega))
  ·
    have c_1' := Int32.not_lt.mp c_1
    refine sw_iload_n (pc := 4) hc dJ3_checkIndex_8e157_4 rfl 0 rfl ?_
    refine sw_iload_n (pc := 5) hc dJ3_checkIndex_8e157_5 rfl 1 rfl ?_
    refine sw_icmp_lt (pc := 6) (tgt := 16) hc dJ3_checkIndex_8e157_6 (by decide) (fun c_2 => ?_) (fun c_2 => ?_)
    ·
      have c_2' := Int32.not_le.mpr c_2
      refine sw_iload_n (pc := 16) hc dJ3_checkIndex_8e157_16 rfl 0 rfl ?_
      exact sw_iret (pc := 17) hc hlk hrt rfl ⟨rfl, rfl⟩ (Nat.le_of_ble_eq_true rfl) (Nat.le_of_ble_eq_true rfl) dJ3_checkIndex_8e157_17
    ·
      exact absurd (nI_lt (by omega) (by omega)) c_2

set_option maxHeartbeats 4000000 in
set_option maxRecDepth 100000 in
theorem c_J15_checkIndex_7cf53 (l : Launch) (g : sg_G) (C : Nat → Option va_E) (i : Nat) (n : Nat) (hi : i < n) (hn : n ≤ 100000) : sg_Met l yJ15_checkIndex_7cf53 cJ15_checkIndex_7cf53 2 (some .int) 1 22 0 0 g [.int (nI i), .int (nI n)] C (fun v C' => v = some (.int (nI i)) ∧ C' = C) sg_no := by
  refine sg_ofW (by decide) rfl ?_ (Nat.le_of_ble_eq_true rfl)
  intro p e s m below meth c hc hlk hrt hin2 ht
  have hc : sg_Cx p s m _ c cJ15_checkIndex_7cf53 2 RJ15 g := hc
  show sg_W p l e _ s m _ below meth c 2 g 0 0 _ C 0 [(0, .int (nI i)), (1, .int (nI n))] []
  refine sw_iload_n (pc := 0) hc dJ15_checkIndex_7cf53_0 rfl 0 rfl ?_
  refine sw_iload_n (pc := 1) hc dJ15_checkIndex_7cf53_1 rfl 1 rfl ?_
  refine sw_null (pc := 2) hc dJ15_checkIndex_7cf53_2 ?_
  refine sw_callS (pc := 3) (rest := []) hc (c_J3_checkIndex_8e157 l g C i n (by omega) (by omega)) md_J3_checkIndex_8e157 ml_RJ15_105 st_J3_checkIndex_8e157 rfl rfl (Nat.le_of_ble_eq_true rfl) dJ15_checkIndex_7cf53_3 ⟨Nat.le_of_ble_eq_true rfl, Nat.le_of_ble_eq_true rfl, Nat.le_of_ble_eq_true rfl, Nat.le_of_ble_eq_true rfl⟩ (fun v C' hP => ?_) (fun _ _ h => h.elim)
  obtain ⟨rfl, hCC⟩ := hP
  refine sw_eq (C' := C) hCC ?_
  refine sw_st (st' := [.int (nI i)]) rfl ?_
  exact sw_iret (pc := 6) hc hlk hrt rfl ⟨rfl, rfl⟩ (Nat.le_of_ble_eq_true rfl) (Nat.le_of_ble_eq_true rfl) dJ15_checkIndex_7cf53_6

set_option maxHeartbeats 4000000 in
set_option maxRecDepth 100000 in
theorem c_Jx4a65c_elementData_915e3 (l : Launch) (g : sg_G) (C : Nat → Option va_E) (a : Nat) (x : Int32) (b : Nat) (y : Int32) (n : Nat) (f : Nat → Option Nat) (i : Nat) (vv : Nat) (hC_a : C a = some (.inr (0, [.int x, .ref b, .int y]))) (hC_b : C b = some (sg_qa g n f)) (hi : i < n) (hn : n ≤ 100000) (hv : f i = some vv) : sg_Met l yJx4a65c_elementData_915e3 cJx4a65c_elementData_915e3 2 (some (.object "java/lang/Object")) 0 0 0 0 g [.ref a, .int (nI i)] C (fun v C' => v = some (.ref vv) ∧ C' = C) sg_no := by
  refine sg_ofW (by decide) rfl ?_ (Nat.le_of_ble_eq_true rfl)
  intro p e s m below meth c hc hlk hrt hin2 ht
  have hc : sg_Cx p s m _ c cJx4a65c_elementData_915e3 2 RJx4a65c g := hc
  show sg_W p l e _ s m _ below meth c 2 g 0 0 _ C 0 [(0, .ref a), (1, .int (nI i))] []
  refine sw_aload_n (pc := 0) hc dJx4a65c_elementData_915e3_0 rfl 0 rfl ?_
  refine sw_get (pc := 1) (v := .ref b) hc fl_RJx4a65c_9 hC_a rfl dJx4a65c_elementData_915e3_1 ?_
  refine sw_iload_n (pc := 4) hc dJx4a65c_elementData_915e3_4 rfl 1 rfl ?_
  refine sw_aald (pc := 5) (j := i) hc hC_b rfl (by omega) (by omega) dJx4a65c_elementData_915e3_5 ?_
  refine sw_st (st' := [.ref vv]) (by rw [hv]; rfl) ?_
  exact sw_aret (pc := 6) hc hlk hrt (.inl ⟨_, rfl⟩) (.inr ⟨_, rfl⟩) ⟨rfl, rfl⟩ (Nat.le_of_ble_eq_true rfl) (Nat.le_of_ble_eq_true rfl) dJx4a65c_elementData_915e3_6

set_option maxHeartbeats 4000000 in
set_option maxRecDepth 100000 in
theorem c_Jx4a65c_get_915e3 (l : Launch) (g : sg_G) (C : Nat → Option va_E) (a : Nat) (x : Int32) (b : Nat) (n : Nat) (f : Nat → Option Nat) (i : Nat) (k : Nat) (vv : Nat) (hC_a : C a = some (.inr (0, [.int x, .ref b, .int (nI k)]))) (hC_b : C b = some (sg_qa g n f)) (hi : i < k) (hkn : k ≤ n) (hn : n ≤ 100000) (hv : f i = some vv) : sg_Met l yJx4a65c_get_915e3 cJx4a65c_get_915e3 2 (some (.object "java/lang/Object")) 2 43 0 0 g [.ref a, .int (nI i)] C (fun v C' => v = some (.ref vv) ∧ C' = C) sg_no := by
  refine sg_ofW (by decide) rfl ?_ (Nat.le_of_ble_eq_true rfl)
  intro p e s m below meth c hc hlk hrt hin2 ht
  have hc : sg_Cx p s m _ c cJx4a65c_get_915e3 2 RJx4a65c g := hc
  show sg_W p l e _ s m _ below meth c 2 g 0 0 _ C 0 [(0, .ref a), (1, .int (nI i))] []
  refine sw_iload_n (pc := 0) hc dJx4a65c_get_915e3_0 rfl 1 rfl ?_
  refine sw_aload_n (pc := 1) hc dJx4a65c_get_915e3_1 rfl 0 rfl ?_
  refine sw_get (pc := 2) (v := .int (nI k)) hc fl_RJx4a65c_48 hC_a rfl dJx4a65c_get_915e3_2 ?_
  refine sw_callS (pc := 5) (rest := []) hc (c_J15_checkIndex_7cf53 l g C i k (hi) (by omega)) md_J15_checkIndex_7cf53 ml_RJx4a65c_118 st_J15_checkIndex_7cf53 rfl rfl (Nat.le_of_ble_eq_true rfl) dJx4a65c_get_915e3_5 ⟨Nat.le_of_ble_eq_true rfl, Nat.le_of_ble_eq_true rfl, Nat.le_of_ble_eq_true rfl, Nat.le_of_ble_eq_true rfl⟩ (fun v C' hP => ?_) (fun _ _ h => h.elim)
  obtain ⟨rfl, hCC⟩ := hP
  refine sw_eq (C' := C) hCC ?_
  refine sw_st (st' := [.int (nI i)]) rfl ?_
  refine sw_pop (pc := 8) hc dJx4a65c_get_915e3_8 rfl ?_
  refine sw_aload_n (pc := 9) hc dJx4a65c_get_915e3_9 rfl 0 rfl ?_
  refine sw_iload_n (pc := 10) hc dJx4a65c_get_915e3_10 rfl 1 rfl ?_
  refine sw_callV (pc := 11) (rest := []) hc (c_Jx4a65c_elementData_915e3 l g C a x b (nI k) n f i vv hC_a hC_b (by omega) (hn) (hv)) md_Jx4a65c_elementData_915e3 ml_RJx4a65c_123 im_Jx4a65c_elementData_915e3 sl_Jx4a65c_elementData_915e3 hC_a rfl rfl rfl (Nat.le_of_ble_eq_true rfl) dJx4a65c_get_915e3_11 ⟨Nat.le_of_ble_eq_true rfl, Nat.le_of_ble_eq_true rfl, Nat.le_of_ble_eq_true rfl, Nat.le_of_ble_eq_true rfl⟩ (fun v C' hP => ?_) (fun _ _ h => h.elim)
  obtain ⟨rfl, hCC⟩ := hP
  refine sw_eq (C' := C) hCC ?_
  refine sw_st (st' := [.ref vv]) rfl ?_
  exact sw_aret (pc := 14) hc hlk hrt (.inl ⟨_, rfl⟩) (.inr ⟨_, rfl⟩) ⟨rfl, rfl⟩ (Nat.le_of_ble_eq_true rfl) (Nat.le_of_ble_eq_true rfl) dJx4a65c_get_915e3_14

set_option maxHeartbeats 4000000 in
set_option maxRecDepth 100000 in
theorem c_Jx4a65c_size_8abf5 (l : Launch) (g : sg_G) (C : Nat → Option va_E) (a : Nat) (x : Int32) (b : Nat) (y : Int32) (hC_a : C a = some (.inr (0, [.int x, .ref b, .int y]))) : sg_Met l yJx4a65c_size_8abf5 cJx4a65c_size_8abf5 1 (some .int) 0 0 0 0 g [.ref a] C (fun v C' => v = some (.int y) ∧ C' = C) sg_no := by
  refine sg_ofW (by decide) rfl ?_ (Nat.le_of_ble_eq_true rfl)
  intro p e s m below meth c hc hlk hrt hin2 ht
  have hc : sg_Cx p s m _ c cJx4a65c_size_8abf5 1 RJx4a65c g := hc
  show sg_W p l e _ s m _ below meth c 1 g 0 0 _ C 0 [(0, .ref a)] []
  refine sw_aload_n (pc := 0) hc dJx4a65c_size_8abf5_0 rfl 0 rfl ?_
  refine sw_get (pc := 1) (v := .int y) hc fl_RJx4a65c_48 hC_a rfl dJx4a65c_size_8abf5_1 ?_
  exact sw_iret (pc := 4) hc hlk hrt rfl ⟨rfl, rfl⟩ (Nat.le_of_ble_eq_true rfl) (Nat.le_of_ble_eq_true rfl) dJx4a65c_size_8abf5_4

set_option maxHeartbeats 4000000 in
set_option maxRecDepth 100000 in
theorem c_J8_newLength_cabcc (l : Launch) (g : sg_G) (C : Nat → Option va_E) (x : Int32) (y : Int32) (z : Int32) (h1 : 0 < x + jmax y z) (h2 : x + jmax y z ≤ 2147483639) : sg_Met l yJ8_newLength_cabcc cJ8_newLength_cabcc 4 (some .int) 1 14 0 0 g [.int x, .int y, .int z] C (fun v C' => v = some (.int (x + jmax y z)) ∧ C' = C) sg_no := by
  refine sg_ofW (by decide) rfl ?_ (Nat.le_of_ble_eq_true rfl)
  intro p e s m below meth c hc hlk hrt hin2 ht
  have hc : sg_Cx p s m _ c cJ8_newLength_cabcc 4 RJ8 g := hc
  show sg_W p l e _ s m _ below meth c 4 g 0 0 _ C 0 [(0, .int x), (1, .int y), (2, .int z)] []
  refine sw_iload_n (pc := 0) hc dJ8_newLength_cabcc_0 rfl 0 rfl ?_
  refine sw_iload_n (pc := 1) hc dJ8_newLength_cabcc_1 rfl 1 rfl ?_
  refine sw_iload_n (pc := 2) hc dJ8_newLength_cabcc_2 rfl 2 rfl ?_
  refine sw_mmax (pc := 3) hc mm_RJ8_194 ⟨Nat.le_of_ble_eq_true rfl, Nat.le_of_ble_eq_true rfl, Nat.le_of_ble_eq_true rfl, Nat.le_of_ble_eq_true rfl⟩ dJ8_newLength_cabcc_3 ?_
  refine sw_iadd (pc := 6) hc dJ8_newLength_cabcc_6 ?_
  refine sw_istore_n (pc := 7) hc dJ8_newLength_cabcc_7 rfl (by decide) (lv' := [(3, .int (x + (jmax y z))), (0, .int x), (1, .int y), (2, .int z)]) rfl ?_
  refine sw_iconst (pc := 8) (v := 0) hc dJ8_newLength_cabcc_8 (by decide) ?_
  refine sw_iload_n (pc := 9) hc dJ8_newLength_cabcc_9 rfl 0 rfl ?_
  refine sw_icmp_ge (pc := 10) (tgt := 21) hc dJ8_newLength_cabcc_10 (by decide) (fun c_1 => ?_) (fun c_1 => ?_)
  ·
    exact absurd c_1 (Int32.not_le.mpr h1)
  ·
    have c_1' := Int32.not_le.mp c_1
    refine sw_iload_n (pc := 13) hc dJ8_newLength_cabcc_13 rfl 0 rfl ?_
    refine sw_ldcI (pc := 14) (v := 2147483639) hc cn_RJ8_200 dJ8_newLength_cabcc_14 ?_
    refine sw_icmp_gt (pc := 16) (tgt := 21) hc dJ8_newLength_cabcc_16 (by decide) (fun c_2 => ?_) (fun c_2 => ?_)
    ·
      exact absurd c_2 (Int32.not_lt.mpr h2)
    ·
      have c_2' := Int32.not_lt.mp c_2
      refine sw_iload_n (pc := 19) hc dJ8_newLength_cabcc_19 rfl 0 rfl ?_
      have h_3 : x + (jmax y z) = x + jmax y z := by first | with_reducible rfl | (first | with_reducible rfl | (simp [-Int32.not_le, -Int32.not_lt, st1_a, c_1, c_1', c_2, c_2']; done) | (((try simp only [st1_a, Nat.reduceBEq, cond_false, cond_true] at c_1 c_1' c_2 c_2') <;> simp [-Int32.not_le, -Int32.not_lt, st1_a, c_1, c_1', c_2, c_2']); done) | ((repeat' split) <;> simp_all [-Int32.not_le, -Int32.not_lt, st1_a, lItem, lAbove, lGap]; done))
      exact sw_iret (pc := 20) hc hlk hrt rfl ⟨(congrArg (fun z => some (Value.int z)) h_3), rfl⟩ (Nat.le_of_ble_eq_true rfl) (Nat.le_of_ble_eq_true rfl) dJ8_newLength_cabcc_20

set_option maxHeartbeats 4000000 in
set_option maxRecDepth 100000 in
theorem c_Jxa1e45_init_da8c8 (l : Launch) (g : sg_G) (C : Nat → Option va_E) (a : Nat) : sg_Met l yJxa1e45_init_da8c8 cJxa1e45_init_da8c8 1 none 1 12 0 0 g [.ref a] C (fun v C' => v = none ∧ C' = C) sg_no := by
  refine sg_ofW (by decide) rfl ?_ (Nat.le_of_ble_eq_true rfl)
  intro p e s m below meth c hc hlk hrt hin2 ht
  have hc : sg_Cx p s m _ c cJxa1e45_init_da8c8 1 RJxa1e45 g := hc
  show sg_W p l e _ s m _ below meth c 1 g 0 0 _ C 0 [(0, .ref a)] []
  refine sw_aload_n (pc := 0) hc dJxa1e45_init_da8c8_0 rfl 0 rfl ?_
  refine sw_objInit (pc := 1) hc oi_RJxa1e45_1 oi_i oi_c dJxa1e45_init_da8c8_1 ⟨Nat.le_of_ble_eq_true rfl, Nat.le_of_ble_eq_true rfl⟩ ?_
  exact sw_vret (pc := 4) hc hlk hrt ⟨rfl, rfl⟩ (Nat.le_of_ble_eq_true rfl) (Nat.le_of_ble_eq_true rfl) dJxa1e45_init_da8c8_4

set_option maxHeartbeats 4000000 in
set_option maxRecDepth 100000 in
theorem c_Jxc12de_init_da8c8 (l : Launch) (g : sg_G) (C : Nat → Option va_E) (a : Nat) (hC_a : C a = some (.inr (0, [.int 0, .null, .int 0]))) : sg_Met l yJxc12de_init_da8c8 cJxc12de_init_da8c8 1 none 2 32 0 0 g [.ref a] C (fun v C' => v = none ∧ C' = sg_ov C [(a, .inr (0, [.int 0, .null, .int 0]))]) sg_no := by
  refine sg_ofW (by decide) rfl ?_ (Nat.le_of_ble_eq_true rfl)
  intro p e s m below meth c hc hlk hrt hin2 ht
  have hc : sg_Cx p s m _ c cJxc12de_init_da8c8 1 RJxc12de g := hc
  show sg_W p l e _ s m _ below meth c 1 g 0 0 _ C 0 [(0, .ref a)] []
  have hN : sg_nd [a] := ⟨List.not_mem_nil, trivial⟩
  refine sw_eq (C' := sg_ov C [(a, .inr (0, [.int 0, .null, .int 0]))]) (sg_ov_self2 (List.forall_mem_cons.mpr ⟨hC_a, fun _ h => absurd h List.not_mem_nil⟩)).symm ?_
  refine sw_aload_n (pc := 0) hc dJxc12de_init_da8c8_0 rfl 0 rfl ?_
  refine sw_callI (pc := 1) (rest := []) hc (c_Jxa1e45_init_da8c8 l g (sg_ov C [(a, .inr (0, [.int 0, .null, .int 0]))]) a ) md_Jxa1e45_init_da8c8 ml_RJxc12de_1 im_Jxa1e45_init_da8c8 rfl rfl rfl (Nat.le_of_ble_eq_true rfl) dJxc12de_init_da8c8_1 ⟨Nat.le_of_ble_eq_true rfl, Nat.le_of_ble_eq_true rfl, Nat.le_of_ble_eq_true rfl, Nat.le_of_ble_eq_true rfl⟩ (fun v C' hP => ?_) (fun _ _ h => h.elim)
  obtain ⟨rfl, rfl⟩ := hP
  refine sw_aload_n (pc := 4) hc dJxc12de_init_da8c8_4 rfl 0 rfl ?_
  refine sw_iconst (pc := 5) (v := 0) hc dJxc12de_init_da8c8_5 (by decide) ?_
  refine sw_putO2 (pc := 6) (k := 0) (fs' := [.int 0, .null, .int 0]) (L := [(a, .inr (0, [.int 0, .null, .int 0]))]) (l' := [(a, .inr (0, [.int 0, .null, .int 0]))]) hc fl_RJxc12de_7 ty_0 fp2_0_0 hN (q0 := 0) rfl rfl rfl (Nat.le_of_ble_eq_true rfl) rfl rfl dJxc12de_init_da8c8_6 ?_
  exact sw_vret (pc := 9) hc hlk hrt ⟨rfl, rfl⟩ (Nat.le_of_ble_eq_true rfl) (Nat.le_of_ble_eq_true rfl) dJxc12de_init_da8c8_9
