
/-! the list grows -/
theorem jmax_le {a b : Nat} (h : a ≤ b) (hb : b ≤ 100000) : jmax (nI a) (nI b) = nI b := by
  unfold jmax
  split
  · rfl
  · rename_i h2
    rcases Nat.lt_or_ge a b with h3 | h3
    · exact absurd (nI_lt h3 (by omega)) h2
    · rw [show a = b by omega]
theorem jmax_ge {a b : Nat} (h : b ≤ a) (hb : a ≤ 100000) : jmax (nI a) (nI b) = nI a := by
  unfold jmax
  split
  · rename_i h2
    exact absurd h2 (nI_nlt h (by omega))
  · rfl
theorem nI_half {n : Nat} (h : n ≤ 100) : nI n >>> (1 &&& 31) = nI (n / 2) := by
  have : ∀ k : Fin 101, nI k.val >>> (1 &&& 31) = nI (k.val / 2) := by decide +kernel
  exact this ⟨n, by omega⟩
theorem nI_sub1 (n : Nat) : nI (n + 1) - nI n = 1 := by
  rw [show nI (n + 1) = nI n + 1 from (nI_1 n).symm, Int32.add_comm, Int32.add_sub_cancel]

theorem sg_tr_0 (f : Nat → Nat) : sg_tr f 0 = fun _ => none := by
  funext i
  exact if_neg (Nat.not_lt_zero _)
theorem sg_up_up {C : Nat → Option va_E} {a : Nat} {x z : va_E} : sg_up (sg_up C a x) a z = sg_up C a z := by
  funext y
  by_cases h : y = a
  · subst h; rw [sg_up_s, sg_up_s]
  · rw [sg_up_n h, sg_up_n h, sg_up_n h]
theorem sg_half {n : Nat} (h : 10 ≤ n) (hn : n ≤ 100) : nI n + jmax 1 (nI (n / 2)) = nI (n + n / 2) := by
  rw [show (1 : Int32) = nI 1 from rfl, jmax_le (by omega) (by omega), nI_add]
theorem nI_0lt {n : Nat} (h0 : 0 < n) (h : n ≤ 100000) : (0 : Int32) < nI n := nI_lt (a := 0) h0 (by omega)
theorem nI_top {n : Nat} (h : n ≤ 100000) : nI n ≤ 2147483639 := nI_le (b := 2147483639) (by omega) (by omega)

theorem kl_RJ7_110 : Cond.classLink RJ7 110 "[Ljava/lang/Object;" ∈ sg_T := sg_mem (i := 305) (by decide +kernel) rfl
theorem kl_RJ7_2 : Cond.classLink RJ7 2 "java/lang/Object" ∈ sg_T := sg_mem (i := 307) (by decide +kernel) rfl
theorem mm_RJ7_304 : sg_Mmin RJ7 304 := ⟨sg_mem (i := 308) (by decide +kernel) rfl, sg_mem (i := 309) (by decide +kernel) rfl, sg_mem (i := 37) (by decide +kernel) rfl, sg_mem (i := 310) (by decide +kernel) rfl⟩
theorem ay_RJ7_150 : sg_AC RJ7 150 := ⟨sg_mem (i := 311) (by decide +kernel) rfl, sg_mem (i := 313) (by decide +kernel) rfl, sg_mem (i := 312) (by decide +kernel) rfl, sg_mem (i := 39) (by decide +kernel) rfl⟩
theorem gc_RJ7_86 : sg_GC RJ7 86 := ⟨sg_mem (i := 286) (by decide +kernel) rfl, sg_memN (i := 831) (by decide +kernel) rfl, sg_mem (i := 830) (by decide +kernel) rfl, sg_mem (i := 287) (by decide +kernel) rfl, sg_mem (i := 301) (by decide +kernel) rfl⟩
theorem md_J7_copyOf_6403c : sg_MD yJ7_copyOf_6403c cJ7_copyOf_6403c 4 (some (.array (.object "java/lang/Object"))) 3 := ⟨sg_mem (i := 304) (by decide +kernel) rfl, sg_mem (i := 38) (by decide +kernel) rfl, ⟨by decide, by decide⟩, by decide +kernel⟩
theorem ml_RJ7_300 : sg_ML RJ7 300 yJ7_copyOf_6403c := .inl (sg_mem (i := 302) (by decide +kernel) rfl)
theorem st_J7_copyOf_6403c : Cond.static yJ7_copyOf_6403c ∈ sg_T := sg_mem (i := 303) (by decide +kernel) rfl
theorem ge_RJx4a65c : Cond.fieldLink RJx4a65c 39 "java/util/ArrayList" "DEFAULTCAPACITY_EMPTY_ELEMENTDATA" "[Ljava/lang/Object;" ∈ sg_T := sg_mem (i := 69) (by decide +kernel) rfl
theorem mm_RJx4a65c_79 : sg_Mmax RJx4a65c 79 := ⟨sg_mem (i := 314) (by decide +kernel) rfl, sg_mem (i := 277) (by decide +kernel) rfl, sg_mem (i := 37) (by decide +kernel) rfl, sg_mem (i := 278) (by decide +kernel) rfl⟩
theorem kl_RJx4a65c_7 : Cond.classLink RJx4a65c 7 "java/lang/Object" ∈ sg_T := sg_mem (i := 315) (by decide +kernel) rfl
theorem fp_0_1 : sg_FP 0 1 false (.array (.object "java/lang/Object")) := ⟨RJx4a65c, TJx4a65c, 3, rfl, rfl, by decide +kernel, rfl⟩
theorem md_J8_newLength_cabcc : sg_MD yJ8_newLength_cabcc cJ8_newLength_cabcc 4 (some .int) 3 := ⟨sg_mem (i := 275) (by decide +kernel) rfl, sg_mem (i := 36) (by decide +kernel) rfl, ⟨by decide, by decide⟩, by decide +kernel⟩
theorem ml_RJx4a65c_73 : sg_ML RJx4a65c 73 yJ8_newLength_cabcc := .inl (sg_mem (i := 273) (by decide +kernel) rfl)
theorem st_J8_newLength_cabcc : Cond.static yJ8_newLength_cabcc ∈ sg_T := sg_mem (i := 274) (by decide +kernel) rfl
theorem md_J7_copyOf_1904c : sg_MD yJ7_copyOf_1904c cJ7_copyOf_1904c 2 (some (.array (.object "java/lang/Object"))) 2 := ⟨sg_mem (i := 285) (by decide +kernel) rfl, sg_mem (i := 38) (by decide +kernel) rfl, ⟨by decide, by decide⟩, by decide +kernel⟩
theorem ml_RJx4a65c_66 : sg_ML RJx4a65c 66 yJ7_copyOf_1904c := .inl (sg_mem (i := 283) (by decide +kernel) rfl)
theorem st_J7_copyOf_1904c : Cond.static yJ7_copyOf_1904c ∈ sg_T := sg_mem (i := 284) (by decide +kernel) rfl
theorem md_Jx4a65c_grow_92f84 : sg_MD yJx4a65c_grow_92f84 cJx4a65c_grow_92f84 4 (some (.array (.object "java/lang/Object"))) 1 := ⟨sg_mem (i := 272) (by decide +kernel) rfl, sg_mem (i := 29) (by decide +kernel) rfl, ⟨by decide, by decide⟩, by decide +kernel⟩
theorem ml_RJx4a65c_69 : sg_ML RJx4a65c 69 yJx4a65c_grow_92f84 := .inl (sg_mem (i := 269) (by decide +kernel) rfl)
theorem im_Jx4a65c_grow_92f84 : Cond.instanceMethod yJx4a65c_grow_92f84 ∈ sg_T := sg_mem (i := 271) (by decide +kernel) rfl
theorem sl_Jx4a65c_grow_92f84 : Cond.selects yJx4a65c_grow_92f84.cls yJx4a65c_grow_92f84 yJx4a65c_grow_92f84 ∈ sg_T := sg_mem (i := 3) (by decide +kernel) rfl
theorem md_Jx4a65c_grow_d5877 : sg_MD yJx4a65c_grow_d5877 cJx4a65c_grow_d5877 1 (some (.array (.object "java/lang/Object"))) 0 := ⟨sg_mem (i := 268) (by decide +kernel) rfl, sg_mem (i := 29) (by decide +kernel) rfl, ⟨by decide, by decide⟩, by decide +kernel⟩
theorem ml_RJx4a65c_129 : sg_ML RJx4a65c 129 yJx4a65c_grow_d5877 := .inl (sg_mem (i := 265) (by decide +kernel) rfl)
theorem im_Jx4a65c_grow_d5877 : Cond.instanceMethod yJx4a65c_grow_d5877 ∈ sg_T := sg_mem (i := 267) (by decide +kernel) rfl
theorem sl_Jx4a65c_grow_d5877 : Cond.selects yJx4a65c_grow_d5877.cls yJx4a65c_grow_d5877 yJx4a65c_grow_d5877 ∈ sg_T := sg_mem (i := 2) (by decide +kernel) rfl
theorem fp_0_2 : sg_FP 0 2 false .int := ⟨RJx4a65c, TJx4a65c, 3, rfl, rfl, by decide +kernel, rfl⟩
theorem fl_RJx4a65c_63 : sg_FL RJx4a65c 63 0 0 := ⟨RJx4a65c, TJx4a65c, 3, "java/util/ArrayList", rfl, by decide, ti_0, .inr (sg_mem (i := 75) (by decide +kernel) rfl), .inl (sg_mem (i := 74) (by decide +kernel) rfl)⟩
theorem md_Jx4a65c_add_72be8 : sg_MD yJx4a65c_add_72be8 cJx4a65c_add_72be8 4 none 3 := ⟨sg_mem (i := 264) (by decide +kernel) rfl, sg_mem (i := 29) (by decide +kernel) rfl, ⟨by decide, by decide⟩, by decide +kernel⟩
theorem ml_RJx4a65c_131 : sg_ML RJx4a65c 131 yJx4a65c_add_72be8 := .inl (sg_mem (i := 261) (by decide +kernel) rfl)
theorem im_Jx4a65c_add_72be8 : Cond.instanceMethod yJx4a65c_add_72be8 ∈ sg_T := sg_mem (i := 263) (by decide +kernel) rfl
theorem sl_Jx4a65c_add_72be8 : Cond.selects yJx4a65c_add_72be8.cls yJx4a65c_add_72be8 yJx4a65c_add_72be8 ∈ sg_T := sg_mem (i := 1) (by decide +kernel) rfl
set_option maxHeartbeats 4000000 in
set_option maxRecDepth 100000 in
theorem c_J7_copyOf_6403c (l : Launch) (g : sg_G) (C : Nat → Option va_E) (a : Nat) (k : Nat) (n : Nat) (f : Nat → Nat) (ci : Nat) (r : vw_C) (hC_a : C a = some (sg_qa g k (sg_tr f k))) (hkn : k ≤ n) (hn : n ≤ 100) (hE : ∀ i, i < k → ∃ vs, C (f i) = some (.inr (ci, vs))) (hcl : vwCl[ci]? = some r) (hca : Cond.castable r.1 "java/lang/Object" ∈ sg_N) : sg_Met l yJ7_copyOf_6403c cJ7_copyOf_6403c 4 (some (.array (.object "java/lang/Object"))) 1 30 1 100 g [.ref a, .int (nI n), .ref (g.2.2.2 1)] C (fun v C' => ∃ b, C b = none ∧ v = some (.ref b) ∧ C' = sg_ov C [(b, sg_qa g n (sg_tr f k))]) (sg_no) := by
  refine sg_ofW (by decide) rfl ?_ (Nat.le_of_ble_eq_true rfl)
  intro p e s m below meth c hc hlk hrt hin2 htb
  have hc : sg_Cx p s m _ c cJ7_copyOf_6403c 4 RJ7 g := hc
  show sg_W p l e _ s m _ below meth c 4 g 0 0 _ C 0 [(0, .ref a), (1, .int (nI n)), (2, .ref (g.2.2.2 1))] []
  refine sw_aload_n (pc := 0) hc dJ7_copyOf_6403c_0 rfl 2 rfl ?_
  refine sw_ldcM (pc := 1) hc kl_RJ7_110 dJ7_copyOf_6403c_1 ?_
  refine sw_acmp_ne (pc := 3) (rx := (some (g.2.2.2 1))) (ry := (some (g.2.2.2 1))) (tgt := 13) hc dJ7_copyOf_6403c_3 (by decide) (fun c_1 => ?_) (fun c_1 => ?_)
  ·
    exact absurd rfl c_1
  ·
    refine sw_iload_n (pc := 6) hc dJ7_copyOf_6403c_6 rfl 1 rfl ?_
    refine sw_newq (pc := 7) (n := n) hc kl_RJ7_2 rfl (by omega) ⟨Nat.le_of_ble_eq_true rfl, (by show _ ≤ 100; omega)⟩ dJ7_copyOf_6403c_7 (fun w2 hf_w2 => ?_)
    have fa_w2 : C w2 = none := (sg_fresh (C := C) (L := []) hf_w2).2
    have hN : sg_nd [w2] := ⟨(sg_fresh (C := C) (L := []) hf_w2).1, trivial⟩
    refine sw_eq (C' := sg_ov C [(w2, sg_qa g n (fun _ => none))]) rfl ?_
    refine sw_widen (k := 1) (n := 100) (Nat.le_refl _) (by omega) ?_
    refine sw_goto (pc := 10) (tgt := 24) hc dJ7_copyOf_6403c_10 (by decide) ?_
    refine sw_astore_n (pc := 24) hc dJ7_copyOf_6403c_24 rfl (by decide) (lv' := [(3, .ref w2), (0, .ref a), (1, .int (nI n)), (2, .ref (g.2.2.2 1))]) rfl ?_
    refine sw_aload_n (pc := 25) hc dJ7_copyOf_6403c_25 rfl 1 rfl ?_
    refine sw_iconst (pc := 26) (v := 0) hc dJ7_copyOf_6403c_26 (by decide) ?_
    refine sw_aload_n (pc := 27) hc dJ7_copyOf_6403c_27 rfl 0 rfl ?_
    refine sw_iconst (pc := 28) (v := 0) hc dJ7_copyOf_6403c_28 (by decide) ?_
    refine sw_aload_n (pc := 29) hc dJ7_copyOf_6403c_29 rfl 1 rfl ?_
    refine sw_alen (pc := 30) hc ((sg_ov_out (sg_nin (sg_nf hC_a fa_w2) List.not_mem_nil)).trans hC_a) dJ7_copyOf_6403c_30 ?_
    refine sw_iload_n (pc := 31) hc dJ7_copyOf_6403c_31 rfl 2 rfl ?_
    refine sw_mmin (pc := 32) hc mm_RJ7_304 ⟨Nat.le_of_ble_eq_true rfl, Nat.le_of_ble_eq_true rfl, Nat.le_of_ble_eq_true rfl, Nat.le_of_ble_eq_true rfl⟩ dJ7_copyOf_6403c_32 ?_
    refine sw_st (st' := [.int (nI k), .int 0, .ref w2, .int 0, .ref a]) (congrArg (fun z => ([.int z, .int 0, .ref w2, .int 0, .ref a] : List Value)) (jmin_le hkn (by omega) : jmin (nI k) (nI n) = nI k)) ?_
    have hel : ∀ i, i < k → ∃ v vs, sg_tr f k i = some v ∧ (sg_ov C [(w2, sg_qa g n (fun _ => none))]) v = some (.inr (ci, vs)) := fun i hi => (hE i hi).elim fun vs h9 => ⟨f i, vs, if_pos hi, (sg_ov_out (sg_nin (sg_nf h9 fa_w2) List.not_mem_nil)).trans h9⟩
    refine sw_copy (pc := 35) (a := a) (b := w2) (n0 := k) (n1 := n) (n := k) hc ay_RJ7_150 ((sg_ov_out (sg_nin (sg_nf hC_a fa_w2) List.not_mem_nil)).trans hC_a) (sg_ov_at hN (k := 0) rfl) rfl rfl rfl (Nat.le_refl _) hkn (by omega) hel hcl hca ⟨Nat.le_of_ble_eq_true rfl, Nat.le_of_ble_eq_true rfl⟩ dJ7_copyOf_6403c_35 ?_
    refine sw_eq (C' := sg_ov C [(w2, sg_qa g n (sg_tr f k))]) ((sg_ov_set (l := [(w2, sg_qa g n (fun _ => none))]) hN (k := 0) rfl).trans (by rw [va_cpy_tr]; rfl)) ?_
    refine sw_aload_n (pc := 38) hc dJ7_copyOf_6403c_38 rfl 0 rfl ?_
    exact sw_aret (pc := 39) hc hlk hrt (.inr ⟨_, rfl⟩) (.inr ⟨_, rfl⟩) ⟨w2, fa_w2, rfl, rfl⟩ (Nat.le_of_ble_eq_true rfl) (Nat.le_of_ble_eq_true rfl) dJ7_copyOf_6403c_39

set_option maxHeartbeats 4000000 in
set_option maxRecDepth 100000 in
theorem c_J7_copyOf_1904c (l : Launch) (g : sg_G) (C : Nat → Option va_E) (a : Nat) (k : Nat) (n : Nat) (f : Nat → Nat) (ci : Nat) (r : vw_C) (hC_a : C a = some (sg_qa g k (sg_tr f k))) (hkn : k ≤ n) (hn : n ≤ 100) (hE : ∀ i, i < k → ∃ vs, C (f i) = some (.inr (ci, vs))) (hcl : vwCl[ci]? = some r) (hca : Cond.castable r.1 "java/lang/Object" ∈ sg_N) : sg_Met l yJ7_copyOf_1904c cJ7_copyOf_1904c 2 (some (.array (.object "java/lang/Object"))) 2 53 1 100 g [.ref a, .int (nI n)] C (fun v C' => ∃ b, C b = none ∧ v = some (.ref b) ∧ C' = sg_ov C [(b, sg_qa g n (sg_tr f k))]) (sg_no) := by
  refine sg_ofW (by decide) rfl ?_ (Nat.le_of_ble_eq_true rfl)
  intro p e s m below meth c hc hlk hrt hin2 htb
  have hc : sg_Cx p s m _ c cJ7_copyOf_1904c 2 RJ7 g := hc
  show sg_W p l e _ s m _ below meth c 2 g 0 0 _ C 0 [(0, .ref a), (1, .int (nI n))] []
  refine sw_aload_n (pc := 0) hc dJ7_copyOf_1904c_0 rfl 0 rfl ?_
  refine sw_iload_n (pc := 1) hc dJ7_copyOf_1904c_1 rfl 1 rfl ?_
  refine sw_aload_n (pc := 2) hc dJ7_copyOf_1904c_2 rfl 0 rfl ?_
  refine sw_getC (pc := 3) hc gc_RJ7_86 hC_a ⟨Nat.le_of_ble_eq_true rfl, Nat.le_of_ble_eq_true rfl⟩ dJ7_copyOf_1904c_3 ?_
  refine sw_callS (pc := 6) (rest := []) hc (c_J7_copyOf_6403c l g C a k n f ci r hC_a hkn hn hE hcl hca) md_J7_copyOf_6403c ml_RJ7_300 st_J7_copyOf_6403c rfl rfl (Nat.le_of_ble_eq_true rfl) dJ7_copyOf_1904c_6 ⟨Nat.le_of_ble_eq_true rfl, Nat.le_of_ble_eq_true rfl, Nat.le_of_ble_eq_true rfl, Nat.le_of_ble_eq_true rfl⟩ (fun v C' hP => ?_) (fun _ _ h => h.elim)
  obtain ⟨b9, hf_b9, rfl, rfl⟩ := hP
  have fa_b9 : C b9 = none := (sg_fresh (C := C) (L := []) hf_b9).2
  have hN : sg_nd [b9] := ⟨(sg_fresh (C := C) (L := []) hf_b9).1, trivial⟩
  refine sw_eq (C' := sg_ov C [(b9, sg_qa g n (sg_tr f k))]) rfl ?_
  refine sw_st (st' := [.ref b9]) rfl ?_
  exact sw_aret (pc := 9) hc hlk hrt (.inr ⟨_, rfl⟩) (.inr ⟨_, rfl⟩) ⟨b9, fa_b9, rfl, rfl⟩ (Nat.le_of_ble_eq_true rfl) (Nat.le_of_ble_eq_true rfl) dJ7_copyOf_1904c_9

set_option maxHeartbeats 4000000 in
set_option maxRecDepth 100000 in
theorem c_Jx4a65c_grow_92f84 (l : Launch) (g : sg_G) (C : Nat → Option va_E) (a : Nat) (w : Int32) (n : Nat) (arr : Nat) (f : Nat → Nat) (ci : Nat) (r : vw_C) (hC_a : C a = some (.inr (0, [.int w, .ref arr, .int (nI n)]))) (hA : (n = 0 ∧ arr = g.2.2.2 0) ∨ (0 < n ∧ n = sg_cap n ∧ C arr = some (sg_qa g n (sg_tr f n)))) (hn : n ≤ 40) (hE : ∀ i, i < n → ∃ vs, C (f i) = some (.inr (ci, vs))) (hcl : vwCl[ci]? = some r) (hca : Cond.castable r.1 "java/lang/Object" ∈ sg_N) (hci : 0 < ci ∧ ci < 100) : sg_Met l yJx4a65c_grow_92f84 cJx4a65c_grow_92f84 4 (some (.array (.object "java/lang/Object"))) 3 74 1 100 g [.ref a, .int (nI (n + 1))] C (fun v C' => ∃ b, C b = none ∧ sg_nd [b, a] ∧ v = some (.ref b) ∧ C' = sg_ov C [(b, sg_qa g (sg_cap (n + 1)) (sg_tr f n)), (a, .inr (0, [.int w, .ref b, .int (nI n)]))]) (sg_no) := by
  refine sg_ofW (by decide) rfl ?_ (Nat.le_of_ble_eq_true rfl)
  intro p e s m below meth c hc hlk hrt hin2 htb
  have hc : sg_Cx p s m _ c cJx4a65c_grow_92f84 4 RJx4a65c g := hc
  rcases hA with ⟨rfl, rfl⟩ | ⟨h0, hcap, hB⟩
  · show sg_W p l e _ s m _ below meth c 4 g 0 0 _ C 0 [(0, .ref a), (1, .int (nI (0 + 1)))] []
    have hN : sg_nd [a] := ⟨List.not_mem_nil, trivial⟩
    refine sw_eq (C' := sg_ov C [(a, .inr (0, [.int w, .ref (g.2.2.2 0), .int (nI 0)]))]) (sg_ov_self2 (List.forall_mem_cons.mpr ⟨hC_a, fun _ h => absurd h List.not_mem_nil⟩)).symm ?_
    refine sw_aload_n (pc := 0) hc dJx4a65c_grow_92f84_0 rfl 0 rfl ?_
    refine sw_get (pc := 1) (v := .ref (g.2.2.2 0)) hc fl_RJx4a65c_9 (sg_ov_at hN (k := 0) rfl) rfl dJx4a65c_grow_92f84_1 ?_
    refine sw_alene (pc := 4) hc dJx4a65c_grow_92f84_4 ?_
    refine sw_istore_n (pc := 5) hc dJx4a65c_grow_92f84_5 rfl (by decide) (lv' := [(2, .int 0), (0, .ref a), (1, .int (nI (0 + 1)))]) rfl ?_
    refine sw_iload_n (pc := 6) hc dJx4a65c_grow_92f84_6 rfl 0 rfl ?_
    refine sw_if_gt (pc := 7) (tgt := 20) hc dJx4a65c_grow_92f84_7 (by decide) (fun c_1 => ?_) (fun c_1 => ?_)
    ·
      exact absurd c_1 (by decide)
    ·
      have c_1' := Int32.not_lt.mp c_1
      refine sw_aload_n (pc := 10) hc dJx4a65c_grow_92f84_10 rfl 1 rfl ?_
      refine sw_get (pc := 11) (v := .ref (g.2.2.2 0)) hc fl_RJx4a65c_9 (sg_ov_at hN (k := 0) rfl) rfl dJx4a65c_grow_92f84_11 ?_
      refine sw_gete (pc := 14) hc ge_RJx4a65c dJx4a65c_grow_92f84_14 ?_
      refine sw_acmp_eq (pc := 17) (rx := (some (g.2.2.2 0))) (ry := (some (g.2.2.2 0))) (tgt := 45) hc dJx4a65c_grow_92f84_17 (by decide) (fun c_2 => ?_) (fun c_2 => ?_)
      ·
        refine sw_aload_n (pc := 45) hc dJx4a65c_grow_92f84_45 rfl 1 rfl ?_
        refine sw_bipush (pc := 46) (v := 10) hc dJx4a65c_grow_92f84_46 (by decide) ?_
        refine sw_iload_n (pc := 48) hc dJx4a65c_grow_92f84_48 rfl 2 rfl ?_
        refine sw_mmax (pc := 49) hc mm_RJx4a65c_79 ⟨Nat.le_of_ble_eq_true rfl, Nat.le_of_ble_eq_true rfl, Nat.le_of_ble_eq_true rfl, Nat.le_of_ble_eq_true rfl⟩ dJx4a65c_grow_92f84_49 ?_
        refine sw_st (st' := [.int 10, .ref a]) (congrArg (fun z => ([.int z, .ref a] : List Value)) (by decide : jmax 10 (nI (0 + 1)) = 10)) ?_
        refine sw_newq (pc := 52) (n := 10) hc kl_RJx4a65c_7 rfl (by omega) ⟨Nat.le_of_ble_eq_true rfl, Nat.le_of_ble_eq_true rfl⟩ dJx4a65c_grow_92f84_52 (fun w3 hf_w3 => ?_)
        have fa_w3 : C w3 = none := (sg_fresh (C := C) (L := [(a, .inr (0, [.int w, .ref (g.2.2.2 0), .int (nI 0)]))]) hf_w3).2
        have hN : sg_nd [w3, a] := ⟨(sg_fresh (C := C) (L := [(a, .inr (0, [.int w, .ref (g.2.2.2 0), .int (nI 0)]))]) hf_w3).1, hN⟩
        refine sw_eq (C' := sg_ov C [(w3, sg_qa g 10 (fun _ => none)), (a, .inr (0, [.int w, .ref (g.2.2.2 0), .int (nI 0)]))]) rfl ?_
        refine sw_dup_x1 (pc := 55) hc dJx4a65c_grow_92f84_55 rfl rfl ?_
        refine sw_putO (pc := 56) (k := 1) (fs' := [.int w, .ref w3, .int (nI 0)]) (L := [(w3, sg_qa g 10 (fun _ => none)), (a, .inr (0, [.int w, .ref (g.2.2.2 0), .int (nI 0)]))]) (l' := [(w3, sg_qa g 10 (fun _ => none)), (a, .inr (0, [.int w, .ref w3, .int (nI 0)]))]) hc fl_RJx4a65c_9 ty_0 fp_0_1 hN (q0 := 1) rfl rfl rfl (Nat.le_of_ble_eq_true rfl) rfl rfl dJx4a65c_grow_92f84_56 ?_
        exact sw_aret (pc := 59) hc hlk hrt (.inr ⟨_, rfl⟩) (.inr ⟨_, rfl⟩) ⟨w3, fa_w3, hN, rfl, by rw [show sg_cap (0 + 1) = 10 from rfl, sg_tr_0]⟩ (Nat.le_of_ble_eq_true rfl) (Nat.le_of_ble_eq_true rfl) dJx4a65c_grow_92f84_59
      ·
        exact absurd rfl c_2
  · show sg_W p l e _ s m _ below meth c 4 g 0 0 _ C 0 [(0, .ref a), (1, .int (nI (n + 1)))] []
    have hN : sg_nd [a] := ⟨List.not_mem_nil, trivial⟩
    have h10 : 10 ≤ n := by rw [hcap]; exact sg_cap_10 n
    have hj := sg_half h10 (by omega)
    have hup := sg_cap_up hcap hn
    refine sw_eq (C' := sg_ov C [(a, .inr (0, [.int w, .ref arr, .int (nI n)]))]) (sg_ov_self2 (List.forall_mem_cons.mpr ⟨hC_a, fun _ h => absurd h List.not_mem_nil⟩)).symm ?_
    refine sw_aload_n (pc := 0) hc dJx4a65c_grow_92f84_0 rfl 0 rfl ?_
    refine sw_get (pc := 1) (v := .ref arr) hc fl_RJx4a65c_9 (sg_ov_at hN (k := 0) rfl) rfl dJx4a65c_grow_92f84_1 ?_
    refine sw_alen (pc := 4) hc ((sg_ov_out (sg_nin (sg_ne hB hC_a (Nat.ne_of_beq_eq_false rfl)) List.not_mem_nil)).trans hB) dJx4a65c_grow_92f84_4 ?_
    refine sw_istore_n (pc := 5) hc dJx4a65c_grow_92f84_5 rfl (by decide) (lv' := [(2, .int (nI n)), (0, .ref a), (1, .int (nI (n + 1)))]) rfl ?_
    refine sw_iload_n (pc := 6) hc dJx4a65c_grow_92f84_6 rfl 0 rfl ?_
    refine sw_if_gt (pc := 7) (tgt := 20) hc dJx4a65c_grow_92f84_7 (by decide) (fun c_1 => ?_) (fun c_1 => ?_)
    ·
      have c_1' := Int32.not_le.mpr c_1
      refine sw_iload_n (pc := 20) hc dJx4a65c_grow_92f84_20 rfl 0 rfl ?_
      refine sw_iload_n (pc := 21) hc dJx4a65c_grow_92f84_21 rfl 2 rfl ?_
      refine sw_iload_n (pc := 22) hc dJx4a65c_grow_92f84_22 rfl 0 rfl ?_
      refine sw_isub (pc := 23) hc dJx4a65c_grow_92f84_23 ?_
      refine sw_st (st' := [.int 1, .int (nI n)]) (congrArg (fun z => ([.int z, .int (nI n)] : List Value)) (nI_sub1 n : (nI (n + 1)) - (nI n) = 1)) ?_
      refine sw_iload_n (pc := 24) hc dJx4a65c_grow_92f84_24 rfl 0 rfl ?_
      refine sw_iconst (pc := 25) (v := 1) hc dJx4a65c_grow_92f84_25 (by decide) ?_
      refine sw_ishr (pc := 26) hc dJx4a65c_grow_92f84_26 ?_
      refine sw_st (st' := [.int (nI (n / 2)), .int 1, .int (nI n)]) (congrArg (fun z => ([.int z, .int 1, .int (nI n)] : List Value)) (nI_half (by omega) : (nI n) >>> (1 &&& 31) = nI (n / 2))) ?_
      refine sw_callS (pc := 27) (rest := []) hc (c_J8_newLength_cabcc l g (sg_ov C [(a, .inr (0, [.int w, .ref arr, .int (nI n)]))]) (nI n) 1 (nI (n / 2)) (by rw [hj]; exact nI_0lt (by omega) (by omega)) (by rw [hj]; exact nI_top (by omega))) md_J8_newLength_cabcc ml_RJx4a65c_73 st_J8_newLength_cabcc rfl rfl (Nat.le_of_ble_eq_true rfl) dJx4a65c_grow_92f84_27 ⟨Nat.le_of_ble_eq_true rfl, Nat.le_of_ble_eq_true rfl, Nat.le_of_ble_eq_true rfl, Nat.le_of_ble_eq_true rfl⟩ (fun v C' hP => ?_) (fun _ _ h => h.elim)
      obtain ⟨rfl, rfl⟩ := hP
      refine sw_st (st' := [.int ((nI n) + jmax 1 (nI (n / 2)))]) rfl ?_
      refine sw_st (st' := [.int (nI (n + n / 2))]) (congrArg (fun z => ([.int z] : List Value)) (hj : (nI n) + jmax 1 (nI (n / 2)) = nI (n + n / 2))) ?_
      refine sw_istore_n (pc := 30) hc dJx4a65c_grow_92f84_30 rfl (by decide) (lv' := [(3, .int (nI (n + n / 2))), (2, .int (nI n)), (0, .ref a), (1, .int (nI (n + 1)))]) rfl ?_
      refine sw_aload_n (pc := 31) hc dJx4a65c_grow_92f84_31 rfl 2 rfl ?_
      refine sw_aload_n (pc := 32) hc dJx4a65c_grow_92f84_32 rfl 2 rfl ?_
      refine sw_get (pc := 33) (v := .ref arr) hc fl_RJx4a65c_9 (sg_ov_at hN (k := 0) rfl) rfl dJx4a65c_grow_92f84_33 ?_
      refine sw_iload_n (pc := 36) hc dJx4a65c_grow_92f84_36 rfl 0 rfl ?_
      refine sw_callS (pc := 37) (rest := [.ref a]) hc (c_J7_copyOf_1904c l g (sg_ov C [(a, .inr (0, [.int w, .ref arr, .int (nI n)]))]) arr n (n + n / 2) f ci r ((sg_ov_out (sg_nin (sg_ne hB hC_a (Nat.ne_of_beq_eq_false rfl)) List.not_mem_nil)).trans hB) (by omega) (by omega) (fun i hi => (hE i hi).elim fun vs h9 => ⟨vs, (sg_ov_out (sg_nin (sg_ne h9 hC_a (by show ci ≠ 0; omega)) List.not_mem_nil)).trans h9⟩) hcl hca) md_J7_copyOf_1904c ml_RJx4a65c_66 st_J7_copyOf_1904c rfl rfl (Nat.le_of_ble_eq_true rfl) dJx4a65c_grow_92f84_37 ⟨Nat.le_of_ble_eq_true rfl, Nat.le_of_ble_eq_true rfl, Nat.le_of_ble_eq_true rfl, Nat.le_of_ble_eq_true rfl⟩ (fun v C' hP => ?_) (fun _ _ h => h.elim)
      obtain ⟨b9, hf_b9, rfl, rfl⟩ := hP
      have fa_b9 : C b9 = none := (sg_fresh (C := C) (L := [(a, .inr (0, [.int w, .ref arr, .int (nI n)]))]) hf_b9).2
      have hN : sg_nd [b9, a] := ⟨(sg_fresh (C := C) (L := [(a, .inr (0, [.int w, .ref arr, .int (nI n)]))]) hf_b9).1, hN⟩
      refine sw_eq (C' := sg_ov C [(b9, sg_qa g (n + n / 2) (sg_tr f n)), (a, .inr (0, [.int w, .ref arr, .int (nI n)]))]) rfl ?_
      refine sw_st (st' := [.ref b9, .ref a]) rfl ?_
      refine sw_dup_x1 (pc := 40) hc dJx4a65c_grow_92f84_40 rfl rfl ?_
      refine sw_putO (pc := 41) (k := 1) (fs' := [.int w, .ref b9, .int (nI n)]) (L := [(b9, sg_qa g (n + n / 2) (sg_tr f n)), (a, .inr (0, [.int w, .ref arr, .int (nI n)]))]) (l' := [(b9, sg_qa g (n + n / 2) (sg_tr f n)), (a, .inr (0, [.int w, .ref b9, .int (nI n)]))]) hc fl_RJx4a65c_9 ty_0 fp_0_1 hN (q0 := 1) rfl rfl rfl (Nat.le_of_ble_eq_true rfl) rfl rfl dJx4a65c_grow_92f84_41 ?_
      exact sw_aret (pc := 44) hc hlk hrt (.inr ⟨_, rfl⟩) (.inr ⟨_, rfl⟩) ⟨b9, fa_b9, hN, rfl, by rw [hup]⟩ (Nat.le_of_ble_eq_true rfl) (Nat.le_of_ble_eq_true rfl) dJx4a65c_grow_92f84_44
    ·
      exact absurd (nI_0lt h0 (by omega)) c_1

set_option maxHeartbeats 4000000 in
set_option maxRecDepth 100000 in
theorem c_Jx4a65c_grow_d5877 (l : Launch) (g : sg_G) (C : Nat → Option va_E) (a : Nat) (w : Int32) (n : Nat) (arr : Nat) (f : Nat → Nat) (ci : Nat) (r : vw_C) (hC_a : C a = some (.inr (0, [.int w, .ref arr, .int (nI n)]))) (hA : (n = 0 ∧ arr = g.2.2.2 0) ∨ (0 < n ∧ n = sg_cap n ∧ C arr = some (sg_qa g n (sg_tr f n)))) (hn : n ≤ 40) (hE : ∀ i, i < n → ∃ vs, C (f i) = some (.inr (ci, vs))) (hcl : vwCl[ci]? = some r) (hca : Cond.castable r.1 "java/lang/Object" ∈ sg_N) (hci : 0 < ci ∧ ci < 100) : sg_Met l yJx4a65c_grow_d5877 cJx4a65c_grow_d5877 1 (some (.array (.object "java/lang/Object"))) 4 97 1 100 g [.ref a] C (fun v C' => ∃ b, C b = none ∧ sg_nd [b, a] ∧ v = some (.ref b) ∧ C' = sg_ov C [(b, sg_qa g (sg_cap (n + 1)) (sg_tr f n)), (a, .inr (0, [.int w, .ref b, .int (nI n)]))]) (sg_no) := by
  refine sg_ofW (by decide) rfl ?_ (Nat.le_of_ble_eq_true rfl)
  intro p e s m below meth c hc hlk hrt hin2 htb
  have hc : sg_Cx p s m _ c cJx4a65c_grow_d5877 1 RJx4a65c g := hc
  show sg_W p l e _ s m _ below meth c 1 g 0 0 _ C 0 [(0, .ref a)] []
  refine sw_aload_n (pc := 0) hc dJx4a65c_grow_d5877_0 rfl 0 rfl ?_
  refine sw_aload_n (pc := 1) hc dJx4a65c_grow_d5877_1 rfl 0 rfl ?_
  refine sw_get (pc := 2) (v := .int (nI n)) hc fl_RJx4a65c_48 hC_a rfl dJx4a65c_grow_d5877_2 ?_
  refine sw_iconst (pc := 5) (v := 1) hc dJx4a65c_grow_d5877_5 (by decide) ?_
  refine sw_iadd (pc := 6) hc dJx4a65c_grow_d5877_6 ?_
  refine sw_st (st' := [.int (nI (n + 1)), .ref a]) (congrArg (fun z => ([.int z, .ref a] : List Value)) (nI_1 n : (nI n) + 1 = nI (n + 1))) ?_
  refine sw_callV (pc := 7) (rest := []) hc (c_Jx4a65c_grow_92f84 l g C a w n arr f ci r hC_a hA hn hE hcl hca hci) md_Jx4a65c_grow_92f84 ml_RJx4a65c_69 im_Jx4a65c_grow_92f84 sl_Jx4a65c_grow_92f84 hC_a rfl rfl rfl (Nat.le_of_ble_eq_true rfl) dJx4a65c_grow_d5877_7 ⟨Nat.le_of_ble_eq_true rfl, Nat.le_of_ble_eq_true rfl, Nat.le_of_ble_eq_true rfl, Nat.le_of_ble_eq_true rfl⟩ (fun v C' hP => ?_) (fun _ _ h => h.elim)
  obtain ⟨b9, fa_b9, hN, rfl, rfl⟩ := hP
  refine sw_st (st' := [.ref b9]) rfl ?_
  exact sw_aret (pc := 10) hc hlk hrt (.inr ⟨_, rfl⟩) (.inr ⟨_, rfl⟩) ⟨b9, fa_b9, hN, rfl, rfl⟩ (Nat.le_of_ble_eq_true rfl) (Nat.le_of_ble_eq_true rfl) dJx4a65c_grow_d5877_10

set_option maxHeartbeats 4000000 in
set_option maxRecDepth 100000 in
theorem c_Jx4a65c_add_72be8 (l : Launch) (g : sg_G) (C : Nat → Option va_E) (a : Nat) (w : Int32) (n : Nat) (arr : Nat) (f : Nat → Nat) (ci : Nat) (r : vw_C) (x : Nat) (vs : List Value) (hC_a : C a = some (.inr (0, [.int w, .ref arr, .int (nI n)]))) (hA : (n = 0 ∧ arr = g.2.2.2 0) ∨ (0 < n ∧ n = sg_cap n ∧ C arr = some (sg_qa g n (sg_tr f n))) ∨ (0 < n ∧ n < sg_cap n ∧ C arr = some (sg_qa g (sg_cap n) (sg_tr f n)))) (hn : n ≤ 40) (hE : ∀ i, i < n → ∃ vs, C (f i) = some (.inr (ci, vs))) (hcl : vwCl[ci]? = some r) (hca : Cond.castable r.1 "java/lang/Object" ∈ sg_N) (hci : 0 < ci ∧ ci < 100) (hx : C x = some (.inr (ci, vs))) : sg_Met l yJx4a65c_add_72be8 cJx4a65c_add_72be8 4 none 5 117 1 100 g [.ref a, .ref x, .ref arr, .int (nI n)] C (fun v C' => v = none ∧ ∃ b, ((b = arr ∧ 0 < n) ∨ C b = none) ∧ sg_nd [b, a] ∧ C' = sg_ov C [(b, sg_qa g (sg_cap (n + 1)) (sg_tr (sg_fu f n x) (n + 1))), (a, .inr (0, [.int w, .ref b, .int (nI (n + 1))]))]) (sg_no) := by
  refine sg_ofW (by decide) rfl ?_ (Nat.le_of_ble_eq_true rfl)
  intro p e s m below meth c hc hlk hrt hin2 htb
  have hc : sg_Cx p s m _ c cJx4a65c_add_72be8 4 RJx4a65c g := hc
  rcases hA with ⟨rfl, rfl⟩ | ⟨h0, hcap, hB⟩ | ⟨h0, hcap, hB⟩
  · show sg_W p l e _ s m _ below meth c 4 g 0 0 _ C 0 [(0, .ref a), (1, .ref x), (2, .ref (g.2.2.2 0)), (3, .int (nI 0))] []
    refine sw_iload_n (pc := 0) hc dJx4a65c_add_72be8_0 rfl 3 rfl ?_
    refine sw_aload_n (pc := 1) hc dJx4a65c_add_72be8_1 rfl 2 rfl ?_
    refine sw_alene (pc := 2) hc dJx4a65c_add_72be8_2 ?_
    refine sw_icmp_ne (pc := 3) (tgt := 11) hc dJx4a65c_add_72be8_3 (by decide) (fun c_1 => ?_) (fun c_1 => ?_)
    ·
      exact absurd rfl c_1
    ·
      refine sw_aload_n (pc := 6) hc dJx4a65c_add_72be8_6 rfl 0 rfl ?_
      refine sw_callV (pc := 7) (rest := []) hc (c_Jx4a65c_grow_d5877 l g C a w 0 (g.2.2.2 0) f ci r hC_a (.inl ⟨rfl, rfl⟩) hn hE hcl hca hci) md_Jx4a65c_grow_d5877 ml_RJx4a65c_129 im_Jx4a65c_grow_d5877 sl_Jx4a65c_grow_d5877 hC_a rfl rfl rfl (Nat.le_of_ble_eq_true rfl) dJx4a65c_add_72be8_7 ⟨Nat.le_of_ble_eq_true rfl, Nat.le_of_ble_eq_true rfl, Nat.le_of_ble_eq_true rfl, Nat.le_of_ble_eq_true rfl⟩ (fun v C' hP => ?_) (fun _ _ h => h.elim)
      obtain ⟨b9, fa_b9, hN, rfl, rfl⟩ := hP
      refine sw_st (st' := [.ref b9]) rfl ?_
      refine sw_astore_n (pc := 10) hc dJx4a65c_add_72be8_10 rfl (by decide) (lv' := [(2, .ref b9), (0, .ref a), (1, .ref x), (3, .int (nI 0))]) rfl ?_
      refine sw_aload_n (pc := 11) hc dJx4a65c_add_72be8_11 rfl 0 rfl ?_
      refine sw_iload_n (pc := 12) hc dJx4a65c_add_72be8_12 rfl 3 rfl ?_
      refine sw_aload_n (pc := 13) hc dJx4a65c_add_72be8_13 rfl 2 rfl ?_
      refine sw_aastO (pc := 14) (j := 0) (L := [(b9, sg_qa g (sg_cap (0 + 1)) (sg_tr f 0)), (a, .inr (0, [.int w, .ref b9, .int (nI 0)]))]) (l' := [(b9, sg_qa g (sg_cap (0 + 1)) (va_up (sg_tr f 0) 0 (some x))), (a, .inr (0, [.int w, .ref b9, .int (nI 0)]))]) hc hN (q0 := 0) rfl rfl (sg_cap_ge (n := 1) (by decide)) (Nat.le_trans (sg_cap_le _) (by decide)) ((sg_ov_out (sg_nin (sg_nf hx fa_b9) (sg_nin (sg_ne hx hC_a (show ci ≠ 0 by omega)) List.not_mem_nil))).trans hx) hcl hca rfl dJx4a65c_add_72be8_14 ?_
      refine sw_aload_n (pc := 15) hc dJx4a65c_add_72be8_15 rfl 1 rfl ?_
      refine sw_iload_n (pc := 16) hc dJx4a65c_add_72be8_16 rfl 3 rfl ?_
      refine sw_iconst (pc := 17) (v := 1) hc dJx4a65c_add_72be8_17 (by decide) ?_
      refine sw_iadd (pc := 18) hc dJx4a65c_add_72be8_18 ?_
      refine sw_st (st' := [.int (nI (0 + 1)), .ref a]) (congrArg (fun z => ([.int z, .ref a] : List Value)) (nI_1 0 : (nI 0) + 1 = (nI (0 + 1)))) ?_
      refine sw_putO (pc := 19) (k := 2) (fs' := [.int w, .ref b9, .int (nI (0 + 1))]) (L := [(b9, sg_qa g (sg_cap (0 + 1)) (va_up (sg_tr f 0) 0 (some x))), (a, .inr (0, [.int w, .ref b9, .int (nI 0)]))]) (l' := [(b9, sg_qa g (sg_cap (0 + 1)) (va_up (sg_tr f 0) 0 (some x))), (a, .inr (0, [.int w, .ref b9, .int (nI (0 + 1))]))]) hc fl_RJx4a65c_48 ty_0 fp_0_2 hN (q0 := 1) rfl rfl rfl (Nat.le_of_ble_eq_true rfl) rfl rfl dJx4a65c_add_72be8_19 ?_
      exact sw_vret (pc := 22) hc hlk hrt ⟨rfl, b9, .inr fa_b9, hN, by rw [sg_tr_up]⟩ (Nat.le_of_ble_eq_true rfl) (Nat.le_of_ble_eq_true rfl) dJx4a65c_add_72be8_22
  · show sg_W p l e _ s m _ below meth c 4 g 0 0 _ C 0 [(0, .ref a), (1, .ref x), (2, .ref arr), (3, .int (nI n))] []
    refine sw_iload_n (pc := 0) hc dJx4a65c_add_72be8_0 rfl 3 rfl ?_
    refine sw_aload_n (pc := 1) hc dJx4a65c_add_72be8_1 rfl 2 rfl ?_
    refine sw_alen (pc := 2) hc hB dJx4a65c_add_72be8_2 ?_
    refine sw_icmp_ne (pc := 3) (tgt := 11) hc dJx4a65c_add_72be8_3 (by decide) (fun c_1 => ?_) (fun c_1 => ?_)
    ·
      exact absurd rfl c_1
    ·
      refine sw_aload_n (pc := 6) hc dJx4a65c_add_72be8_6 rfl 0 rfl ?_
      refine sw_callV (pc := 7) (rest := []) hc (c_Jx4a65c_grow_d5877 l g C a w n arr f ci r hC_a (.inr ⟨h0, hcap, hB⟩) hn hE hcl hca hci) md_Jx4a65c_grow_d5877 ml_RJx4a65c_129 im_Jx4a65c_grow_d5877 sl_Jx4a65c_grow_d5877 hC_a rfl rfl rfl (Nat.le_of_ble_eq_true rfl) dJx4a65c_add_72be8_7 ⟨Nat.le_of_ble_eq_true rfl, Nat.le_of_ble_eq_true rfl, Nat.le_of_ble_eq_true rfl, Nat.le_of_ble_eq_true rfl⟩ (fun v C' hP => ?_) (fun _ _ h => h.elim)
      obtain ⟨b9, fa_b9, hN, rfl, rfl⟩ := hP
      refine sw_st (st' := [.ref b9]) rfl ?_
      refine sw_astore_n (pc := 10) hc dJx4a65c_add_72be8_10 rfl (by decide) (lv' := [(2, .ref b9), (0, .ref a), (1, .ref x), (3, .int (nI n))]) rfl ?_
      refine sw_aload_n (pc := 11) hc dJx4a65c_add_72be8_11 rfl 0 rfl ?_
      refine sw_iload_n (pc := 12) hc dJx4a65c_add_72be8_12 rfl 3 rfl ?_
      refine sw_aload_n (pc := 13) hc dJx4a65c_add_72be8_13 rfl 2 rfl ?_
      refine sw_aastO (pc := 14) (j := n) (L := [(b9, sg_qa g (sg_cap (n + 1)) (sg_tr f n)), (a, .inr (0, [.int w, .ref b9, .int (nI n)]))]) (l' := [(b9, sg_qa g (sg_cap (n + 1)) (va_up (sg_tr f n) n (some x))), (a, .inr (0, [.int w, .ref b9, .int (nI n)]))]) hc hN (q0 := 0) rfl rfl (sg_cap_ge (n := n + 1) (by omega)) (Nat.le_trans (sg_cap_le _) (by decide)) ((sg_ov_out (sg_nin (sg_nf hx fa_b9) (sg_nin (sg_ne hx hC_a (show ci ≠ 0 by omega)) List.not_mem_nil))).trans hx) hcl hca rfl dJx4a65c_add_72be8_14 ?_
      refine sw_aload_n (pc := 15) hc dJx4a65c_add_72be8_15 rfl 1 rfl ?_
      refine sw_iload_n (pc := 16) hc dJx4a65c_add_72be8_16 rfl 3 rfl ?_
      refine sw_iconst (pc := 17) (v := 1) hc dJx4a65c_add_72be8_17 (by decide) ?_
      refine sw_iadd (pc := 18) hc dJx4a65c_add_72be8_18 ?_
      refine sw_st (st' := [.int (nI (n + 1)), .ref a]) (congrArg (fun z => ([.int z, .ref a] : List Value)) (nI_1 n : (nI n) + 1 = nI (n + 1))) ?_
      refine sw_putO (pc := 19) (k := 2) (fs' := [.int w, .ref b9, .int (nI (n + 1))]) (L := [(b9, sg_qa g (sg_cap (n + 1)) (va_up (sg_tr f n) n (some x))), (a, .inr (0, [.int w, .ref b9, .int (nI n)]))]) (l' := [(b9, sg_qa g (sg_cap (n + 1)) (va_up (sg_tr f n) n (some x))), (a, .inr (0, [.int w, .ref b9, .int (nI (n + 1))]))]) hc fl_RJx4a65c_48 ty_0 fp_0_2 hN (q0 := 1) rfl rfl rfl (Nat.le_of_ble_eq_true rfl) rfl rfl dJx4a65c_add_72be8_19 ?_
      exact sw_vret (pc := 22) hc hlk hrt ⟨rfl, b9, .inr fa_b9, hN, by rw [sg_tr_up]⟩ (Nat.le_of_ble_eq_true rfl) (Nat.le_of_ble_eq_true rfl) dJx4a65c_add_72be8_22
  · show sg_W p l e _ s m _ below meth c 4 g 0 0 _ C 0 [(0, .ref a), (1, .ref x), (2, .ref arr), (3, .int (nI n))] []
    have hN : sg_nd [arr, a] := ⟨sg_nin (sg_ne hB hC_a (Nat.ne_of_beq_eq_false rfl)) List.not_mem_nil, List.not_mem_nil, trivial⟩
    refine sw_eq (C' := sg_ov C [(arr, sg_qa g (sg_cap n) (sg_tr f n)), (a, .inr (0, [.int w, .ref arr, .int (nI n)]))]) (sg_ov_self2 (List.forall_mem_cons.mpr ⟨hB, List.forall_mem_cons.mpr ⟨hC_a, fun _ h => absurd h List.not_mem_nil⟩⟩)).symm ?_
    refine sw_iload_n (pc := 0) hc dJx4a65c_add_72be8_0 rfl 3 rfl ?_
    refine sw_aload_n (pc := 1) hc dJx4a65c_add_72be8_1 rfl 2 rfl ?_
    refine sw_alen (pc := 2) hc (sg_ov_at hN (k := 0) rfl) dJx4a65c_add_72be8_2 ?_
    refine sw_icmp_ne (pc := 3) (tgt := 11) hc dJx4a65c_add_72be8_3 (by decide) (fun c_1 => ?_) (fun c_1 => ?_)
    ·
      refine sw_aload_n (pc := 11) hc dJx4a65c_add_72be8_11 rfl 2 rfl ?_
      refine sw_iload_n (pc := 12) hc dJx4a65c_add_72be8_12 rfl 3 rfl ?_
      refine sw_aload_n (pc := 13) hc dJx4a65c_add_72be8_13 rfl 1 rfl ?_
      refine sw_aastO (pc := 14) (j := n) (L := [(arr, sg_qa g (sg_cap n) (sg_tr f n)), (a, .inr (0, [.int w, .ref arr, .int (nI n)]))]) (l' := [(arr, sg_qa g (sg_cap n) (va_up (sg_tr f n) n (some x))), (a, .inr (0, [.int w, .ref arr, .int (nI n)]))]) hc hN (q0 := 0) rfl rfl hcap (Nat.le_trans (sg_cap_le _) (by decide)) ((sg_ov_out (sg_nin (sg_ne hx hB (show ci ≠ 102 by omega)) (sg_nin (sg_ne hx hC_a (show ci ≠ 0 by omega)) List.not_mem_nil))).trans hx) hcl hca rfl dJx4a65c_add_72be8_14 ?_
      refine sw_aload_n (pc := 15) hc dJx4a65c_add_72be8_15 rfl 0 rfl ?_
      refine sw_iload_n (pc := 16) hc dJx4a65c_add_72be8_16 rfl 3 rfl ?_
      refine sw_iconst (pc := 17) (v := 1) hc dJx4a65c_add_72be8_17 (by decide) ?_
      refine sw_iadd (pc := 18) hc dJx4a65c_add_72be8_18 ?_
      refine sw_st (st' := [.int (nI (n + 1)), .ref a]) (congrArg (fun z => ([.int z, .ref a] : List Value)) (nI_1 n : (nI n) + 1 = nI (n + 1))) ?_
      refine sw_putO (pc := 19) (k := 2) (fs' := [.int w, .ref arr, .int (nI (n + 1))]) (L := [(arr, sg_qa g (sg_cap n) (va_up (sg_tr f n) n (some x))), (a, .inr (0, [.int w, .ref arr, .int (nI n)]))]) (l' := [(arr, sg_qa g (sg_cap n) (va_up (sg_tr f n) n (some x))), (a, .inr (0, [.int w, .ref arr, .int (nI (n + 1))]))]) hc fl_RJx4a65c_48 ty_0 fp_0_2 hN (q0 := 1) rfl rfl rfl (Nat.le_of_ble_eq_true rfl) rfl rfl dJx4a65c_add_72be8_19 ?_
      exact sw_vret (pc := 22) hc hlk hrt ⟨rfl, arr, .inl ⟨rfl, h0⟩, hN, by rw [sg_tr_up, sg_cap_st hcap]⟩ (Nat.le_of_ble_eq_true rfl) (Nat.le_of_ble_eq_true rfl) dJx4a65c_add_72be8_22
    ·
      exact absurd c_1 (fun z => Nat.ne_of_lt hcap ((nI_eq (by omega) (by have := sg_cap_le n; omega)).mp z))

set_option maxHeartbeats 4000000 in
set_option maxRecDepth 100000 in
theorem c_Jx4a65c_add_9ea2d (l : Launch) (g : sg_G) (C : Nat → Option va_E) (a : Nat) (n : Nat) (arr : Nat) (f : Nat → Nat) (ci : Nat) (r : vw_C) (x : Nat) (vs : List Value) (hC_a : C a = some (.inr (0, [.int (nI n), .ref arr, .int (nI n)]))) (hA : sg_AL g C n arr f) (hn : n ≤ 40) (hE : ∀ i, i < n → ∃ vs, C (f i) = some (.inr (ci, vs))) (hcl : vwCl[ci]? = some r) (hca : Cond.castable r.1 "java/lang/Object" ∈ sg_N) (hci : 0 < ci ∧ ci < 100) (hx : C x = some (.inr (ci, vs))) : sg_Met l yJx4a65c_add_9ea2d cJx4a65c_add_9ea2d 2 (some .boolean) 6 140 1 100 g [.ref a, .ref x] C (fun v C' => v = some (.int 1) ∧ ∃ b, ((b = arr ∧ 0 < n) ∨ C b = none) ∧ sg_nd [b, a] ∧ C' = sg_ov C [(b, sg_qa g (sg_cap (n + 1)) (sg_tr (sg_fu f n x) (n + 1))), (a, .inr (0, [.int (nI (n + 1)), .ref b, .int (nI (n + 1))]))]) (sg_no) := by
  refine sg_ofW (by decide) rfl ?_ (Nat.le_of_ble_eq_true rfl)
  intro p e s m below meth c hc hlk hrt hin2 htb
  have hc : sg_Cx p s m _ c cJx4a65c_add_9ea2d 2 RJx4a65c g := hc
  show sg_W p l e _ s m _ below meth c 2 g 0 0 _ C 0 [(0, .ref a), (1, .ref x)] []
  have hN : sg_nd [a] := ⟨List.not_mem_nil, trivial⟩
  have hA2 : (n = 0 ∧ arr = g.2.2.2 0) ∨ (0 < n ∧ n = sg_cap n ∧ sg_ov C [(a, .inr (0, [.int (nI (n + 1)), .ref arr, .int (nI n)]))] arr = some (sg_qa g n (sg_tr f n))) ∨ (0 < n ∧ n < sg_cap n ∧ sg_ov C [(a, .inr (0, [.int (nI (n + 1)), .ref arr, .int (nI n)]))] arr = some (sg_qa g (sg_cap n) (sg_tr f n))) := by rcases hA with h | ⟨h0, h1⟩; exact .inl h; (have h2 : sg_ov C [(a, .inr (0, [.int (nI (n + 1)), .ref arr, .int (nI n)]))] arr = some (sg_qa g (sg_cap n) (sg_tr f n)) := (sg_ov_out (sg_nin (sg_ne h1 hC_a (Nat.ne_of_beq_eq_false rfl)) List.not_mem_nil)).trans h1); rcases Nat.lt_or_ge n (sg_cap n) with h3 | h3; exact .inr (.inr ⟨h0, h3, h2⟩); (have h4 : n = sg_cap n := Nat.le_antisymm (sg_cap_ge (by omega)) h3); (rw [← h4] at h2); exact .inr (.inl ⟨h0, h4, h2⟩)
  refine sw_eq (C' := sg_ov C [(a, .inr (0, [.int (nI n), .ref arr, .int (nI n)]))]) (sg_ov_self2 (List.forall_mem_cons.mpr ⟨hC_a, fun _ h => absurd h List.not_mem_nil⟩)).symm ?_
  refine sw_aload_n (pc := 0) hc dJx4a65c_add_9ea2d_0 rfl 0 rfl ?_
  refine sw_dup (pc := 1) hc dJx4a65c_add_9ea2d_1 rfl ?_
  refine sw_get (pc := 2) (v := .int (nI n)) hc fl_RJx4a65c_63 (sg_ov_at hN (k := 0) rfl) rfl dJx4a65c_add_9ea2d_2 ?_
  refine sw_iconst (pc := 5) (v := 1) hc dJx4a65c_add_9ea2d_5 (by decide) ?_
  refine sw_iadd (pc := 6) hc dJx4a65c_add_9ea2d_6 ?_
  refine sw_st (st' := [.int (nI (n + 1)), .ref a]) (congrArg (fun z => ([.int z, .ref a] : List Value)) (nI_1 n : (nI n) + 1 = nI (n + 1))) ?_
  refine sw_putO2 (pc := 7) (k := 0) (fs' := [.int (nI (n + 1)), .ref arr, .int (nI n)]) (L := [(a, .inr (0, [.int (nI n), .ref arr, .int (nI n)]))]) (l' := [(a, .inr (0, [.int (nI (n + 1)), .ref arr, .int (nI n)]))]) hc fl_RJx4a65c_63 ty_0 fp2_0_0 hN (q0 := 0) rfl rfl rfl (Nat.le_of_ble_eq_true rfl) rfl rfl dJx4a65c_add_9ea2d_7 ?_
  refine sw_aload_n (pc := 10) hc dJx4a65c_add_9ea2d_10 rfl 0 rfl ?_
  refine sw_aload_n (pc := 11) hc dJx4a65c_add_9ea2d_11 rfl 1 rfl ?_
  refine sw_aload_n (pc := 12) hc dJx4a65c_add_9ea2d_12 rfl 0 rfl ?_
  refine sw_get (pc := 13) (v := .ref arr) hc fl_RJx4a65c_9 (sg_ov_at hN (k := 0) rfl) rfl dJx4a65c_add_9ea2d_13 ?_
  refine sw_aload_n (pc := 16) hc dJx4a65c_add_9ea2d_16 rfl 0 rfl ?_
  refine sw_get (pc := 17) (v := .int (nI n)) hc fl_RJx4a65c_48 (sg_ov_at hN (k := 0) rfl) rfl dJx4a65c_add_9ea2d_17 ?_
  refine sw_callV (pc := 20) (rest := []) hc (c_Jx4a65c_add_72be8 l g (sg_ov C [(a, .inr (0, [.int (nI (n + 1)), .ref arr, .int (nI n)]))]) a (nI (n + 1)) n arr f ci r x vs (sg_ov_at hN (k := 0) rfl) hA2 hn (fun i hi => (hE i hi).elim fun vs h9 => ⟨vs, (sg_ov_out (sg_nin (sg_ne h9 hC_a (show ci ≠ 0 by omega)) List.not_mem_nil)).trans h9⟩) hcl hca hci ((sg_ov_out (sg_nin (sg_ne hx hC_a (show ci ≠ 0 by omega)) List.not_mem_nil)).trans hx)) md_Jx4a65c_add_72be8 ml_RJx4a65c_131 im_Jx4a65c_add_72be8 sl_Jx4a65c_add_72be8 (sg_ov_at hN (k := 0) rfl) rfl rfl rfl (Nat.le_of_ble_eq_true rfl) dJx4a65c_add_9ea2d_20 ⟨Nat.le_of_ble_eq_true rfl, Nat.le_of_ble_eq_true rfl, Nat.le_of_ble_eq_true rfl, Nat.le_of_ble_eq_true rfl⟩ (fun v C' hP => ?_) (fun _ _ h => h.elim)
  obtain ⟨rfl, b9, hb9, hN, rfl⟩ := hP
  refine sw_eq (C' := sg_ov C [(b9, sg_qa g (sg_cap (n + 1)) (sg_tr (sg_fu f n x) (n + 1))), (a, .inr (0, [.int (nI (n + 1)), .ref b9, .int (nI (n + 1))]))]) (congrArg (fun z => sg_up z b9 _) sg_up_up) ?_
  refine sw_st (st' := []) rfl ?_
  refine sw_iconst (pc := 23) (v := 1) hc dJx4a65c_add_9ea2d_23 (by decide) ?_
  exact sw_iret (pc := 24) hc hlk hrt rfl ⟨rfl, b9, hb9.imp id (fun h => (sg_fresh (C := C) (L := [(a, .inr (0, [.int (nI (n + 1)), .ref arr, .int (nI n)]))]) h).2), hN, rfl⟩ (Nat.le_of_ble_eq_true rfl) (Nat.le_of_ble_eq_true rfl) dJx4a65c_add_9ea2d_24
