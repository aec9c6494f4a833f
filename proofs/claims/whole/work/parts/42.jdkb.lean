
/-! the list grows -/
theorem jmax_le {a b : Nat} (h : a ≤ b) (hb : b ≤ 100000) : jmax (nI a) (nI b) = nI b := by
  unfold jmax
  split
  · rfl
  · rename_i h2
    rcases Nat.lt_or_ge a b with h3 | h3
    · exact absurd (nI_lt h3 (by omega)) h2
    · rw [show a = b by omega]
theorem jmax_ge {a b : Nat} (h : b ≤ a) (hb : a ≤ 100000) : jmax (nI a) (nI b) = nI a := by
  unfold jmax
  split
  · rename_i h2
    exact absurd h2 (nI_nlt h (by omega))
  · rfl
theorem nI_half {n : Nat} (h : n ≤ 100) : nI n >>> (1 &&& 31) = nI (n / 2) := by
  have : ∀ k : Fin 101, nI k.val >>> (1 &&& 31) = nI (k.val / 2) := by decide +kernel
  exact this ⟨n, by omega⟩
theorem nI_sub1 (n : Nat) : nI (n + 1) - nI n = 1 := by
  rw [show nI (n + 1) = nI n + 1 from (nI_1 n).symm, Int32.add_comm, Int32.add_sub_cancel]

theorem kl_RJ7_110 : Cond.classLink RJ7 110 "[Ljava/lang/Object;" ∈ sg_T := sg_mem (i := 342) (by decide +kernel) rfl
theorem kl_RJ7_2 : Cond.classLink RJ7 2 "java/lang/Object" ∈ sg_T := sg_mem (i := 344) (by decide +kernel) rfl
theorem mm_RJ7_304 : sg_Mmin RJ7 304 := ⟨sg_mem (i := 345) (by decide +kernel) rfl, sg_mem (i := 346) (by decide +kernel) rfl, sg_mem (i := 66) (by decide +kernel) rfl, sg_mem (i := 347) (by decide +kernel) rfl⟩
theorem ay_RJ7_150 : sg_AC RJ7 150 := ⟨sg_mem (i := 348) (by decide +kernel) rfl, sg_mem (i := 350) (by decide +kernel) rfl, sg_mem (i := 349) (by decide +kernel) rfl, sg_mem (i := 68) (by decide +kernel) rfl⟩
theorem gc_RJ7_86 : sg_GC RJ7 86 := ⟨sg_mem (i := 322) (by decide +kernel) rfl, sg_memN (i := 1217) (by decide +kernel) rfl, sg_mem (i := 1216) (by decide +kernel) rfl, sg_mem (i := 323) (by decide +kernel) rfl, sg_mem (i := 338) (by decide +kernel) rfl⟩
theorem md_J7_copyOf_6403c : sg_MD yJ7_copyOf_6403c cJ7_copyOf_6403c 4 (some (.array (.object "java/lang/Object"))) 3 := ⟨sg_mem (i := 341) (by decide +kernel) rfl, sg_mem (i := 67) (by decide +kernel) rfl, ⟨by decide, by decide⟩, by decide +kernel⟩
theorem ml_RJ7_300 : sg_ML RJ7 300 yJ7_copyOf_6403c := .inl (sg_mem (i := 339) (by decide +kernel) rfl)
theorem st_J7_copyOf_6403c : Cond.static yJ7_copyOf_6403c ∈ sg_T := sg_mem (i := 340) (by decide +kernel) rfl
set_option maxHeartbeats 4000000 in
set_option maxRecDepth 100000 in
theorem c_J7_copyOf_6403c (l : Launch) (g : sg_G) (C : Nat → Option va_E) (a : Nat) (k : Nat) (n : Nat) (f : Nat → Nat) (ci : Nat) (r : vw_C) (hC_a : C a = some (sg_qa g k (sg_tr f k))) (hkn : k ≤ n) (hn : n ≤ 100) (hE : ∀ i, i < k → ∃ vs, C (f i) = some (.inr (ci, vs))) (hcl : vwCl[ci]? = some r) (hca : Cond.castable r.1 "java/lang/Object" ∈ sg_N) : sg_Met l yJ7_copyOf_6403c cJ7_copyOf_6403c 4 (some (.array (.object "java/lang/Object"))) 1 30 1 100 g [.ref a, .int (nI n), .ref (g.2.2.2 1)] C (fun v C' => ∃ b, C b = none ∧ v = some (.ref b) ∧ C' = sg_ov C [(b, sg_qa g n (sg_tr f k))]) (sg_no) := by
  refine sg_ofW (by decide) rfl ?_ (Nat.le_of_ble_eq_true rfl)
  intro p e s m below meth c hc hlk hrt hin2 htb
  have hc : sg_Cx p s m _ c cJ7_copyOf_6403c 4 RJ7 g := hc
  show sg_W p l e _ s m _ below meth c 4 g 0 0 _ C 0 [(0, .ref a), (1, .int (nI n)), (2, .ref (g.2.2.2 1))] []
  refine sw_aload_n (pc := 0) hc dJ7_copyOf_6403c_0 rfl 2 rfl ?_
  refine sw_ldcM (pc := 1) hc kl_RJ7_110 dJ7_copyOf_6403c_1 ?_
  refine sw_acmp_ne (pc := 3) (rx := (some (g.2.2.2 1))) (ry := (some (g.2.2.2 1))) (tgt := 13) hc dJ7_copyOf_6403c_3 (by decide) (fun c_1 => ?_) (fun c_1 => ?_)
  ·
    exact absurd rfl c_1
  ·
    refine sw_iload_n (pc := 6) hc dJ7_copyOf_6403c_6 rfl 1 rfl ?_
    refine sw_newq (pc := 7) (n := n) hc kl_RJ7_2 rfl (by omega) ⟨Nat.le_of_ble_eq_true rfl, (by show _ ≤ 100; omega)⟩ dJ7_copyOf_6403c_7 (fun w2 hf_w2 => ?_)
    have fa_w2 : C w2 = none := (sg_fresh (C := C) (L := []) hf_w2).2
    have hN : sg_nd [w2] := ⟨(sg_fresh (C := C) (L := []) hf_w2).1, trivial⟩
    refine sw_eq (C' := sg_ov C [(w2, sg_qa g n (fun _ => none))]) rfl ?_
    refine sw_widen (k := 1) (n := 100) (Nat.le_refl _) (by omega) ?_
    refine sw_goto (pc := 10) (tgt := 24) hc dJ7_copyOf_6403c_10 (by decide) ?_
    refine sw_astore_n (pc := 24) hc dJ7_copyOf_6403c_24 rfl (by decide) (lv' := [(3, .ref w2), (0, .ref a), (1, .int (nI n)), (2, .ref (g.2.2.2 1))]) rfl ?_
    refine sw_aload_n (pc := 25) hc dJ7_copyOf_6403c_25 rfl 1 rfl ?_
    refine sw_iconst (pc := 26) (v := 0) hc dJ7_copyOf_6403c_26 (by decide) ?_
    refine sw_aload_n (pc := 27) hc dJ7_copyOf_6403c_27 rfl 0 rfl ?_
    refine sw_iconst (pc := 28) (v := 0) hc dJ7_copyOf_6403c_28 (by decide) ?_
    refine sw_aload_n (pc := 29) hc dJ7_copyOf_6403c_29 rfl 1 rfl ?_
    refine sw_alen (pc := 30) hc ((sg_ov_out (sg_nin (sg_nf hC_a fa_w2) List.not_mem_nil)).trans hC_a) dJ7_copyOf_6403c_30 ?_
    refine sw_iload_n (pc := 31) hc dJ7_copyOf_6403c_31 rfl 2 rfl ?_
    refine sw_mmin (pc := 32) hc mm_RJ7_304 ⟨Nat.le_of_ble_eq_true rfl, Nat.le_of_ble_eq_true rfl, Nat.le_of_ble_eq_true rfl, Nat.le_of_ble_eq_true rfl⟩ dJ7_copyOf_6403c_32 ?_
    refine sw_st (st' := [.int (nI k), .int 0, .ref w2, .int 0, .ref a]) (congrArg (fun z => ([.int z, .int 0, .ref w2, .int 0, .ref a] : List Value)) (jmin_le hkn (by omega) : jmin (nI k) (nI n) = nI k)) ?_
    have hel : ∀ i, i < k → ∃ v vs, sg_tr f k i = some v ∧ (sg_ov C [(w2, sg_qa g n (fun _ => none))]) v = some (.inr (ci, vs)) := fun i hi => (hE i hi).elim fun vs h9 => ⟨f i, vs, if_pos hi, (sg_ov_out (sg_nin (sg_nf h9 fa_w2) List.not_mem_nil)).trans h9⟩
    refine sw_copy (pc := 35) (a := a) (b := w2) (n0 := k) (n1 := n) (n := k) hc ay_RJ7_150 ((sg_ov_out (sg_nin (sg_nf hC_a fa_w2) List.not_mem_nil)).trans hC_a) (sg_ov_at hN (k := 0) rfl) rfl rfl rfl (Nat.le_refl _) hkn (by omega) hel hcl hca ⟨Nat.le_of_ble_eq_true rfl, Nat.le_of_ble_eq_true rfl⟩ dJ7_copyOf_6403c_35 ?_
    refine sw_eq (C' := sg_ov C [(w2, sg_qa g n (sg_tr f k))]) ((sg_ov_set (l := [(w2, sg_qa g n (fun _ => none))]) hN (k := 0) rfl).trans (by rw [va_cpy_tr]; rfl)) ?_
    refine sw_aload_n (pc := 38) hc dJ7_copyOf_6403c_38 rfl 0 rfl ?_
    exact sw_aret (pc := 39) hc hlk hrt (.inr ⟨_, rfl⟩) (.inr ⟨_, rfl⟩) ⟨w2, fa_w2, rfl, rfl⟩ (Nat.le_of_ble_eq_true rfl) (Nat.le_of_ble_eq_true rfl) dJ7_copyOf_6403c_39

set_option maxHeartbeats 4000000 in
set_option maxRecDepth 100000 in
theorem c_J7_copyOf_1904c (l : Launch) (g : sg_G) (C : Nat → Option va_E) (a : Nat) (k : Nat) (n : Nat) (f : Nat → Nat) (ci : Nat) (r : vw_C) (hC_a : C a = some (sg_qa g k (sg_tr f k))) (hkn : k ≤ n) (hn : n ≤ 100) (hE : ∀ i, i < k → ∃ vs, C (f i) = some (.inr (ci, vs))) (hcl : vwCl[ci]? = some r) (hca : Cond.castable r.1 "java/lang/Object" ∈ sg_N) : sg_Met l yJ7_copyOf_1904c cJ7_copyOf_1904c 2 (some (.array (.object "java/lang/Object"))) 2 53 1 100 g [.ref a, .int (nI n)] C (fun v C' => ∃ b, C b = none ∧ v = some (.ref b) ∧ C' = sg_ov C [(b, sg_qa g n (sg_tr f k))]) (sg_no) := by
  refine sg_ofW (by decide) rfl ?_ (Nat.le_of_ble_eq_true rfl)
  intro p e s m below meth c hc hlk hrt hin2 htb
  have hc : sg_Cx p s m _ c cJ7_copyOf_1904c 2 RJ7 g := hc
  show sg_W p l e _ s m _ below meth c 2 g 0 0 _ C 0 [(0, .ref a), (1, .int (nI n))] []
  refine sw_aload_n (pc := 0) hc dJ7_copyOf_1904c_0 rfl 0 rfl ?_
  refine sw_iload_n (pc := 1) hc dJ7_copyOf_1904c_1 rfl 1 rfl ?_
  refine sw_aload_n (pc := 2) hc dJ7_copyOf_1904c_2 rfl 0 rfl ?_
  refine sw_getC (pc := 3) hc gc_RJ7_86 hC_a ⟨Nat.le_of_ble_eq_true rfl, Nat.le_of_ble_eq_true rfl⟩ dJ7_copyOf_1904c_3 ?_
  refine sw_callS (pc := 6) (rest := []) hc (c_J7_copyOf_6403c l g C a k n f ci r hC_a hkn hn hE hcl hca) md_J7_copyOf_6403c ml_RJ7_300 st_J7_copyOf_6403c rfl rfl (Nat.le_of_ble_eq_true rfl) dJ7_copyOf_1904c_6 ⟨Nat.le_of_ble_eq_true rfl, Nat.le_of_ble_eq_true rfl, Nat.le_of_ble_eq_true rfl, Nat.le_of_ble_eq_true rfl⟩ (fun v C' hP => ?_) (fun _ _ h => h.elim)
  obtain ⟨b9, fa_b9, rfl, rfl⟩ := hP
  have hN : sg_nd [b9] := ⟨List.not_mem_nil, trivial⟩
  refine sw_st (st' := [.ref b9]) rfl ?_
  exact sw_aret (pc := 9) hc hlk hrt (.inr ⟨_, rfl⟩) (.inr ⟨_, rfl⟩) ⟨b9, fa_b9, rfl, rfl⟩ (Nat.le_of_ble_eq_true rfl) (Nat.le_of_ble_eq_true rfl) dJ7_copyOf_1904c_9

