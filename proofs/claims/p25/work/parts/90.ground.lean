/-! what the law stands on -/

theorem st_of {own tx : String} {k : Nat} {args : Array Value} {s : State} {cur : ClassId} (hcur : s.vm.findClass own = some cur) (h : (Cond.stringRef own k tx).before args s = true) : ∃ a, vk_R own k tx a s := by
  obtain ⟨_, _, _, a, -, -, -, -, -, hev⟩ := Cond.stringRef_spec hcur h
  exact ⟨a, vk_R.of h hev⟩
set_option maxRecDepth 100000 in
theorem st_all {args : Array Value} {s : State} {cur : ClassId} (hcur : s.vm.findClass "SplitGate" = some cur) (hts : ∀ w ∈ lw_tbl, w.before args s = true) : ∀ q ∈ sg_strs, ∃ a, vk_R q.1 q.2.1 q.2.2 a s := by
  exact List.forall_mem_cons.mpr ⟨st_of hcur (hts _ (List.mem_of_getElem? (i := 213) (by decide +kernel))), List.forall_mem_cons.mpr ⟨st_of hcur (hts _ (List.mem_of_getElem? (i := 336) (by decide +kernel))), List.forall_mem_cons.mpr ⟨st_of hcur (hts _ (List.mem_of_getElem? (i := 562) (by decide +kernel))), List.forall_mem_cons.mpr ⟨st_of hcur (hts _ (List.mem_of_getElem? (i := 489) (by decide +kernel))), List.forall_mem_cons.mpr ⟨st_of hcur (hts _ (List.mem_of_getElem? (i := 567) (by decide +kernel))), List.forall_mem_cons.mpr ⟨st_of hcur (hts _ (List.mem_of_getElem? (i := 357) (by decide +kernel))), List.forall_mem_cons.mpr ⟨st_of hcur (hts _ (List.mem_of_getElem? (i := 408) (by decide +kernel))), List.forall_mem_cons.mpr ⟨st_of hcur (hts _ (List.mem_of_getElem? (i := 500) (by decide +kernel))), List.forall_mem_cons.mpr ⟨st_of hcur (hts _ (List.mem_of_getElem? (i := 730) (by decide +kernel))), List.forall_mem_cons.mpr ⟨st_of hcur (hts _ (List.mem_of_getElem? (i := 413) (by decide +kernel))), List.forall_mem_cons.mpr ⟨st_of hcur (hts _ (List.mem_of_getElem? (i := 587) (by decide +kernel))), List.forall_mem_cons.mpr ⟨st_of hcur (hts _ (List.mem_of_getElem? (i := 634) (by decide +kernel))), List.forall_mem_cons.mpr ⟨st_of hcur (hts _ (List.mem_of_getElem? (i := 666) (by decide +kernel))), List.forall_mem_cons.mpr ⟨st_of hcur (hts _ (List.mem_of_getElem? (i := 582) (by decide +kernel))), List.forall_mem_cons.mpr ⟨st_of hcur (hts _ (List.mem_of_getElem? (i := 588) (by decide +kernel))), List.forall_mem_cons.mpr ⟨st_of hcur (hts _ (List.mem_of_getElem? (i := 593) (by decide +kernel))), List.forall_mem_cons.mpr ⟨st_of hcur (hts _ (List.mem_of_getElem? (i := 439) (by decide +kernel))), List.forall_mem_cons.mpr ⟨st_of hcur (hts _ (List.mem_of_getElem? (i := 772) (by decide +kernel))), List.forall_mem_cons.mpr ⟨st_of hcur (hts _ (List.mem_of_getElem? (i := 787) (by decide +kernel))), List.forall_mem_cons.mpr ⟨st_of hcur (hts _ (List.mem_of_getElem? (i := 812) (by decide +kernel))), List.forall_mem_cons.mpr ⟨st_of hcur (hts _ (List.mem_of_getElem? (i := 813) (by decide +kernel))), fun _ h => absurd h List.not_mem_nil⟩⟩⟩⟩⟩⟩⟩⟩⟩⟩⟩⟩⟩⟩⟩⟩⟩⟩⟩⟩⟩
set_option maxRecDepth 100000 in
theorem nc_all {args : Array Value} {s : State} (hs : ∀ w ∈ flatC (Jvm.Cond.and given_1 narrow_1), w.before args s = true) : ∀ q ∈ sg_ncs, va_Nc q.1 q.2 s := by
  exact List.forall_mem_cons.mpr ⟨va_Nc.of (hs (Cond.not (Cond.castable "java/lang/IllegalArgumentException" "java/lang/IllegalStateException")) (by decide +kernel)), List.forall_mem_cons.mpr ⟨va_Nc.of (hs (Cond.not (Cond.castable "java/lang/IllegalArgumentException" "java/lang/IndexOutOfBoundsException")) (by decide +kernel)), List.forall_mem_cons.mpr ⟨va_Nc.of (hs (Cond.not (Cond.castable "java/lang/IllegalStateException" "java/lang/IllegalArgumentException")) (by decide +kernel)), List.forall_mem_cons.mpr ⟨va_Nc.of (hs (Cond.not (Cond.castable "java/lang/IllegalStateException" "java/lang/IndexOutOfBoundsException")) (by decide +kernel)), List.forall_mem_cons.mpr ⟨va_Nc.of (hs (Cond.not (Cond.castable "java/lang/IndexOutOfBoundsException" "java/lang/IllegalArgumentException")) (by decide +kernel)), List.forall_mem_cons.mpr ⟨va_Nc.of (hs (Cond.not (Cond.castable "java/lang/IndexOutOfBoundsException" "java/lang/IllegalStateException")) (by decide +kernel)), fun _ h => absurd h List.not_mem_nil⟩⟩⟩⟩⟩⟩
set_option maxRecDepth 100000 in
theorem cl_all {args : Array Value} {s : State} (hts : ∀ w ∈ lw_tbl, w.before args s = true) : ∃ D : va_G, ∀ (c : Nat) (q : vw_C), vwCl[c]? = some q → u_Kn s q.1 q.2.1 q.2.2 (D.1 c) (D.2 c) := by
  have hsg : ∀ w ∈ sg_T, w.before args s = true := fun w hw => hts w (List.mem_filter.mp hw).1
  obtain ⟨c0, i0, h0⟩ := u_known (n := 3) hsg ti_0 (hts _ (List.mem_of_getElem? (i := 58) (by decide +kernel)))
  obtain ⟨c1, i1, h1⟩ := u_known (n := 2) hsg ti_1 (hts _ (List.mem_of_getElem? (i := 415) (by decide +kernel)))
  obtain ⟨c2, i2, h2⟩ := u_known (n := 12) hsg ti_2 (hts _ (List.mem_of_getElem? (i := 84) (by decide +kernel)))
  obtain ⟨c3, i3, h3⟩ := u_known (n := 3) hsg ti_3 (hts _ (List.mem_of_getElem? (i := 241) (by decide +kernel)))
  obtain ⟨c4, i4, h4⟩ := u_known (n := 3) hsg ti_4 (hts _ (List.mem_of_getElem? (i := 788) (by decide +kernel)))
  obtain ⟨c5, i5, h5⟩ := u_known (n := 7) hsg ti_5 (hts _ (List.mem_of_getElem? (i := 359) (by decide +kernel)))
  obtain ⟨c6, i6, h6⟩ := u_known (n := 4) hsg ti_6 (hts _ (List.mem_of_getElem? (i := 636) (by decide +kernel)))
  obtain ⟨c7, i7, h7⟩ := u_known (n := 7) hsg ti_7 (hts _ (List.mem_of_getElem? (i := 594) (by decide +kernel)))
  obtain ⟨c8, i8, h8⟩ := u_known (n := 9) hsg ti_8 (hts _ (List.mem_of_getElem? (i := 50) (by decide +kernel)))
  refine ⟨((fun c => match c with | 0 => c0 | 1 => c1 | 2 => c2 | 3 => c3 | 4 => c4 | 5 => c5 | 6 => c6 | 7 => c7 | _ => c8), (fun c => match c with | 0 => i0 | 1 => i1 | 2 => i2 | 3 => i3 | 4 => i4 | 5 => i5 | 6 => i6 | 7 => i7 | _ => i8)), fun c q hq => ?_⟩
  have hlt : c < 9 := (List.getElem?_eq_some_iff.mp hq).1
  have hc : c = 0 ∨ c = 1 ∨ c = 2 ∨ c = 3 ∨ c = 4 ∨ c = 5 ∨ c = 6 ∨ c = 7 ∨ c = 8 := by omega
  rcases hc with rfl | rfl | rfl | rfl | rfl | rfl | rfl | rfl | rfl
  · cases hq; exact h0
  · cases hq; exact h1
  · cases hq; exact h2
  · cases hq; exact h3
  · cases hq; exact h4
  · cases hq; exact h5
  · cases hq; exact h6
  · cases hq; exact h7
  · cases hq; exact h8
theorem ar_all {args : Array Value} {s : State} (hts : ∀ w ∈ lw_tbl, w.before args s = true) : ∃ cy : Nat → ClassId, ∀ (k : Nat) (q : ClassId × FieldType), (sg_tys cy)[k]? = some q → ArrOfT s q.1 q.2 ∧ va_RA s q.1 q.2 := by
  obtain ⟨c0, k0, p0, a0, b0, d0⟩ := Cond.arrayClass_spec (type := .int) (hts _ (List.mem_of_getElem? (i := 163) (by decide +kernel)))
  obtain ⟨c1, k1, p1, a1, b1, d1⟩ := Cond.arrayClass_spec (type := .boolean) (hts _ (List.mem_of_getElem? (i := 256) (by decide +kernel)))
  obtain ⟨p2, c2, k2, e2, -, b2, d2, a2⟩ := Cond.arrayOver_spec (n := "java/lang/Object") (hts _ (List.mem_of_getElem? (i := 306) (by decide +kernel)))
  refine ⟨(fun j => match j with | 0 => c0 | 1 => c1 | _ => c2), fun k q hq => ?_⟩
  have hlt : k < 3 := (List.getElem?_eq_some_iff.mp hq).1
  have hk : k = 0 ∨ k = 1 ∨ k = 2 := by omega
  rcases hk with rfl | rfl | rfl
  · cases hq; exact ⟨fun n z => ⟨fun k h => (by cases h), k0, b0, p0, d0⟩, a0⟩
  · cases hq; exact ⟨fun n z => ⟨fun k h => (by cases h), k1, b1, p1, d1⟩, a1⟩
  · cases hq; exact ⟨fun n z => ⟨fun k h => (by cases h), k2, b2, p2, d2⟩, ⟨k2, p2, b2, d2, e2, a2⟩⟩
set_option maxHeartbeats 4000000 in
set_option maxRecDepth 100000 in
theorem g_all {b : Nat} {s : State} (hts : ∀ w ∈ lw_tbl, w.before #[Value.ref b] s = true) (hgv : (Jvm.Cond.and given_1 narrow_1).before #[Value.ref b] s = true) : ∃ g : sg_G, g.2.2.1 = s.heap ∧ sg_KS1 g s ∧ sg_KS2 g s := by
  have hs := flat_of_before _ hgv
  obtain ⟨D, hD⟩ := cl_all hts
  obtain ⟨cy, hy⟩ := ar_all hts
  have hA : ∀ a : Nat, a < s.heap.size → ¬ (fun q => s.heap.size ≤ q) a := fun a ha q => absurd q (Nat.not_le_of_lt ha)
  obtain ⟨t, ht, hT⟩ := va_Tof (tm := Term.static "java/util/ArrayList" "DEFAULTCAPACITY_EMPTY_ELEMENTDATA" "[Ljava/lang/Object;") (ty := .object "java/lang/Object") (N := 0) (f := fun _ => .null) (A := fun q => s.heap.size ≤ q) (by decide) (hs _ (by decide +kernel)) (va_eqt (hs (Cond.eq (Term.length (Term.static "java/util/ArrayList" "DEFAULTCAPACITY_EMPTY_ELEMENTDATA" "[Ljava/lang/Object;")) (Term.int 0)) (by decide +kernel))) (fun j hj => absurd hj (Nat.not_lt_zero j)) hA
  obtain ⟨mi, hmi⟩ := va_Mi.of (hs (Cond.isRef (Term.mirror "[Ljava/lang/Object;")) (by decide +kernel))
  refine ⟨(D, cy, s.heap, (fun k => match k with | 0 => t | _ => mi)), rfl, ⟨⟨hD, hy⟩, fun w hw => va_Nw.of (sg_N_tab (List.mem_filter.mp hw).2) (hts w (List.mem_filter.mp hw).1)⟩, ?_⟩
  have hcur : s.vm.findClass "SplitGate" = some (D.1 8) := (hD 8 _ rfl).2.1
  refine ⟨st_all hcur hts, vx_Zqof (hts _ (List.mem_of_getElem? (i := 199) (by decide +kernel))) (hts _ (List.mem_of_getElem? (i := 31) (by decide +kernel))) (hs _ (by decide +kernel)) hA, vx_Zqof (hts _ (List.mem_of_getElem? (i := 201) (by decide +kernel))) (hts _ (List.mem_of_getElem? (i := 31) (by decide +kernel))) (hs _ (by decide +kernel)) hA, va_Zref (hts _ (List.mem_of_getElem? (i := 70) (by decide +kernel))) (hts _ (List.mem_of_getElem? (i := 29) (by decide +kernel))) ht hA, hT, hmi, va_AO.of (hts _ (List.mem_of_getElem? (i := 306) (by decide +kernel))), nc_all hs⟩
