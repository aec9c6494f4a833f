section TW
variable {p : Program} {l : Launch} {e : Env} {R : Room} {s : State} {m : MethodId} {args : Array Value} {below : List Frame} {meth : Method} {c : Code} {cells slots mc ms : Nat} {Q : State → Prop}
variable {cc : ByteArray} {nL : Nat} {own : String} {g : sg_G} {C : Nat → Option va_E} {pc : Nat} {lv lv' : List (Nat × Value)} {rest : List Value} {H : Heap} {Post : Option Value → (Nat → Option va_E) → Prop} {X : String → (Nat → Option va_E) → Prop}
/-- a throw of a text, out of a method without a table -/
theorem sw_throwW (hc : sg_Cx p s m args c cc nL own g) (hl : l.stackTraces = false) {cls text : String} {ik is ic : Nat} (hA : sg_TH own cls ik ic) (hs : (own, is, text) ∈ sg_strs)
    (d0 : decode cc pc = .ok (.new ik, 3)) (d3 : decode cc (pc + 3) = .ok (.dup, 1)) (d4 : decode cc (pc + 4) = .ok (.ldc_w is, 3)) (d6 : decode cc (pc + 7) = .ok (.invokespecial ic, 3)) (d9 : decode cc (pc + 10) = .ok (.athrow, 1))
    (ht : ∀ x ∈ c.exceptionTable.toList, False) (hk : meth.locks = false) (hr : 5 < R.frames ∧ (rest.map fun v => v.category).sum + 82 ≤ R.locals ∧ cells + 1 ≤ R.cells ∧ slots + 6 ≤ R.slots) (hX : X cls C) (h1 : cells + 1 ≤ mc) (h2 : slots + 6 ≤ ms) :
    sg_W p l e R s m args below meth c nL g cells slots (sg_End below g Post X args s mc ms) C pc lv rest := by
  intro H locs ls hR hL hq hlv
  obtain ⟨hx, hb, hml, hown, hts, hK1, hK2, hLs⟩ := hc
  obtain ⟨t1, t2, t3, t4, t5⟩ := hA
  obtain ⟨sa, hsa⟩ := hK2.1 _ hs
  have kp : ∀ a, a < g.2.2.1.size → ¬ (g.2.2.1.size ≤ a) → s.heap[a]? = g.2.2.1[a]? := fun a h _ => hLs.2 a h
  intro T hT XX
  have hsz : s.heap.size ≤ H.size := by have := XX.same.2.1; rw [← hT]; exact this
  refine vx_throwSW (A := fun q => g.2.2.1.size ≤ q) (names := ["java/lang/RuntimeException", "java/lang/Exception"]) hx hb hl hown t1 (by decide) (hts _ t2) (hts _ t3) hsa (fun w hw => (t4 w hw).elim (hts w) (fun h => ?_)) (fun w hw => ?_) (vx_Zq.kept hK2.2.1 kp) (vx_Zq.kept hK2.2.2.1 kp)
    ⟨hsz, fun q h3 h4 => (hL.2 q (by omega)).trans (hLs.2 q (by omega)).symm, hq⟩ (hlv.1.trans hml.symm) d0 d3 d4 d6 d9 (fun x hx => (ht x hx).elim) hr.1 hr.2.1 hr.2.2.1 hr.2.2.2 hk ?_ hq h1 h2 T hT XX
  · exact va_Nw.use (sg_N_tab (List.mem_filter.mp h).2) (hK1.2 _ h)
  · rcases List.mem_cons.mp hw with rfl | hw
    · show (_ || _) = true
      rw [(List.mem_filter.mp t2).2, Bool.or_true]
    · rcases List.mem_cons.mp hw with rfl | hw
      · show (_ || _) = true
        rw [(List.mem_filter.mp t3).2, Bool.or_true]
      · exact t5 w hw
  · intro t _ hsz2 hkp
    refine ⟨C, hX, fun a x hax => ⟨(hR a x hax).1.kept (hkp a (hR.lt hax)), (hR a x hax).2⟩, Nat.le_trans hL.1 hsz2, fun q hq' => (hkp q (Nat.lt_of_lt_of_le hq' hL.1)).trans (hL.2 q hq')⟩
end TW

/-! the face: the board, the best found anew -/
theorem rTop_19 {σ : Mem} {x y w : Int32} : ∀ n, n ≤ 40 → ¬ rTop σ x y w n < 0 → σ 19 (iN (rTop σ x y w n)) = x ∧ σ 18 (iN (rTop σ x y w n)) = y
  | 0, _, h => absurd (show (-1 : Int32) < 0 from by decide) h
  | n + 1, hn, h => by
    unfold rTop at h ⊢
    split
    · next q =>
      rw [show iN (nI n) = n from nI_clamp (by omega)]
      exact ⟨q.1.2.1, q.1.2.2.1⟩
    · next q =>
      rw [if_neg q] at h
      exact rTop_19 n (by omega) h
section AT
variable {σ : Mem} {x z : Int32}
theorem ahd_irr (hW : WX σ) {i : Nat} (hi : i < iN (σ 26 0)) : ¬ rAhd σ i i := fun q => by
  rcases (ahd_eq hW hi hi).mpr q with h | h
  · exact Int32.lt_irrefl h
  · exact Int32.lt_irrefl h.2
theorem ahd_tr (hW : WX σ) {i j k : Nat} (hi : i < iN (σ 26 0)) (hj : j < iN (σ 26 0)) (hk : k < iN (σ 26 0)) (h1 : rAhd σ i j) (h2 : rAhd σ j k) : rAhd σ i k := by
  refine (ahd_eq hW hi hk).mp ?_
  rcases (ahd_eq hW hi hj).mpr h1 with a | ⟨a, a2⟩ <;> rcases (ahd_eq hW hj hk).mpr h2 with b | ⟨b, b2⟩
  · exact .inl (Int32.lt_trans a b)
  · exact .inl (by rw [← b]; exact a)
  · exact .inl (by rw [a]; exact b)
  · exact .inr ⟨a.trans b, Int32.lt_trans a2 b2⟩
theorem ahd_tot (hW : WX σ) {i j : Nat} (hi : i < iN (σ 26 0)) (hj : j < iN (σ 26 0)) (h : i ≠ j) : rAhd σ i j ∨ rAhd σ j i := by
  have hb : iN (σ 26 0) < 41 := hW.1.2.2.2.1.2
  rcases Int32.lt_or_le (σ 22 i) (σ 22 j) with a | a
  · exact .inl ((ahd_eq hW hi hj).mp (.inl a))
  · rcases Int32.lt_or_le (σ 22 j) (σ 22 i) with b | b
    · exact .inr ((ahd_eq hW hj hi).mp (.inl b))
    · have e : σ 22 i = σ 22 j := Int32.le_antisymm b a
      rcases Nat.lt_or_ge i j with c | c
      · exact .inl ((ahd_eq hW hi hj).mp (.inr ⟨e, (nI_ltI (by omega) (by omega)).mpr c⟩))
      · exact .inr ((ahd_eq hW hj hi).mp (.inr ⟨e.symm, (nI_ltI (by omega) (by omega)).mpr (by omega)⟩))
/-- who has fewer ahead -/
theorem rAtB_cmp {a b : Int32} (h : ∀ j, 0 ≤ rTopN σ x (nI j) (-1) → rAhd σ (iN (rTopN σ x (nI j) (-1))) (iN a) → rAhd σ (iN (rTopN σ x (nI j) (-1))) (iN b)) : ∀ n, n ≤ 8 → ∃ c d : Nat, rAtB σ x a n = nI c ∧ rAtB σ x b n = nI d ∧ c ≤ d ∧ d ≤ n ∧
    ((∃ j, j < n ∧ 0 ≤ rTopN σ x (nI j) (-1) ∧ rAhd σ (iN (rTopN σ x (nI j) (-1))) (iN b) ∧ ¬ rAhd σ (iN (rTopN σ x (nI j) (-1))) (iN a)) → c < d)
  | 0, _ => ⟨0, 0, rfl, rfl, Nat.le_refl _, Nat.le_refl _, fun ⟨_, q, _⟩ => absurd q (Nat.not_lt_zero _)⟩
  | n + 1, hn => by
    obtain ⟨c, d, h1, h2, h3, h4, h5⟩ := rAtB_cmp h n (by omega)
    by_cases q : 0 ≤ rTopN σ x (nI n) (-1) ∧ rAhd σ (iN (rTopN σ x (nI n) (-1))) (iN b)
    · have e2 : rAtB σ x b (n + 1) = nI (d + 1) := by rw [← rAtB_1 h2.symm q.1 q.2, nI_1]
      by_cases r : rAhd σ (iN (rTopN σ x (nI n) (-1))) (iN a)
      · have e1 : rAtB σ x a (n + 1) = nI (c + 1) := by rw [← rAtB_1 h1.symm q.1 r, nI_1]
        refine ⟨c + 1, d + 1, e1, e2, by omega, by omega, ?_⟩
        rintro ⟨j, j1, j2, j3, j4⟩
        have : j < n := by
          rcases Nat.lt_or_ge j n with k | k
          · exact k
          · rw [show j = n by omega] at j4
            exact absurd r j4
        have := h5 ⟨j, this, j2, j3, j4⟩
        omega
      · have e1 : rAtB σ x a (n + 1) = nI c := by rw [← rAtB_n h1.symm (fun z => r z.2)]
        exact ⟨c, d + 1, e1, e2, by omega, by omega, fun _ => by omega⟩
    · have e2 : rAtB σ x b (n + 1) = nI d := by rw [← rAtB_n h2.symm q]
      have e1 : rAtB σ x a (n + 1) = nI c := by rw [← rAtB_n h1.symm (fun z => q ⟨z.1, h n z.1 z.2⟩)]
      refine ⟨c, d, e1, e2, h3, by omega, ?_⟩
      rintro ⟨j, j1, j2, j3, j4⟩
      have : j < n := by
        rcases Nat.lt_or_ge j n with k | k
        · exact k
        · rw [show j = n by omega] at j2 j3
          exact absurd ⟨j2, j3⟩ q
      exact h5 ⟨j, this, j2, j3, j4⟩
theorem at_run (hW : WX σ) {j : Nat} (h : 0 ≤ rTopN σ x (nI j) (-1)) : iN (rTopN σ x (nI j) (-1)) < iN (σ 26 0) ∧ σ 18 (iN (rTopN σ x (nI j) (-1))) = nI j := by
  have hb : iN (σ 26 0) < 41 := hW.1.2.2.2.1.2
  exact ⟨(rTop_x (σ := σ) (n := iN (σ 26 0)) (by omega) (rfl : rTopN σ x (nI j) (-1) = _) (Int32.not_lt.mpr h)).2, (rTop_19 (iN (σ 26 0)) (by omega) (Int32.not_lt.mpr h)).2⟩
theorem at_lt (hW : WX σ) {j k : Nat} (hj : j < 8) (h1 : 0 ≤ rTopN σ x (nI j) (-1)) (h2 : 0 ≤ rTopN σ x (nI k) (-1)) (h : rAhd σ (iN (rTopN σ x (nI j) (-1))) (iN (rTopN σ x (nI k) (-1)))) : ¬ rAtB σ x (rTopN σ x (nI j) (-1)) 8 = rAtB σ x (rTopN σ x (nI k) (-1)) 8 := by
  obtain ⟨c, d, e1, e2, e3, e4, e5⟩ := rAtB_cmp (σ := σ) (x := x) (a := rTopN σ x (nI j) (-1)) (b := rTopN σ x (nI k) (-1)) (fun i hi q => ahd_tr hW (at_run hW hi).1 (at_run hW h1).1 (at_run hW h2).1 q h) 8 (Nat.le_refl _)
  have := e5 ⟨j, hj, h1, h, ahd_irr hW (at_run hW h1).1⟩
  rw [e1, e2]
  exact fun q => absurd ((nI_eq (by omega) (by omega)).mp q) (by omega)
theorem at_uniq (hW : WX σ) {j k : Nat} (hj : j < 8) (hk : k < 8) (hne : j ≠ k) (h1 : 0 ≤ rTopN σ x (nI j) (-1)) (h2 : 0 ≤ rTopN σ x (nI k) (-1)) : ¬ rAtB σ x (rTopN σ x (nI j) (-1)) 8 = rAtB σ x (rTopN σ x (nI k) (-1)) 8 := by
  have hd : iN (rTopN σ x (nI j) (-1)) ≠ iN (rTopN σ x (nI k) (-1)) := fun q => by
    have a := (at_run hW h1).2
    rw [q, (at_run hW h2).2] at a
    exact hne ((nI_eq (by omega) (by omega)).mp a).symm
  rcases ahd_tot hW (at_run hW h1).1 (at_run hW h2).1 hd with q | q
  · exact at_lt hW hj h1 h2 q
  · exact fun e => at_lt hW hk h2 h1 q e.symm
/-- the first that fits is the last that fits -/
theorem rAtF_j (hW : WX σ) {j : Nat} (hj : j < 8) (h1 : 0 ≤ rTopN σ x (nI j) (-1)) (h2 : rAtB σ x (rTopN σ x (nI j) (-1)) 8 = z) : ∀ n, j < n → n ≤ 8 → rAtF σ x z n = rTopN σ x (nI j) (-1)
  | n + 1, hn, h8 => by
    rcases Nat.lt_or_ge j n with q | q
    · have ih := rAtF_j hW hj h1 h2 n q (by omega)
      rcases Int32.lt_or_le (rTopN σ x (nI n) (-1)) 0 with r | r
      · exact (rAtF_1 ih.symm r).symm
      · exact (rAtF_3 ih.symm r rfl (fun e => at_uniq hW hj (by omega) (by omega) h1 r (h2.trans e.symm))).symm
    · have e : n = j := by omega
      subst e
      exact (rAtF_2 h1 rfl h2).symm
theorem vAt_c (hW : WX σ) {j : Nat} (hx : rIn σ 16 x) (hj : j < 8) (h1 : 0 ≤ rTopN σ x (nI j) (-1)) (h2 : rAtB σ x (rTopN σ x (nI j) (-1)) 8 = z) : kAt σ x z = 0 ∧ vAt σ x z = rTopN σ x (nI j) (-1) := by
  have e : rAt σ x z = rTopN σ x (nI j) (-1) := (if_pos hx).trans (rAtF_j hW hj h1 h2 8 hj (Nat.le_refl _))
  have k : kAt σ x z = 0 := if_neg (by rw [e]; exact Int32.not_lt.mpr h1)
  refine ⟨k, ?_⟩
  unfold vAt
  rw [k, if_neg (by decide), e]
theorem kAt_n1 (hx : ¬ rIn σ 16 x) : kAt σ x z = 1 := if_pos (by rw [show rAt σ x z = -1 from if_neg hx]; decide)
theorem kAt_n2 (hx : rIn σ 16 x) (h : -1 = rAtF σ x z 8) : kAt σ x z = 1 := if_pos (by rw [show rAt σ x z = rAtF σ x z 8 from if_pos hx, ← h]; decide)
end AT

theorem md_X7_countAhead : sg_MD yX7_countAhead cX7_countAhead 5 (some .int) 1 := ⟨sg_mem (i := 771) (by decide +kernel) rfl, sg_mem (i := 26) (by decide +kernel) rfl, ⟨by decide, by decide⟩, by decide +kernel⟩
theorem ml_RX7_257 : sg_ML RX7 257 yX7_countAhead := .inl (sg_mem (i := 768) (by decide +kernel) rfl)
theorem im_X7_countAhead : Cond.instanceMethod yX7_countAhead ∈ sg_T := sg_mem (i := 770) (by decide +kernel) rfl
theorem sl_X7_countAhead : Cond.selects yX7_countAhead.cls yX7_countAhead yX7_countAhead ∈ sg_T := sg_mem (i := 23) (by decide +kernel) rfl
theorem md_X7_countsAnew : sg_MD yX7_countsAnew cX7_countsAnew 2 (some .boolean) 1 := ⟨sg_mem (i := 752) (by decide +kernel) rfl, sg_mem (i := 26) (by decide +kernel) rfl, ⟨by decide, by decide⟩, by decide +kernel⟩
theorem ml_RX7_250 : sg_ML RX7 250 yX7_countsAnew := .inl (sg_mem (i := 749) (by decide +kernel) rfl)
theorem im_X7_countsAnew : Cond.instanceMethod yX7_countsAnew ∈ sg_T := sg_mem (i := 751) (by decide +kernel) rfl
theorem sl_X7_countsAnew : Cond.selects yX7_countsAnew.cls yX7_countsAnew yX7_countsAnew ∈ sg_T := sg_mem (i := 22) (by decide +kernel) rfl
set_option maxHeartbeats 4000000 in
set_option maxRecDepth 100000 in
theorem c_X7_at (l : Launch) (g : sg_G) (C : Nat → Option va_E) (ad : Ad) (own : Nat → Option (Nat × Nat)) (gh : Gh) (σ : Mem) (x : Int32) (z : Int32) (hQ : Pic g ad own gh σ C) (hW : WX σ) (hg : gOk gh) (hst : l.stackTraces = false) : sg_Met l yX7_at cX7_at 6 (some .int) 8 180 16 96 g [.ref (ad 0 0), .int x, .int z] C (fun v C' => v = some (.int (vAt σ x z)) ∧ ¬ 0 < kAt σ x z ∧ PH g (ad 0 0) own C (fAt σ x z) C') (fun E C' => ((E = "java/lang/IndexOutOfBoundsException" ∧ kAt σ x z = 1)) ∧ PH g (ad 0 0) own C (fAt σ x z) C') := by
  refine sg_ofW (by decide) rfl ?_ (Nat.le_of_ble_eq_true rfl)
  intro p e s m below meth c hc hlk hrt hin2 htb
  have hc : sg_Cx p s m _ c cX7_at 6 RX7 g := hc
  show sg_W p l e _ s m _ below meth c 6 g 0 0 _ C 0 [(0, .ref (ad 0 0)), (1, .int x), (2, .int z)] []
  have K_9 : ∀ (n9 : Nat) (j : Nat) (hn9 : 8 - j < n9) (hJ : j ≤ 8) (ho1 : rIn σ 16 x) (hA : -1 = rAtF σ (nI (iN x)) z j), sg_W p l e (sg_rm 8 180 16 96) s m ([.ref (ad 0 0), .int x, .int z] : List Value).toArray below meth c 6 g 1 6 (sg_End below g (fun v C' => v = some (.int (vAt σ x z)) ∧ ¬ 0 < kAt σ x z ∧ PH g (ad 0 0) own C (fAt σ x z) C') (fun E C' => ((E = "java/lang/IndexOutOfBoundsException" ∧ kAt σ x z = 1)) ∧ PH g (ad 0 0) own C (fAt σ x z) C') ([.ref (ad 0 0), .int x, .int z] : List Value).toArray s 16 96) (C) 9 [(0, .ref (ad 0 0)), (2, .int z), (3, .ref (ad 11 (iN x))), (4, .int (nI j))] [] := by
    intro n9
    induction n9 with
    | zero => intro j hn9 hJ ho1 hA; exact absurd hn9 (Nat.not_lt_zero _)
    | succ n9 ih9 =>
      intro j hn9 hJ ho1 hA
      obtain ⟨ho1_x, ho1_l⟩ := rIn_x hW.1.2.2.1 (by decide) ho1
      have hxx : nI (iN x) = x := ho1_x.symm
      refine sw_iload (pc := 9) hc dX7_at_9 3 rfl ?_
      refine sw_bipush (pc := 11) (v := 8) hc dX7_at_11 (by decide) ?_
      refine sw_icmp_ge (pc := 13) (tgt := 53) hc dX7_at_13 (by decide) (fun c_1 => ?_) (fun c_1 => ?_)
      ·
        have c_1' := Int32.not_lt.mpr c_1
        have hj8 : j = 8 := by have := (nI_leI (a := 8) (b := j) (by decide) (by omega)).mp c_1; omega
        subst hj8
        exact sw_throwW (pc := 53) hc hst th_RX7_72 (text := "the board has not so many runs") (by decide +kernel) dX7_at_53 dX7_at_56 dX7_at_57 dX7_at_60 dX7_at_63 htb hlk ⟨Nat.le_of_ble_eq_true rfl, Nat.le_of_ble_eq_true rfl, Nat.le_of_ble_eq_true rfl, Nat.le_of_ble_eq_true rfl⟩ ⟨⟨rfl, kAt_n2 ho1 (by rw [← hxx]; exact hA)⟩, PH.q hQ hW hg (f42 _)⟩ (Nat.le_of_ble_eq_true rfl) (Nat.le_of_ble_eq_true rfl)
      ·
        have c_1' := Int32.not_le.mp c_1
        have hj8 : j < 8 := (nI_ltI (a := j) (b := 8) (by omega) (by decide)).mp (Int32.not_le.mp c_1)
        refine sw_aload_n (pc := 16) hc dX7_at_16 rfl 0 rfl ?_
        refine sw_aload_n (pc := 17) hc dX7_at_17 rfl 2 rfl ?_
        refine sw_iload (pc := 18) hc dX7_at_18 3 rfl ?_
        refine sw_null (pc := 20) hc dX7_at_20 ?_
        refine sw_callV (pc := 21) (rest := []) hc (c_X7_bestRun l g C ad own gh σ (iN x) (nI j) (-1) hQ hW ho1_l (.inl (by decide))) md_X7_bestRun ml_RX7_239 im_X7_bestRun sl_X7_bestRun (hQ.at ct0) rfl rfl rfl (Nat.le_of_ble_eq_true rfl) dX7_at_21 ⟨Nat.le_of_ble_eq_true rfl, Nat.le_of_ble_eq_true rfl, Nat.le_of_ble_eq_true rfl, Nat.le_of_ble_eq_true rfl⟩ (fun v C' hP => ?_) (fun _ _ h => h.elim)
        obtain ⟨rfl, hCC⟩ := hP
        refine sw_eq (C' := C) hCC ?_
        refine sw_st (st' := [va_rf (wrf ad (rTopN σ (nI (iN x)) (nI j) (-1)))]) rfl ?_
        refine sw_astoreq (pc := 24) hc dX7_at_24 (by decide) (lv' := [(5, va_rf (wrf ad (rTopN σ (nI (iN x)) (nI j) (-1)))), (0, .ref (ad 0 0)), (2, .int z), (3, .ref (ad 11 (iN x))), (4, .int (nI j))]) (by first | rfl | (simp [va_rf_c, cat_r, cat_i, cat_n]; done) | (simp [va_rf_c, cat_r, cat_i, cat_n]; rfl)) ?_
        refine sw_aloadq (pc := 26) hc dX7_at_26 0 rfl ?_
        refine sw_ifnullq (pc := 28) (tgt := 47) hc dX7_at_28 (by decide) (fun c_2 => ?_) (fun a_3 c_2 => ?_)
        ·
          have hb : rTopN σ (nI (iN x)) (nI j) (-1) < 0 := wrf_n c_2
          refine sw_iinc (pc := 47) (v := nI (j + 1)) (lv' := [(4, .int (nI (j + 1))), (5, va_rf (wrf ad (rTopN σ (nI (iN x)) (nI j) (-1)))), (0, .ref (ad 0 0)), (2, .int z), (3, .ref (ad 11 (iN x)))]) hc dX7_at_47 (k := 4) rfl (nI_1 _) (by decide) (by first | rfl | (simp [va_rf_c, cat_r, cat_i, cat_n]; done) | (simp [va_rf_c, cat_r, cat_i, cat_n]; rfl)) ?_
          refine sw_goto (pc := 50) (tgt := 9) hc dX7_at_50 (by decide) ?_
          have h_4 : (j + 1) ≤ 8 := by omega
          have h_5 : rIn σ 16 x := by exact ho1
          have h_6 : -1 = rAtF σ (nI (iN x)) z (j + 1) := by exact rAtF_1 hA hb
          have h_7 : 8 - (j + 1) < n9 := by omega
          exact sw_sub (ks := [2, 3, 4, 0]) rfl (ih9 (j + 1) h_7 h_4 h_5 h_6)
        ·
          obtain ⟨hb, hb_a⟩ := wrf_s c_2
          obtain ⟨hb_x, hb_i⟩ := rTop_x (σ := σ) (n := iN (σ 26 0)) (by have := hW.b3; have h9 : lsN σ 3 = iN (σ 26 0) := rfl; omega) (rfl : rTopN σ (nI (iN x)) (nI j) (-1) = _) hb
          have hb_e : (wrf ad (rTopN σ (nI (iN x)) (nI j) (-1))) = some (ad 15 (iN (rTopN σ (nI (iN x)) (nI j) (-1)))) := by rw [c_2, hb_a]
          refine sw_sub (ks := [0, 1, 2, 3, 4]) (lv' := [(5, .ref (ad 15 (iN (rTopN σ (nI (iN x)) (nI j) (-1))))), (0, .ref (ad 0 0)), (2, .int z), (3, .ref (ad 11 (iN x))), (4, .int (nI j))]) (congrArg (fun zq => ([(5, va_rf zq), (0, .ref (ad 0 0)), (2, .int z), (3, .ref (ad 11 (iN x))), (4, .int (nI j))] : List (Nat × Value))) hb_e) ?_
          have h19 : σ 19 (iN (rTopN σ (nI (iN x)) (nI j) (-1))) = (nI (iN x)) := (rTop_19 (iN (σ 26 0)) (by have := hW.b3; have h9 : lsN σ 3 = iN (σ 26 0) := rfl; omega) hb).1
          refine sw_aload_n (pc := 31) hc dX7_at_31 rfl 1 rfl ?_
          refine sw_aload (pc := 32) hc dX7_at_32 0 rfl ?_
          refine sw_callV (pc := 34) (rest := []) hc (c_X7_countAhead l g C ad own gh σ (iN (rTopN σ (nI (iN x)) (nI j) (-1))) hQ hW hb_i) md_X7_countAhead ml_RX7_257 im_X7_countAhead sl_X7_countAhead (hQ.at ct0) rfl rfl rfl (Nat.le_of_ble_eq_true rfl) dX7_at_34 ⟨Nat.le_of_ble_eq_true rfl, Nat.le_of_ble_eq_true rfl, Nat.le_of_ble_eq_true rfl, Nat.le_of_ble_eq_true rfl⟩ (fun v C' hP => ?_) (fun _ _ h => h.elim)
          obtain ⟨rfl, hCC⟩ := hP
          refine sw_eq (C' := C) hCC ?_
          refine sw_st (st' := [.int (rAtB σ (nI (iN (σ 19 (iN (rTopN σ (nI (iN x)) (nI j) (-1)))))) (nI (iN (rTopN σ (nI (iN x)) (nI j) (-1)))) 8)]) rfl ?_
          refine sw_st (st' := [.int (rAtB σ (nI (iN x)) (rTopN σ (nI (iN x)) (nI j) (-1)) 8)]) (congrArg (fun z => ([.int z] : List Value)) ((by rw [h19, show iN (nI (iN x)) = iN x from congrArg iN hxx, ← hb_x]) : rAtB σ (nI (iN (σ 19 (iN (rTopN σ (nI (iN x)) (nI j) (-1)))))) (nI (iN (rTopN σ (nI (iN x)) (nI j) (-1)))) 8 = rAtB σ (nI (iN x)) (rTopN σ (nI (iN x)) (nI j) (-1)) 8)) ?_
          refine sw_iload_n (pc := 37) hc dX7_at_37 rfl 2 rfl ?_
          refine sw_icmp_ne (pc := 38) (tgt := 47) hc dX7_at_38 (by decide) (fun c_8 => ?_) (fun c_8 => ?_)
          ·
            refine sw_iinc (pc := 47) (v := nI (j + 1)) (lv' := [(4, .int (nI (j + 1))), (5, .ref (ad 15 (iN (rTopN σ (nI (iN x)) (nI j) (-1))))), (0, .ref (ad 0 0)), (2, .int z), (3, .ref (ad 11 (iN x)))]) hc dX7_at_47 (k := 4) rfl (nI_1 _) (by decide) rfl ?_
            refine sw_goto (pc := 50) (tgt := 9) hc dX7_at_50 (by decide) ?_
            have h_9 : (j + 1) ≤ 8 := by omega
            have h_10 : rIn σ 16 x := by exact ho1
            have h_11 : -1 = rAtF σ (nI (iN x)) z (j + 1) := by exact rAtF_3 hA (Int32.not_lt.mp hb) rfl c_8
            have h_12 : 8 - (j + 1) < n9 := by omega
            exact sw_sub (ks := [2, 3, 4, 0]) rfl (ih9 (j + 1) h_12 h_9 h_10 h_11)
          ·
            refine sw_aload (pc := 41) hc dX7_at_41 0 rfl ?_
            refine sw_get (pc := 43) (v := .int (nI (iN (rTopN σ (nI (iN x)) (nI j) (-1))))) hc fl_RX7_243 (hQ.at (ct15 (k := (iN (rTopN σ (nI (iN x)) (nI j) (-1)))) hb_i)) rfl dX7_at_43 ?_
            exact sw_iret (pc := 46) hc hlk hrt rfl ⟨congrArg (fun z => some (Value.int z)) (show nI (iN (rTopN σ (nI (iN x)) (nI j) (-1))) = vAt σ x z by rw [(vAt_c (x := x) hW ho1 hj8 (by rw [← hxx]; exact Int32.not_lt.mp hb) (by rw [← hxx]; exact c_8)).2, ← hb_x, hxx]), (by rw [(vAt_c (x := x) hW ho1 hj8 (by rw [← hxx]; exact Int32.not_lt.mp hb) (by rw [← hxx]; exact c_8)).1]; decide), PH.q hQ hW hg (f42 _)⟩ (Nat.le_of_ble_eq_true rfl) (Nat.le_of_ble_eq_true rfl) dX7_at_46
  refine sw_aload_n (pc := 0) hc dX7_at_0 rfl 0 rfl ?_
  refine sw_iload_n (pc := 1) hc dX7_at_1 rfl 1 rfl ?_
  refine sw_callV (pc := 2) (rest := []) hc (c_X7_categoryOf l g C ad own gh σ x hQ hW hst) md_X7_categoryOf ml_RX7_171 im_X7_categoryOf sl_X7_categoryOf (hQ.at ct0) rfl rfl rfl (Nat.le_of_ble_eq_true rfl) dX7_at_2 ⟨Nat.le_of_ble_eq_true rfl, Nat.le_of_ble_eq_true rfl, Nat.le_of_ble_eq_true rfl, Nat.le_of_ble_eq_true rfl⟩ (fun v C' hP => ?_) (fun E C' hX => sx_out htb hlk (⟨⟨hX.1, kAt_n1 hX.2.1⟩, by rw [hX.2.2]; exact PH.q hQ hW hg (f42 _)⟩) (Nat.le_of_ble_eq_true rfl) (Nat.le_of_ble_eq_true rfl))
  obtain ⟨rfl, o_13, hCC⟩ := hP
  refine sw_eq (C' := C) hCC ?_
  obtain ⟨o_13_x, o_13_l⟩ := rIn_x hW.1.2.2.1 (by decide) o_13
  refine sw_st (st' := [.ref (ad 11 (iN x))]) rfl ?_
  refine sw_astore_n (pc := 5) hc dX7_at_5 rfl (by decide) (lv' := [(3, .ref (ad 11 (iN x))), (0, .ref (ad 0 0)), (1, .int x), (2, .int z)]) rfl ?_
  refine sw_iconst (pc := 6) (v := 0) hc dX7_at_6 (by decide) ?_
  refine sw_istore (pc := 7) hc dX7_at_7 (by decide) (lv' := [(4, .int 0), (3, .ref (ad 11 (iN x))), (0, .ref (ad 0 0)), (1, .int x), (2, .int z)]) rfl ?_
  have h_14 : 0 ≤ 8 := by omega
  have h_15 : rIn σ 16 x := by exact o_13
  have h_16 : -1 = rAtF σ (nI (iN x)) z 0 := by rfl
  exact sw_sub (ks := [2, 4, 1, 0]) rfl (K_9 _ 0 (Nat.lt_succ_self _) h_14 h_15 h_16)

set_option maxHeartbeats 4000000 in
set_option maxRecDepth 100000 in
theorem c_X7_bestAnew (l : Launch) (g : sg_G) (C : Nat → Option va_E) (ad : Ad) (own : Nat → Option (Nat × Nat)) (gh : Gh) (σ : Mem) (x : Int32) (y : Int32) (hQ : Pic g ad own gh σ C) (hW : WX σ) (hg : gOk gh) (hst : l.stackTraces = false) : sg_Met l yX7_bestAnew cX7_bestAnew 8 (some .int) 7 140 16 96 g [.ref (ad 0 0), .int x, .int y] C (fun v C' => v = some (.int (vBestAnew σ x y)) ∧ ¬ 0 < kPair σ x y ∧ PH g (ad 0 0) own C (fBestAnew σ x y) C') (fun E C' => ((E = "java/lang/IndexOutOfBoundsException" ∧ kPair σ x y = 1)) ∧ PH g (ad 0 0) own C (fBestAnew σ x y) C') := by
  refine sg_ofW (by decide) rfl ?_ (Nat.le_of_ble_eq_true rfl)
  intro p e s m below meth c hc hlk hrt hin2 htb
  have hc : sg_Cx p s m _ c cX7_bestAnew 8 RX7 g := hc
  show sg_W p l e _ s m _ below meth c 8 g 0 0 _ C 0 [(0, .ref (ad 0 0)), (1, .int x), (2, .int y)] []
  have K_19 : ∀ (n19 : Nat) (i : Nat) (b : Int32) (u : Int32) (Cz : Nat → Option va_E) (hs : Her) (hn19 : iN (σ 26 0) - i < n19) (eb : b = (cBA σ (nI (iN x)) y i).1) (eu : u = (cBA σ (nI (iN x)) y i).2) (hJ : i ≤ iN (σ 26 0)) (ho1 : rIn σ 16 x) (ho2 : 0 ≤ y ∧ y ≤ 7) (hQz : Pic g ad own (hs, gh.2) σ Cz) (hFz : Frm own own C Cz), sg_W p l e (sg_rm 7 140 16 96) s m ([.ref (ad 0 0), .int x, .int y] : List Value).toArray below meth c 8 g 2 12 (sg_End below g (fun v C' => v = some (.int (vBestAnew σ x y)) ∧ ¬ 0 < kPair σ x y ∧ PH g (ad 0 0) own C (fBestAnew σ x y) C') (fun E C' => ((E = "java/lang/IndexOutOfBoundsException" ∧ kPair σ x y = 1)) ∧ PH g (ad 0 0) own C (fBestAnew σ x y) C') ([.ref (ad 0 0), .int x, .int y] : List Value).toArray s 16 96) (Cz) 19 [(0, .ref (ad 0 0)), (2, .int y), (3, .ref (ad 11 (iN x))), (4, .int b), (5, .int u), (6, .int (nI i))] [] := by
    intro n19
    induction n19 with
    | zero => intro i b u Cz hs hn19 eb eu hJ ho1 ho2 hQz hFz; exact absurd hn19 (Nat.not_lt_zero _)
    | succ n19 ih19 =>
      intro i b u Cz hs hn19 eb eu hJ ho1 ho2 hQz hFz
      obtain ⟨ho1_x, ho1_l⟩ := rIn_x hW.1.2.2.1 (by decide) ho1
      have hxx : nI (iN x) = x := ho1_x.symm
      refine sw_iload (pc := 19) hc dX7_bestAnew_19 5 rfl ?_
      refine sw_aload_n (pc := 21) hc dX7_bestAnew_21 rfl 0 rfl ?_
      refine sw_get (pc := 22) (v := .ref (ad 1 3)) hc fl_RX7_22 (hQz.at ct0) rfl dX7_bestAnew_22 ?_
      refine sw_callV (pc := 25) (rest := [.int (nI i)]) hc (c_Jx4a65c_size_8abf5 l g Cz (ad 1 3) (nI (iN (σ 26 0))) (if iN (σ 26 0) = 0 then g.2.2.2 0 else ad 2 3) (nI (iN (σ 26 0))) (hQz.at (ct1 (k := 3) (by decide)))) md_Jx4a65c_size_8abf5 ml_RX7_46 im_Jx4a65c_size_8abf5 sl_Jx4a65c_size_8abf5 (hQz.at (ct1 (k := 3) (by decide))) rfl rfl rfl (Nat.le_of_ble_eq_true rfl) dX7_bestAnew_25 ⟨Nat.le_of_ble_eq_true rfl, Nat.le_of_ble_eq_true rfl, Nat.le_of_ble_eq_true rfl, Nat.le_of_ble_eq_true rfl⟩ (fun v C' hP => ?_) (fun _ _ h => h.elim)
      obtain ⟨rfl, hCC⟩ := hP
      refine sw_eq (C' := Cz) hCC ?_
      refine sw_st (st' := [.int (nI (iN (σ 26 0))), .int (nI i)]) rfl ?_
      refine sw_icmp_ge (pc := 28) (tgt := 101) hc dX7_bestAnew_28 (by decide) (fun c_1 => ?_) (fun c_1 => ?_)
      ·
        have c_1' := Int32.not_lt.mpr c_1
        refine sw_iload (pc := 101) hc dX7_bestAnew_101 3 rfl ?_
        have hin : i = iN (σ 26 0) := Nat.le_antisymm hJ ((nI_leI (by have := hW.b3; have h9 : lsN σ 3 = iN (σ 26 0) := rfl; omega) (by have := hW.b3; have h9 : lsN σ 3 = iN (σ 26 0) := rfl; omega)).mp c_1)
        exact sw_iret (pc := 103) hc hlk hrt rfl ⟨congrArg (fun z => some (Value.int z)) (show b = vBestAnew σ x y by rw [vBA_c hW ⟨ho1, ho2⟩, eb, hin, hxx]), kPair_y ⟨ho1, ho2⟩, ⟨ad, own, _, Pic.fr hQz hW (fr_BA σ x y), hFz, hg, hW.fr (fr_BA σ x y), rfl⟩⟩ (Nat.le_of_ble_eq_true rfl) (Nat.le_of_ble_eq_true rfl) dX7_bestAnew_103
      ·
        have c_1' := Int32.not_le.mp c_1
        have hlt : i < iN (σ 26 0) := (nI_ltI (a := i) (b := iN (σ 26 0)) (by have := hW.b3; have h9 : lsN σ 3 = iN (σ 26 0) := rfl; omega) (by have := hW.b3; have h9 : lsN σ 3 = iN (σ 26 0) := rfl; omega)).mp (Int32.not_le.mp c_1)
        refine sw_aload_n (pc := 31) hc dX7_bestAnew_31 rfl 0 rfl ?_
        refine sw_get (pc := 32) (v := .ref (ad 1 3)) hc fl_RX7_22 (hQz.at ct0) rfl dX7_bestAnew_32 ?_
        refine sw_iload (pc := 35) hc dX7_bestAnew_35 5 rfl ?_
        refine sw_callV (pc := 37) (rest := []) hc (c_get1 (k := 3) l hQz (by decide) (i := i) hlt hW.b3) md_Jx4a65c_get_915e3 ml_RX7_156 im_Jx4a65c_get_915e3 sl_Jx4a65c_get_915e3 (hQz.at (ct1 (k := 3) (by decide))) rfl rfl rfl (Nat.le_of_ble_eq_true rfl) dX7_bestAnew_37 ⟨Nat.le_of_ble_eq_true rfl, Nat.le_of_ble_eq_true rfl, Nat.le_of_ble_eq_true rfl, Nat.le_of_ble_eq_true rfl⟩ (fun v C' hP => ?_) (fun _ _ h => h.elim)
        obtain ⟨rfl, hCC⟩ := hP
        refine sw_eq (C' := Cz) hCC ?_
        refine sw_st (st' := [.ref (ad 15 i)]) rfl ?_
        refine sw_cast (pc := 40) hc kl_RX7_204 (hQz.at (ct15 (k := i) hlt)) rfl dX7_bestAnew_40 ?_
        refine sw_astore (pc := 43) hc dX7_bestAnew_43 (by decide) (lv' := [(7, .ref (ad 15 i)), (0, .ref (ad 0 0)), (2, .int y), (3, .ref (ad 11 (iN x))), (4, .int b), (5, .int u), (6, .int (nI i))]) rfl ?_
        refine sw_aload (pc := 45) hc dX7_bestAnew_45 0 rfl ?_
        refine sw_aload_n (pc := 47) hc dX7_bestAnew_47 rfl 3 rfl ?_
        refine sw_iload_n (pc := 48) hc dX7_bestAnew_48 rfl 2 rfl ?_
        refine sw_callV (pc := 49) (rest := []) hc (c_X6_isFor l g Cz (ad 15 i) (ad 11 (iN x)) y (nI i) (σ 18 i) (ad 7 (iN (σ 17 i))) (ad 11 (iN (σ 19 i))) (σ 20 i) (σ 22 i) (σ 21 i) (hQz.at (ct15 (k := i) hlt))) md_X6_isFor ml_RX7_246 im_X6_isFor sl_X6_isFor (hQz.at (ct15 (k := i) hlt)) rfl rfl rfl (Nat.le_of_ble_eq_true rfl) dX7_bestAnew_49 ⟨Nat.le_of_ble_eq_true rfl, Nat.le_of_ble_eq_true rfl, Nat.le_of_ble_eq_true rfl, Nat.le_of_ble_eq_true rfl⟩ (fun v C' hP => ?_) (fun _ _ h => h.elim)
        obtain ⟨rfl, hCC⟩ := hP
        refine sw_eq (C' := Cz) hCC ?_
        refine sw_st (st' := [.int (bI ((ad 11 (iN (σ 19 i))) = (ad 11 (iN x)) ∧ (σ 18 i) = y))]) rfl ?_
        refine sw_if_eq (pc := 52) (tgt := 95) hc dX7_bestAnew_52 (by decide) (fun c_2 => ?_) (fun c_2 => ?_)
        ·
          have p_3 : ¬ ((ad 11 (iN (σ 19 i))) = (ad 11 (iN x)) ∧ (σ 18 i) = y) := bI_0 c_2
          have hst : cBA σ (nI (iN x)) y (i + 1) = cBA σ (nI (iN x)) y i := if_neg (fun q => p_3 ⟨(ad11 hQz hW hlt ho1_l).mpr q.1.1, q.1.2.1⟩)
          refine sw_iinc (pc := 95) (v := nI (i + 1)) (lv' := [(6, .int (nI (i + 1))), (7, .ref (ad 15 i)), (0, .ref (ad 0 0)), (2, .int y), (3, .ref (ad 11 (iN x))), (4, .int b), (5, .int u)]) hc dX7_bestAnew_95 (k := 6) rfl (nI_1 _) (by decide) rfl ?_
          refine sw_goto (pc := 98) (tgt := 19) hc dX7_bestAnew_98 (by decide) ?_
          have h_4 : b = (cBA σ (nI (iN x)) y (i + 1)).1 := by first | rfl | (rw [hst]; exact eb) | (rw [hst]; exact eu) | (rw [hst]; done) | (rw [hst]; rfl) | (rw [hst]; exact hc10)
          have h_5 : u = (cBA σ (nI (iN x)) y (i + 1)).2 := by first | rfl | (rw [hst]; exact eb) | (rw [hst]; exact eu) | (rw [hst]; done) | (rw [hst]; rfl) | (rw [hst]; exact hc10)
          have h_6 : (i + 1) ≤ iN (σ 26 0) := by omega
          have h_7 : rIn σ 16 x := by exact ho1
          have h_8 : 0 ≤ y ∧ y ≤ 7 := by exact ho2
          have h_9 : Pic g ad own (hs, gh.2) σ Cz := by exact hQz
          have h_10 : Frm own own C Cz := by exact hFz
          have h_11 : iN (σ 26 0) - (i + 1) < n19 := by omega
          exact sw_sub (ks := [2, 3, 4, 5, 6, 0]) rfl (ih19 (i + 1) b u Cz hs h_11 h_4 h_5 h_6 h_7 h_8 h_9 h_10)
        ·
          have p_12 : (ad 11 (iN (σ 19 i))) = (ad 11 (iN x)) ∧ (σ 18 i) = y := bI_n c_2
          refine sw_aload_n (pc := 55) hc dX7_bestAnew_55 rfl 1 rfl ?_
          refine sw_aload (pc := 56) hc dX7_bestAnew_56 0 rfl ?_
          refine sw_callV (pc := 58) (rest := []) hc (c_X7_countsAnew l g Cz ad own (hs, gh.2) σ i hQz hW hlt) md_X7_countsAnew ml_RX7_250 im_X7_countsAnew sl_X7_countsAnew (hQz.at ct0) rfl rfl rfl (Nat.le_of_ble_eq_true rfl) dX7_bestAnew_58 ⟨Nat.le_of_ble_eq_true rfl, Nat.le_of_ble_eq_true rfl, Nat.le_of_ble_eq_true rfl, Nat.le_of_ble_eq_true rfl⟩ (fun v Cz2 hP => ?_) (fun _ _ h => h.elim)
          obtain ⟨rfl, hs2, hQ2, hF2, hc2⟩ := hP
          refine sw_st (st' := [.int (bI (rCnt σ i))]) rfl ?_
          refine sw_if_eq (pc := 61) (tgt := 95) hc dX7_bestAnew_61 (by decide) (fun c_13 => ?_) (fun c_13 => ?_)
          ·
            have p_14 : ¬ (rCnt σ i) := bI_0 c_13
            have hst : cBA σ (nI (iN x)) y (i + 1) = cBA σ (nI (iN x)) y i := if_neg (fun q => p_14 q.1.2.2)
            refine sw_iinc (pc := 95) (v := nI (i + 1)) (lv' := [(6, .int (nI (i + 1))), (7, .ref (ad 15 i)), (0, .ref (ad 0 0)), (2, .int y), (3, .ref (ad 11 (iN x))), (4, .int b), (5, .int u)]) hc dX7_bestAnew_95 (k := 6) rfl (nI_1 _) (by decide) rfl ?_
            refine sw_goto (pc := 98) (tgt := 19) hc dX7_bestAnew_98 (by decide) ?_
            have h_15 : b = (cBA σ (nI (iN x)) y (i + 1)).1 := by first | rfl | (rw [hst]; exact eb) | (rw [hst]; exact eu) | (rw [hst]; done) | (rw [hst]; rfl) | (rw [hst]; exact hc10)
            have h_16 : u = (cBA σ (nI (iN x)) y (i + 1)).2 := by first | rfl | (rw [hst]; exact eb) | (rw [hst]; exact eu) | (rw [hst]; done) | (rw [hst]; rfl) | (rw [hst]; exact hc10)
            have h_17 : (i + 1) ≤ iN (σ 26 0) := by omega
            have h_18 : rIn σ 16 x := by exact ho1
            have h_19 : 0 ≤ y ∧ y ≤ 7 := by exact ho2
            have h_20 : Pic g ad own (hs2, gh.2) σ Cz2 := by exact hQ2
            have h_21 : Frm own own C Cz2 := by exact (hFz.trans hF2)
            have h_22 : iN (σ 26 0) - (i + 1) < n19 := by omega
            exact sw_sub (ks := [2, 3, 4, 5, 6, 0]) rfl (ih19 (i + 1) b u Cz2 hs2 h_22 h_15 h_16 h_17 h_18 h_19 h_20 h_21)
          ·
            have p_23 : rCnt σ i := bI_n c_13
            have hc10 : hs2 10 = σ 22 i := hc2 p_23
            refine sw_iload (pc := 64) hc dX7_bestAnew_64 4 rfl ?_
            refine sw_iconst (pc := 66) (v := (-1)) hc dX7_bestAnew_66 (by decide) ?_
            refine sw_icmp_eq (pc := 67) (tgt := 82) hc dX7_bestAnew_67 (by decide) (fun c_24 => ?_) (fun c_24 => ?_)
            ·
              refine sw_iload (pc := 82) hc dX7_bestAnew_82 6 rfl ?_
              refine sw_istore (pc := 84) hc dX7_bestAnew_84 (by decide) (lv' := [(4, .int (nI i)), (7, .ref (ad 15 i)), (0, .ref (ad 0 0)), (2, .int y), (3, .ref (ad 11 (iN x))), (5, .int u), (6, .int (nI i))]) rfl ?_
              refine sw_aload_n (pc := 86) hc dX7_bestAnew_86 rfl 2 rfl ?_
              refine sw_get (pc := 87) (v := .ref (ad 17 0)) hc fl_RX7_31 (hQ2.at ct0) rfl dX7_bestAnew_87 ?_
              refine sw_get (pc := 90) (v := .int (((hs2, gh.2).1) 10)) hc fl_RX7_122 (hQ2.at ct17) rfl dX7_bestAnew_90 ?_
              refine sw_istore (pc := 93) hc dX7_bestAnew_93 (by decide) (lv' := [(5, .int (((hs2, gh.2).1) 10)), (4, .int (nI i)), (7, .ref (ad 15 i)), (0, .ref (ad 0 0)), (2, .int y), (3, .ref (ad 11 (iN x))), (6, .int (nI i))]) rfl ?_
              have hst : cBA σ (nI (iN x)) y (i + 1) = (nI i, σ 22 i) := if_pos ⟨⟨(ad11 hQ2 hW hlt ho1_l).mp p_12.1, p_12.2, p_23⟩, .inl (by rw [← eb]; exact c_24)⟩
              refine sw_iinc (pc := 95) (v := nI (i + 1)) (lv' := [(6, .int (nI (i + 1))), (5, .int (((hs2, gh.2).1) 10)), (4, .int (nI i)), (7, .ref (ad 15 i)), (0, .ref (ad 0 0)), (2, .int y), (3, .ref (ad 11 (iN x)))]) hc dX7_bestAnew_95 (k := 6) rfl (nI_1 _) (by decide) rfl ?_
              refine sw_goto (pc := 98) (tgt := 19) hc dX7_bestAnew_98 (by decide) ?_
              have h_25 : nI i = (cBA σ (nI (iN x)) y (i + 1)).1 := by first | rfl | (rw [hst]; exact eb) | (rw [hst]; exact eu) | (rw [hst]; done) | (rw [hst]; rfl) | (rw [hst]; exact hc10)
              have h_26 : ((hs2, gh.2).1) 10 = (cBA σ (nI (iN x)) y (i + 1)).2 := by first | rfl | (rw [hst]; exact eb) | (rw [hst]; exact eu) | (rw [hst]; done) | (rw [hst]; rfl) | (rw [hst]; exact hc10)
              have h_27 : (i + 1) ≤ iN (σ 26 0) := by omega
              have h_28 : rIn σ 16 x := by exact ho1
              have h_29 : 0 ≤ y ∧ y ≤ 7 := by exact ho2
              have h_30 : Pic g ad own (hs2, gh.2) σ Cz2 := by exact hQ2
              have h_31 : Frm own own C Cz2 := by exact (hFz.trans hF2)
              have h_32 : iN (σ 26 0) - (i + 1) < n19 := by omega
              exact sw_sub (ks := [4, 5, 6, 2, 1, 0]) rfl (ih19 (i + 1) (nI i) (((hs2, gh.2).1) 10) Cz2 hs2 h_32 h_25 h_26 h_27 h_28 h_29 h_30 h_31)
            ·
              refine sw_aload_n (pc := 70) hc dX7_bestAnew_70 rfl 1 rfl ?_
              refine sw_get (pc := 71) (v := .ref (ad 17 0)) hc fl_RX7_31 (hQ2.at ct0) rfl dX7_bestAnew_71 ?_
              refine sw_get (pc := 74) (v := .int (((hs2, gh.2).1) 10)) hc fl_RX7_122 (hQ2.at ct17) rfl dX7_bestAnew_74 ?_
              refine sw_iload (pc := 77) hc dX7_bestAnew_77 5 rfl ?_
              refine sw_icmp_ge (pc := 79) (tgt := 95) hc dX7_bestAnew_79 (by decide) (fun c_33 => ?_) (fun c_33 => ?_)
              ·
                have c_33' := Int32.not_lt.mpr c_33
                have hst : cBA σ (nI (iN x)) y (i + 1) = cBA σ (nI (iN x)) y i := if_neg (fun q => q.2.elim (fun q => c_24 (by rw [eb]; exact q)) (fun q => absurd (show hs2 10 < u by rw [hc10, eu]; exact q) (Int32.not_lt.mpr c_33)))
                refine sw_iinc (pc := 95) (v := nI (i + 1)) (lv' := [(6, .int (nI (i + 1))), (7, .ref (ad 15 i)), (0, .ref (ad 0 0)), (2, .int y), (3, .ref (ad 11 (iN x))), (4, .int b), (5, .int u)]) hc dX7_bestAnew_95 (k := 6) rfl (nI_1 _) (by decide) rfl ?_
                refine sw_goto (pc := 98) (tgt := 19) hc dX7_bestAnew_98 (by decide) ?_
                have h_34 : b = (cBA σ (nI (iN x)) y (i + 1)).1 := by first | rfl | (rw [hst]; exact eb) | (rw [hst]; exact eu) | (rw [hst]; done) | (rw [hst]; rfl) | (rw [hst]; exact hc10)
                have h_35 : u = (cBA σ (nI (iN x)) y (i + 1)).2 := by first | rfl | (rw [hst]; exact eb) | (rw [hst]; exact eu) | (rw [hst]; done) | (rw [hst]; rfl) | (rw [hst]; exact hc10)
                have h_36 : (i + 1) ≤ iN (σ 26 0) := by omega
                have h_37 : rIn σ 16 x := by exact ho1
                have h_38 : 0 ≤ y ∧ y ≤ 7 := by exact ho2
                have h_39 : Pic g ad own (hs2, gh.2) σ Cz2 := by exact hQ2
                have h_40 : Frm own own C Cz2 := by exact (hFz.trans hF2)
                have h_41 : iN (σ 26 0) - (i + 1) < n19 := by omega
                exact sw_sub (ks := [2, 3, 4, 5, 6, 0]) rfl (ih19 (i + 1) b u Cz2 hs2 h_41 h_34 h_35 h_36 h_37 h_38 h_39 h_40)
              ·
                have c_33' := Int32.not_le.mp c_33
                refine sw_iload (pc := 82) hc dX7_bestAnew_82 6 rfl ?_
                refine sw_istore (pc := 84) hc dX7_bestAnew_84 (by decide) (lv' := [(4, .int (nI i)), (7, .ref (ad 15 i)), (0, .ref (ad 0 0)), (2, .int y), (3, .ref (ad 11 (iN x))), (5, .int u), (6, .int (nI i))]) rfl ?_
                refine sw_aload_n (pc := 86) hc dX7_bestAnew_86 rfl 2 rfl ?_
                refine sw_get (pc := 87) (v := .ref (ad 17 0)) hc fl_RX7_31 (hQ2.at ct0) rfl dX7_bestAnew_87 ?_
                refine sw_get (pc := 90) (v := .int (((hs2, gh.2).1) 10)) hc fl_RX7_122 (hQ2.at ct17) rfl dX7_bestAnew_90 ?_
                refine sw_istore (pc := 93) hc dX7_bestAnew_93 (by decide) (lv' := [(5, .int (((hs2, gh.2).1) 10)), (4, .int (nI i)), (7, .ref (ad 15 i)), (0, .ref (ad 0 0)), (2, .int y), (3, .ref (ad 11 (iN x))), (6, .int (nI i))]) rfl ?_
                have hst : cBA σ (nI (iN x)) y (i + 1) = (nI i, σ 22 i) := if_pos ⟨⟨(ad11 hQ2 hW hlt ho1_l).mp p_12.1, p_12.2, p_23⟩, .inr (by rw [← eu, ← hc10]; exact Int32.not_le.mp c_33)⟩
                refine sw_iinc (pc := 95) (v := nI (i + 1)) (lv' := [(6, .int (nI (i + 1))), (5, .int (((hs2, gh.2).1) 10)), (4, .int (nI i)), (7, .ref (ad 15 i)), (0, .ref (ad 0 0)), (2, .int y), (3, .ref (ad 11 (iN x)))]) hc dX7_bestAnew_95 (k := 6) rfl (nI_1 _) (by decide) rfl ?_
                refine sw_goto (pc := 98) (tgt := 19) hc dX7_bestAnew_98 (by decide) ?_
                have h_42 : nI i = (cBA σ (nI (iN x)) y (i + 1)).1 := by first | rfl | (rw [hst]; exact eb) | (rw [hst]; exact eu) | (rw [hst]; done) | (rw [hst]; rfl) | (rw [hst]; exact hc10)
                have h_43 : ((hs2, gh.2).1) 10 = (cBA σ (nI (iN x)) y (i + 1)).2 := by first | rfl | (rw [hst]; exact eb) | (rw [hst]; exact eu) | (rw [hst]; done) | (rw [hst]; rfl) | (rw [hst]; exact hc10)
                have h_44 : (i + 1) ≤ iN (σ 26 0) := by omega
                have h_45 : rIn σ 16 x := by exact ho1
                have h_46 : 0 ≤ y ∧ y ≤ 7 := by exact ho2
                have h_47 : Pic g ad own (hs2, gh.2) σ Cz2 := by exact hQ2
                have h_48 : Frm own own C Cz2 := by exact (hFz.trans hF2)
                have h_49 : iN (σ 26 0) - (i + 1) < n19 := by omega
                exact sw_sub (ks := [4, 5, 6, 2, 1, 0]) rfl (ih19 (i + 1) (nI i) (((hs2, gh.2).1) 10) Cz2 hs2 h_49 h_42 h_43 h_44 h_45 h_46 h_47 h_48)
  refine sw_aload_n (pc := 0) hc dX7_bestAnew_0 rfl 0 rfl ?_
  refine sw_iload_n (pc := 1) hc dX7_bestAnew_1 rfl 1 rfl ?_
  refine sw_callV (pc := 2) (rest := []) hc (c_X7_categoryOf l g C ad own gh σ x hQ hW hst) md_X7_categoryOf ml_RX7_171 im_X7_categoryOf sl_X7_categoryOf (hQ.at ct0) rfl rfl rfl (Nat.le_of_ble_eq_true rfl) dX7_bestAnew_2 ⟨Nat.le_of_ble_eq_true rfl, Nat.le_of_ble_eq_true rfl, Nat.le_of_ble_eq_true rfl, Nat.le_of_ble_eq_true rfl⟩ (fun v C' hP => ?_) (fun E C' hX => sx_out htb hlk (⟨⟨hX.1, if_neg (fun q => hX.2.1 q.1)⟩, by rw [hX.2.2]; exact PH.q hQ hW hg (fr_BA σ x y)⟩) (Nat.le_of_ble_eq_true rfl) (Nat.le_of_ble_eq_true rfl))
  obtain ⟨rfl, o_50, hCC⟩ := hP
  refine sw_eq (C' := C) hCC ?_
  obtain ⟨o_50_x, o_50_l⟩ := rIn_x hW.1.2.2.1 (by decide) o_50
  refine sw_st (st' := [.ref (ad 11 (iN x))]) rfl ?_
  refine sw_astore_n (pc := 5) hc dX7_bestAnew_5 rfl (by decide) (lv' := [(3, .ref (ad 11 (iN x))), (0, .ref (ad 0 0)), (1, .int x), (2, .int y)]) rfl ?_
  refine sw_iload_n (pc := 6) hc dX7_bestAnew_6 rfl 3 rfl ?_
  refine sw_callS (pc := 7) (rest := []) hc (c_X7_requireRunner l g C y hst) md_X7_requireRunner ml_RX7_191 st_X7_requireRunner rfl rfl (Nat.le_of_ble_eq_true rfl) dX7_bestAnew_7 ⟨Nat.le_of_ble_eq_true rfl, Nat.le_of_ble_eq_true rfl, Nat.le_of_ble_eq_true rfl, Nat.le_of_ble_eq_true rfl⟩ (fun v C' hP => ?_) (fun E C' hX => sx_out htb hlk (⟨⟨hX.1, if_neg (fun q => hX.2.1 q.2)⟩, by rw [hX.2.2]; exact PH.q hQ hW hg (fr_BA σ x y)⟩) (Nat.le_of_ble_eq_true rfl) (Nat.le_of_ble_eq_true rfl))
  obtain ⟨rfl, o_51, hCC⟩ := hP
  refine sw_eq (C' := C) hCC ?_
  refine sw_st (st' := []) rfl ?_
  refine sw_iconst (pc := 10) (v := (-1)) hc dX7_bestAnew_10 (by decide) ?_
  refine sw_istore (pc := 11) hc dX7_bestAnew_11 (by decide) (lv' := [(4, .int (-1)), (3, .ref (ad 11 (iN x))), (0, .ref (ad 0 0)), (1, .int x), (2, .int y)]) rfl ?_
  refine sw_iconst (pc := 13) (v := 0) hc dX7_bestAnew_13 (by decide) ?_
  refine sw_istore (pc := 14) hc dX7_bestAnew_14 (by decide) (lv' := [(5, .int 0), (4, .int (-1)), (3, .ref (ad 11 (iN x))), (0, .ref (ad 0 0)), (1, .int x), (2, .int y)]) rfl ?_
  refine sw_iconst (pc := 16) (v := 0) hc dX7_bestAnew_16 (by decide) ?_
  refine sw_istore (pc := 17) hc dX7_bestAnew_17 (by decide) (lv' := [(6, .int 0), (5, .int 0), (4, .int (-1)), (3, .ref (ad 11 (iN x))), (0, .ref (ad 0 0)), (1, .int x), (2, .int y)]) rfl ?_
  have h_52 : (-1) = (cBA σ (nI (iN x)) y 0).1 := by first | rfl | (rw [hst]; exact eb) | (rw [hst]; exact eu) | (rw [hst]; done) | (rw [hst]; rfl) | (rw [hst]; exact hc10)
  have h_53 : 0 = (cBA σ (nI (iN x)) y 0).2 := by first | rfl | (rw [hst]; exact eb) | (rw [hst]; exact eu) | (rw [hst]; done) | (rw [hst]; rfl) | (rw [hst]; exact hc10)
  have h_54 : 0 ≤ iN (σ 26 0) := by omega
  have h_55 : rIn σ 16 x := by exact o_50
  have h_56 : 0 ≤ y ∧ y ≤ 7 := by exact o_51
  have h_57 : Pic g ad own (gh.1, gh.2) σ C := by exact hQ
  have h_58 : Frm own own C C := by exact Frm.refl
  exact sw_sub (ks := [4, 6, 3, 2, 1, 0]) rfl (K_19 _ 0 (-1) 0 C gh.1 (Nat.lt_succ_self _) h_52 h_53 h_54 h_55 h_56 h_57 h_58)
