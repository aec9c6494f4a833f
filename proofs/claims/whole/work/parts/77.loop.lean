/-! the law's loop -/


theorem av_ok {L t j : Nat} {xs : Nat → Int32} (h : 6 * t + j < L) (hL : L ≤ 3072) : AV L xs (nI (6 * t) + nI j) (xs (6 * t + j)) := by
  rw [nI_add]
  obtain ⟨h1, h2⟩ := sg_ix (i := nI (6 * t + j)) rfl h (by omega)
  exact ⟨h1, congrArg xs h2⟩
theorem av_0 {L t : Nat} {xs : Nat → Int32} (h : 6 * t < L) (hL : L ≤ 3072) : AV L xs (nI (6 * t)) (xs (6 * t)) := by
  obtain ⟨h1, h2⟩ := sg_ix (i := nI (6 * t)) rfl h (by omega)
  exact ⟨h1, congrArg xs h2⟩
theorem ix6 {L t : Nat} (hL : L ≤ 3072) (ht : t ≤ 512) (h : ¬ nI L - 6 < nI (6 * t)) : 6 * t + 6 ≤ L := by
  refine Nat.not_lt.mp fun hz => h ?_
  rcases Nat.lt_or_ge L 6 with h6 | h6
  · have h0 : nI L - 6 < nI 0 := by
      have : L = 0 ∨ L = 1 ∨ L = 2 ∨ L = 3 ∨ L = 4 ∨ L = 5 := by omega
      rcases this with rfl | rfl | rfl | rfl | rfl | rfl <;> decide
    exact Int32.lt_of_lt_of_le h0 (nI_le (by omega) (by omega))
  · have e : nI L - 6 = nI (L - 6) := by
      have e2 : nI (L - 6) + nI 6 = nI L := by rw [nI_add]; congr 1; omega
      rw [← e2]
      exact Int32.add_sub_cancel _ _
    rw [e]
    exact nI_lt (by omega) (by omega)
theorem tb_out {k : Int32} (h : ¬ ∃ j : Nat, j < 22 ∧ k = nI j) : k.toInt < 0 ∨ 21 < k.toInt := by
  refine Decidable.byContradiction fun hz => h ⟨k.toInt.toNat, by omega, ?_⟩
  apply Int32.toInt_inj.mp
  have hb : (k.toInt.toNat : Int) = k.toInt := Int.toNat_of_nonneg (by omega)
  have h2 : (nI k.toInt.toNat).toInt = (k.toInt.toNat : Int) := Int32.toInt_ofNat_of_lt (by omega)
  rw [h2, hb]
set_option maxHeartbeats 4000000 in
set_option maxRecDepth 100000 in
theorem k_loop {p : Program} {l : Launch} {e : Env} {s : State} {m : MethodId} {below : List Frame} {meth : Method} {c : Code} {Q : State → Prop} {g : sg_G} {b L x0 m0 o : Nat} {xs : Nat → Int32} {q : Nat → Nat} (hc : sg_Cx p s m #[.ref b] c cL_law 7 RL g) (hgs : g.2.2.1 = s.heap) (hX : va_X b L xs s s.heap) (hbl : b < s.heap.size) (hst : l.stackTraces = false) (hN : mN m0 q) (hL : L ≤ 3072) (kend : ∀ (C : Nat → Option va_E) (lv : List (Nat × Value)) (k n : Nat), k ≤ 601024 → n ≤ 7293033 → sg_W p l e room_1 s m #[.ref b] below meth c 7 g k n Q C 1585 lv []) (n : Nat) : ∀ (t : Nat) (σ : Mem) (C : Nat → Option va_E), 513 ≤ t + n → t ≤ 512 → LI g x0 m0 q o σ C → sg_W p l e room_1 s m #[.ref b] below meth c 7 g (24 * t + 1000) (420 * t + 10000) Q C 23 [(4, .int (nI (6 * t))), (3, .ref o), (2, .ref m0), (1, .ref x0), (0, .ref b)] [] := by
  induction n with
  | zero => intro t σ C h1 h2; exact absurd h1 (by omega)
  | succ n ih =>
    intro t σ C h1 ht hI
    refine sw_iload (pc := 23) hc dL_law_23 0 rfl ?_
    refine sw_aload_n (pc := 25) hc dL_law_25 rfl 4 rfl ?_
    refine sw_slen (pc := 26) hc hgs hX hbl dL_law_26 ?_
    refine sw_bipush (pc := 27) (v := 6) hc dL_law_27 (by decide) ?_
    refine sw_isub (pc := 29) hc dL_law_29 ?_
    refine sw_icmp_gt (pc := 30) (tgt := 1585) hc dL_law_30 (by decide) (fun _ => kend _ _ _ _ (by omega) (by omega)) (fun hz => ?_)
    have h6 : 6 * t + 6 ≤ L := ix6 hL ht hz
    have kk : ∀ (τ : Mem) (C' : Nat → Option va_E), LI g x0 m0 q o τ C' → sg_W p l e room_1 s m #[.ref b] below meth c 7 g (24 * t + 1000 + 24) (420 * t + 10000 + 420) Q C' 1579 [(4, .int (nI (6 * t))), (3, .ref o), (2, .ref m0), (1, .ref x0), (0, .ref b)] [] := by
      intro τ C' hI'
      refine sw_iinc (pc := 1579) (k := 0) (v := nI (6 * (t + 1))) hc dL_law_1579 rfl (nI_add (6 * t) 6) (by decide) (lv' := [(4, .int (nI (6 * (t + 1)))), (3, .ref o), (2, .ref m0), (1, .ref x0), (0, .ref b)]) rfl ?_
      refine sw_goto (pc := 1582) (tgt := 23) hc dL_law_1582 (by decide) ?_
      refine sw_widen (k := 24 * (t + 1) + 1000) (n := 420 * (t + 1) + 10000) (by omega) (by omega) ?_
      exact ih (t + 1) τ C' (by omega) (by omega) hI'
    have hcs : 24 * t + 1000 + 24 ≤ room_1.cells := by show 24 * t + 1000 + 24 ≤ 601024; omega
    have hsl : 420 * t + 10000 + 420 ≤ room_1.slots := by show 420 * t + 10000 + 420 ≤ 7293033; omega
    refine sw_aload_n (pc := 33) hc dL_law_33 rfl 4 rfl ?_
    refine sw_iload (pc := 34) hc dL_law_34 0 rfl ?_
    refine sw_sld (pc := 36) hc hgs hX hbl (av_0 (by omega) hL) dL_law_36 ?_
    refine sw_bipush (pc := 37) (v := 31) hc dL_law_37 (by decide) ?_
    refine sw_iand (pc := 39) hc dL_law_39 ?_
    by_cases H : ∃ j : Nat, j < 22 ∧ xs (6 * t) &&& 31 = nI j
    · obtain ⟨j, hj, hk⟩ := H
      refine sw_st (st' := [.int (nI j)]) (by rw [hk]) ?_
      have hjs : j = 0 ∨ j = 1 ∨ j = 2 ∨ j = 3 ∨ j = 4 ∨ j = 5 ∨ j = 6 ∨ j = 7 ∨ j = 8 ∨ j = 9 ∨ j = 10 ∨ j = 11 ∨ j = 12 ∨ j = 13 ∨ j = 14 ∨ j = 15 ∨ j = 16 ∨ j = 17 ∨ j = 18 ∨ j = 19 ∨ j = 20 ∨ j = 21 := by omega
      rcases hjs with rfl | rfl | rfl | rfl | rfl | rfl | rfl | rfl | rfl | rfl | rfl | rfl | rfl | rfl | rfl | rfl | rfl | rfl | rfl | rfl | rfl | rfl
      · exact sw_tableIn (pc := 40) (tgt := 144) (off := 104) hc dL_law_40 (by decide) (by decide) rfl (by decide) (k_L_level hc hgs hX hbl hst hN hI hcs hsl kk)
      · exact sw_tableIn (pc := 40) (tgt := 188) (off := 148) hc dL_law_40 (by decide) (by decide) rfl (by decide) (k_L_column hc hgs hX hbl hst hN hI (av_ok (j := 1) (by omega) hL) (av_ok (j := 2) (by omega) hL) (av_ok (j := 3) (by omega) hL) (av_ok (j := 4) (by omega) hL) hcs hsl kk)
      · exact sw_tableIn (pc := 40) (tgt := 260) (off := 220) hc dL_law_40 (by decide) (by decide) rfl (by decide) (k_L_replay hc hgs hX hbl hst hN hI (av_ok (j := 1) (by omega) hL) hcs hsl kk)
      · exact sw_tableIn (pc := 40) (tgt := 316) (off := 276) hc dL_law_40 (by decide) (by decide) rfl (by decide) (k_L_input hc hgs hX hbl hst hN hI (av_ok (j := 1) (by omega) hL) (av_ok (j := 2) (by omega) hL) (av_ok (j := 3) (by omega) hL) hcs hsl kk)
      · exact sw_tableIn (pc := 40) (tgt := 396) (off := 356) hc dL_law_40 (by decide) (by decide) rfl (by decide) (k_L_result hc hgs hX hbl hst hN hI (av_ok (j := 1) (by omega) hL) hcs hsl kk)
      · exact sw_tableIn (pc := 40) (tgt := 452) (off := 412) hc dL_law_40 (by decide) (by decide) rfl (by decide) (k_L_used hc hgs hX hbl hst hN hI (av_ok (j := 1) (by omega) hL) hcs hsl kk)
      · exact sw_tableIn (pc := 40) (tgt := 508) (off := 468) hc dL_law_40 (by decide) (by decide) rfl (by decide) (k_L_where hc hgs hX hbl hst hN hI (av_ok (j := 1) (by omega) hL) (av_ok (j := 2) (by omega) hL) hcs hsl kk)
      · exact sw_tableIn (pc := 40) (tgt := 576) (off := 536) hc dL_law_40 (by decide) (by decide) rfl (by decide) (k_L_category hc hgs hX hbl hst hN hI (av_ok (j := 1) (by omega) hL) hcs hsl kk)
      · exact sw_tableIn (pc := 40) (tgt := 632) (off := 592) hc dL_law_40 (by decide) (by decide) rfl (by decide) (k_L_rule hc hgs hX hbl hst hN hI (av_ok (j := 1) (by omega) hL) (av_ok (j := 2) (by omega) hL) (av_ok (j := 3) (by omega) hL) (av_ok (j := 4) (by omega) hL) (av_ok (j := 5) (by omega) hL) hcs hsl kk)
      · exact sw_tableIn (pc := 40) (tgt := 736) (off := 696) hc dL_law_40 (by decide) (by decide) rfl (by decide) (k_L_pass hc hgs hX hbl hst hN hI (av_ok (j := 1) (by omega) hL) hcs hsl kk)
      · exact sw_tableIn (pc := 40) (tgt := 792) (off := 752) hc dL_law_40 (by decide) (by decide) rfl (by decide) (k_L_submit hc hgs hX hbl hst hN hI (av_ok (j := 1) (by omega) hL) (av_ok (j := 2) (by omega) hL) (av_ok (j := 3) (by omega) hL) hcs hsl kk)
      · exact sw_tableIn (pc := 40) (tgt := 872) (off := 832) hc dL_law_40 (by decide) (by decide) rfl (by decide) (k_L_judged hc hgs hX hbl hst hN hI (av_ok (j := 1) (by omega) hL) hcs hsl kk)
      · exact sw_tableIn (pc := 40) (tgt := 928) (off := 888) hc dL_law_40 (by decide) (by decide) rfl (by decide) (k_L_strike hc hgs hX hbl hst hN hI (av_ok (j := 1) (by omega) hL) hcs hsl kk)
      · exact sw_tableIn (pc := 40) (tgt := 991) (off := 951) hc dL_law_40 (by decide) (by decide) rfl (by decide) (k_L_best hc hgs hX hbl hst hN hI (av_ok (j := 1) (by omega) hL) (av_ok (j := 2) (by omega) hL) hcs hsl kk)
      · exact sw_tableIn (pc := 40) (tgt := 1059) (off := 1019) hc dL_law_40 (by decide) (by decide) rfl (by decide) (k_L_bestAnew hc hgs hX hbl hst hN hI (av_ok (j := 1) (by omega) hL) (av_ok (j := 2) (by omega) hL) hcs hsl kk)
      · exact sw_tableIn (pc := 40) (tgt := 1127) (off := 1087) hc dL_law_40 (by decide) (by decide) rfl (by decide) (k_L_place hc hgs hX hbl hst hN hI (av_ok (j := 1) (by omega) hL) (av_ok (j := 2) (by omega) hL) hcs hsl kk)
      · exact sw_tableIn (pc := 40) (tgt := 1195) (off := 1155) hc dL_law_40 (by decide) (by decide) rfl (by decide) (k_L_at hc hgs hX hbl hst hN hI (av_ok (j := 1) (by omega) hL) (av_ok (j := 2) (by omega) hL) hcs hsl kk)
      · exact sw_tableIn (pc := 40) (tgt := 1263) (off := 1223) hc dL_law_40 (by decide) (by decide) rfl (by decide) (k_L_placeWithout hc hgs hX hbl hst hN hI (av_ok (j := 1) (by omega) hL) hcs hsl kk)
      · exact sw_tableIn (pc := 40) (tgt := 1319) (off := 1279) hc dL_law_40 (by decide) (by decide) rfl (by decide) (k_L_estimate hc hgs hX hbl hst hN hI (av_ok (j := 1) (by omega) hL) (av_ok (j := 2) (by omega) hL) hcs hsl kk)
      · exact sw_tableIn (pc := 40) (tgt := 1387) (off := 1347) hc dL_law_40 (by decide) (by decide) rfl (by decide) (k_L_offer hc hgs hX hbl hst hN hI (av_ok (j := 1) (by omega) hL) (av_ok (j := 2) (by omega) hL) hcs hsl kk)
      · exact sw_tableIn (pc := 40) (tgt := 1455) (off := 1415) hc dL_law_40 (by decide) (by decide) rfl (by decide) (k_L_gift hc hgs hX hbl hst hN hI (av_ok (j := 1) (by omega) hL) (av_ok (j := 2) (by omega) hL) hcs hsl kk)
      · exact sw_tableIn (pc := 40) (tgt := 1523) (off := 1483) hc dL_law_40 (by decide) (by decide) rfl (by decide) (k_L_plan hc hgs hX hbl hst hN hI (av_ok (j := 1) (by omega) hL) hcs hsl kk)
    · refine sw_tableOut (pc := 40) (tgt := 1579) hc dL_law_40 (tb_out H) (by decide) ?_
      exact sw_widen (by omega) (by omega) (kk σ C hI)
