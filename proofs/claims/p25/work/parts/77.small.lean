/-! the script's own array, in a method that the law calls -/
def sg_PcA (g : sg_G) (C : Nat → Option va_E) (scr : Cell) : State → Prop := fun U => sg_Pc g C U ∧ U.isArrayOf scr .int
def sg_MetA (l : Launch) (y : MethodName) (cc : ByteArray) (maxL : Nat) (ret : Option FieldType) (fr lo mc ms : Nat) (g : sg_G) (As : List Value) (C : Nat → Option va_E) (scr : Cell) (Post : Option Value → (Nat → Option va_E) → Prop) (X : String → (Nat → Option va_E) → Prop) : Prop :=
  vx_Met l y (sg_ws y cc maxL ret) (sg_rm fr lo mc ms) (va_Pc As (sg_PcA g C scr)) (sg_Q g Post) (sg_X g X) mc ms (fun q => g.2.2.1.size ≤ q)
theorem sg_blindA {g : sg_G} {C : Nat → Option va_E} {scr : Cell} {As : List Value} : FrameBlind (va_Pc As (sg_PcA g C scr)) := fun a U gg mk q => ⟨q.1, ⟨q.2.1.1, q.2.1.2.1, sg_KS.same (s := U) (U := U.calling gg mk a) rfl q.2.1.2.2⟩, State.isArrayOf_alike (s := U) (T := U.calling gg mk a) (Vm.Alike.refl _) q.2.2⟩
section SGA
variable {p : Program} {l : Launch} {e : Env} {R : Room} {s : State} {m : MethodId} {args : Array Value} {below : List Frame} {meth : Method} {c : Code} {cells slots : Nat} {Q : State → Prop}
variable {cc : ByteArray} {nL : Nat} {own : String} {g : sg_G} {C C0 : Nat → Option va_E} {pc : Nat} {lv lv' : List (Nat × Value)} {rest : List Value} {H : Heap} {scr : Cell}
variable {y : MethodName} {bytes : ByteArray} {maxL fr lo mc ms n idx : Nat} {ret : Option FieldType} {As : List Value} {Post : Option Value → (Nat → Option va_E) → Prop} {X : String → (Nat → Option va_E) → Prop}
theorem sg_preA (hc : sg_Cx p s m args c cc nL own g) (hR : sg_Rp g C H) (hL : sg_Lo g H) (hA : s.isArrayOf scr .int) : ∀ U : State, U.heap = H → s.WarmedH U.vm → va_Pc As (sg_PcA g C scr) As.toArray U :=
  fun U hU hW => ⟨rfl, (sg_pre (As := As) hc hR hL U hU hW).2, State.isArrayOf_alike hW.alike hA⟩
theorem sw_callSA (hc : sg_Cx p s m args c cc nL own g) (hA : s.isArrayOf scr .int) (hM : sg_MetA l y bytes maxL ret fr lo mc ms g As C scr Post X) (hd : sg_MD y bytes maxL ret n) (hl : Cond.methodLink own idx y ∈ sg_T) (hi : Cond.static y ∈ sg_T)
    (hn : As.length = n) {st : List Value} (hst : As.reverse ++ rest = st) (hW : (rest.map fun v => v.category).sum ≤ 8) (hdg : decode cc pc = .ok (.invokestatic idx, 3)) (hRm : fr + 1 ≤ R.frames ∧ 19 + maxL + lo ≤ R.locals ∧ cells + mc ≤ R.cells ∧ slots + ms ≤ R.slots)
    (kr : ∀ v C', Post v C' → sg_W p l e R s m args below meth c nL g (cells + mc) (slots + ms) Q C' (pc + 3) lv (v.toList ++ rest)) (kx : ∀ E C', X E C' → sg_WX p l e R s m args below meth c nL g (cells + mc) (slots + ms) Q C' pc lv E) : sg_W p l e R s m args below meth c nL g cells slots Q C pc lv st := by
  intro H locs ls hR hL hq hlv
  have hts := hc.2.2.2.2.1
  have hR2 : 8 + (maxL + 11) + lo ≤ R.locals := by omega
  subst hst
  exact sg_after (vx_runS (sg_fix hc) hM ⟨⟨rfl, rfl, hRm.1, hR2, sg_payA hts hd.1, List.mem_cons_self, hts _ hd.1, hts _ hd.2.1, hd.2.2.1, sg_len hd.2.2.2, hts _ hl⟩, hts _ hi⟩ ⟨sg_blindA, sg_preA hc hR hL hA⟩ rfl hn hlv.1 rfl (by show 2 * 0 + _ ≤ 8; omega) hdg hRm.2.2) hq hlv kr kx
theorem sg_ofWA {maxL' : Nat} (hy : plainName y.cls = true) (hml : maxL' = maxL)
    (body : ∀ p e s m below meth c, sg_Cx p s m As.toArray c bytes maxL y.cls g → s.isArrayOf scr .int → meth.locks = false → meth.sig.returnType = ret →
      sg_W p l e (sg_rm fr lo mc ms) s m As.toArray below meth c maxL g 0 0 (sg_End below g Post X As.toArray s mc ms) C 0 (lv_args 0 As) []) (hA : (lg_sl As).length ≤ maxL) : sg_MetA l y bytes maxL ret fr lo mc ms g As C scr Post X := by
  refine vx_ofW hy rfl ?_
  intro p e s m args below meth c s₁ B hml ht hPc
  obtain ⟨rfl, ⟨hR, hL, hK⟩, hAr⟩ := hPc
  have hts := atoms_spec (ws := sg_ws y bytes maxL ret) B.pre
  have hcx : sg_Cx p s m As.toArray c bytes maxL y.cls g := ⟨B.exec, B.bytes, hml, findClass_of_methodNamed B.named, fun w hw => hts w (List.mem_cons_of_mem _ hw), hK.1, hK.2, hL⟩
  have h0 := body p e s m below meth c hcx hAr B.notSynchronized B.returns s.heap [] _ hR hL (fun q h => by cases h) (lv_entry As (n := maxL) hA)
  rw [lg_entry_eq]
  exact h0
/-- what the script is, in the heap that the law began with -/
def Scr (g : sg_G) (b L : Nat) (xs : Nat → Int32) (scr : Cell) : Prop := g.2.2.1[b]? = some scr ∧ scr.vm ≠ .unknown ∧ scr.slots.size = L ∧ ∀ j : Nat, j < L → scr.slots[j]? = some (.int (xs j))
theorem Scr.lt {b L : Nat} {xs : Nat → Int32} (h : Scr g b L xs scr) : b < g.2.2.1.size := (Array.getElem?_eq_some_iff.mp h.1).1
theorem sw_sldA (hc : sg_Cx p s m args c cc nL own g) (hA : s.isArrayOf scr .int) {b L j : Nat} {xs : Nat → Int32} (hX : Scr g b L xs scr) (hj : j < L) (hL : L ≤ 100000) (hdg : decode cc pc = .ok (.iaload, 1))
    (kk : sg_W p l e R s m args below meth c nL g cells slots Q C (pc + 1) lv (.int (xs j) :: rest)) : sg_W p l e R s m args below meth c nL g cells slots Q C pc lv (.int (nI j) :: .ref b :: rest) := by
  intro H locs ls hR hLo hq hl
  have hb : H[b]? = some scr := by rw [hLo.2 b hX.lt]; exact hX.1
  obtain ⟨h1, h2⟩ := sg_ix (i := nI j) rfl hj hL
  refine W.iald (v := .int (xs j)) hc.1 hc.2.1 hb hA hX.2.1 (by rw [hX.2.2.1]; exact h1) ?_ rfl rfl hdg (kk H locs ls hR hLo hq hl)
  rw [h2]
  exact hX.2.2.2 _ hj
theorem sw_slenA (hc : sg_Cx p s m args c cc nL own g) (hA : s.isArrayOf scr .int) {b L : Nat} {xs : Nat → Int32} (hX : Scr g b L xs scr) (hdg : decode cc pc = .ok (.arraylength, 1))
    (kk : sg_W p l e R s m args below meth c nL g cells slots Q C (pc + 1) lv (.int (nI L) :: rest)) : sg_W p l e R s m args below meth c nL g cells slots Q C pc lv (.ref b :: rest) := by
  intro H locs ls hR hLo hq hl
  have hb : H[b]? = some scr := by rw [hLo.2 b hX.lt]; exact hX.1
  exact W.alen (n := nI L) hc.1 hc.2.1 hb hA (by rw [hX.2.2.1] <;> rfl) rfl rfl hdg (kk H locs ls hR hLo hq hl)
end SGA
/-- the law's numbers -/
def cellV (L : Nat) (xs : Nat → Int32) (j : Nat) : Int32 := if j < L then xs j else 2752481 * nI j + 1571
def lowN (x : Int32) (n : Nat) : Nat := x.toBitVec.toNat % 2 ^ 31 % n
theorem lowN_lt (x : Int32) {n : Nat} (h : 0 < n) : lowN x n < n := Nat.mod_lt _ h
theorem low_v (x : Int32) {n : Nat} (h : 0 < n) (hn : n < 2 ^ 31) : (x &&& 2147483647) - (x &&& 2147483647) / nI n * nI n = nI (lowN x n) := by
  rw [pk_and x 31 (by decide)]
  exact pk_rem (Nat.mod_lt _ (by decide)) h hn
theorem nI_lit (n : Nat) (x : Int32) (h : nI n = x) : nI n = x := h
theorem cn_RL_7 : Cond.constant RL 7 (2752481 : Int32) ∈ sg_T := sg_mem (i := 462) (by decide +kernel) rfl
theorem cn_RL_8 : Cond.constant RL 8 (2147483647 : Int32) ∈ sg_T := sg_mem (i := 466) (by decide +kernel) rfl
theorem md_L_across : sg_MD yL_across cL_across 1 (some .int) 1 := ⟨sg_mem (i := 738) (by decide +kernel) rfl, sg_mem (i := 25) (by decide +kernel) rfl, ⟨by decide, by decide⟩, by decide +kernel⟩
theorem ml_RL_61 : sg_ML RL 61 yL_across := .inl (sg_mem (i := 736) (by decide +kernel) rfl)
theorem st_L_across : Cond.static yL_across ∈ sg_T := sg_mem (i := 737) (by decide +kernel) rfl
set_option maxHeartbeats 4000000 in
set_option maxRecDepth 100000 in
theorem c_L_cell (l : Launch) (g : sg_G) (C : Nat → Option va_E) (b L j : Nat) (xs : Nat → Int32) (scr : Cell) (hX : Scr g b L xs scr) (hL : L ≤ 100000) (hj : j < 100000) : sg_MetA l yL_cell cL_cell 2 (some .int) 0 0 0 0 g [.ref b, .int (nI j)] C scr (fun v C' => v = some (.int (cellV L xs j)) ∧ C' = C) sg_no := by
  refine sg_ofWA (by decide) rfl ?_ (Nat.le_of_ble_eq_true rfl)
  intro p e s m below meth c hc hA hlk hrt
  have hc : sg_Cx p s m _ c cL_cell 2 RL g := hc
  show sg_W p l e _ s m _ below meth c 2 g 0 0 _ C 0 [(0, .ref b), (1, .int (nI j))] []
  refine sw_iload_n (pc := 0) hc dL_cell_0 rfl 1 rfl ?_
  refine sw_aload_n (pc := 1) hc dL_cell_1 rfl 0 rfl ?_
  refine sw_slenA (pc := 2) hc hA hX dL_cell_2 ?_
  refine sw_icmp_ge (pc := 3) (tgt := 12) hc dL_cell_3 (by decide) (fun c1 => ?_) (fun c1 => ?_)
  · have c2 : ¬ j < L := Nat.not_lt.mpr ((nI_leI (by omega) (by omega)).mp c1)
    refine sw_ldcI (pc := 12) (v := 2752481) hc cn_RL_7 dL_cell_12 ?_
    refine sw_iload_n (pc := 14) hc dL_cell_14 rfl 1 rfl ?_
    refine sw_imul (pc := 15) hc dL_cell_15 ?_
    refine sw_sipush (pc := 16) (v := 1571) hc dL_cell_16 (by decide) ?_
    refine sw_iadd (pc := 19) hc dL_cell_19 ?_
    exact sw_iret (pc := 20) hc hlk hrt rfl ⟨congrArg (fun zq => some (Value.int zq)) (if_neg c2).symm, rfl⟩ (Nat.le_of_ble_eq_true rfl) (Nat.le_of_ble_eq_true rfl) dL_cell_20
  · have c2 : j < L := Nat.not_le.mp fun q => c1 ((nI_leI (by omega) (by omega)).mpr q)
    refine sw_aload_n (pc := 6) hc dL_cell_6 rfl 0 rfl ?_
    refine sw_iload_n (pc := 7) hc dL_cell_7 rfl 1 rfl ?_
    refine sw_sldA (pc := 8) hc hA hX c2 hL dL_cell_8 ?_
    refine sw_goto (pc := 9) (tgt := 20) hc dL_cell_9 (by decide) ?_
    exact sw_iret (pc := 20) hc hlk hrt rfl ⟨congrArg (fun zq => some (Value.int zq)) (if_pos c2).symm, rfl⟩ (Nat.le_of_ble_eq_true rfl) (Nat.le_of_ble_eq_true rfl) dL_cell_20

set_option maxHeartbeats 4000000 in
set_option maxRecDepth 100000 in
theorem c_L_low (l : Launch) (g : sg_G) (C : Nat → Option va_E) (x : Int32) (n : Nat) (hn : 0 < n) (hn2 : n < 2 ^ 31) : sg_Met l yL_low cL_low 2 (some .int) 0 0 0 0 g [.int x, .int (nI n)] C (fun v C' => v = some (.int (nI (lowN x n))) ∧ C' = C) sg_no := by
  refine sg_ofW (by decide) rfl ?_ (Nat.le_of_ble_eq_true rfl)
  intro p e s m below meth c hc hlk hrt hin2 htb
  have hc : sg_Cx p s m _ c cL_low 2 RL g := hc
  show sg_W p l e _ s m _ below meth c 2 g 0 0 _ C 0 [(0, .int x), (1, .int (nI n))] []
  refine sw_iload_n (pc := 0) hc dL_low_0 rfl 0 rfl ?_
  refine sw_ldcI (pc := 1) (v := 2147483647) hc cn_RL_8 dL_low_1 ?_
  refine sw_iand (pc := 3) hc dL_low_3 ?_
  refine sw_iload_n (pc := 4) hc dL_low_4 rfl 1 rfl ?_
  refine sw_irem (pc := 5) hc dL_low_5 (nI_ne0 hn hn2) ?_
  exact sw_iret (pc := 6) hc hlk hrt rfl ⟨congrArg (fun zq => some (Value.int zq)) (low_v x hn hn2), rfl⟩ (Nat.le_of_ble_eq_true rfl) (Nat.le_of_ble_eq_true rfl) dL_low_6

set_option maxHeartbeats 4000000 in
set_option maxRecDepth 100000 in
theorem c_L_across (l : Launch) (g : sg_G) (C : Nat → Option va_E) (n : Nat) (hn : n < 2 ^ 30) : sg_Met l yL_across cL_across 1 (some .int) 0 0 0 0 g [.int (nI n)] C (fun v C' => v = some (.int (nI (n % 1000))) ∧ C' = C) sg_no := by
  refine sg_ofW (by decide) rfl ?_ (Nat.le_of_ble_eq_true rfl)
  intro p e s m below meth c hc hlk hrt hin2 htb
  have hc : sg_Cx p s m _ c cL_across 1 RL g := hc
  show sg_W p l e _ s m _ below meth c 1 g 0 0 _ C 0 [(0, .int (nI n))] []
  refine sw_iload_n (pc := 0) hc dL_across_0 rfl 0 rfl ?_
  refine sw_sipush (pc := 1) (v := 1000) hc dL_across_1 (by decide) ?_
  refine sw_irem (pc := 4) hc dL_across_4 (by decide) ?_
  refine sw_cv (y := nI (n % 1000)) (pk_rem (d := 1000) (by omega) (by decide) (by decide)) ?_
  refine sw_sipush (pc := 5) (v := 1000) hc dL_across_5 (by decide) ?_
  refine sw_iadd (pc := 8) hc dL_across_8 ?_
  refine sw_cv (y := nI (n % 1000 + 1000)) (nI_add _ 1000) ?_
  refine sw_sipush (pc := 9) (v := 1000) hc dL_across_9 (by decide) ?_
  refine sw_irem (pc := 12) hc dL_across_12 (by decide) ?_
  refine sw_cv (y := nI (n % 1000)) ((pk_rem (d := 1000) (by omega) (by decide) (by decide)).trans (congrArg nI (by omega))) ?_
  exact sw_iret (pc := 13) hc hlk hrt rfl ⟨rfl, rfl⟩ (Nat.le_of_ble_eq_true rfl) (Nat.le_of_ble_eq_true rfl) dL_across_13

set_option maxHeartbeats 4000000 in
set_option maxRecDepth 100000 in
theorem c_L_up (l : Launch) (g : sg_G) (C : Nat → Option va_E) (n : Nat) (hn : n < 2 ^ 30) : sg_Met l yL_up cL_up 1 (some .int) 1 20 0 0 g [.int (nI n)] C (fun v C' => v = some (.int (nI (n / 1000))) ∧ C' = C) sg_no := by
  refine sg_ofW (by decide) rfl ?_ (Nat.le_of_ble_eq_true rfl)
  intro p e s m below meth c hc hlk hrt hin2 htb
  have hc : sg_Cx p s m _ c cL_up 1 RL g := hc
  show sg_W p l e _ s m _ below meth c 1 g 0 0 _ C 0 [(0, .int (nI n))] []
  refine sw_iload_n (pc := 0) hc dL_up_0 rfl 0 rfl ?_
  refine sw_iload_n (pc := 1) hc dL_up_1 rfl 0 rfl ?_
  refine sw_callS (pc := 2) (rest := [.int (nI n)]) hc (c_L_across l g _ n hn) md_L_across ml_RL_61 st_L_across rfl rfl (Nat.le_of_ble_eq_true rfl) dL_up_2 ⟨Nat.le_of_ble_eq_true rfl, Nat.le_of_ble_eq_true rfl, Nat.le_of_ble_eq_true rfl, Nat.le_of_ble_eq_true rfl⟩ (fun v1 C3 hP2 => ?_) (fun _ _ hf => hf.elim)
  obtain ⟨rfl, rfl⟩ := hP2
  refine sw_st (st' := [.int (nI (n % 1000)), .int (nI n)]) rfl ?_
  refine sw_isub (pc := 5) hc dL_up_5 ?_
  refine sw_cv (y := nI (n - n % 1000)) (pk_sub (Nat.mod_le _ _)) ?_
  refine sw_sipush (pc := 6) (v := 1000) hc dL_up_6 (by decide) ?_
  refine sw_idiv (pc := 9) hc dL_up_9 (by decide) ?_
  refine sw_cv (y := nI (n / 1000)) ((pk_div (d := 1000) (by omega) (by decide) (by decide)).trans (congrArg nI (by omega))) ?_
  exact sw_iret (pc := 10) hc hlk hrt rfl ⟨rfl, rfl⟩ (Nat.le_of_ble_eq_true rfl) (Nat.le_of_ble_eq_true rfl) dL_up_10

set_option maxHeartbeats 4000000 in
set_option maxRecDepth 100000 in
theorem same_loop {p : Program} {l : Launch} {e : Env} {s : State} {m : MethodId} {below : List Frame} {meth : Method} {c : Code} {g : sg_G} {C : Nat → Option va_E} {Q : State → Prop} {args : Array Value} {R : Room} {r1 r2 : Nat} {f h : Nat → Int32} (hc : sg_Cx p s m args c cL_same 3 RL g) (h1 : C r1 = some (sg_ia g 40 f)) (h2 : C r2 = some (sg_ia g 40 h))
    (ky : (∀ k, k < 40 → f k = h k) → ∀ lv, sg_W p l e R s m args below meth c 3 g 0 0 Q C 25 lv []) (kn : (¬ ∀ k, k < 40 → f k = h k) → ∀ lv, sg_W p l e R s m args below meth c 3 g 0 0 Q C 17 lv []) (n : Nat) : ∀ k, k + n = 40 → (∀ j, j < k → f j = h j) → sg_W p l e R s m args below meth c 3 g 0 0 Q C 2 [(2, .int (nI k)), (0, .ref r1), (1, .ref r2)] [] := by
  induction n with
  | zero =>
    intro k hk hb
    refine sw_iload_n (pc := 2) hc dL_same_2 rfl 0 rfl ?_
    refine sw_bipush (pc := 3) (v := 40) hc dL_same_3 (by decide) ?_
    exact sw_icmp_ge (pc := 5) (tgt := 25) hc dL_same_5 (by decide) (fun _ => ky (fun j hj => hb j (by omega)) _) (fun c1 => absurd (nI_le (a := 40) (by omega) (by omega)) c1)
  | succ n ih =>
    intro k hk hb
    refine sw_iload_n (pc := 2) hc dL_same_2 rfl 0 rfl ?_
    refine sw_bipush (pc := 3) (v := 40) hc dL_same_3 (by decide) ?_
    refine sw_icmp_ge (pc := 5) (tgt := 25) hc dL_same_5 (by decide) (fun c1 => absurd c1 (nI_ge (b := 40) (by omega) (by decide))) (fun _ => ?_)
    refine sw_aload_n (pc := 8) hc dL_same_8 rfl 1 rfl ?_
    refine sw_iload_n (pc := 9) hc dL_same_9 rfl 0 rfl ?_
    refine sw_iald (pc := 10) (j := k) hc h1 rfl (by omega) (by decide) dL_same_10 ?_
    refine sw_aload_n (pc := 11) hc dL_same_11 rfl 2 rfl ?_
    refine sw_iload_n (pc := 12) hc dL_same_12 rfl 0 rfl ?_
    refine sw_iald (pc := 13) (j := k) hc h2 rfl (by omega) (by decide) dL_same_13 ?_
    refine sw_icmp_eq (pc := 14) (tgt := 19) hc dL_same_14 (by decide) (fun c1 => ?_) (fun c1 => ?_)
    · refine sw_iinc (pc := 19) (v := nI (k + 1)) (lv' := [(2, .int (nI (k + 1))), (0, .ref r1), (1, .ref r2)]) hc dL_same_19 (k := 0) rfl (nI_1 k) (by decide) rfl ?_
      refine sw_goto (pc := 22) (tgt := 2) hc dL_same_22 (by decide) ?_
      refine ih (k + 1) (by omega) (fun j hj => ?_)
      rcases Nat.lt_or_ge j k with q | q
      · exact hb j q
      · rw [show j = k by omega]; exact c1
    · exact kn (fun q => c1 (q k (by omega))) _

set_option maxHeartbeats 4000000 in
set_option maxRecDepth 100000 in
theorem c_L_same (l : Launch) (g : sg_G) (C : Nat → Option va_E) (r1 r2 : Nat) (f h : Nat → Int32) (h1 : C r1 = some (sg_ia g 40 f)) (h2 : C r2 = some (sg_ia g 40 h)) : sg_Met l yL_same cL_same 3 (some .boolean) 0 0 0 0 g [.ref r1, .ref r2] C (fun v C' => (∃ z, v = some (.int z) ∧ ((∀ k, k < 40 → f k = h k) → z = 1)) ∧ C' = C) sg_no := by
  refine sg_ofW (by decide) rfl ?_ (Nat.le_of_ble_eq_true rfl)
  intro p e s m below meth c hc hlk hrt hin2 htb
  have hc : sg_Cx p s m _ c cL_same 3 RL g := hc
  show sg_W p l e _ s m _ below meth c 3 g 0 0 _ C 0 [(0, .ref r1), (1, .ref r2)] []
  refine sw_iconst (pc := 0) (v := 0) hc dL_same_0 (by decide) ?_
  refine sw_istore_n (pc := 1) hc dL_same_1 rfl (by decide) (lv' := [(2, .int 0), (0, .ref r1), (1, .ref r2)]) rfl ?_
  refine same_loop hc h1 h2 (fun q lv => ?_) (fun q lv => ?_) 40 0 rfl (fun j hj => absurd hj (Nat.not_lt_zero _))
  · refine sw_iconst (pc := 25) (v := 1) hc dL_same_25 (by decide) ?_
    exact sw_iret (pc := 26) hc hlk hrt rfl ⟨⟨_, rfl, fun _ => rfl⟩, rfl⟩ (Nat.le_of_ble_eq_true rfl) (Nat.le_of_ble_eq_true rfl) dL_same_26
  · refine sw_iconst (pc := 17) (v := 0) hc dL_same_17 (by decide) ?_
    exact sw_iret (pc := 18) hc hlk hrt rfl ⟨⟨_, rfl, fun z => absurd z q⟩, rfl⟩ (Nat.le_of_ble_eq_true rfl) (Nat.le_of_ble_eq_true rfl) dL_same_18

