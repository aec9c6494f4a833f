/-! what the law reads of a gate, as it stands -/
/-- what stays true of the memory, beside WX, from the three replays on -/
def IV (σ : Mem) : Prop := σ 2 0 = 1 ∧ σ 9 0 = 4 ∧ σ 16 0 = 2 ∧ (∀ c, c < 32 → σ 0 c = 0) ∧ iN (σ 26 0) ≤ 24 ∧ (∀ r, r < iN (σ 26 0) → isN (σ 18 r) 8)
/-- the law's own counts -/
def NA (σ : Mem) (fn : Nat → Int32) : Prop := fn 0 = 4 ∧ fn 1 = 2 ∧ fn 2 = nI (iN (σ 26 0)) ∧ fn 3 = nI (iN (σ 30 0))
/-- who, and for what -/
def WA (σ : Mem) (fw : Nat → Int32) : Prop := ∀ r, r < iN (σ 26 0) → fw (2 * r) = σ 18 r ∧ fw (2 * r + 1) = σ 19 r
theorem rIn_y {σ : Mem} {k j b : Nat} (h : isN (σ k 0) b) (hb : b ≤ 1000) (hj : j < iN (σ k 0)) : rIn σ k (nI j) := by
  have h2 := h.2
  refine ⟨nI_pos' (by omega), ?_⟩
  rw [h.1, show (1 : Int32) = nI 1 from rfl, pk_sub (by omega)]
  exact nI_le (by omega) (by omega)
theorem rIn_k {σ : Mem} {k j n : Nat} (h : σ k 0 = nI n) (hn : n < 1000) (hj : j < n) : rIn σ k (nI j) := by
  have e : iN (σ k 0) = n := by rw [h]; exact nI_clamp (by omega)
  exact rIn_y (b := 1000) ⟨by rw [e]; exact h, by rw [e]; exact hn⟩ (by decide) (by rw [e]; exact hj)
theorem iN_nI {n : Nat} (h : n < 2 ^ 31) : iN (nI n) = n := nI_clamp h
theorem IV.pair {σ : Mem} {c u : Nat} (h : IV σ) (hc : c < 2) (hu : u < 8) : rPair σ (nI c) (nI u) := ⟨rIn_k (n := 2) h.2.2.1 (by decide) hc, nI_pos' (by omega), nI_le (b := 7) (by omega) (by decide)⟩
theorem IV.rep {σ : Mem} {r : Nat} (h : IV σ) (hr : r < 4) : rIn σ 9 (nI r) := rIn_k (n := 4) h.2.1 (by decide) hr
theorem WX.run_in {σ : Mem} {k : Nat} (hW : WX σ) (hk : k < iN (σ 26 0)) : rIn σ 26 (nI k) := rIn_y hW.1.2.2.2.1 (by decide) hk
theorem GK.rot {g : sg_G} {x0 : Nat} {σ : Mem} {K : va_W} {C : Nat → Option va_E} {a b z : Nat × va_E} (h : GK g x0 σ (z :: a :: b :: K) C) : GK g x0 σ (a :: b :: z :: K) C := by
  obtain ⟨⟨ad, own, gh, hP, hg, hW, hx, ho⟩, h2, h3⟩ := h
  have hm : ∀ y : Nat × va_E, y ∈ a :: b :: z :: K → y ∈ z :: a :: b :: K := by
    intro y hy
    simp only [List.mem_cons] at hy ⊢
    rcases hy with h | h | h | h
    · exact .inr (.inl h)
    · exact .inr (.inr (.inl h))
    · exact .inl h
    · exact .inr (.inr (.inr h))
  refine ⟨⟨ad, own, gh, hP, hg, hW, hx, fun y hy => ?_⟩, fun y hy => h2 y (hm y hy), ?_⟩
  · obtain ⟨q, hq, rfl⟩ := List.mem_map.mp hy
    exact ho _ (List.mem_map.mpr ⟨q, hm q hq, rfl⟩)
  · obtain ⟨n1, n2, n3, n4⟩ := h3
    simp only [List.map_cons, List.mem_cons, not_or] at n1 n2 n3 n4
    refine ⟨?_, ?_, n1.2.2, n4⟩
    · simp only [List.map_cons, List.mem_cons, not_or]
      exact ⟨n2.1, fun q => n1.1 q.symm, n2.2⟩
    · simp only [List.map_cons, List.mem_cons, not_or]
      exact ⟨fun q => n1.2.1 q.symm, n3⟩
def tellA (σ : Mem) (k : Nat) : Nat → Int32 := fun j => if j < k then rJd σ j else 0
theorem tellA_0 (σ : Mem) : tellA σ 0 = fun _ => 0 := funext fun j => if_neg (Nat.not_lt_zero j)
theorem tellA_s (σ : Mem) (k : Nat) : upd (tellA σ k) k (rJd σ k) = tellA σ (k + 1) := by
  funext j
  show (if j = k then rJd σ k else if j < k then rJd σ j else 0) = if j < k + 1 then rJd σ j else 0
  by_cases q : j = k
  · subst q; rw [if_pos rfl, if_pos (by omega)]
  · rw [if_neg q]
    by_cases q2 : j < k
    · rw [if_pos q2, if_pos (by omega)]
    · rw [if_neg q2, if_neg (by omega)]
def tlV (σ : Mem) (c u : Nat) : Int32 := 1000 * rTopN σ (nI c) (nI u) (-1) + rSpot σ (nI c) (nI u) (-1)
theorem md_X7_best : sg_MD yX7_best cX7_best 5 (some .int) 2 := ⟨sg_mem (i := 703) (by decide +kernel) rfl, sg_mem (i := 26) (by decide +kernel) rfl, ⟨by decide, by decide⟩, by decide +kernel⟩
theorem ml_RL_52 : sg_ML RL 52 yX7_best := .inl (sg_mem (i := 700) (by decide +kernel) rfl)
theorem im_X7_best : Cond.instanceMethod yX7_best ∈ sg_T := sg_mem (i := 701) (by decide +kernel) rfl
theorem sl_X7_best : Cond.selects yX7_best.cls yX7_best yX7_best ∈ sg_T := sg_mem (i := 702) (by decide +kernel) rfl
theorem md_X7_place : sg_MD yX7_place cX7_place 4 (some .int) 2 := ⟨sg_mem (i := 715) (by decide +kernel) rfl, sg_mem (i := 26) (by decide +kernel) rfl, ⟨by decide, by decide⟩, by decide +kernel⟩
theorem ml_RL_55 : sg_ML RL 55 yX7_place := .inl (sg_mem (i := 712) (by decide +kernel) rfl)
theorem im_X7_place : Cond.instanceMethod yX7_place ∈ sg_T := sg_mem (i := 713) (by decide +kernel) rfl
theorem sl_X7_place : Cond.selects yX7_place.cls yX7_place yX7_place ∈ sg_T := sg_mem (i := 714) (by decide +kernel) rfl
theorem md_X7_result : sg_MD yX7_result cX7_result 3 (some .int) 1 := ⟨sg_mem (i := 403) (by decide +kernel) rfl, sg_mem (i := 26) (by decide +kernel) rfl, ⟨by decide, by decide⟩, by decide +kernel⟩
theorem ml_RL_58 : sg_ML RL 58 yX7_result := .inl (sg_mem (i := 400) (by decide +kernel) rfl)
theorem im_X7_result : Cond.instanceMethod yX7_result ∈ sg_T := sg_mem (i := 401) (by decide +kernel) rfl
theorem sl_X7_result : Cond.selects yX7_result.cls yX7_result yX7_result ∈ sg_T := sg_mem (i := 402) (by decide +kernel) rfl
def tellF (σ : Mem) : Nat → Int32 := (upd (upd (upd (upd (upd (upd (upd (upd (upd (upd (tellA σ (iN (σ 26 0))) 24 (tlV σ 0 0)) 25 (tlV σ 0 1)) 26 (tlV σ 0 2)) 27 (tlV σ 0 3)) 28 (tlV σ 1 0)) 29 (tlV σ 1 1)) 30 (tlV σ 1 2)) 31 (tlV σ 1 3)) 38 (rPlan σ 2000)) 39 (rRes σ 0))
set_option maxHeartbeats 4000000 in
set_option maxRecDepth 100000 in
theorem tell_l1 {p : Program} {l : Launch} {e : Env} {s : State} {m : MethodId} {below : List Frame} {meth : Method} {c : Code} {Q : State → Prop} {args : Array Value} {g : sg_G} {x0 nA : Nat} {σ : Mem} {K : va_W} {fn : Nat → Int32} (hc : sg_Cx p s m args c cL_tell 5 RL g) (hst : l.stackTraces = false) (hI : IV σ) (hN : NA σ fn) {r : Nat} (kend : ∀ C, GK g x0 σ ((r, sg_ia g 40 (tellA σ (iN (σ 26 0)))) :: (nA, sg_ia g 4 fn) :: K) C → sg_W p l e (sg_rm 10 228 700 4200) s m args below meth c 5 g (1 + 16 * iN (σ 26 0)) (40 + 96 * iN (σ 26 0)) Q C 28 [(3, .int (nI (iN (σ 26 0)))), (2, .ref r), (0, .ref x0), (1, .ref nA)] []) (n : Nat) : ∀ k C, k + n = iN (σ 26 0) → GK g x0 σ ((r, sg_ia g 40 (tellA σ k)) :: (nA, sg_ia g 4 fn) :: K) C → sg_W p l e (sg_rm 10 228 700 4200) s m args below meth c 5 g (1 + 16 * k) (40 + 96 * k) Q C 7 [(3, .int (nI k)), (2, .ref r), (0, .ref x0), (1, .ref nA)] [] := by
  have hW24 := hI.2.2.2.2.1
  induction n with
  | zero =>
    intro k C hk hG
    have hk : k = iN (σ 26 0) := by omega
    subst hk
    refine sw_iload_n (pc := 7) hc dL_tell_7 rfl 0 rfl ?_
    refine sw_aload_n (pc := 8) hc dL_tell_8 rfl 3 rfl ?_
    refine sw_iconst (pc := 9) (v := 2) hc dL_tell_9 (by decide) ?_
    refine sw_iald (pc := 10) (j := 2) hc (hG.at 1 rfl) rfl (by decide) (by decide) dL_tell_10 ?_
    refine sw_cv (y := nI (iN (σ 26 0))) hN.2.2.1 ?_
    refine sw_icmp_ge (pc := 11) (tgt := 28) hc dL_tell_11 (by decide) (fun _ => ?_) (fun c1 => absurd (Int32.le_refl _) c1)
    exact kend _ hG
  | succ n ih =>
    intro k C hk hG
    refine sw_iload_n (pc := 7) hc dL_tell_7 rfl 0 rfl ?_
    refine sw_aload_n (pc := 8) hc dL_tell_8 rfl 3 rfl ?_
    refine sw_iconst (pc := 9) (v := 2) hc dL_tell_9 (by decide) ?_
    refine sw_iald (pc := 10) (j := 2) hc (hG.at 1 rfl) rfl (by decide) (by decide) dL_tell_10 ?_
    refine sw_cv (y := nI (iN (σ 26 0))) hN.2.2.1 ?_
    refine sw_icmp_ge (pc := 11) (tgt := 28) hc dL_tell_11 (by decide) (fun c1 => absurd c1 (nI_ge (by omega) (by omega))) (fun _ => ?_)
    refine sw_aload_n (pc := 14) hc dL_tell_14 rfl 1 rfl ?_
    refine sw_iload_n (pc := 15) hc dL_tell_15 rfl 0 rfl ?_
    refine sw_aload_n (pc := 16) hc dL_tell_16 rfl 2 rfl ?_
    refine sw_iload_n (pc := 17) hc dL_tell_17 rfl 0 rfl ?_
    obtain ⟨fs5, hx6⟩ := hG.gate
    refine sw_callV (pc := 18) (rest := [.int (nI k), .ref r]) hc (m_judged l (nI k) hst hG (hG.wx.run_in (by omega))) md_X7_judged ml_RL_43 im_X7_judged sl_X7_judged hx6 rfl rfl rfl (Nat.le_of_ble_eq_true rfl) dL_tell_18 ⟨Nat.le_of_ble_eq_true rfl, Nat.le_of_ble_eq_true rfl, (by show 1 + 16 * k + 16 ≤ 700; omega), (by show 40 + 96 * k + 96 ≤ 4200; omega)⟩ (fun v2 C4 hP3 => ?_) (fun _ _ hf => hf.elim)
    obtain ⟨rfl, hG7⟩ := hP3
    refine sw_st (st' := [.int (rJd σ (iN (nI k))), .int (nI k), .ref r]) rfl ?_
    refine sw_st (st' := [.int (rJd σ k), .int (nI k), .ref r]) (by rw [iN_nI (by omega)]) ?_
    refine sw_iast (pc := 21) (j := k) hc (hG7.at 0 rfl) rfl (by omega) (by decide) dL_tell_21 ?_
    refine sw_gen (P := fun zC => GK g x0 σ ((r, sg_ia g 40 (upd (tellA σ k) k (rJd σ k))) :: (nA, sg_ia g 4 fn) :: K) zC) (hG7.put 0 rfl) (fun C8 hG9 => ?_)
    refine sw_iinc (pc := 22) (v := nI (k + 1)) (lv' := [(3, .int (nI (k + 1))), (2, .ref r), (0, .ref x0), (1, .ref nA)]) hc dL_tell_22 (k := 0) rfl (nI_1 k) (by decide) rfl ?_
    refine sw_goto (pc := 25) (tgt := 7) hc dL_tell_25 (by decide) ?_
    exact sw_widen (by omega) (by omega) (ih (k + 1) _ (by omega) (tellA_s σ k ▸ hG9))

set_option maxHeartbeats 4000000 in
set_option maxRecDepth 100000 in
theorem tell_b {p : Program} {l : Launch} {e : Env} {s : State} {m : MethodId} {below : List Frame} {meth : Method} {c : Code} {Q : State → Prop} {args : Array Value} {g : sg_G} {x0 nA : Nat} {σ : Mem} {K : va_W} {fn : Nat → Int32} (hc : sg_Cx p s m args c cL_tell 5 RL g) (hst : l.stackTraces = false) (hI : IV σ) (hN : NA σ fn) {r d u k n : Nat} {f : Nat → Int32} {C : Nat → Option va_E} (hd : d < 2) (hu : u < 4) (h1 : k + 32 ≤ 700) (h2 : n + 192 ≤ 4200) (hG : GK g x0 σ ((r, sg_ia g 40 f) :: (nA, sg_ia g 4 fn) :: K) C) (kk : ∀ C, GK g x0 σ ((r, sg_ia g 40 (upd f (24 + 4 * d + u) (tlV σ d u))) :: (nA, sg_ia g 4 fn) :: K) C → sg_W p l e (sg_rm 10 228 700 4200) s m args below meth c 5 g (k + 16 + 16) (n + 96 + 96) Q C 76 [(4, .int (nI u)), (3, .int (nI d)), (2, .ref r), (0, .ref x0), (1, .ref nA)] []) : sg_W p l e (sg_rm 10 228 700 4200) s m args below meth c 5 g k n Q C 46 [(4, .int (nI u)), (3, .int (nI d)), (2, .ref r), (0, .ref x0), (1, .ref nA)] [] := by
  refine sw_aload_n (pc := 46) hc dL_tell_46 rfl 2 rfl ?_
  refine sw_bipush (pc := 47) (v := 24) hc dL_tell_47 (by decide) ?_
  refine sw_iconst (pc := 49) (v := 4) hc dL_tell_49 (by decide) ?_
  refine sw_iload_n (pc := 50) hc dL_tell_50 rfl 1 rfl ?_
  refine sw_imul (pc := 51) hc dL_tell_51 ?_
  refine sw_iadd (pc := 52) hc dL_tell_52 ?_
  refine sw_iload (pc := 53) hc dL_tell_53 0 rfl ?_
  refine sw_iadd (pc := 55) hc dL_tell_55 ?_
  refine sw_sipush (pc := 56) (v := 1000) hc dL_tell_56 (by decide) ?_
  refine sw_aload_n (pc := 59) hc dL_tell_59 rfl 3 rfl ?_
  refine sw_iload_n (pc := 60) hc dL_tell_60 rfl 1 rfl ?_
  refine sw_iload (pc := 61) hc dL_tell_61 0 rfl ?_
  obtain ⟨fs4, hx5⟩ := hG.gate
  refine sw_callV (pc := 63) (rest := [.int 1000, .int ((24 + (4 * (nI d))) + (nI u)), .ref r]) hc (m_best l (nI d) (nI u) hst hG (hI.pair hd (by omega))) md_X7_best ml_RL_52 im_X7_best sl_X7_best hx5 rfl rfl rfl (Nat.le_of_ble_eq_true rfl) dL_tell_63 ⟨Nat.le_of_ble_eq_true rfl, Nat.le_of_ble_eq_true rfl, (by show k + 16 ≤ 700; omega), (by show n + 96 ≤ 4200; omega)⟩ (fun v1 C3 hP2 => ?_) (fun _ _ hf => hf.elim)
  obtain ⟨rfl, hG6⟩ := hP2
  refine sw_st (st' := [.int (rTopN σ (nI d) (nI u) (-1)), .int 1000, .int ((24 + (4 * (nI d))) + (nI u)), .ref r]) rfl ?_
  refine sw_imul (pc := 66) hc dL_tell_66 ?_
  refine sw_aload_n (pc := 67) hc dL_tell_67 rfl 3 rfl ?_
  refine sw_iload_n (pc := 68) hc dL_tell_68 rfl 1 rfl ?_
  refine sw_iload (pc := 69) hc dL_tell_69 0 rfl ?_
  obtain ⟨fs10, hx11⟩ := hG6.gate
  refine sw_callV (pc := 71) (rest := [.int (1000 * (rTopN σ (nI d) (nI u) (-1))), .int ((24 + (4 * (nI d))) + (nI u)), .ref r]) hc (m_place l (nI d) (nI u) hst hG6 (hI.pair hd (by omega))) md_X7_place ml_RL_55 im_X7_place sl_X7_place hx11 rfl rfl rfl (Nat.le_of_ble_eq_true rfl) dL_tell_71 ⟨Nat.le_of_ble_eq_true rfl, Nat.le_of_ble_eq_true rfl, (by show k + 16 + 16 ≤ 700; omega), (by show n + 96 + 96 ≤ 4200; omega)⟩ (fun v7 C9 hP8 => ?_) (fun _ _ hf => hf.elim)
  obtain ⟨rfl, hG12⟩ := hP8
  refine sw_st (st' := [.int (rSpot σ (nI d) (nI u) (-1)), .int (1000 * (rTopN σ (nI d) (nI u) (-1))), .int ((24 + (4 * (nI d))) + (nI u)), .ref r]) rfl ?_
  refine sw_iadd (pc := 74) hc dL_tell_74 ?_
  refine sw_iast (pc := 75) (j := 24 + 4 * d + u) hc (hG12.at 0 rfl) (by rw [show (24 : Int32) = nI 24 from rfl, show (4 : Int32) = nI 4 from rfl, pk_mul, nI_add, nI_add]) (by omega) (by decide) dL_tell_75 ?_
  refine sw_gen (P := fun zC => GK g x0 σ ((r, sg_ia g 40 (upd f (24 + 4 * d + u) ((1000 * (rTopN σ (nI d) (nI u) (-1))) + (rSpot σ (nI d) (nI u) (-1))))) :: (nA, sg_ia g 4 fn) :: K) zC) (hG12.put 0 rfl) (fun C13 hG14 => ?_)
  exact kk _ hG14

set_option maxHeartbeats 4000000 in
set_option maxRecDepth 100000 in
theorem c_L_tell (l : Launch) (g : sg_G) (C : Nat → Option va_E) (x0 nA : Nat) (σ : Mem) (K : va_W) (fn : Nat → Int32) (hst : l.stackTraces = false) (hI : IV σ) (hN : NA σ fn) (hG : GK g x0 σ ((nA, sg_ia g 4 fn) :: K) C) : sg_Met l yL_tell cL_tell 5 (some (.array .int)) 10 228 700 4200 g [.ref x0, .ref nA] C (fun v C' => ∃ r, v = some (.ref r) ∧ GK g x0 σ ((r, sg_ia g 40 (tellF σ)) :: (nA, sg_ia g 4 fn) :: K) C') sg_no := by
  refine sg_ofW (by decide) rfl ?_ (Nat.le_of_ble_eq_true rfl)
  intro p e s m below meth c hc hlk hrt hin2 htb
  have hc : sg_Cx p s m _ c cL_tell 5 RL g := hc
  have hW24 := hI.2.2.2.2.1
  show sg_W p l e _ s m _ below meth c 5 g 0 0 _ C 0 [(0, .ref x0), (1, .ref nA)] []
  refine sw_bipush (pc := 0) (v := 40) hc dL_tell_0 (by decide) ?_
  refine sw_newi (pc := 2) (n := 40) hc ac_int rfl (by decide) ⟨Nat.le_of_ble_eq_true rfl, Nat.le_of_ble_eq_true rfl⟩ dL_tell_2 (fun r1 fr1 => ?_)
  refine sw_gen (P := fun zC => GK g x0 σ ((r1, sg_ia g 40 (fun _ => 0)) :: (nA, sg_ia g 4 fn) :: K) zC) (hG.cons fr1) (fun C2 hG3 => ?_)
  refine sw_astore_n (pc := 4) hc dL_tell_4 rfl (by decide) (lv' := [(2, .ref r1), (0, .ref x0), (1, .ref nA)]) rfl ?_
  refine sw_iconst (pc := 5) (v := 0) hc dL_tell_5 (by decide) ?_
  refine sw_istore_n (pc := 6) hc dL_tell_6 rfl (by decide) (lv' := [(3, .int 0), (2, .ref r1), (0, .ref x0), (1, .ref nA)]) rfl ?_
  have hG5 := tellA_0 σ ▸ hG3
  refine tell_l1 (k := 0) (r := r1) hc hst hI hN (fun C4 hG4 => ?_) (iN (σ 26 0)) _ (Nat.zero_add _) hG5
  refine sw_widen (k := 400) (n := 2400) (by omega) (by omega) ?_
  refine sw_sub (ks := [1, 2, 3]) (lv' := [(2, .ref r1), (0, .ref x0), (1, .ref nA)]) rfl ?_
  refine sw_iconst (pc := 28) (v := 0) hc dL_tell_28 (by decide) ?_
  refine sw_istore_n (pc := 29) hc dL_tell_29 rfl (by decide) (lv' := [(3, .int 0), (2, .ref r1), (0, .ref x0), (1, .ref nA)]) rfl ?_
  refine sw_iload_n (pc := 30) hc dL_tell_30 rfl 0 rfl ?_
  refine sw_aload_n (pc := 31) hc dL_tell_31 rfl 3 rfl ?_
  refine sw_iconst (pc := 32) (v := 1) hc dL_tell_32 (by decide) ?_
  refine sw_iald (pc := 33) (j := 1) hc (hG4.at 1 rfl) rfl (by decide) (by decide) dL_tell_33 ?_
  refine sw_cv (y := 2) hN.2.1 ?_
  refine sw_icmp_ge (pc := 34) (tgt := 88) hc dL_tell_34 (by decide) (fun c1 => absurd c1 (by decide)) (fun _ => ?_)
  refine sw_iconst (pc := 37) (v := 0) hc dL_tell_37 (by decide) ?_
  refine sw_istore (pc := 38) hc dL_tell_38 (by decide) (lv' := [(4, .int 0), (3, .int 0), (2, .ref r1), (0, .ref x0), (1, .ref nA)]) rfl ?_
  refine sw_iload (pc := 40) hc dL_tell_40 0 rfl ?_
  refine sw_iconst (pc := 42) (v := 4) hc dL_tell_42 (by decide) ?_
  refine sw_icmp_ge (pc := 43) (tgt := 82) hc dL_tell_43 (by decide) (fun c2 => absurd c2 (by decide)) (fun _ => ?_)
  refine sw_sub (ks := [0, 1, 2, 3, 4]) (lv' := [(4, .int (nI 0)), (3, .int (nI 0)), (2, .ref r1), (0, .ref x0), (1, .ref nA)]) rfl ?_
  refine tell_b hc hst hI hN (d := 0) (u := 0) (by decide) (by decide) (by decide) (by decide) hG4 (fun C3 hG4 => ?_)
  refine sw_iinc (pc := 76) (v := nI 1) (lv' := [(4, .int (nI 1)), (3, .int (nI 0)), (2, .ref r1), (0, .ref x0), (1, .ref nA)]) hc dL_tell_76 (k := 0) rfl (nI_1 0) (by decide) rfl ?_
  refine sw_goto (pc := 79) (tgt := 40) hc dL_tell_79 (by decide) ?_
  refine sw_iload (pc := 40) hc dL_tell_40 0 rfl ?_
  refine sw_iconst (pc := 42) (v := 4) hc dL_tell_42 (by decide) ?_
  refine sw_icmp_ge (pc := 43) (tgt := 82) hc dL_tell_43 (by decide) (fun c5 => absurd c5 (by decide)) (fun _ => ?_)
  refine sw_sub (ks := [0, 1, 2, 3, 4]) (lv' := [(4, .int (nI 1)), (3, .int (nI 0)), (2, .ref r1), (0, .ref x0), (1, .ref nA)]) rfl ?_
  refine tell_b hc hst hI hN (d := 0) (u := 1) (by decide) (by decide) (by decide) (by decide) hG4 (fun C6 hG7 => ?_)
  refine sw_iinc (pc := 76) (v := nI 2) (lv' := [(4, .int (nI 2)), (3, .int (nI 0)), (2, .ref r1), (0, .ref x0), (1, .ref nA)]) hc dL_tell_76 (k := 0) rfl (nI_1 1) (by decide) rfl ?_
  refine sw_goto (pc := 79) (tgt := 40) hc dL_tell_79 (by decide) ?_
  refine sw_iload (pc := 40) hc dL_tell_40 0 rfl ?_
  refine sw_iconst (pc := 42) (v := 4) hc dL_tell_42 (by decide) ?_
  refine sw_icmp_ge (pc := 43) (tgt := 82) hc dL_tell_43 (by decide) (fun c8 => absurd c8 (by decide)) (fun _ => ?_)
  refine sw_sub (ks := [0, 1, 2, 3, 4]) (lv' := [(4, .int (nI 2)), (3, .int (nI 0)), (2, .ref r1), (0, .ref x0), (1, .ref nA)]) rfl ?_
  refine tell_b hc hst hI hN (d := 0) (u := 2) (by decide) (by decide) (by decide) (by decide) hG7 (fun C9 hG10 => ?_)
  refine sw_iinc (pc := 76) (v := nI 3) (lv' := [(4, .int (nI 3)), (3, .int (nI 0)), (2, .ref r1), (0, .ref x0), (1, .ref nA)]) hc dL_tell_76 (k := 0) rfl (nI_1 2) (by decide) rfl ?_
  refine sw_goto (pc := 79) (tgt := 40) hc dL_tell_79 (by decide) ?_
  refine sw_iload (pc := 40) hc dL_tell_40 0 rfl ?_
  refine sw_iconst (pc := 42) (v := 4) hc dL_tell_42 (by decide) ?_
  refine sw_icmp_ge (pc := 43) (tgt := 82) hc dL_tell_43 (by decide) (fun c11 => absurd c11 (by decide)) (fun _ => ?_)
  refine sw_sub (ks := [0, 1, 2, 3, 4]) (lv' := [(4, .int (nI 3)), (3, .int (nI 0)), (2, .ref r1), (0, .ref x0), (1, .ref nA)]) rfl ?_
  refine tell_b hc hst hI hN (d := 0) (u := 3) (by decide) (by decide) (by decide) (by decide) hG10 (fun C12 hG13 => ?_)
  refine sw_iinc (pc := 76) (v := nI 4) (lv' := [(4, .int (nI 4)), (3, .int (nI 0)), (2, .ref r1), (0, .ref x0), (1, .ref nA)]) hc dL_tell_76 (k := 0) rfl (nI_1 3) (by decide) rfl ?_
  refine sw_goto (pc := 79) (tgt := 40) hc dL_tell_79 (by decide) ?_
  refine sw_iload (pc := 40) hc dL_tell_40 0 rfl ?_
  refine sw_iconst (pc := 42) (v := 4) hc dL_tell_42 (by decide) ?_
  refine sw_icmp_ge (pc := 43) (tgt := 82) hc dL_tell_43 (by decide) (fun _ => ?_) (fun c14 => absurd (by decide) c14)
  refine sw_iinc (pc := 82) (v := nI 1) (lv' := [(3, .int (nI 1)), (4, .int (nI 4)), (2, .ref r1), (0, .ref x0), (1, .ref nA)]) hc dL_tell_82 (k := 1) rfl (nI_1 0) (by decide) rfl ?_
  refine sw_goto (pc := 85) (tgt := 30) hc dL_tell_85 (by decide) ?_
  refine sw_iload_n (pc := 30) hc dL_tell_30 rfl 0 rfl ?_
  refine sw_aload_n (pc := 31) hc dL_tell_31 rfl 4 rfl ?_
  refine sw_iconst (pc := 32) (v := 1) hc dL_tell_32 (by decide) ?_
  refine sw_iald (pc := 33) (j := 1) hc (hG13.at 1 rfl) rfl (by decide) (by decide) dL_tell_33 ?_
  refine sw_cv (y := 2) hN.2.1 ?_
  refine sw_icmp_ge (pc := 34) (tgt := 88) hc dL_tell_34 (by decide) (fun c15 => absurd c15 (by decide)) (fun _ => ?_)
  refine sw_iconst (pc := 37) (v := 0) hc dL_tell_37 (by decide) ?_
  refine sw_istore (pc := 38) hc dL_tell_38 (by decide) (lv' := [(4, .int 0), (3, .int (nI 1)), (2, .ref r1), (0, .ref x0), (1, .ref nA)]) rfl ?_
  refine sw_iload (pc := 40) hc dL_tell_40 0 rfl ?_
  refine sw_iconst (pc := 42) (v := 4) hc dL_tell_42 (by decide) ?_
  refine sw_icmp_ge (pc := 43) (tgt := 82) hc dL_tell_43 (by decide) (fun c16 => absurd c16 (by decide)) (fun _ => ?_)
  refine sw_sub (ks := [0, 1, 2, 3, 4]) (lv' := [(4, .int (nI 0)), (3, .int (nI 1)), (2, .ref r1), (0, .ref x0), (1, .ref nA)]) rfl ?_
  refine tell_b hc hst hI hN (d := 1) (u := 0) (by decide) (by decide) (by decide) (by decide) hG13 (fun C17 hG18 => ?_)
  refine sw_iinc (pc := 76) (v := nI 1) (lv' := [(4, .int (nI 1)), (3, .int (nI 1)), (2, .ref r1), (0, .ref x0), (1, .ref nA)]) hc dL_tell_76 (k := 0) rfl (nI_1 0) (by decide) rfl ?_
  refine sw_goto (pc := 79) (tgt := 40) hc dL_tell_79 (by decide) ?_
  refine sw_iload (pc := 40) hc dL_tell_40 0 rfl ?_
  refine sw_iconst (pc := 42) (v := 4) hc dL_tell_42 (by decide) ?_
  refine sw_icmp_ge (pc := 43) (tgt := 82) hc dL_tell_43 (by decide) (fun c19 => absurd c19 (by decide)) (fun _ => ?_)
  refine sw_sub (ks := [0, 1, 2, 3, 4]) (lv' := [(4, .int (nI 1)), (3, .int (nI 1)), (2, .ref r1), (0, .ref x0), (1, .ref nA)]) rfl ?_
  refine tell_b hc hst hI hN (d := 1) (u := 1) (by decide) (by decide) (by decide) (by decide) hG18 (fun C20 hG21 => ?_)
  refine sw_iinc (pc := 76) (v := nI 2) (lv' := [(4, .int (nI 2)), (3, .int (nI 1)), (2, .ref r1), (0, .ref x0), (1, .ref nA)]) hc dL_tell_76 (k := 0) rfl (nI_1 1) (by decide) rfl ?_
  refine sw_goto (pc := 79) (tgt := 40) hc dL_tell_79 (by decide) ?_
  refine sw_iload (pc := 40) hc dL_tell_40 0 rfl ?_
  refine sw_iconst (pc := 42) (v := 4) hc dL_tell_42 (by decide) ?_
  refine sw_icmp_ge (pc := 43) (tgt := 82) hc dL_tell_43 (by decide) (fun c22 => absurd c22 (by decide)) (fun _ => ?_)
  refine sw_sub (ks := [0, 1, 2, 3, 4]) (lv' := [(4, .int (nI 2)), (3, .int (nI 1)), (2, .ref r1), (0, .ref x0), (1, .ref nA)]) rfl ?_
  refine tell_b hc hst hI hN (d := 1) (u := 2) (by decide) (by decide) (by decide) (by decide) hG21 (fun C23 hG24 => ?_)
  refine sw_iinc (pc := 76) (v := nI 3) (lv' := [(4, .int (nI 3)), (3, .int (nI 1)), (2, .ref r1), (0, .ref x0), (1, .ref nA)]) hc dL_tell_76 (k := 0) rfl (nI_1 2) (by decide) rfl ?_
  refine sw_goto (pc := 79) (tgt := 40) hc dL_tell_79 (by decide) ?_
  refine sw_iload (pc := 40) hc dL_tell_40 0 rfl ?_
  refine sw_iconst (pc := 42) (v := 4) hc dL_tell_42 (by decide) ?_
  refine sw_icmp_ge (pc := 43) (tgt := 82) hc dL_tell_43 (by decide) (fun c25 => absurd c25 (by decide)) (fun _ => ?_)
  refine sw_sub (ks := [0, 1, 2, 3, 4]) (lv' := [(4, .int (nI 3)), (3, .int (nI 1)), (2, .ref r1), (0, .ref x0), (1, .ref nA)]) rfl ?_
  refine tell_b hc hst hI hN (d := 1) (u := 3) (by decide) (by decide) (by decide) (by decide) hG24 (fun C26 hG27 => ?_)
  refine sw_iinc (pc := 76) (v := nI 4) (lv' := [(4, .int (nI 4)), (3, .int (nI 1)), (2, .ref r1), (0, .ref x0), (1, .ref nA)]) hc dL_tell_76 (k := 0) rfl (nI_1 3) (by decide) rfl ?_
  refine sw_goto (pc := 79) (tgt := 40) hc dL_tell_79 (by decide) ?_
  refine sw_iload (pc := 40) hc dL_tell_40 0 rfl ?_
  refine sw_iconst (pc := 42) (v := 4) hc dL_tell_42 (by decide) ?_
  refine sw_icmp_ge (pc := 43) (tgt := 82) hc dL_tell_43 (by decide) (fun _ => ?_) (fun c28 => absurd (by decide) c28)
  refine sw_iinc (pc := 82) (v := nI 2) (lv' := [(3, .int (nI 2)), (4, .int (nI 4)), (2, .ref r1), (0, .ref x0), (1, .ref nA)]) hc dL_tell_82 (k := 1) rfl (nI_1 1) (by decide) rfl ?_
  refine sw_goto (pc := 85) (tgt := 30) hc dL_tell_85 (by decide) ?_
  refine sw_iload_n (pc := 30) hc dL_tell_30 rfl 0 rfl ?_
  refine sw_aload_n (pc := 31) hc dL_tell_31 rfl 4 rfl ?_
  refine sw_iconst (pc := 32) (v := 1) hc dL_tell_32 (by decide) ?_
  refine sw_iald (pc := 33) (j := 1) hc (hG27.at 1 rfl) rfl (by decide) (by decide) dL_tell_33 ?_
  refine sw_cv (y := 2) hN.2.1 ?_
  refine sw_icmp_ge (pc := 34) (tgt := 88) hc dL_tell_34 (by decide) (fun _ => ?_) (fun c29 => absurd (by decide) c29)
  refine sw_aload_n (pc := 88) hc dL_tell_88 rfl 2 rfl ?_
  refine sw_bipush (pc := 89) (v := 38) hc dL_tell_89 (by decide) ?_
  refine sw_aload_n (pc := 91) hc dL_tell_91 rfl 3 rfl ?_
  refine sw_sipush (pc := 92) (v := 2000) hc dL_tell_92 (by decide) ?_
  obtain ⟨fs33, hx34⟩ := hG27.gate
  refine sw_callV (pc := 95) (rest := [.int 38, .ref r1]) hc (m_plan l 2000 hst hG27 (by decide)) md_X7_plan ml_RL_46 im_X7_plan sl_X7_plan hx34 rfl rfl rfl (Nat.le_of_ble_eq_true rfl) dL_tell_95 ⟨Nat.le_of_ble_eq_true rfl, Nat.le_of_ble_eq_true rfl, Nat.le_of_ble_eq_true rfl, Nat.le_of_ble_eq_true rfl⟩ (fun v30 C32 hP31 => ?_) (fun _ _ hf => hf.elim)
  obtain ⟨rfl, hG35⟩ := hP31
  refine sw_st (st' := [.int (rPlan σ 2000), .int 38, .ref r1]) rfl ?_
  refine sw_iast (pc := 98) (j := 38) hc (hG35.at 0 rfl) rfl (by decide) (by decide) dL_tell_98 ?_
  refine sw_gen (P := fun zC => GK g x0 σ ((r1, sg_ia g 40 (upd (upd (upd (upd (upd (upd (upd (upd (upd (tellA σ (iN (σ 26 0))) 24 (tlV σ 0 0)) 25 (tlV σ 0 1)) 26 (tlV σ 0 2)) 27 (tlV σ 0 3)) 28 (tlV σ 1 0)) 29 (tlV σ 1 1)) 30 (tlV σ 1 2)) 31 (tlV σ 1 3)) 38 (rPlan σ 2000))) :: (nA, sg_ia g 4 fn) :: K) zC) (hG35.put 0 rfl) (fun C36 hG37 => ?_)
  refine sw_aload_n (pc := 99) hc dL_tell_99 rfl 2 rfl ?_
  refine sw_bipush (pc := 100) (v := 39) hc dL_tell_100 (by decide) ?_
  refine sw_aload_n (pc := 102) hc dL_tell_102 rfl 4 rfl ?_
  refine sw_iconst (pc := 103) (v := 0) hc dL_tell_103 (by decide) ?_
  refine sw_iald (pc := 104) (j := 0) hc (hG37.at 1 rfl) rfl (by decide) (by decide) dL_tell_104 ?_
  refine sw_cv (y := 4) hN.1 ?_
  refine sw_if_le (pc := 105) (tgt := 116) hc dL_tell_105 (by decide) (fun c38 => absurd c38 (by decide)) (fun _ => ?_)
  refine sw_aload_n (pc := 108) hc dL_tell_108 rfl 3 rfl ?_
  refine sw_iconst (pc := 109) (v := 0) hc dL_tell_109 (by decide) ?_
  obtain ⟨fs42, hx43⟩ := hG37.gate
  refine sw_callV (pc := 110) (rest := [.int 39, .ref r1]) hc (m_result l 0 hst hG37 (hI.rep (r := 0) (by decide))) md_X7_result ml_RL_58 im_X7_result sl_X7_result hx43 rfl rfl rfl (Nat.le_of_ble_eq_true rfl) dL_tell_110 ⟨Nat.le_of_ble_eq_true rfl, Nat.le_of_ble_eq_true rfl, Nat.le_of_ble_eq_true rfl, Nat.le_of_ble_eq_true rfl⟩ (fun v39 C41 hP40 => ?_) (fun _ _ hf => hf.elim)
  obtain ⟨rfl, hG44⟩ := hP40
  refine sw_st (st' := [.int (rRes σ 0), .int 39, .ref r1]) rfl ?_
  refine sw_goto (pc := 113) (tgt := 117) hc dL_tell_113 (by decide) ?_
  refine sw_iast (pc := 117) (j := 39) hc (hG44.at 0 rfl) rfl (by decide) (by decide) dL_tell_117 ?_
  refine sw_gen (P := fun zC => GK g x0 σ ((r1, sg_ia g 40 (upd (upd (upd (upd (upd (upd (upd (upd (upd (upd (tellA σ (iN (σ 26 0))) 24 (tlV σ 0 0)) 25 (tlV σ 0 1)) 26 (tlV σ 0 2)) 27 (tlV σ 0 3)) 28 (tlV σ 1 0)) 29 (tlV σ 1 1)) 30 (tlV σ 1 2)) 31 (tlV σ 1 3)) 38 (rPlan σ 2000)) 39 (rRes σ 0))) :: (nA, sg_ia g 4 fn) :: K) zC) (hG44.put 0 rfl) (fun C45 hG46 => ?_)
  refine sw_aload_n (pc := 118) hc dL_tell_118 rfl 2 rfl ?_
  exact sw_aret (pc := 119) hc hlk hrt (.inr ⟨_, rfl⟩) (.inr ⟨_, rfl⟩) ⟨r1, rfl, hG46⟩ (Nat.le_of_ble_eq_true rfl) (Nat.le_of_ble_eq_true rfl) dL_tell_119

