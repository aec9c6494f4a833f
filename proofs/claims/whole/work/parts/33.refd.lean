
/-! running a replay -/
abbrev iN (x : Int32) : Nat := x.toNatClampNeg
def isN (x : Int32) (b : Nat) : Prop := x = nI (iN x) ∧ iN x < b
theorem isN_nI {n b : Nat} (h : n < b) (hb : b ≤ 100000) : isN (nI n) b := by
  have e : iN (nI n) = n := nI_clamp (by omega)
  exact ⟨by rw [e], by rw [e]; exact h⟩
def rFr (σ τ : Mem) : Prop := ∀ k : Nat, k < 32 → τ k = σ k
theorem rFr.st2 {σ τ : Mem} {k : Nat} {v : Int32} (h : rFr σ τ) (hk : 32 ≤ k) : rFr σ (st2 τ k 0 v) := by
  intro j hj
  rw [← h j hj]
  funext i
  rw [st2_a, show (j == k) = false by simp; omega]
  rfl
theorem rFr.rf {σ : Mem} : rFr σ σ := fun _ _ => rfl
theorem rFr.tr {σ τ υ : Mem} (h : rFr σ τ) (h2 : rFr τ υ) : rFr σ υ := fun k hk => (h2 k hk).trans (h k hk)
theorem rFr_start {σ τ : Mem} {a : Nat} (h : rFr σ τ) : rFr σ (rStart τ a) := by
  unfold rStart
  exact ((((((((((h.st2 (by decide)).st2 (by decide)).st2 (by decide)).st2 (by decide)).st2 (by decide)).st2 (by decide)).st2 (by decide)).st2 (by decide)).st2 (by decide)).st2 (by decide))
theorem rFr_way {σ τ : Mem} {b f : Int32} (h : rFr σ τ) : rFr σ (rWayS τ b f) := by
  unfold rWayS rWayM2 rWayM
  split
  · exact ((h.st2 (by decide)).st2 (by decide)).st2 (by decide)
  · exact h.st2 (by decide)
theorem rFr_jump {σ τ : Mem} {f : Int32} (h : rFr σ τ) : rFr σ (rJump τ f) := by
  unfold rJump
  split
  · exact ((h.st2 (by decide)).st2 (by decide)).st2 (by decide)
  · exact h
theorem rFr_clip {σ : Mem} {a : Nat} : ∀ {n i : Nat} {τ : Mem}, rFr σ τ → rFr σ (rClip a n i τ)
  | 0, _, _, h => h
  | n + 1, i, τ, h => rFr_clip (n := n) (i := i + 1) (h.st2 (k := 39) (by decide))
theorem rFr_go {σ τ : Mem} {a : Nat} {w : Int32} (h : rFr σ τ) : rFr σ (rGo τ a w) := by
  unfold rGo
  split
  · exact h
  · exact (rFr_clip h).st2 (by decide)
theorem rFr_fall {σ τ : Mem} {a : Nat} (h : rFr σ τ) : rFr σ (rFall τ a) := by
  unfold rFall
  refine rFr.st2 ?_ (by decide)
  have h1 : rFr σ (rFall1 τ a) := by
    unfold rFall1
    split
    · exact (h.st2 (by decide)).st2 (by decide)
    · exact h
  have h2 : rFr σ (rFall2 (rFall1 τ a)) := (h1.st2 (by decide)).st2 (by decide)
  unfold rFall4 rFall3
  split
  · split
    · exact ((h2.st2 (by decide)).st2 (by decide)).st2 (by decide)
    · exact h2
  · exact h1
theorem rFr_meet {σ τ : Mem} {a : Nat} (h : rFr σ τ) : rFr σ (rMeet τ a) := by
  unfold rMeet rMeet1
  refine rFr.st2 ?_ (by decide)
  split
  · exact h.st2 (by decide)
  · exact h
theorem rFr_tick {σ τ : Mem} {a : Nat} {b f : Int32} (h : rFr σ τ) : rFr σ (rTick τ a b f) := (rFr_meet (rFr_fall (rFr_go (rFr_jump (rFr_way h))))).st2 (by decide)
/-- a piece: n ticks at most of it are left -/
def rIn1 (a : Nat) (key til : Int32) : Nat → Mem × Int32 → Mem × Int32
  | 0, x => x
  | n + 1, x => if x.1 40 0 < til ∧ x.1 41 0 = 0 then rIn1 a key til n (rTick x.1 a key x.2, key) else x
/-- behind p pieces -/
def rOut (σ : Mem) (r : Nat) (til : Int32) : Nat → Mem × Int32
  | 0 => (rStart σ (iN (σ 3 r)), 0)
  | p + 1 => rIn1 (iN (σ 3 r)) (σ 7 (20 * r + p)) til (iN (σ 8 (20 * r + p))) (rOut σ r til p)
def rRun (σ : Mem) (r : Nat) (til : Int32) : Mem := (rOut σ r til (iN (σ 4 r))).1
theorem rIn1_k {σ : Mem} {a : Nat} {key til : Int32} : ∀ {n : Nat} {x : Mem × Int32}, rFr σ x.1 → rHW x.1 → rFr σ (rIn1 a key til n x).1 ∧ rHW (rIn1 a key til n x).1
  | 0, _, h, h2 => ⟨h, h2⟩
  | n + 1, x, h, h2 => by
    unfold rIn1
    split
    · exact rIn1_k (n := n) (x := (rTick x.1 a key x.2, key)) (rFr_tick h) (rHW_tick h2)
    · exact ⟨h, h2⟩
theorem rOut_k {σ : Mem} {r : Nat} {til : Int32} : ∀ {p : Nat}, rFr σ (rOut σ r til p).1 ∧ rHW (rOut σ r til p).1
  | 0 => ⟨rFr_start rFr.rf, rHW_start _ _⟩
  | p + 1 => rIn1_k (rOut_k (p := p)).1 (rOut_k (p := p)).2
theorem rRun_k {σ : Mem} {r : Nat} {til : Int32} : rFr σ (rRun σ r til) ∧ rHW (rRun σ r til) := rOut_k
def rWF (σ : Mem) : Prop := isN (σ 2 0) 4 ∧ isN (σ 9 0) 21 ∧ isN (σ 16 0) 7 ∧ isN (σ 26 0) 41 ∧ isN (σ 30 0) 11 ∧
  (∀ r, r < iN (σ 9 0) → isN (σ 3 r) (iN (σ 2 0))) ∧ (∀ r, isN (σ 4 r) 21) ∧ (∀ j, isN (σ 8 j) 101) ∧ (∀ k, k < iN (σ 16 0) → isN (σ 10 k) (iN (σ 2 0))) ∧ (∀ k, isN (σ 11 k) 11) ∧
  (∀ k, k < iN (σ 26 0) → isN (σ 17 k) (iN (σ 9 0))) ∧ (∀ k, k < iN (σ 26 0) → isN (σ 19 k) (iN (σ 16 0))) ∧ (∀ k, k < iN (σ 30 0) → isN (σ 27 k) (iN (σ 16 0)))
theorem rWF.fr {σ τ : Mem} (h : rWF σ) (hF : rFr σ τ) : rWF τ := by
  unfold rWF
  rw [hF 2 (by decide), hF 9 (by decide), hF 16 (by decide), hF 26 (by decide), hF 30 (by decide), hF 3 (by decide), hF 4 (by decide), hF 8 (by decide), hF 10 (by decide), hF 11 (by decide), hF 17 (by decide), hF 19 (by decide), hF 27 (by decide)]
  exact h
theorem isN_lt {x : Int32} {b : Nat} (h : isN x b) : iN x < b := h.2
/-- what run wants: the replay is there -/
def rRp (σ : Mem) (r : Nat) : Prop := r < 20 ∧ isN (σ 3 r) 3 ∧ isN (σ 4 r) 21 ∧ ∀ j, isN (σ 8 j) 101
theorem rWF.rp {σ : Mem} {r : Nat} (h : rWF σ) (hr : r < iN (σ 9 0)) : rRp σ r := by
  obtain ⟨h2, h9, -, -, -, h3, h4, h8, -⟩ := h
  have a := h2.2
  have b := h9.2
  exact ⟨by omega, ⟨(h3 r hr).1, by have := (h3 r hr).2; omega⟩, h4 r, h8⟩

theorem rIn1_s {a m k : Nat} {key til f : Int32} {υ : Mem} (h : k < m) (c1 : ¬ til ≤ υ 40 0) (c2 : υ 41 0 = 0) : rIn1 a key til (m - k) (υ, f) = rIn1 a key til (m - (k + 1)) (rTick υ a key f, key) := by
  rw [show m - k = (m - (k + 1)) + 1 by omega]
  show (if _ then _ else _) = _
  rw [if_pos ⟨Int32.not_le.mp c1, c2⟩]
theorem rIn1_x {a m k : Nat} {key til : Int32} {x : Mem × Int32} (h : m ≤ k ∨ til ≤ x.1 40 0 ∨ ¬ x.1 41 0 = 0) : rIn1 a key til (m - k) x = x := by
  cases hm : m - k with
  | zero => rfl
  | succ n =>
    show (if _ then _ else _) = _
    rw [if_neg]
    intro ⟨q1, q2⟩
    rcases h with h | h | h
    · omega
    · exact absurd h (Int32.not_le.mpr q1)
    · exact h q2

def rPurse (x : Int32) : Nat → Int32
  | 0 => 0
  | k + 1 => rPurse x k + (x >>> (nI k &&& 31) &&& 1)

theorem fl_RX8_31 : sg_FL RX8 31 9 8 := ⟨RX8, TX8, 43, "SplitGateModel", rfl, by decide, ti_9, .inl rfl, .inl (sg_mem (i := 872) (by decide +kernel) rfl)⟩
theorem fl_RX8_16 : sg_FL RX8 16 9 3 := ⟨RX8, TX8, 43, "SplitGateModel", rfl, by decide, ti_9, .inl rfl, .inl (sg_mem (i := 867) (by decide +kernel) rfl)⟩
theorem fl_RX8_28 : sg_FL RX8 28 9 7 := ⟨RX8, TX8, 43, "SplitGateModel", rfl, by decide, ti_9, .inl rfl, .inl (sg_mem (i := 871) (by decide +kernel) rfl)⟩
theorem md_X8_tick : sg_MD yX8_tick cX8_tick 6 none 3 := ⟨sg_mem (i := 1057) (by decide +kernel) rfl, sg_mem (i := 59) (by decide +kernel) rfl, ⟨by decide, by decide⟩, by decide +kernel⟩
theorem ml_RX8_167 : sg_ML RX8 167 yX8_tick := .inl (sg_mem (i := 1054) (by decide +kernel) rfl)
theorem im_X8_tick : Cond.instanceMethod yX8_tick ∈ sg_T := sg_mem (i := 1056) (by decide +kernel) rfl
theorem sl_X8_tick : Cond.selects yX8_tick.cls yX8_tick yX8_tick ∈ sg_T := sg_mem (i := 34) (by decide +kernel) rfl
theorem fl_RX8_19 : sg_FL RX8 19 9 4 := ⟨RX8, TX8, 43, "SplitGateModel", rfl, by decide, ti_9, .inl rfl, .inl (sg_mem (i := 868) (by decide +kernel) rfl)⟩
theorem md_X8_start : sg_MD yX8_start cX8_start 2 none 1 := ⟨sg_mem (i := 1045) (by decide +kernel) rfl, sg_mem (i := 59) (by decide +kernel) rfl, ⟨by decide, by decide⟩, by decide +kernel⟩
theorem ml_RX8_164 : sg_ML RX8 164 yX8_start := .inl (sg_mem (i := 1042) (by decide +kernel) rfl)
theorem im_X8_start : Cond.instanceMethod yX8_start ∈ sg_T := sg_mem (i := 1044) (by decide +kernel) rfl
theorem sl_X8_start : Cond.selects yX8_start.cls yX8_start yX8_start ∈ sg_T := sg_mem (i := 31) (by decide +kernel) rfl
set_option maxHeartbeats 4000000 in
set_option maxRecDepth 100000 in
theorem c_X8_run (l : Launch) (g : sg_G) (C : Nat → Option va_E) (m0 : Nat) (q : Nat → Nat) (σ : Mem) (r : Nat) (til : Int32) (hN : mN m0 q) (hr : rRp σ r) : sg_Met l yX8_run cX8_run 6 none 4 95 0 0 g [.ref m0, .int (nI r), .int til] (sg_ov C (mW g m0 q σ)) (fun v C' => v = none ∧ C' = sg_ov C (mW g m0 q (rRun σ r til))) sg_no := by
  refine sg_ofW (by decide) rfl ?_ (Nat.le_of_ble_eq_true rfl)
  intro p e s m below meth c hc hlk hrt hin2 htb
  have hc : sg_Cx p s m _ c cX8_run 6 RX8 g := hc
  show sg_W p l e _ s m _ below meth c 6 g 0 0 _ (sg_ov C (mW g m0 q σ)) 0 [(0, .ref m0), (1, .int (nI r)), (2, .int til)] []
  have K_15 : ∀ (n15 : Nat) (τ : Mem) (pp : Nat) (f : Int32) (hn15 : (iN (σ 4 r) - pp) < n15) (eτ : τ = (rOut σ r til pp).1) (ef : f = (rOut σ r til pp).2) (hF : rFr σ τ) (hw : rHW τ) (hp : pp ≤ iN (σ 4 r)), sg_W p l e (sg_rm 4 95 0 0) s m ([.ref m0, .int (nI r), .int til] : List Value).toArray below meth c 6 g 0 0 (sg_End below g (fun v C' => v = none ∧ C' = sg_ov C (mW g m0 q (rRun σ r til))) sg_no ([.ref m0, .int (nI r), .int til] : List Value).toArray s 0 0) (sg_ov C (mW g m0 q τ)) 15 [(0, .ref m0), (1, .int (nI r)), (2, .int til), (3, .int f), (4, .int (nI pp))] [] := by
    intro n15
    induction n15 with
    | zero => intro τ pp f hn15 eτ ef hF hw hp; exact absurd hn15 (Nat.not_lt_zero _)
    | succ n15 ih15 =>
      intro τ pp f hn15 eτ ef hF hw hp
      have hb4 := hr.2.2.1.2; have hb20 := hr.1
      have K_29 : ∀ (n29 : Nat) (υ : Mem) (kk : Nat) (f2 : Int32) (hn29 : (iN (σ 8 (20 * r + pp)) - kk) < n29) (hG2 : rIn1 (iN (σ 3 r)) (σ 7 (20 * r + pp)) til (iN (σ 8 (20 * r + pp)) - kk) (υ, f2) = rOut σ r til (pp + 1)) (hF2 : rFr σ υ) (hw2 : rHW υ) (hp2 : pp < iN (σ 4 r)) (hk2 : kk < 102), sg_W p l e (sg_rm 4 95 0 0) s m ([.ref m0, .int (nI r), .int til] : List Value).toArray below meth c 6 g 0 0 (sg_End below g (fun v C' => v = none ∧ C' = sg_ov C (mW g m0 q (rRun σ r til))) sg_no ([.ref m0, .int (nI r), .int til] : List Value).toArray s 0 0) (sg_ov C (mW g m0 q υ)) 29 [(0, .ref m0), (1, .int (nI r)), (2, .int til), (3, .int f2), (4, .int (nI pp)), (5, .int (nI kk))] [] := by
        intro n29
        induction n29 with
        | zero => intro υ kk f2 hn29 hG2 hF2 hw2 hp2 hk2; exact absurd hn29 (Nat.not_lt_zero _)
        | succ n29 ih29 =>
          intro υ kk f2 hn29 hG2 hF2 hw2 hp2 hk2
          have hb4 := hr.2.2.1.2; have hb20 := hr.1; have hb8 := (hr.2.2.2 (20 * r + pp)).2
          refine sw_iload (pc := 29) hc dX8_run_29 5 rfl ?_
          refine sw_aload_n (pc := 31) hc dX8_run_31 rfl 0 rfl ?_
          refine sw_get (pc := 32) (v := .ref (q 8)) hc fl_RX8_31 (mW_o hN) rfl dX8_run_32 ?_
          refine sw_bipush (pc := 35) (v := 20) hc dX8_run_35 (by decide) ?_
          refine sw_iload_n (pc := 37) hc dX8_run_37 rfl 1 rfl ?_
          refine sw_imul (pc := 38) hc dX8_run_38 ?_
          refine sw_iload (pc := 39) hc dX8_run_39 4 rfl ?_
          refine sw_iadd (pc := 41) hc dX8_run_41 ?_
          refine sw_iald (pc := 42) (j := 20 * r + pp) hc (mW_a8 hN) ((rfl).trans (nI_ix 20)) (by have := hr.1; omega) (by decide) dX8_run_42 ?_
          refine sw_st (st' := [.int (nI (iN (σ 8 (20 * r + pp)))), .int (nI kk)]) (by rw [show υ 8 = σ 8 from hF2 8 (by decide)]; exact congrArg (fun z => ([.int z, .int (nI kk)] : List Value)) (hr.2.2.2 _).1) ?_
          refine sw_icmp_ge (pc := 43) (tgt := 103) hc dX8_run_43 (by decide) (fun c_1 => ?_) (fun c_1 => ?_)
          ·
            have n_2 : (iN (σ 8 (20 * r + pp))) ≤ kk := (nI_leI (a := (iN (σ 8 (20 * r + pp)))) (b := kk) (by have := (hr.2.2.2 (20 * r + pp)).2; omega) (by have := (hr.2.2.2 (20 * r + pp)).2; omega)).mp c_1
            have c_1' := Int32.not_lt.mpr c_1
            refine sw_iinc (pc := 103) (v := nI (pp + 1)) (lv' := [(4, .int (nI (pp + 1))), (0, .ref m0), (1, .int (nI r)), (2, .int til), (3, .int f2), (5, .int (nI kk))]) hc dX8_run_103 (k := 4) rfl (nI_1 _) (by decide) rfl ?_
            refine sw_goto (pc := 106) (tgt := 15) hc dX8_run_106 (by decide) ?_
            have h_3 : υ = (rOut σ r til (pp + 1)).1 := by first | rfl | (have hx := rIn1_x (a := iN (σ 3 r)) (key := σ 7 (20 * r + pp)) (til := til) (m := iN (σ 8 (20 * r + pp))) (k := kk) (x := (υ, f2)) (by first | exact .inl (by omega) | exact .inr (.inl (by assumption)) | exact .inr (.inr (by assumption))); rw [hG2] at hx; rw [hx])
            have h_4 : f2 = (rOut σ r til (pp + 1)).2 := by first | rfl | (have hx := rIn1_x (a := iN (σ 3 r)) (key := σ 7 (20 * r + pp)) (til := til) (m := iN (σ 8 (20 * r + pp))) (k := kk) (x := (υ, f2)) (by first | exact .inl (by omega) | exact .inr (.inl (by assumption)) | exact .inr (.inr (by assumption))); rw [hG2] at hx; rw [hx])
            have h_5 : rFr σ υ := by exact hF2
            have h_6 : rHW υ := by exact hw2
            have h_7 : (pp + 1) ≤ iN (σ 4 r) := by omega
            have h_8 : (iN (σ 4 r) - (pp + 1)) < n15 := by omega
            exact sw_sub (ks := [1, 2, 3, 4, 0]) rfl (ih15 υ (pp + 1) f2 h_8 h_3 h_4 h_5 h_6 h_7)
          ·
            have n_9 : ¬ ((iN (σ 8 (20 * r + pp))) ≤ kk) := fun z => c_1 ((nI_leI (a := (iN (σ 8 (20 * r + pp)))) (b := kk) (by have := (hr.2.2.2 (20 * r + pp)).2; omega) (by have := (hr.2.2.2 (20 * r + pp)).2; omega)).mpr z)
            have c_1' := Int32.not_le.mp c_1
            refine sw_aload_n (pc := 46) hc dX8_run_46 rfl 0 rfl ?_
            refine sw_get (pc := 47) (v := .int (υ 40 0)) hc fl_RX8_141 (mW_o hN) rfl dX8_run_47 ?_
            refine sw_iload_n (pc := 50) hc dX8_run_50 rfl 2 rfl ?_
            refine sw_icmp_ge (pc := 51) (tgt := 103) hc dX8_run_51 (by decide) (fun c_10 => ?_) (fun c_10 => ?_)
            ·
              have c_10' := Int32.not_lt.mpr c_10
              refine sw_iinc (pc := 103) (v := nI (pp + 1)) (lv' := [(4, .int (nI (pp + 1))), (0, .ref m0), (1, .int (nI r)), (2, .int til), (3, .int f2), (5, .int (nI kk))]) hc dX8_run_103 (k := 4) rfl (nI_1 _) (by decide) rfl ?_
              refine sw_goto (pc := 106) (tgt := 15) hc dX8_run_106 (by decide) ?_
              have h_11 : υ = (rOut σ r til (pp + 1)).1 := by first | rfl | (have hx := rIn1_x (a := iN (σ 3 r)) (key := σ 7 (20 * r + pp)) (til := til) (m := iN (σ 8 (20 * r + pp))) (k := kk) (x := (υ, f2)) (by first | exact .inl (by omega) | exact .inr (.inl (by assumption)) | exact .inr (.inr (by assumption))); rw [hG2] at hx; rw [hx])
              have h_12 : f2 = (rOut σ r til (pp + 1)).2 := by first | rfl | (have hx := rIn1_x (a := iN (σ 3 r)) (key := σ 7 (20 * r + pp)) (til := til) (m := iN (σ 8 (20 * r + pp))) (k := kk) (x := (υ, f2)) (by first | exact .inl (by omega) | exact .inr (.inl (by assumption)) | exact .inr (.inr (by assumption))); rw [hG2] at hx; rw [hx])
              have h_13 : rFr σ υ := by exact hF2
              have h_14 : rHW υ := by exact hw2
              have h_15 : (pp + 1) ≤ iN (σ 4 r) := by omega
              have h_16 : (iN (σ 4 r) - (pp + 1)) < n15 := by omega
              exact sw_sub (ks := [1, 2, 3, 4, 0]) rfl (ih15 υ (pp + 1) f2 h_16 h_11 h_12 h_13 h_14 h_15)
            ·
              have c_10' := Int32.not_le.mp c_10
              refine sw_aload_n (pc := 54) hc dX8_run_54 rfl 0 rfl ?_
              refine sw_get (pc := 55) (v := .int (υ 41 0)) hc fl_RX8_144 (mW_o hN) rfl dX8_run_55 ?_
              refine sw_if_ne (pc := 58) (tgt := 103) hc dX8_run_58 (by decide) (fun c_17 => ?_) (fun c_17 => ?_)
              ·
                refine sw_iinc (pc := 103) (v := nI (pp + 1)) (lv' := [(4, .int (nI (pp + 1))), (0, .ref m0), (1, .int (nI r)), (2, .int til), (3, .int f2), (5, .int (nI kk))]) hc dX8_run_103 (k := 4) rfl (nI_1 _) (by decide) rfl ?_
                refine sw_goto (pc := 106) (tgt := 15) hc dX8_run_106 (by decide) ?_
                have h_18 : υ = (rOut σ r til (pp + 1)).1 := by first | rfl | (have hx := rIn1_x (a := iN (σ 3 r)) (key := σ 7 (20 * r + pp)) (til := til) (m := iN (σ 8 (20 * r + pp))) (k := kk) (x := (υ, f2)) (by first | exact .inl (by omega) | exact .inr (.inl (by assumption)) | exact .inr (.inr (by assumption))); rw [hG2] at hx; rw [hx])
                have h_19 : f2 = (rOut σ r til (pp + 1)).2 := by first | rfl | (have hx := rIn1_x (a := iN (σ 3 r)) (key := σ 7 (20 * r + pp)) (til := til) (m := iN (σ 8 (20 * r + pp))) (k := kk) (x := (υ, f2)) (by first | exact .inl (by omega) | exact .inr (.inl (by assumption)) | exact .inr (.inr (by assumption))); rw [hG2] at hx; rw [hx])
                have h_20 : rFr σ υ := by exact hF2
                have h_21 : rHW υ := by exact hw2
                have h_22 : (pp + 1) ≤ iN (σ 4 r) := by omega
                have h_23 : (iN (σ 4 r) - (pp + 1)) < n15 := by omega
                exact sw_sub (ks := [1, 2, 3, 4, 0]) rfl (ih15 υ (pp + 1) f2 h_23 h_18 h_19 h_20 h_21 h_22)
              ·
                refine sw_aload_n (pc := 61) hc dX8_run_61 rfl 0 rfl ?_
                refine sw_aload_n (pc := 62) hc dX8_run_62 rfl 0 rfl ?_
                refine sw_get (pc := 63) (v := .ref (q 3)) hc fl_RX8_16 (mW_o hN) rfl dX8_run_63 ?_
                refine sw_iload_n (pc := 66) hc dX8_run_66 rfl 1 rfl ?_
                refine sw_iald (pc := 67) (j := r) hc (mW_a3 hN) rfl hr.1 (by decide) dX8_run_67 ?_
                refine sw_st (st' := [.int (nI (iN (σ 3 r))), .ref m0]) (by rw [show υ 3 = σ 3 from hF2 3 (by decide)]; exact congrArg (fun z => ([.int z, .ref m0] : List Value)) hr.2.1.1) ?_
                refine sw_aload_n (pc := 68) hc dX8_run_68 rfl 0 rfl ?_
                refine sw_get (pc := 69) (v := .ref (q 7)) hc fl_RX8_28 (mW_o hN) rfl dX8_run_69 ?_
                refine sw_bipush (pc := 72) (v := 20) hc dX8_run_72 (by decide) ?_
                refine sw_iload_n (pc := 74) hc dX8_run_74 rfl 1 rfl ?_
                refine sw_imul (pc := 75) hc dX8_run_75 ?_
                refine sw_iload (pc := 76) hc dX8_run_76 4 rfl ?_
                refine sw_iadd (pc := 78) hc dX8_run_78 ?_
                refine sw_iald (pc := 79) (j := 20 * r + pp) hc (mW_a7 hN) ((rfl).trans (nI_ix 20)) (by have := hr.1; omega) (by decide) dX8_run_79 ?_
                refine sw_st (st' := [.int (σ 7 (20 * r + pp)), .int (nI (iN (σ 3 r))), .ref m0]) (by rw [show υ 7 = σ 7 from hF2 7 (by decide)]) ?_
                refine sw_iload_n (pc := 80) hc dX8_run_80 rfl 3 rfl ?_
                refine sw_callV (pc := 81) (rest := []) hc (c_X8_tick l g C m0 q υ (iN (σ 3 r)) (σ 7 (20 * r + pp)) f2 hN (hr.2.1.2) (hw2)) md_X8_tick ml_RX8_167 im_X8_tick sl_X8_tick (mW_o hN) rfl rfl rfl (Nat.le_of_ble_eq_true rfl) dX8_run_81 ⟨Nat.le_of_ble_eq_true rfl, Nat.le_of_ble_eq_true rfl, Nat.le_of_ble_eq_true rfl, Nat.le_of_ble_eq_true rfl⟩ (fun v C' hP => ?_) (fun _ _ h => h.elim)
                obtain ⟨rfl, rfl⟩ := hP
                refine sw_st (st' := []) rfl ?_
                refine sw_aload_n (pc := 84) hc dX8_run_84 rfl 0 rfl ?_
                refine sw_get (pc := 85) (v := .ref (q 7)) hc fl_RX8_28 (mW_o hN) rfl dX8_run_85 ?_
                refine sw_bipush (pc := 88) (v := 20) hc dX8_run_88 (by decide) ?_
                refine sw_iload_n (pc := 90) hc dX8_run_90 rfl 1 rfl ?_
                refine sw_imul (pc := 91) hc dX8_run_91 ?_
                refine sw_iload (pc := 92) hc dX8_run_92 4 rfl ?_
                refine sw_iadd (pc := 94) hc dX8_run_94 ?_
                refine sw_iald (pc := 95) (j := 20 * r + pp) hc (mW_a7 hN) ((rfl).trans (nI_ix 20)) (by have := hr.1; omega) (by decide) dX8_run_95 ?_
                refine sw_st (st' := [.int (σ 7 (20 * r + pp))]) (by rw [show rTick υ (iN (σ 3 r)) (σ 7 (20 * r + pp)) f2 7 = σ 7 from rFr_tick hF2 7 (by decide)]) ?_
                refine sw_istore_n (pc := 96) hc dX8_run_96 rfl (by decide) (lv' := [(3, .int (σ 7 (20 * r + pp))), (0, .ref m0), (1, .int (nI r)), (2, .int til), (4, .int (nI pp)), (5, .int (nI kk))]) rfl ?_
                refine sw_iinc (pc := 97) (v := nI (kk + 1)) (lv' := [(5, .int (nI (kk + 1))), (3, .int (σ 7 (20 * r + pp))), (0, .ref m0), (1, .int (nI r)), (2, .int til), (4, .int (nI pp))]) hc dX8_run_97 (k := 5) rfl (nI_1 _) (by decide) rfl ?_
                refine sw_goto (pc := 100) (tgt := 29) hc dX8_run_100 (by decide) ?_
                have h_24 : rIn1 (iN (σ 3 r)) (σ 7 (20 * r + pp)) til (iN (σ 8 (20 * r + pp)) - (kk + 1)) ((rTick υ (iN (σ 3 r)) (σ 7 (20 * r + pp)) f2), (σ 7 (20 * r + pp))) = rOut σ r til (pp + 1) := by rw [← hG2]; exact (rIn1_s (by omega) c_10 c_17).symm
                have h_25 : rFr σ (rTick υ (iN (σ 3 r)) (σ 7 (20 * r + pp)) f2) := by exact rFr_tick hF2
                have h_26 : rHW (rTick υ (iN (σ 3 r)) (σ 7 (20 * r + pp)) f2) := by exact rHW_tick hw2
                have h_27 : pp < iN (σ 4 r) := by omega
                have h_28 : (kk + 1) < 102 := by omega
                have h_29 : (iN (σ 8 (20 * r + pp)) - (kk + 1)) < n29 := by omega
                exact sw_sub (ks := [2, 3, 4, 1, 5, 0]) rfl (ih29 (rTick υ (iN (σ 3 r)) (σ 7 (20 * r + pp)) f2) (kk + 1) (σ 7 (20 * r + pp)) h_29 h_24 h_25 h_26 h_27 h_28)
      refine sw_iload (pc := 15) hc dX8_run_15 4 rfl ?_
      refine sw_aload_n (pc := 17) hc dX8_run_17 rfl 0 rfl ?_
      refine sw_get (pc := 18) (v := .ref (q 4)) hc fl_RX8_19 (mW_o hN) rfl dX8_run_18 ?_
      refine sw_iload_n (pc := 21) hc dX8_run_21 rfl 1 rfl ?_
      refine sw_iald (pc := 22) (j := r) hc (mW_a4 hN) rfl hr.1 (by decide) dX8_run_22 ?_
      refine sw_st (st' := [.int (nI (iN (σ 4 r))), .int (nI pp)]) (by rw [show τ 4 = σ 4 from hF 4 (by decide)]; exact congrArg (fun z => ([.int z, .int (nI pp)] : List Value)) hr.2.2.1.1) ?_
      refine sw_icmp_ge (pc := 23) (tgt := 109) hc dX8_run_23 (by decide) (fun c_30 => ?_) (fun c_30 => ?_)
      ·
        have n_31 : (iN (σ 4 r)) ≤ pp := (nI_leI (a := (iN (σ 4 r))) (b := pp) (by have := hr.2.2.1.2; omega) (by have := hr.2.2.1.2; omega)).mp c_30
        have c_30' := Int32.not_lt.mpr c_30
        have hz : τ = rRun σ r til := by rw [eτ, show pp = iN (σ 4 r) by omega]; rfl
        exact sw_vret (pc := 109) hc hlk hrt ⟨rfl, congrArg (fun z => sg_ov C (mW g m0 q z)) hz⟩ (Nat.le_of_ble_eq_true rfl) (Nat.le_of_ble_eq_true rfl) dX8_run_109
      ·
        have n_32 : ¬ ((iN (σ 4 r)) ≤ pp) := fun z => c_30 ((nI_leI (a := (iN (σ 4 r))) (b := pp) (by have := hr.2.2.1.2; omega) (by have := hr.2.2.1.2; omega)).mpr z)
        have c_30' := Int32.not_le.mp c_30
        refine sw_iconst (pc := 26) (v := 0) hc dX8_run_26 (by decide) ?_
        refine sw_istore (pc := 27) hc dX8_run_27 (by decide) (lv' := [(5, .int 0), (0, .ref m0), (1, .int (nI r)), (2, .int til), (3, .int f), (4, .int (nI pp))]) rfl ?_
        have h_33 : rIn1 (iN (σ 3 r)) (σ 7 (20 * r + pp)) til (iN (σ 8 (20 * r + pp)) - 0) (τ, f) = rOut σ r til (pp + 1) := by rw [eτ, ef]; rfl
        have h_34 : rFr σ τ := by exact hF
        have h_35 : rHW τ := by exact hw
        have h_36 : pp < iN (σ 4 r) := by omega
        have h_37 : 0 < 102 := by omega
        exact sw_sub (ks := [1, 2, 3, 4, 5, 0]) rfl (K_29 _ τ 0 f (Nat.lt_succ_self _) h_33 h_34 h_35 h_36 h_37)
  refine sw_iconst (pc := 0) (v := 0) hc dX8_run_0 (by decide) ?_
  refine sw_istore_n (pc := 1) hc dX8_run_1 rfl (by decide) (lv' := [(3, .int 0), (0, .ref m0), (1, .int (nI r)), (2, .int til)]) rfl ?_
  refine sw_aload_n (pc := 2) hc dX8_run_2 rfl 1 rfl ?_
  refine sw_aload_n (pc := 3) hc dX8_run_3 rfl 1 rfl ?_
  refine sw_get (pc := 4) (v := .ref (q 3)) hc fl_RX8_16 (mW_o hN) rfl dX8_run_4 ?_
  refine sw_iload_n (pc := 7) hc dX8_run_7 rfl 2 rfl ?_
  refine sw_iald (pc := 8) (j := r) hc (mW_a3 hN) rfl hr.1 (by decide) dX8_run_8 ?_
  refine sw_st (st' := [.int (nI (iN (σ 3 r))), .ref m0]) (congrArg (fun z => ([.int z, .ref m0] : List Value)) hr.2.1.1) ?_
  refine sw_callV (pc := 9) (rest := []) hc (c_X8_start l g C m0 q σ (iN (σ 3 r)) hN (hr.2.1.2)) md_X8_start ml_RX8_164 im_X8_start sl_X8_start (mW_o hN) rfl rfl rfl (Nat.le_of_ble_eq_true rfl) dX8_run_9 ⟨Nat.le_of_ble_eq_true rfl, Nat.le_of_ble_eq_true rfl, Nat.le_of_ble_eq_true rfl, Nat.le_of_ble_eq_true rfl⟩ (fun v C' hP => ?_) (fun _ _ h => h.elim)
  obtain ⟨rfl, rfl⟩ := hP
  refine sw_st (st' := []) rfl ?_
  refine sw_iconst (pc := 12) (v := 0) hc dX8_run_12 (by decide) ?_
  refine sw_istore (pc := 13) hc dX8_run_13 (by decide) (lv' := [(4, .int 0), (3, .int 0), (0, .ref m0), (1, .int (nI r)), (2, .int til)]) rfl ?_
  have h_38 : rStart σ (iN (σ 3 r)) = (rOut σ r til 0).1 := by first | rfl | (have hx := rIn1_x (a := iN (σ 3 r)) (key := σ 7 (20 * r + pp)) (til := til) (m := iN (σ 8 (20 * r + pp))) (k := kk) (x := (υ, f2)) (by first | exact .inl (by omega) | exact .inr (.inl (by assumption)) | exact .inr (.inr (by assumption))); rw [hG2] at hx; rw [hx])
  have h_39 : 0 = (rOut σ r til 0).2 := by first | rfl | (have hx := rIn1_x (a := iN (σ 3 r)) (key := σ 7 (20 * r + pp)) (til := til) (m := iN (σ 8 (20 * r + pp))) (k := kk) (x := (υ, f2)) (by first | exact .inl (by omega) | exact .inr (.inl (by assumption)) | exact .inr (.inr (by assumption))); rw [hG2] at hx; rw [hx])
  have h_40 : rFr σ (rStart σ (iN (σ 3 r))) := by exact rFr_start rFr.rf
  have h_41 : rHW (rStart σ (iN (σ 3 r))) := by exact rHW_start _ _
  have h_42 : 0 ≤ iN (σ 4 r) := by omega
  exact sw_sub (ks := [2, 3, 4, 1, 0]) rfl (K_15 _ (rStart σ (iN (σ 3 r))) 0 0 (Nat.lt_succ_self _) h_38 h_39 h_40 h_41 h_42)

set_option maxHeartbeats 4000000 in
set_option maxRecDepth 100000 in
theorem c_X8_purse (l : Launch) (g : sg_G) (C : Nat → Option va_E) (m0 : Nat) (q : Nat → Nat) (σ : Mem) (hN : mN m0 q) : sg_Met l yX8_purse cX8_purse 3 (some .int) 0 0 0 0 g [.ref m0] (sg_ov C (mW g m0 q σ)) (fun v C' => v = some (.int (rPurse (σ 37 0) 32)) ∧ C' = sg_ov C (mW g m0 q σ)) sg_no := by
  refine sg_ofW (by decide) rfl ?_ (Nat.le_of_ble_eq_true rfl)
  intro p e s m below meth c hc hlk hrt hin2 htb
  have hc : sg_Cx p s m _ c cX8_purse 3 RX8 g := hc
  show sg_W p l e _ s m _ below meth c 3 g 0 0 _ (sg_ov C (mW g m0 q σ)) 0 [(0, .ref m0)] []
  have K_4 : ∀ (n4 : Nat) (kk : Nat) (v : Int32) (hn4 : (32 - kk) < n4) (ev : v = rPurse (σ 37 0) kk) (hk : kk ≤ 32), sg_W p l e (sg_rm 0 0 0 0) s m ([.ref m0] : List Value).toArray below meth c 3 g 0 0 (sg_End below g (fun v C' => v = some (.int (rPurse (σ 37 0) 32)) ∧ C' = sg_ov C (mW g m0 q σ)) sg_no ([.ref m0] : List Value).toArray s 0 0) (sg_ov C (mW g m0 q σ)) 4 [(0, .ref m0), (1, .int v), (2, .int (nI kk))] [] := by
    intro n4
    induction n4 with
    | zero => intro kk v hn4 ev hk; exact absurd hn4 (Nat.not_lt_zero _)
    | succ n4 ih4 =>
      intro kk v hn4 ev hk
      refine sw_iload_n (pc := 4) hc dX8_purse_4 rfl 2 rfl ?_
      refine sw_bipush (pc := 5) (v := 32) hc dX8_purse_5 (by decide) ?_
      refine sw_icmp_ge (pc := 7) (tgt := 27) hc dX8_purse_7 (by decide) (fun c_1 => ?_) (fun c_1 => ?_)
      ·
        have n_2 : 32 ≤ kk := (nI_leI (a := 32) (b := kk) (by omega) (by omega)).mp c_1
        have c_1' := Int32.not_lt.mpr c_1
        refine sw_iload_n (pc := 27) hc dX8_purse_27 rfl 1 rfl ?_
        have hz : v = rPurse (σ 37 0) 32 := by rw [ev, show kk = 32 by omega]
        exact sw_iret (pc := 28) hc hlk hrt rfl ⟨congrArg (fun z => some (Value.int z)) hz, rfl⟩ (Nat.le_of_ble_eq_true rfl) (Nat.le_of_ble_eq_true rfl) dX8_purse_28
      ·
        have n_3 : ¬ (32 ≤ kk) := fun z => c_1 ((nI_leI (a := 32) (b := kk) (by omega) (by omega)).mpr z)
        have c_1' := Int32.not_le.mp c_1
        refine sw_iload_n (pc := 10) hc dX8_purse_10 rfl 1 rfl ?_
        refine sw_aload_n (pc := 11) hc dX8_purse_11 rfl 0 rfl ?_
        refine sw_get (pc := 12) (v := .int (σ 37 0)) hc fl_RX8_132 (mW_o hN) rfl dX8_purse_12 ?_
        refine sw_iload_n (pc := 15) hc dX8_purse_15 rfl 2 rfl ?_
        refine sw_ishr (pc := 16) hc dX8_purse_16 ?_
        refine sw_iconst (pc := 17) (v := 1) hc dX8_purse_17 (by decide) ?_
        refine sw_iand (pc := 18) hc dX8_purse_18 ?_
        refine sw_iadd (pc := 19) hc dX8_purse_19 ?_
        refine sw_top (fun x_4 ex_4 => ?_)
        refine sw_istore_n (pc := 20) hc dX8_purse_20 rfl (by decide) (lv' := [(1, .int x_4), (0, .ref m0), (2, .int (nI kk))]) rfl ?_
        refine sw_iinc (pc := 21) (v := nI (kk + 1)) (lv' := [(2, .int (nI (kk + 1))), (1, .int x_4), (0, .ref m0)]) hc dX8_purse_21 (k := 2) rfl (nI_1 _) (by decide) rfl ?_
        refine sw_goto (pc := 24) (tgt := 4) hc dX8_purse_24 (by decide) ?_
        have h_5 : x_4 = rPurse (σ 37 0) (kk + 1) := by first | rfl | (subst ev ex_4; rfl)
        have h_6 : (kk + 1) ≤ 32 := by omega
        have h_7 : (32 - (kk + 1)) < n4 := by omega
        exact sw_sub (ks := [2, 1, 0]) rfl (ih4 (kk + 1) x_4 h_7 h_5 h_6)
  refine sw_iconst (pc := 0) (v := 0) hc dX8_purse_0 (by decide) ?_
  refine sw_istore_n (pc := 1) hc dX8_purse_1 rfl (by decide) (lv' := [(1, .int 0), (0, .ref m0)]) rfl ?_
  refine sw_iconst (pc := 2) (v := 0) hc dX8_purse_2 (by decide) ?_
  refine sw_istore_n (pc := 3) hc dX8_purse_3 rfl (by decide) (lv' := [(2, .int 0), (1, .int 0), (0, .ref m0)]) rfl ?_
  have h_8 : 0 = rPurse (σ 37 0) 0 := by first | rfl | (rfl)
  have h_9 : 0 ≤ 32 := by omega
  exact sw_sub (ks := [2, 1, 0]) rfl (K_4 _ 0 0 (Nat.lt_succ_self _) h_8 h_9)

