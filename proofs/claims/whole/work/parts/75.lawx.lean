/-! what the reference says that it threw -/
section R42
variable {σ τ : Mem} {a c : Nat} {b f v : Int32} {r : Nat} {til : Int32}
theorem r42_way : rWayS τ b f 42 0 = τ 42 0 := by
  unfold rWayS rWayM2 rWayM
  split <;> rfl
theorem r42_jump : rJump τ f 42 0 = τ 42 0 := by
  unfold rJump
  split <;> rfl
theorem r42_clip : ∀ {n i : Nat} {τ : Mem}, rClip a n i τ 42 0 = τ 42 0
  | 0, _, _ => rfl
  | n + 1, i, τ => (r42_clip (n := n) (i := i + 1)).trans rfl
theorem r42_go {w : Int32} : rGo τ a w 42 0 = τ 42 0 := by
  unfold rGo
  split
  · rfl
  · exact r42_clip
theorem r42_fall : rFall τ a 42 0 = τ 42 0 := by
  unfold rFall rFall4 rFall3 rFall2 rFall1
  split <;> split <;> (try split) <;> rfl
theorem r42_meet1 : rMeet1 τ a c 42 0 = τ 42 0 := by
  unfold rMeet1
  split <;> rfl
theorem s42 {k i : Nat} (h : Nat.beq 42 k = false) : st2 τ k i v 42 0 = τ 42 0 := by
  show cond (Nat.beq 42 k && Nat.beq 0 i) v (τ 42 0) = τ 42 0
  rw [h]
  rfl
theorem r42_tick : rTick τ a b f 42 0 = τ 42 0 := by
  unfold rTick rMeet
  refine Eq.trans (s42 (k := 40) rfl) (Eq.trans (s42 (k := 41) rfl) ?_)
  exact Eq.trans r42_meet1 (Eq.trans r42_fall (Eq.trans r42_go (Eq.trans r42_jump r42_way)))
theorem r42_in1 {key : Int32} (n : Nat) : ∀ x : Mem × Int32, (rIn1 a key til n x).1 42 0 = x.1 42 0 := by
  induction n with
  | zero => intro x; rfl
  | succ n ih =>
    intro x
    unfold rIn1
    split
    · have h2 : (rTick x.1 a key x.2, key).1 = rTick x.1 a key x.2 := rfl
      rw [ih, h2]
      exact r42_tick
    · rfl
theorem r42_out (n : Nat) : (rOut σ r til n).1 42 0 = σ 42 0 := by
  induction n with
  | zero => rfl
  | succ n ih =>
    unfold rOut
    exact Eq.trans (r42_in1 _ _) ih
theorem r42_run : rRun σ r til 42 0 = σ 42 0 := r42_out _
theorem r42_ba {x y : Int32} (n : Nat) : (rBA σ x y n).1 42 0 = σ 42 0 := by
  induction n with
  | zero => rfl
  | succ n ih =>
    unfold rBA
    split
    · exact Eq.trans (r42_run (σ := (rBA σ x y n).1)) ih
    · exact ih
theorem q_Level : fLevel σ 42 0 = kLevel σ := by unfold fLevel; split <;> exact st2_ss (σ := σ) (k := 42) (i := 0)
theorem q_Column {x y h t : Int32} : fColumn σ x y h t 42 0 = kColumn σ x y h t := by unfold fColumn; split <;> exact st2_ss (σ := σ) (k := 42) (i := 0)
theorem q_Replay {x : Int32} : fReplay σ x 42 0 = kReplay σ x := by unfold fReplay; split <;> exact st2_ss (σ := σ) (k := 42) (i := 0)
theorem q_Input {x b t : Int32} : fInput σ x b t 42 0 = kInput σ x b t := by unfold fInput; split <;> exact st2_ss (σ := σ) (k := 42) (i := 0)
theorem q_Result {x : Int32} : fResult σ x 42 0 = kIn σ 9 x := by
  unfold fResult
  split
  · exact st2_ss
  · exact Eq.trans r42_run st2_ss
theorem q_Where {x t : Int32} : fWhere σ x t 42 0 = kWhere σ x t := by
  unfold fWhere
  split
  · exact st2_ss
  · exact Eq.trans r42_run st2_ss
theorem q_Category {x : Int32} : fCategory σ x 42 0 = kCategory σ x := by unfold fCategory; split <;> exact st2_ss (σ := σ) (k := 42) (i := 0)
theorem q_Rule {x d f pu j : Int32} : fRule σ x d f pu j 42 0 = kRule σ x d f pu j := by unfold fRule; split <;> exact st2_ss (σ := σ) (k := 42) (i := 0)
theorem q_Pass {x : Int32} : fPass σ x 42 0 = kPass σ x := by unfold fPass; split <;> exact st2_ss (σ := σ) (k := 42) (i := 0)
theorem q_Submit {x y z : Int32} : fSubmit σ x y z 42 0 = kSubmit σ (rSub σ x y z) x y z := by unfold fSubmit; split <;> exact st2_ss (σ := rSub σ x y z) (k := 42) (i := 0)
theorem q_In {k : Nat} {x : Int32} : fIn σ k x 42 0 = kIn σ k x := st2_ss
theorem q_Strike {x : Int32} : fStrike σ x 42 0 = kIn σ 26 x := by unfold fStrike; split <;> exact st2_ss (σ := σ) (k := 42) (i := 0)
theorem q_Pair {x y : Int32} : fPair σ x y 42 0 = kPair σ x y := st2_ss
theorem q_BestAnew {x y : Int32} : fBestAnew σ x y 42 0 = kPair σ x y := by
  unfold fBestAnew
  split
  · exact st2_ss
  · exact Eq.trans (r42_ba _) st2_ss
theorem q_At {x z : Int32} : fAt σ x z 42 0 = kAt σ x z := st2_ss
theorem q_Offer {x y : Int32} : fOffer σ x y 42 0 = kOffer σ x y := by unfold fOffer; split <;> exact st2_ss (σ := σ) (k := 42) (i := 0)
theorem q_Gift {x a : Int32} : fGift σ x a 42 0 = kGift σ x a := by unfold fGift; split <;> exact st2_ss (σ := σ) (k := 42) (i := 0)
theorem q_Plan {x : Int32} : fPlan σ x 42 0 = kPlan x := st2_ss
end R42
/-! the script; the two at once -/
/-- an entry of the script -/
def AV (L : Nat) (xs : Nat → Int32) (i a : Int32) : Prop := vp_in i L ∧ xs i.toNatClampNeg = a
section SCR
variable {p : Program} {l : Launch} {e : Env} {R : Room} {s : State} {m : MethodId} {args : Array Value} {below : List Frame} {meth : Method} {c : Code} {cells slots : Nat} {Q : State → Prop}
variable {cc : ByteArray} {nL : Nat} {own : String} {g : sg_G} {C : Nat → Option va_E} {pc : Nat} {lv lv' : List (Nat × Value)} {rest : List Value}
theorem sw_sld (hc : sg_Cx p s m args c cc nL own g) {b L : Nat} {xs : Nat → Int32} (hgs : g.2.2.1 = s.heap) (hX : va_X b L xs s s.heap) (hbl : b < s.heap.size) {i a : Int32} (ha : AV L xs i a) (hdg : decode cc pc = .ok (.iaload, 1))
    (kk : sg_W p l e R s m args below meth c nL g cells slots Q C (pc + 1) lv (.int a :: rest)) : sg_W p l e R s m args below meth c nL g cells slots Q C pc lv (.int i :: .ref b :: rest) := by
  intro H locs ls hR hL hq hl
  obtain ⟨scr, h1, h2, h3, h4, h5⟩ := hX
  have hlt : i.toNatClampNeg < L := Nat.not_le.mp fun q => ha.1 (Or.inr q)
  have hb : H[b]? = some scr := by rw [hL.2 b (by rw [hgs]; exact hbl), hgs]; exact h1
  refine W.iald (v := .int a) hc.1 hc.2.1 hb h2 h3 (by rw [h4]; exact ha.1) ?_ rfl rfl hdg (kk H locs ls hR hL hq hl)
  rw [← ha.2]
  exact h5 _ hlt
theorem sw_slen (hc : sg_Cx p s m args c cc nL own g) {b L : Nat} {xs : Nat → Int32} (hgs : g.2.2.1 = s.heap) (hX : va_X b L xs s s.heap) (hbl : b < s.heap.size) (hdg : decode cc pc = .ok (.arraylength, 1))
    (kk : sg_W p l e R s m args below meth c nL g cells slots Q C (pc + 1) lv (.int (nI L) :: rest)) : sg_W p l e R s m args below meth c nL g cells slots Q C pc lv (.ref b :: rest) := by
  intro H locs ls hR hL hq hl
  obtain ⟨scr, h1, h2, h3, h4, h5⟩ := hX
  have hb : H[b]? = some scr := by rw [hL.2 b (by rw [hgs]; exact hbl), hgs]; exact h1
  exact W.alen (n := nI L) hc.1 hc.2.1 hb h2 (by rw [h4] <;> rfl) rfl rfl hdg (kk H locs ls hR hL hq hl)
end SCR
/-- between two calls of the script: the gate, the reference, and where the answers lie -/
def LI (g : sg_G) (x0 m0 : Nat) (q : Nat → Nat) (o : Nat) (σ : Mem) (C : Nat → Option va_E) : Prop :=
  ∃ ad own gh fo, Pic g ad own gh σ C ∧ gOk gh ∧ WX σ ∧ ad 0 0 = x0 ∧ C o = some (sg_la g 1 fo) ∧ own o = none ∧ (∀ z ∈ mW g m0 q σ, C z.1 = some z.2) ∧ ∀ a ∈ (mW g m0 q σ).map Prod.fst, own a = none ∧ a ≠ o
section LIS
variable {g : sg_G} {x0 m0 o : Nat} {q : Nat → Nat} {own : Nat → Option (Nat × Nat)} {C C1 : Nat → Option va_E} {σ τ : Mem} {f : Nat → Int64}
theorem mW_ky (g : sg_G) (m0 : Nat) (q : Nat → Nat) (σ τ : Mem) : (mW g m0 q σ).map Prod.fst = (mW g m0 q τ).map Prod.fst := rfl
theorem PO.mid (h : PO g x0 own o C τ C1 f) (h1 : ∀ z ∈ mW g m0 q σ, C z.1 = some z.2) (h2 : ∀ a ∈ (mW g m0 q σ).map Prod.fst, own a = none ∧ a ≠ o) : C1 = sg_ov C1 (mW g m0 q σ) := by
  obtain ⟨ad', own', gh', -, h3, -⟩ := h
  refine (sg_ov_self2 fun z hz => ?_).symm
  have := h2 z.1 (List.mem_map.mpr ⟨z, hz, rfl⟩)
  exact (h3 z.1 z.2 this.2 this.1 (h1 z hz)).1
theorem PO.out (h : PO g x0 own o C τ C1 f) (h2 : ∀ a ∈ (mW g m0 q σ).map Prod.fst, own a = none ∧ a ≠ o) : sg_ov C1 (mW g m0 q τ) o = some (sg_la g 1 f) := by
  obtain ⟨ad', own', gh', -, -, -, -, -, h5, -⟩ := h
  rw [sg_ov_out fun hz => (h2 o (by rw [mW_ky g m0 q σ τ]; exact hz)).2 rfl]
  exact h5
theorem PO.nx (h : PO g x0 own o C τ C1 f) (hN : mN m0 q) (h1 : ∀ z ∈ mW g m0 q σ, C z.1 = some z.2) (h2 : ∀ a ∈ (mW g m0 q σ).map Prod.fst, own a = none ∧ a ≠ o) : LI g x0 m0 q o τ (sg_ov C1 (mW g m0 q τ)) := by
  have hout := h.out h2
  obtain ⟨ad', own', gh', hP, h3, hg, hW, hx, h5, h6⟩ := h
  have hown : ∀ a ∈ (mW g m0 q τ).map Prod.fst, own' a = none ∧ a ≠ o := by
    intro a ha
    rw [mW_ky g m0 q τ σ] at ha
    obtain ⟨z, hz, rfl⟩ := List.mem_map.mp ha
    have := h2 _ ha
    exact ⟨(h3 z.1 z.2 this.2 this.1 (h1 z hz)).2, this.2⟩
  refine ⟨ad', own', gh', f, fun i k x hx' => ?_, hg, hW, hx, hout, h6, fun z hz => ?_, hown⟩
  · have hp := hP i k x hx'
    refine ⟨?_, hp.2⟩
    rw [sg_ov_out fun hz => ?_]
    · exact hp.1
    · have := (hown _ hz).1
      rw [hp.2] at this
      cases this
  · obtain ⟨k, hk⟩ := List.mem_iff_getElem?.mp hz
    exact sg_ov_at (l := mW g m0 q τ) hN hk
end LIS
