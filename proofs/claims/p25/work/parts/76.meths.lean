/-! the class' calls that the law makes itself -/

def rRes (σ : Mem) (r : Nat) : Int32 := 10 * heroR σ r 10 + heroR σ r 11
def rWhr (σ : Mem) (r T : Nat) : Int32 := 1000 * heroT σ r (nI T) 1 + heroT σ r (nI T) 0
def rJd (σ : Mem) (k : Nat) : Int32 := bI (rRef σ k) + 2 * σ 21 k
def rPlan (σ : Mem) (r : Int32) : Int32 := (rPl2 σ r (iN (σ 30 0)) (2 ^ iN (σ 30 0))).1
theorem vPlan_d {σ : Mem} {r : Int32} (h : 0 ≤ r ∧ r ≤ 10000) : vPlan σ r = rPlan σ r := by
  have hk : ¬ 0 < kPlan r := by rw [show kPlan r = 0 from if_pos h]; decide
  unfold vPlan
  rw [if_neg hk]
  exact congrArg Prod.fst (rPl2_fr (f42 _) r _ _)
theorem kPlan_y {r : Int32} (h : 0 ≤ r ∧ r ≤ 10000) : ¬ 0 < kPlan r := by rw [show kPlan r = 0 from if_pos h]; decide
theorem fStrike_c {σ : Mem} {x : Int32} (h : rIn σ 26 x) : rFr (fStrike σ x) (st2 σ 21 (iN x) (1 - σ 21 (iN x))) := by
  unfold fStrike
  rw [if_neg (kIn_y h)]
  intro k hk
  funext i
  show cond _ _ _ = cond _ _ (cond _ _ _)
  have : Nat.beq k 42 = false := by
    cases hb : Nat.beq k 42 with
    | false => rfl
    | true => exact absurd (Nat.eq_of_beq_eq_true hb) (by omega)
  rw [this]
  rfl
theorem pStrike_c {σ : Mem} {x : Int32} (h : rIn σ 26 x) : bI (pStrike σ x) = bI (1 - σ 21 (iN x) = 1) := by
  unfold bI
  exact ite_c ⟨fun q => q.2, fun q => ⟨kIn_y h, q⟩⟩ rfl rfl

theorem m_result (l : Launch) {g : sg_G} {C : Nat → Option va_E} {x0 : Nat} {σ : Mem} {K : va_W} (x : Int32) (hst : l.stackTraces = false) (hG : GK g x0 σ K C) (h : rIn σ 9 x) : sg_Met l yX7_result cX7_result 3 (some .int) 7 103 16 96 g [.ref x0, .int x] C (fun v C' => v = some (.int (rRes σ (iN x))) ∧ GK g x0 σ K C') sg_no := by
  obtain ⟨⟨ad, own, gh, hQ, hg, hW, rfl, ho⟩, hK, hn⟩ := hG
  refine sg_Met.imp (c_X7_result l g C ad own gh σ x hQ hW hg hst) (fun v C' hz => ?_) (fun E C' hz => ?_)
  · exact ⟨hz.1.trans (congrArg (fun zq => some (Value.int zq)) (vResult_c hW h)), (GK.ph ho hK hn hz.2.2).fr (rFr.sy (fr_result σ x))⟩
  · obtain ⟨hE, -⟩ := hz
    exact absurd (by rw [hE.2]; decide : 0 < kIn σ 9 x) (kIn_y h)

theorem m_where (l : Launch) {g : sg_G} {C : Nat → Option va_E} {x0 : Nat} {σ : Mem} {K : va_W} (x : Int32) (hst : l.stackTraces = false) (hG : GK g x0 σ K C) {T : Nat} (h : rIn σ 9 x) (ht : 0 ≤ nI T ∧ nI T ≤ heroR σ (iN x) 10) (hT : T ≤ 500) : sg_Met l yX7_where cX7_where 4 (some .int) 7 119 16 96 g [.ref x0, .int x, .int (nI T)] C (fun v C' => v = some (.int (rWhr σ (iN x) T)) ∧ GK g x0 σ K C') sg_no := by
  obtain ⟨⟨ad, own, gh, hQ, hg, hW, rfl, ho⟩, hK, hn⟩ := hG
  refine sg_Met.imp (c_X7_where l g C ad own gh σ x (nI T) hQ hW hg hst) (fun v C' hz => ?_) (fun E C' hz => ?_)
  · exact ⟨hz.1.trans (congrArg (fun zq => some (Value.int zq)) (vWhere_c hW h ht hT)), (GK.ph ho hK hn hz.2.2).fr (rFr.sy (fr_where σ x (nI T)))⟩
  · obtain ⟨hE, -⟩ := hz
    exact absurd (by rw [hE.2]; decide : 0 < kWhere σ x (nI T)) (by rw [kWhere_y h ht]; decide)

theorem m_judged (l : Launch) {g : sg_G} {C : Nat → Option va_E} {x0 : Nat} {σ : Mem} {K : va_W} (x : Int32) (hst : l.stackTraces = false) (hG : GK g x0 σ K C) (h : rIn σ 26 x) : sg_Met l yX7_judged cX7_judged 5 (some .int) 7 110 16 96 g [.ref x0, .int x] C (fun v C' => v = some (.int (rJd σ (iN x))) ∧ GK g x0 σ K C') sg_no := by
  obtain ⟨⟨ad, own, gh, hQ, hg, hW, rfl, ho⟩, hK, hn⟩ := hG
  refine sg_Met.imp (c_X7_judged l g C ad own gh σ x hQ hW hg hst) (fun v C' hz => ?_) (fun E C' hz => ?_)
  · exact ⟨hz.1.trans (congrArg (fun zq => some (Value.int zq)) (vJudged_c h)), (GK.ph ho hK hn hz.2.2).fr (rFr.sy (f42 _))⟩
  · obtain ⟨hE, -⟩ := hz
    exact absurd (by rw [hE.2]; decide : 0 < kIn σ 26 x) (kIn_y h)

theorem m_strike (l : Launch) {g : sg_G} {C : Nat → Option va_E} {x0 : Nat} {σ : Mem} {K : va_W} (x : Int32) (hst : l.stackTraces = false) (hG : GK g x0 σ K C) (h : rIn σ 26 x) : sg_Met l yX7_strike cX7_strike 3 (some .boolean) 7 103 16 96 g [.ref x0, .int x] C (fun v C' => v = some (.int (bI (1 - σ 21 (iN x) = 1))) ∧ GK g x0 (st2 σ 21 (iN x) (1 - σ 21 (iN x))) K C') sg_no := by
  obtain ⟨⟨ad, own, gh, hQ, hg, hW, rfl, ho⟩, hK, hn⟩ := hG
  refine sg_Met.imp (c_X7_strike l g C ad own gh σ x hQ hW hg hst) (fun v C' hz => ?_) (fun E C' hz => ?_)
  · exact ⟨hz.1.trans (congrArg (fun zq => some (Value.int zq)) (pStrike_c h)), (GK.ph ho hK hn hz.2.2).fr (fStrike_c h)⟩
  · obtain ⟨hE, -⟩ := hz
    exact absurd (by rw [hE.2]; decide : 0 < kIn σ 26 x) (kIn_y h)

theorem m_best (l : Launch) {g : sg_G} {C : Nat → Option va_E} {x0 : Nat} {σ : Mem} {K : va_W} (x : Int32) (y : Int32) (hst : l.stackTraces = false) (hG : GK g x0 σ K C) (h : rPair σ x y) : sg_Met l yX7_best cX7_best 5 (some .int) 7 156 16 96 g [.ref x0, .int x, .int y] C (fun v C' => v = some (.int (rTopN σ x y (-1))) ∧ GK g x0 σ K C') sg_no := by
  obtain ⟨⟨ad, own, gh, hQ, hg, hW, rfl, ho⟩, hK, hn⟩ := hG
  refine sg_Met.imp (c_X7_best l g C ad own gh σ x y hQ hW hg hst) (fun v C' hz => ?_) (fun E C' hz => ?_)
  · exact ⟨hz.1.trans (congrArg (fun zq => some (Value.int zq)) (vBest2_c h)), (GK.ph ho hK hn hz.2.2).fr (rFr.sy (f42 _))⟩
  · obtain ⟨hE, -⟩ := hz
    exact absurd (by rw [hE.2]; decide : 0 < kPair σ x y) (kPair_y h)

theorem m_bestAnew (l : Launch) {g : sg_G} {C : Nat → Option va_E} {x0 : Nat} {σ : Mem} {K : va_W} (x : Int32) (y : Int32) (hst : l.stackTraces = false) (hG : GK g x0 σ K C) (h : rPair σ x y) : sg_Met l yX7_bestAnew cX7_bestAnew 8 (some .int) 7 140 16 96 g [.ref x0, .int x, .int y] C (fun v C' => v = some (.int ((cBA σ x y (iN (σ 26 0))).1)) ∧ GK g x0 σ K C') sg_no := by
  obtain ⟨⟨ad, own, gh, hQ, hg, hW, rfl, ho⟩, hK, hn⟩ := hG
  refine sg_Met.imp (c_X7_bestAnew l g C ad own gh σ x y hQ hW hg hst) (fun v C' hz => ?_) (fun E C' hz => ?_)
  · exact ⟨hz.1.trans (congrArg (fun zq => some (Value.int zq)) (vBA_c hW h)), (GK.ph ho hK hn hz.2.2).fr (rFr.sy (fr_BA σ x y))⟩
  · obtain ⟨hE, -⟩ := hz
    exact absurd (by rw [hE.2]; decide : 0 < kPair σ x y) (kPair_y h)

theorem m_place (l : Launch) {g : sg_G} {C : Nat → Option va_E} {x0 : Nat} {σ : Mem} {K : va_W} (x : Int32) (y : Int32) (hst : l.stackTraces = false) (hG : GK g x0 σ K C) (h : rPair σ x y) : sg_Met l yX7_place cX7_place 4 (some .int) 8 183 16 96 g [.ref x0, .int x, .int y] C (fun v C' => v = some (.int (rSpot σ x y (-1))) ∧ GK g x0 σ K C') sg_no := by
  obtain ⟨⟨ad, own, gh, hQ, hg, hW, rfl, ho⟩, hK, hn⟩ := hG
  refine sg_Met.imp (c_X7_place l g C ad own gh σ x y hQ hW hg hst) (fun v C' hz => ?_) (fun E C' hz => ?_)
  · exact ⟨hz.1.trans (congrArg (fun zq => some (Value.int zq)) (vPlace_c h)), (GK.ph ho hK hn hz.2.2).fr (rFr.sy (f42 _))⟩
  · obtain ⟨hE, -⟩ := hz
    exact absurd (by rw [hE.2]; decide : 0 < kPair σ x y) (kPair_y h)

theorem m_estimate (l : Launch) {g : sg_G} {C : Nat → Option va_E} {x0 : Nat} {σ : Mem} {K : va_W} (x : Int32) (y : Int32) (hst : l.stackTraces = false) (hG : GK g x0 σ K C) (h : rPair σ x y) : sg_Met l yX7_estimate cX7_estimate 4 (some .int) 7 156 16 96 g [.ref x0, .int x, .int y] C (fun v C' => v = some (.int (rGuess σ x y)) ∧ GK g x0 σ K C') sg_no := by
  obtain ⟨⟨ad, own, gh, hQ, hg, hW, rfl, ho⟩, hK, hn⟩ := hG
  refine sg_Met.imp (c_X7_estimate l g C ad own gh σ x y hQ hW hg hst) (fun v C' hz => ?_) (fun E C' hz => ?_)
  · exact ⟨hz.1.trans (congrArg (fun zq => some (Value.int zq)) (vEst_c h)), (GK.ph ho hK hn hz.2.2).fr (rFr.sy (f42 _))⟩
  · obtain ⟨hE, -⟩ := hz
    exact absurd (by rw [hE.2]; decide : 0 < kPair σ x y) (kPair_y h)

theorem m_placeWithout (l : Launch) {g : sg_G} {C : Nat → Option va_E} {x0 : Nat} {σ : Mem} {K : va_W} (x : Int32) (hst : l.stackTraces = false) (hG : GK g x0 σ K C) (h : rIn σ 26 x) : sg_Met l yX7_placeWithout cX7_placeWithout 3 (some .int) 8 183 16 96 g [.ref x0, .int x] C (fun v C' => v = some (.int (rSpot σ (σ 19 (iN x)) (σ 18 (iN x)) x)) ∧ GK g x0 σ K C') sg_no := by
  obtain ⟨⟨ad, own, gh, hQ, hg, hW, rfl, ho⟩, hK, hn⟩ := hG
  refine sg_Met.imp (c_X7_placeWithout l g C ad own gh σ x hQ hW hg hst) (fun v C' hz => ?_) (fun E C' hz => ?_)
  · exact ⟨hz.1.trans (congrArg (fun zq => some (Value.int zq)) (vPlaceW_c h)), (GK.ph ho hK hn hz.2.2).fr (rFr.sy (f42 _))⟩
  · obtain ⟨hE, -⟩ := hz
    exact absurd (by rw [hE.2]; decide : 0 < kIn σ 26 x) (kIn_y h)

theorem m_plan (l : Launch) {g : sg_G} {C : Nat → Option va_E} {x0 : Nat} {σ : Mem} {K : va_W} (x : Int32) (hst : l.stackTraces = false) (hG : GK g x0 σ K C) (h : 0 ≤ x ∧ x ≤ 10000) : sg_Met l yX7_plan cX7_plan 6 (some .int) 9 203 16 96 g [.ref x0, .int x] C (fun v C' => v = some (.int (rPlan σ x)) ∧ GK g x0 σ K C') sg_no := by
  obtain ⟨⟨ad, own, gh, hQ, hg, hW, rfl, ho⟩, hK, hn⟩ := hG
  refine sg_Met.imp (c_X7_plan l g C ad own gh σ x hQ hW hg hst) (fun v C' hz => ?_) (fun E C' hz => ?_)
  · exact ⟨hz.1.trans (congrArg (fun zq => some (Value.int zq)) (vPlan_d h)), (GK.ph ho hK hn hz.2.2).fr (rFr.sy (f42 _))⟩
  · obtain ⟨hE, -⟩ := hz
    exact absurd (by rw [hE.2]; decide : 0 < kPlan x) (kPlan_y h)

theorem m_level (l : Launch) {g : sg_G} {C : Nat → Option va_E} {x0 : Nat} {σ : Mem} {K : va_W} (hst : l.stackTraces = false) (hG : GK g x0 σ K C) (h : kLevel σ = 0) : sg_Met l yX7_level cX7_level 1 (some .int) 7 161 24 420 g [.ref x0] C (fun v C' => v = some (.int (vLevel σ)) ∧ GK g x0 (fLevel σ) K C') sg_no := by
  obtain ⟨⟨ad, own, gh, hQ, hg, hW, rfl, ho⟩, hK, hn⟩ := hG
  refine sg_Met.imp (c_X7_level l g C ad own gh σ hQ hW hg hst) (fun v C' hz => ?_) (fun E C' hz => ?_)
  · exact ⟨hz.1.trans (congrArg (fun zq => some (Value.int zq)) (rfl)), GK.ph ho hK hn hz.2.2⟩
  · obtain ⟨hE, -⟩ := hz
    exact absurd (by rw [hE.2]; decide : 0 < kLevel σ) (by rw [h]; decide)

theorem m_replay (l : Launch) {g : sg_G} {C : Nat → Option va_E} {x0 : Nat} {σ : Mem} {K : va_W} (x : Int32) (hst : l.stackTraces = false) (hG : GK g x0 σ K C) (h : kReplay σ x = 0) : sg_Met l yX7_replay cX7_replay 3 (some .int) 7 161 24 420 g [.ref x0, .int x] C (fun v C' => v = some (.int (vReplay σ x)) ∧ GK g x0 (fReplay σ x) K C') sg_no := by
  obtain ⟨⟨ad, own, gh, hQ, hg, hW, rfl, ho⟩, hK, hn⟩ := hG
  refine sg_Met.imp (c_X7_replay l g C ad own gh σ x hQ hW hg hst) (fun v C' hz => ?_) (fun E C' hz => ?_)
  · exact ⟨hz.1.trans (congrArg (fun zq => some (Value.int zq)) (rfl)), GK.ph ho hK hn hz.2.2⟩
  · obtain ⟨hE, -⟩ := hz
    rcases hE with ⟨-, hE⟩ | ⟨-, hE⟩ <;> exact absurd (by rw [hE]; decide : 0 < kReplay σ x) (by rw [h]; decide)

theorem m_category (l : Launch) {g : sg_G} {C : Nat → Option va_E} {x0 : Nat} {σ : Mem} {K : va_W} (x : Int32) (hst : l.stackTraces = false) (hG : GK g x0 σ K C) (h : kCategory σ x = 0) : sg_Met l yX7_category cX7_category 3 (some .int) 7 161 24 420 g [.ref x0, .int x] C (fun v C' => v = some (.int (vCategory σ x)) ∧ GK g x0 (fCategory σ x) K C') sg_no := by
  obtain ⟨⟨ad, own, gh, hQ, hg, hW, rfl, ho⟩, hK, hn⟩ := hG
  refine sg_Met.imp (c_X7_category l g C ad own gh σ x hQ hW hg hst) (fun v C' hz => ?_) (fun E C' hz => ?_)
  · exact ⟨hz.1.trans (congrArg (fun zq => some (Value.int zq)) (rfl)), GK.ph ho hK hn hz.2.2⟩
  · obtain ⟨hE, -⟩ := hz
    rcases hE with ⟨-, hE⟩ | ⟨-, hE⟩ <;> exact absurd (by rw [hE]; decide : 0 < kCategory σ x) (by rw [h]; decide)

