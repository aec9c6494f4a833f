
/-! a column is changed; a piece is added -/
theorem nm_of : ∀ {L : List (Nat × Nat)}, sg_nd (L.map Prod.fst) → nm_nd L
  | [], _ => trivial
  | a :: L, h => ⟨fun q => h.1 (List.mem_map.mpr ⟨a, q, rfl⟩), nm_of h.2⟩
section MUTB
variable {g : sg_G} {ad : Ad} {own : Nat → Option (Nat × Nat)} {gh : Gh} {σ τ : Mem} {C : Nat → Option va_E} {x b t : Int32} {a k c r : Nat}
theorem Pic.nd (hQ : Pic g ad own gh σ C) : ∀ L : List (Nat × Nat), (∀ n ∈ L, ∃ y, cont g ad gh σ n.1 n.2 = some y) → nm_nd L → sg_nd (L.map (fun n => ad n.1 n.2))
  | [], _, _ => trivial
  | n :: L, h1, h2 => by
    refine ⟨fun q => ?_, hQ.nd L (fun m hm => h1 m (List.mem_cons_of_mem _ hm)) h2.2⟩
    obtain ⟨m, hm, he⟩ := List.mem_map.mp q
    obtain ⟨y, hy⟩ := h1 n List.mem_cons_self
    obtain ⟨y', hy'⟩ := h1 m (List.mem_cons_of_mem _ hm)
    have e := Option.some.inj ((hQ _ _ y hy).2.symm.trans ((congrArg own he.symm).trans (hQ _ _ y' hy').2))
    exact h2.1 (by rw [show n = m from e]; exact hm)
theorem upd_s {f : Nat → Int32} {i : Nat} {v : Int32} : upd f i v i = v := if_pos rfl
/-- the memory behind a changed column -/
abbrev oCol (σ : Mem) (a c : Nat) (h t : Int32) : Mem := st2 (st2 σ 0 (32 * a + c) h) 1 (32 * a + c) t
theorem col0 (σ : Mem) (a c : Nat) (h t : Int32) (j : Nat) : oCol σ a c h t 0 j = st2 σ 0 (32 * a + c) h 0 j := rfl
theorem lvG_o {h : Int32} (hk : k ≠ a) (hc : c < 32) : lvG (oCol σ a c h t) k = lvG σ k ∧ lvF (oCol σ a c h t) k = lvF σ k ∧ lvI (oCol σ a c h t) k = lvI σ k := by
  refine ⟨?_, ?_, ?_⟩ <;> funext j
  · show (if j < 32 then bI (st2 σ 0 (32 * a + c) h 0 (32 * k + j) < 0) else 0) = (if j < 32 then bI (σ 0 (32 * k + j) < 0) else 0)
    by_cases hj : j < 32
    · rw [if_pos hj, if_pos hj, st2_n (by omega)]
    · rw [if_neg hj, if_neg hj]
  · show (if j < 32 then (if st2 σ 0 (32 * a + c) h 0 (32 * k + j) < 0 then 0 else 16 * st2 σ 0 (32 * a + c) h 0 (32 * k + j)) else 0) = (if j < 32 then (if σ 0 (32 * k + j) < 0 then 0 else 16 * σ 0 (32 * k + j)) else 0)
    by_cases hj : j < 32
    · rw [if_pos hj, if_pos hj, st2_n (by omega)]
    · rw [if_neg hj, if_neg hj]
  · show (if j < 32 then st2 (st2 σ 0 (32 * a + c) h) 1 (32 * a + c) t 1 (32 * k + j) else 0) = (if j < 32 then σ 1 (32 * k + j) else 0)
    by_cases hj : j < 32
    · rw [if_pos hj, if_pos hj, st2_n (by omega)]
      rfl
    · rw [if_neg hj, if_neg hj]
theorem lvG_a {h : Int32} (hc : c < 32) (hh : -1 ≤ h) : lvG (oCol σ a c h t) a = upd (lvG σ a) c (bI (h = -1)) ∧ lvF (oCol σ a c h t) a = upd (lvF σ a) c (if h = -1 then 0 else 16 * h) ∧ lvI (oCol σ a c h t) a = upd (lvI σ a) c t := by
  have hn : h < 0 ↔ h = -1 := ⟨fun q => by
    refine Int32.le_antisymm ?_ hh
    have q1 := Int32.lt_iff_toInt_lt.mp q
    rw [Int32.le_iff_toInt_le]
    have e1 : (0 : Int32).toInt = 0 := rfl
    have e2 : (-1 : Int32).toInt = -1 := by decide +kernel
    omega, fun q => by rw [q]; decide⟩
  refine ⟨?_, ?_, ?_⟩ <;> funext j
  · show (if j < 32 then bI (st2 σ 0 (32 * a + c) h 0 (32 * a + j) < 0) else 0) = upd (lvG σ a) c (bI (h = -1)) j
    by_cases q : j = c
    · subst q
      rw [if_pos hc, upd_s, st2_s]
      exact ite_c hn rfl rfl
    · rw [pk_un q, st2_n (by omega)]
      rfl
  · show (if j < 32 then (if st2 σ 0 (32 * a + c) h 0 (32 * a + j) < 0 then 0 else 16 * st2 σ 0 (32 * a + c) h 0 (32 * a + j)) else 0) = upd (lvF σ a) c (if h = -1 then 0 else 16 * h) j
    by_cases q : j = c
    · subst q
      rw [if_pos hc, upd_s, st2_s]
      exact ite_c hn rfl rfl
    · rw [pk_un q, st2_n (by omega)]
      rfl
  · show (if j < 32 then st2 (st2 σ 0 (32 * a + c) h) 1 (32 * a + c) t 1 (32 * a + j) else 0) = upd (lvI σ a) c t j
    by_cases q : j = c
    · subst q
      rw [if_pos hc, upd_s, st2_s]
    · rw [pk_un q, st2_n (by omega)]
      rfl
theorem hero_col {h : Int32} (hW : WX σ) (hc : c < 32) (hn : iN (σ 3 r) ≠ a) : heroR (oCol σ a c h t) r = heroR σ r :=
  heroR_c hW.i8 hW.i8 (hW.p20 r) rfl rfl (lvG_o hn hc).1 (lvG_o hn hc).2.1 (lvG_o hn hc).2.2 (fun _ _ => ⟨rfl, rfl⟩)
theorem wx_col {h : Int32} (hW : WX σ) (ha : a < iN (σ 2 0)) (hc : c < 32) (hn : ∀ r, r < iN (σ 9 0) → iN (σ 3 r) ≠ a) : WX (oCol σ a c h t) := by
  have hl := fun r n => rLen_c (τ := oCol σ a c h t) (σ := σ) (r := r) rfl n
  refine ⟨hW.1, hW.2.1, hW.2.2.1, ⟨fun j hj => ?_, hW.2.2.2.1.2⟩, hW.2.2.2.2.1, fun r => ?_, fun r hr => ?_⟩
  · have hj2 : 32 * iN (σ 2 0) ≤ j := hj
    have e1 : oCol σ a c h t 0 j = σ 0 j := (col0 σ a c h t j).trans (st2_n (by omega))
    have e2 : oCol σ a c h t 1 j = σ 1 j := st2_n (by omega)
    rw [e1, e2]
    exact hW.2.2.2.1.1 j hj
  · rw [hl]
    exact hW.2.2.2.2.2.1 r
  · have hr2 : r < iN (σ 26 0) := hr
    have h := hero_col (h := h) (t := t) (r := iN (σ 17 r)) hW hc (hn _ (hW.wt hr2))
    show σ 6 (iN (σ 17 r)) = 1 ∧ σ 22 r = heroR (oCol σ a c _ t) (iN (σ 17 r)) 10 ∧ σ 23 r = heroR (oCol σ a c _ t) (iN (σ 17 r)) 7 ∧ σ 24 r = heroR (oCol σ a c _ t) (iN (σ 17 r)) 8 ∧ σ 25 r = heroR (oCol σ a c _ t) (iN (σ 17 r)) 9 ∧ heroR (oCol σ a c _ t) (iN (σ 17 r)) 11 = 1
    rw [h]
    exact hW.2.2.2.2.2.2 r hr
theorem pic_col (hQ : Pic g ad own gh σ C) (hW : WX σ) {h : Int32} (ha : a < iN (σ 2 0)) (hc : c < 32) (hh : -1 ≤ h) (hn : ∀ r, r < iN (σ 9 0) → iN (σ 3 r) ≠ a) :
    Pic g ad own gh (oCol σ a c h t) (sg_ov C [(ad 4 a, sg_za g 32 (upd (lvG σ a) c (bI (h = -1)))), (ad 5 a, sg_ia g 32 (upd (lvF σ a) c (if h = -1 then 0 else 16 * h))), (ad 6 a, sg_ia g 32 (upd (lvI σ a) c t))]) ∧
    Frm own own C (sg_ov C [(ad 4 a, sg_za g 32 (upd (lvG σ a) c (bI (h = -1)))), (ad 5 a, sg_ia g 32 (upd (lvF σ a) c (if h = -1 then 0 else 16 * h))), (ad 6 a, sg_ia g 32 (upd (lvI σ a) c t))]) := by
  have hA := lvG_a (σ := σ) (a := a) (t := t) hc hh
  refine hQ.put (gh' := gh) (σ' := oCol σ a c h t) [((4, a), sg_za g 32 (upd (lvG σ a) c (bI (h = -1)))), ((5, a), sg_ia g 32 (upd (lvF σ a) c (if h = -1 then 0 else 16 * h))), ((6, a), sg_ia g 32 (upd (lvI σ a) c t))]
    (List.forall_mem_cons.mpr ⟨⟨_, ct4 ha⟩, List.forall_mem_cons.mpr ⟨⟨_, ct5 ha⟩, List.forall_mem_cons.mpr ⟨⟨_, ct6 ha⟩, fun _ h => absurd h List.not_mem_nil⟩⟩⟩) (nm_of (show sg_nd [4, 5, 6] from ⟨by decide, by decide, by decide, trivial⟩))
    (List.forall_mem_cons.mpr ⟨(if_pos ha).trans (by rw [hA.1]), List.forall_mem_cons.mpr ⟨(if_pos ha).trans (by rw [hA.2.1]), List.forall_mem_cons.mpr ⟨(if_pos ha).trans (by rw [hA.2.2]), fun _ h => absurd h List.not_mem_nil⟩⟩⟩) (fun i k' hm => by
    rcases Nat.lt_or_ge i 20 with h20 | h20
    · match i, h20 with
      | 0, _ => first | (simp only [cont]; done) | (simp only [cont]; rfl)
      | 1, _ => first | (simp only [cont]; done) | (simp only [cont]; rfl)
      | 2, _ => first | (simp only [cont]; done) | (simp only [cont]; rfl)
      | 3, _ => first | (simp only [cont]; done) | (simp only [cont]; rfl)
      | 4, _ => have hk' : k' ≠ a := fun q => hm (by rw [q]; simp); simp only [cont]; rw [(lvG_o hk' hc).1]; rfl
      | 5, _ => have hk' : k' ≠ a := fun q => hm (by rw [q]; simp); simp only [cont]; rw [(lvG_o hk' hc).2.1]; rfl
      | 6, _ => have hk' : k' ≠ a := fun q => hm (by rw [q]; simp); simp only [cont]; rw [(lvG_o hk' hc).2.2]; rfl
      | 7, _ => first | (simp only [cont]; done) | (simp only [cont]; rfl)
      | 8, _ => first | (simp only [cont]; done) | (simp only [cont]; rfl)
      | 9, _ => first | (simp only [cont]; done) | (simp only [cont]; rfl)
      | 10, _ => exact (by
        show (if k' < iN (σ 9 0) then some (Sum.inr (2, hfs (heroR (oCol σ a c h t) k')) : va_E) else none) = (if k' < iN (σ 9 0) then some (Sum.inr (2, hfs (heroR σ k')) : va_E) else none)
        by_cases hk : k' < iN (σ 9 0)
        · rw [hero_col hW hc (hn k' hk)]
        · rw [if_neg hk, if_neg hk])
      | 11, _ => first | (simp only [cont]; done) | (simp only [cont]; rfl)
      | 12, _ => first | (simp only [cont]; done) | (simp only [cont]; rfl)
      | 13, _ => first | (simp only [cont]; done) | (simp only [cont]; rfl)
      | 14, _ => first | (simp only [cont]; done) | (simp only [cont]; rfl)
      | 15, _ => first | (simp only [cont]; done) | (simp only [cont]; rfl)
      | 16, _ => first | (simp only [cont]; done) | (simp only [cont]; rfl)
      | 17, _ => first | (simp only [cont]; done) | (simp only [cont]; rfl)
      | 18, _ => first | (simp only [cont]; done) | (simp only [cont]; rfl)
      | 19, _ => first | (simp only [cont]; done) | (simp only [cont]; rfl)
      | n + 20, h => exact absurd h (by omega)
    · rw [cont_x i k' h20, cont_x i k' h20])

theorem rUsd_ne {x : Int32} : ∀ n, rUsd σ x n = 0 → ∀ r, r < n → ¬ σ 3 r = x
  | n + 1, h, r, hr => by
    intro q
    rw [rUsd_1 q (n + 1) hr] at h
    exact absurd h (by decide)
theorem ph_col (hQ : Pic g ad own gh σ C) (hW : WX σ) (hg : gOk gh) {y h : Int32} (hx : rIn σ 2 x) (hy : y = nI (iN y) ∧ iN y < 32) (hh : -1 ≤ h) (hu : rUsed σ x = 0) (hk : ¬ 0 < kColumn σ x y h t) :
    PH g (ad 0 0) own C (fColumn σ x y h t) (sg_ov C [(ad 4 (iN x), sg_za g 32 (upd (lvG σ (iN x)) (iN y) (bI (h = -1)))), (ad 5 (iN x), sg_ia g 32 (upd (lvF σ (iN x)) (iN y) (if h = -1 then 0 else 16 * h))), (ad 6 (iN x), sg_ia g 32 (upd (lvI σ (iN x)) (iN y) t))]) := by
  have hl := rIn_x hW.1.1 (by decide) hx
  rw [show fColumn σ x y h t = oCol (st2 σ 42 0 (kColumn σ x y h t)) (iN x) (iN y) h t from if_neg hk]
  have hn : ∀ r, r < iN (σ 9 0) → iN (σ 3 r) ≠ iN x := fun r hr q => rUsd_ne _ hu r hr (by rw [(hW.1.2.2.2.2.2.1 r hr).1, q]; exact hl.1.symm)
  have h1 := pic_col (t := t) (hQ.fr hW (f42 (kColumn σ x y h t))) (hW.fr (f42 (kColumn σ x y h t))) hl.2 hy.2 hh hn
  exact ⟨ad, own, gh, h1.1, h1.2, hg, wx_col (hW.fr (f42 (kColumn σ x y h t))) hl.2 hy.2 hn, rfl⟩
theorem c_chP (l : Launch) (hQ : Pic g ad own gh σ C) (ha : a < iN (σ 2 0)) (hc : c < 32) (y z : Int32) : sg_Met l yX2_change cX2_change 4 none 0 0 0 0 g [.ref (ad 3 a), .int (nI c), .int y, .int z] C (fun v C' => v = none ∧ C' = sg_ov C [(ad 4 a, sg_za g 32 (upd (lvG σ a) c (bI (y = -1)))), (ad 5 a, sg_ia g 32 (upd (lvF σ a) c (if y = -1 then 0 else 16 * y))), (ad 6 a, sg_ia g 32 (upd (lvI σ a) c z))]) sg_no :=
  c_X2_change l g C (ad 3 a) y z (ad 4 a) (ad 5 a) (ad 6 a) (lvG σ a) (lvF σ a) (lvI σ a) c (hQ.at (ct3 ha)) (hQ.at (ct4 ha)) (hQ.at (ct5 ha)) (hQ.at (ct6 ha)) hc
    (hQ.nd [(4, a), (5, a), (6, a)] (List.forall_mem_cons.mpr ⟨⟨_, ct4 ha⟩, List.forall_mem_cons.mpr ⟨⟨_, ct5 ha⟩, List.forall_mem_cons.mpr ⟨⟨_, ct6 ha⟩, fun _ h => absurd h List.not_mem_nil⟩⟩⟩) (nm_of (show sg_nd [4, 5, 6] from ⟨by decide, by decide, by decide, trivial⟩)))
/-- the memory behind a piece more -/
abbrev oPc (σ : Mem) (r : Nat) (b t : Int32) : Mem := st2 (st2 (st2 (st2 σ 7 (20 * r + iN (σ 4 r)) b) 8 (20 * r + iN (σ 4 r)) t) 4 r (σ 4 r + 1)) 5 r (σ 5 r + t)
theorem pc7 (j : Nat) : oPc σ r b t 7 j = st2 σ 7 (20 * r + iN (σ 4 r)) b 7 j := rfl
theorem pc8 (j : Nat) : oPc σ r b t 8 j = st2 (st2 σ 7 (20 * r + iN (σ 4 r)) b) 8 (20 * r + iN (σ 4 r)) t 8 j := rfl
theorem pc4 (j : Nat) : oPc σ r b t 4 j = st2 (st2 (st2 σ 7 (20 * r + iN (σ 4 r)) b) 8 (20 * r + iN (σ 4 r)) t) 4 r (σ 4 r + 1) 4 j := rfl
theorem Sm.ofO (x : Mem × Int32) : Sm (hOf x) x.1 x.2 := ⟨rfl, rfl, rfl, rfl, rfl, rfl, rfl, rfl, rfl, rfl, rfl, rfl⟩
section PC
variable (hW : WX σ) (hp : iN (σ 4 r) < 20) (ht : t = nI (iN t) ∧ iN t ≤ 100) (hs : rLen σ r (iN (σ 4 r)) + iN t ≤ 500)
theorem pc_n4 (hW : WX σ) (hp : iN (σ 4 r) < 20) : oPc σ r b t 4 r = nI (iN (σ 4 r) + 1) ∧ iN (oPc σ r b t 4 r) = iN (σ 4 r) + 1 := by
  have e : oPc σ r b t 4 r = nI (iN (σ 4 r) + 1) := by
    rw [pc4, st2_s, (hW.1.2.2.2.2.2.2.1 r).1, nI_1, ← (hW.1.2.2.2.2.2.2.1 r).1]
  exact ⟨e, by rw [e]; exact nI_clamp (by omega)⟩
theorem pc_o4 {k : Nat} (hk : k ≠ r) : oPc σ r b t 4 k = σ 4 k := (pc4 k).trans (st2_n hk)
theorem pc_i8 (hW : WX σ) (ht : t = nI (iN t) ∧ iN t ≤ 100) : ∀ j, isN (oPc σ r b t 8 j) 101 := fun j => by
  rw [pc8]
  by_cases q : j = 20 * r + iN (σ 4 r)
  · rw [q, st2_s]
    exact ⟨ht.1, by omega⟩
  · rw [st2_n q]
    exact hW.i8 j
theorem pc_len (k n : Nat) (h : k ≠ r ∨ n ≤ iN (σ 4 r)) (hn : n ≤ 20) (hp : iN (σ 4 r) < 20) : rLen (oPc σ r b t) k n = rLen σ k n := by
  induction n with
  | zero => rfl
  | succ n ih =>
    show rLen (oPc σ r b t) k n + iN (oPc σ r b t 8 (20 * k + n)) = rLen σ k n + iN (σ 8 (20 * k + n))
    rw [ih (by omega) (by omega), pc8, st2_n (by omega)]
    rfl
theorem pc_hero_o (hW : WX σ) (hp : iN (σ 4 r) < 20) (ht : t = nI (iN t) ∧ iN t ≤ 100) {k : Nat} (hk : k ≠ r) : heroR (oPc σ r b t) k = heroR σ k :=
  heroR_c hW.i8 (pc_i8 hW ht) (hW.p20 k) rfl (pc_o4 hk) rfl rfl rfl (fun i hi => by
    have := hW.p20 k
    exact ⟨(pc7 _).trans (st2_n (by omega)), (pc8 _).trans (st2_n (by omega))⟩)
theorem pc_hero (hW : WX σ) (hp : iN (σ 4 r) < 20) (ht : t = nI (iN t) ∧ iN t ≤ 100) (hs : rLen σ r (iN (σ 4 r)) + iN t ≤ 500) : hfs (hRun (lvG σ (iN (σ 3 r))) (lvF σ (iN (σ 3 r))) (lvI σ (iN (σ 3 r))) b (iN t) (heroR σ r)) = hfs (heroR (oPc σ r b t) r) := by
  have h8 := pc_i8 (b := b) (r := r) hW ht
  have h4 := pc_n4 (b := b) (t := t) hW hp
  have e0 : heroR σ r = hOf (rOut (oPc σ r b t) r (nI 500) (iN (σ 4 r))) :=
    rOut_hOf (T := 500) (Nat.le_refl _) hW.i8 h8 rfl rfl rfl rfl (Nat.le_refl _) (by rw [h4.2]; omega) (hW.p20 r) (by rw [h4.2]; omega) (fun i hi => ⟨((pc7 _).trans (st2_n (by omega))).symm, ((pc8 _).trans (st2_n (by omega))).symm⟩)
  obtain ⟨-, t0, ht0, hl1, hl2⟩ := Sm.agn (σ := oPc σ r b t) (r := r) (T := 500) (Nat.le_refl _) h8 (fun _ => 0) (iN (σ 4 r)) (by rw [h4.2]; omega) (by rw [h4.2]; omega)
  rw [pc_len r (iN (σ 4 r)) (.inr (Nat.le_refl _)) (by omega) hp] at hl2
  have hr := (Sm.run (σ := oPc σ r b t) (a := iN (σ 3 r)) (key := b) (T := 500) (Nat.le_refl _) (iN t) (iN t) t0 (hOf (rOut (oPc σ r b t) r (nI 500) (iN (σ 4 r)))) (rOut (oPc σ r b t) r (nI 500) (iN (σ 4 r))) (Sm.ofO _) rOut_k.1 rOut_k.2 ht0 hl1 (by omega)).1
  rw [e0]
  have e1 : heroR (oPc σ r b t) r = hOf (rIn1 (iN (σ 3 r)) b (nI 500) (iN t) (rOut (oPc σ r b t) r (nI 500) (iN (σ 4 r)))) := by
    unfold heroR
    rw [h4.2]
    show hOf (rIn1 (iN (σ 3 r)) (oPc σ r b t 7 (20 * r + iN (σ 4 r))) (nI 500) (iN (oPc σ r b t 8 (20 * r + iN (σ 4 r)))) (rOut (oPc σ r b t) r (nI 500) (iN (σ 4 r)))) = _
    rw [pc7, pc8, st2_s, st2_s]
  rw [e1]
  exact hfs_eq hr.eq
theorem pc_rp (hW : WX σ) (hp : iN (σ 4 r) < 20) : rpB (oPc σ r b t) r = upd (rpB σ r) (iN (σ 4 r)) b ∧ rpT (oPc σ r b t) r = upd (rpT σ r) (iN (σ 4 r)) t := by
  have h4 := pc_n4 (b := b) (t := t) hW hp
  refine ⟨?_, ?_⟩ <;> funext j
  · show (if j < iN (oPc σ r b t 4 r) then oPc σ r b t 7 (20 * r + j) else 0) = upd (rpB σ r) (iN (σ 4 r)) b j
    rw [h4.2, pc7]
    by_cases q : j = iN (σ 4 r)
    · rw [q, upd_s, st2_s, if_pos (Nat.lt_succ_self _)]
    · rw [pk_un q, st2_n (by omega)]
      show _ = (if j < iN (σ 4 r) then σ 7 (20 * r + j) else 0)
      exact ite_c (by omega) rfl rfl
  · show (if j < iN (oPc σ r b t 4 r) then oPc σ r b t 8 (20 * r + j) else 0) = upd (rpT σ r) (iN (σ 4 r)) t j
    rw [h4.2, pc8]
    by_cases q : j = iN (σ 4 r)
    · rw [q, upd_s, st2_s, if_pos (Nat.lt_succ_self _)]
    · rw [pk_un q, st2_n (by omega)]
      show _ = (if j < iN (σ 4 r) then σ 8 (20 * r + j) else 0)
      exact ite_c (by omega) rfl rfl
theorem pc_rp_o {k : Nat} (hW : WX σ) (hp : iN (σ 4 r) < 20) (hk : k ≠ r) : rpB (oPc σ r b t) k = rpB σ k ∧ rpT (oPc σ r b t) k = rpT σ k := by
  have h20 := hW.p20 k
  refine ⟨?_, ?_⟩ <;> funext j
  · show (if j < iN (oPc σ r b t 4 k) then oPc σ r b t 7 (20 * k + j) else 0) = (if j < iN (σ 4 k) then σ 7 (20 * k + j) else 0)
    rw [pc_o4 hk, pc7]
    by_cases q : j < iN (σ 4 k)
    · rw [if_pos q, if_pos q, st2_n (by omega)]
    · rw [if_neg q, if_neg q]
  · show (if j < iN (oPc σ r b t 4 k) then oPc σ r b t 8 (20 * k + j) else 0) = (if j < iN (σ 4 k) then σ 8 (20 * k + j) else 0)
    rw [pc_o4 hk, pc8]
    by_cases q : j < iN (σ 4 k)
    · rw [if_pos q, if_pos q, st2_n (by omega)]
      rfl
    · rw [if_neg q, if_neg q]
theorem wx_pc (hW : WX σ) (hr : r < iN (σ 9 0)) (hp : iN (σ 4 r) < 20) (ht : t = nI (iN t) ∧ iN t ≤ 100) (hs : rLen σ r (iN (σ 4 r)) + iN t ≤ 500) (h6 : ¬ σ 6 r = 1) : WX (oPc σ r b t) := by
  have h4 := pc_n4 (b := b) (t := t) hW hp
  refine ⟨⟨hW.1.1, hW.1.2.1, hW.1.2.2.1, hW.1.2.2.2.1, hW.1.2.2.2.2.1, hW.1.2.2.2.2.2.1, fun k => ?_, pc_i8 hW ht, hW.1.2.2.2.2.2.2.2.2⟩, hW.2.1, hW.2.2.1, ⟨hW.2.2.2.1.1, fun k hk => ?_, hW.2.2.2.1.2.2⟩, hW.2.2.2.2.1, fun k => ?_, fun k hk => ?_⟩
  · by_cases q : k = r
    · rw [q, h4.1]
      exact isN_nI (by omega) (by omega)
    · rw [pc_o4 q]
      exact hW.1.2.2.2.2.2.2.1 k
  · have hk2 : iN (σ 9 0) ≤ k := hk
    have h := hW.2.2.2.1.2.1 k hk
    refine ⟨(pc_o4 (by omega)).trans h.1, (show st2 _ 5 r _ 5 k = 0 from (st2_n (by omega)).trans h.2.1), h.2.2⟩
  · by_cases q : k = r
    · rw [q, h4.2]
      have e : rLen (oPc σ r b t) r (iN (σ 4 r) + 1) = rLen σ r (iN (σ 4 r)) + iN t := by
        show rLen (oPc σ r b t) r (iN (σ 4 r)) + iN (oPc σ r b t 8 (20 * r + iN (σ 4 r))) = _
        rw [pc_len r (iN (σ 4 r)) (.inr (Nat.le_refl _)) (by omega) hp, pc8, st2_s]
      rw [e]
      refine ⟨?_, hs⟩
      show st2 _ 5 r (σ 5 r + t) 5 r = _
      rw [st2_s, (hW.2.2.2.2.2.1 r).1, ← nI_add, ← ht.1]
    · rw [pc_o4 q, pc_len k _ (.inl q) (hW.p20 k) hp]
      have h := hW.2.2.2.2.2.1 k
      exact ⟨(show st2 _ 5 r _ 5 k = _ from (st2_n q).trans h.1), h.2⟩
  · have hk2 : k < iN (σ 26 0) := hk
    have h := hW.run hk2
    have hne : iN (σ 17 k) ≠ r := fun q => h6 (by rw [← q]; exact h.1)
    show σ 6 (iN (σ 17 k)) = 1 ∧ σ 22 k = heroR (oPc σ r b t) (iN (σ 17 k)) 10 ∧ σ 23 k = heroR (oPc σ r b t) (iN (σ 17 k)) 7 ∧ σ 24 k = heroR (oPc σ r b t) (iN (σ 17 k)) 8 ∧ σ 25 k = heroR (oPc σ r b t) (iN (σ 17 k)) 9 ∧ heroR (oPc σ r b t) (iN (σ 17 k)) 11 = 1
    rw [pc_hero_o hW hp ht hne]
    exact h

theorem pic_pc (hQ : Pic g ad own gh σ C) (hW : WX σ) (hr : r < iN (σ 9 0)) (hp : iN (σ 4 r) < 20) (ht : t = nI (iN t) ∧ iN t ≤ 100) (hs : rLen σ r (iN (σ 4 r)) + iN t ≤ 500) :
    Pic g ad own gh (oPc σ r b t) (sg_ov C [(ad 7 r, .inr (5, [.ref (ad 3 (iN (σ 3 r))), .ref (ad 8 r), .ref (ad 9 r), .ref (ad 10 r), .int (nI (iN (σ 4 r) + 1)), .int (σ 5 r + t), .int (σ 6 r)])), (ad 8 r, sg_ia g 20 (upd (rpB σ r) (iN (σ 4 r)) b)), (ad 9 r, sg_ia g 20 (upd (rpT σ r) (iN (σ 4 r)) t)), (ad 10 r, .inr (2, hfs (hRun (lvG σ (iN (σ 3 r))) (lvF σ (iN (σ 3 r))) (lvI σ (iN (σ 3 r))) b (iN t) (heroR σ r)))), (ad 3 (iN (σ 3 r)), .inr (3, [.ref (ad 4 (iN (σ 3 r))), .ref (ad 5 (iN (σ 3 r))), .ref (ad 6 (iN (σ 3 r)))])), (ad 4 (iN (σ 3 r)), sg_za g 32 (lvG σ (iN (σ 3 r)))), (ad 5 (iN (σ 3 r)), sg_ia g 32 (lvF σ (iN (σ 3 r)))), (ad 6 (iN (σ 3 r)), sg_ia g 32 (lvI σ (iN (σ 3 r))))]) ∧ Frm own own C (sg_ov C [(ad 7 r, .inr (5, [.ref (ad 3 (iN (σ 3 r))), .ref (ad 8 r), .ref (ad 9 r), .ref (ad 10 r), .int (nI (iN (σ 4 r) + 1)), .int (σ 5 r + t), .int (σ 6 r)])), (ad 8 r, sg_ia g 20 (upd (rpB σ r) (iN (σ 4 r)) b)), (ad 9 r, sg_ia g 20 (upd (rpT σ r) (iN (σ 4 r)) t)), (ad 10 r, .inr (2, hfs (hRun (lvG σ (iN (σ 3 r))) (lvF σ (iN (σ 3 r))) (lvI σ (iN (σ 3 r))) b (iN t) (heroR σ r)))), (ad 3 (iN (σ 3 r)), .inr (3, [.ref (ad 4 (iN (σ 3 r))), .ref (ad 5 (iN (σ 3 r))), .ref (ad 6 (iN (σ 3 r)))])), (ad 4 (iN (σ 3 r)), sg_za g 32 (lvG σ (iN (σ 3 r)))), (ad 5 (iN (σ 3 r)), sg_ia g 32 (lvF σ (iN (σ 3 r)))), (ad 6 (iN (σ 3 r)), sg_ia g 32 (lvI σ (iN (σ 3 r))))]) := by
  have h4 := pc_n4 (b := b) (t := t) hW hp
  have hrp := pc_rp (b := b) (t := t) hW hp
  refine hQ.put (gh' := gh) (σ' := oPc σ r b t) [((7, r), .inr (5, [.ref (ad 3 (iN (σ 3 r))), .ref (ad 8 r), .ref (ad 9 r), .ref (ad 10 r), .int (nI (iN (σ 4 r) + 1)), .int (σ 5 r + t), .int (σ 6 r)])), ((8, r), sg_ia g 20 (upd (rpB σ r) (iN (σ 4 r)) b)), ((9, r), sg_ia g 20 (upd (rpT σ r) (iN (σ 4 r)) t)), ((10, r), .inr (2, hfs (hRun (lvG σ (iN (σ 3 r))) (lvF σ (iN (σ 3 r))) (lvI σ (iN (σ 3 r))) b (iN t) (heroR σ r)))), ((3, (iN (σ 3 r))), .inr (3, [.ref (ad 4 (iN (σ 3 r))), .ref (ad 5 (iN (σ 3 r))), .ref (ad 6 (iN (σ 3 r)))])), ((4, (iN (σ 3 r))), sg_za g 32 (lvG σ (iN (σ 3 r)))), ((5, (iN (σ 3 r))), sg_ia g 32 (lvF σ (iN (σ 3 r)))), ((6, (iN (σ 3 r))), sg_ia g 32 (lvI σ (iN (σ 3 r))))] (List.forall_mem_cons.mpr ⟨⟨_, ct7 hr⟩, List.forall_mem_cons.mpr ⟨⟨_, ct8 hr⟩, List.forall_mem_cons.mpr ⟨⟨_, ct9 hr⟩, List.forall_mem_cons.mpr ⟨⟨_, ct10 hr⟩, List.forall_mem_cons.mpr ⟨⟨_, ct3 (hW.wl hr)⟩, List.forall_mem_cons.mpr ⟨⟨_, ct4 (hW.wl hr)⟩, List.forall_mem_cons.mpr ⟨⟨_, ct5 (hW.wl hr)⟩, List.forall_mem_cons.mpr ⟨⟨_, ct6 (hW.wl hr)⟩, fun _ h => absurd h List.not_mem_nil⟩⟩⟩⟩⟩⟩⟩⟩) (nm_of (show sg_nd [7, 8, 9, 10, 3, 4, 5, 6] from ⟨by decide, by decide, by decide, by decide, by decide, by decide, by decide, by decide, trivial⟩))
    (List.forall_mem_cons.mpr ⟨(if_pos hr).trans (by rw [h4.1, show oPc σ r b t 5 r = σ 5 r + t from (show st2 _ 5 r _ 5 r = _ from st2_s _ _ _ _)]; rfl), List.forall_mem_cons.mpr ⟨(if_pos hr).trans (by rw [hrp.1]), List.forall_mem_cons.mpr ⟨(if_pos hr).trans (by rw [hrp.2]), List.forall_mem_cons.mpr ⟨(if_pos hr).trans (by rw [pc_hero hW hp ht hs]), List.forall_mem_cons.mpr ⟨if_pos (hW.wl hr), List.forall_mem_cons.mpr ⟨if_pos (hW.wl hr), List.forall_mem_cons.mpr ⟨if_pos (hW.wl hr), List.forall_mem_cons.mpr ⟨if_pos (hW.wl hr), fun _ h => absurd h List.not_mem_nil⟩⟩⟩⟩⟩⟩⟩⟩) (fun i k' hm => by
    rcases Nat.lt_or_ge i 20 with h20 | h20
    · match i, h20 with
      | 0, _ => first | (simp only [cont]; done) | (simp only [cont]; rfl)
      | 1, _ => first | (simp only [cont]; done) | (simp only [cont]; rfl)
      | 2, _ => first | (simp only [cont]; done) | (simp only [cont]; rfl)
      | 3, _ => first | (simp only [cont]; done) | (simp only [cont]; rfl)
      | 4, _ => first | (simp only [cont]; done) | (simp only [cont]; rfl)
      | 5, _ => first | (simp only [cont]; done) | (simp only [cont]; rfl)
      | 6, _ => first | (simp only [cont]; done) | (simp only [cont]; rfl)
      | 7, _ => have hk' : k' ≠ r := fun q => hm (by rw [q]; simp); simp only [cont]; rw [pc_o4 hk', show oPc σ r b t 5 k' = σ 5 k' from (show st2 _ 5 r _ 5 k' = _ from st2_n hk')]; rfl
      | 8, _ => have hk' : k' ≠ r := fun q => hm (by rw [q]; simp); simp only [cont]; rw [(pc_rp_o hW hp hk').1]; rfl
      | 9, _ => have hk' : k' ≠ r := fun q => hm (by rw [q]; simp); simp only [cont]; rw [(pc_rp_o hW hp hk').2]; rfl
      | 10, _ => have hk' : k' ≠ r := fun q => hm (by rw [q]; simp); simp only [cont]; rw [pc_hero_o hW hp ht hk']; rfl
      | 11, _ => first | (simp only [cont]; done) | (simp only [cont]; rfl)
      | 12, _ => first | (simp only [cont]; done) | (simp only [cont]; rfl)
      | 13, _ => first | (simp only [cont]; done) | (simp only [cont]; rfl)
      | 14, _ => first | (simp only [cont]; done) | (simp only [cont]; rfl)
      | 15, _ => first | (simp only [cont]; done) | (simp only [cont]; rfl)
      | 16, _ => first | (simp only [cont]; done) | (simp only [cont]; rfl)
      | 17, _ => first | (simp only [cont]; done) | (simp only [cont]; rfl)
      | 18, _ => first | (simp only [cont]; done) | (simp only [cont]; rfl)
      | 19, _ => first | (simp only [cont]; done) | (simp only [cont]; rfl)
      | n + 20, h => exact absurd h (by omega)
    · rw [cont_x i k' h20, cont_x i k' h20])
theorem ph_pc (hQ : Pic g ad own gh σ C) (hW : WX σ) (hg : gOk gh) (hr : r < iN (σ 9 0)) (hp : iN (σ 4 r) < 20) (ht : t = nI (iN t) ∧ iN t ≤ 100) (hs : rLen σ r (iN (σ 4 r)) + iN t ≤ 500) (h6 : ¬ σ 6 r = 1) (hx : r = iN x) (hk : ¬ 0 < kInput σ x b t) : PH g (ad 0 0) own C (fInput σ x b t) (sg_ov C [(ad 7 r, .inr (5, [.ref (ad 3 (iN (σ 3 r))), .ref (ad 8 r), .ref (ad 9 r), .ref (ad 10 r), .int (nI (iN (σ 4 r) + 1)), .int (σ 5 r + t), .int (σ 6 r)])), (ad 8 r, sg_ia g 20 (upd (rpB σ r) (iN (σ 4 r)) b)), (ad 9 r, sg_ia g 20 (upd (rpT σ r) (iN (σ 4 r)) t)), (ad 10 r, .inr (2, hfs (hRun (lvG σ (iN (σ 3 r))) (lvF σ (iN (σ 3 r))) (lvI σ (iN (σ 3 r))) b (iN t) (heroR σ r)))), (ad 3 (iN (σ 3 r)), .inr (3, [.ref (ad 4 (iN (σ 3 r))), .ref (ad 5 (iN (σ 3 r))), .ref (ad 6 (iN (σ 3 r)))])), (ad 4 (iN (σ 3 r)), sg_za g 32 (lvG σ (iN (σ 3 r)))), (ad 5 (iN (σ 3 r)), sg_ia g 32 (lvF σ (iN (σ 3 r)))), (ad 6 (iN (σ 3 r)), sg_ia g 32 (lvI σ (iN (σ 3 r))))]) := by
  have e : fInput σ x b t = oPc (st2 σ 42 0 (kInput σ x b t)) r b t := by
    subst hx
    exact if_neg hk
  rw [e]
  have hW2 := hW.fr (f42 (kInput σ x b t))
  have hl : ∀ n, rLen (st2 σ 42 0 (kInput σ x b t)) r n = rLen σ r n := rLen_c rfl
  have hs2 : rLen (st2 σ 42 0 (kInput σ x b t)) r (iN (st2 σ 42 0 (kInput σ x b t) 4 r)) + iN t ≤ 500 := by
    rw [hl]
    exact hs
  have h1 := pic_pc (b := b) (hQ.fr hW (f42 (kInput σ x b t))) hW2 hr hp ht hs2
  rw [heroR_fr (r := r) hW (f42 (kInput σ x b t))]
  exact ⟨ad, own, gh, h1.1, h1.2, hg, wx_pc hW2 hr hp ht hs2 h6, rfl⟩
theorem nd_pc (hQ : Pic g ad own gh σ C) (hW : WX σ) (hr : r < iN (σ 9 0)) : sg_nd [ad 7 r, ad 8 r, ad 9 r, ad 10 r, ad 3 (iN (σ 3 r)), ad 4 (iN (σ 3 r)), ad 5 (iN (σ 3 r)), ad 6 (iN (σ 3 r))] :=
  hQ.nd [(7, r), (8, r), (9, r), (10, r), (3, iN (σ 3 r)), (4, iN (σ 3 r)), (5, iN (σ 3 r)), (6, iN (σ 3 r))] (List.forall_mem_cons.mpr ⟨⟨_, ct7 hr⟩, List.forall_mem_cons.mpr ⟨⟨_, ct8 hr⟩, List.forall_mem_cons.mpr ⟨⟨_, ct9 hr⟩, List.forall_mem_cons.mpr ⟨⟨_, ct10 hr⟩, List.forall_mem_cons.mpr ⟨⟨_, ct3 (hW.wl hr)⟩, List.forall_mem_cons.mpr ⟨⟨_, ct4 (hW.wl hr)⟩, List.forall_mem_cons.mpr ⟨⟨_, ct5 (hW.wl hr)⟩, List.forall_mem_cons.mpr ⟨⟨_, ct6 (hW.wl hr)⟩, fun _ h => absurd h List.not_mem_nil⟩⟩⟩⟩⟩⟩⟩⟩) (nm_of (show sg_nd [7, 8, 9, 10, 3, 4, 5, 6] from ⟨by decide, by decide, by decide, by decide, by decide, by decide, by decide, by decide, trivial⟩))
theorem c_adP (l : Launch) (hQ : Pic g ad own gh σ C) (hW : WX σ) (hr : r < iN (σ 9 0)) (hp : iN (σ 4 r) < 20) (b t : Int32) : sg_Met l yX4_addPiece cX4_addPiece 3 none 4 96 0 0 g [.ref (ad 7 r), .int b, .int t] C (fun v C' => v = none ∧ C' = sg_ov C [(ad 7 r, .inr (5, [.ref (ad 3 (iN (σ 3 r))), .ref (ad 8 r), .ref (ad 9 r), .ref (ad 10 r), .int (nI (iN (σ 4 r) + 1)), .int (σ 5 r + t), .int (σ 6 r)])), (ad 8 r, sg_ia g 20 (upd (rpB σ r) (iN (σ 4 r)) b)), (ad 9 r, sg_ia g 20 (upd (rpT σ r) (iN (σ 4 r)) t)), (ad 10 r, .inr (2, hfs (hRun (lvG σ (iN (σ 3 r))) (lvF σ (iN (σ 3 r))) (lvI σ (iN (σ 3 r))) b (iN t) (heroR σ r)))), (ad 3 (iN (σ 3 r)), .inr (3, [.ref (ad 4 (iN (σ 3 r))), .ref (ad 5 (iN (σ 3 r))), .ref (ad 6 (iN (σ 3 r)))])), (ad 4 (iN (σ 3 r)), sg_za g 32 (lvG σ (iN (σ 3 r)))), (ad 5 (iN (σ 3 r)), sg_ia g 32 (lvF σ (iN (σ 3 r)))), (ad 6 (iN (σ 3 r)), sg_ia g 32 (lvI σ (iN (σ 3 r))))]) sg_no :=
  c_X4_addPiece l g C (ad 7 r) b t (ad 3 (iN (σ 3 r))) (ad 8 r) (ad 9 r) (ad 10 r) (σ 5 r) (σ 6 r) (rpB σ r) (rpT σ r) (heroR σ r) (ad 4 (iN (σ 3 r))) (ad 5 (iN (σ 3 r))) (ad 6 (iN (σ 3 r))) (lvG σ (iN (σ 3 r))) (lvF σ (iN (σ 3 r))) (lvI σ (iN (σ 3 r))) (iN (σ 4 r))
    (hQ.at (ct7n hW hr)) (hQ.at (ct8 hr)) (hQ.at (ct9 hr)) (hQ.at (ct10 hr)) (hQ.at (ct3 (hW.wl hr))) (hQ.at (ct4 (hW.wl hr))) (hQ.at (ct5 (hW.wl hr))) (hQ.at (ct6 (hW.wl hr))) hp (nd_pc hQ hW hr)
end PC
end MUTB
