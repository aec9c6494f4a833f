/-! the gate's picture, written over -/
def gOk (gh : Gh) : Prop := gh.2.1 0 = 0 ∧ gh.2.2 0 = 0
def nm_nd : List (Nat × Nat) → Prop
  | [] => True
  | a :: l => a ∉ l ∧ nm_nd l
theorem ov_mem {C : Nat → Option va_E} {W : va_W} {a : Nat} {e : va_E} (hN : sg_nd (W.map Prod.fst)) (h : (a, e) ∈ W) : sg_ov C W a = some e := by
  obtain ⟨k, hk⟩ := List.getElem?_of_mem h
  exact sg_ov_at hN hk
/-- a name, where it is, what lies there -/
abbrev Tc : Type := (Nat × Nat) × Nat × va_E
def adT (ad : Ad) : List Tc → Ad
  | [] => ad
  | t :: T => fun i k => cond (Nat.beq i t.1.1 && Nat.beq k t.1.2) t.2.1 (adT ad T i k)
def ownT (own : Nat → Option (Nat × Nat)) : List Tc → Nat → Option (Nat × Nat)
  | [] => own
  | t :: T => fun x => if x = t.2.1 then some t.1 else ownT own T x
theorem beq_ne {i k : Nat} {n : Nat × Nat} (h : (i, k) ≠ n) : (Nat.beq i n.1 && Nat.beq k n.2) = false := by
  cases hb : (Nat.beq i n.1 && Nat.beq k n.2)
  · rfl
  · rw [Bool.and_eq_true] at hb
    exact absurd (Prod.ext (Nat.eq_of_beq_eq_true hb.1) (Nat.eq_of_beq_eq_true hb.2)) h
theorem adT_out {ad : Ad} {i k : Nat} : ∀ {T : List Tc}, (i, k) ∉ T.map (fun t => t.1) → adT ad T i k = ad i k
  | [], _ => rfl
  | t :: T, h => by
    rw [List.map_cons, List.mem_cons, not_or] at h
    show cond (Nat.beq i t.1.1 && Nat.beq k t.1.2) t.2.1 (adT ad T i k) = ad i k
    rw [beq_ne h.1]
    exact adT_out h.2
theorem adT_in {ad : Ad} {t : Tc} : ∀ {T : List Tc}, nm_nd (T.map (fun t => t.1)) → t ∈ T → adT ad T t.1.1 t.1.2 = t.2.1
  | [], _, hm => absurd hm List.not_mem_nil
  | t0 :: T, hn, hm => by
    show cond (Nat.beq t.1.1 t0.1.1 && Nat.beq t.1.2 t0.1.2) t0.2.1 (adT ad T t.1.1 t.1.2) = t.2.1
    rcases List.mem_cons.mp hm with rfl | hm
    · rw [Nat.beq_refl, Nat.beq_refl]
      rfl
    · have hne : (t.1.1, t.1.2) ≠ t0.1 := fun q => hn.1 (by show t0.1 ∈ _; rw [← q]; exact List.mem_map.mpr ⟨t, hm, rfl⟩)
      rw [beq_ne hne]
      exact adT_in hn.2 hm
theorem ownT_out {own : Nat → Option (Nat × Nat)} {x : Nat} : ∀ {T : List Tc}, x ∉ T.map (fun t => t.2.1) → ownT own T x = own x
  | [], _ => rfl
  | t :: T, h => by
    rw [List.map_cons, List.mem_cons, not_or] at h
    show (if x = t.2.1 then some t.1 else ownT own T x) = own x
    rw [if_neg h.1]
    exact ownT_out h.2
theorem ownT_in {own : Nat → Option (Nat × Nat)} {t : Tc} : ∀ {T : List Tc}, sg_nd (T.map (fun t => t.2.1)) → t ∈ T → ownT own T t.2.1 = some t.1
  | [], _, hm => absurd hm List.not_mem_nil
  | t0 :: T, hn, hm => by
    show (if t.2.1 = t0.2.1 then some t0.1 else ownT own T t.2.1) = some t.1
    rcases List.mem_cons.mp hm with rfl | hm
    · rw [if_pos rfl]
    · have hne : t.2.1 ≠ t0.2.1 := fun q => hn.1 (by show t0.2.1 ∈ _; rw [← q]; exact List.mem_map.mpr ⟨t, hm, rfl⟩)
      rw [if_neg hne]
      exact ownT_in hn.2 hm
section STEP
variable {g : sg_G} {ad : Ad} {own : Nat → Option (Nat × Nat)} {gh gh' : Gh} {σ σ' : Mem} {C : Nat → Option va_E}
/-- names that are touched: new ones at fresh places, or such as there are -/
theorem Pic.touch (hQ : Pic g ad own gh σ C) (T : List Tc) (hA : ∀ t ∈ T, C t.2.1 = none ∨ (t.2.1 = ad t.1.1 t.1.2 ∧ ∃ y, cont g ad gh σ t.1.1 t.1.2 = some y)) (hN : sg_nd (T.map (fun t => t.2.1))) (hM : nm_nd (T.map (fun t => t.1)))
    (hc : ∀ t ∈ T, cont g (adT ad T) gh' σ' t.1.1 t.1.2 = some t.2.2) (ho : ∀ i k, (i, k) ∉ T.map (fun t => t.1) → cont g (adT ad T) gh' σ' i k = cont g ad gh σ i k) :
    Pic g (adT ad T) (ownT own T) gh' σ' (sg_ov C (T.map (fun t => t.2))) ∧ Frm own (ownT own T) C (sg_ov C (T.map (fun t => t.2))) := by
  have hN2 : sg_nd ((T.map (fun t => t.2)).map Prod.fst) := by
    rw [List.map_map]
    exact hN
  have hout : ∀ x, x ∉ T.map (fun t => t.2.1) → sg_ov C (T.map (fun t => t.2)) x = C x := fun x hx => sg_ov_out (by
    rw [List.map_map]
    exact hx)
  constructor
  · intro i k x hx
    by_cases hm : (i, k) ∈ T.map (fun t => t.1)
    · obtain ⟨t, ht, he⟩ := List.mem_map.mp hm
      have e1 : t.1.1 = i := congrArg Prod.fst he
      have e2 : t.1.2 = k := congrArg Prod.snd he
      have h1 := hc t ht
      have h2 := adT_in (ad := ad) hM ht
      rw [e1, e2] at h1 h2
      rw [h1] at hx
      cases hx
      rw [h2]
      refine ⟨ov_mem hN2 (List.mem_map.mpr ⟨t, ht, rfl⟩), ?_⟩
      rw [ownT_in hN ht, he]
    · have h1 := ho i k hm
      rw [h1] at hx
      rw [adT_out hm]
      have hl := hQ i k x hx
      have hna : ad i k ∉ T.map (fun t => t.2.1) := by
        intro q
        obtain ⟨t, ht, he⟩ := List.mem_map.mp q
        rcases hA t ht with h3 | ⟨h3, y, h4⟩
        · rw [he, hl.1] at h3
          cases h3
        · have h5 := (hQ _ _ y h4).2
          rw [← h3, he, hl.2] at h5
          exact hm (List.mem_map.mpr ⟨t, ht, (Option.some.inj h5).symm⟩)
      exact ⟨(hout _ hna).trans hl.1, (ownT_out hna).trans hl.2⟩
  · intro a x h1 h2
    have hna : a ∉ T.map (fun t => t.2.1) := by
      intro q
      obtain ⟨t, ht, he⟩ := List.mem_map.mp q
      rcases hA t ht with h3 | ⟨h3, y, h4⟩
      · rw [he, h2] at h3
        cases h3
      · have h5 := (hQ _ _ y h4).2
        rw [← h3, he, h1] at h5
        cases h5
    exact ⟨(hout _ hna).trans h2, (ownT_out hna).trans h1⟩
/-- nothing but what lies at some names is new -/
theorem Pic.put (hQ : Pic g ad own gh σ C) (T : List ((Nat × Nat) × va_E)) (hA : ∀ t ∈ T, ∃ y, cont g ad gh σ t.1.1 t.1.2 = some y) (hM : nm_nd (T.map (fun t => t.1)))
    (hc : ∀ t ∈ T, cont g ad gh' σ' t.1.1 t.1.2 = some t.2) (ho : ∀ i k, (i, k) ∉ T.map (fun t => t.1) → cont g ad gh' σ' i k = cont g ad gh σ i k) :
    Pic g ad own gh' σ' (sg_ov C (T.map (fun t => (ad t.1.1 t.1.2, t.2)))) ∧ Frm own own C (sg_ov C (T.map (fun t => (ad t.1.1 t.1.2, t.2)))) := by
  have hinj : ∀ t ∈ T, ∀ t' ∈ T, ad t.1.1 t.1.2 = ad t'.1.1 t'.1.2 → t.1 = t'.1 := by
    intro t ht t' ht' q
    obtain ⟨y, hy⟩ := hA t ht
    obtain ⟨y', hy'⟩ := hA t' ht'
    exact Option.some.inj ((hQ _ _ y hy).2.symm.trans ((congrArg own q).trans (hQ _ _ y' hy').2))
  have hN : ∀ T' : List ((Nat × Nat) × va_E), (∀ t ∈ T', t ∈ T) → nm_nd (T'.map (fun t => t.1)) → sg_nd ((T'.map (fun t => (ad t.1.1 t.1.2, t.2))).map Prod.fst) := by
    intro T'
    induction T' with
    | nil => intro _ _; trivial
    | cons t T' ih =>
      intro h1 h2
      refine ⟨fun q => ?_, ih (fun u hu => h1 u (List.mem_cons_of_mem _ hu)) h2.2⟩
      rw [List.map_map] at q
      obtain ⟨u, hu, he⟩ := List.mem_map.mp q
      exact h2.1 (by show t.1 ∈ _; rw [hinj t (h1 t List.mem_cons_self) u (h1 u (List.mem_cons_of_mem _ hu)) he.symm]; exact List.mem_map.mpr ⟨u, hu, rfl⟩)
  have hN2 := hN T (fun _ h => h) hM
  constructor
  · intro i k x hx
    by_cases hm : (i, k) ∈ T.map (fun t => t.1)
    · obtain ⟨t, ht, he⟩ := List.mem_map.mp hm
      have e1 : t.1.1 = i := congrArg Prod.fst he
      have e2 : t.1.2 = k := congrArg Prod.snd he
      have h1 := hc t ht
      obtain ⟨y, hy⟩ := hA t ht
      rw [e1, e2] at h1 hy
      rw [h1] at hx
      cases hx
      refine ⟨ov_mem hN2 (List.mem_map.mpr ⟨t, ht, ?_⟩), (hQ i k y hy).2⟩
      rw [e1, e2]
    · have h1 := ho i k hm
      rw [h1] at hx
      have hl := hQ i k x hx
      refine ⟨(sg_ov_out fun q => ?_).trans hl.1, hl.2⟩
      rw [List.map_map] at q
      obtain ⟨t, ht, he⟩ := List.mem_map.mp q
      obtain ⟨y, hy⟩ := hA t ht
      have h5 := (hQ _ _ y hy).2
      have he2 : ad t.1.1 t.1.2 = ad i k := he
      rw [he2, hl.2] at h5
      exact hm (List.mem_map.mpr ⟨t, ht, (Option.some.inj h5).symm⟩)
  · intro a x h1 h2
    refine ⟨(sg_ov_out fun q => ?_).trans h2, h1⟩
    rw [List.map_map] at q
    obtain ⟨t, ht, he⟩ := List.mem_map.mp q
    obtain ⟨y, hy⟩ := hA t ht
    have h5 := (hQ _ _ y hy).2
    have he2 : ad t.1.1 t.1.2 = a := he
    rw [he2, h1] at h5
    cases h5
theorem lsN_fr {τ : Mem} (hF : rFr σ τ) (k : Nat) : lsN τ k = lsN σ k := by
  unfold lsN
  rw [hF 2 (by decide), hF 9 (by decide), hF 16 (by decide), hF 26 (by decide), hF 30 (by decide)]
theorem cf0 {τ : Mem} (hW : WX σ) (hF : rFr σ τ) (k : Nat) : cont g ad gh τ 0 k = cont g ad gh σ 0 k := by simp only [cont]; rw [hF 31 (by decide)]
theorem cf1 {τ : Mem} (hW : WX σ) (hF : rFr σ τ) (k : Nat) : cont g ad gh τ 1 k = cont g ad gh σ 1 k := by simp only [cont]; rw [lsN_fr hF]
theorem cf2 {τ : Mem} (hW : WX σ) (hF : rFr σ τ) (k : Nat) : cont g ad gh τ 2 k = cont g ad gh σ 2 k := by simp only [cont]; rw [lsN_fr hF]
theorem cf3 {τ : Mem} (hW : WX σ) (hF : rFr σ τ) (k : Nat) : cont g ad gh τ 3 k = cont g ad gh σ 3 k := by simp only [cont]; rw [hF 2 (by decide)]
theorem cf4 {τ : Mem} (hW : WX σ) (hF : rFr σ τ) (k : Nat) : cont g ad gh τ 4 k = cont g ad gh σ 4 k := by simp only [cont]; unfold lvG; rw [hF 2 (by decide), hF 0 (by decide)]
theorem cf5 {τ : Mem} (hW : WX σ) (hF : rFr σ τ) (k : Nat) : cont g ad gh τ 5 k = cont g ad gh σ 5 k := by simp only [cont]; unfold lvF; rw [hF 2 (by decide), hF 0 (by decide)]
theorem cf6 {τ : Mem} (hW : WX σ) (hF : rFr σ τ) (k : Nat) : cont g ad gh τ 6 k = cont g ad gh σ 6 k := by simp only [cont]; unfold lvI; rw [hF 2 (by decide), hF 1 (by decide)]
theorem cf7 {τ : Mem} (hW : WX σ) (hF : rFr σ τ) (k : Nat) : cont g ad gh τ 7 k = cont g ad gh σ 7 k := by simp only [cont]; rw [hF 9 (by decide), hF 3 (by decide), hF 4 (by decide), hF 5 (by decide), hF 6 (by decide)]
theorem cf8 {τ : Mem} (hW : WX σ) (hF : rFr σ τ) (k : Nat) : cont g ad gh τ 8 k = cont g ad gh σ 8 k := by simp only [cont]; unfold rpB; rw [hF 9 (by decide), hF 4 (by decide), hF 7 (by decide)]
theorem cf9 {τ : Mem} (hW : WX σ) (hF : rFr σ τ) (k : Nat) : cont g ad gh τ 9 k = cont g ad gh σ 9 k := by simp only [cont]; unfold rpT; rw [hF 9 (by decide), hF 4 (by decide), hF 8 (by decide)]
theorem cf10 {τ : Mem} (hW : WX σ) (hF : rFr σ τ) (k : Nat) : cont g ad gh τ 10 k = cont g ad gh σ 10 k := by simp only [cont]; rw [hF 9 (by decide), heroR_fr hW hF]
theorem cf11 {τ : Mem} (hW : WX σ) (hF : rFr σ τ) (k : Nat) : cont g ad gh τ 11 k = cont g ad gh σ 11 k := by simp only [cont]; rw [hF 16 (by decide), hF 10 (by decide)]
theorem cf12 {τ : Mem} (hW : WX σ) (hF : rFr σ τ) (k : Nat) : cont g ad gh τ 12 k = cont g ad gh σ 12 k := by simp only [cont]; rw [hF 16 (by decide), hF 11 (by decide)]
theorem cf13 {τ : Mem} (hW : WX σ) (hF : rFr σ τ) (k : Nat) : cont g ad gh τ 13 k = cont g ad gh σ 13 k := by simp only [cont]; rw [hF 16 (by decide), hF 11 (by decide)]
theorem cf14 {τ : Mem} (hW : WX σ) (hF : rFr σ τ) (k : Nat) : cont g ad gh τ 14 k = cont g ad gh σ 14 k := by simp only [cont]; rw [hF 16 (by decide), hF 11 (by decide), hF 12 (by decide), hF 13 (by decide), hF 14 (by decide), hF 15 (by decide)]
theorem cf15 {τ : Mem} (hW : WX σ) (hF : rFr σ τ) (k : Nat) : cont g ad gh τ 15 k = cont g ad gh σ 15 k := by simp only [cont]; rw [hF 26 (by decide), hF 18 (by decide), hF 17 (by decide), hF 19 (by decide), hF 20 (by decide), hF 22 (by decide), hF 21 (by decide)]
theorem cf16 {τ : Mem} (hW : WX σ) (hF : rFr σ τ) (k : Nat) : cont g ad gh τ 16 k = cont g ad gh σ 16 k := by simp only [cont]; rw [hF 30 (by decide), hF 27 (by decide), hF 28 (by decide), hF 29 (by decide)]
theorem cf17 {τ : Mem} (hW : WX σ) (hF : rFr σ τ) (k : Nat) : cont g ad gh τ 17 k = cont g ad gh σ 17 k := by simp only [cont]
theorem cf18 {τ : Mem} (hW : WX σ) (hF : rFr σ τ) (k : Nat) : cont g ad gh τ 18 k = cont g ad gh σ 18 k := by simp only [cont]
theorem cf19 {τ : Mem} (hW : WX σ) (hF : rFr σ τ) (k : Nat) : cont g ad gh τ 19 k = cont g ad gh σ 19 k := by simp only [cont]
theorem cont_x (i k : Nat) (h : 20 ≤ i) : cont g ad gh σ i k = none := by
  unfold cont
  split <;> first | rfl | omega
/-- the picture is of the rows below 32 alone -/
theorem cont_fr {τ : Mem} (hW : WX σ) (hF : rFr σ τ) (i k : Nat) : cont g ad gh τ i k = cont g ad gh σ i k := by
  rcases Nat.lt_or_ge i 20 with h | h
  · match i, h with
    | 0, _ => exact cf0 hW hF k
    | 1, _ => exact cf1 hW hF k
    | 2, _ => exact cf2 hW hF k
    | 3, _ => exact cf3 hW hF k
    | 4, _ => exact cf4 hW hF k
    | 5, _ => exact cf5 hW hF k
    | 6, _ => exact cf6 hW hF k
    | 7, _ => exact cf7 hW hF k
    | 8, _ => exact cf8 hW hF k
    | 9, _ => exact cf9 hW hF k
    | 10, _ => exact cf10 hW hF k
    | 11, _ => exact cf11 hW hF k
    | 12, _ => exact cf12 hW hF k
    | 13, _ => exact cf13 hW hF k
    | 14, _ => exact cf14 hW hF k
    | 15, _ => exact cf15 hW hF k
    | 16, _ => exact cf16 hW hF k
    | 17, _ => exact cf17 hW hF k
    | 18, _ => exact cf18 hW hF k
    | 19, _ => exact cf19 hW hF k
    | n + 20, h => exact absurd h (by omega)
  · rw [cont_x i k h, cont_x i k h]
theorem Pic.fr {τ : Mem} (hQ : Pic g ad own gh σ C) (hW : WX σ) (hF : rFr σ τ) : Pic g ad own gh τ C := fun i k x hx => hQ i k x (by rw [← cont_fr hW hF]; exact hx)
theorem WX.fr {τ : Mem} (hW : WX σ) (hF : rFr σ τ) : WX τ := by
  have hh : ∀ r, heroR τ r = heroR σ r := fun r => (heroR_fr hW hF).symm
  have hl : ∀ r n, rLen τ r n = rLen σ r n := by
    intro r n
    induction n with
    | zero => rfl
    | succ n ih => show rLen τ r n + iN (τ 8 (20 * r + n)) = rLen σ r n + iN (σ 8 (20 * r + n)); rw [ih, hF 8 (by decide)]
  refine ⟨hW.1.fr hF, ?_, ?_, ?_, ?_, ?_, ?_⟩
  · have h := hW.2.1
    unfold wDay at h ⊢
    rw [hF 26 (by decide), hF 20 (by decide), hF 31 (by decide)]
    exact h
  · have h := hW.2.2.1
    unfold wRul at h ⊢
    rw [hF 16 (by decide), hF 11 (by decide), hF 12 (by decide), hF 13 (by decide)]
    exact h
  · have h := hW.2.2.2.1
    unfold wNil at h ⊢
    rw [hF 2 (by decide), hF 0 (by decide), hF 1 (by decide), hF 9 (by decide), hF 4 (by decide), hF 5 (by decide), hF 6 (by decide), hF 16 (by decide), hF 11 (by decide), hF 26 (by decide), hF 21 (by decide), hF 30 (by decide), hF 29 (by decide)]
    exact h
  · have h := hW.2.2.2.2.1
    unfold wFlg at h ⊢
    rw [hF 6 (by decide), hF 21 (by decide)]
    exact h
  · intro k
    rw [hF 5 (by decide), hF 4 (by decide), hl]
    exact hW.2.2.2.2.2.1 k
  · have h := hW.2.2.2.2.2.2
    intro r hr
    rw [hF 26 (by decide)] at hr
    rw [hF 6 (by decide), hF 17 (by decide), hF 22 (by decide), hF 23 (by decide), hF 24 (by decide), hF 25 (by decide), hh]
    exact h r hr
/-- the gate after a call, and all else as it was -/
def PH (g : sg_G) (x0 : Nat) (own : Nat → Option (Nat × Nat)) (C : Nat → Option va_E) (σ : Mem) (C' : Nat → Option va_E) : Prop := ∃ ad' own' gh', Pic g ad' own' gh' σ C' ∧ Frm own own' C C' ∧ gOk gh' ∧ WX σ ∧ ad' 0 0 = x0
theorem PH.q {τ : Mem} (hQ : Pic g ad own gh σ C) (hW : WX σ) (hg : gOk gh) (hF : rFr σ τ) : PH g (ad 0 0) own C τ C := ⟨ad, own, gh, hQ.fr hW hF, Frm.refl, hg, hW.fr hF, rfl⟩
theorem cont_gh {gh2 : Gh} (i k : Nat) (h : i < 17) : cont g ad gh2 σ i k = cont g ad gh σ i k := by
  match i, h with
  | 0, _ => rfl
  | 1, _ => rfl
  | 2, _ => rfl
  | 3, _ => rfl
  | 4, _ => rfl
  | 5, _ => rfl
  | 6, _ => rfl
  | 7, _ => rfl
  | 8, _ => rfl
  | 9, _ => rfl
  | 10, _ => rfl
  | 11, _ => rfl
  | 12, _ => rfl
  | 13, _ => rfl
  | 14, _ => rfl
  | 15, _ => rfl
  | 16, _ => rfl
  | n + 17, h => exact absurd h (by omega)
/-- another hero has been run -/
theorem Pic.hero (hQ : Pic g ad own gh σ C) (hs : Her) : Pic g ad own (hs, gh.2) σ (sg_ov C [(ad 17 0, .inr (2, hfs hs))]) ∧ Frm own own C (sg_ov C [(ad 17 0, .inr (2, hfs hs))]) :=
  hQ.put (gh' := (hs, gh.2)) (σ' := σ) [((17, 0), .inr (2, hfs hs))] (fun t ht => by rcases List.mem_singleton.mp ht with rfl; exact ⟨_, ct17⟩) ⟨List.not_mem_nil, trivial⟩ (fun t ht => by rcases List.mem_singleton.mp ht with rfl; rfl) (fun i k hm => by
    rcases Nat.lt_or_ge i 17 with h | h
    · exact cont_gh i k h
    · rcases Nat.lt_or_ge i 20 with h2 | h2
      · have h3 : i = 17 ∨ i = 18 ∨ i = 19 := by omega
        rcases h3 with rfl | rfl | rfl
        · have hk : ¬ k = 0 := fun q => hm (by rw [q]; exact List.mem_singleton.mpr rfl)
          exact (if_neg hk).trans (if_neg hk).symm
        · rfl
        · rfl
      · rw [cont_x i k h2, cont_x i k h2])
end STEP
