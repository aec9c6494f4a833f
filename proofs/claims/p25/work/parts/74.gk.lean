/-! the gate, and beside it cells of the law's own -/
theorem sg_Met.imp {l : Launch} {y : MethodName} {bytes : ByteArray} {maxL fr lo mc ms : Nat} {ret : Option FieldType} {g : sg_G} {As : List Value} {C : Nat → Option va_E} {Post Post' : Option Value → (Nat → Option va_E) → Prop} {X X' : String → (Nat → Option va_E) → Prop}
    (h : sg_Met l y bytes maxL ret fr lo mc ms g As C Post X) (hP : ∀ v C', Post v C' → Post' v C') (hX : ∀ E C', X E C' → X' E C') : sg_Met l y bytes maxL ret fr lo mc ms g As C Post' X' := by
  intro p e ha hc hk s m args below hf happ hp hk2
  obtain ⟨n, o, h1, h2, h3, h4⟩ := h p e ha hc hk s m args below hf happ hp hk2
  refine ⟨n, o, h1, h2, h3, ?_⟩
  rcases h4 with ⟨⟨v, C', e1, e2, e3⟩, h5⟩ | ⟨q, h5, E, ce, L, ⟨C', e1, e2⟩, h6⟩
  · exact Or.inl ⟨⟨v, C', e1, hP _ _ e2, e3⟩, h5⟩
  · exact Or.inr ⟨q, h5, E, ce, L, ⟨C', hX _ _ e1, e2⟩, h6⟩
theorem rFr.sy {σ τ : Mem} (h : rFr σ τ) : rFr τ σ := fun k hk => (h k hk).symm
def GK (g : sg_G) (x0 : Nat) (σ : Mem) (K : va_W) (C : Nat → Option va_E) : Prop :=
  (∃ ad own gh, Pic g ad own gh σ C ∧ gOk gh ∧ WX σ ∧ ad 0 0 = x0 ∧ ∀ a ∈ K.map Prod.fst, own a = none) ∧ (∀ z ∈ K, C z.1 = some z.2) ∧ sg_nd (K.map Prod.fst)
section GKS
variable {g : sg_G} {x0 a : Nat} {σ τ : Mem} {K K' : va_W} {C C1 : Nat → Option va_E} {own : Nat → Option (Nat × Nat)} {e e0 : va_E}
theorem GK.wx (h : GK g x0 σ K C) : WX σ := by
  obtain ⟨⟨ad, own, gh, -, -, hW, -⟩, -⟩ := h
  exact hW
theorem GK.ph (h1 : ∀ b ∈ K.map Prod.fst, own b = none) (h2 : ∀ z ∈ K, C z.1 = some z.2) (h3 : sg_nd (K.map Prod.fst)) (h : PH g x0 own C τ C1) : GK g x0 τ K C1 := by
  obtain ⟨ad', own', gh', hP, hF, hg, hW, hx⟩ := h
  refine ⟨⟨ad', own', gh', hP, hg, hW, hx, fun b hb => ?_⟩, fun z hz => (hF z.1 z.2 (h1 _ (List.mem_map.mpr ⟨z, hz, rfl⟩)) (h2 z hz)).1, h3⟩
  obtain ⟨z, hz, rfl⟩ := List.mem_map.mp hb
  exact (hF z.1 z.2 (h1 _ hb) (h2 z hz)).2
theorem GK.fr (h : GK g x0 σ K C) (hF : rFr σ τ) : GK g x0 τ K C := by
  obtain ⟨⟨ad, own, gh, hP, hg, hW, hx, ho⟩, h2, h3⟩ := h
  exact ⟨⟨ad, own, gh, hP.fr hW hF, hg, hW.fr hF, hx, ho⟩, h2, h3⟩
theorem GK.gate (h : GK g x0 σ K C) : ∃ fs, C x0 = some (.inr (8, fs)) := by
  obtain ⟨⟨ad, own, gh, hP, hg, hW, rfl, ho⟩, h2, h3⟩ := h
  exact ⟨_, hP.at ct0⟩
theorem GK.at (h : GK g x0 σ K C) (k : Nat) (hk : K[k]? = some (a, e)) : C a = some e := h.2.1 _ (List.mem_of_getElem? hk)
theorem GK.cons (h : GK g x0 σ K C) (ha : C a = none) : GK g x0 σ ((a, e) :: K) (sg_up C a e) := by
  obtain ⟨⟨ad, own, gh, hP, hg, hW, hx, ho⟩, h2, h3⟩ := h
  have hne : ∀ z ∈ K, z.1 ≠ a := fun z hz q => by have := h2 z hz; rw [q, ha] at this; cases this
  refine ⟨⟨ad, fun b => if b = a then none else own b, gh, fun i k x hx' => ?_, hg, hW, hx, fun b hb => ?_⟩, fun z hz => ?_, fun hm => ?_, h3⟩
  · obtain ⟨q1, q2⟩ := hP i k x hx'
    have hn : ad i k ≠ a := fun q => by rw [q, ha] at q1; cases q1
    exact ⟨(sg_up_n hn).trans q1, (if_neg hn).trans q2⟩
  · show (if b = a then none else own b) = none
    by_cases q : b = a
    · rw [if_pos q]
    · rw [if_neg q]
      rcases List.mem_cons.mp hb with rfl | hb
      · exact absurd rfl q
      · exact ho b hb
  · rcases List.mem_cons.mp hz with rfl | hz
    · exact sg_up_s
    · exact (sg_up_n (hne z hz)).trans (h2 z hz)
  · obtain ⟨z, hz, rfl⟩ := List.mem_map.mp hm
    exact hne z hz rfl
theorem GK.put (h : GK g x0 σ K C) (k : Nat) (hk : K[k]? = some (a, e0)) : GK g x0 σ (K.set k (a, e)) (sg_up C a e) := by
  obtain ⟨⟨ad, own, gh, hP, hg, hW, hx, ho⟩, h2, h3⟩ := h
  have hm : a ∈ K.map Prod.fst := List.mem_map.mpr ⟨_, List.mem_of_getElem? hk, rfl⟩
  have hks : (K.set k (a, e)).map Prod.fst = K.map Prod.fst := by
    rw [List.map_set]
    apply List.ext_getElem?
    intro j
    rw [List.getElem?_set]
    by_cases q : k = j
    · subst q
      rw [List.getElem?_map, hk]
      have hl : k < K.length := (List.getElem?_eq_some_iff.mp hk).1
      simp [hl]
    · rw [if_neg q]
  have hov : sg_up (sg_ov C K) a e = sg_ov C (K.set k (a, e)) := sg_ov_set h3 hk
  have hself : sg_ov C K = C := sg_ov_self2 h2
  refine ⟨⟨ad, own, gh, fun i k' x hx' => ?_, hg, hW, hx, fun b hb => ho b (by rw [hks] at hb; exact hb)⟩, fun z hz => ?_, by rw [hks]; exact h3⟩
  · obtain ⟨q1, q2⟩ := hP i k' x hx'
    have hn : ad i k' ≠ a := fun q => by rw [q, ho a hm] at q2; cases q2
    exact ⟨(sg_up_n hn).trans q1, q2⟩
  · rw [← hself, hov]
    obtain ⟨j, hj⟩ := List.mem_iff_getElem?.mp hz
    exact sg_ov_at (by rw [hks]; exact h3) hj
theorem GK.tl (h : GK g x0 σ ((a, e) :: K) C) : GK g x0 σ K C := by
  obtain ⟨⟨ad, own, gh, hP, hg, hW, hx, ho⟩, h2, h3⟩ := h
  exact ⟨⟨ad, own, gh, hP, hg, hW, hx, fun b hb => ho b (List.mem_cons_of_mem _ hb)⟩, fun z hz => h2 z (List.mem_cons_of_mem _ hz), h3.2⟩
end GKS
section REM
variable {p : Program} {l : Launch} {e : Env} {R : Room} {s : State} {m : MethodId} {args : Array Value} {below : List Frame} {meth : Method} {c : Code} {cells slots : Nat} {Q : State → Prop}
variable {cc : ByteArray} {nL : Nat} {own : String} {g : sg_G} {C : Nat → Option va_E} {pc : Nat} {lv lv' : List (Nat × Value)} {rest : List Value}
theorem sw_irem (hc : sg_Cx p s m args c cc nL own g) {x y : Int32} (hdg : decode cc pc = .ok (.irem, 1)) (hne : ¬ y = 0) (zk : sg_W p l e R s m args below meth c nL g cells slots Q C (pc + 1) lv (.int (x - x / y * y) :: rest)) : sg_W p l e R s m args below meth c nL g cells slots Q C pc lv (.int y :: .int x :: rest) := fun H locs ls hR hL hq hlv => lv_irem hc.1 hc.2.1 hdg hne (zk H locs ls hR hL hq hlv)
theorem sw_cv {x y : Int32} (h : x = y) (kk : sg_W p l e R s m args below meth c nL g cells slots Q C pc lv (.int y :: rest)) : sg_W p l e R s m args below meth c nL g cells slots Q C pc lv (.int x :: rest) := h ▸ kk
end REM
theorem sw_gen {p : Program} {l : Launch} {e : Env} {R : Room} {s : State} {m : MethodId} {args : Array Value} {below : List Frame} {meth : Method} {c : Code} {cells slots : Nat} {Q : State → Prop} {nL : Nat} {g : sg_G} {C : Nat → Option va_E} {pc : Nat} {lv : List (Nat × Value)} {rest : List Value} {P : (Nat → Option va_E) → Prop} (h : P C) (kk : ∀ C', P C' → sg_W p l e R s m args below meth c nL g cells slots Q C' pc lv rest) : sg_W p l e R s m args below meth c nL g cells slots Q C pc lv rest := kk C h
