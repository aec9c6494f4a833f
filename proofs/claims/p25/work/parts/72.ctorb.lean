
theorem nd_of : ∀ {l : List Nat}, l.Nodup → sg_nd l
  | [], _ => trivial
  | a :: l, h => ⟨(List.nodup_cons.mp h).1, nd_of (List.nodup_cons.mp h).2⟩
theorem nd_inj : ∀ {l : List Nat} {i j x : Nat}, sg_nd l → l[i]? = some x → l[j]? = some x → i = j
  | [], i, _, _, _, h, _ => by simp at h
  | a :: l, 0, 0, x, _, _, _ => rfl
  | a :: l, 0, j + 1, x, hn, h1, h2 => by
    rw [List.getElem?_cons_zero] at h1
    rw [List.getElem?_cons_succ] at h2
    cases h1
    exact absurd (List.mem_of_getElem? h2) hn.1
  | a :: l, i + 1, 0, x, hn, h1, h2 => by
    rw [List.getElem?_cons_zero] at h2
    rw [List.getElem?_cons_succ] at h1
    cases h2
    exact absurd (List.mem_of_getElem? h1) hn.1
  | a :: l, i + 1, j + 1, x, hn, h1, h2 => by
    rw [List.getElem?_cons_succ] at h1 h2
    rw [nd_inj hn.2 h1 h2]
theorem nd_sub {l : List Nat} (h : sg_nd l) : ∀ {ks l' : List Nat}, ks.map (fun i => l[i]?) = l'.map some → sg_nd ks → sg_nd l'
  | [], [], _, _ => trivial
  | [], x :: l', e, _ => by simp at e
  | k :: ks, [], e, _ => by simp at e
  | k :: ks, x :: l', e, hk => by
    rw [List.map_cons, List.map_cons] at e
    have e1 := (List.cons.inj e).1
    have e2 := (List.cons.inj e).2
    refine ⟨fun q => ?_, nd_sub h e2 hk.2⟩
    have q2 : some x ∈ ks.map (fun i => l[i]?) := by
      rw [e2]
      exact List.mem_map.mpr ⟨x, q, rfl⟩
    obtain ⟨j, hj, hj2⟩ := List.mem_map.mp q2
    exact hk.1 (by rw [nd_inj h e1 hj2]; exact hj)
