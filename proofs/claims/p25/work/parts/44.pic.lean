/-! the picture of the gate: every live name, and what lies there, by the reference's memory -/
abbrev Ad : Type := Nat → Nat → Nat
abbrev Gh : Type := Her × (Nat → Int32) × (Nat → Int32)
/-- how many: levels, replays, categories, runs, offers -/
def lsN (σ : Mem) (j : Nat) : Nat := match j with
  | 0 => iN (σ 2 0)
  | 1 => iN (σ 9 0)
  | 2 => iN (σ 16 0)
  | 3 => iN (σ 26 0)
  | _ => iN (σ 30 0)
def lsE (j : Nat) : Nat := match j with
  | 0 => 3
  | 1 => 7
  | 2 => 11
  | 3 => 15
  | _ => 16
def cL (g : sg_G) (n arr : Nat) : va_E := .inr (0, [.int (nI n), .ref (if n = 0 then g.2.2.2 0 else arr), .int (nI n)])
def cA (g : sg_G) (n : Nat) (f : Nat → Nat) : Option va_E := if 0 < n then some (sg_qa g (sg_cap n) (sg_tr f n)) else none
def lvG (σ : Mem) (k : Nat) : Nat → Int32 := fun c => if c < 32 then bI (σ 0 (32 * k + c) < 0) else 0
def lvF (σ : Mem) (k : Nat) : Nat → Int32 := fun c => if c < 32 then (if σ 0 (32 * k + c) < 0 then 0 else 16 * σ 0 (32 * k + c)) else 0
def lvI (σ : Mem) (k : Nat) : Nat → Int32 := fun c => if c < 32 then σ 1 (32 * k + c) else 0
/-- the class's hero, by the reference's -/
def hOf (x : Mem × Int32) : Her := fun j => match j with
  | 0 => x.1 32 0
  | 1 => x.1 33 0
  | 2 => x.1 34 0
  | 3 => x.1 35 0
  | 4 => x.1 36 0
  | 5 => x.2
  | 6 => x.1 37 0
  | 7 => rPurse (x.1 37 0) 32
  | 8 => x.1 38 0
  | 9 => x.1 39 0
  | 10 => x.1 40 0
  | _ => x.1 41 0
def heroR (σ : Mem) (r : Nat) : Her := hOf (rOut σ r 500 (iN (σ 4 r)))
def rpB (σ : Mem) (k : Nat) : Nat → Int32 := fun p => if p < iN (σ 4 k) then σ 7 (20 * k + p) else 0
def rpT (σ : Mem) (k : Nat) : Nat → Int32 := fun p => if p < iN (σ 4 k) then σ 8 (20 * k + p) else 0
def cont (g : sg_G) (ad : Ad) (gh : Gh) (σ : Mem) (i k : Nat) : Option va_E := match i with
  | 0 => if k = 0 then some (.inr (8, [.ref (ad 1 0), .ref (ad 1 1), .ref (ad 1 2), .ref (ad 1 3), .ref (ad 1 4), .int (σ 31 0), .ref (ad 17 0), .ref (ad 18 0), .ref (ad 19 0)])) else none
  | 1 => if k < 5 then some (cL g (lsN σ k) (ad 2 k)) else none
  | 2 => if k < 5 then cA g (lsN σ k) (ad (lsE k)) else none
  | 3 => if k < iN (σ 2 0) then some (.inr (3, [.ref (ad 4 k), .ref (ad 5 k), .ref (ad 6 k)])) else none
  | 4 => if k < iN (σ 2 0) then some (sg_za g 32 (lvG σ k)) else none
  | 5 => if k < iN (σ 2 0) then some (sg_ia g 32 (lvF σ k)) else none
  | 6 => if k < iN (σ 2 0) then some (sg_ia g 32 (lvI σ k)) else none
  | 7 => if k < iN (σ 9 0) then some (.inr (5, [.ref (ad 3 (iN (σ 3 k))), .ref (ad 8 k), .ref (ad 9 k), .ref (ad 10 k), .int (σ 4 k), .int (σ 5 k), .int (σ 6 k)])) else none
  | 8 => if k < iN (σ 9 0) then some (sg_ia g 20 (rpB σ k)) else none
  | 9 => if k < iN (σ 9 0) then some (sg_ia g 20 (rpT σ k)) else none
  | 10 => if k < iN (σ 9 0) then some (.inr (2, hfs (heroR σ k))) else none
  | 11 => if k < iN (σ 16 0) then some (.inr (1, [.ref (ad 3 (iN (σ 10 k))), .ref (ad 12 k)])) else none
  | 12 => if k < iN (σ 16 0) then some (cL g (iN (σ 11 k)) (ad 13 k)) else none
  | 13 => if k < iN (σ 16 0) then cA g (iN (σ 11 k)) (fun j => ad 14 (10 * k + j)) else none
  | 14 => if k / 10 < iN (σ 16 0) ∧ k % 10 < iN (σ 11 (k / 10)) then some (.inr (6, [.int (σ 12 k), .int (σ 13 k), .int (σ 14 k), .int (σ 15 k)])) else none
  | 15 => if k < iN (σ 26 0) then some (.inr (7, [.int (nI k), .int (σ 18 k), .ref (ad 7 (iN (σ 17 k))), .ref (ad 11 (iN (σ 19 k))), .int (σ 20 k), .int (σ 22 k), .int (σ 21 k)])) else none
  | 16 => if k < iN (σ 30 0) then some (.inr (4, [.ref (ad 11 (iN (σ 27 k))), .int (σ 28 k), .int (σ 29 k)])) else none
  | 17 => if k = 0 then some (.inr (2, hfs gh.1)) else none
  | 18 => if k = 0 then some (sg_ia g 1024 gh.2.1) else none
  | 19 => if k = 0 then some (sg_ia g 1024 gh.2.2) else none
  | _ => none
def Pic (g : sg_G) (ad : Ad) (own : Nat → Option (Nat × Nat)) (gh : Gh) (σ : Mem) (C : Nat → Option va_E) : Prop := ∀ i k x, cont g ad gh σ i k = some x → C (ad i k) = some x ∧ own (ad i k) = some (i, k)
/-- what is nobody's of ours stays -/
def Frm (own own' : Nat → Option (Nat × Nat)) (C C' : Nat → Option va_E) : Prop := ∀ a x, own a = none → C a = some x → C' a = some x ∧ own' a = none
theorem Frm.refl {own : Nat → Option (Nat × Nat)} {C : Nat → Option va_E} : Frm own own C C := fun _ _ h1 h2 => ⟨h2, h1⟩
theorem Frm.trans {o1 o2 o3 : Nat → Option (Nat × Nat)} {C1 C2 C3 : Nat → Option va_E} (h1 : Frm o1 o2 C1 C2) (h2 : Frm o2 o3 C2 C3) : Frm o1 o3 C1 C3 := fun a x q1 q2 => h2 a x (h1 a x q1 q2).2 (h1 a x q1 q2).1
/-- the gate's picture, somewhere, and all else as it was -/
def PG (g : sg_G) (own : Nat → Option (Nat × Nat)) (C : Nat → Option va_E) (σ : Mem) (C' : Nat → Option va_E) : Prop := ∃ ad' own' gh', Pic g ad' own' gh' σ C' ∧ Frm own own' C C'
section PIC
variable {g : sg_G} {ad : Ad} {own : Nat → Option (Nat × Nat)} {gh : Gh} {σ : Mem} {C : Nat → Option va_E} {k j : Nat}
theorem Pic.at (hP : Pic g ad own gh σ C) {i k : Nat} {x : va_E} (h : cont g ad gh σ i k = some x) : C (ad i k) = some x := (hP i k x h).1
theorem Pic.ne (hP : Pic g ad own gh σ C) {i k i' k' : Nat} {x x' : va_E} (h : cont g ad gh σ i k = some x) (h' : cont g ad gh σ i' k' = some x') (hd : (i, k) ≠ (i', k')) : ad i k ≠ ad i' k' := fun q => hd (Option.some.inj ((hP i k x h).2.symm.trans ((congrArg own q).trans (hP i' k' x' h').2)))
theorem ct0 : cont g ad gh σ 0 0 = some (.inr (8, [.ref (ad 1 0), .ref (ad 1 1), .ref (ad 1 2), .ref (ad 1 3), .ref (ad 1 4), .int (σ 31 0), .ref (ad 17 0), .ref (ad 18 0), .ref (ad 19 0)])) := rfl
theorem ct1 (h : k < 5) : cont g ad gh σ 1 k = some (cL g (lsN σ k) (ad 2 k)) := if_pos h
theorem ct2 (h : k < 5) (h0 : 0 < lsN σ k) : cont g ad gh σ 2 k = some (sg_qa g (sg_cap (lsN σ k)) (sg_tr (ad (lsE k)) (lsN σ k))) := (if_pos h).trans (if_pos h0)
theorem ct3 (h : k < iN (σ 2 0)) : cont g ad gh σ 3 k = some (.inr (3, [.ref (ad 4 k), .ref (ad 5 k), .ref (ad 6 k)])) := if_pos h
theorem ct4 (h : k < iN (σ 2 0)) : cont g ad gh σ 4 k = some (sg_za g 32 (lvG σ k)) := if_pos h
theorem ct5 (h : k < iN (σ 2 0)) : cont g ad gh σ 5 k = some (sg_ia g 32 (lvF σ k)) := if_pos h
theorem ct6 (h : k < iN (σ 2 0)) : cont g ad gh σ 6 k = some (sg_ia g 32 (lvI σ k)) := if_pos h
theorem ct7 (h : k < iN (σ 9 0)) : cont g ad gh σ 7 k = some (.inr (5, [.ref (ad 3 (iN (σ 3 k))), .ref (ad 8 k), .ref (ad 9 k), .ref (ad 10 k), .int (σ 4 k), .int (σ 5 k), .int (σ 6 k)])) := if_pos h
theorem ct8 (h : k < iN (σ 9 0)) : cont g ad gh σ 8 k = some (sg_ia g 20 (rpB σ k)) := if_pos h
theorem ct9 (h : k < iN (σ 9 0)) : cont g ad gh σ 9 k = some (sg_ia g 20 (rpT σ k)) := if_pos h
theorem ct10 (h : k < iN (σ 9 0)) : cont g ad gh σ 10 k = some (.inr (2, hfs (heroR σ k))) := if_pos h
theorem ct11 (h : k < iN (σ 16 0)) : cont g ad gh σ 11 k = some (.inr (1, [.ref (ad 3 (iN (σ 10 k))), .ref (ad 12 k)])) := if_pos h
theorem ct12 (h : k < iN (σ 16 0)) : cont g ad gh σ 12 k = some (cL g (iN (σ 11 k)) (ad 13 k)) := if_pos h
theorem ct13 (h : k < iN (σ 16 0)) (h0 : 0 < iN (σ 11 k)) : cont g ad gh σ 13 k = some (sg_qa g (sg_cap (iN (σ 11 k))) (sg_tr (fun j => ad 14 (10 * k + j)) (iN (σ 11 k)))) := (if_pos h).trans (if_pos h0)
theorem ct14 (h : k < iN (σ 16 0)) (hj : j < iN (σ 11 k)) (h10 : j < 10) : cont g ad gh σ 14 (10 * k + j) = some (.inr (6, [.int (σ 12 (10 * k + j)), .int (σ 13 (10 * k + j)), .int (σ 14 (10 * k + j)), .int (σ 15 (10 * k + j))])) := by
  have e1 : (10 * k + j) / 10 = k := by omega
  have e2 : (10 * k + j) % 10 = j := by omega
  exact if_pos ⟨by rw [e1]; exact h, by rw [e1, e2]; exact hj⟩
theorem ct15 (h : k < iN (σ 26 0)) : cont g ad gh σ 15 k = some (.inr (7, [.int (nI k), .int (σ 18 k), .ref (ad 7 (iN (σ 17 k))), .ref (ad 11 (iN (σ 19 k))), .int (σ 20 k), .int (σ 22 k), .int (σ 21 k)])) := if_pos h
theorem ct16 (h : k < iN (σ 30 0)) : cont g ad gh σ 16 k = some (.inr (4, [.ref (ad 11 (iN (σ 27 k))), .int (σ 28 k), .int (σ 29 k)])) := if_pos h
theorem ct17 : cont g ad gh σ 17 0 = some (.inr (2, hfs gh.1)) := rfl
theorem ct18 : cont g ad gh σ 18 0 = some (sg_ia g 1024 gh.2.1) := rfl
theorem ct19 : cont g ad gh σ 19 0 = some (sg_ia g 1024 gh.2.2) := rfl
/-- the array behind a list of the gate's -/
theorem Pic.al (hP : Pic g ad own gh σ C) (h : k < 5) : sg_AL g C (lsN σ k) (if lsN σ k = 0 then g.2.2.2 0 else ad 2 k) (ad (lsE k)) := by
  by_cases h0 : lsN σ k = 0
  · exact .inl ⟨h0, if_pos h0⟩
  · rw [if_neg h0]
    exact .inr ⟨by omega, hP.at (ct2 h (by omega))⟩
theorem Pic.ar (hP : Pic g ad own gh σ C) (h : k < iN (σ 16 0)) : sg_AL g C (iN (σ 11 k)) (if iN (σ 11 k) = 0 then g.2.2.2 0 else ad 13 k) (fun j => ad 14 (10 * k + j)) := by
  by_cases h0 : iN (σ 11 k) = 0
  · exact .inl ⟨h0, if_pos h0⟩
  · rw [if_neg h0]
    exact .inr ⟨by omega, hP.at (ct13 h (by omega))⟩
/-- an element of a list of the gate's; of the rules of a category -/
theorem c_get1 (l : Launch) (hP : Pic g ad own gh σ C) (h : k < 5) {i : Nat} (hi : i < lsN σ k) (hn : lsN σ k ≤ 40) : sg_Met l yJx4a65c_get_915e3 cJx4a65c_get_915e3 2 (some (.object "java/lang/Object")) 2 43 0 0 g [.ref (ad 1 k), .int (nI i)] C (fun v C' => v = some (.ref (ad (lsE k) i)) ∧ C' = C) sg_no := by
  have h0 : ¬ lsN σ k = 0 := by omega
  have e1 := hP.at (ct1 (g := g) (ad := ad) (gh := gh) (σ := σ) h)
  unfold cL at e1
  rw [if_neg h0] at e1
  exact c_Jx4a65c_get_915e3 l g C (ad 1 k) _ (ad 2 k) (sg_cap (lsN σ k)) (sg_tr (ad (lsE k)) (lsN σ k)) i (lsN σ k) (ad (lsE k) i) e1 (hP.at (ct2 h (by omega))) hi (sg_cap_ge (by omega)) (Nat.le_trans (sg_cap_le _) (by decide)) (if_pos hi)
theorem c_get2 (l : Launch) (hP : Pic g ad own gh σ C) (h : k < iN (σ 16 0)) {i : Nat} (hi : i < iN (σ 11 k)) (hn : iN (σ 11 k) ≤ 40) : sg_Met l yJx4a65c_get_915e3 cJx4a65c_get_915e3 2 (some (.object "java/lang/Object")) 2 43 0 0 g [.ref (ad 12 k), .int (nI i)] C (fun v C' => v = some (.ref (ad 14 (10 * k + i))) ∧ C' = C) sg_no := by
  have h0 : ¬ iN (σ 11 k) = 0 := by omega
  have e1 := hP.at (ct12 (g := g) (ad := ad) (gh := gh) (σ := σ) h)
  unfold cL at e1
  rw [if_neg h0] at e1
  exact c_Jx4a65c_get_915e3 l g C (ad 12 k) _ (ad 13 k) (sg_cap (iN (σ 11 k))) (sg_tr (fun j => ad 14 (10 * k + j)) (iN (σ 11 k))) i (iN (σ 11 k)) (ad 14 (10 * k + i)) e1 (hP.at (ct13 h (by omega))) hi (sg_cap_ge (by omega)) (Nat.le_trans (sg_cap_le _) (by decide)) (if_pos hi)
end PIC
