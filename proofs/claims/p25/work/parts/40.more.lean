/-! rows of the frame for what the class makes, throws, reads of the JDK -/
/-- an object of the class ci may be made from here: all its fields at their defaults fs, its words n -/
def sg_NW (own : String) (idx ci n : Nat) (fs : List Value) : Prop := ∃ (Cn : String) (T : u_T) (ty : Nat → FieldType), vwCl[ci]? = some (Cn, T, n) ∧ (∀ w ∈ u_ws Cn T n, w ∈ sg_T) ∧ (∀ k, k < n → parseFieldDescriptor (T k).2.2.1 = some (ty k)) ∧ (∀ j, j < n → defaultValue (ty j) = vp_V fs j) ∧ Cond.classLink own idx Cn ∈ sg_T ∧ Cond.instantiable Cn n ∈ sg_T ∧ Cond.initialized Cn ∈ sg_T
/-- what a throw of cls with a text wants of the tables -/
def sg_TH (own cls : String) (ik ic : Nat) : Prop := Bundle.fit cls = true ∧ Cond.classLink own ik cls ∈ sg_T ∧ Cond.initialized cls ∈ sg_T ∧ (∀ w ∈ vx_atS own ic cls ["java/lang/RuntimeException", "java/lang/Exception"], w ∈ sg_T ∨ w ∈ sg_N) ∧ (∀ w ∈ vx_atS own ic cls ["java/lang/RuntimeException", "java/lang/Exception"], vx_ot w = true)
/-- the live cells, in a list -/
def sg_ls (C : Nat → Option va_E) : Nat → va_W
  | 0 => []
  | n + 1 => match C n with
    | none => sg_ls C n
    | some x => (n, x) :: sg_ls C n
theorem sg_ls_lt {C : Nat → Option va_E} : ∀ {n : Nat} {q : Nat × va_E}, q ∈ sg_ls C n → q.1 < n ∧ C q.1 = some q.2
  | 0, q, h => nomatch h
  | n + 1, q, h => by
    unfold sg_ls at h
    split at h
    · exact ⟨Nat.lt_succ_of_lt (sg_ls_lt h).1, (sg_ls_lt h).2⟩
    · next x hx =>
      rcases List.mem_cons.mp h with rfl | h
      · exact ⟨Nat.lt_succ_self _, hx⟩
      · exact ⟨Nat.lt_succ_of_lt (sg_ls_lt h).1, (sg_ls_lt h).2⟩
theorem sg_ls_mem {C : Nat → Option va_E} {a : Nat} {x : va_E} (hx : C a = some x) : ∀ {n : Nat}, a < n → (a, x) ∈ sg_ls C n
  | 0, h => absurd h (Nat.not_lt_zero _)
  | n + 1, h => by
    unfold sg_ls
    by_cases ha : a = n
    · subst ha
      rw [hx]
      exact List.mem_cons_self
    · have := sg_ls_mem hx (n := n) (by omega)
      split
      · exact this
      · exact List.mem_cons_of_mem _ this
theorem sg_ls_nd {C : Nat → Option va_E} : ∀ {n : Nat}, ((sg_ls C n).map Prod.fst).Nodup
  | 0 => List.nodup_nil
  | n + 1 => by
    unfold sg_ls
    split
    · exact sg_ls_nd
    · rw [List.map_cons, List.nodup_cons]
      refine ⟨fun h => ?_, sg_ls_nd⟩
      obtain ⟨q, h1, h2⟩ := List.mem_map.mp h
      have := (sg_ls_lt h1).1
      rw [h2] at this
      exact Nat.lt_irrefl _ this
theorem va_rf_n : va_rf none = .null := rfl
theorem va_rf_s (a : Nat) : va_rf (some a) = .ref a := rfl
section SGM
variable {p : Program} {l : Launch} {e : Env} {R : Room} {s : State} {m : MethodId} {args : Array Value} {below : List Frame} {meth : Method} {c : Code} {cells slots : Nat} {Q : State → Prop}
variable {cc : ByteArray} {nL : Nat} {own : String} {g : sg_G} {C : Nat → Option va_E} {pc : Nat} {lv lv' : List (Nat × Value)} {rest : List Value} {H : Heap}
theorem sw_aload_nq (hc : sg_Cx p s m args c cc nL own g) {k : Fin 4} {i : Nat} {r : Option Nat} (hdg : decode cc pc = .ok (.aload_n k, 1)) (hi : (k : Nat) = i) (kx : Nat) (hl : lv[kx]? = some (i, va_rf r)) (zk : sg_W p l e R s m args below meth c nL g cells slots Q C (pc + 1) lv (va_rf r :: rest)) : sg_W p l e R s m args below meth c nL g cells slots Q C pc lv rest := by
  cases r with
  | none => exact sw_aload_nN hc hdg hi kx hl zk
  | some a => exact sw_aload_n hc hdg hi kx hl zk
theorem sw_aloadq (hc : sg_Cx p s m args c cc nL own g) {i : Nat} {r : Option Nat} (hdg : decode cc pc = .ok (.aload i, 2)) (kx : Nat) (hl : lv[kx]? = some (i, va_rf r)) (zk : sg_W p l e R s m args below meth c nL g cells slots Q C (pc + 2) lv (va_rf r :: rest)) : sg_W p l e R s m args below meth c nL g cells slots Q C pc lv rest := by
  cases r with
  | none => exact sw_aloadN hc hdg kx hl zk
  | some a => exact sw_aload hc hdg kx hl zk
theorem sw_astore_nq (hc : sg_Cx p s m args c cc nL own g) {k : Fin 4} {i : Nat} {r : Option Nat} (hdg : decode cc pc = .ok (.astore_n k, 1)) (hi : (k : Nat) = i) (hn : i < nL) (hl : (i, va_rf r) :: lv.filter (fun q => !(q.1 == i) && !(q.1 + 1 == i && q.2.category == 2)) = lv') (zkk : sg_W p l e R s m args below meth c nL g cells slots Q C (pc + 1) lv' rest) : sg_W p l e R s m args below meth c nL g cells slots Q C pc lv (va_rf r :: rest) := by
  cases r with
  | none => exact sw_astore_nN hc hdg hi hn hl zkk
  | some a => exact sw_astore_n hc hdg hi hn hl zkk
theorem sw_astoreq (hc : sg_Cx p s m args c cc nL own g) {i : Nat} {r : Option Nat} (hdg : decode cc pc = .ok (.astore i, 2)) (hn : i < nL) (hl : (i, va_rf r) :: lv.filter (fun q => !(q.1 == i) && !(q.1 + 1 == i && q.2.category == 2)) = lv') (zkk : sg_W p l e R s m args below meth c nL g cells slots Q C (pc + 2) lv' rest) : sg_W p l e R s m args below meth c nL g cells slots Q C pc lv (va_rf r :: rest) := by
  cases r with
  | none => exact sw_astoreN hc hdg hn hl zkk
  | some a => exact sw_astore hc hdg hn hl zkk
theorem va_rf_c (r : Option Nat) : (va_rf r).category = 1 := by cases r <;> rfl
theorem sw_ifnullq (hc : sg_Cx p s m args c cc nL own g) {r : Option Nat} {off : Int} {tgt : Nat} (hdg : decode cc pc = .ok (.ifnull off, 3)) (ht : (pc : Int) + off = (tgt : Int)) (k1 : r = none → sg_W p l e R s m args below meth c nL g cells slots Q C tgt lv rest) (k2 : ∀ a, r = some a → sg_W p l e R s m args below meth c nL g cells slots Q C (pc + 3) lv rest) : sg_W p l e R s m args below meth c nL g cells slots Q C pc lv (va_rf r :: rest) := by
  cases r with
  | none => exact sw_ifnullN hc hdg ht (k1 rfl)
  | some a => exact sw_ifnull hc hdg (k2 a rfl)
theorem sw_ifnonnullq (hc : sg_Cx p s m args c cc nL own g) {r : Option Nat} {off : Int} {tgt : Nat} (hdg : decode cc pc = .ok (.ifnonnull off, 3)) (ht : (pc : Int) + off = (tgt : Int)) (k1 : ∀ a, r = some a → sg_W p l e R s m args below meth c nL g cells slots Q C tgt lv rest) (k2 : r = none → sg_W p l e R s m args below meth c nL g cells slots Q C (pc + 3) lv rest) : sg_W p l e R s m args below meth c nL g cells slots Q C pc lv (va_rf r :: rest) := by
  cases r with
  | none => exact sw_ifnonnullN hc hdg (k2 rfl)
  | some a => exact sw_ifnonnull hc hdg ht (k1 a rfl)
theorem sw_new (hc : sg_Cx p s m args c cc nL own g) {idx ci n : Nat} {fs : List Value} (hw : sg_NW own idx ci n fs) (hr : cells + 1 ≤ R.cells ∧ slots + n ≤ R.slots) (hdg : decode cc pc = .ok (.new idx, 3))
    (kk : ∀ a, C a = none → sg_W p l e R s m args below meth c nL g (cells + 1) (slots + n) Q (sg_up C a (.inr (ci, fs))) (pc + 3) lv (.ref a :: rest)) : sg_W p l e R s m args below meth c nL g cells slots Q C pc lv rest := by
  intro H locs ls hR hL hq hl
  obtain ⟨hx, hb, hml, hown, hts, ⟨hK, hN⟩, hK2⟩ := hc
  obtain ⟨Cn, T, ty, h1, hin, hty, hfs, h2, h3, h4⟩ := hw
  have hKn := hK.1 ci _ h1
  refine W.newcK hx hb hown (hts _ h2) (hts _ h3) (hts _ h4) rfl hdg hr.1 hr.2 hKn.2.1 rfl fun H1 kC hkC e1 z1 o1 => ?_
  exact kk H.size hR.none H1 locs ls (hR.new hL ⟨_, h1, (u_born ty hts hin hKn hkC e1 hty).to hfs⟩ o1) (hL.new z1 o1) hq hl
theorem sw_newi (hc : sg_Cx p s m args c cc nL own g) {x : Int32} {n : Nat} (hw : Cond.arrayClass .int ∈ sg_T) (hx' : x = nI n) (hn : n ≤ 100000) (hr : cells + 1 ≤ R.cells ∧ slots + n ≤ R.slots) (hdg : decode cc pc = .ok (.newarray .int, 2))
    (kk : ∀ a, C a = none → sg_W p l e R s m args below meth c nL g (cells + 1) (slots + n) Q (sg_up C a (sg_ia g n (fun _ => 0))) (pc + 2) lv (.ref a :: rest)) : sg_W p l e R s m args below meth c nL g cells slots Q C pc lv (.int x :: rest) := by
  subst hx'
  intro H locs ls hR hL hq hl
  obtain ⟨hx, hb, hml, hown, hts, ⟨hK, hN⟩, hK2⟩ := hc
  refine va_newaK (atype := .int) hx hb (hts _ hw) rfl hdg rfl (nI_pos (by omega)) (nI_clamp (by omega)) (show n * 4 ≤ _ by omega) hr.1 hr.2 rfl fun H1 cA e1 z1 o1 hA hNm => ?_
  have hcy : cA = g.2.1 0 := Option.some.inj (hNm.symm.trans (hK.2 0 (g.2.1 0, .int) rfl).2)
  subst hcy
  exact kk H.size hR.none H1 locs ls (hR.new hL (show H1[H.size]? = some (vp_cell _ _) from e1) o1) (hL.new z1 o1) hq hl
theorem sw_newz (hc : sg_Cx p s m args c cc nL own g) {x : Int32} {n : Nat} (hw : Cond.arrayClass .boolean ∈ sg_T) (hx' : x = nI n) (hn : n ≤ 100000) (hr : cells + 1 ≤ R.cells ∧ slots + n ≤ R.slots) (hdg : decode cc pc = .ok (.newarray .boolean, 2))
    (kk : ∀ a, C a = none → sg_W p l e R s m args below meth c nL g (cells + 1) (slots + n) Q (sg_up C a (sg_za g n (fun _ => 0))) (pc + 2) lv (.ref a :: rest)) : sg_W p l e R s m args below meth c nL g cells slots Q C pc lv (.int x :: rest) := by
  subst hx'
  intro H locs ls hR hL hq hl
  obtain ⟨hx, hb, hml, hown, hts, ⟨hK, hN⟩, hK2⟩ := hc
  refine va_newaK (atype := .boolean) hx hb (hts _ hw) rfl hdg rfl (nI_pos (by omega)) (nI_clamp (by omega)) (show n * 1 ≤ _ by omega) hr.1 hr.2 rfl fun H1 cA e1 z1 o1 hA hNm => ?_
  have hcy : cA = g.2.1 1 := Option.some.inj (hNm.symm.trans (hK.2 1 (g.2.1 1, .boolean) rfl).2)
  subst hcy
  exact kk H.size hR.none H1 locs ls (hR.new hL (show H1[H.size]? = some (vp_cell _ _) from e1) o1) (hL.new z1 o1) hq hl
theorem sw_newq (hc : sg_Cx p s m args c cc nL own g) {x : Int32} {idx n : Nat} (hw : Cond.classLink own idx "java/lang/Object" ∈ sg_T) (hx' : x = nI n) (hn : n ≤ 100000) (hr : cells + 1 ≤ R.cells ∧ slots + n ≤ R.slots) (hdg : decode cc pc = .ok (.anewarray idx, 3))
    (kk : ∀ a, C a = none → sg_W p l e R s m args below meth c nL g (cells + 1) (slots + n) Q (sg_up C a (sg_qa g n (fun _ => none))) (pc + 3) lv (.ref a :: rest)) : sg_W p l e R s m args below meth c nL g cells slots Q C pc lv (.int x :: rest) := by
  subst hx'
  intro H locs ls hR hL hq hl
  obtain ⟨hx, hb, hml, hown, hts, ⟨hK, hN⟩, hK2, -⟩ := hc
  have hcl := nI_clamp (n := n) (by omega)
  refine W.anew hx hb hown (hts _ hw) (va_AO.use hK2.2.2.2.2.2.2.1) rfl hdg rfl (nI_pos (by omega)) (by rw [hcl]; omega) hr.1 (by rw [hcl]; exact hr.2) fun cA kA comp f1 f2 f3 f4 => ?_
  obtain ⟨-, -, -, -, -, h4⟩ := (hK.2 2 (g.2.1 2, .object "java/lang/Object") rfl).2
  cases h4.symm.trans f1
  rw [hcl]
  generalize hH1 : H.push ({ cls := g.2.1 2, slots := Array.replicate n .null, vm := .none } : Cell) = H1
  have z1 : H1.size = H.size + 1 := by rw [← hH1, Array.size_push]
  have e1 : H1[H.size]? = some (arrV (g.2.1 2) n (fun _ => .null)) := by rw [← hH1, Array.getElem?_push_size, ← arrV_new]
  have o1 : ∀ q : Nat, q < H.size → H1[q]? = H[q]? := fun q hq => by rw [← hH1, Array.getElem?_push, if_neg (Nat.ne_of_lt hq)]
  exact kk H.size hR.none H1 locs ls (hR.new hL (show H1[H.size]? = some (vp_cell _ _) from e1) o1) (hL.new z1 o1) hq hl
/-- the JDK's shared empty array -/
theorem sw_gete (hc : sg_Cx p s m args c cc nL own g) {idx : Nat} (hw : Cond.fieldLink own idx "java/util/ArrayList" "DEFAULTCAPACITY_EMPTY_ELEMENTDATA" "[Ljava/lang/Object;" ∈ sg_T) (hdg : decode cc pc = .ok (.getstatic idx, 3))
    (kk : sg_W p l e R s m args below meth c nL g cells slots Q C (pc + 3) lv (.ref (g.2.2.2 0) :: rest)) : sg_W p l e R s m args below meth c nL g cells slots Q C pc lv rest := by
  intro H locs ls hR hL hq hl
  obtain ⟨hx, hb, hml, hown, hts, hK1, hK2, hLs⟩ := hc
  obtain ⟨cf, kf, fi, f, a, cell, h1, h2, h3, h4, h5, h6, h7, h8⟩ := hK2.2.2.2.1
  exact W.gets hx hb hown (hts _ hw) h1 h2 h3 h4 (by rw [hL.2 a (Array.getElem?_eq_some_iff.mp h5).1]; exact h5) (fun e => by rw [e] at h6; cases h6) h7 rfl hdg (kk H locs ls hR hL hq hl)
theorem sw_alene (hc : sg_Cx p s m args c cc nL own g) (hdg : decode cc pc = .ok (.arraylength, 1))
    (kk : sg_W p l e R s m args below meth c nL g cells slots Q C (pc + 1) lv (.int 0 :: rest)) : sg_W p l e R s m args below meth c nL g cells slots Q C pc lv (.ref (g.2.2.2 0) :: rest) := by
  intro H locs ls hR hL hq hl
  obtain ⟨hx, hb, hml, hown, hts, hK1, hK2, hLs⟩ := hc
  obtain ⟨cell, h1, h2, h3, h4, h5, h6, h7⟩ := hK2.2.2.2.2.1
  exact W.alen (n := Int32.ofNat 0) hx hb (by rw [hL.2 _ (Array.getElem?_eq_some_iff.mp h1).1]; exact h1) h2 h5 rfl rfl hdg (kk H locs ls hR hL hq hl)
theorem sw_ldcM (hc : sg_Cx p s m args c cc nL own g) {idx : Nat} (hw : Cond.classLink own idx "[Ljava/lang/Object;" ∈ sg_T) (hdg : decode cc pc = .ok (.ldc idx, 2))
    (kk : sg_W p l e R s m args below meth c nL g cells slots Q C (pc + 2) lv (.ref (g.2.2.2 1) :: rest)) : sg_W p l e R s m args below meth c nL g cells slots Q C pc lv rest :=
  fun H locs ls hR hL hq hl => va_ldcM hc.1 hc.2.1 hc.2.2.2.1 (hc.2.2.2.2.1 _ hw) hc.2.2.2.2.2.2.1.2.2.2.2.2.1 hdg (kk H locs ls hR hL hq hl)
theorem sg_qcell (hc : sg_Cx p s m args c cc nL own g) (hR : sg_Rp g C H) {a n : Nat} {f : Nat → Option Nat} (ha : C a = some (sg_qa g n f)) : ∃ cell : Cell, H[a]? = some cell ∧ cell.vm.isStatics = false ∧ s.vm.findClass "[Ljava/lang/Object;" = some cell.cls := by
  obtain ⟨-, -, -, -, -, h4⟩ := (hc.2.2.2.2.2.1.1.2 2 (g.2.1 2, .object "java/lang/Object") rfl).2
  exact ⟨_, (hR a _ ha).1, rfl, h4⟩
def sg_GC (own : String) (idx : Nat) : Prop := Cond.methodLink own idx ⟨"java/lang/Object", "getClass", "()Ljava/lang/Class;"⟩ ∈ sg_T ∧ Cond.declares ⟨"java/lang/Object", "getClass", "()Ljava/lang/Class;"⟩ ∈ sg_N ∧ Cond.selects "[Ljava/lang/Object;" ⟨"java/lang/Object", "getClass", "()Ljava/lang/Class;"⟩ ⟨"java/lang/Object", "getClass", "()Ljava/lang/Class;"⟩ ∈ sg_T ∧ Cond.instanceMethod ⟨"java/lang/Object", "getClass", "()Ljava/lang/Class;"⟩ ∈ sg_T ∧ Cond.native ⟨"java/lang/Object", "getClass", "()Ljava/lang/Class;"⟩ ∈ sg_T
theorem sw_getC (hc : sg_Cx p s m args c cc nL own g) {idx a n : Nat} {f : Nat → Option Nat} (hw : sg_GC own idx) (ha : C a = some (sg_qa g n f)) (hr : 1 ≤ R.frames ∧ (rest.map fun v => v.category).sum + 14 ≤ R.locals) (hdg : decode cc pc = .ok (.invokevirtual idx, 3))
    (kk : sg_W p l e R s m args below meth c nL g cells slots Q C (pc + 3) lv (.ref (g.2.2.2 1) :: rest)) : sg_W p l e R s m args below meth c nL g cells slots Q C pc lv (.ref a :: rest) := by
  intro H locs ls hR hL hq hl
  have hts := hc.2.2.2.2.1
  exact va_getC hc.1 hc.2.1 (hc.2.2.1.trans hl.1.symm) hc.2.2.2.1 (hts _ hw.1) (va_Nw.use rfl (hc.2.2.2.2.2.1.2 _ hw.2.1)) (hts _ hw.2.2.1) (hts _ hw.2.2.2.1) (hts _ hw.2.2.2.2) hc.2.2.2.2.2.2.1.2.2.2.2.2.1 (sg_qcell hc hR ha) hr.1 hr.2 hdg (kk H locs ls hR hL hq hl)
/-- a cast to the very class -/
theorem sw_cast (hc : sg_Cx p s m args c cc nL own g) {idx a ci : Nat} {Cn : String} {T : u_T} {N : Nat} {fs : List Value} (hw : Cond.classLink own idx Cn ∈ sg_T) (ha : C a = some (.inr (ci, fs))) (hcl : vwCl[ci]? = some (Cn, T, N)) (hdg : decode cc pc = .ok (.checkcast idx, 3))
    (kk : sg_W p l e R s m args below meth c nL g cells slots Q C (pc + 3) lv (.ref a :: rest)) : sg_W p l e R s m args below meth c nL g cells slots Q C pc lv (.ref a :: rest) := by
  intro H locs ls hR hL hq hl
  obtain ⟨cell, h1, h2, h3⟩ := sg_recv hc hR ha hcl
  intro T0 hT X
  obtain ⟨vm', X', st⟩ := X.checkcastYes hc.1 hc.2.2.2.1 (hc.2.2.2.2.1 _ hw) (by rw [hT]; exact h1) h2 h3 (va_asg _ _) (g := F0 m pc ls (.ref a :: rest)) rfl rfl (by rw [hc.2.1]; exact hdg)
  obtain ⟨t, a1, b1⟩ := kk H locs ls hR hL hq hl (T0.setVm vm') hT X'
  exact ⟨t, st t a1, b1⟩
theorem sw_castQ (hc : sg_Cx p s m args c cc nL own g) {idx a n : Nat} {f : Nat → Option Nat} (hw : Cond.classLink own idx "[Ljava/lang/Object;" ∈ sg_T) (ha : C a = some (sg_qa g n f)) (hdg : decode cc pc = .ok (.checkcast idx, 3))
    (kk : sg_W p l e R s m args below meth c nL g cells slots Q C (pc + 3) lv (.ref a :: rest)) : sg_W p l e R s m args below meth c nL g cells slots Q C pc lv (.ref a :: rest) := by
  intro H locs ls hR hL hq hl
  obtain ⟨cell, h1, h2, h3⟩ := sg_qcell hc hR ha
  intro T0 hT X
  obtain ⟨vm', X', st⟩ := X.checkcastYes hc.1 hc.2.2.2.1 (hc.2.2.2.2.1 _ hw) (by rw [hT]; exact h1) h2 h3 (va_asg _ _) (g := F0 m pc ls (.ref a :: rest)) rfl rfl (by rw [hc.2.1]; exact hdg)
  obtain ⟨t, a1, b1⟩ := kk H locs ls hR hL hq hl (T0.setVm vm') hT X'
  exact ⟨t, st t a1, b1⟩
theorem sw_castN (hc : sg_Cx p s m args c cc nL own g) {idx : Nat} (hdg : decode cc pc = .ok (.checkcast idx, 3))
    (kk : sg_W p l e R s m args below meth c nL g cells slots Q C (pc + 3) lv (.null :: rest)) : sg_W p l e R s m args below meth c nL g cells slots Q C pc lv (.null :: rest) := fun H locs ls hR hL hq hl => lv_castN hc.1 hc.2.1 hdg (kk H locs ls hR hL hq hl)
def sg_AC (own : String) (idx : Nat) : Prop := Cond.methodLink own idx arraycopyName ∈ sg_T ∧ Cond.native arraycopyName ∈ sg_T ∧ Cond.static arraycopyName ∈ sg_T ∧ Cond.initialized "java/lang/System" ∈ sg_T
/-- the first n words of one array of references into another, all of one class -/
theorem sw_copy (hc : sg_Cx p s m args c cc nL own g) {idx a b n0 n1 n ci : Nat} {f h : Nat → Option Nat} {x y z : Int32} {r : vw_C} (hw : sg_AC own idx) (ha : C a = some (sg_qa g n0 f)) (hb' : C b = some (sg_qa g n1 h)) (hx' : x = 0) (hy' : y = 0) (hz' : z = nI n) (h0 : n ≤ n0) (h1 : n ≤ n1) (hn : n ≤ 100000)
    (hel : ∀ i, i < n → ∃ v vs, f i = some v ∧ C v = some (.inr (ci, vs))) (hcl : vwCl[ci]? = some r) (hca : Cond.castable r.1 "java/lang/Object" ∈ sg_N) (hr : 1 ≤ R.frames ∧ (rest.map fun v => v.category).sum + (nativeFrameWords "java/lang/System" "arraycopy" 5 + 11) ≤ R.locals) (hdg : decode cc pc = .ok (.invokestatic idx, 3))
    (kk : sg_W p l e R s m args below meth c nL g cells slots Q (sg_up C b (sg_qa g n1 (va_cpy f h 0 0 n))) (pc + 3) lv rest) : sg_W p l e R s m args below meth c nL g cells slots Q C pc lv (.int z :: .int y :: .ref b :: .int x :: .ref a :: rest) := by
  subst hx'; subst hy'; subst hz'
  intro H locs ls hR hL hq hl
  have hcl0 := nI_clamp (n := n) (by omega)
  have hts := hc.2.2.2.2.1
  obtain ⟨q0, e0⟩ := List.mem_iff_getElem?.mp (sg_ls_mem ha (hR.lt ha))
  obtain ⟨q1, e1⟩ := List.mem_iff_getElem?.mp (sg_ls_mem hb' (hR.lt hb'))
  have hP : va_P g.1 vwCl (sg_ls C H.size) H := fun k q hk => (hR q.1 q.2 (sg_ls_lt (List.mem_of_getElem? hk)).2).1
  have hD : va_D (fun q => g.2.2.1.size ≤ q) (sg_ls C H.size) := by
    refine ⟨fun i j u v hi hj huv => ?_, fun k q hk => (hR q.1 q.2 (sg_ls_lt (List.mem_of_getElem? hk)).2).2⟩
    have hi' : ((sg_ls C H.size).map Prod.fst)[i]? = some u.1 := by rw [List.getElem?_map, hi]; rfl
    have hj' : ((sg_ls C H.size).map Prod.fst)[j]? = some u.1 := by rw [List.getElem?_map, hj, huv]; rfl
    exact (List.getElem?_inj (List.getElem?_eq_some_iff.mp hi').1 sg_ls_nd).mp (hi'.trans hj'.symm)
  have hca' := va_Nw.use (A := args) rfl (hc.2.2.2.2.2.1.2 _ hca)
  obtain ⟨c5, t5, g1, g2, g3⟩ := Cond.castable_spec hca'
  refine va_copyq (own := own) (index := idx) (C := r.1) hc.1 hc.2.1 (hc.2.2.1.trans hl.1.symm) hc.2.2.2.1 (hts _ hw.1) (hts _ hw.2.1) (hts _ hw.2.2.1) (hts _ hw.2.2.2) hc.2.2.2.2.2.1.1 hP hD (H0 := g.2.2.1) ⟨hL.1, fun q h9 _ => hL.2 q h9, hq⟩ q0 q1 2 2 e0 e1 rfl rfl (by decide) (by decide) (nI_pos (by omega)) (by rw [hcl0]; simpa using h0) (by rw [hcl0]; simpa using h1) ?_ ?_ hr.1 hr.2 hdg ?_
  · intro i hi w hw'
    rw [hcl0] at hi
    obtain ⟨v, vs, f1, f2⟩ := hel i hi
    have hz0 : (0 : Int32).toNatClampNeg + i = i := by simp
    rw [hz0, f1] at hw'
    cases hw'
    exact sg_recv hc hR f2 hcl
  · intro comp c0 j1 j2
    cases g1.symm.trans j2
    cases g2.symm.trans j1
    exact g3
  · intro H1 locs1 hP1 hD1 hS1
    have hz0 : (0 : Int32).toNatClampNeg = 0 := rfl
    rw [hcl0, hz0] at hP1
    have hl1 : q1 < (sg_ls C H.size).length := (List.getElem?_eq_some_iff.mp e1).1
    refine kk H1 locs1 ls (fun d u hd => ?_) ⟨hS1.1, fun q h9 => hS1.2.1 q h9 (by omega)⟩ hS1.2.2 hl
    by_cases hdb : d = b
    · subst hdb
      rw [sg_up_s] at hd
      cases hd
      exact ⟨hP1 q1 _ (List.getElem?_set_self hl1), (hR d _ hb').2⟩
    · rw [sg_up_n hdb] at hd
      obtain ⟨k, ek⟩ := List.mem_iff_getElem?.mp (sg_ls_mem hd (hR.lt hd))
      have hk : q1 ≠ k := fun h9 => by
        subst h9
        rw [e1] at ek
        exact hdb (congrArg Prod.fst (Option.some.inj ek)).symm
      exact ⟨hP1 k (d, u) (by rw [List.getElem?_set_ne hk]; exact ek), (hR d u hd).2⟩
end SGM
theorem sg_fresh {C : Nat → Option va_E} {b : Nat} : ∀ {L : va_W}, sg_ov C L b = none → b ∉ L.map Prod.fst ∧ C b = none
  | [], h => ⟨List.not_mem_nil, h⟩
  | (a, e) :: L, h => by
    have hb : b ≠ a := fun q => by subst q; exact absurd (sg_up_s.symm.trans h) (by simp)
    obtain ⟨h1, h2⟩ := sg_fresh (L := L) ((sg_up_n (C := sg_ov C L) (e := e) hb).symm.trans h)
    exact ⟨fun q => (List.mem_cons.mp q).elim hb h1, h2⟩
theorem sg_nf {C : Nat → Option va_E} {a b : Nat} {x : va_E} (h1 : C a = some x) (h2 : C b = none) : a ≠ b := fun q => by rw [q, h2] at h1; cases h1
theorem sg_nd_app : ∀ {N M L : List Nat}, sg_nd (N ++ M) → (∀ n ∈ N, n ∉ L) → sg_nd L → sg_nd (N ++ L)
  | [], _, _, _, _, h3 => h3
  | n :: N, M, L, h1, h2, h3 => ⟨fun q => (List.mem_append.mp q).elim (fun q => h1.1 (List.mem_append_left _ q)) (h2 n List.mem_cons_self), sg_nd_app h1.2 (fun x hx => h2 x (List.mem_cons_of_mem _ hx)) h3⟩
theorem sg_nd_l : ∀ {N M : List Nat}, sg_nd (N ++ M) → sg_nd N
  | [], _, _ => trivial
  | _ :: _, _, h => ⟨fun q => h.1 (List.mem_append_left _ q), sg_nd_l h.2⟩
theorem sw_ldcI {p : Program} {l : Launch} {e : Env} {R : Room} {s : State} {m : MethodId} {args : Array Value} {below : List Frame} {meth : Method} {c : Code} {cells slots : Nat} {Q : State → Prop} {cc : ByteArray} {nL : Nat} {own : String} {g : sg_G} {C : Nat → Option va_E} {pc : Nat} {lv : List (Nat × Value)} {rest : List Value} (hc : sg_Cx p s m args c cc nL own g) {idx : Nat} {v : Int32} (hw : Cond.constant own idx v ∈ sg_T) (hdg : decode cc pc = .ok (.ldc idx, 2))
    (kk : sg_W p l e R s m args below meth c nL g cells slots Q C (pc + 2) lv (.int v :: rest)) : sg_W p l e R s m args below meth c nL g cells slots Q C pc lv rest := fun H locs ls hR hL hq hl => lv_ldc hc.1 hc.2.1 hc.2.2.2.1 (hc.2.2.2.2.1 _ hw) hdg (kk H locs ls hR hL hq hl)
theorem sw_aastO {p : Program} {l : Launch} {e : Env} {R : Room} {s : State} {m : MethodId} {args : Array Value} {below : List Frame} {meth : Method} {c : Code} {cells slots : Nat} {Q : State → Prop} {cc : ByteArray} {nL : Nat} {own : String} {g : sg_G} {C : Nat → Option va_E} {pc : Nat} {lv : List (Nat × Value)} {rest : List Value} {L l' : va_W} (hc : sg_Cx p s m args c cc nL own g) {a n j v ci q0 : Nat} {r : vw_C} {vs : List Value} {f : Nat → Option Nat} {i : Int32} (hN : sg_nd (L.map Prod.fst)) (hq : L[q0]? = some (a, sg_qa g n f)) (hi : i = nI j) (hj : j < n) (hn : n ≤ 100000) (hv : sg_ov C L v = some (.inr (ci, vs))) (hcl : vwCl[ci]? = some r) (hca : Cond.castable r.1 "java/lang/Object" ∈ sg_N) (hl : L.set q0 (a, sg_qa g n (va_up f j (some v))) = l') (hdg : decode cc pc = .ok (.aastore, 1))
    (kk : sg_W p l e R s m args below meth c nL g cells slots Q (sg_ov C l') (pc + 1) lv rest) : sg_W p l e R s m args below meth c nL g cells slots Q (sg_ov C L) pc lv (.ref v :: .int i :: .ref a :: rest) := by
  subst hl
  refine sw_aast hc (sg_ov_at hN hq) hi hj hn hv hcl hca hdg ?_
  rw [sg_ov_set hN hq]
  exact kk
/-- the room of a list's array, by how many it holds -/
def sg_cap (n : Nat) : Nat := if n ≤ 10 then 10 else if n ≤ 15 then 15 else if n ≤ 22 then 22 else if n ≤ 33 then 33 else 49
/-- the first n words of a list -/
def sg_tr (f : Nat → Nat) (n : Nat) : Nat → Option Nat := fun i => if i < n then some (f i) else none
def sg_fu (f : Nat → Nat) (n x : Nat) : Nat → Nat := fun i => if i = n then x else f i
/-- the array behind a list of n -/
def sg_AL (g : sg_G) (C : Nat → Option va_E) (n arr : Nat) (f : Nat → Nat) : Prop := (n = 0 ∧ arr = g.2.2.2 0) ∨ (0 < n ∧ C arr = some (sg_qa g (sg_cap n) (sg_tr f n)))
theorem sg_cap_le (n : Nat) : sg_cap n ≤ 49 := by unfold sg_cap; repeat' split
                                                  all_goals omega
theorem sg_cap_ge {n : Nat} (h : n ≤ 49) : n ≤ sg_cap n := by unfold sg_cap; repeat' split
                                                              all_goals omega
theorem sg_cap_10 (n : Nat) : 10 ≤ sg_cap n := by unfold sg_cap; repeat' split
                                                  all_goals omega
/-- an array that is full grows by half -/
theorem sg_cap_up {n : Nat} (h : n = sg_cap n) (hn : n ≤ 40) : sg_cap (n + 1) = n + n / 2 := by
  unfold sg_cap at h ⊢; split at h
  · rw [h]; rfl
  · split at h
    · rw [h]; rfl
    · split at h
      · rw [h]; rfl
      · split at h
        · rw [h]; rfl
        · omega
theorem sg_cap_st {n : Nat} (h : n < sg_cap n) : sg_cap (n + 1) = sg_cap n := by
  unfold sg_cap at *
  repeat' split
  all_goals (try omega)
  all_goals (split at h <;> omega)
theorem sg_tr_up (f : Nat → Nat) (n x : Nat) : va_up (sg_tr f n) n (some x) = sg_tr (sg_fu f n x) (n + 1) := by
  funext i
  unfold va_up sg_tr sg_fu
  by_cases h : i = n
  · simp [h]
  · by_cases h2 : i < n
    · simp [h, h2, Nat.lt_succ_of_lt h2]
    · simp [h, h2, show ¬ i < n + 1 by omega]
/-- a field of the class that another class declares -/
def sg_FP2 (ci k : Nat) (ty : FieldType) : Prop := ∃ (Cn : String) (T : u_T) (N : Nat), vwCl[ci]? = some (Cn, T, N) ∧ (T k).2.2.2 = false ∧ parseFieldDescriptor (T k).2.2.1 = some ty
def sg_FL1 (own : String) (idx ci k : Nat) : Prop := ∃ (Cn : String) (T : u_T) (N : Nat) (ref : String), vwCl[ci]? = some (Cn, T, N) ∧ k < N ∧ (∀ w ∈ u_ws Cn T N, w ∈ sg_T) ∧
  (ref = (T k).1 ∨ Cond.sameField ref (T k).1 (T k).2.1 (T k).2.2.1 ∈ sg_T) ∧ Cond.fieldLink own idx ref (T k).2.1 (T k).2.2.1 ∈ sg_T
section SGP
variable {p : Program} {l : Launch} {e : Env} {R : Room} {s : State} {m : MethodId} {args : Array Value} {below : List Frame} {meth : Method} {c : Code} {cells slots : Nat} {Q : State → Prop}
variable {cc : ByteArray} {nL : Nat} {own : String} {g : sg_G} {C : Nat → Option va_E} {pc : Nat} {lv lv' : List (Nat × Value)} {rest st st' : List Value} {L l' : va_W} {H : Heap}
theorem sw_put2 (hc : sg_Cx p s m args c cc nL own g) {idx ci k : Nat} {ty : FieldType} (hf : sg_FL own idx ci k) (ht : sg_TY ci) (hp : sg_FP2 ci k ty) {a : Nat} {fs fs' : List Value} (ha : C a = some (.inr (ci, fs))) {v : Value} (hn : narrow ty v = v) (hfit : fits ty v = true) (hlen : k < fs.length) (hfs : fs.set k v = fs') (hdg : decode cc pc = .ok (.putfield idx, 3))
    (kk : sg_W p l e R s m args below meth c nL g cells slots Q (sg_up C a (.inr (ci, fs'))) (pc + 3) lv rest) : sg_W p l e R s m args below meth c nL g cells slots Q C pc lv (v :: .ref a :: rest) := by
  intro H locs ls hR hL hq hl
  subst hfs
  obtain ⟨hx, hb, hml, hown, hts, ⟨hK, hN⟩, hK2⟩ := hc
  obtain ⟨Cn, T, N, ref, h1, hk, hin, h4, h5⟩ := hf
  obtain ⟨Cn2, T2, N2, ty0, h12, hty, hnm⟩ := ht
  cases sg_uniq h1 h12
  obtain ⟨Cn3, T3, N3, h13, hfin, hd⟩ := hp
  cases sg_uniq h1 h13
  have hap := va_apart (own := own) hts hin ty0 hty hnm hK h1
  obtain ⟨r, g1, cell, q1, q2, q3, q4⟩ := (hR a _ ha).1
  cases sg_uniq g1 h1
  obtain ⟨hS, hfc, kC, hkC, hkind⟩ := hK.1 ci _ h1
  obtain ⟨cf, kf, fi, f, hi, hsl⟩ := hS k hk
  have hlay := hts _ (hin _ (u_in_lay hk))
  unfold u_lay at hlay
  rw [if_neg (by rw [hfin]; decide)] at hlay
  have hst := (u_facts hfc hkC (u_lays hts hin hk) hi).1
  have h6 := u_store hfc hkC hkind hlay hi hd hn hfit
  have fin : ∀ H' : Heap, H'[a]? = some (cell.setSlot f.slot v) → H'.size = H.size → (∀ q, q ≠ a → H'[q]? = H[q]?) → W p l e R s m args below meth c H' (locs ++ [⟨a, f.slot⟩]) cells slots Q (F0 m (pc + 3) ls rest) := by
    intro H' e1 e2 e3
    rw [hsl] at e1
    exact kk H' _ ls (hR.put ha ⟨_, h1, t_OB.to (V := updV (vp_V fs) k v) ⟨_, e1, q2, q3, t_set q4 hap hk v⟩ (fun j _ => vp_updV_set hlen v j)⟩ e3) (hL.put (hR a _ ha).2 e2 e3) (sg_locs hq (hR a _ ha).2) hl
  rcases h5 with h5 | ⟨host, h5⟩
  · exact W.putK hx hb (f := f) ⟨hown, hts _ h5, ⟨_, _, _, sg_same hts h4 _ hi⟩, hst⟩ (by rw [q2]; exact h6) q1 q3 (by rw [hsl]; exact k2_hasslot (q4 k hk)) rfl rfl hdg fin
  · exact va_WputK hx hb (f := f) hown (va_Nw.use rfl (hN _ h5)) (sg_same hts h4 _ hi) hst (by rw [q2]; exact h6) q1 q3 (by rw [hsl]; exact k2_hasslot (q4 k hk)) rfl rfl hdg fin
theorem sw_putO2 (hc : sg_Cx p s m args c cc nL own g) {idx ci k q0 a : Nat} {ty : FieldType} {fs fs' : List Value} (hf : sg_FL own idx ci k) (ht : sg_TY ci) (hp : sg_FP2 ci k ty) (hN : sg_nd (L.map Prod.fst)) (hj : L[q0]? = some (a, .inr (ci, fs))) {v : Value} (hn : narrow ty v = v) (hfit : fits ty v = true) (hlen : k < fs.length) (hfs : fs.set k v = fs') (hl : L.set q0 (a, .inr (ci, fs')) = l') (hdg : decode cc pc = .ok (.putfield idx, 3))
    (kk : sg_W p l e R s m args below meth c nL g cells slots Q (sg_ov C l') (pc + 3) lv rest) : sg_W p l e R s m args below meth c nL g cells slots Q (sg_ov C L) pc lv (v :: .ref a :: rest) := by
  subst hl
  refine sw_put2 hc hf ht hp (sg_ov_at hN hj) hn hfit hlen hfs hdg ?_
  rw [sg_ov_set hN hj]
  exact kk
theorem sw_putF1 (hc : sg_Cx p s m args c cc nL own g) {idx ci k : Nat} {ty : FieldType} (hin2 : meth.name = "<init>") (hf : sg_FL1 own idx ci k) (ht : sg_TY ci) (hp : sg_FP ci k true ty) (hw : ∃ T N, vwCl[ci]? = some (own, T, N)) {a : Nat} {fs fs' : List Value} (ha : C a = some (.inr (ci, fs))) {v : Value} (hn : narrow ty v = v) (hfit : fits ty v = true) (hlen : k < fs.length) (hfs : fs.set k v = fs') (hdg : decode cc pc = .ok (.putfield idx, 3))
    (kk : sg_W p l e R s m args below meth c nL g cells slots Q (sg_up C a (.inr (ci, fs'))) (pc + 3) lv rest) : sg_W p l e R s m args below meth c nL g cells slots Q C pc lv (v :: .ref a :: rest) := by
  intro H locs ls hR hL hq hl
  subst hfs
  obtain ⟨hx, hb, hml, hown, hts, ⟨hK, hN⟩, hK2⟩ := hc
  obtain ⟨Cn, T, N, ref, h1, hk, hin, h4, h5⟩ := hf
  obtain ⟨Cn2, T2, N2, ty0, h12, hty, hnm⟩ := ht
  cases sg_uniq h1 h12
  obtain ⟨Cn3, T3, N3, h13, hfin, hd, hdecl⟩ := hp
  cases sg_uniq h1 h13
  obtain ⟨T4, N4, h14⟩ := hw
  have ho : Cn = own := by cases sg_uniq h1 h14; rfl
  have hap := va_apart (own := own) hts hin ty0 hty hnm hK h1
  obtain ⟨r, g1, cell, q1, q2, q3, q4⟩ := (hR a _ ha).1
  cases sg_uniq g1 h1
  obtain ⟨hS, hfc, kC, hkC, hkind⟩ := hK.1 ci _ h1
  obtain ⟨cf, kf, fi, f, hi, hsl⟩ := hS k hk
  have hlay := hts _ (hin _ (u_in_lay hk))
  unfold u_lay at hlay
  rw [if_pos hfin] at hlay
  have hst := (u_facts hfc hkC (u_lays hts hin hk) hi).1
  have hcf : m.cls = cf := by
    obtain ⟨_, _, c', _, _, _, -, -, hf', -, -, -, hown2, -⟩ := Cond.laysFinal_spec hlay
    have e1 : c' = cf := by have := hi.symm.trans hf'; simp at this; exact this.1.symm
    rw [hdecl, ho] at hown2
    rw [← e1]; exact Option.some.inj (hown.symm.trans hown2)
  have h6 := u_fits hfc hkC hkind (Or.inr hlay) hi hd hn hfit
  have fin : ∀ H' : Heap, H'[a]? = some (cell.setSlot f.slot v) → H'.size = H.size → (∀ q, q ≠ a → H'[q]? = H[q]?) → W p l e R s m args below meth c H' (locs ++ [⟨a, f.slot⟩]) cells slots Q (F0 m (pc + 3) ls rest) := by
    intro H' e1 e2 e3
    rw [hsl] at e1
    exact kk H' _ ls (hR.put ha ⟨_, h1, t_OB.to (V := updV (vp_V fs) k v) ⟨_, e1, q2, q3, t_set q4 hap hk v⟩ (fun j _ => vp_updV_set hlen v j)⟩ e3) (hL.put (hR a _ ha).2 e2 e3) (sg_locs hq (hR a _ ha).2) hl
  exact W.putFinK hx hb hown (hts _ h5) (sg_same hts h4 _ hi) hst hcf hin2 (by rw [q2]; exact h6) q1 q3 (by rw [hsl]; exact k2_hasslot (q4 k hk)) rfl rfl hdg fin
theorem sw_putF0 (hc : sg_Cx p s m args c cc nL own g) {idx ci k q0 a : Nat} {ty : FieldType} {fs fs' : List Value} (hin2 : meth.name = "<init>") (hf : sg_FL1 own idx ci k) (ht : sg_TY ci) (hp : sg_FP ci k true ty) (hw : ∃ T N, vwCl[ci]? = some (own, T, N)) (hN : sg_nd (L.map Prod.fst)) (hj : L[q0]? = some (a, .inr (ci, fs))) {v : Value} (hn : narrow ty v = v) (hfit : fits ty v = true) (hlen : k < fs.length) (hfs : fs.set k v = fs') (hl : L.set q0 (a, .inr (ci, fs')) = l') (hdg : decode cc pc = .ok (.putfield idx, 3))
    (kk : sg_W p l e R s m args below meth c nL g cells slots Q (sg_ov C l') (pc + 3) lv rest) : sg_W p l e R s m args below meth c nL g cells slots Q (sg_ov C L) pc lv (v :: .ref a :: rest) := by
  subst hl
  refine sw_putF1 hc hin2 hf ht hp hw (sg_ov_at hN hj) hn hfit hlen hfs hdg ?_
  rw [sg_ov_set hN hj]
  exact kk
end SGP
section SGT
variable {p : Program} {l : Launch} {e : Env} {R : Room} {s : State} {m : MethodId} {args : Array Value} {below : List Frame} {meth : Method} {c : Code} {cells slots mc ms : Nat} {Q : State → Prop}
variable {cc : ByteArray} {nL : Nat} {own : String} {g : sg_G} {C : Nat → Option va_E} {pc : Nat} {lv lv' : List (Nat × Value)} {rest : List Value} {H : Heap} {Post : Option Value → (Nat → Option va_E) → Prop} {X : String → (Nat → Option va_E) → Prop}
/-- a throw of a text, out of a method without a table -/
theorem sw_throw (hc : sg_Cx p s m args c cc nL own g) (hl : l.stackTraces = false) {cls text : String} {ik is ic : Nat} (hA : sg_TH own cls ik ic) (hs : (own, is, text) ∈ sg_strs)
    (d0 : decode cc pc = .ok (.new ik, 3)) (d3 : decode cc (pc + 3) = .ok (.dup, 1)) (d4 : decode cc (pc + 4) = .ok (.ldc is, 2)) (d6 : decode cc (pc + 6) = .ok (.invokespecial ic, 3)) (d9 : decode cc (pc + 9) = .ok (.athrow, 1))
    (ht : ∀ x ∈ c.exceptionTable.toList, False) (hk : meth.locks = false) (hr : 5 < R.frames ∧ (rest.map fun v => v.category).sum + 82 ≤ R.locals ∧ cells + 1 ≤ R.cells ∧ slots + 6 ≤ R.slots) (hX : X cls C) (h1 : cells + 1 ≤ mc) (h2 : slots + 6 ≤ ms) :
    sg_W p l e R s m args below meth c nL g cells slots (sg_End below g Post X args s mc ms) C pc lv rest := by
  intro H locs ls hR hL hq hlv
  obtain ⟨hx, hb, hml, hown, hts, hK1, hK2, hLs⟩ := hc
  obtain ⟨t1, t2, t3, t4, t5⟩ := hA
  obtain ⟨sa, hsa⟩ := hK2.1 _ hs
  have kp : ∀ a, a < g.2.2.1.size → ¬ (g.2.2.1.size ≤ a) → s.heap[a]? = g.2.2.1[a]? := fun a h _ => hLs.2 a h
  intro T hT XX
  have hsz : s.heap.size ≤ H.size := by have := XX.same.2.1; rw [← hT]; exact this
  refine vx_throwS (A := fun q => g.2.2.1.size ≤ q) (names := ["java/lang/RuntimeException", "java/lang/Exception"]) hx hb hl hown t1 (by decide) (hts _ t2) (hts _ t3) hsa (fun w hw => (t4 w hw).elim (hts w) (fun h => ?_)) (fun w hw => ?_) (vx_Zq.kept hK2.2.1 kp) (vx_Zq.kept hK2.2.2.1 kp)
    ⟨hsz, fun q h3 h4 => (hL.2 q (by omega)).trans (hLs.2 q (by omega)).symm, hq⟩ (hlv.1.trans hml.symm) d0 d3 d4 d6 d9 (fun x hx => (ht x hx).elim) hr.1 hr.2.1 hr.2.2.1 hr.2.2.2 hk ?_ hq h1 h2 T hT XX
  · exact va_Nw.use (sg_N_tab (List.mem_filter.mp h).2) (hK1.2 _ h)
  · rcases List.mem_cons.mp hw with rfl | hw
    · show (_ || _) = true
      rw [(List.mem_filter.mp t2).2, Bool.or_true]
    · rcases List.mem_cons.mp hw with rfl | hw
      · show (_ || _) = true
        rw [(List.mem_filter.mp t3).2, Bool.or_true]
      · exact t5 w hw
  · intro t _ hsz2 hkp
    refine ⟨C, hX, fun a x hax => ⟨(hR a x hax).1.kept (hkp a (hR.lt hax)), (hR a x hax).2⟩, Nat.le_trans hL.1 hsz2, fun q hq' => (hkp q (Nat.lt_of_lt_of_le hq' hL.1)).trans (hL.2 q hq')⟩
/-- a throw comes to a row of the method's table -/
theorem sx_catch (hc : sg_Cx p s m args c cc nL own g) {E name : String} (pre : List ExceptionTableEntry) (x : ExceptionTableEntry) (suf : List ExceptionTableEntry) (hsplit : c.exceptionTable.toList = pre ++ x :: suf)
    (hpass : ∀ z ∈ pre, covers z pc = false ∨ (z.catchType ≠ 0 ∧ ∃ nm : String, Cond.classLink own z.catchType nm ∈ sg_T ∧ (E, nm) ∈ sg_ncs)) (hx : covers x pc = true) (h0 : x.catchType ≠ 0) (hlink : Cond.classLink own x.catchType name ∈ sg_T) (hcast : Cond.castable E name ∈ sg_N)
    (kk : ∀ q, sg_W p l e R s m args below meth c nL g cells slots Q C x.handlerPc lv [.ref q]) : sg_WX p l e R s m args below meth c nL g cells slots Q C pc lv E := by
  intro H locs ls st q ce hR hL hq hlv hce hcv hcl
  have hts := hc.2.2.2.2.1
  refine vx_catch (own := own) (name := name) hc.2.2.2.1 pre x suf hsplit (fun z hz => ?_) hx h0 (hts _ hlink) (va_Nw.use rfl (hc.2.2.2.2.2.1.2 _ hcast)) hce hcv hcl (kk q H locs ls hR hL hq hlv)
  rcases hpass z hz with h | ⟨h, nm, h3, h4⟩
  · exact .inl h
  · exact .inr ⟨h, nm, hts _ h3, hc.2.2.2.2.2.2.1.2.2.2.2.2.2.2 _ h4⟩
end SGT
/-- the words of a throw, out of the tables -/
theorem th_in {own cls : String} {ic : Nat} (h : ((vx_atS own ic cls ["java/lang/RuntimeException", "java/lang/Exception"]).all fun w => (goodWord w || sg_isN w) && lw_tbl.contains w) = true) : ∀ w ∈ vx_atS own ic cls ["java/lang/RuntimeException", "java/lang/Exception"], w ∈ sg_T ∨ w ∈ sg_N := by
  intro w hw
  have h1 := List.all_eq_true.mp h w hw
  rw [Bool.and_eq_true, Bool.or_eq_true] at h1
  have h2 : w ∈ lw_tbl := List.contains_iff_mem.mp h1.2
  rcases h1.1 with h3 | h3
  · exact .inl (List.mem_filter.mpr ⟨h2, h3⟩)
  · exact .inr (List.mem_filter.mpr ⟨h2, h3⟩)
theorem th_ot {own cls : String} {ic : Nat} (h : ((vx_atS own ic cls ["java/lang/RuntimeException", "java/lang/Exception"]).all vx_ot) = true) : ∀ w ∈ vx_atS own ic cls ["java/lang/RuntimeException", "java/lang/Exception"], vx_ot w = true := List.all_eq_true.mp h
