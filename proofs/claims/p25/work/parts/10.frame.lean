/-! THE FRAME: one world C for all that the law makes, by addresses; a judgement over plain data; a row an instruction -/
/-- the class numbers, the array classes, the heap at the law's start -/
abbrev sg_G : Type := va_G × (Nat → ClassId) × Heap × (Nat → Nat)
def sg_tys (cy : Nat → ClassId) : List (ClassId × FieldType) := [(cy 0, .int), (cy 1, .boolean), (cy 2, .object "java/lang/Object")]
def sg_Rp (g : sg_G) (C : Nat → Option va_E) (H : Heap) : Prop := ∀ a e, C a = some e → va_at g.1 vwCl (a, e) H ∧ g.2.2.1.size ≤ a
def sg_Lo (g : sg_G) (H : Heap) : Prop := g.2.2.1.size ≤ H.size ∧ ∀ q, q < g.2.2.1.size → H[q]? = g.2.2.1[q]?
def sg_up (C : Nat → Option va_E) (a : Nat) (e : va_E) : Nat → Option va_E := fun x => if x = a then some e else C x
abbrev sg_ia (g : sg_G) (n : Nat) (f : Nat → Int32) : va_E := .inl (g.2.1 0, n, .inl f)
abbrev sg_za (g : sg_G) (n : Nat) (f : Nat → Int32) : va_E := .inl (g.2.1 1, n, .inl f)
abbrev sg_qa (g : sg_G) (n : Nat) (f : Nat → Option Nat) : va_E := .inl (g.2.1 2, n, .inr (.inr (.inr (.inr f))))
abbrev sg_la (g : sg_G) (n : Nat) (f : Nat → Int64) : va_E := .inl (g.2.1 3, n, .inr (.inl f))
/-- the words that go along with a call by themselves -/
def sg_T : List Cond := lw_tbl.filter goodWord
/-- those that don't, but are kept -/
def sg_isN (w : Cond) : Bool := match w with
  | .fieldLinkNest _ _ _ _ _ _ => true
  | .methodLinkNest _ _ _ _ => true
  | .declares _ => true
  | .castable _ _ => true
  | _ => false
def sg_N : List Cond := lw_tbl.filter sg_isN
theorem sg_mem {i : Nat} {w : Cond} (h : lw_tbl[i]? = some w) (hg : goodWord w = true) : w ∈ sg_T := List.mem_filter.mpr ⟨List.mem_of_getElem? h, hg⟩
theorem sg_memN {i : Nat} {w : Cond} (h : lw_tbl[i]? = some w) (hg : sg_isN w = true) : w ∈ sg_N := List.mem_filter.mpr ⟨List.mem_of_getElem? h, hg⟩
theorem sg_N_warm {w : Cond} (hw : sg_isN w = true) {s U : State} (hW : s.WarmedH U.vm) (h : va_Nw w s) : va_Nw w U := by
  cases w <;> first | exact va_Nw.warmF hW h | exact va_Nw.warmM hW h | exact va_Nw.warmD hW h | exact va_Nw.warmC hW h | (simp [sg_isN] at hw; done)
theorem sg_N_tab {w : Cond} (hw : sg_isN w = true) : w.onTables = true := by
  cases w <;> first | rfl | (simp [sg_isN] at hw; done)
/-- what a state's tables say, beside the words of sg_T; it goes along with every call -/
def sg_KS1 (g : sg_G) (U : State) : Prop := va_K g.1 vwCl (sg_tys g.2.1) U ∧ (∀ w ∈ sg_N, va_Nw w U)
/-- the texts of the class's throws, the statics of the JDK that are read, by the heap at the law's start -/
def sg_strs : List (String × Nat × String) := [("SplitGate", 52, "no more levels"), ("SplitGate", 154, "no such level"), ("SplitGate", 74, "no such column"), ("SplitGate", 151, "out of range"), ("SplitGate", 85, "there is a replay for the level"), ("SplitGate", 91, "no more replays"), ("SplitGate", 160, "no such replay"), ("SplitGate", 110, "the replay takes no such piece"), ("SplitGate", 137, "no such tick"), ("SplitGate", 166, "no more categories"), ("SplitGate", 220, "no such category"), ("SplitGate", 178, "no more rules"), ("SplitGate", 189, "no more days"), ("SplitGate", 224, "no such runner"), ("SplitGate", 196, "replay and category are for different levels"), ("SplitGate", 202, "not home, or no more runs"), ("SplitGate", 222, "no such run"), ("SplitGate", 261, "the board has not so many runs"), ("SplitGate", 280, "no such offer is possible"), ("SplitGate", 287, "no such offer"), ("SplitGate", 291, "the offer is not open")]
/-- no one of the three kinds that are thrown is another -/
def sg_ncs : List (String × String) := [("java/lang/IllegalArgumentException", "java/lang/IllegalStateException"), ("java/lang/IllegalArgumentException", "java/lang/IndexOutOfBoundsException"), ("java/lang/IllegalStateException", "java/lang/IllegalArgumentException"), ("java/lang/IllegalStateException", "java/lang/IndexOutOfBoundsException"), ("java/lang/IndexOutOfBoundsException", "java/lang/IllegalArgumentException"), ("java/lang/IndexOutOfBoundsException", "java/lang/IllegalStateException")]
def sg_KS2 (g : sg_G) (U : State) : Prop := (∀ q ∈ sg_strs, ∃ a, vk_R q.1 q.2.1 q.2.2 a U) ∧
  vx_Zq Bundle.tN "UNASSIGNED_STACK" Bundle.steD (fun q => g.2.2.1.size ≤ q) U g.2.2.1 ∧ vx_Zq Bundle.tN "SUPPRESSED_SENTINEL" Bundle.listD (fun q => g.2.2.1.size ≤ q) U g.2.2.1 ∧
  va_Z "java/util/ArrayList" "DEFAULTCAPACITY_EMPTY_ELEMENTDATA" "[Ljava/lang/Object;" (.ref (g.2.2.2 0)) (fun q => g.2.2.1.size ≤ q) U g.2.2.1 ∧
  va_T (.object "java/lang/Object") (g.2.2.2 0) 0 (fun _ => .null) (fun q => g.2.2.1.size ≤ q) U g.2.2.1 ∧ va_Mi "[Ljava/lang/Object;" (g.2.2.2 1) U ∧ va_AO "java/lang/Object" U ∧ (∀ q ∈ sg_ncs, va_Nc q.1 q.2 U)
theorem sg_KS2.mv {g : sg_G} {s U : State} (hA : s.vm.Alike U.vm) (hs : ∀ own k tx a, vk_R own k tx a s → vk_R own k tx a U) (h : sg_KS2 g s) : sg_KS2 g U :=
  ⟨fun q hq => by obtain ⟨a, ha⟩ := h.1 q hq; exact ⟨a, hs _ _ _ _ ha⟩, vx_Zq.moved hA h.2.1, vx_Zq.moved hA h.2.2.1, va_Z.moved hA h.2.2.2.1, va_T.moved hA h.2.2.2.2.1, va_Mi.moved hA h.2.2.2.2.2.1, va_AO.moved hA h.2.2.2.2.2.2.1, fun q hq => va_Nc.moved hA (h.2.2.2.2.2.2.2 q hq)⟩
theorem sg_KS1.warm {g : sg_G} {s U : State} (hW : s.WarmedH U.vm) (h : sg_KS1 g s) : sg_KS1 g U :=
  ⟨va_K.moved hW.alike h.1, fun w hw => sg_N_warm (List.mem_filter.mp hw).2 hW (h.2 w hw)⟩
theorem sg_KS1.same {g : sg_G} {s U : State} (hv : s.vm = U.vm) (h : sg_KS1 g s) : sg_KS1 g U :=
  ⟨va_K.moved (by rw [← hv]; exact Vm.Alike.refl _) h.1, fun w hw => va_Nw.same (sg_N_tab (List.mem_filter.mp hw).2) hv (h.2 w hw)⟩
def sg_KS (g : sg_G) (U : State) : Prop := sg_KS1 g U ∧ sg_KS2 g U
theorem sg_KS.warm {g : sg_G} {s U : State} (hW : s.WarmedH U.vm) (h : sg_KS g s) : sg_KS g U := ⟨sg_KS1.warm hW h.1, sg_KS2.mv hW.alike (fun _ _ _ _ z => vk_R.warm hW z) h.2⟩
theorem sg_KS.same {g : sg_G} {s U : State} (hv : s.vm = U.vm) (h : sg_KS g s) : sg_KS g U := ⟨sg_KS1.same hv h.1, sg_KS2.mv (by rw [← hv]; exact Vm.Alike.refl _) (fun _ _ _ _ z => vk_R.same hv.symm z) h.2⟩
/-- the fixed things of a method's walk -/
def sg_Cx (p : Program) (s : State) (m : MethodId) (args : Array Value) (c : Code) (cc : ByteArray) (nL : Nat) (own : String) (g : sg_G) : Prop :=
  p.tables.exec = Jvm.exec ∧ c.code = cc ∧ c.maxLocals = nL ∧ s.vm.findClass own = some m.cls ∧ (∀ w ∈ sg_T, w.before args s = true) ∧ sg_KS1 g s ∧ sg_KS2 g s ∧ sg_Lo g s.heap
def sg_W (p : Program) (l : Launch) (e : Env) (R : Room) (s : State) (m : MethodId) (args : Array Value) (below : List Frame) (meth : Method) (c : Code) (nL : Nat) (g : sg_G) (cells slots : Nat) (Q : State → Prop) (C : Nat → Option va_E) (pc : Nat) (lv : List (Nat × Value)) (st : List Value) : Prop :=
  ∀ (H : Heap) (locs : List Loc) (ls : Array Slot), sg_Rp g C H → sg_Lo g H → (∀ q ∈ locs, g.2.2.1.size ≤ q.base) → lv_has ls nL lv → W p l e R s m args below meth c H locs cells slots Q (F0 m pc ls st)
section SGR
variable {p : Program} {l : Launch} {e : Env} {R : Room} {s : State} {m : MethodId} {args : Array Value} {below : List Frame} {meth : Method} {c : Code} {cells slots : Nat} {Q : State → Prop}
variable {cc : ByteArray} {nL : Nat} {own : String} {g : sg_G} {C : Nat → Option va_E} {pc : Nat} {lv lv' : List (Nat × Value)} {rest : List Value}
theorem sw_iconst (hc : sg_Cx p s m args c cc nL own g) {n : Int} {v : Int32} (hdg : decode cc pc = .ok (.iconst n, 1)) (hv : Int32.ofInt n = v) (zk : sg_W p l e R s m args below meth c nL g cells slots Q C (pc + 1) lv (.int v :: rest)) : sg_W p l e R s m args below meth c nL g cells slots Q C pc lv (rest) := fun H locs ls hR hL hq hlv => lv_iconst hc.1 hc.2.1 hdg hv (zk H locs ls hR hL hq hlv)
theorem sw_bipush (hc : sg_Cx p s m args c cc nL own g) {n : Int} {v : Int32} (hdg : decode cc pc = .ok (.bipush n, 2)) (hv : (Int8.ofInt n).toInt32 = v) (zk : sg_W p l e R s m args below meth c nL g cells slots Q C (pc + 2) lv (.int v :: rest)) : sg_W p l e R s m args below meth c nL g cells slots Q C pc lv (rest) := fun H locs ls hR hL hq hlv => lv_bipush hc.1 hc.2.1 hdg hv (zk H locs ls hR hL hq hlv)
theorem sw_sipush (hc : sg_Cx p s m args c cc nL own g) {n : Int} {v : Int32} (hdg : decode cc pc = .ok (.sipush n, 3)) (hv : (Int16.ofInt n).toInt32 = v) (zk : sg_W p l e R s m args below meth c nL g cells slots Q C (pc + 3) lv (.int v :: rest)) : sg_W p l e R s m args below meth c nL g cells slots Q C pc lv (rest) := fun H locs ls hR hL hq hlv => lv_sipush hc.1 hc.2.1 hdg hv (zk H locs ls hR hL hq hlv)
theorem sw_iload_n (hc : sg_Cx p s m args c cc nL own g) {k : Fin 4} {i : Nat} {x : Int32} (hdg : decode cc pc = .ok (.iload_n k, 1)) (hi : (k : Nat) = i) (kx : Nat) (hl : lv[kx]? = some (i, (.int x))) (zk : sg_W p l e R s m args below meth c nL g cells slots Q C (pc + 1) lv (.int x :: rest)) : sg_W p l e R s m args below meth c nL g cells slots Q C pc lv (rest) := fun H locs ls hR hL hq hlv => lv_iload_n hc.1 hc.2.1 hdg hi (lv_at hlv kx hl) (zk H locs ls hR hL hq hlv)
theorem sw_iload (hc : sg_Cx p s m args c cc nL own g) {i : Nat} {x : Int32} (hdg : decode cc pc = .ok (.iload i, 2)) (kx : Nat) (hl : lv[kx]? = some (i, (.int x))) (zk : sg_W p l e R s m args below meth c nL g cells slots Q C (pc + 2) lv (.int x :: rest)) : sg_W p l e R s m args below meth c nL g cells slots Q C pc lv (rest) := fun H locs ls hR hL hq hlv => lv_iload hc.1 hc.2.1 hdg (lv_at hlv kx hl) (zk H locs ls hR hL hq hlv)
theorem sw_aload_n (hc : sg_Cx p s m args c cc nL own g) {k : Fin 4} {i : Nat} {x : Nat} (hdg : decode cc pc = .ok (.aload_n k, 1)) (hi : (k : Nat) = i) (kx : Nat) (hl : lv[kx]? = some (i, (.ref x))) (zk : sg_W p l e R s m args below meth c nL g cells slots Q C (pc + 1) lv (.ref x :: rest)) : sg_W p l e R s m args below meth c nL g cells slots Q C pc lv (rest) := fun H locs ls hR hL hq hlv => lv_aload_n hc.1 hc.2.1 hdg hi (lv_at hlv kx hl) (zk H locs ls hR hL hq hlv)
theorem sw_aload (hc : sg_Cx p s m args c cc nL own g) {i : Nat} {x : Nat} (hdg : decode cc pc = .ok (.aload i, 2)) (kx : Nat) (hl : lv[kx]? = some (i, (.ref x))) (zk : sg_W p l e R s m args below meth c nL g cells slots Q C (pc + 2) lv (.ref x :: rest)) : sg_W p l e R s m args below meth c nL g cells slots Q C pc lv (rest) := fun H locs ls hR hL hq hlv => lv_aload hc.1 hc.2.1 hdg (lv_at hlv kx hl) (zk H locs ls hR hL hq hlv)
theorem sw_istore_n (hc : sg_Cx p s m args c cc nL own g) {k : Fin 4} {i : Nat} {x : Int32} (hdg : decode cc pc = .ok (.istore_n k, 1)) (hi : (k : Nat) = i) (hn : i < nL) (hl : (i, Value.int x) :: lv.filter (fun q => !(q.1 == i) && !(q.1 + 1 == i && q.2.category == 2)) = lv') (zkk : sg_W p l e R s m args below meth c nL g cells slots Q C (pc + 1) lv' rest) : sg_W p l e R s m args below meth c nL g cells slots Q C pc lv (.int x :: rest) := fun H locs ls hR hL hq hlv => lv_istore_n hc.1 hc.2.1 hdg hi hlv hn hl (fun ls' hlv' => zkk H locs ls' hR hL hq hlv')
theorem sw_istore (hc : sg_Cx p s m args c cc nL own g) {i : Nat} {x : Int32} (hdg : decode cc pc = .ok (.istore i, 2)) (hn : i < nL) (hl : (i, Value.int x) :: lv.filter (fun q => !(q.1 == i) && !(q.1 + 1 == i && q.2.category == 2)) = lv') (zkk : sg_W p l e R s m args below meth c nL g cells slots Q C (pc + 2) lv' rest) : sg_W p l e R s m args below meth c nL g cells slots Q C pc lv (.int x :: rest) := fun H locs ls hR hL hq hlv => lv_istore hc.1 hc.2.1 hdg hlv hn hl (fun ls' hlv' => zkk H locs ls' hR hL hq hlv')
theorem sw_astore_n (hc : sg_Cx p s m args c cc nL own g) {k : Fin 4} {i : Nat} {x : Nat} (hdg : decode cc pc = .ok (.astore_n k, 1)) (hi : (k : Nat) = i) (hn : i < nL) (hl : (i, Value.ref x) :: lv.filter (fun q => !(q.1 == i) && !(q.1 + 1 == i && q.2.category == 2)) = lv') (zkk : sg_W p l e R s m args below meth c nL g cells slots Q C (pc + 1) lv' rest) : sg_W p l e R s m args below meth c nL g cells slots Q C pc lv (.ref x :: rest) := fun H locs ls hR hL hq hlv => lv_astore_n hc.1 hc.2.1 hdg hi hlv hn hl (fun ls' hlv' => zkk H locs ls' hR hL hq hlv')
theorem sw_astore (hc : sg_Cx p s m args c cc nL own g) {i : Nat} {x : Nat} (hdg : decode cc pc = .ok (.astore i, 2)) (hn : i < nL) (hl : (i, Value.ref x) :: lv.filter (fun q => !(q.1 == i) && !(q.1 + 1 == i && q.2.category == 2)) = lv') (zkk : sg_W p l e R s m args below meth c nL g cells slots Q C (pc + 2) lv' rest) : sg_W p l e R s m args below meth c nL g cells slots Q C pc lv (.ref x :: rest) := fun H locs ls hR hL hq hlv => lv_astore hc.1 hc.2.1 hdg hlv hn hl (fun ls' hlv' => zkk H locs ls' hR hL hq hlv')
theorem sw_iinc (hc : sg_Cx p s m args c cc nL own g) {i k : Nat} {n : Int} {x v : Int32} (hdg : decode cc pc = .ok (.iinc i n, 3)) (hk : lv[k]? = some (i, .int x)) (hv : x + Int32.ofInt n = v) (hn : i < nL) (hl : (i, Value.int v) :: lv.filter (fun q => !(q.1 == i) && !(q.1 + 1 == i && q.2.category == 2)) = lv') (zkk : sg_W p l e R s m args below meth c nL g cells slots Q C (pc + 3) lv' rest) : sg_W p l e R s m args below meth c nL g cells slots Q C pc lv rest := fun H locs ls hR hL hq hlv => lv_iinc hc.1 hc.2.1 hdg hlv hk hv hn hl (fun ls' hlv' => zkk H locs ls' hR hL hq hlv')
theorem sw_iadd (hc : sg_Cx p s m args c cc nL own g) {x y : Int32} (hdg : decode cc pc = .ok (.iadd, 1)) (zk : sg_W p l e R s m args below meth c nL g cells slots Q C (pc + 1) lv (.int (x + y) :: rest)) : sg_W p l e R s m args below meth c nL g cells slots Q C pc lv (.int y :: .int x :: rest) := fun H locs ls hR hL hq hlv => lv_iadd hc.1 hc.2.1 hdg (zk H locs ls hR hL hq hlv)
theorem sw_isub (hc : sg_Cx p s m args c cc nL own g) {x y : Int32} (hdg : decode cc pc = .ok (.isub, 1)) (zk : sg_W p l e R s m args below meth c nL g cells slots Q C (pc + 1) lv (.int (x - y) :: rest)) : sg_W p l e R s m args below meth c nL g cells slots Q C pc lv (.int y :: .int x :: rest) := fun H locs ls hR hL hq hlv => lv_isub hc.1 hc.2.1 hdg (zk H locs ls hR hL hq hlv)
theorem sw_imul (hc : sg_Cx p s m args c cc nL own g) {x y : Int32} (hdg : decode cc pc = .ok (.imul, 1)) (zk : sg_W p l e R s m args below meth c nL g cells slots Q C (pc + 1) lv (.int (x * y) :: rest)) : sg_W p l e R s m args below meth c nL g cells slots Q C pc lv (.int y :: .int x :: rest) := fun H locs ls hR hL hq hlv => lv_imul hc.1 hc.2.1 hdg (zk H locs ls hR hL hq hlv)
theorem sw_idiv (hc : sg_Cx p s m args c cc nL own g) {x y : Int32} (hdg : decode cc pc = .ok (.idiv, 1)) (hne : ¬ y = 0) (zk : sg_W p l e R s m args below meth c nL g cells slots Q C (pc + 1) lv (.int (x / y) :: rest)) : sg_W p l e R s m args below meth c nL g cells slots Q C pc lv (.int y :: .int x :: rest) := fun H locs ls hR hL hq hlv => lv_idiv hc.1 hc.2.1 hdg hne (zk H locs ls hR hL hq hlv)
theorem sw_iand (hc : sg_Cx p s m args c cc nL own g) {x y : Int32} (hdg : decode cc pc = .ok (.iand, 1)) (zk : sg_W p l e R s m args below meth c nL g cells slots Q C (pc + 1) lv (.int (x &&& y) :: rest)) : sg_W p l e R s m args below meth c nL g cells slots Q C pc lv (.int y :: .int x :: rest) := fun H locs ls hR hL hq hlv => lv_iand hc.1 hc.2.1 hdg (zk H locs ls hR hL hq hlv)
theorem sw_ior (hc : sg_Cx p s m args c cc nL own g) {x y : Int32} (hdg : decode cc pc = .ok (.ior, 1)) (zk : sg_W p l e R s m args below meth c nL g cells slots Q C (pc + 1) lv (.int (x ||| y) :: rest)) : sg_W p l e R s m args below meth c nL g cells slots Q C pc lv (.int y :: .int x :: rest) := fun H locs ls hR hL hq hlv => lv_ior hc.1 hc.2.1 hdg (zk H locs ls hR hL hq hlv)
theorem sw_ixor (hc : sg_Cx p s m args c cc nL own g) {x y : Int32} (hdg : decode cc pc = .ok (.ixor, 1)) (zk : sg_W p l e R s m args below meth c nL g cells slots Q C (pc + 1) lv (.int (x ^^^ y) :: rest)) : sg_W p l e R s m args below meth c nL g cells slots Q C pc lv (.int y :: .int x :: rest) := fun H locs ls hR hL hq hlv => lv_ixor hc.1 hc.2.1 hdg (zk H locs ls hR hL hq hlv)
theorem sw_ishl (hc : sg_Cx p s m args c cc nL own g) {x y : Int32} (hdg : decode cc pc = .ok (.ishl, 1)) (zk : sg_W p l e R s m args below meth c nL g cells slots Q C (pc + 1) lv (.int (x <<< (y &&& 31)) :: rest)) : sg_W p l e R s m args below meth c nL g cells slots Q C pc lv (.int y :: .int x :: rest) := fun H locs ls hR hL hq hlv => lv_ishl hc.1 hc.2.1 hdg (zk H locs ls hR hL hq hlv)
theorem sw_ishr (hc : sg_Cx p s m args c cc nL own g) {x y : Int32} (hdg : decode cc pc = .ok (.ishr, 1)) (zk : sg_W p l e R s m args below meth c nL g cells slots Q C (pc + 1) lv (.int (x >>> (y &&& 31)) :: rest)) : sg_W p l e R s m args below meth c nL g cells slots Q C pc lv (.int y :: .int x :: rest) := fun H locs ls hR hL hq hlv => lv_ishr hc.1 hc.2.1 hdg (zk H locs ls hR hL hq hlv)
theorem sw_dup (hc : sg_Cx p s m args c cc nL own g) {va : Value} (hdg : decode cc pc = .ok (.dup, 1)) (hva : va.category = 1) (zk : sg_W p l e R s m args below meth c nL g cells slots Q C (pc + 1) lv (va :: va :: rest)) : sg_W p l e R s m args below meth c nL g cells slots Q C pc lv (va :: rest) := fun H locs ls hR hL hq hlv => lv_dup hc.1 hc.2.1 hdg hva (zk H locs ls hR hL hq hlv)
theorem sw_dup_x1 (hc : sg_Cx p s m args c cc nL own g) {va vb : Value} (hdg : decode cc pc = .ok (.dup_x1, 1)) (hva : va.category = 1) (hvb : vb.category = 1) (zk : sg_W p l e R s m args below meth c nL g cells slots Q C (pc + 1) lv (va :: vb :: va :: rest)) : sg_W p l e R s m args below meth c nL g cells slots Q C pc lv (va :: vb :: rest) := fun H locs ls hR hL hq hlv => lv_dup_x1 hc.1 hc.2.1 hdg hva hvb (zk H locs ls hR hL hq hlv)
theorem sw_dup2_11 (hc : sg_Cx p s m args c cc nL own g) {va vb : Value} (hdg : decode cc pc = .ok (.dup2, 1)) (hva : va.category = 1) (hvb : vb.category = 1) (zk : sg_W p l e R s m args below meth c nL g cells slots Q C (pc + 1) lv (va :: vb :: va :: vb :: rest)) : sg_W p l e R s m args below meth c nL g cells slots Q C pc lv (va :: vb :: rest) := fun H locs ls hR hL hq hlv => lv_dup2_11 hc.1 hc.2.1 hdg hva hvb (zk H locs ls hR hL hq hlv)
theorem sw_pop (hc : sg_Cx p s m args c cc nL own g) {va : Value} (hdg : decode cc pc = .ok (.pop, 1)) (hva : va.category = 1) (zk : sg_W p l e R s m args below meth c nL g cells slots Q C (pc + 1) lv (rest)) : sg_W p l e R s m args below meth c nL g cells slots Q C pc lv (va :: rest) := fun H locs ls hR hL hq hlv => lv_pop hc.1 hc.2.1 hdg hva (zk H locs ls hR hL hq hlv)
theorem sw_goto (hc : sg_Cx p s m args c cc nL own g) {off : Int} {tgt : Nat} (hdg : decode cc pc = .ok (.goto off, 3)) (ht : (pc : Int) + off = (tgt : Int)) (zk : sg_W p l e R s m args below meth c nL g cells slots Q C tgt lv rest) : sg_W p l e R s m args below meth c nL g cells slots Q C pc lv rest := fun H locs ls hR hL hq hlv => lv_goto hc.1 hc.2.1 hdg ht (zk H locs ls hR hL hq hlv)
theorem sw_i2l (hc : sg_Cx p s m args c cc nL own g) {x : Int32} {v : Int64} (hdg : decode cc pc = .ok (.i2l, 1)) (hv : x.toInt64 = v) (zk : sg_W p l e R s m args below meth c nL g cells slots Q C (pc + 1) lv (.long v :: rest)) : sg_W p l e R s m args below meth c nL g cells slots Q C pc lv (.int x :: rest) := fun H locs ls hR hL hq hlv => lv_i2l hc.1 hc.2.1 hdg hv (zk H locs ls hR hL hq hlv)
theorem sw_lconst (hc : sg_Cx p s m args c cc nL own g) {n : Fin 2} {v : Int64} (hdg : decode cc pc = .ok (.lconst n, 1)) (hv : Int64.ofNat (n : Nat) = v) (zk : sg_W p l e R s m args below meth c nL g cells slots Q C (pc + 1) lv (.long v :: rest)) : sg_W p l e R s m args below meth c nL g cells slots Q C pc lv (rest) := fun H locs ls hR hL hq hlv => lv_lconst hc.1 hc.2.1 hdg hv (zk H locs ls hR hL hq hlv)
theorem sw_if_eq (hc : sg_Cx p s m args c cc nL own g) {x : Int32} {off : Int} {tgt : Nat} (hdg : decode cc pc = .ok (.ifCond .eq off, 3)) (ht : (pc : Int) + off = (tgt : Int)) (zkt : x = 0 → sg_W p l e R s m args below meth c nL g cells slots Q C tgt lv rest) (zkf : ¬ x = 0 → sg_W p l e R s m args below meth c nL g cells slots Q C (pc + 3) lv rest) : sg_W p l e R s m args below meth c nL g cells slots Q C pc lv (.int x :: rest) := fun H locs ls hR hL hq hlv => lv_if_eq hc.1 hc.2.1 hdg ht (fun z => zkt z H locs ls hR hL hq hlv) (fun z => zkf z H locs ls hR hL hq hlv)
theorem sw_if_ne (hc : sg_Cx p s m args c cc nL own g) {x : Int32} {off : Int} {tgt : Nat} (hdg : decode cc pc = .ok (.ifCond .ne off, 3)) (ht : (pc : Int) + off = (tgt : Int)) (zkt : ¬ x = 0 → sg_W p l e R s m args below meth c nL g cells slots Q C tgt lv rest) (zkf : x = 0 → sg_W p l e R s m args below meth c nL g cells slots Q C (pc + 3) lv rest) : sg_W p l e R s m args below meth c nL g cells slots Q C pc lv (.int x :: rest) := fun H locs ls hR hL hq hlv => lv_if_ne hc.1 hc.2.1 hdg ht (fun z => zkt z H locs ls hR hL hq hlv) (fun z => zkf z H locs ls hR hL hq hlv)
theorem sw_if_lt (hc : sg_Cx p s m args c cc nL own g) {x : Int32} {off : Int} {tgt : Nat} (hdg : decode cc pc = .ok (.ifCond .lt off, 3)) (ht : (pc : Int) + off = (tgt : Int)) (zkt : x < 0 → sg_W p l e R s m args below meth c nL g cells slots Q C tgt lv rest) (zkf : ¬ x < 0 → sg_W p l e R s m args below meth c nL g cells slots Q C (pc + 3) lv rest) : sg_W p l e R s m args below meth c nL g cells slots Q C pc lv (.int x :: rest) := fun H locs ls hR hL hq hlv => lv_if_lt hc.1 hc.2.1 hdg ht (fun z => zkt z H locs ls hR hL hq hlv) (fun z => zkf z H locs ls hR hL hq hlv)
theorem sw_if_ge (hc : sg_Cx p s m args c cc nL own g) {x : Int32} {off : Int} {tgt : Nat} (hdg : decode cc pc = .ok (.ifCond .ge off, 3)) (ht : (pc : Int) + off = (tgt : Int)) (zkt : 0 ≤ x → sg_W p l e R s m args below meth c nL g cells slots Q C tgt lv rest) (zkf : ¬ 0 ≤ x → sg_W p l e R s m args below meth c nL g cells slots Q C (pc + 3) lv rest) : sg_W p l e R s m args below meth c nL g cells slots Q C pc lv (.int x :: rest) := fun H locs ls hR hL hq hlv => lv_if_ge hc.1 hc.2.1 hdg ht (fun z => zkt z H locs ls hR hL hq hlv) (fun z => zkf z H locs ls hR hL hq hlv)
theorem sw_if_gt (hc : sg_Cx p s m args c cc nL own g) {x : Int32} {off : Int} {tgt : Nat} (hdg : decode cc pc = .ok (.ifCond .gt off, 3)) (ht : (pc : Int) + off = (tgt : Int)) (zkt : 0 < x → sg_W p l e R s m args below meth c nL g cells slots Q C tgt lv rest) (zkf : ¬ 0 < x → sg_W p l e R s m args below meth c nL g cells slots Q C (pc + 3) lv rest) : sg_W p l e R s m args below meth c nL g cells slots Q C pc lv (.int x :: rest) := fun H locs ls hR hL hq hlv => lv_if_gt hc.1 hc.2.1 hdg ht (fun z => zkt z H locs ls hR hL hq hlv) (fun z => zkf z H locs ls hR hL hq hlv)
theorem sw_if_le (hc : sg_Cx p s m args c cc nL own g) {x : Int32} {off : Int} {tgt : Nat} (hdg : decode cc pc = .ok (.ifCond .le off, 3)) (ht : (pc : Int) + off = (tgt : Int)) (zkt : x ≤ 0 → sg_W p l e R s m args below meth c nL g cells slots Q C tgt lv rest) (zkf : ¬ x ≤ 0 → sg_W p l e R s m args below meth c nL g cells slots Q C (pc + 3) lv rest) : sg_W p l e R s m args below meth c nL g cells slots Q C pc lv (.int x :: rest) := fun H locs ls hR hL hq hlv => lv_if_le hc.1 hc.2.1 hdg ht (fun z => zkt z H locs ls hR hL hq hlv) (fun z => zkf z H locs ls hR hL hq hlv)
theorem sw_icmp_eq (hc : sg_Cx p s m args c cc nL own g) {x y : Int32} {off : Int} {tgt : Nat} (hdg : decode cc pc = .ok (.if_icmp .eq off, 3)) (ht : (pc : Int) + off = (tgt : Int)) (zkt : x = y → sg_W p l e R s m args below meth c nL g cells slots Q C tgt lv rest) (zkf : ¬ x = y → sg_W p l e R s m args below meth c nL g cells slots Q C (pc + 3) lv rest) : sg_W p l e R s m args below meth c nL g cells slots Q C pc lv (.int y :: .int x :: rest) := fun H locs ls hR hL hq hlv => lv_icmp_eq hc.1 hc.2.1 hdg ht (fun z => zkt z H locs ls hR hL hq hlv) (fun z => zkf z H locs ls hR hL hq hlv)
theorem sw_icmp_ne (hc : sg_Cx p s m args c cc nL own g) {x y : Int32} {off : Int} {tgt : Nat} (hdg : decode cc pc = .ok (.if_icmp .ne off, 3)) (ht : (pc : Int) + off = (tgt : Int)) (zkt : ¬ x = y → sg_W p l e R s m args below meth c nL g cells slots Q C tgt lv rest) (zkf : x = y → sg_W p l e R s m args below meth c nL g cells slots Q C (pc + 3) lv rest) : sg_W p l e R s m args below meth c nL g cells slots Q C pc lv (.int y :: .int x :: rest) := fun H locs ls hR hL hq hlv => lv_icmp_ne hc.1 hc.2.1 hdg ht (fun z => zkt z H locs ls hR hL hq hlv) (fun z => zkf z H locs ls hR hL hq hlv)
theorem sw_icmp_lt (hc : sg_Cx p s m args c cc nL own g) {x y : Int32} {off : Int} {tgt : Nat} (hdg : decode cc pc = .ok (.if_icmp .lt off, 3)) (ht : (pc : Int) + off = (tgt : Int)) (zkt : x < y → sg_W p l e R s m args below meth c nL g cells slots Q C tgt lv rest) (zkf : ¬ x < y → sg_W p l e R s m args below meth c nL g cells slots Q C (pc + 3) lv rest) : sg_W p l e R s m args below meth c nL g cells slots Q C pc lv (.int y :: .int x :: rest) := fun H locs ls hR hL hq hlv => lv_icmp_lt hc.1 hc.2.1 hdg ht (fun z => zkt z H locs ls hR hL hq hlv) (fun z => zkf z H locs ls hR hL hq hlv)
theorem sw_icmp_ge (hc : sg_Cx p s m args c cc nL own g) {x y : Int32} {off : Int} {tgt : Nat} (hdg : decode cc pc = .ok (.if_icmp .ge off, 3)) (ht : (pc : Int) + off = (tgt : Int)) (zkt : y ≤ x → sg_W p l e R s m args below meth c nL g cells slots Q C tgt lv rest) (zkf : ¬ y ≤ x → sg_W p l e R s m args below meth c nL g cells slots Q C (pc + 3) lv rest) : sg_W p l e R s m args below meth c nL g cells slots Q C pc lv (.int y :: .int x :: rest) := fun H locs ls hR hL hq hlv => lv_icmp_ge hc.1 hc.2.1 hdg ht (fun z => zkt z H locs ls hR hL hq hlv) (fun z => zkf z H locs ls hR hL hq hlv)
theorem sw_icmp_gt (hc : sg_Cx p s m args c cc nL own g) {x y : Int32} {off : Int} {tgt : Nat} (hdg : decode cc pc = .ok (.if_icmp .gt off, 3)) (ht : (pc : Int) + off = (tgt : Int)) (zkt : y < x → sg_W p l e R s m args below meth c nL g cells slots Q C tgt lv rest) (zkf : ¬ y < x → sg_W p l e R s m args below meth c nL g cells slots Q C (pc + 3) lv rest) : sg_W p l e R s m args below meth c nL g cells slots Q C pc lv (.int y :: .int x :: rest) := fun H locs ls hR hL hq hlv => lv_icmp_gt hc.1 hc.2.1 hdg ht (fun z => zkt z H locs ls hR hL hq hlv) (fun z => zkf z H locs ls hR hL hq hlv)
theorem sw_icmp_le (hc : sg_Cx p s m args c cc nL own g) {x y : Int32} {off : Int} {tgt : Nat} (hdg : decode cc pc = .ok (.if_icmp .le off, 3)) (ht : (pc : Int) + off = (tgt : Int)) (zkt : x ≤ y → sg_W p l e R s m args below meth c nL g cells slots Q C tgt lv rest) (zkf : ¬ x ≤ y → sg_W p l e R s m args below meth c nL g cells slots Q C (pc + 3) lv rest) : sg_W p l e R s m args below meth c nL g cells slots Q C pc lv (.int y :: .int x :: rest) := fun H locs ls hR hL hq hlv => lv_icmp_le hc.1 hc.2.1 hdg ht (fun z => zkt z H locs ls hR hL hq hlv) (fun z => zkf z H locs ls hR hL hq hlv)
theorem sw_acmp_eq (hc : sg_Cx p s m args c cc nL own g) {rx ry : Option Nat} {off : Int} {tgt : Nat} (hdg : decode cc pc = .ok (.if_acmp .eq off, 3)) (ht : (pc : Int) + off = (tgt : Int)) (zkt : rx = ry → sg_W p l e R s m args below meth c nL g cells slots Q C tgt lv rest) (zkf : ¬ rx = ry → sg_W p l e R s m args below meth c nL g cells slots Q C (pc + 3) lv rest) : sg_W p l e R s m args below meth c nL g cells slots Q C pc lv (va_rf ry :: va_rf rx :: rest) := fun H locs ls hR hL hq hlv => lv_acmp_eq hc.1 hc.2.1 hdg ht (fun z => zkt z H locs ls hR hL hq hlv) (fun z => zkf z H locs ls hR hL hq hlv)
theorem sw_acmp_ne (hc : sg_Cx p s m args c cc nL own g) {rx ry : Option Nat} {off : Int} {tgt : Nat} (hdg : decode cc pc = .ok (.if_acmp .ne off, 3)) (ht : (pc : Int) + off = (tgt : Int)) (zkt : ¬ rx = ry → sg_W p l e R s m args below meth c nL g cells slots Q C tgt lv rest) (zkf : rx = ry → sg_W p l e R s m args below meth c nL g cells slots Q C (pc + 3) lv rest) : sg_W p l e R s m args below meth c nL g cells slots Q C pc lv (va_rf ry :: va_rf rx :: rest) := fun H locs ls hR hL hq hlv => lv_acmp_ne hc.1 hc.2.1 hdg ht (fun z => zkt z H locs ls hR hL hq hlv) (fun z => zkf z H locs ls hR hL hq hlv)
theorem sw_ifnull (hc : sg_Cx p s m args c cc nL own g) {x : Nat} {off : Int} (hdg : decode cc pc = .ok (.ifnull off, 3)) (zk : sg_W p l e R s m args below meth c nL g cells slots Q C (pc + 3) lv rest) : sg_W p l e R s m args below meth c nL g cells slots Q C pc lv (.ref x :: rest) := fun H locs ls hR hL hq hlv => lv_ifnull hc.1 hc.2.1 hdg (zk H locs ls hR hL hq hlv)
theorem sw_ifnonnull (hc : sg_Cx p s m args c cc nL own g) {x : Nat} {off : Int} {tgt : Nat} (hdg : decode cc pc = .ok (.ifnonnull off, 3)) (ht : (pc : Int) + off = (tgt : Int)) (zk : sg_W p l e R s m args below meth c nL g cells slots Q C tgt lv rest) : sg_W p l e R s m args below meth c nL g cells slots Q C pc lv (.ref x :: rest) := fun H locs ls hR hL hq hlv => lv_ifnonnull hc.1 hc.2.1 hdg ht (zk H locs ls hR hL hq hlv)
theorem sw_null (hc : sg_Cx p s m args c cc nL own g) (hdg : decode cc pc = .ok (.aconst_null, 1)) (zk : sg_W p l e R s m args below meth c nL g cells slots Q C (pc + 1) lv (.null :: rest)) : sg_W p l e R s m args below meth c nL g cells slots Q C pc lv rest := fun H locs ls hR hL hq hlv => lv_null hc.1 hc.2.1 hdg (zk H locs ls hR hL hq hlv)
theorem sw_ifnullN (hc : sg_Cx p s m args c cc nL own g) {off : Int} {tgt : Nat} (hdg : decode cc pc = .ok (.ifnull off, 3)) (ht : (pc : Int) + off = (tgt : Int)) (zk : sg_W p l e R s m args below meth c nL g cells slots Q C tgt lv rest) : sg_W p l e R s m args below meth c nL g cells slots Q C pc lv (.null :: rest) := fun H locs ls hR hL hq hlv => lv_ifnullN hc.1 hc.2.1 hdg ht (zk H locs ls hR hL hq hlv)
theorem sw_ifnonnullN (hc : sg_Cx p s m args c cc nL own g) {off : Int} (hdg : decode cc pc = .ok (.ifnonnull off, 3)) (zk : sg_W p l e R s m args below meth c nL g cells slots Q C (pc + 3) lv rest) : sg_W p l e R s m args below meth c nL g cells slots Q C pc lv (.null :: rest) := fun H locs ls hR hL hq hlv => lv_ifnonnullN hc.1 hc.2.1 hdg (zk H locs ls hR hL hq hlv)
theorem sw_aload_nN (hc : sg_Cx p s m args c cc nL own g) {k : Fin 4} {i : Nat} (hdg : decode cc pc = .ok (.aload_n k, 1)) (hi : (k : Nat) = i) (kx : Nat) (hl : lv[kx]? = some (i, (.null))) (zk : sg_W p l e R s m args below meth c nL g cells slots Q C (pc + 1) lv (.null :: rest)) : sg_W p l e R s m args below meth c nL g cells slots Q C pc lv (rest) := fun H locs ls hR hL hq hlv => lv_aload_nN hc.1 hc.2.1 hdg hi (lv_at hlv kx hl) (zk H locs ls hR hL hq hlv)
theorem sw_aloadN (hc : sg_Cx p s m args c cc nL own g) {i : Nat} (hdg : decode cc pc = .ok (.aload i, 2)) (kx : Nat) (hl : lv[kx]? = some (i, (.null))) (zk : sg_W p l e R s m args below meth c nL g cells slots Q C (pc + 2) lv (.null :: rest)) : sg_W p l e R s m args below meth c nL g cells slots Q C pc lv (rest) := fun H locs ls hR hL hq hlv => lv_aloadN hc.1 hc.2.1 hdg (lv_at hlv kx hl) (zk H locs ls hR hL hq hlv)
theorem sw_astore_nN (hc : sg_Cx p s m args c cc nL own g) {k : Fin 4} {i : Nat} (hdg : decode cc pc = .ok (.astore_n k, 1)) (hi : (k : Nat) = i) (hn : i < nL) (hl : (i, Value.null) :: lv.filter (fun q => !(q.1 == i) && !(q.1 + 1 == i && q.2.category == 2)) = lv') (zkk : sg_W p l e R s m args below meth c nL g cells slots Q C (pc + 1) lv' rest) : sg_W p l e R s m args below meth c nL g cells slots Q C pc lv (.null :: rest) := fun H locs ls hR hL hq hlv => lv_astore_nN hc.1 hc.2.1 hdg hi hlv hn hl (fun ls' hlv' => zkk H locs ls' hR hL hq hlv')
theorem sw_astoreN (hc : sg_Cx p s m args c cc nL own g) {i : Nat} (hdg : decode cc pc = .ok (.astore i, 2)) (hn : i < nL) (hl : (i, Value.null) :: lv.filter (fun q => !(q.1 == i) && !(q.1 + 1 == i && q.2.category == 2)) = lv') (zkk : sg_W p l e R s m args below meth c nL g cells slots Q C (pc + 2) lv' rest) : sg_W p l e R s m args below meth c nL g cells slots Q C pc lv (.null :: rest) := fun H locs ls hR hL hq hlv => lv_astoreN hc.1 hc.2.1 hdg hlv hn hl (fun ls' hlv' => zkk H locs ls' hR hL hq hlv')
theorem sw_tableIn (hc : sg_Cx p s m args c cc nL own g) {dflt lo hi : Int} {offs : Array Int} {len : Nat} {x : Int32} {off : Int} {tgt : Nat} (hdg : decode cc pc = .ok (.tableswitch dflt lo hi offs, len)) (h1 : ¬ x.toInt < lo) (h2 : ¬ hi < x.toInt) (ho : offs[(x.toInt - lo).toNat]? = some off) (ht : (pc : Int) + off = (tgt : Int)) (zk : sg_W p l e R s m args below meth c nL g cells slots Q C tgt lv rest) : sg_W p l e R s m args below meth c nL g cells slots Q C pc lv (.int x :: rest) := fun H locs ls hR hL hq hlv => lv_tableIn hc.1 hc.2.1 hdg h1 h2 ho ht (zk H locs ls hR hL hq hlv)
theorem sw_tableOut (hc : sg_Cx p s m args c cc nL own g) {dflt lo hi : Int} {offs : Array Int} {len : Nat} {x : Int32} {tgt : Nat} (hdg : decode cc pc = .ok (.tableswitch dflt lo hi offs, len)) (h : x.toInt < lo ∨ hi < x.toInt) (ht : (pc : Int) + dflt = (tgt : Int)) (zk : sg_W p l e R s m args below meth c nL g cells slots Q C tgt lv rest) : sg_W p l e R s m args below meth c nL g cells slots Q C pc lv (.int x :: rest) := fun H locs ls hR hL hq hlv => lv_tableOut hc.1 hc.2.1 hdg h ht (zk H locs ls hR hL hq hlv)
end SGR
/-! worlds -/
theorem sg_up_s {C : Nat → Option va_E} {a : Nat} {e : va_E} : sg_up C a e a = some e := if_pos rfl
theorem sg_up_n {C : Nat → Option va_E} {a x : Nat} {e : va_E} (h : x ≠ a) : sg_up C a e x = C x := if_neg h
/-- a world with some cells written over -/
def sg_ov (C : Nat → Option va_E) : va_W → Nat → Option va_E
  | [] => C
  | (a, e) :: l => sg_up (sg_ov C l) a e
def sg_nd : List Nat → Prop
  | [] => True
  | a :: l => a ∉ l ∧ sg_nd l
theorem sg_ov_out {C : Nat → Option va_E} {x : Nat} : ∀ {l : va_W}, x ∉ l.map Prod.fst → sg_ov C l x = C x
  | [], _ => rfl
  | (a, e) :: l, h => by
    rw [List.map_cons, List.mem_cons, not_or] at h
    show sg_up (sg_ov C l) a e x = C x
    rw [sg_up_n h.1]
    exact sg_ov_out h.2
theorem sg_ov_at {C : Nat → Option va_E} {x : Nat} {e : va_E} : ∀ {l : va_W} {k : Nat}, sg_nd (l.map Prod.fst) → l[k]? = some (x, e) → sg_ov C l x = some e
  | [], k, _, h => by simp at h
  | (a, e') :: l, 0, _, h => by
    simp only [List.getElem?_cons_zero, Option.some.injEq, Prod.mk.injEq] at h
    obtain ⟨rfl, rfl⟩ := h
    exact sg_up_s
  | (a, e') :: l, k + 1, hn, h => by
    rw [List.getElem?_cons_succ] at h
    have hm : x ∈ l.map Prod.fst := List.mem_map.mpr ⟨_, List.mem_of_getElem? h, rfl⟩
    show sg_up (sg_ov C l) a e' x = some e
    have hx : x ≠ a := fun q => hn.1 (by subst q; exact hm)
    rw [sg_up_n hx]
    exact sg_ov_at hn.2 h
theorem sg_ov_set {C : Nat → Option va_E} {x : Nat} {e e0 : va_E} : ∀ {l : va_W} {k : Nat}, sg_nd (l.map Prod.fst) → l[k]? = some (x, e0) → sg_up (sg_ov C l) x e = sg_ov C (l.set k (x, e))
  | [], k, _, h => by simp at h
  | (a, e') :: l, 0, _, h => by
    simp only [List.getElem?_cons_zero, Option.some.injEq, Prod.mk.injEq] at h
    obtain ⟨rfl, rfl⟩ := h
    funext y
    show sg_up (sg_up (sg_ov C l) a e') a e y = sg_up (sg_ov C l) a e y
    by_cases hy : y = a
    · subst hy; rw [sg_up_s, sg_up_s]
    · rw [sg_up_n hy, sg_up_n hy, sg_up_n hy]
  | (a, e') :: l, k + 1, hn, h => by
    rw [List.getElem?_cons_succ] at h
    have hm : x ∈ l.map Prod.fst := List.mem_map.mpr ⟨_, List.mem_of_getElem? h, rfl⟩
    have hx : x ≠ a := fun q => hn.1 (by subst q; exact hm)
    have ih := sg_ov_set (C := C) (e := e) hn.2 h
    funext y
    show sg_up (sg_up (sg_ov C l) a e') x e y = sg_up (sg_ov C (l.set k (x, e))) a e' y
    rw [← ih]
    by_cases hy : y = a
    · subst hy; rw [sg_up_s, sg_up_n (Ne.symm hx), sg_up_s]
    · by_cases hz : y = x
      · subst hz; rw [sg_up_s, sg_up_n hy, sg_up_s]
      · rw [sg_up_n hz, sg_up_n hy, sg_up_n hy, sg_up_n hz]
theorem sg_ov_self {C : Nat → Option va_E} : ∀ {l : va_W}, (∀ (k : Nat) (q : Nat × va_E), l[k]? = some q → C q.1 = some q.2) → sg_ov C l = C
  | [], _ => rfl
  | (a, e) :: l, h => by
    have ih : sg_ov C l = C := sg_ov_self fun k q hq => h (k + 1) q (by rw [List.getElem?_cons_succ]; exact hq)
    funext y
    show sg_up (sg_ov C l) a e y = C y
    rw [ih]
    by_cases hy : y = a
    · subst hy; rw [sg_up_s]; exact (h 0 _ rfl).symm
    · rw [sg_up_n hy]
/-! what a name of a field, of a method, stands for -/
def sg_FL (own : String) (idx ci k : Nat) : Prop := ∃ (Cn : String) (T : u_T) (N : Nat) (ref : String), vwCl[ci]? = some (Cn, T, N) ∧ k < N ∧ (∀ w ∈ u_ws Cn T N, w ∈ sg_T) ∧
  (ref = (T k).1 ∨ Cond.sameField ref (T k).1 (T k).2.1 (T k).2.2.1 ∈ sg_T) ∧
  (Cond.fieldLink own idx ref (T k).2.1 (T k).2.2.1 ∈ sg_T ∨ ∃ host, Cond.fieldLinkNest own idx ref (T k).2.1 (T k).2.2.1 host ∈ sg_N)
/-- the types of a class's fields, their names apart -/
def sg_TY (ci : Nat) : Prop := ∃ (Cn : String) (T : u_T) (N : Nat) (ty : Nat → FieldType), vwCl[ci]? = some (Cn, T, N) ∧ (∀ k, k < N → parseFieldDescriptor (T k).2.2.1 = some (ty k)) ∧ (∀ a, a < N → ∀ b, b < N → a ≠ b → (T a).2.1 ≠ (T b).2.1)
def sg_FP (ci k : Nat) (fin : Bool) (ty : FieldType) : Prop := ∃ (Cn : String) (T : u_T) (N : Nat), vwCl[ci]? = some (Cn, T, N) ∧ (T k).2.2.2 = fin ∧ parseFieldDescriptor (T k).2.2.1 = some ty ∧ (T k).1 = Cn
section SGH
variable {p : Program} {l : Launch} {e : Env} {R : Room} {s : State} {m : MethodId} {args : Array Value} {below : List Frame} {meth : Method} {c : Code} {cells slots : Nat} {Q : State → Prop}
variable {cc : ByteArray} {nL : Nat} {own : String} {g : sg_G} {C : Nat → Option va_E} {pc : Nat} {lv lv' : List (Nat × Value)} {rest : List Value} {H : Heap}
theorem sg_Rp.one {a : Nat} {x : va_E} (hR : sg_Rp g C H) (ha : C a = some x) : va_P g.1 vwCl [(a, x)] H := by
  intro k q hk
  have hz : k < 1 := (List.getElem?_eq_some_iff.mp hk).1
  rw [show k = 0 by omega] at hk
  cases hk
  exact (hR a x ha).1
theorem sg_Rp.lt {a : Nat} {x : va_E} (hR : sg_Rp g C H) (ha : C a = some x) : a < H.size := (hR a x ha).1.lt
theorem sg_Rp.none (hR : sg_Rp g C H) : C H.size = none := by
  cases h : C H.size with
  | none => rfl
  | some x => exact absurd (hR.lt h) (Nat.lt_irrefl _)
theorem sg_Rp.put {a : Nat} {x y : va_E} {H1 : Heap} (hR : sg_Rp g C H) (ha : C a = some x) (hy : va_at g.1 vwCl (a, y) H1) (oq : ∀ q : Nat, q ≠ a → H1[q]? = H[q]?) : sg_Rp g (sg_up C a y) H1 := by
  intro b z hz
  by_cases hb : b = a
  · subst hb
    rw [sg_up_s] at hz
    cases hz
    exact ⟨hy, (hR b x ha).2⟩
  · rw [sg_up_n hb] at hz
    exact ⟨(hR b z hz).1.kept (oq b hb), (hR b z hz).2⟩
theorem sg_Rp.new {y : va_E} {H1 : Heap} (hR : sg_Rp g C H) (hL : sg_Lo g H) (hy : va_at g.1 vwCl (H.size, y) H1) (oq : ∀ q : Nat, q < H.size → H1[q]? = H[q]?) : sg_Rp g (sg_up C H.size y) H1 := by
  intro b z hz
  by_cases hb : b = H.size
  · subst hb
    rw [sg_up_s] at hz
    cases hz
    exact ⟨hy, hL.1⟩
  · rw [sg_up_n hb] at hz
    exact ⟨(hR b z hz).1.kept (oq b (hR.lt hz)), (hR b z hz).2⟩
theorem sg_Lo.put {a : Nat} {H1 : Heap} (hL : sg_Lo g H) (ha : g.2.2.1.size ≤ a) (hz : H1.size = H.size) (oq : ∀ q : Nat, q ≠ a → H1[q]? = H[q]?) : sg_Lo g H1 :=
  ⟨by rw [hz]; exact hL.1, fun q hq => (oq q (by omega)).trans (hL.2 q hq)⟩
theorem sg_Lo.new {H1 : Heap} (hL : sg_Lo g H) (hz : H1.size = H.size + 1) (oq : ∀ q : Nat, q < H.size → H1[q]? = H[q]?) : sg_Lo g H1 :=
  ⟨by rw [hz]; exact Nat.le_succ_of_le hL.1, fun q hq => (oq q (Nat.lt_of_lt_of_le hq hL.1)).trans (hL.2 q hq)⟩
theorem sg_locs {a k : Nat} {locs : List Loc} (hq : ∀ q ∈ locs, g.2.2.1.size ≤ q.base) (ha : g.2.2.1.size ≤ a) : ∀ q ∈ locs ++ [(⟨a, k⟩ : Loc)], g.2.2.1.size ≤ q.base := by
  intro q h
  rcases List.mem_append.mp h with h | h
  · exact hq q h
  · rcases List.mem_singleton.mp h with rfl
    exact ha
theorem sw_top {x : Int32} (hx : ∀ y : Int32, y = x → sg_W p l e R s m args below meth c nL g cells slots Q C pc lv (.int y :: rest)) : sg_W p l e R s m args below meth c nL g cells slots Q C pc lv (.int x :: rest) := hx x rfl
theorem sg_same {U : State} {T : u_T} {k : Nat} {ref : String} (hts : ∀ w ∈ sg_T, w.before args U = true) (h : ref = (T k).1 ∨ Cond.sameField ref (T k).1 (T k).2.1 (T k).2.2.1 ∈ sg_T) : ∀ x, U.fieldFound? (T k).1 (T k).2.1 (T k).2.2.1 = some x → U.fieldFound? ref (T k).2.1 (T k).2.2.1 = some x := by
  rcases h with h | h
  · intro x hx; rw [h]; exact hx
  · exact fun x hx => u_same (hts _ h) x hx
theorem sw_get (hc : sg_Cx p s m args c cc nL own g) {idx ci k : Nat} (hf : sg_FL own idx ci k) {a : Nat} {fs : List Value} (ha : C a = some (.inr (ci, fs))) {v : Value} (hv : fs[k]? = some v) (hdg : decode cc pc = .ok (.getfield idx, 3))
    (kk : sg_W p l e R s m args below meth c nL g cells slots Q C (pc + 3) lv (v :: rest)) : sg_W p l e R s m args below meth c nL g cells slots Q C pc lv (.ref a :: rest) := by
  intro H locs ls hR hL hq hl
  obtain ⟨hx, hb, hml, hown, hts, ⟨hK, hN⟩, hK2⟩ := hc
  obtain ⟨Cn, T, N, ref, h1, h2, h3, h4, h5⟩ := hf
  rcases h5 with h5 | ⟨host, h5⟩
  · exact va_get hx hb hts h3 hown hK (hR.one ha) 0 rfl h1 k h2 (hts _ h5) (sg_same hts h4) hv hdg (kk H locs ls hR hL hq hl)
  · exact va_getN hx hb hts h3 hown hK (hR.one ha) 0 rfl h1 k h2 (va_Nw.use rfl (hN _ h5)) (sg_same hts h4) hv hdg (kk H locs ls hR hL hq hl)
theorem sg_uniq {ci : Nat} {x y : vw_C} (h : vwCl[ci]? = some x) (h' : vwCl[ci]? = some y) : x = y := Option.some.inj (h.symm.trans h')
theorem sw_put (hc : sg_Cx p s m args c cc nL own g) {idx ci k : Nat} {ty : FieldType} (hf : sg_FL own idx ci k) (ht : sg_TY ci) (hp : sg_FP ci k false ty) {a : Nat} {fs fs' : List Value} (ha : C a = some (.inr (ci, fs))) {v : Value} (hn : narrow ty v = v) (hfit : fits ty v = true) (hlen : k < fs.length) (hfs : fs.set k v = fs') (hdg : decode cc pc = .ok (.putfield idx, 3))
    (kk : sg_W p l e R s m args below meth c nL g cells slots Q (sg_up C a (.inr (ci, fs'))) (pc + 3) lv rest) : sg_W p l e R s m args below meth c nL g cells slots Q C pc lv (v :: .ref a :: rest) := by
  intro H locs ls hR hL hq hl
  subst hfs
  obtain ⟨hx, hb, hml, hown, hts, ⟨hK, hN⟩, hK2⟩ := hc
  obtain ⟨Cn, T, N, ref, h1, hk, hin, h4, h5⟩ := hf
  obtain ⟨Cn2, T2, N2, ty0, h12, hty, hnm⟩ := ht
  cases sg_uniq h1 h12
  obtain ⟨Cn3, T3, N3, h13, hfin, hd, -⟩ := hp
  cases sg_uniq h1 h13
  have hap := va_apart (own := own) hts hin ty0 hty hnm hK h1
  obtain ⟨r, g1, cell, q1, q2, q3, q4⟩ := (hR a _ ha).1
  cases sg_uniq g1 h1
  obtain ⟨hS, hfc, kC, hkC, hkind⟩ := hK.1 ci _ h1
  obtain ⟨cf, kf, fi, f, hi, hsl⟩ := hS k hk
  have hlay := hts _ (hin _ (u_in_lay hk))
  unfold u_lay at hlay
  rw [if_neg (by rw [hfin]; decide)] at hlay
  have hst := (u_facts hfc hkC (u_lays hts hin hk) hi).1
  have h6 := u_store hfc hkC hkind hlay hi hd hn hfit
  have fin : ∀ H' : Heap, H'[a]? = some (cell.setSlot f.slot v) → H'.size = H.size → (∀ q, q ≠ a → H'[q]? = H[q]?) → W p l e R s m args below meth c H' (locs ++ [⟨a, f.slot⟩]) cells slots Q (F0 m (pc + 3) ls rest) := by
    intro H' e1 e2 e3
    rw [hsl] at e1
    exact kk H' _ ls (hR.put ha ⟨_, h1, t_OB.to (V := updV (vp_V fs) k v) ⟨_, e1, q2, q3, t_set q4 hap hk v⟩ (fun j _ => vp_updV_set hlen v j)⟩ e3) (hL.put (hR a _ ha).2 e2 e3) (sg_locs hq (hR a _ ha).2) hl
  rcases h5 with h5 | ⟨host, h5⟩
  · exact W.putK hx hb (f := f) ⟨hown, hts _ h5, ⟨_, _, _, sg_same hts h4 _ hi⟩, hst⟩ (by rw [q2]; exact h6) q1 q3 (by rw [hsl]; exact k2_hasslot (q4 k hk)) rfl rfl hdg fin
  · exact va_WputK hx hb (f := f) hown (va_Nw.use rfl (hN _ h5)) (sg_same hts h4 _ hi) hst (by rw [q2]; exact h6) q1 q3 (by rw [hsl]; exact k2_hasslot (q4 k hk)) rfl rfl hdg fin
theorem sw_putF (hc : sg_Cx p s m args c cc nL own g) {idx ci k : Nat} {ty : FieldType} (hin2 : meth.name = "<init>") (hf : sg_FL own idx ci k) (ht : sg_TY ci) (hp : sg_FP ci k true ty) (hw : ∃ T N, vwCl[ci]? = some (own, T, N)) (hnn : ∀ ref n d host, Cond.fieldLinkNest own idx ref n d host ∉ sg_N) {a : Nat} {fs fs' : List Value} (ha : C a = some (.inr (ci, fs))) {v : Value} (hn : narrow ty v = v) (hfit : fits ty v = true) (hlen : k < fs.length) (hfs : fs.set k v = fs') (hdg : decode cc pc = .ok (.putfield idx, 3))
    (kk : sg_W p l e R s m args below meth c nL g cells slots Q (sg_up C a (.inr (ci, fs'))) (pc + 3) lv rest) : sg_W p l e R s m args below meth c nL g cells slots Q C pc lv (v :: .ref a :: rest) := by
  intro H locs ls hR hL hq hl
  subst hfs
  obtain ⟨hx, hb, hml, hown, hts, ⟨hK, hN⟩, hK2⟩ := hc
  obtain ⟨Cn, T, N, ref, h1, hk, hin, h4, h5⟩ := hf
  obtain ⟨Cn2, T2, N2, ty0, h12, hty, hnm⟩ := ht
  cases sg_uniq h1 h12
  obtain ⟨Cn3, T3, N3, h13, hfin, hd, hdecl⟩ := hp
  cases sg_uniq h1 h13
  obtain ⟨T4, N4, h14⟩ := hw
  have ho : Cn = own := by cases sg_uniq h1 h14; rfl
  have hap := va_apart (own := own) hts hin ty0 hty hnm hK h1
  obtain ⟨r, g1, cell, q1, q2, q3, q4⟩ := (hR a _ ha).1
  cases sg_uniq g1 h1
  obtain ⟨hS, hfc, kC, hkC, hkind⟩ := hK.1 ci _ h1
  obtain ⟨cf, kf, fi, f, hi, hsl⟩ := hS k hk
  have hlay := hts _ (hin _ (u_in_lay hk))
  unfold u_lay at hlay
  rw [if_pos hfin] at hlay
  have hst := (u_facts hfc hkC (u_lays hts hin hk) hi).1
  have hcf : m.cls = cf := by
    obtain ⟨_, _, c', _, _, _, -, -, hf', -, -, -, hown2, -⟩ := Cond.laysFinal_spec hlay
    have e1 : c' = cf := by have := hi.symm.trans hf'; simp at this; exact this.1.symm
    rw [hdecl, ho] at hown2
    rw [← e1]; exact Option.some.inj (hown.symm.trans hown2)
  have h6 := u_fits hfc hkC hkind (Or.inr hlay) hi hd hn hfit
  have fin : ∀ H' : Heap, H'[a]? = some (cell.setSlot f.slot v) → H'.size = H.size → (∀ q, q ≠ a → H'[q]? = H[q]?) → W p l e R s m args below meth c H' (locs ++ [⟨a, f.slot⟩]) cells slots Q (F0 m (pc + 3) ls rest) := by
    intro H' e1 e2 e3
    rw [hsl] at e1
    exact kk H' _ ls (hR.put ha ⟨_, h1, t_OB.to (V := updV (vp_V fs) k v) ⟨_, e1, q2, q3, t_set q4 hap hk v⟩ (fun j _ => vp_updV_set hlen v j)⟩ e3) (hL.put (hR a _ ha).2 e2 e3) (sg_locs hq (hR a _ ha).2) hl
  rcases h5 with h5 | ⟨host, h5⟩
  · exact W.putFinK hx hb hown (hts _ h5) (sg_same hts h4 _ hi) hst hcf hin2 (by rw [q2]; exact h6) q1 q3 (by rw [hsl]; exact k2_hasslot (q4 k hk)) rfl rfl hdg fin
  · exact absurd h5 (hnn _ _ _ _)
theorem sg_ix {n j : Nat} {i : Int32} (hi : i = nI j) (hj : j < n) (hn : n ≤ 100000) : vp_in i n ∧ i.toNatClampNeg = j := by
  subst hi
  exact ⟨vp_in_nI hj (by omega), nI_clamp (by omega)⟩
theorem sw_iald (hc : sg_Cx p s m args c cc nL own g) {a n j : Nat} {f : Nat → Int32} {i : Int32} (ha : C a = some (sg_ia g n f)) (hi : i = nI j) (hj : j < n) (hn : n ≤ 100000) (hdg : decode cc pc = .ok (.iaload, 1))
    (kk : sg_W p l e R s m args below meth c nL g cells slots Q C (pc + 1) lv (.int (f j) :: rest)) : sg_W p l e R s m args below meth c nL g cells slots Q C pc lv (.int i :: .ref a :: rest) := by
  intro H locs ls hR hL hq hl
  obtain ⟨h1, h2⟩ := sg_ix hi hj hn
  refine va_iald hc.1 hc.2.1 hc.2.2.2.2.2.1.1 (hR.one ha) 0 0 rfl rfl h1 hdg ?_
  rw [h2]
  exact kk H locs ls hR hL hq hl
theorem sw_zald (hc : sg_Cx p s m args c cc nL own g) {a n j : Nat} {f : Nat → Int32} {i : Int32} (ha : C a = some (sg_za g n f)) (hi : i = nI j) (hj : j < n) (hn : n ≤ 100000) (hdg : decode cc pc = .ok (.baload, 1))
    (kk : sg_W p l e R s m args below meth c nL g cells slots Q C (pc + 1) lv (.int (f j) :: rest)) : sg_W p l e R s m args below meth c nL g cells slots Q C pc lv (.int i :: .ref a :: rest) := by
  intro H locs ls hR hL hq hl
  obtain ⟨h1, h2⟩ := sg_ix hi hj hn
  refine va_zald hc.1 hc.2.1 hc.2.2.2.2.2.1.1 (hR.one ha) 0 1 rfl rfl h1 hdg ?_
  rw [h2]
  exact kk H locs ls hR hL hq hl
theorem sw_aald (hc : sg_Cx p s m args c cc nL own g) {a n j : Nat} {f : Nat → Option Nat} {i : Int32} (ha : C a = some (sg_qa g n f)) (hi : i = nI j) (hj : j < n) (hn : n ≤ 100000) (hdg : decode cc pc = .ok (.aaload, 1))
    (kk : sg_W p l e R s m args below meth c nL g cells slots Q C (pc + 1) lv (va_rf (f j) :: rest)) : sg_W p l e R s m args below meth c nL g cells slots Q C pc lv (.int i :: .ref a :: rest) := by
  intro H locs ls hR hL hq hl
  obtain ⟨h1, h2⟩ := sg_ix hi hj hn
  refine va_aldq hc.1 hc.2.1 hc.2.2.2.2.2.1.1 (hR.one ha) 0 2 rfl rfl h1 hdg ?_
  rw [h2]
  exact kk H locs ls hR hL hq hl
theorem sw_alen (hc : sg_Cx p s m args c cc nL own g) {a n : Nat} {f : Nat → Option Nat} (ha : C a = some (sg_qa g n f)) (hdg : decode cc pc = .ok (.arraylength, 1))
    (kk : sg_W p l e R s m args below meth c nL g cells slots Q C (pc + 1) lv (.int (nI n) :: rest)) : sg_W p l e R s m args below meth c nL g cells slots Q C pc lv (.ref a :: rest) := by
  intro H locs ls hR hL hq hl
  exact va_alen hc.1 hc.2.1 hc.2.2.2.2.2.1.1 (hR.one ha) 0 2 rfl rfl rfl hdg (kk H locs ls hR hL hq hl)
theorem sw_iast (hc : sg_Cx p s m args c cc nL own g) {a n j : Nat} {f : Nat → Int32} {i x : Int32} (ha : C a = some (sg_ia g n f)) (hi : i = nI j) (hj : j < n) (hn : n ≤ 100000) (hdg : decode cc pc = .ok (.iastore, 1))
    (kk : sg_W p l e R s m args below meth c nL g cells slots Q (sg_up C a (sg_ia g n (upd f j x))) (pc + 1) lv rest) : sg_W p l e R s m args below meth c nL g cells slots Q C pc lv (.int x :: .int i :: .ref a :: rest) := by
  intro H locs ls hR hL hq hl
  obtain ⟨h1, h2⟩ := sg_ix hi hj hn
  have hT := ((hc.2.2.2.2.2.1.1.2 0 (g.2.1 0, .int) rfl).1 n (fun j => .int (f j)))
  refine W.iast hc.1 hc.2.1 (hR a _ ha).1 hT (fun q => by cases q) (by show ¬ (i < 0 ∨ (arrV _ _ _).slots.size ≤ _); rw [arrV_size]; exact h1) rfl rfl hdg fun H1 e1 z oq => ?_
  rw [h2] at e1 ⊢
  refine kk H1 _ ls (hR.put ha ?_ oq) (hL.put (hR a _ ha).2 z oq) (sg_locs hq (hR a _ ha).2) hl
  show H1[a]? = some (vp_cell _ _)
  rw [e1]
  show some ((vp_cell _ (n, .inl f)).setSlot j (.int x)) = _
  rw [vp_cell_i, vp_cell_i, arrV_store]
  congr 2
  funext q
  by_cases hq : q = j
  · subst hq; simp [updV, upd]
  · simp [updV, upd, hq]
theorem sw_zast (hc : sg_Cx p s m args c cc nL own g) {a n j : Nat} {f : Nat → Int32} {i x : Int32} (ha : C a = some (sg_za g n f)) (hi : i = nI j) (hj : j < n) (hn : n ≤ 100000) (hx : x = 0 ∨ x = 1) (hdg : decode cc pc = .ok (.bastore, 1))
    (kk : sg_W p l e R s m args below meth c nL g cells slots Q (sg_up C a (sg_za g n (upd f j x))) (pc + 1) lv rest) : sg_W p l e R s m args below meth c nL g cells slots Q C pc lv (.int x :: .int i :: .ref a :: rest) := by
  intro H locs ls hR hL hq hl
  obtain ⟨h1, h2⟩ := sg_ix hi hj hn
  have hT := ((hc.2.2.2.2.2.1.1.2 1 (g.2.1 1, .boolean) rfl).1 n (fun j => .int (f j)))
  have hnr : narrow .boolean (.int x) = .int x := by rcases hx with rfl | rfl <;> rfl
  refine W.zast hc.1 hc.2.1 (hR a _ ha).1 hT (fun q => by cases q) (by show ¬ (i < 0 ∨ (arrV _ _ _).slots.size ≤ _); rw [arrV_size]; exact h1) rfl rfl hdg fun H1 e1 z oq => ?_
  rw [h2, hnr] at e1
  rw [h2]
  refine kk H1 _ ls (hR.put ha ?_ oq) (hL.put (hR a _ ha).2 z oq) (sg_locs hq (hR a _ ha).2) hl
  show H1[a]? = some (vp_cell _ _)
  rw [e1]
  show some ((vp_cell _ (n, .inl f)).setSlot j (.int x)) = _
  rw [vp_cell_i, vp_cell_i, arrV_store]
  congr 2
  funext q
  by_cases hq : q = j
  · subst hq; simp [updV, upd]
  · simp [updV, upd, hq]
theorem sw_aast (hc : sg_Cx p s m args c cc nL own g) {a n j v ci : Nat} {r : vw_C} {vs : List Value} {f : Nat → Option Nat} {i : Int32} (ha : C a = some (sg_qa g n f)) (hi : i = nI j) (hj : j < n) (hn : n ≤ 100000) (hv : C v = some (.inr (ci, vs))) (hcl : vwCl[ci]? = some r) (hca : Cond.castable r.1 "java/lang/Object" ∈ sg_N) (hdg : decode cc pc = .ok (.aastore, 1))
    (kk : sg_W p l e R s m args below meth c nL g cells slots Q (sg_up C a (sg_qa g n (va_up f j (some v)))) (pc + 1) lv rest) : sg_W p l e R s m args below meth c nL g cells slots Q C pc lv (.ref v :: .int i :: .ref a :: rest) := by
  intro H locs ls hR hL hq hl
  obtain ⟨hin, h2⟩ := sg_ix hi hj hn
  have h0 : ¬ i < 0 := fun q => hin (Or.inl q)
  have hK := hc.2.2.2.2.2.1.1
  obtain ⟨r', hr', cellV, g1, g2, g3, -⟩ := (hR v _ hv).1
  have hcls := (hK.1 ci r hcl).2
  obtain ⟨kA, comp, k1, k2, k3, -⟩ := (hK.2 2 (g.2.1 2, .object "java/lang/Object") rfl).2
  obtain ⟨kE, hkE, -⟩ := Vm.findClass_spec k3
  obtain ⟨c0, t1, f1, f2, f3⟩ := Cond.castable_spec (va_Nw.use (A := args) rfl (hc.2.2.2.2.2.1.2 _ hca))
  cases hcls.1.symm.trans f1
  cases k3.symm.trans f2
  obtain ⟨kC, hkC, -⟩ := hcls.2
  refine W.aast hc.1 hc.2.1 (hR a _ ha).1 (fun q h => by cases h) (fun h => by cases h) k1 k2 rfl hkE ⟨h0, by show _ < (arrV _ _ _).slots.size; rw [arrV_size, h2]; exact hj⟩ g1 (fun q h => by rw [g3] at h; cases h) (by rw [g2]; exact hkC) (by rw [g2]; exact f3) rfl rfl hdg fun H1 e1 z oq => ?_
  rw [h2] at e1 ⊢
  refine kk H1 _ ls (hR.put ha ?_ oq) (hL.put (hR a _ ha).2 z oq) (sg_locs hq (hR a _ ha).2) hl
  show H1[a]? = some (vp_cell _ _)
  rw [e1]
  show some ((vp_cell _ (n, .inr (.inr (.inr (.inr f))))).setSlot j (.ref v)) = _
  rw [vp_cell_q, vp_cell_q, arrV_store]
  congr 2
  funext q
  by_cases hq : q = j
  · subst hq; simp [updV, va_up, va_rf]
  · simp [updV, va_up, hq]
theorem sw_lcmp (hc : sg_Cx p s m args c cc nL own g) {x y : Int64} (hdg : decode cc pc = .ok (.lcmp, 1)) (kk : sg_W p l e R s m args below meth c nL g cells slots Q C (pc + 1) lv (.int (lg_cmp x y) :: rest)) : sg_W p l e R s m args below meth c nL g cells slots Q C pc lv (.long y :: .long x :: rest) :=
  fun H locs ls hR hL hq hv => W.lcmp hc.1 hc.2.1 hdg (kk H locs ls hR hL hq hv)
/-- the world, under another name -/
theorem sw_eq {C' : Nat → Option va_E} (h : C = C') (kk : sg_W p l e R s m args below meth c nL g cells slots Q C' pc lv rest) : sg_W p l e R s m args below meth c nL g cells slots Q C pc lv rest := h ▸ kk
theorem sw_widen {k n : Nat} (h1 : cells ≤ k) (h2 : slots ≤ n) (kk : sg_W p l e R s m args below meth c nL g k n Q C pc lv rest) : sg_W p l e R s m args below meth c nL g cells slots Q C pc lv rest :=
  fun H locs ls hR hL hq hv => W.widen h1 h2 (kk H locs ls hR hL hq hv)
theorem sw_sub {ks : List Nat} (hl : lv_pick lv ks = lv') (kk : sg_W p l e R s m args below meth c nL g cells slots Q C pc lv' rest) : sg_W p l e R s m args below meth c nL g cells slots Q C pc lv rest :=
  fun H locs ls hR hL hq hv => kk H locs ls hR hL hq (lv_sub hv ks hl)
theorem sw_objInit (hc : sg_Cx p s m args c cc nL own g) {idx a : Nat} (hl : Cond.methodLink own idx Lib.objectInit ∈ sg_T) (h2 : Cond.instanceMethod Lib.objectInit ∈ sg_T) (h3 : Cond.code Lib.objectInit ⟨#[0xb1]⟩ 1 none ∈ sg_T) (hd : decode cc pc = .ok (.invokespecial idx, 3)) (hR : 1 ≤ R.frames ∧ (rest.map fun v => v.category).sum + 12 ≤ R.locals)
    (kk : sg_W p l e R s m args below meth c nL g cells slots Q C (pc + 3) lv rest) : sg_W p l e R s m args below meth c nL g cells slots Q C pc lv (.ref a :: rest) :=
  fun H locs ls hR' hL hq hv => W.objInit hc.1 hc.2.1 hc.2.2.2.1 (hc.2.2.2.2.1 _ hl) (hc.2.2.2.2.1 _ h2) (hc.2.2.2.2.1 _ h3) rfl (hv.1.trans hc.2.2.1.symm) rfl hd hR.1 (by show 2 * 0 + _ + 12 ≤ _; rw [Nat.mul_zero, Nat.zero_add]; exact hR.2) (kk H locs ls hR' hL hq hv)
/-- Math.max -/
def sg_Mmax (own : String) (idx : Nat) : Prop := Cond.methodLink own idx Lib.Math.max.name ∈ sg_T ∧ Cond.static Lib.Math.max.name ∈ sg_T ∧ Cond.initialized "java/lang/Math" ∈ sg_T ∧ Cond.code Lib.Math.max.name Lib.Math.max.code 2 (some .int) ∈ sg_T
def jmax (x y : Int32) : Int32 := if x < y then y else x
theorem sw_mmax (hc : sg_Cx p s m args c cc nL own g) {idx : Nat} (h : sg_Mmax own idx) (hR : 1 ≤ R.frames ∧ (rest.map fun v => v.category).sum + 13 ≤ R.locals ∧ cells ≤ R.cells ∧ slots ≤ R.slots) {x y : Int32} (hdg : decode cc pc = .ok (.invokestatic idx, 3))
    (kk : sg_W p l e R s m args below meth c nL g cells slots Q C (pc + 3) lv (.int (jmax x y) :: rest)) : sg_W p l e R s m args below meth c nL g cells slots Q C pc lv (.int y :: .int x :: rest) := by
  intro H locs ls hR' hL hq hv
  have hts := hc.2.2.2.2.1
  exact va_mmax hc.1 hc.2.1 (hc.2.2.1.trans hv.1.symm) hc.2.2.2.1 (hts _ h.1) (hts _ h.2.1) (hts _ h.2.2.1) (hts _ h.2.2.2) hR.1 hR.2.1 hR.2.2.1 hR.2.2.2 hdg (kk H locs ls hR' hL hq hv)
/-- Math.min -/
def sg_Mmin (own : String) (idx : Nat) : Prop := Cond.methodLink own idx Lib.Math.min.name ∈ sg_T ∧ Cond.static Lib.Math.min.name ∈ sg_T ∧ Cond.initialized "java/lang/Math" ∈ sg_T ∧ Cond.code Lib.Math.min.name Lib.Math.min.code 2 (some .int) ∈ sg_T
def jmin (x y : Int32) : Int32 := if y < x then y else x
theorem sw_mmin (hc : sg_Cx p s m args c cc nL own g) {idx : Nat} (h : sg_Mmin own idx) (hR : 1 ≤ R.frames ∧ (rest.map fun v => v.category).sum + 13 ≤ R.locals ∧ cells ≤ R.cells ∧ slots ≤ R.slots) {x y : Int32} (hdg : decode cc pc = .ok (.invokestatic idx, 3))
    (kk : sg_W p l e R s m args below meth c nL g cells slots Q C (pc + 3) lv (.int (jmin x y) :: rest)) : sg_W p l e R s m args below meth c nL g cells slots Q C pc lv (.int y :: .int x :: rest) := by
  intro H locs ls hR' hL hq hv
  have hts := hc.2.2.2.2.1
  exact va_mmin hc.1 hc.2.1 (hc.2.2.1.trans hv.1.symm) hc.2.2.2.1 (hts _ h.1) (hts _ h.2.1) (hts _ h.2.2.1) (hts _ h.2.2.2) hR.1 hR.2.1 hR.2.2.1 hR.2.2.2 hdg (kk H locs ls hR' hL hq hv)
end SGH
/-! contracts: a method that returns (Post: its answer, its world) or throws (X: what, its world) -/
def sg_Q (g : sg_G) (Post : Option Value → (Nat → Option va_E) → Prop) : Array Value → State → Outcome → State → Prop := fun _ _ o t => ∃ v C', o = .returned v ∧ Post v C' ∧ sg_Rp g C' t.heap ∧ sg_Lo g t.heap
def sg_X (g : sg_G) (X : String → (Nat → Option va_E) → Prop) : String → State → State → Prop := fun E _ t => ∃ C', X E C' ∧ sg_Rp g C' t.heap ∧ sg_Lo g t.heap
def sg_Pc (g : sg_G) (C : Nat → Option va_E) : State → Prop := fun U => sg_Rp g C U.heap ∧ sg_Lo g U.heap ∧ sg_KS g U
def sg_rm (fr lo mc ms : Nat) : Room := { frames := fr, cells := mc, slots := ms, locals := lo }
def sg_ws (y : MethodName) (cc : ByteArray) (maxL : Nat) (ret : Option FieldType) : List Cond := Cond.code y cc maxL ret :: sg_T
def sg_Met (l : Launch) (y : MethodName) (cc : ByteArray) (maxL : Nat) (ret : Option FieldType) (fr lo mc ms : Nat) (g : sg_G) (As : List Value) (C : Nat → Option va_E) (Post : Option Value → (Nat → Option va_E) → Prop) (X : String → (Nat → Option va_E) → Prop) : Prop :=
  vx_Met l y (sg_ws y cc maxL ret) (sg_rm fr lo mc ms) (va_Pc As (sg_Pc g C)) (sg_Q g Post) (sg_X g X) mc ms (fun q => g.2.2.1.size ≤ q)
/-- what no method does -/
def sg_no : String → (Nat → Option va_E) → Prop := fun _ _ => False
theorem sg_blind {g : sg_G} {C : Nat → Option va_E} {As : List Value} : FrameBlind (va_Pc As (sg_Pc g C)) := fun a U gg mk q => ⟨q.1, q.2.1, q.2.2.1, sg_KS.same (s := U) (U := U.calling gg mk a) rfl q.2.2.2⟩
theorem sg_pay {s : State} {args : Array Value} (hts : ∀ w ∈ sg_T, w.before args s = true) {w : Cond} (hw : w ∈ sg_T) : ∀ (a' : Array Value) (U : State), s.WarmedH U.vm → w.before a' U = true :=
  fun a' U hW => word_at hW (good_of_word (List.mem_filter.mp hw).2) (hts _ hw)
theorem sg_payA {s : State} {args : Array Value} (hts : ∀ w ∈ sg_T, w.before args s = true) {y : MethodName} {cc : ByteArray} {maxL : Nat} {ret : Option FieldType} (hy : Cond.code y cc maxL ret ∈ sg_T) : ∀ w ∈ sg_ws y cc maxL ret, ∀ (a' : Array Value) (U : State), s.WarmedH U.vm → w.before a' U = true := by
  intro w hw
  rcases List.mem_cons.mp hw with rfl | hw
  · exact sg_pay hts hy
  · exact sg_pay hts hw
/-- what the tables say of a method that is called by its own name: its code, that its class is there, the number of its arguments -/
def sg_MD (y : MethodName) (cc : ByteArray) (maxL : Nat) (ret : Option FieldType) (n : Nat) : Prop := Cond.code y cc maxL ret ∈ sg_T ∧ Cond.initialized y.cls ∈ sg_T ∧ (y.cls ≠ "java/lang/invoke/MethodHandle" ∧ y.cls ≠ "java/lang/invoke/VarHandle") ∧ (parseMethodDescriptor y.desc).map (fun d => d.parameters.length) = some n
/-- how it is linked from here -/
def sg_ML (own : String) (idx : Nat) (y : MethodName) : Prop := Cond.methodLink own idx y ∈ sg_T ∨ ∃ host, Cond.methodLinkNest own idx y host ∈ sg_N
section SGC
variable {p : Program} {l : Launch} {e : Env} {R : Room} {s : State} {m : MethodId} {args : Array Value} {below : List Frame} {meth : Method} {c : Code} {cells slots : Nat} {Q : State → Prop}
variable {cc : ByteArray} {nL : Nat} {own : String} {g : sg_G} {C C0 : Nat → Option va_E} {pc : Nat} {lv lv' : List (Nat × Value)} {rest : List Value} {H : Heap}
variable {y : MethodName} {bytes : ByteArray} {maxL fr lo mc ms n idx : Nat} {ret : Option FieldType} {As : List Value} {Post : Option Value → (Nat → Option va_E) → Prop} {X : String → (Nat → Option va_E) → Prop}
/-- a throw that has come to this frame -/
def sg_WX (p : Program) (l : Launch) (e : Env) (R : Room) (s : State) (m : MethodId) (args : Array Value) (below : List Frame) (meth : Method) (c : Code) (nL : Nat) (g : sg_G) (cells slots : Nat) (Q : State → Prop) (C : Nat → Option va_E) (pc : Nat) (lv : List (Nat × Value)) (E : String) : Prop :=
  ∀ (H : Heap) (locs : List Loc) (ls : Array Slot) (st : List Value) (q : Addr) (ce : Cell), sg_Rp g C H → sg_Lo g H → (∀ q ∈ locs, g.2.2.1.size ≤ q.base) → lv_has ls nL lv → H[q]? = some ce → ce.vm = .none → s.vm.findClass E = some ce.cls → vx_W p l e R s m args below meth c H locs cells slots Q (F0 m pc ls st) q
theorem sg_len (hd : (parseMethodDescriptor y.desc).map (fun d => d.parameters.length) = some n) : ∀ sig, parseMethodDescriptor y.desc = some sig → n = sig.parameters.length := by
  intro sig h
  rw [h] at hd
  exact (Option.some.inj hd).symm
theorem sg_after {st0 : List Value} {ls : Array Slot} {locs : List Loc} {a : Array Value} (hr : vx_Run p l e R s m args below meth c H locs cells slots mc ms (F0 m pc ls st0) rest (sg_Q g Post a) (sg_X g X) (fun q => g.2.2.1.size ≤ q)) (hq : ∀ q ∈ locs, g.2.2.1.size ≤ q.base) (hl : lv_has ls nL lv)
    (kr : ∀ v C', Post v C' → sg_W p l e R s m args below meth c nL g (cells + mc) (slots + ms) Q C' (pc + 3) lv (v.toList ++ rest)) (kx : ∀ E C', X E C' → sg_WX p l e R s m args below meth c nL g (cells + mc) (slots + ms) Q C' pc lv E) : W p l e R s m args below meth c H locs cells slots Q (F0 m pc ls st0) := by
  intro T hT XX
  have hloc : ∀ L : List Loc, (∀ q ∈ L, g.2.2.1.size ≤ q.base) → ∀ q ∈ locs ++ L, g.2.2.1.size ≤ q.base := fun L hL q h => (List.mem_append.mp h).elim (hq q) (hL q)
  rcases hr T hT XX with ⟨v, st₀, t, T', L, h0, X', hL, e1, e2, ⟨v', C', hv, hP, hR', hLo⟩, st⟩ | ⟨q, st₀, t, T', L, E, ce, h0, X', hL, e1, e2, ⟨C', hXC, hR', hLo⟩, hce, hcv, hcl, st⟩
  · cases hv
    rw [← e1] at hR' hLo
    obtain ⟨t2, a1, b1⟩ := kr v C' hP T'.heap (locs ++ L) ls hR' hLo (hloc L hL) hl T' rfl X'
    exact ⟨t2, st t2 a1, b1⟩
  · rw [← e1] at hR' hLo hce
    obtain ⟨t2, a1, b1⟩ := kx E C' hXC T'.heap (locs ++ L) ls rest q ce hR' hLo (hloc L hL) hl hce hcv hcl T' rfl X'
    exact ⟨t2, st.trans a1, b1⟩
theorem sg_fix (hc : sg_Cx p s m args c cc nL own g) : CallFix p m c cc nL s args sg_T own := ⟨hc.1, hc.2.1, hc.2.2.1, hc.2.2.2.1, hc.2.2.2.2.1⟩
theorem sg_recv (hc : sg_Cx p s m args c cc nL own g) (hR : sg_Rp g C H) {b ci : Nat} {r : vw_C} {fs : List Value} (hb : C b = some (.inr (ci, fs))) (hcl : vwCl[ci]? = some r) : ∃ cellB : Cell, H[b]? = some cellB ∧ cellB.vm.isStatics = false ∧ s.vm.findClass r.1 = some cellB.cls :=
  va_recv hc.2.2.2.2.2.1.1 (hR.one hb) (q0 := 0) hcl rfl
theorem sg_pre (hc : sg_Cx p s m args c cc nL own g) (hR : sg_Rp g C H) (hL : sg_Lo g H) : ∀ U : State, U.heap = H → s.WarmedH U.vm → va_Pc As (sg_Pc g C) As.toArray U :=
  fun U hU hW => ⟨rfl, by rw [hU]; exact hR, by rw [hU]; exact hL, sg_KS.warm hW ⟨hc.2.2.2.2.2.1, hc.2.2.2.2.2.2.1⟩⟩
/-- a method of an object, called by its name -/
theorem sw_callV (hc : sg_Cx p s m args c cc nL own g) {b ci : Nat} {T : u_T} {N : Nat} {fs : List Value} (hM : sg_Met l y bytes maxL ret fr lo mc ms g (.ref b :: As) C Post X) (hd : sg_MD y bytes maxL ret n) (hl : sg_ML own idx y) (hi : Cond.instanceMethod y ∈ sg_T) (hs : Cond.selects y.cls y y ∈ sg_T) (hb : C b = some (.inr (ci, fs))) (hcl : vwCl[ci]? = some (y.cls, T, N))
    (hn : As.length = n) {st : List Value} (hst : As.reverse ++ .ref b :: rest = st) (hW : (rest.map fun v => v.category).sum ≤ 8) (hdg : decode cc pc = .ok (.invokevirtual idx, 3)) (hRm : fr + 1 ≤ R.frames ∧ 19 + maxL + lo ≤ R.locals ∧ cells + mc ≤ R.cells ∧ slots + ms ≤ R.slots)
    (kr : ∀ v C', Post v C' → sg_W p l e R s m args below meth c nL g (cells + mc) (slots + ms) Q C' (pc + 3) lv (v.toList ++ rest)) (kx : ∀ E C', X E C' → sg_WX p l e R s m args below meth c nL g (cells + mc) (slots + ms) Q C' pc lv E) : sg_W p l e R s m args below meth c nL g cells slots Q C pc lv st := by
  intro H locs ls hR hL hq hlv
  have hts := hc.2.2.2.2.1
  have hR2 : 8 + (maxL + 11) + lo ≤ R.locals := by omega
  subst hst
  rcases hl with hl | ⟨host, hl⟩
  · exact sg_after (vx_runV (sg_fix hc) hM (C := y.cls) ⟨⟨rfl, rfl, hRm.1, hR2, sg_payA hts hd.1, List.mem_cons_self, hts _ hd.1, hts _ hd.2.1, hd.2.2.1, sg_len hd.2.2.2, hts _ hl⟩, hts _ hi, hts _ hs⟩ ⟨sg_blind, sg_recv hc hR hb hcl, sg_pre hc hR hL⟩ rfl hn hlv.1 rfl (by show 2 * 0 + _ ≤ 8; omega) hdg hRm.2.2) hq hlv kr kx
  · exact sg_after (vx_runVN (sg_fix hc) hM (C := y.cls) ⟨⟨⟨rfl, rfl, hRm.1, hR2, sg_payA hts hd.1, List.mem_cons_self⟩, hts _ hd.1, hts _ hd.2.1, hd.2.2.1, sg_len hd.2.2.2, va_Nw.use rfl (hc.2.2.2.2.2.1.2 _ hl)⟩, hts _ hi, hts _ hs⟩ ⟨sg_blind, sg_recv hc hR hb hcl, sg_pre hc hR hL⟩ rfl hn hlv.1 rfl (by show 2 * 0 + _ ≤ 8; omega) hdg hRm.2.2) hq hlv kr kx
/-- a static one -/
theorem sw_callS (hc : sg_Cx p s m args c cc nL own g) (hM : sg_Met l y bytes maxL ret fr lo mc ms g As C Post X) (hd : sg_MD y bytes maxL ret n) (hl : sg_ML own idx y) (hi : Cond.static y ∈ sg_T)
    (hn : As.length = n) {st : List Value} (hst : As.reverse ++ rest = st) (hW : (rest.map fun v => v.category).sum ≤ 8) (hdg : decode cc pc = .ok (.invokestatic idx, 3)) (hRm : fr + 1 ≤ R.frames ∧ 19 + maxL + lo ≤ R.locals ∧ cells + mc ≤ R.cells ∧ slots + ms ≤ R.slots)
    (kr : ∀ v C', Post v C' → sg_W p l e R s m args below meth c nL g (cells + mc) (slots + ms) Q C' (pc + 3) lv (v.toList ++ rest)) (kx : ∀ E C', X E C' → sg_WX p l e R s m args below meth c nL g (cells + mc) (slots + ms) Q C' pc lv E) : sg_W p l e R s m args below meth c nL g cells slots Q C pc lv st := by
  intro H locs ls hR hL hq hlv
  have hts := hc.2.2.2.2.1
  have hR2 : 8 + (maxL + 11) + lo ≤ R.locals := by omega
  subst hst
  rcases hl with hl | ⟨host, hl⟩
  · exact sg_after (vx_runS (sg_fix hc) hM ⟨⟨rfl, rfl, hRm.1, hR2, sg_payA hts hd.1, List.mem_cons_self, hts _ hd.1, hts _ hd.2.1, hd.2.2.1, sg_len hd.2.2.2, hts _ hl⟩, hts _ hi⟩ ⟨sg_blind, sg_pre hc hR hL⟩ rfl hn hlv.1 rfl (by show 2 * 0 + _ ≤ 8; omega) hdg hRm.2.2) hq hlv kr kx
  · exact sg_after (vx_runSN (sg_fix hc) hM ⟨⟨⟨rfl, rfl, hRm.1, hR2, sg_payA hts hd.1, List.mem_cons_self⟩, hts _ hd.1, hts _ hd.2.1, hd.2.2.1, sg_len hd.2.2.2, va_Nw.use rfl (hc.2.2.2.2.2.1.2 _ hl)⟩, hts _ hi, trivial⟩ ⟨sg_blind, sg_pre hc hR hL⟩ rfl hn hlv.1 rfl (by show 2 * 0 + _ ≤ 8; omega) hdg hRm.2.2) hq hlv kr kx
/-- a constructor -/
theorem sw_callI (hc : sg_Cx p s m args c cc nL own g) {b : Nat} (hM : sg_Met l y bytes maxL none fr lo mc ms g (.ref b :: As) C Post X) (hd : sg_MD y bytes maxL none n) (hl : sg_ML own idx y) (hi : Cond.instanceMethod y ∈ sg_T) (hy : y.name = "<init>")
    (hn : As.length = n) {st : List Value} (hst : As.reverse ++ .ref b :: rest = st) (hW : (rest.map fun v => v.category).sum ≤ 8) (hdg : decode cc pc = .ok (.invokespecial idx, 3)) (hRm : fr + 1 ≤ R.frames ∧ 19 + maxL + lo ≤ R.locals ∧ cells + mc ≤ R.cells ∧ slots + ms ≤ R.slots)
    (kr : ∀ v C', Post v C' → sg_W p l e R s m args below meth c nL g (cells + mc) (slots + ms) Q C' (pc + 3) lv (v.toList ++ rest)) (kx : ∀ E C', X E C' → sg_WX p l e R s m args below meth c nL g (cells + mc) (slots + ms) Q C' pc lv E) : sg_W p l e R s m args below meth c nL g cells slots Q C pc lv st := by
  intro H locs ls hR hL hq hlv
  have hts := hc.2.2.2.2.1
  have hR2 : 8 + (maxL + 11) + lo ≤ R.locals := by omega
  subst hst
  rcases hl with hl | ⟨host, hl⟩
  · exact sg_after (vx_runI (sg_fix hc) hM ⟨⟨rfl, rfl, hRm.1, hR2, sg_payA hts hd.1, List.mem_cons_self, hts _ hd.1, hts _ hd.2.1, hd.2.2.1, sg_len hd.2.2.2, hts _ hl⟩, hy, hts _ hi⟩ ⟨sg_blind, sg_pre hc hR hL⟩ rfl hn hlv.1 rfl (by show 2 * 0 + _ ≤ 8; omega) hdg hRm.2.2) hq hlv kr kx
  · exact sg_after (vx_runIN (sg_fix hc) hM ⟨⟨⟨rfl, rfl, hRm.1, hR2, sg_payA hts hd.1, List.mem_cons_self⟩, hts _ hd.1, hts _ hd.2.1, hd.2.2.1, sg_len hd.2.2.2, va_Nw.use rfl (hc.2.2.2.2.2.1.2 _ hl)⟩, hy, hts _ hi⟩ ⟨sg_blind, sg_pre hc hR hL⟩ rfl hn hlv.1 rfl (by show 2 * 0 + _ ≤ 8; omega) hdg hRm.2.2) hq hlv kr kx
/-! the ends -/
abbrev sg_End (below : List Frame) (g : sg_G) (Post : Option Value → (Nat → Option va_E) → Prop) (X : String → (Nat → Option va_E) → Prop) (args : Array Value) (s : State) (mc ms : Nat) : State → Prop := vx_MQ below (sg_Q g Post) (sg_X g X) args s mc ms (fun q => g.2.2.1.size ≤ q)
theorem sg_qed {v : Option Value} (hP : Post v C) (hR : sg_Rp g C H) (hL : sg_Lo g H) : ∀ t : State, t.heap = H → s.WarmedH t.vm → sg_Q g Post args s (.returned v) t :=
  fun t ht _ => ⟨v, C, rfl, hP, by rw [ht]; exact hR, by rw [ht]; exact hL⟩
theorem sw_iret (hc : sg_Cx p s m args c cc nL own g) (hk : meth.locks = false) {ty : FieldType} (hr : meth.sig.returnType = some ty) {v : Int32} (hn : narrow ty (.int v) = .int v) (hP : Post (some (.int v)) C) (h1 : cells ≤ mc) (h2 : slots ≤ ms) (hdg : decode cc pc = .ok (.ireturn, 1)) : sg_W p l e R s m args below meth c nL g cells slots (sg_End below g Post X args s mc ms) C pc lv [.int v] :=
  fun H locs ls hR hL hq hv => W.widen h1 h2 (vx_ret (W.zret hc.1 hc.2.1 hr hn (sg_qed hP hR hL) hq hdg hk))
theorem sw_aret (hc : sg_Cx p s m args c cc nL own g) (hk : meth.locks = false) {rt : FieldType} (hr : meth.sig.returnType = some rt) (hrt : (∃ n, rt = .object n) ∨ ∃ t, rt = .array t) {v : Value} (hv : v = .null ∨ ∃ a, v = .ref a) (hP : Post (some v) C) (h1 : cells ≤ mc) (h2 : slots ≤ ms) (hdg : decode cc pc = .ok (.areturn, 1)) : sg_W p l e R s m args below meth c nL g cells slots (sg_End below g Post X args s mc ms) C pc lv [v] :=
  fun H locs ls hR hL hq _ => W.widen h1 h2 (vx_ret (W.aret hc.1 hc.2.1 hr hrt hv (sg_qed hP hR hL) hq hdg hk))
theorem sw_vret (hc : sg_Cx p s m args c cc nL own g) (hk : meth.locks = false) (hr : meth.sig.returnType = none) (hP : Post none C) (h1 : cells ≤ mc) (h2 : slots ≤ ms) (hdg : decode cc pc = .ok (.return_, 1)) : sg_W p l e R s m args below meth c nL g cells slots (sg_End below g Post X args s mc ms) C pc lv [] :=
  fun H locs ls hR hL hq _ => W.widen h1 h2 (vx_ret (W.vret hc.1 hc.2.1 hr (sg_qed hP hR hL) hq hdg hk))
/-- a throw leaves a method that has no table -/
theorem sx_out (ht : ∀ x ∈ c.exceptionTable.toList, False) (hk : meth.locks = false) {E : String} (hX : X E C) (h1 : cells ≤ mc) (h2 : slots ≤ ms) : sg_WX p l e R s m args below meth c nL g cells slots (sg_End below g Post X args s mc ms) C pc lv E :=
  fun H locs ls st q ce hR hL hq _ hce hcv hcl => vx_out (fun x hx => (ht x hx).elim) hk hce hcv hcl (fun t ht _ => ⟨C, hX, by rw [ht]; exact hR, by rw [ht]; exact hL⟩) hq h1 h2
/-- a contract, out of the walk of a body without a table -/
theorem sg_ofW {maxL' : Nat} (hy : plainName y.cls = true) (hml : maxL' = maxL)
    (body : ∀ p e s m below meth c, sg_Cx p s m As.toArray c bytes maxL y.cls g → meth.locks = false → meth.sig.returnType = ret → meth.name = y.name → (∀ x ∈ c.exceptionTable.toList, False) →
      sg_W p l e (sg_rm fr lo mc ms) s m As.toArray below meth c maxL g 0 0 (sg_End below g Post X As.toArray s mc ms) C 0 (lv_args 0 As) []) (hA : (lg_sl As).length ≤ maxL) : sg_Met l y bytes maxL ret fr lo mc ms g As C Post X := by
  refine vx_ofW hy rfl ?_
  intro p e s m args below meth c s₁ B hml ht hPc
  obtain ⟨rfl, hR, hL, hK⟩ := hPc
  have hts := atoms_spec (ws := sg_ws y bytes maxL ret) B.pre
  have hcx : sg_Cx p s m As.toArray c bytes maxL y.cls g := ⟨B.exec, B.bytes, hml, findClass_of_methodNamed B.named, fun w hw => hts w (List.mem_cons_of_mem _ hw), hK.1, hK.2, hL⟩
  have h0 := body p e s m below meth c hcx B.notSynchronized B.returns (name_of_methodNamed B.named B.method).1 ht s.heap [] _ hR hL (fun q h => by cases h) (lv_entry As (n := maxL) hA)
  rw [lg_entry_eq]
  exact h0
end SGC
/-! for the program that writes walks -/
def st1 (f : Nat → Int32) (k : Nat) (v : Int32) : Nat → Int32 := fun j => cond (Nat.beq j k) v (f j)
theorem st1_a (f : Nat → Int32) (k : Nat) (v : Int32) (j : Nat) : st1 f k v j = cond (j == k) v (f j) := by
  have h : Nat.beq j k = (j == k) := by rw [Bool.eq_iff_iff, Nat.beq_eq, beq_iff_eq]
  show cond (Nat.beq j k) v (f j) = _
  rw [h]
def bI (P : Prop) [Decidable P] : Int32 := if P then 1 else 0
theorem bI_0 {P : Prop} [Decidable P] (h : bI P = 0) : ¬ P := fun q => by rw [bI, if_pos q] at h; exact absurd h (by decide)
theorem bI_n {P : Prop} [Decidable P] (h : ¬ bI P = 0) : P := by
  by_cases q : P
  · exact q
  · exact absurd (by rw [bI, if_neg q]) h
theorem bI_01 {P : Prop} [Decidable P] : bI P = 0 ∨ bI P = 1 := by unfold bI; split; exact Or.inr rfl; exact Or.inl rfl
theorem bI_nar {P : Prop} [Decidable P] : narrow .boolean (.int (bI P)) = .int (bI P) := by unfold bI; split <;> rfl
theorem nar_01 {x : Int32} (h : x = 0 ∨ x = 1) : narrow .boolean (.int x) = .int x := by rcases h with rfl | rfl <;> rfl
theorem fit_01 {x : Int32} (h : x = 0 ∨ x = 1) : fits .boolean (.int x) = true := by rcases h with rfl | rfl <;> rfl
theorem bI_t {P : Prop} [Decidable P] (h : P) : bI P = 1 := if_pos h
theorem bI_f {P : Prop} [Decidable P] (h : ¬ P) : bI P = 0 := if_neg h
def sg_kd (x : va_E) : Nat := match x with
  | .inl (_, _, .inl _) => 100
  | .inl (_, _, .inr (.inl _)) => 101
  | .inl (_, _, .inr (.inr _)) => 102
  | .inr (ci, _) => ci
theorem sg_ne {C : Nat → Option va_E} {a b : Nat} {x y : va_E} (h1 : C a = some x) (h2 : C b = some y) (h : sg_kd x ≠ sg_kd y) : a ≠ b := fun q => h (by rw [q] at h1; rw [Option.some.inj (h1.symm.trans h2)])
theorem sg_nin {a b : Nat} {l : List Nat} (h : a ≠ b) (h2 : a ∉ l) : a ∉ b :: l := fun q => (List.mem_cons.mp q).elim h h2
theorem sg_ov_self2 {C : Nat → Option va_E} {l : va_W} (h : ∀ q ∈ l, C q.1 = some q.2) : sg_ov C l = C := sg_ov_self fun _ q hq => h q (List.mem_of_getElem? hq)
section SGO
variable {p : Program} {l : Launch} {e : Env} {R : Room} {s : State} {m : MethodId} {args : Array Value} {below : List Frame} {meth : Method} {c : Code} {cells slots : Nat} {Q : State → Prop}
variable {cc : ByteArray} {nL : Nat} {own : String} {g : sg_G} {C : Nat → Option va_E} {pc : Nat} {lv lv' : List (Nat × Value)} {rest st st' : List Value} {L l' : va_W}
theorem sw_st (h : st = st') (kk : sg_W p l e R s m args below meth c nL g cells slots Q C pc lv st') : sg_W p l e R s m args below meth c nL g cells slots Q C pc lv st := h ▸ kk
theorem sw_putO (hc : sg_Cx p s m args c cc nL own g) {idx ci k q0 a : Nat} {ty : FieldType} {fs fs' : List Value} (hf : sg_FL own idx ci k) (ht : sg_TY ci) (hp : sg_FP ci k false ty) (hN : sg_nd (L.map Prod.fst)) (hj : L[q0]? = some (a, .inr (ci, fs))) {v : Value} (hn : narrow ty v = v) (hfit : fits ty v = true) (hlen : k < fs.length) (hfs : fs.set k v = fs') (hl : L.set q0 (a, .inr (ci, fs')) = l') (hdg : decode cc pc = .ok (.putfield idx, 3))
    (kk : sg_W p l e R s m args below meth c nL g cells slots Q (sg_ov C l') (pc + 3) lv rest) : sg_W p l e R s m args below meth c nL g cells slots Q (sg_ov C L) pc lv (v :: .ref a :: rest) := by
  subst hl
  refine sw_put hc hf ht hp (sg_ov_at hN hj) hn hfit hlen hfs hdg ?_
  rw [sg_ov_set hN hj]
  exact kk
theorem sw_iastO (hc : sg_Cx p s m args c cc nL own g) {a n j q0 : Nat} {f : Nat → Int32} {i x : Int32} (hN : sg_nd (L.map Prod.fst)) (hq : L[q0]? = some (a, sg_ia g n f)) (hi : i = nI j) (hj : j < n) (hn : n ≤ 100000) (hl : L.set q0 (a, sg_ia g n (upd f j x)) = l') (hdg : decode cc pc = .ok (.iastore, 1))
    (kk : sg_W p l e R s m args below meth c nL g cells slots Q (sg_ov C l') (pc + 1) lv rest) : sg_W p l e R s m args below meth c nL g cells slots Q (sg_ov C L) pc lv (.int x :: .int i :: .ref a :: rest) := by
  subst hl
  refine sw_iast hc (sg_ov_at hN hq) hi hj hn hdg ?_
  rw [sg_ov_set hN hq]
  exact kk
theorem sw_zastO (hc : sg_Cx p s m args c cc nL own g) {a n j q0 : Nat} {f : Nat → Int32} {i x : Int32} (hN : sg_nd (L.map Prod.fst)) (hq : L[q0]? = some (a, sg_za g n f)) (hi : i = nI j) (hj : j < n) (hn : n ≤ 100000) (hx : x = 0 ∨ x = 1) (hl : L.set q0 (a, sg_za g n (upd f j x)) = l') (hdg : decode cc pc = .ok (.bastore, 1))
    (kk : sg_W p l e R s m args below meth c nL g cells slots Q (sg_ov C l') (pc + 1) lv rest) : sg_W p l e R s m args below meth c nL g cells slots Q (sg_ov C L) pc lv (.int x :: .int i :: .ref a :: rest) := by
  subst hl
  refine sw_zast hc (sg_ov_at hN hq) hi hj hn hx hdg ?_
  rw [sg_ov_set hN hq]
  exact kk
end SGO
