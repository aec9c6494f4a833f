/-! methods with a table of handlers; the law's own calls -/
def sg_wsH (y : MethodName) (cc : ByteArray) (maxL : Nat) (ret : Option FieldType) (hh : List (Nat × Nat × Nat × Nat)) : List Cond := Cond.codeWith y cc maxL ret hh :: sg_T
def sg_MetH (l : Launch) (y : MethodName) (cc : ByteArray) (maxL : Nat) (ret : Option FieldType) (hh : List (Nat × Nat × Nat × Nat)) (fr lo mc ms : Nat) (g : sg_G) (As : List Value) (C : Nat → Option va_E) (Post : Option Value → (Nat → Option va_E) → Prop) : Prop :=
  vx_Met l y (sg_wsH y cc maxL ret hh) (sg_rm fr lo mc ms) (va_Pc As (sg_Pc g C)) (sg_Q g Post) (sg_X g sg_no) mc ms (fun q => g.2.2.1.size ≤ q)
def sg_MDH (y : MethodName) (cc : ByteArray) (maxL : Nat) (ret : Option FieldType) (hh : List (Nat × Nat × Nat × Nat)) (n : Nat) : Prop := Cond.codeWith y cc maxL ret hh ∈ sg_T ∧ Cond.initialized y.cls ∈ sg_T ∧ (y.cls ≠ "java/lang/invoke/MethodHandle" ∧ y.cls ≠ "java/lang/invoke/VarHandle") ∧ (parseMethodDescriptor y.desc).map (fun d => d.parameters.length) = some n
section LAWF
variable {p : Program} {l : Launch} {e : Env} {R : Room} {s : State} {m : MethodId} {args : Array Value} {below : List Frame} {meth : Method} {c : Code} {cells slots : Nat} {Q : State → Prop}
variable {cc : ByteArray} {nL : Nat} {own : String} {g : sg_G} {C : Nat → Option va_E} {pc : Nat} {lv lv' : List (Nat × Value)} {rest : List Value} {H : Heap}
variable {y : MethodName} {bytes : ByteArray} {maxL fr lo mc ms n idx : Nat} {ret : Option FieldType} {hh : List (Nat × Nat × Nat × Nat)} {As : List Value} {Post : Option Value → (Nat → Option va_E) → Prop}
theorem sg_ofWH {maxL' : Nat} (hy : plainName y.cls = true) (hml : maxL' = maxL)
    (body : ∀ p e s m below meth c, sg_Cx p s m As.toArray c bytes maxL y.cls g → meth.locks = false → meth.sig.returnType = ret → c.exceptionTable.toList = tableOf hh →
      sg_W p l e (sg_rm fr lo mc ms) s m As.toArray below meth c maxL g 0 0 (sg_End below g Post sg_no As.toArray s mc ms) C 0 (lv_args 0 As) []) (hA : (lg_sl As).length ≤ maxL) : sg_MetH l y bytes maxL ret hh fr lo mc ms g As C Post := by
  refine vx_ofWH hy rfl ?_
  intro p e s m args below meth c s₁ B hml hPc
  obtain ⟨rfl, hR, hL, hK⟩ := hPc
  have hts := atoms_spec (ws := sg_wsH y bytes maxL ret hh) B.pre
  have hcx : sg_Cx p s m As.toArray c bytes maxL y.cls g := ⟨B.exec, B.bytes, hml, findClass_of_methodNamed B.named, fun w hw => hts w (List.mem_cons_of_mem _ hw), hK.1, hK.2, hL⟩
  have h0 := body p e s m below meth c hcx B.notSynchronized B.returns (vx_table (x := x) B (hts _ List.mem_cons_self)) s.heap [] _ hR hL (fun q h => by cases h) (lv_entry As (n := maxL) hA)
  rw [lg_entry_eq]
  exact h0
theorem sg_payH {s : State} {args : Array Value} (hts : ∀ w ∈ sg_T, w.before args s = true) (hy : Cond.codeWith y bytes maxL ret hh ∈ sg_T) : ∀ w ∈ sg_wsH y bytes maxL ret hh, ∀ (a' : Array Value) (U : State), s.WarmedH U.vm → w.before a' U = true := by
  intro w hw
  rcases List.mem_cons.mp hw with rfl | hw
  · exact sg_pay hts hy
  · exact sg_pay hts hw
theorem sw_callSX (hc : sg_Cx p s m args c cc nL own g) (hM : sg_MetH l y bytes maxL ret hh fr lo mc ms g As C Post) (hd : sg_MDH y bytes maxL ret hh n) (hl : Cond.methodLink own idx y ∈ sg_T) (hi : Cond.static y ∈ sg_T)
    (hn : As.length = n) {st : List Value} (hst : As.reverse ++ rest = st) (hW : (rest.map fun v => v.category).sum ≤ 8) (hdg : decode cc pc = .ok (.invokestatic idx, 3)) (hRm : fr + 1 ≤ R.frames ∧ 19 + maxL + lo ≤ R.locals ∧ cells + mc ≤ R.cells ∧ slots + ms ≤ R.slots)
    (kr : ∀ v C', Post v C' → sg_W p l e R s m args below meth c nL g (cells + mc) (slots + ms) Q C' (pc + 3) lv (v.toList ++ rest)) : sg_W p l e R s m args below meth c nL g cells slots Q C pc lv st := by
  intro H locs ls hR hL hq hlv
  have hts := hc.2.2.2.2.1
  have hR2 : 8 + (maxL + 11) + lo ≤ R.locals := by omega
  subst hst
  exact sg_after (vx_runSX (sg_fix hc) hM ⟨⟨rfl, rfl, hRm.1, hR2, sg_payH hts hd.1, List.mem_cons_self⟩, hts _ hd.1, hts _ hd.2.1, hd.2.2.1, sg_len hd.2.2.2, hts _ hl, hts _ hi⟩ ⟨sg_blind, sg_pre hc hR hL⟩ rfl hn hlv.1 rfl (by show 2 * 0 + _ ≤ 8; omega) hdg hRm.2.2) hq hlv kr (fun _ _ h => h.elim)
end LAWF
theorem z_kLevel (σ : Mem)  : kLevel σ = 0 ∨ 0 < kLevel σ := by
  unfold kLevel
  repeat' split
  all_goals first | exact .inl rfl | exact .inr (by decide)
theorem z_kColumn (σ : Mem) (x y h t : Int32) : kColumn σ x y h t = 0 ∨ 0 < kColumn σ x y h t := by
  unfold kColumn
  repeat' split
  all_goals first | exact .inl rfl | exact .inr (by decide)
theorem z_kReplay (σ : Mem) (x : Int32) : kReplay σ x = 0 ∨ 0 < kReplay σ x := by
  unfold kReplay
  repeat' split
  all_goals first | exact .inl rfl | exact .inr (by decide)
theorem z_kInput (σ : Mem) (x b t : Int32) : kInput σ x b t = 0 ∨ 0 < kInput σ x b t := by
  unfold kInput
  repeat' split
  all_goals first | exact .inl rfl | exact .inr (by decide)
theorem z_kIn (σ : Mem) (k : Nat) (x : Int32) : kIn σ k x = 0 ∨ 0 < kIn σ k x := by
  unfold kIn
  repeat' split
  all_goals first | exact .inl rfl | exact .inr (by decide)
theorem z_kWhere (σ : Mem) (x t : Int32) : kWhere σ x t = 0 ∨ 0 < kWhere σ x t := by
  unfold kWhere
  repeat' split
  all_goals first | exact .inl rfl | exact .inr (by decide)
theorem z_kCategory (σ : Mem) (x : Int32) : kCategory σ x = 0 ∨ 0 < kCategory σ x := by
  unfold kCategory
  repeat' split
  all_goals first | exact .inl rfl | exact .inr (by decide)
theorem z_kRule (σ : Mem) (x d f pu j : Int32) : kRule σ x d f pu j = 0 ∨ 0 < kRule σ x d f pu j := by
  unfold kRule
  repeat' split
  all_goals first | exact .inl rfl | exact .inr (by decide)
theorem z_kPass (σ : Mem) (x : Int32) : kPass σ x = 0 ∨ 0 < kPass σ x := by
  unfold kPass
  repeat' split
  all_goals first | exact .inl rfl | exact .inr (by decide)
theorem z_kSubmit (σ : Mem) (υ : Mem) (x y z : Int32) : kSubmit σ υ x y z = 0 ∨ 0 < kSubmit σ υ x y z := by
  unfold kSubmit
  repeat' split
  all_goals first | exact .inl rfl | exact .inr (by decide)
theorem z_kPair (σ : Mem) (x y : Int32) : kPair σ x y = 0 ∨ 0 < kPair σ x y := by
  unfold kPair
  repeat' split
  all_goals first | exact .inl rfl | exact .inr (by decide)
theorem z_kAt (σ : Mem) (x z : Int32) : kAt σ x z = 0 ∨ 0 < kAt σ x z := by
  unfold kAt
  repeat' split
  all_goals first | exact .inl rfl | exact .inr (by decide)
theorem z_kPlan (x : Int32) : kPlan x = 0 ∨ 0 < kPlan x := by
  unfold kPlan
  repeat' split
  all_goals first | exact .inl rfl | exact .inr (by decide)
theorem z_kOffer (σ : Mem) (x y : Int32) : kOffer σ x y = 0 ∨ 0 < kOffer σ x y := by
  unfold kOffer
  repeat' split
  all_goals first | exact .inl rfl | exact .inr (by decide)
theorem z_kGift (σ : Mem) (x a : Int32) : kGift σ x a = 0 ∨ 0 < kGift σ x a := by
  unfold kGift
  repeat' split
  all_goals first | exact .inl rfl | exact .inr (by decide)
/-- an entry of the script -/
def AV (L : Nat) (xs : Nat → Int32) (i a : Int32) : Prop := vp_in i L ∧ xs i.toNatClampNeg = a
section SCR
variable {p : Program} {l : Launch} {e : Env} {R : Room} {s : State} {m : MethodId} {args : Array Value} {below : List Frame} {meth : Method} {c : Code} {cells slots : Nat} {Q : State → Prop}
variable {cc : ByteArray} {nL : Nat} {own : String} {g : sg_G} {C : Nat → Option va_E} {pc : Nat} {lv lv' : List (Nat × Value)} {rest : List Value}
theorem sw_sld (hc : sg_Cx p s m args c cc nL own g) {b L : Nat} {xs : Nat → Int32} (hgs : g.2.2.1 = s.heap) (hX : va_X b L xs s s.heap) (hbl : b < s.heap.size) {i a : Int32} (ha : AV L xs i a) (hdg : decode cc pc = .ok (.iaload, 1))
    (kk : sg_W p l e R s m args below meth c nL g cells slots Q C (pc + 1) lv (.int a :: rest)) : sg_W p l e R s m args below meth c nL g cells slots Q C pc lv (.int i :: .ref b :: rest) := by
  intro H locs ls hR hL hq hl
  obtain ⟨scr, h1, h2, h3, h4, h5⟩ := hX
  have hlt : i.toNatClampNeg < L := Nat.not_le.mp fun q => ha.1 (Or.inr q)
  have hb : H[b]? = some scr := by rw [hL.2 b (by rw [hgs]; exact hbl), hgs]; exact h1
  refine W.iald (v := .int a) hc.1 hc.2.1 hb h2 h3 (by rw [h4]; exact ha.1) ?_ rfl rfl hdg (kk H locs ls hR hL hq hl)
  rw [← ha.2]
  exact h5 _ hlt
theorem sw_slen (hc : sg_Cx p s m args c cc nL own g) {b L : Nat} {xs : Nat → Int32} (hgs : g.2.2.1 = s.heap) (hX : va_X b L xs s s.heap) (hbl : b < s.heap.size) (hdg : decode cc pc = .ok (.arraylength, 1))
    (kk : sg_W p l e R s m args below meth c nL g cells slots Q C (pc + 1) lv (.int (nI L) :: rest)) : sg_W p l e R s m args below meth c nL g cells slots Q C pc lv (.ref b :: rest) := by
  intro H locs ls hR hL hq hl
  obtain ⟨scr, h1, h2, h3, h4, h5⟩ := hX
  have hb : H[b]? = some scr := by rw [hL.2 b (by rw [hgs]; exact hbl), hgs]; exact h1
  exact W.alen (n := nI L) hc.1 hc.2.1 hb h2 (by rw [h4] <;> rfl) rfl rfl hdg (kk H locs ls hR hL hq hl)
end SCR
