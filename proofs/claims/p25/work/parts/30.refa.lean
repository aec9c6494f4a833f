abbrev Mem : Type := Nat → Nat → Int32
def st2 (σ : Mem) (k i : Nat) (v : Int32) : Mem := fun k' i' => cond (Nat.beq k' k && Nat.beq i' i) v (σ k' i')
def mfs (q : Nat → Nat) (σ : Mem) : List Value := [.ref (q 0), .ref (q 1), .int (σ 2 0), .ref (q 3), .ref (q 4), .ref (q 5), .ref (q 6), .ref (q 7), .ref (q 8), .int (σ 9 0), .ref (q 10), .ref (q 11), .ref (q 12), .ref (q 13), .ref (q 14), .ref (q 15), .int (σ 16 0), .ref (q 17), .ref (q 18), .ref (q 19), .ref (q 20), .ref (q 21), .ref (q 22), .ref (q 23), .ref (q 24), .ref (q 25), .int (σ 26 0), .ref (q 27), .ref (q 28), .ref (q 29), .int (σ 30 0), .int (σ 31 0), .int (σ 32 0), .int (σ 33 0), .int (σ 34 0), .int (σ 35 0), .int (σ 36 0), .int (σ 37 0), .int (σ 38 0), .int (σ 39 0), .int (σ 40 0), .int (σ 41 0), .int (σ 42 0)]
def mW (g : sg_G) (m0 : Nat) (q : Nat → Nat) (σ : Mem) : va_W := [(m0, .inr (9, mfs q σ)), (q 0, sg_ia g 96 (σ 0)), (q 1, sg_ia g 96 (σ 1)), (q 3, sg_ia g 20 (σ 3)), (q 4, sg_ia g 20 (σ 4)), (q 5, sg_ia g 20 (σ 5)), (q 6, sg_ia g 20 (σ 6)), (q 7, sg_ia g 400 (σ 7)), (q 8, sg_ia g 400 (σ 8)), (q 10, sg_ia g 6 (σ 10)), (q 11, sg_ia g 6 (σ 11)), (q 12, sg_ia g 60 (σ 12)), (q 13, sg_ia g 60 (σ 13)), (q 14, sg_ia g 60 (σ 14)), (q 15, sg_ia g 60 (σ 15)), (q 17, sg_ia g 40 (σ 17)), (q 18, sg_ia g 40 (σ 18)), (q 19, sg_ia g 40 (σ 19)), (q 20, sg_ia g 40 (σ 20)), (q 21, sg_ia g 40 (σ 21)), (q 22, sg_ia g 40 (σ 22)), (q 23, sg_ia g 40 (σ 23)), (q 24, sg_ia g 40 (σ 24)), (q 25, sg_ia g 40 (σ 25)), (q 27, sg_ia g 10 (σ 27)), (q 28, sg_ia g 10 (σ 28)), (q 29, sg_ia g 10 (σ 29))]
def mN (m0 : Nat) (q : Nat → Nat) : Prop := sg_nd [m0, q 0, q 1, q 3, q 4, q 5, q 6, q 7, q 8, q 10, q 11, q 12, q 13, q 14, q 15, q 17, q 18, q 19, q 20, q 21, q 22, q 23, q 24, q 25, q 27, q 28, q 29]
section MROWS
variable {g : sg_G} {C : Nat → Option va_E} {m0 : Nat} {q : Nat → Nat} {σ : Mem} {j : Nat} {v : Int32}
theorem mW_o (hN : mN m0 q) : sg_ov C (mW g m0 q σ) m0 = some (.inr (9, mfs q σ)) := sg_ov_at (l := mW g m0 q σ) hN (k := 0) rfl
theorem st2_u (σ : Mem) (k i : Nat) (v : Int32) : upd (σ k) i v = st2 σ k i v k := by
  funext x
  show (if x = i then v else σ k x) = cond (Nat.beq k k && Nat.beq x i) v (σ k x)
  rw [Nat.beq_refl, Bool.true_and]
  by_cases h : x = i
  · rw [if_pos h, h, Nat.beq_refl]; rfl
  · rw [if_neg h]
    have : Nat.beq x i = false := by
      cases hb : Nat.beq x i with
      | false => rfl
      | true => exact absurd (Nat.eq_of_beq_eq_true hb) h
    rw [this]; rfl
theorem st2_a (σ : Mem) (k i : Nat) (v : Int32) (k' i' : Nat) : st2 σ k i v k' i' = cond (k' == k && i' == i) v (σ k' i') := by
  have h : ∀ a b : Nat, Nat.beq a b = (a == b) := fun a b => by rw [Bool.eq_iff_iff, Nat.beq_eq, beq_iff_eq]
  show cond (Nat.beq k' k && Nat.beq i' i) v (σ k' i') = _
  rw [h, h]
theorem mW_a0 (hN : mN m0 q) : sg_ov C (mW g m0 q σ) (q 0) = some (sg_ia g 96 (σ 0)) := sg_ov_at (l := mW g m0 q σ) hN (k := 1) rfl
theorem mW_s0 (hN : mN m0 q) : sg_up (sg_ov C (mW g m0 q σ)) (q 0) (sg_ia g 96 (upd (σ 0) j v)) = sg_ov C (mW g m0 q (st2 σ 0 j v)) := by
  rw [st2_u]
  exact sg_ov_set (l := mW g m0 q σ) (e := sg_ia g 96 (st2 σ 0 j v 0)) hN (k := 1) rfl
theorem mW_a1 (hN : mN m0 q) : sg_ov C (mW g m0 q σ) (q 1) = some (sg_ia g 96 (σ 1)) := sg_ov_at (l := mW g m0 q σ) hN (k := 2) rfl
theorem mW_s1 (hN : mN m0 q) : sg_up (sg_ov C (mW g m0 q σ)) (q 1) (sg_ia g 96 (upd (σ 1) j v)) = sg_ov C (mW g m0 q (st2 σ 1 j v)) := by
  rw [st2_u]
  exact sg_ov_set (l := mW g m0 q σ) (e := sg_ia g 96 (st2 σ 1 j v 1)) hN (k := 2) rfl
theorem mW_a3 (hN : mN m0 q) : sg_ov C (mW g m0 q σ) (q 3) = some (sg_ia g 20 (σ 3)) := sg_ov_at (l := mW g m0 q σ) hN (k := 3) rfl
theorem mW_s3 (hN : mN m0 q) : sg_up (sg_ov C (mW g m0 q σ)) (q 3) (sg_ia g 20 (upd (σ 3) j v)) = sg_ov C (mW g m0 q (st2 σ 3 j v)) := by
  rw [st2_u]
  exact sg_ov_set (l := mW g m0 q σ) (e := sg_ia g 20 (st2 σ 3 j v 3)) hN (k := 3) rfl
theorem mW_a4 (hN : mN m0 q) : sg_ov C (mW g m0 q σ) (q 4) = some (sg_ia g 20 (σ 4)) := sg_ov_at (l := mW g m0 q σ) hN (k := 4) rfl
theorem mW_s4 (hN : mN m0 q) : sg_up (sg_ov C (mW g m0 q σ)) (q 4) (sg_ia g 20 (upd (σ 4) j v)) = sg_ov C (mW g m0 q (st2 σ 4 j v)) := by
  rw [st2_u]
  exact sg_ov_set (l := mW g m0 q σ) (e := sg_ia g 20 (st2 σ 4 j v 4)) hN (k := 4) rfl
theorem mW_a5 (hN : mN m0 q) : sg_ov C (mW g m0 q σ) (q 5) = some (sg_ia g 20 (σ 5)) := sg_ov_at (l := mW g m0 q σ) hN (k := 5) rfl
theorem mW_s5 (hN : mN m0 q) : sg_up (sg_ov C (mW g m0 q σ)) (q 5) (sg_ia g 20 (upd (σ 5) j v)) = sg_ov C (mW g m0 q (st2 σ 5 j v)) := by
  rw [st2_u]
  exact sg_ov_set (l := mW g m0 q σ) (e := sg_ia g 20 (st2 σ 5 j v 5)) hN (k := 5) rfl
theorem mW_a6 (hN : mN m0 q) : sg_ov C (mW g m0 q σ) (q 6) = some (sg_ia g 20 (σ 6)) := sg_ov_at (l := mW g m0 q σ) hN (k := 6) rfl
theorem mW_s6 (hN : mN m0 q) : sg_up (sg_ov C (mW g m0 q σ)) (q 6) (sg_ia g 20 (upd (σ 6) j v)) = sg_ov C (mW g m0 q (st2 σ 6 j v)) := by
  rw [st2_u]
  exact sg_ov_set (l := mW g m0 q σ) (e := sg_ia g 20 (st2 σ 6 j v 6)) hN (k := 6) rfl
theorem mW_a7 (hN : mN m0 q) : sg_ov C (mW g m0 q σ) (q 7) = some (sg_ia g 400 (σ 7)) := sg_ov_at (l := mW g m0 q σ) hN (k := 7) rfl
theorem mW_s7 (hN : mN m0 q) : sg_up (sg_ov C (mW g m0 q σ)) (q 7) (sg_ia g 400 (upd (σ 7) j v)) = sg_ov C (mW g m0 q (st2 σ 7 j v)) := by
  rw [st2_u]
  exact sg_ov_set (l := mW g m0 q σ) (e := sg_ia g 400 (st2 σ 7 j v 7)) hN (k := 7) rfl
theorem mW_a8 (hN : mN m0 q) : sg_ov C (mW g m0 q σ) (q 8) = some (sg_ia g 400 (σ 8)) := sg_ov_at (l := mW g m0 q σ) hN (k := 8) rfl
theorem mW_s8 (hN : mN m0 q) : sg_up (sg_ov C (mW g m0 q σ)) (q 8) (sg_ia g 400 (upd (σ 8) j v)) = sg_ov C (mW g m0 q (st2 σ 8 j v)) := by
  rw [st2_u]
  exact sg_ov_set (l := mW g m0 q σ) (e := sg_ia g 400 (st2 σ 8 j v 8)) hN (k := 8) rfl
theorem mW_a10 (hN : mN m0 q) : sg_ov C (mW g m0 q σ) (q 10) = some (sg_ia g 6 (σ 10)) := sg_ov_at (l := mW g m0 q σ) hN (k := 9) rfl
theorem mW_s10 (hN : mN m0 q) : sg_up (sg_ov C (mW g m0 q σ)) (q 10) (sg_ia g 6 (upd (σ 10) j v)) = sg_ov C (mW g m0 q (st2 σ 10 j v)) := by
  rw [st2_u]
  exact sg_ov_set (l := mW g m0 q σ) (e := sg_ia g 6 (st2 σ 10 j v 10)) hN (k := 9) rfl
theorem mW_a11 (hN : mN m0 q) : sg_ov C (mW g m0 q σ) (q 11) = some (sg_ia g 6 (σ 11)) := sg_ov_at (l := mW g m0 q σ) hN (k := 10) rfl
theorem mW_s11 (hN : mN m0 q) : sg_up (sg_ov C (mW g m0 q σ)) (q 11) (sg_ia g 6 (upd (σ 11) j v)) = sg_ov C (mW g m0 q (st2 σ 11 j v)) := by
  rw [st2_u]
  exact sg_ov_set (l := mW g m0 q σ) (e := sg_ia g 6 (st2 σ 11 j v 11)) hN (k := 10) rfl
theorem mW_a12 (hN : mN m0 q) : sg_ov C (mW g m0 q σ) (q 12) = some (sg_ia g 60 (σ 12)) := sg_ov_at (l := mW g m0 q σ) hN (k := 11) rfl
theorem mW_s12 (hN : mN m0 q) : sg_up (sg_ov C (mW g m0 q σ)) (q 12) (sg_ia g 60 (upd (σ 12) j v)) = sg_ov C (mW g m0 q (st2 σ 12 j v)) := by
  rw [st2_u]
  exact sg_ov_set (l := mW g m0 q σ) (e := sg_ia g 60 (st2 σ 12 j v 12)) hN (k := 11) rfl
theorem mW_a13 (hN : mN m0 q) : sg_ov C (mW g m0 q σ) (q 13) = some (sg_ia g 60 (σ 13)) := sg_ov_at (l := mW g m0 q σ) hN (k := 12) rfl
theorem mW_s13 (hN : mN m0 q) : sg_up (sg_ov C (mW g m0 q σ)) (q 13) (sg_ia g 60 (upd (σ 13) j v)) = sg_ov C (mW g m0 q (st2 σ 13 j v)) := by
  rw [st2_u]
  exact sg_ov_set (l := mW g m0 q σ) (e := sg_ia g 60 (st2 σ 13 j v 13)) hN (k := 12) rfl
theorem mW_a14 (hN : mN m0 q) : sg_ov C (mW g m0 q σ) (q 14) = some (sg_ia g 60 (σ 14)) := sg_ov_at (l := mW g m0 q σ) hN (k := 13) rfl
theorem mW_s14 (hN : mN m0 q) : sg_up (sg_ov C (mW g m0 q σ)) (q 14) (sg_ia g 60 (upd (σ 14) j v)) = sg_ov C (mW g m0 q (st2 σ 14 j v)) := by
  rw [st2_u]
  exact sg_ov_set (l := mW g m0 q σ) (e := sg_ia g 60 (st2 σ 14 j v 14)) hN (k := 13) rfl
theorem mW_a15 (hN : mN m0 q) : sg_ov C (mW g m0 q σ) (q 15) = some (sg_ia g 60 (σ 15)) := sg_ov_at (l := mW g m0 q σ) hN (k := 14) rfl
theorem mW_s15 (hN : mN m0 q) : sg_up (sg_ov C (mW g m0 q σ)) (q 15) (sg_ia g 60 (upd (σ 15) j v)) = sg_ov C (mW g m0 q (st2 σ 15 j v)) := by
  rw [st2_u]
  exact sg_ov_set (l := mW g m0 q σ) (e := sg_ia g 60 (st2 σ 15 j v 15)) hN (k := 14) rfl
theorem mW_a17 (hN : mN m0 q) : sg_ov C (mW g m0 q σ) (q 17) = some (sg_ia g 40 (σ 17)) := sg_ov_at (l := mW g m0 q σ) hN (k := 15) rfl
theorem mW_s17 (hN : mN m0 q) : sg_up (sg_ov C (mW g m0 q σ)) (q 17) (sg_ia g 40 (upd (σ 17) j v)) = sg_ov C (mW g m0 q (st2 σ 17 j v)) := by
  rw [st2_u]
  exact sg_ov_set (l := mW g m0 q σ) (e := sg_ia g 40 (st2 σ 17 j v 17)) hN (k := 15) rfl
theorem mW_a18 (hN : mN m0 q) : sg_ov C (mW g m0 q σ) (q 18) = some (sg_ia g 40 (σ 18)) := sg_ov_at (l := mW g m0 q σ) hN (k := 16) rfl
theorem mW_s18 (hN : mN m0 q) : sg_up (sg_ov C (mW g m0 q σ)) (q 18) (sg_ia g 40 (upd (σ 18) j v)) = sg_ov C (mW g m0 q (st2 σ 18 j v)) := by
  rw [st2_u]
  exact sg_ov_set (l := mW g m0 q σ) (e := sg_ia g 40 (st2 σ 18 j v 18)) hN (k := 16) rfl
theorem mW_a19 (hN : mN m0 q) : sg_ov C (mW g m0 q σ) (q 19) = some (sg_ia g 40 (σ 19)) := sg_ov_at (l := mW g m0 q σ) hN (k := 17) rfl
theorem mW_s19 (hN : mN m0 q) : sg_up (sg_ov C (mW g m0 q σ)) (q 19) (sg_ia g 40 (upd (σ 19) j v)) = sg_ov C (mW g m0 q (st2 σ 19 j v)) := by
  rw [st2_u]
  exact sg_ov_set (l := mW g m0 q σ) (e := sg_ia g 40 (st2 σ 19 j v 19)) hN (k := 17) rfl
theorem mW_a20 (hN : mN m0 q) : sg_ov C (mW g m0 q σ) (q 20) = some (sg_ia g 40 (σ 20)) := sg_ov_at (l := mW g m0 q σ) hN (k := 18) rfl
theorem mW_s20 (hN : mN m0 q) : sg_up (sg_ov C (mW g m0 q σ)) (q 20) (sg_ia g 40 (upd (σ 20) j v)) = sg_ov C (mW g m0 q (st2 σ 20 j v)) := by
  rw [st2_u]
  exact sg_ov_set (l := mW g m0 q σ) (e := sg_ia g 40 (st2 σ 20 j v 20)) hN (k := 18) rfl
theorem mW_a21 (hN : mN m0 q) : sg_ov C (mW g m0 q σ) (q 21) = some (sg_ia g 40 (σ 21)) := sg_ov_at (l := mW g m0 q σ) hN (k := 19) rfl
theorem mW_s21 (hN : mN m0 q) : sg_up (sg_ov C (mW g m0 q σ)) (q 21) (sg_ia g 40 (upd (σ 21) j v)) = sg_ov C (mW g m0 q (st2 σ 21 j v)) := by
  rw [st2_u]
  exact sg_ov_set (l := mW g m0 q σ) (e := sg_ia g 40 (st2 σ 21 j v 21)) hN (k := 19) rfl
theorem mW_a22 (hN : mN m0 q) : sg_ov C (mW g m0 q σ) (q 22) = some (sg_ia g 40 (σ 22)) := sg_ov_at (l := mW g m0 q σ) hN (k := 20) rfl
theorem mW_s22 (hN : mN m0 q) : sg_up (sg_ov C (mW g m0 q σ)) (q 22) (sg_ia g 40 (upd (σ 22) j v)) = sg_ov C (mW g m0 q (st2 σ 22 j v)) := by
  rw [st2_u]
  exact sg_ov_set (l := mW g m0 q σ) (e := sg_ia g 40 (st2 σ 22 j v 22)) hN (k := 20) rfl
theorem mW_a23 (hN : mN m0 q) : sg_ov C (mW g m0 q σ) (q 23) = some (sg_ia g 40 (σ 23)) := sg_ov_at (l := mW g m0 q σ) hN (k := 21) rfl
theorem mW_s23 (hN : mN m0 q) : sg_up (sg_ov C (mW g m0 q σ)) (q 23) (sg_ia g 40 (upd (σ 23) j v)) = sg_ov C (mW g m0 q (st2 σ 23 j v)) := by
  rw [st2_u]
  exact sg_ov_set (l := mW g m0 q σ) (e := sg_ia g 40 (st2 σ 23 j v 23)) hN (k := 21) rfl
theorem mW_a24 (hN : mN m0 q) : sg_ov C (mW g m0 q σ) (q 24) = some (sg_ia g 40 (σ 24)) := sg_ov_at (l := mW g m0 q σ) hN (k := 22) rfl
theorem mW_s24 (hN : mN m0 q) : sg_up (sg_ov C (mW g m0 q σ)) (q 24) (sg_ia g 40 (upd (σ 24) j v)) = sg_ov C (mW g m0 q (st2 σ 24 j v)) := by
  rw [st2_u]
  exact sg_ov_set (l := mW g m0 q σ) (e := sg_ia g 40 (st2 σ 24 j v 24)) hN (k := 22) rfl
theorem mW_a25 (hN : mN m0 q) : sg_ov C (mW g m0 q σ) (q 25) = some (sg_ia g 40 (σ 25)) := sg_ov_at (l := mW g m0 q σ) hN (k := 23) rfl
theorem mW_s25 (hN : mN m0 q) : sg_up (sg_ov C (mW g m0 q σ)) (q 25) (sg_ia g 40 (upd (σ 25) j v)) = sg_ov C (mW g m0 q (st2 σ 25 j v)) := by
  rw [st2_u]
  exact sg_ov_set (l := mW g m0 q σ) (e := sg_ia g 40 (st2 σ 25 j v 25)) hN (k := 23) rfl
theorem mW_a27 (hN : mN m0 q) : sg_ov C (mW g m0 q σ) (q 27) = some (sg_ia g 10 (σ 27)) := sg_ov_at (l := mW g m0 q σ) hN (k := 24) rfl
theorem mW_s27 (hN : mN m0 q) : sg_up (sg_ov C (mW g m0 q σ)) (q 27) (sg_ia g 10 (upd (σ 27) j v)) = sg_ov C (mW g m0 q (st2 σ 27 j v)) := by
  rw [st2_u]
  exact sg_ov_set (l := mW g m0 q σ) (e := sg_ia g 10 (st2 σ 27 j v 27)) hN (k := 24) rfl
theorem mW_a28 (hN : mN m0 q) : sg_ov C (mW g m0 q σ) (q 28) = some (sg_ia g 10 (σ 28)) := sg_ov_at (l := mW g m0 q σ) hN (k := 25) rfl
theorem mW_s28 (hN : mN m0 q) : sg_up (sg_ov C (mW g m0 q σ)) (q 28) (sg_ia g 10 (upd (σ 28) j v)) = sg_ov C (mW g m0 q (st2 σ 28 j v)) := by
  rw [st2_u]
  exact sg_ov_set (l := mW g m0 q σ) (e := sg_ia g 10 (st2 σ 28 j v 28)) hN (k := 25) rfl
theorem mW_a29 (hN : mN m0 q) : sg_ov C (mW g m0 q σ) (q 29) = some (sg_ia g 10 (σ 29)) := sg_ov_at (l := mW g m0 q σ) hN (k := 26) rfl
theorem mW_s29 (hN : mN m0 q) : sg_up (sg_ov C (mW g m0 q σ)) (q 29) (sg_ia g 10 (upd (σ 29) j v)) = sg_ov C (mW g m0 q (st2 σ 29 j v)) := by
  rw [st2_u]
  exact sg_ov_set (l := mW g m0 q σ) (e := sg_ia g 10 (st2 σ 29 j v 29)) hN (k := 26) rfl
theorem mW_p2 (hN : mN m0 q) : sg_up (sg_ov C (mW g m0 q σ)) m0 (.inr (9, (mfs q σ).set 2 (.int v))) = sg_ov C (mW g m0 q (st2 σ 2 0 v)) := sg_ov_set (l := mW g m0 q σ) (e := .inr (9, mfs q (st2 σ 2 0 v))) hN (k := 0) rfl
theorem mW_p9 (hN : mN m0 q) : sg_up (sg_ov C (mW g m0 q σ)) m0 (.inr (9, (mfs q σ).set 9 (.int v))) = sg_ov C (mW g m0 q (st2 σ 9 0 v)) := sg_ov_set (l := mW g m0 q σ) (e := .inr (9, mfs q (st2 σ 9 0 v))) hN (k := 0) rfl
theorem mW_p16 (hN : mN m0 q) : sg_up (sg_ov C (mW g m0 q σ)) m0 (.inr (9, (mfs q σ).set 16 (.int v))) = sg_ov C (mW g m0 q (st2 σ 16 0 v)) := sg_ov_set (l := mW g m0 q σ) (e := .inr (9, mfs q (st2 σ 16 0 v))) hN (k := 0) rfl
theorem mW_p26 (hN : mN m0 q) : sg_up (sg_ov C (mW g m0 q σ)) m0 (.inr (9, (mfs q σ).set 26 (.int v))) = sg_ov C (mW g m0 q (st2 σ 26 0 v)) := sg_ov_set (l := mW g m0 q σ) (e := .inr (9, mfs q (st2 σ 26 0 v))) hN (k := 0) rfl
theorem mW_p30 (hN : mN m0 q) : sg_up (sg_ov C (mW g m0 q σ)) m0 (.inr (9, (mfs q σ).set 30 (.int v))) = sg_ov C (mW g m0 q (st2 σ 30 0 v)) := sg_ov_set (l := mW g m0 q σ) (e := .inr (9, mfs q (st2 σ 30 0 v))) hN (k := 0) rfl
theorem mW_p31 (hN : mN m0 q) : sg_up (sg_ov C (mW g m0 q σ)) m0 (.inr (9, (mfs q σ).set 31 (.int v))) = sg_ov C (mW g m0 q (st2 σ 31 0 v)) := sg_ov_set (l := mW g m0 q σ) (e := .inr (9, mfs q (st2 σ 31 0 v))) hN (k := 0) rfl
theorem mW_p32 (hN : mN m0 q) : sg_up (sg_ov C (mW g m0 q σ)) m0 (.inr (9, (mfs q σ).set 32 (.int v))) = sg_ov C (mW g m0 q (st2 σ 32 0 v)) := sg_ov_set (l := mW g m0 q σ) (e := .inr (9, mfs q (st2 σ 32 0 v))) hN (k := 0) rfl
theorem mW_p33 (hN : mN m0 q) : sg_up (sg_ov C (mW g m0 q σ)) m0 (.inr (9, (mfs q σ).set 33 (.int v))) = sg_ov C (mW g m0 q (st2 σ 33 0 v)) := sg_ov_set (l := mW g m0 q σ) (e := .inr (9, mfs q (st2 σ 33 0 v))) hN (k := 0) rfl
theorem mW_p34 (hN : mN m0 q) : sg_up (sg_ov C (mW g m0 q σ)) m0 (.inr (9, (mfs q σ).set 34 (.int v))) = sg_ov C (mW g m0 q (st2 σ 34 0 v)) := sg_ov_set (l := mW g m0 q σ) (e := .inr (9, mfs q (st2 σ 34 0 v))) hN (k := 0) rfl
theorem mW_p35 (hN : mN m0 q) : sg_up (sg_ov C (mW g m0 q σ)) m0 (.inr (9, (mfs q σ).set 35 (.int v))) = sg_ov C (mW g m0 q (st2 σ 35 0 v)) := sg_ov_set (l := mW g m0 q σ) (e := .inr (9, mfs q (st2 σ 35 0 v))) hN (k := 0) rfl
theorem mW_p36 (hN : mN m0 q) : sg_up (sg_ov C (mW g m0 q σ)) m0 (.inr (9, (mfs q σ).set 36 (.int v))) = sg_ov C (mW g m0 q (st2 σ 36 0 v)) := sg_ov_set (l := mW g m0 q σ) (e := .inr (9, mfs q (st2 σ 36 0 v))) hN (k := 0) rfl
theorem mW_p37 (hN : mN m0 q) : sg_up (sg_ov C (mW g m0 q σ)) m0 (.inr (9, (mfs q σ).set 37 (.int v))) = sg_ov C (mW g m0 q (st2 σ 37 0 v)) := sg_ov_set (l := mW g m0 q σ) (e := .inr (9, mfs q (st2 σ 37 0 v))) hN (k := 0) rfl
theorem mW_p38 (hN : mN m0 q) : sg_up (sg_ov C (mW g m0 q σ)) m0 (.inr (9, (mfs q σ).set 38 (.int v))) = sg_ov C (mW g m0 q (st2 σ 38 0 v)) := sg_ov_set (l := mW g m0 q σ) (e := .inr (9, mfs q (st2 σ 38 0 v))) hN (k := 0) rfl
theorem mW_p39 (hN : mN m0 q) : sg_up (sg_ov C (mW g m0 q σ)) m0 (.inr (9, (mfs q σ).set 39 (.int v))) = sg_ov C (mW g m0 q (st2 σ 39 0 v)) := sg_ov_set (l := mW g m0 q σ) (e := .inr (9, mfs q (st2 σ 39 0 v))) hN (k := 0) rfl
theorem mW_p40 (hN : mN m0 q) : sg_up (sg_ov C (mW g m0 q σ)) m0 (.inr (9, (mfs q σ).set 40 (.int v))) = sg_ov C (mW g m0 q (st2 σ 40 0 v)) := sg_ov_set (l := mW g m0 q σ) (e := .inr (9, mfs q (st2 σ 40 0 v))) hN (k := 0) rfl
theorem mW_p41 (hN : mN m0 q) : sg_up (sg_ov C (mW g m0 q σ)) m0 (.inr (9, (mfs q σ).set 41 (.int v))) = sg_ov C (mW g m0 q (st2 σ 41 0 v)) := sg_ov_set (l := mW g m0 q σ) (e := .inr (9, mfs q (st2 σ 41 0 v))) hN (k := 0) rfl
theorem mW_p42 (hN : mN m0 q) : sg_up (sg_ov C (mW g m0 q σ)) m0 (.inr (9, (mfs q σ).set 42 (.int v))) = sg_ov C (mW g m0 q (st2 σ 42 0 v)) := sg_ov_set (l := mW g m0 q σ) (e := .inr (9, mfs q (st2 σ 42 0 v))) hN (k := 0) rfl
end MROWS
theorem nI_ix (k : Nat) {a b : Nat} : nI k * nI a + nI b = nI (k * a + b) := by rw [pk_mul, nI_add]

/-! the reference's small methods -/
abbrev rIn (σ : Mem) (k : Nat) (x : Int32) : Prop := 0 ≤ x ∧ x ≤ σ k 0 - 1
abbrev rGap (σ : Mem) (l c : Nat) : Prop := σ 0 (32 * l + c) < 0
def rGnd (σ : Mem) (l c : Nat) : Int32 := 16 * σ 0 (32 * l + c)
abbrev rWall (σ : Mem) (l c : Nat) : Prop := ¬ rGap σ l c ∧ σ 33 0 < rGnd σ l c
