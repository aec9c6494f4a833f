abbrev Mem : Type := Nat → Nat → Int32
def st2 (σ : Mem) (k i : Nat) (v : Int32) : Mem := fun k' i' => cond (Nat.beq k' k && Nat.beq i' i) v (σ k' i')
def mfs (q : Nat → Nat) (σ : Mem) : List Value := [.ref (q 0), .ref (q 1), .int (σ 2 0), .ref (q 3), .ref (q 4), .ref (q 5), .ref (q 6), .ref (q 7), .ref (q 8), .int (σ 9 0), .ref (q 10), .ref (q 11), .ref (q 12), .ref (q 13), .ref (q 14), .ref (q 15), .int (σ 16 0), .ref (q 17), .ref (q 18), .ref (q 19), .ref (q 20), .ref (q 21), .ref (q 22), .ref (q 23), .ref (q 24), .ref (q 25), .int (σ 26 0), .ref (q 27), .ref (q 28), .ref (q 29), .int (σ 30 0), .int (σ 31 0), .int (σ 32 0), .int (σ 33 0), .int (σ 34 0), .int (σ 35 0), .int (σ 36 0), .int (σ 37 0), .int (σ 38 0), .int (σ 39 0), .int (σ 40 0), .int (σ 41 0), .int (σ 42 0)]
def mW (g : sg_G) (m0 : Nat) (q : Nat → Nat) (σ : Mem) : va_W := [(m0, .inr (9, mfs q σ)), (q 0, sg_ia g 96 (σ 0)), (q 1, sg_ia g 96 (σ 1)), (q 3, sg_ia g 20 (σ 3)), (q 4, sg_ia g 20 (σ 4)), (q 5, sg_ia g 20 (σ 5)), (q 6, sg_ia g 20 (σ 6)), (q 7, sg_ia g 400 (σ 7)), (q 8, sg_ia g 400 (σ 8)), (q 10, sg_ia g 6 (σ 10)), (q 11, sg_ia g 6 (σ 11)), (q 12, sg_ia g 60 (σ 12)), (q 13, sg_ia g 60 (σ 13)), (q 14, sg_ia g 60 (σ 14)), (q 15, sg_ia g 60 (σ 15)), (q 17, sg_ia g 40 (σ 17)), (q 18, sg_ia g 40 (σ 18)), (q 19, sg_ia g 40 (σ 19)), (q 20, sg_ia g 40 (σ 20)), (q 21, sg_ia g 40 (σ 21)), (q 22, sg_ia g 40 (σ 22)), (q 23, sg_ia g 40 (σ 23)), (q 24, sg_ia g 40 (σ 24)), (q 25, sg_ia g 40 (σ 25)), (q 27, sg_ia g 10 (σ 27)), (q 28, sg_ia g 10 (σ 28)), (q 29, sg_ia g 10 (σ 29))]
def mN (m0 : Nat) (q : Nat → Nat) : Prop := sg_nd [m0, q 0, q 1, q 3, q 4, q 5, q 6, q 7, q 8, q 10, q 11, q 12, q 13, q 14, q 15, q 17, q 18, q 19, q 20, q 21, q 22, q 23, q 24, q 25, q 27, q 28, q 29]
section MROWS
variable {g : sg_G} {C : Nat → Option va_E} {m0 : Nat} {q : Nat → Nat} {σ : Mem} {j : Nat} {v : Int32}
theorem mW_o (hN : mN m0 q) : sg_ov C (mW g m0 q σ) m0 = some (.inr (9, mfs q σ)) := sg_ov_at (l := mW g m0 q σ) hN (k := 0) rfl
theorem st2_u (σ : Mem) (k i : Nat) (v : Int32) : upd (σ k) i v = st2 σ k i v k := by
  funext x
  show (if x = i then v else σ k x) = cond (Nat.beq k k && Nat.beq x i) v (σ k x)
  rw [Nat.beq_refl, Bool.true_and]
  by_cases h : x = i
  · rw [if_pos h, h, Nat.beq_refl]; rfl
  · rw [if_neg h]
    have : Nat.beq x i = false := by
      cases hb : Nat.beq x i with
      | false => rfl
      | true => exact absurd (Nat.eq_of_beq_eq_true hb) h
    rw [this]; rfl
theorem st2_a (σ : Mem) (k i : Nat) (v : Int32) (k' i' : Nat) : st2 σ k i v k' i' = cond (k' == k && i' == i) v (σ k' i') := by
  have h : ∀ a b : Nat, Nat.beq a b = (a == b) := fun a b => by rw [Bool.eq_iff_iff, Nat.beq_eq, beq_iff_eq]
  show cond (Nat.beq k' k && Nat.beq i' i) v (σ k' i') = _
  rw [h, h]
theorem mW_a0 (hN : mN m0 q) : sg_ov C (mW g m0 q σ) (q 0) = some (sg_ia g 96 (σ 0)) := sg_ov_at (l := mW g m0 q σ) hN (k := 1) rfl
theorem mW_s0 (hN : mN m0 q) : sg_up (sg_ov C (mW g m0 q σ)) (q 0) (sg_ia g 96 (upd (σ 0) j v)) = sg_ov C (mW g m0 q (st2 σ 0 j v)) := by
  rw [st2_u]
  exact sg_ov_set (l := mW g m0 q σ) (e := sg_ia g 96 (st2 σ 0 j v 0)) hN (k := 1) rfl
theorem mW_a1 (hN : mN m0 q) : sg_ov C (mW g m0 q σ) (q 1) = some (sg_ia g 96 (σ 1)) := sg_ov_at (l := mW g m0 q σ) hN (k := 2) rfl
theorem mW_s1 (hN : mN m0 q) : sg_up (sg_ov C (mW g m0 q σ)) (q 1) (sg_ia g 96 (upd (σ 1) j v)) = sg_ov C (mW g m0 q (st2 σ 1 j v)) := by
  rw [st2_u]
  exact sg_ov_set (l := mW g m0 q σ) (e := sg_ia g 96 (st2 σ 1 j v 1)) hN (k := 2) rfl
theorem mW_a3 (hN : mN m0 q) : sg_ov C (mW g m0 q σ) (q 3) = some (sg_ia g 20 (σ 3)) := sg_ov_at (l := mW g m0 q σ) hN (k := 3) rfl
theorem mW_s3 (hN : mN m0 q) : sg_up (sg_ov C (mW g m0 q σ)) (q 3) (sg_ia g 20 (upd (σ 3) j v)) = sg_ov C (mW g m0 q (st2 σ 3 j v)) := by
  rw [st2_u]
  exact sg_ov_set (l := mW g m0 q σ) (e := sg_ia g 20 (st2 σ 3 j v 3)) hN (k := 3) rfl
theorem mW_a4 (hN : mN m0 q) : sg_ov C (mW g m0 q σ) (q 4) = some (sg_ia g 20 (σ 4)) := sg_ov_at (l := mW g m0 q σ) hN (k := 4) rfl
theorem mW_s4 (hN : mN m0 q) : sg_up (sg_ov C (mW g m0 q σ)) (q 4) (sg_ia g 20 (upd (σ 4) j v)) = sg_ov C (mW g m0 q (st2 σ 4 j v)) := by
  rw [st2_u]
  exact sg_ov_set (l := mW g m0 q σ) (e := sg_ia g 20 (st2 σ 4 j v 4)) hN (k := 4) rfl
theorem mW_a5 (hN : mN m0 q) : sg_ov C (mW g m0 q σ) (q 5) = some (sg_ia g 20 (σ 5)) := sg_ov_at (l := mW g m0 q σ) hN (k := 5) rfl
theorem mW_s5 (hN : mN m0 q) : sg_up (sg_ov C (mW g m0 q σ)) (q 5) (sg_ia g 20 (upd (σ 5) j v)) = sg_ov C (mW g m0 q (st2 σ 5 j v)) := by
  rw [st2_u]
  exact sg_ov_set (l := mW g m0 q σ) (e := sg_ia g 20 (st2 σ 5 j v 5)) hN (k := 5) rfl
theorem mW_a6 (hN : mN m0 q) : sg_ov C (mW g m0 q σ) (q 6) = some (sg_ia g 20 (σ 6)) := sg_ov_at (l := mW g m0 q σ) hN (k := 6) rfl
theorem mW_s6 (hN : mN m0 q) : sg_up (sg_ov C (mW g m0 q σ)) (q 6) (sg_ia g 20 (upd (σ 6) j v)) = sg_ov C (mW g m0 q (st2 σ 6 j v)) := by
  rw [st2_u]
  exact sg_ov_set (l := mW g m0 q σ) (e := sg_ia g 20 (st2 σ 6 j v 6)) hN (k := 6) rfl
theorem mW_a7 (hN : mN m0 q) : sg_ov C (mW g m0 q σ) (q 7) = some (sg_ia g 400 (σ 7)) := sg_ov_at (l := mW g m0 q σ) hN (k := 7) rfl
theorem mW_s7 (hN : mN m0 q) : sg_up (sg_ov C (mW g m0 q σ)) (q 7) (sg_ia g 400 (upd (σ 7) j v)) = sg_ov C (mW g m0 q (st2 σ 7 j v)) := by
  rw [st2_u]
  exact sg_ov_set (l := mW g m0 q σ) (e := sg_ia g 400 (st2 σ 7 j v 7)) hN (k := 7) rfl
theorem mW_a8 (hN : mN m0 q) : sg_ov C (mW g m0 q σ) (q 8) = some (sg_ia g 400 (σ 8)) := sg_ov_at (l := mW g m0 q σ) hN (k := 8) rfl
theorem mW_s8 (hN : mN m0 q) : sg_up (sg_ov C (mW g m0 q σ)) (q 8) (sg_ia g 400 (upd (σ 8) j v)) = sg_ov C (mW g m0 q (st2 σ 8 j v)) := by
  rw [st2_u]
  exact sg_ov_set (l := mW g m0 q σ) (e := sg_ia g 400 (st2 σ 8 j v 8)) hN (k := 8) rfl
theorem mW_a10 (hN : mN m0 q) : sg_ov C (mW g m0 q σ) (q 10) = some (sg_ia g 6 (σ 10)) := sg_ov_at (l := mW g m0 q σ) hN (k := 9) rfl
theorem mW_s10 (hN : mN m0 q) : sg_up (sg_ov C (mW g m0 q σ)) (q 10) (sg_ia g 6 (upd (σ 10) j v)) = sg_ov C (mW g m0 q (st2 σ 10 j v)) := by
  rw [st2_u]
  exact sg_ov_set (l := mW g m0 q σ) (e := sg_ia g 6 (st2 σ 10 j v 10)) hN (k := 9) rfl
theorem mW_a11 (hN : mN m0 q) : sg_ov C (mW g m0 q σ) (q 11) = some (sg_ia g 6 (σ 11)) := sg_ov_at (l := mW g m0 q σ) hN (k := 10) rfl
theorem mW_s11 (hN : mN m0 q) : sg_up (sg_ov C (mW g m0 q σ)) (q 11) (sg_ia g 6 (upd (σ 11) j v)) = sg_ov C (mW g m0 q (st2 σ 11 j v)) := by
  rw [st2_u]
  exact sg_ov_set (l := mW g m0 q σ) (e := sg_ia g 6 (st2 σ 11 j v 11)) hN (k := 10) rfl
theorem mW_a12 (hN : mN m0 q) : sg_ov C (mW g m0 q σ) (q 12) = some (sg_ia g 60 (σ 12)) := sg_ov_at (l := mW g m0 q σ) hN (k := 11) rfl
theorem mW_s12 (hN : mN m0 q) : sg_up (sg_ov C (mW g m0 q σ)) (q 12) (sg_ia g 60 (upd (σ 12) j v)) = sg_ov C (mW g m0 q (st2 σ 12 j v)) := by
  rw [st2_u]
  exact sg_ov_set (l := mW g m0 q σ) (e := sg_ia g 60 (st2 σ 12 j v 12)) hN (k := 11) rfl
theorem mW_a13 (hN : mN m0 q) : sg_ov C (mW g m0 q σ) (q 13) = some (sg_ia g 60 (σ 13)) := sg_ov_at (l := mW g m0 q σ) hN (k := 12) rfl
theorem mW_s13 (hN : mN m0 q) : sg_up (sg_ov C (mW g m0 q σ)) (q 13) (sg_ia g 60 (upd (σ 13) j v)) = sg_ov C (mW g m0 q (st2 σ 13 j v)) := by
  rw [st2_u]
  exact sg_ov_set (l := mW g m0 q σ) (e := sg_ia g 60 (st2 σ 13 j v 13)) hN (k := 12) rfl
theorem mW_a14 (hN : mN m0 q) : sg_ov C (mW g m0 q σ) (q 14) = some (sg_ia g 60 (σ 14)) := sg_ov_at (l := mW g m0 q σ) hN (k := 13) rfl
theorem mW_s14 (hN : mN m0 q) : sg_up (sg_ov C (mW g m0 q σ)) (q 14) (sg_ia g 60 (upd (σ 14) j v)) = sg_ov C (mW g m0 q (st2 σ 14 j v)) := by
  rw [st2_u]
  exact sg_ov_set (l := mW g m0 q σ) (e := sg_ia g 60 (st2 σ 14 j v 14)) hN (k := 13) rfl
theorem mW_a15 (hN : mN m0 q) : sg_ov C (mW g m0 q σ) (q 15) = some (sg_ia g 60 (σ 15)) := sg_ov_at (l := mW g m0 q σ) hN (k := 14) rfl
theorem mW_s15 (hN : mN m0 q) : sg_up (sg_ov C (mW g m0 q σ)) (q 15) (sg_ia g 60 (upd (σ 15) j v)) = sg_ov C (mW g m0 q (st2 σ 15 j v)) := by
  rw [st2_u]
  exact sg_ov_set (l := mW g m0 q σ) (e := sg_ia g 60 (st2 σ 15 j v 15)) hN (k := 14) rfl
theorem mW_a17 (hN : mN m0 q) : sg_ov C (mW g m0 q σ) (q 17) = some (sg_ia g 40 (σ 17)) := sg_ov_at (l := mW g m0 q σ) hN (k := 15) rfl
theorem mW_s17 (hN : mN m0 q) : sg_up (sg_ov C (mW g m0 q σ)) (q 17) (sg_ia g 40 (upd (σ 17) j v)) = sg_ov C (mW g m0 q (st2 σ 17 j v)) := by
  rw [st2_u]
  exact sg_ov_set (l := mW g m0 q σ) (e := sg_ia g 40 (st2 σ 17 j v 17)) hN (k := 15) rfl
theorem mW_a18 (hN : mN m0 q) : sg_ov C (mW g m0 q σ) (q 18) = some (sg_ia g 40 (σ 18)) := sg_ov_at (l := mW g m0 q σ) hN (k := 16) rfl
theorem mW_s18 (hN : mN m0 q) : sg_up (sg_ov C (mW g m0 q σ)) (q 18) (sg_ia g 40 (upd (σ 18) j v)) = sg_ov C (mW g m0 q (st2 σ 18 j v)) := by
  rw [st2_u]
  exact sg_ov_set (l := mW g m0 q σ) (e := sg_ia g 40 (st2 σ 18 j v 18)) hN (k := 16) rfl
theorem mW_a19 (hN : mN m0 q) : sg_ov C (mW g m0 q σ) (q 19) = some (sg_ia g 40 (σ 19)) := sg_ov_at (l := mW g m0 q σ) hN (k := 17) rfl
theorem mW_s19 (hN : mN m0 q) : sg_up (sg_ov C (mW g m0 q σ)) (q 19) (sg_ia g 40 (upd (σ 19) j v)) = sg_ov C (mW g m0 q (st2 σ 19 j v)) := by
  rw [st2_u]
  exact sg_ov_set (l := mW g m0 q σ) (e := sg_ia g 40 (st2 σ 19 j v 19)) hN (k := 17) rfl
theorem mW_a20 (hN : mN m0 q) : sg_ov C (mW g m0 q σ) (q 20) = some (sg_ia g 40 (σ 20)) := sg_ov_at (l := mW g m0 q σ) hN (k := 18) rfl
theorem mW_s20 (hN : mN m0 q) : sg_up (sg_ov C (mW g m0 q σ)) (q 20) (sg_ia g 40 (upd (σ 20) j v)) = sg_ov C (mW g m0 q (st2 σ 20 j v)) := by
  rw [st2_u]
  exact sg_ov_set (l := mW g m0 q σ) (e := sg_ia g 40 (st2 σ 20 j v 20)) hN (k := 18) rfl
theorem mW_a21 (hN : mN m0 q) : sg_ov C (mW g m0 q σ) (q 21) = some (sg_ia g 40 (σ 21)) := sg_ov_at (l := mW g m0 q σ) hN (k := 19) rfl
theorem mW_s21 (hN : mN m0 q) : sg_up (sg_ov C (mW g m0 q σ)) (q 21) (sg_ia g 40 (upd (σ 21) j v)) = sg_ov C (mW g m0 q (st2 σ 21 j v)) := by
  rw [st2_u]
  exact sg_ov_set (l := mW g m0 q σ) (e := sg_ia g 40 (st2 σ 21 j v 21)) hN (k := 19) rfl
theorem mW_a22 (hN : mN m0 q) : sg_ov C (mW g m0 q σ) (q 22) = some (sg_ia g 40 (σ 22)) := sg_ov_at (l := mW g m0 q σ) hN (k := 20) rfl
theorem mW_s22 (hN : mN m0 q) : sg_up (sg_ov C (mW g m0 q σ)) (q 22) (sg_ia g 40 (upd (σ 22) j v)) = sg_ov C (mW g m0 q (st2 σ 22 j v)) := by
  rw [st2_u]
  exact sg_ov_set (l := mW g m0 q σ) (e := sg_ia g 40 (st2 σ 22 j v 22)) hN (k := 20) rfl
theorem mW_a23 (hN : mN m0 q) : sg_ov C (mW g m0 q σ) (q 23) = some (sg_ia g 40 (σ 23)) := sg_ov_at (l := mW g m0 q σ) hN (k := 21) rfl
theorem mW_s23 (hN : mN m0 q) : sg_up (sg_ov C (mW g m0 q σ)) (q 23) (sg_ia g 40 (upd (σ 23) j v)) = sg_ov C (mW g m0 q (st2 σ 23 j v)) := by
  rw [st2_u]
  exact sg_ov_set (l := mW g m0 q σ) (e := sg_ia g 40 (st2 σ 23 j v 23)) hN (k := 21) rfl
theorem mW_a24 (hN : mN m0 q) : sg_ov C (mW g m0 q σ) (q 24) = some (sg_ia g 40 (σ 24)) := sg_ov_at (l := mW g m0 q σ) hN (k := 22) rfl
theorem mW_s24 (hN : mN m0 q) : sg_up (sg_ov C (mW g m0 q σ)) (q 24) (sg_ia g 40 (upd (σ 24) j v)) = sg_ov C (mW g m0 q (st2 σ 24 j v)) := by
  rw [st2_u]
  exact sg_ov_set (l := mW g m0 q σ) (e := sg_ia g 40 (st2 σ 24 j v 24)) hN (k := 22) rfl
theorem mW_a25 (hN : mN m0 q) : sg_ov C (mW g m0 q σ) (q 25) = some (sg_ia g 40 (σ 25)) := sg_ov_at (l := mW g m0 q σ) hN (k := 23) rfl
theorem mW_s25 (hN : mN m0 q) : sg_up (sg_ov C (mW g m0 q σ)) (q 25) (sg_ia g 40 (upd (σ 25) j v)) = sg_ov C (mW g m0 q (st2 σ 25 j v)) := by
  rw [st2_u]
  exact sg_ov_set (l := mW g m0 q σ) (e := sg_ia g 40 (st2 σ 25 j v 25)) hN (k := 23) rfl
theorem mW_a27 (hN : mN m0 q) : sg_ov C (mW g m0 q σ) (q 27) = some (sg_ia g 10 (σ 27)) := sg_ov_at (l := mW g m0 q σ) hN (k := 24) rfl
theorem mW_s27 (hN : mN m0 q) : sg_up (sg_ov C (mW g m0 q σ)) (q 27) (sg_ia g 10 (upd (σ 27) j v)) = sg_ov C (mW g m0 q (st2 σ 27 j v)) := by
  rw [st2_u]
  exact sg_ov_set (l := mW g m0 q σ) (e := sg_ia g 10 (st2 σ 27 j v 27)) hN (k := 24) rfl
theorem mW_a28 (hN : mN m0 q) : sg_ov C (mW g m0 q σ) (q 28) = some (sg_ia g 10 (σ 28)) := sg_ov_at (l := mW g m0 q σ) hN (k := 25) rfl
theorem mW_s28 (hN : mN m0 q) : sg_up (sg_ov C (mW g m0 q σ)) (q 28) (sg_ia g 10 (upd (σ 28) j v)) = sg_ov C (mW g m0 q (st2 σ 28 j v)) := by
  rw [st2_u]
  exact sg_ov_set (l := mW g m0 q σ) (e := sg_ia g 10 (st2 σ 28 j v 28)) hN (k := 25) rfl
theorem mW_a29 (hN : mN m0 q) : sg_ov C (mW g m0 q σ) (q 29) = some (sg_ia g 10 (σ 29)) := sg_ov_at (l := mW g m0 q σ) hN (k := 26) rfl
theorem mW_s29 (hN : mN m0 q) : sg_up (sg_ov C (mW g m0 q σ)) (q 29) (sg_ia g 10 (upd (σ 29) j v)) = sg_ov C (mW g m0 q (st2 σ 29 j v)) := by
  rw [st2_u]
  exact sg_ov_set (l := mW g m0 q σ) (e := sg_ia g 10 (st2 σ 29 j v 29)) hN (k := 26) rfl
theorem mW_p2 (hN : mN m0 q) : sg_up (sg_ov C (mW g m0 q σ)) m0 (.inr (9, (mfs q σ).set 2 (.int v))) = sg_ov C (mW g m0 q (st2 σ 2 0 v)) := sg_ov_set (l := mW g m0 q σ) (e := .inr (9, mfs q (st2 σ 2 0 v))) hN (k := 0) rfl
theorem mW_p9 (hN : mN m0 q) : sg_up (sg_ov C (mW g m0 q σ)) m0 (.inr (9, (mfs q σ).set 9 (.int v))) = sg_ov C (mW g m0 q (st2 σ 9 0 v)) := sg_ov_set (l := mW g m0 q σ) (e := .inr (9, mfs q (st2 σ 9 0 v))) hN (k := 0) rfl
theorem mW_p16 (hN : mN m0 q) : sg_up (sg_ov C (mW g m0 q σ)) m0 (.inr (9, (mfs q σ).set 16 (.int v))) = sg_ov C (mW g m0 q (st2 σ 16 0 v)) := sg_ov_set (l := mW g m0 q σ) (e := .inr (9, mfs q (st2 σ 16 0 v))) hN (k := 0) rfl
theorem mW_p26 (hN : mN m0 q) : sg_up (sg_ov C (mW g m0 q σ)) m0 (.inr (9, (mfs q σ).set 26 (.int v))) = sg_ov C (mW g m0 q (st2 σ 26 0 v)) := sg_ov_set (l := mW g m0 q σ) (e := .inr (9, mfs q (st2 σ 26 0 v))) hN (k := 0) rfl
theorem mW_p30 (hN : mN m0 q) : sg_up (sg_ov C (mW g m0 q σ)) m0 (.inr (9, (mfs q σ).set 30 (.int v))) = sg_ov C (mW g m0 q (st2 σ 30 0 v)) := sg_ov_set (l := mW g m0 q σ) (e := .inr (9, mfs q (st2 σ 30 0 v))) hN (k := 0) rfl
theorem mW_p31 (hN : mN m0 q) : sg_up (sg_ov C (mW g m0 q σ)) m0 (.inr (9, (mfs q σ).set 31 (.int v))) = sg_ov C (mW g m0 q (st2 σ 31 0 v)) := sg_ov_set (l := mW g m0 q σ) (e := .inr (9, mfs q (st2 σ 31 0 v))) hN (k := 0) rfl
theorem mW_p32 (hN : mN m0 q) : sg_up (sg_ov C (mW g m0 q σ)) m0 (.inr (9, (mfs q σ).set 32 (.int v))) = sg_ov C (mW g m0 q (st2 σ 32 0 v)) := sg_ov_set (l := mW g m0 q σ) (e := .inr (9, mfs q (st2 σ 32 0 v))) hN (k := 0) rfl
theorem mW_p33 (hN : mN m0 q) : sg_up (sg_ov C (mW g m0 q σ)) m0 (.inr (9, (mfs q σ).set 33 (.int v))) = sg_ov C (mW g m0 q (st2 σ 33 0 v)) := sg_ov_set (l := mW g m0 q σ) (e := .inr (9, mfs q (st2 σ 33 0 v))) hN (k := 0) rfl
theorem mW_p34 (hN : mN m0 q) : sg_up (sg_ov C (mW g m0 q σ)) m0 (.inr (9, (mfs q σ).set 34 (.int v))) = sg_ov C (mW g m0 q (st2 σ 34 0 v)) := sg_ov_set (l := mW g m0 q σ) (e := .inr (9, mfs q (st2 σ 34 0 v))) hN (k := 0) rfl
theorem mW_p35 (hN : mN m0 q) : sg_up (sg_ov C (mW g m0 q σ)) m0 (.inr (9, (mfs q σ).set 35 (.int v))) = sg_ov C (mW g m0 q (st2 σ 35 0 v)) := sg_ov_set (l := mW g m0 q σ) (e := .inr (9, mfs q (st2 σ 35 0 v))) hN (k := 0) rfl
theorem mW_p36 (hN : mN m0 q) : sg_up (sg_ov C (mW g m0 q σ)) m0 (.inr (9, (mfs q σ).set 36 (.int v))) = sg_ov C (mW g m0 q (st2 σ 36 0 v)) := sg_ov_set (l := mW g m0 q σ) (e := .inr (9, mfs q (st2 σ 36 0 v))) hN (k := 0) rfl
theorem mW_p37 (hN : mN m0 q) : sg_up (sg_ov C (mW g m0 q σ)) m0 (.inr (9, (mfs q σ).set 37 (.int v))) = sg_ov C (mW g m0 q (st2 σ 37 0 v)) := sg_ov_set (l := mW g m0 q σ) (e := .inr (9, mfs q (st2 σ 37 0 v))) hN (k := 0) rfl
theorem mW_p38 (hN : mN m0 q) : sg_up (sg_ov C (mW g m0 q σ)) m0 (.inr (9, (mfs q σ).set 38 (.int v))) = sg_ov C (mW g m0 q (st2 σ 38 0 v)) := sg_ov_set (l := mW g m0 q σ) (e := .inr (9, mfs q (st2 σ 38 0 v))) hN (k := 0) rfl
theorem mW_p39 (hN : mN m0 q) : sg_up (sg_ov C (mW g m0 q σ)) m0 (.inr (9, (mfs q σ).set 39 (.int v))) = sg_ov C (mW g m0 q (st2 σ 39 0 v)) := sg_ov_set (l := mW g m0 q σ) (e := .inr (9, mfs q (st2 σ 39 0 v))) hN (k := 0) rfl
theorem mW_p40 (hN : mN m0 q) : sg_up (sg_ov C (mW g m0 q σ)) m0 (.inr (9, (mfs q σ).set 40 (.int v))) = sg_ov C (mW g m0 q (st2 σ 40 0 v)) := sg_ov_set (l := mW g m0 q σ) (e := .inr (9, mfs q (st2 σ 40 0 v))) hN (k := 0) rfl
theorem mW_p41 (hN : mN m0 q) : sg_up (sg_ov C (mW g m0 q σ)) m0 (.inr (9, (mfs q σ).set 41 (.int v))) = sg_ov C (mW g m0 q (st2 σ 41 0 v)) := sg_ov_set (l := mW g m0 q σ) (e := .inr (9, mfs q (st2 σ 41 0 v))) hN (k := 0) rfl
theorem mW_p42 (hN : mN m0 q) : sg_up (sg_ov C (mW g m0 q σ)) m0 (.inr (9, (mfs q σ).set 42 (.int v))) = sg_ov C (mW g m0 q (st2 σ 42 0 v)) := sg_ov_set (l := mW g m0 q σ) (e := .inr (9, mfs q (st2 σ 42 0 v))) hN (k := 0) rfl
end MROWS
theorem nI_ix (k : Nat) {a b : Nat} : nI k * nI a + nI b = nI (k * a + b) := by rw [pk_mul, nI_add]

/-! the reference's small methods -/
abbrev rIn (σ : Mem) (k : Nat) (x : Int32) : Prop := 0 ≤ x ∧ x ≤ σ k 0 - 1
abbrev rGap (σ : Mem) (l c : Nat) : Prop := σ 0 (32 * l + c) < 0
def rGnd (σ : Mem) (l c : Nat) : Int32 := 16 * σ 0 (32 * l + c)
abbrev rWall (σ : Mem) (l c : Nat) : Prop := ¬ rGap σ l c ∧ σ 33 0 < rGnd σ l c

theorem ti_9 : ∀ w ∈ u_ws RX8 TX8 43, w ∈ sg_T := List.forall_mem_cons.mpr ⟨sg_mem (i := 907) (by decide +kernel) rfl, List.forall_mem_cons.mpr ⟨sg_mem (i := 909) (by decide +kernel) rfl, List.forall_mem_cons.mpr ⟨sg_mem (i := 911) (by decide +kernel) rfl, List.forall_mem_cons.mpr ⟨sg_mem (i := 913) (by decide +kernel) rfl, List.forall_mem_cons.mpr ⟨sg_mem (i := 915) (by decide +kernel) rfl, List.forall_mem_cons.mpr ⟨sg_mem (i := 917) (by decide +kernel) rfl, List.forall_mem_cons.mpr ⟨sg_mem (i := 919) (by decide +kernel) rfl, List.forall_mem_cons.mpr ⟨sg_mem (i := 921) (by decide +kernel) rfl, List.forall_mem_cons.mpr ⟨sg_mem (i := 923) (by decide +kernel) rfl, List.forall_mem_cons.mpr ⟨sg_mem (i := 925) (by decide +kernel) rfl, List.forall_mem_cons.mpr ⟨sg_mem (i := 927) (by decide +kernel) rfl, List.forall_mem_cons.mpr ⟨sg_mem (i := 929) (by decide +kernel) rfl, List.forall_mem_cons.mpr ⟨sg_mem (i := 931) (by decide +kernel) rfl, List.forall_mem_cons.mpr ⟨sg_mem (i := 933) (by decide +kernel) rfl, List.forall_mem_cons.mpr ⟨sg_mem (i := 935) (by decide +kernel) rfl, List.forall_mem_cons.mpr ⟨sg_mem (i := 937) (by decide +kernel) rfl, List.forall_mem_cons.mpr ⟨sg_mem (i := 939) (by decide +kernel) rfl, List.forall_mem_cons.mpr ⟨sg_mem (i := 941) (by decide +kernel) rfl, List.forall_mem_cons.mpr ⟨sg_mem (i := 943) (by decide +kernel) rfl, List.forall_mem_cons.mpr ⟨sg_mem (i := 945) (by decide +kernel) rfl, List.forall_mem_cons.mpr ⟨sg_mem (i := 947) (by decide +kernel) rfl, List.forall_mem_cons.mpr ⟨sg_mem (i := 949) (by decide +kernel) rfl, List.forall_mem_cons.mpr ⟨sg_mem (i := 951) (by decide +kernel) rfl, List.forall_mem_cons.mpr ⟨sg_mem (i := 953) (by decide +kernel) rfl, List.forall_mem_cons.mpr ⟨sg_mem (i := 955) (by decide +kernel) rfl, List.forall_mem_cons.mpr ⟨sg_mem (i := 957) (by decide +kernel) rfl, List.forall_mem_cons.mpr ⟨sg_mem (i := 959) (by decide +kernel) rfl, List.forall_mem_cons.mpr ⟨sg_mem (i := 961) (by decide +kernel) rfl, List.forall_mem_cons.mpr ⟨sg_mem (i := 963) (by decide +kernel) rfl, List.forall_mem_cons.mpr ⟨sg_mem (i := 965) (by decide +kernel) rfl, List.forall_mem_cons.mpr ⟨sg_mem (i := 967) (by decide +kernel) rfl, List.forall_mem_cons.mpr ⟨sg_mem (i := 969) (by decide +kernel) rfl, List.forall_mem_cons.mpr ⟨sg_mem (i := 971) (by decide +kernel) rfl, List.forall_mem_cons.mpr ⟨sg_mem (i := 973) (by decide +kernel) rfl, List.forall_mem_cons.mpr ⟨sg_mem (i := 975) (by decide +kernel) rfl, List.forall_mem_cons.mpr ⟨sg_mem (i := 977) (by decide +kernel) rfl, List.forall_mem_cons.mpr ⟨sg_mem (i := 979) (by decide +kernel) rfl, List.forall_mem_cons.mpr ⟨sg_mem (i := 981) (by decide +kernel) rfl, List.forall_mem_cons.mpr ⟨sg_mem (i := 983) (by decide +kernel) rfl, List.forall_mem_cons.mpr ⟨sg_mem (i := 985) (by decide +kernel) rfl, List.forall_mem_cons.mpr ⟨sg_mem (i := 987) (by decide +kernel) rfl, List.forall_mem_cons.mpr ⟨sg_mem (i := 989) (by decide +kernel) rfl, List.forall_mem_cons.mpr ⟨sg_mem (i := 991) (by decide +kernel) rfl, fun _ h => absurd h List.not_mem_nil⟩⟩⟩⟩⟩⟩⟩⟩⟩⟩⟩⟩⟩⟩⟩⟩⟩⟩⟩⟩⟩⟩⟩⟩⟩⟩⟩⟩⟩⟩⟩⟩⟩⟩⟩⟩⟩⟩⟩⟩⟩⟩⟩
theorem fl_RX8_88 : sg_FL RX8 88 9 42 := ⟨RX8, TX8, 43, "SplitGateModel", rfl, by decide, ti_9, .inl rfl, .inl (sg_mem (i := 906) (by decide +kernel) rfl)⟩
theorem ty_9 : sg_TY 9 := ⟨RX8, TX8, 43, tyX8, rfl, tyX8_ok, nmX8⟩
theorem fp_9_42 : sg_FP 9 42 false .int := ⟨RX8, TX8, 43, rfl, rfl, by decide +kernel, rfl⟩
theorem fl_RX8_92 : sg_FL RX8 92 9 2 := ⟨RX8, TX8, 43, "SplitGateModel", rfl, by decide, ti_9, .inl rfl, .inl (sg_mem (i := 866) (by decide +kernel) rfl)⟩
theorem md_X8_between : sg_MD yX8_between cX8_between 4 (some .boolean) 3 := ⟨sg_mem (i := 1013) (by decide +kernel) rfl, sg_mem (i := 59) (by decide +kernel) rfl, ⟨by decide, by decide⟩, by decide +kernel⟩
theorem ml_RX8_95 : sg_ML RX8 95 yX8_between := .inl (sg_mem (i := 1010) (by decide +kernel) rfl)
theorem im_X8_between : Cond.instanceMethod yX8_between ∈ sg_T := sg_mem (i := 1012) (by decide +kernel) rfl
theorem sl_X8_between : Cond.selects yX8_between.cls yX8_between yX8_between ∈ sg_T := sg_mem (i := 26) (by decide +kernel) rfl
theorem fl_RX8_99 : sg_FL RX8 99 9 9 := ⟨RX8, TX8, 43, "SplitGateModel", rfl, by decide, ti_9, .inl rfl, .inl (sg_mem (i := 873) (by decide +kernel) rfl)⟩
theorem fl_RX8_102 : sg_FL RX8 102 9 16 := ⟨RX8, TX8, 43, "SplitGateModel", rfl, by decide, ti_9, .inl rfl, .inl (sg_mem (i := 880) (by decide +kernel) rfl)⟩
theorem fl_RX8_105 : sg_FL RX8 105 9 26 := ⟨RX8, TX8, 43, "SplitGateModel", rfl, by decide, ti_9, .inl rfl, .inl (sg_mem (i := 890) (by decide +kernel) rfl)⟩
theorem fl_RX8_7 : sg_FL RX8 7 9 0 := ⟨RX8, TX8, 43, "SplitGateModel", rfl, by decide, ti_9, .inl rfl, .inl (sg_mem (i := 864) (by decide +kernel) rfl)⟩
theorem md_X8_gap : sg_MD yX8_gap cX8_gap 3 (some .boolean) 2 := ⟨sg_mem (i := 1049) (by decide +kernel) rfl, sg_mem (i := 59) (by decide +kernel) rfl, ⟨by decide, by decide⟩, by decide +kernel⟩
theorem ml_RX8_108 : sg_ML RX8 108 yX8_gap := .inl (sg_mem (i := 1046) (by decide +kernel) rfl)
theorem im_X8_gap : Cond.instanceMethod yX8_gap ∈ sg_T := sg_mem (i := 1048) (by decide +kernel) rfl
theorem sl_X8_gap : Cond.selects yX8_gap.cls yX8_gap yX8_gap ∈ sg_T := sg_mem (i := 32) (by decide +kernel) rfl
theorem md_X8_ground : sg_MD yX8_ground cX8_ground 3 (some .int) 2 := ⟨sg_mem (i := 1053) (by decide +kernel) rfl, sg_mem (i := 59) (by decide +kernel) rfl, ⟨by decide, by decide⟩, by decide +kernel⟩
theorem ml_RX8_112 : sg_ML RX8 112 yX8_ground := .inl (sg_mem (i := 1050) (by decide +kernel) rfl)
theorem im_X8_ground : Cond.instanceMethod yX8_ground ∈ sg_T := sg_mem (i := 1052) (by decide +kernel) rfl
theorem sl_X8_ground : Cond.selects yX8_ground.cls yX8_ground yX8_ground ∈ sg_T := sg_mem (i := 33) (by decide +kernel) rfl
theorem fl_RX8_116 : sg_FL RX8 116 9 33 := ⟨RX8, TX8, 43, "SplitGateModel", rfl, by decide, ti_9, .inl rfl, .inl (sg_mem (i := 897) (by decide +kernel) rfl)⟩
set_option maxHeartbeats 4000000 in
set_option maxRecDepth 100000 in
theorem c_X8_thrown (l : Launch) (g : sg_G) (C : Nat → Option va_E) (m0 : Nat) (q : Nat → Nat) (σ : Mem) (hN : mN m0 q) : sg_Met l yX8_thrown cX8_thrown 1 (some .int) 0 0 0 0 g [.ref m0] (sg_ov C (mW g m0 q σ)) (fun v C' => v = some (.int (σ 42 0)) ∧ C' = sg_ov C (mW g m0 q σ)) sg_no := by
  refine sg_ofW (by decide) rfl ?_ (Nat.le_of_ble_eq_true rfl)
  intro p e s m below meth c hc hlk hrt hin2 htb
  have hc : sg_Cx p s m _ c cX8_thrown 1 RX8 g := hc
  show sg_W p l e _ s m _ below meth c 1 g 0 0 _ (sg_ov C (mW g m0 q σ)) 0 [(0, .ref m0)] []
  refine sw_aload_n (pc := 0) hc dX8_thrown_0 rfl 0 rfl ?_
  refine sw_get (pc := 1) (v := .int (σ 42 0)) hc fl_RX8_88 (mW_o hN) rfl dX8_thrown_1 ?_
  exact sw_iret (pc := 4) hc hlk hrt rfl ⟨rfl, rfl⟩ (Nat.le_of_ble_eq_true rfl) (Nat.le_of_ble_eq_true rfl) dX8_thrown_4

set_option maxHeartbeats 4000000 in
set_option maxRecDepth 100000 in
theorem c_X8_holds (l : Launch) (g : sg_G) (C : Nat → Option va_E) (m0 : Nat) (q : Nat → Nat) (σ : Mem) (w : Int32) (hN : mN m0 q) : sg_Met l yX8_holds cX8_holds 2 (some .boolean) 0 0 0 0 g [.ref m0, .int w] (sg_ov C (mW g m0 q σ)) (fun v C' => v = some (.int (bI (0 < w))) ∧ C' = sg_ov C (mW g m0 q (st2 σ 42 0 w))) sg_no := by
  refine sg_ofW (by decide) rfl ?_ (Nat.le_of_ble_eq_true rfl)
  intro p e s m below meth c hc hlk hrt hin2 htb
  have hc : sg_Cx p s m _ c cX8_holds 2 RX8 g := hc
  show sg_W p l e _ s m _ below meth c 2 g 0 0 _ (sg_ov C (mW g m0 q σ)) 0 [(0, .ref m0), (1, .int w)] []
  refine sw_aload_n (pc := 0) hc dX8_holds_0 rfl 0 rfl ?_
  refine sw_iload_n (pc := 1) hc dX8_holds_1 rfl 1 rfl ?_
  refine sw_put (pc := 2) (k := 42) hc fl_RX8_88 ty_9 fp_9_42 (mW_o hN) rfl rfl (Nat.le_of_ble_eq_true rfl) rfl dX8_holds_2 ?_
  refine sw_eq (mW_p42 hN) ?_
  refine sw_iload_n (pc := 5) hc dX8_holds_5 rfl 1 rfl ?_
  refine sw_if_le (pc := 6) (tgt := 13) hc dX8_holds_6 (by decide) (fun c_1 => ?_) (fun c_1 => ?_)
  ·
    have c_1' := Int32.not_lt.mpr c_1
    refine sw_iconst (pc := 13) (v := 0) hc dX8_holds_13 (by decide) ?_
    have h_2 : 0 = bI (0 < w) := by first | with_reducible rfl | (first | with_reducible rfl | (simp [-Int32.not_le, -Int32.not_lt, bI, st2_a, c_1, c_1']; done) | (((try simp only [st2_a, Nat.reduceBEq, Bool.false_and, Bool.true_and, beq_self_eq_true, cond_false, cond_true] at c_1 c_1') <;> simp [-Int32.not_le, -Int32.not_lt, bI, st2_a, c_1, c_1']); done) | ((try simp only [bI]); (repeat' split) <;> simp_all [-Int32.not_le, -Int32.not_lt, st2_a, rGap, rWall]; done))
    exact sw_iret (pc := 14) hc hlk hrt rfl ⟨(congrArg (fun z => some (Value.int z)) h_2), rfl⟩ (Nat.le_of_ble_eq_true rfl) (Nat.le_of_ble_eq_true rfl) dX8_holds_14
  ·
    have c_1' := Int32.not_le.mp c_1
    refine sw_iconst (pc := 9) (v := 1) hc dX8_holds_9 (by decide) ?_
    refine sw_goto (pc := 10) (tgt := 14) hc dX8_holds_10 (by decide) ?_
    have h_3 : 1 = bI (0 < w) := by first | with_reducible rfl | (first | with_reducible rfl | (simp [-Int32.not_le, -Int32.not_lt, bI, st2_a, c_1, c_1']; done) | (((try simp only [st2_a, Nat.reduceBEq, Bool.false_and, Bool.true_and, beq_self_eq_true, cond_false, cond_true] at c_1 c_1') <;> simp [-Int32.not_le, -Int32.not_lt, bI, st2_a, c_1, c_1']); done) | ((try simp only [bI]); (repeat' split) <;> simp_all [-Int32.not_le, -Int32.not_lt, st2_a, rGap, rWall]; done))
    exact sw_iret (pc := 14) hc hlk hrt rfl ⟨(congrArg (fun z => some (Value.int z)) h_3), rfl⟩ (Nat.le_of_ble_eq_true rfl) (Nat.le_of_ble_eq_true rfl) dX8_holds_14

set_option maxHeartbeats 4000000 in
set_option maxRecDepth 100000 in
theorem c_X8_between (l : Launch) (g : sg_G) (C : Nat → Option va_E) (m0 : Nat) (q : Nat → Nat) (σ : Mem) (x : Int32) (y : Int32) (z : Int32) (hN : mN m0 q) : sg_Met l yX8_between cX8_between 4 (some .boolean) 0 0 0 0 g [.ref m0, .int x, .int y, .int z] (sg_ov C (mW g m0 q σ)) (fun v C' => v = some (.int (bI (y ≤ x ∧ x ≤ z))) ∧ C' = sg_ov C (mW g m0 q σ)) sg_no := by
  refine sg_ofW (by decide) rfl ?_ (Nat.le_of_ble_eq_true rfl)
  intro p e s m below meth c hc hlk hrt hin2 htb
  have hc : sg_Cx p s m _ c cX8_between 4 RX8 g := hc
  show sg_W p l e _ s m _ below meth c 4 g 0 0 _ (sg_ov C (mW g m0 q σ)) 0 [(0, .ref m0), (1, .int x), (2, .int y), (3, .int z)] []
  refine sw_iload_n (pc := 0) hc dX8_between_0 rfl 1 rfl ?_
  refine sw_iload_n (pc := 1) hc dX8_between_1 rfl 2 rfl ?_
  refine sw_icmp_lt (pc := 2) (tgt := 14) hc dX8_between_2 (by decide) (fun c_1 => ?_) (fun c_1 => ?_)
  ·
    have c_1' := Int32.not_le.mpr c_1
    refine sw_iconst (pc := 14) (v := 0) hc dX8_between_14 (by decide) ?_
    have h_2 : 0 = bI (y ≤ x ∧ x ≤ z) := by first | with_reducible rfl | (first | with_reducible rfl | (simp [-Int32.not_le, -Int32.not_lt, bI, st2_a, c_1, c_1']; done) | (((try simp only [st2_a, Nat.reduceBEq, Bool.false_and, Bool.true_and, beq_self_eq_true, cond_false, cond_true] at c_1 c_1') <;> simp [-Int32.not_le, -Int32.not_lt, bI, st2_a, c_1, c_1']); done) | ((try simp only [bI]); (repeat' split) <;> simp_all [-Int32.not_le, -Int32.not_lt, st2_a, rGap, rWall]; done))
    exact sw_iret (pc := 15) hc hlk hrt rfl ⟨(congrArg (fun z => some (Value.int z)) h_2), rfl⟩ (Nat.le_of_ble_eq_true rfl) (Nat.le_of_ble_eq_true rfl) dX8_between_15
  ·
    have c_1' := Int32.not_lt.mp c_1
    refine sw_iload_n (pc := 5) hc dX8_between_5 rfl 1 rfl ?_
    refine sw_iload_n (pc := 6) hc dX8_between_6 rfl 3 rfl ?_
    refine sw_icmp_gt (pc := 7) (tgt := 14) hc dX8_between_7 (by decide) (fun c_3 => ?_) (fun c_3 => ?_)
    ·
      have c_3' := Int32.not_le.mpr c_3
      refine sw_iconst (pc := 14) (v := 0) hc dX8_between_14 (by decide) ?_
      have h_4 : 0 = bI (y ≤ x ∧ x ≤ z) := by first | with_reducible rfl | (first | with_reducible rfl | (simp [-Int32.not_le, -Int32.not_lt, bI, st2_a, c_1, c_1', c_3, c_3']; done) | (((try simp only [st2_a, Nat.reduceBEq, Bool.false_and, Bool.true_and, beq_self_eq_true, cond_false, cond_true] at c_1 c_1' c_3 c_3') <;> simp [-Int32.not_le, -Int32.not_lt, bI, st2_a, c_1, c_1', c_3, c_3']); done) | ((try simp only [bI]); (repeat' split) <;> simp_all [-Int32.not_le, -Int32.not_lt, st2_a, rGap, rWall]; done))
      exact sw_iret (pc := 15) hc hlk hrt rfl ⟨(congrArg (fun z => some (Value.int z)) h_4), rfl⟩ (Nat.le_of_ble_eq_true rfl) (Nat.le_of_ble_eq_true rfl) dX8_between_15
    ·
      have c_3' := Int32.not_lt.mp c_3
      refine sw_iconst (pc := 10) (v := 1) hc dX8_between_10 (by decide) ?_
      refine sw_goto (pc := 11) (tgt := 15) hc dX8_between_11 (by decide) ?_
      have h_5 : 1 = bI (y ≤ x ∧ x ≤ z) := by first | with_reducible rfl | (first | with_reducible rfl | (simp [-Int32.not_le, -Int32.not_lt, bI, st2_a, c_1, c_1', c_3, c_3']; done) | (((try simp only [st2_a, Nat.reduceBEq, Bool.false_and, Bool.true_and, beq_self_eq_true, cond_false, cond_true] at c_1 c_1' c_3 c_3') <;> simp [-Int32.not_le, -Int32.not_lt, bI, st2_a, c_1, c_1', c_3, c_3']); done) | ((try simp only [bI]); (repeat' split) <;> simp_all [-Int32.not_le, -Int32.not_lt, st2_a, rGap, rWall]; done))
      exact sw_iret (pc := 15) hc hlk hrt rfl ⟨(congrArg (fun z => some (Value.int z)) h_5), rfl⟩ (Nat.le_of_ble_eq_true rfl) (Nat.le_of_ble_eq_true rfl) dX8_between_15

set_option maxHeartbeats 4000000 in
set_option maxRecDepth 100000 in
theorem c_X8_isLevel (l : Launch) (g : sg_G) (C : Nat → Option va_E) (m0 : Nat) (q : Nat → Nat) (σ : Mem) (x : Int32) (hN : mN m0 q) : sg_Met l yX8_isLevel cX8_isLevel 2 (some .boolean) 1 23 0 0 g [.ref m0, .int x] (sg_ov C (mW g m0 q σ)) (fun v C' => v = some (.int (bI (rIn σ 2 x))) ∧ C' = sg_ov C (mW g m0 q σ)) sg_no := by
  refine sg_ofW (by decide) rfl ?_ (Nat.le_of_ble_eq_true rfl)
  intro p e s m below meth c hc hlk hrt hin2 htb
  have hc : sg_Cx p s m _ c cX8_isLevel 2 RX8 g := hc
  show sg_W p l e _ s m _ below meth c 2 g 0 0 _ (sg_ov C (mW g m0 q σ)) 0 [(0, .ref m0), (1, .int x)] []
  refine sw_aload_n (pc := 0) hc dX8_isLevel_0 rfl 0 rfl ?_
  refine sw_iload_n (pc := 1) hc dX8_isLevel_1 rfl 1 rfl ?_
  refine sw_iconst (pc := 2) (v := 0) hc dX8_isLevel_2 (by decide) ?_
  refine sw_aload_n (pc := 3) hc dX8_isLevel_3 rfl 0 rfl ?_
  refine sw_get (pc := 4) (v := .int (σ 2 0)) hc fl_RX8_92 (mW_o hN) rfl dX8_isLevel_4 ?_
  refine sw_iconst (pc := 7) (v := 1) hc dX8_isLevel_7 (by decide) ?_
  refine sw_isub (pc := 8) hc dX8_isLevel_8 ?_
  refine sw_callV (pc := 9) (rest := []) hc (c_X8_between l g C m0 q σ x 0 ((σ 2 0) - 1) hN ) md_X8_between ml_RX8_95 im_X8_between sl_X8_between (mW_o hN) rfl rfl rfl (Nat.le_of_ble_eq_true rfl) dX8_isLevel_9 ⟨Nat.le_of_ble_eq_true rfl, Nat.le_of_ble_eq_true rfl, Nat.le_of_ble_eq_true rfl, Nat.le_of_ble_eq_true rfl⟩ (fun v C' hP => ?_) (fun _ _ h => h.elim)
  obtain ⟨rfl, rfl⟩ := hP
  refine sw_st (st' := [.int (bI (0 ≤ x ∧ x ≤ ((σ 2 0) - 1)))]) rfl ?_
  have h_1 : bI (0 ≤ x ∧ x ≤ ((σ 2 0) - 1)) = bI (rIn σ 2 x) := by first | with_reducible rfl | (first | with_reducible rfl | (simp [-Int32.not_le, -Int32.not_lt, st2_a]; done)  | ((repeat' split) <;> simp_all [-Int32.not_le, -Int32.not_lt, st2_a, rGap, rWall]; done))
  exact sw_iret (pc := 12) hc hlk hrt (nar_01 bI_01) ⟨(congrArg (fun z => some (Value.int z)) h_1), rfl⟩ (Nat.le_of_ble_eq_true rfl) (Nat.le_of_ble_eq_true rfl) dX8_isLevel_12

set_option maxHeartbeats 4000000 in
set_option maxRecDepth 100000 in
theorem c_X8_isReplay (l : Launch) (g : sg_G) (C : Nat → Option va_E) (m0 : Nat) (q : Nat → Nat) (σ : Mem) (x : Int32) (hN : mN m0 q) : sg_Met l yX8_isReplay cX8_isReplay 2 (some .boolean) 1 23 0 0 g [.ref m0, .int x] (sg_ov C (mW g m0 q σ)) (fun v C' => v = some (.int (bI (rIn σ 9 x))) ∧ C' = sg_ov C (mW g m0 q σ)) sg_no := by
  refine sg_ofW (by decide) rfl ?_ (Nat.le_of_ble_eq_true rfl)
  intro p e s m below meth c hc hlk hrt hin2 htb
  have hc : sg_Cx p s m _ c cX8_isReplay 2 RX8 g := hc
  show sg_W p l e _ s m _ below meth c 2 g 0 0 _ (sg_ov C (mW g m0 q σ)) 0 [(0, .ref m0), (1, .int x)] []
  refine sw_aload_n (pc := 0) hc dX8_isReplay_0 rfl 0 rfl ?_
  refine sw_iload_n (pc := 1) hc dX8_isReplay_1 rfl 1 rfl ?_
  refine sw_iconst (pc := 2) (v := 0) hc dX8_isReplay_2 (by decide) ?_
  refine sw_aload_n (pc := 3) hc dX8_isReplay_3 rfl 0 rfl ?_
  refine sw_get (pc := 4) (v := .int (σ 9 0)) hc fl_RX8_99 (mW_o hN) rfl dX8_isReplay_4 ?_
  refine sw_iconst (pc := 7) (v := 1) hc dX8_isReplay_7 (by decide) ?_
  refine sw_isub (pc := 8) hc dX8_isReplay_8 ?_
  refine sw_callV (pc := 9) (rest := []) hc (c_X8_between l g C m0 q σ x 0 ((σ 9 0) - 1) hN ) md_X8_between ml_RX8_95 im_X8_between sl_X8_between (mW_o hN) rfl rfl rfl (Nat.le_of_ble_eq_true rfl) dX8_isReplay_9 ⟨Nat.le_of_ble_eq_true rfl, Nat.le_of_ble_eq_true rfl, Nat.le_of_ble_eq_true rfl, Nat.le_of_ble_eq_true rfl⟩ (fun v C' hP => ?_) (fun _ _ h => h.elim)
  obtain ⟨rfl, rfl⟩ := hP
  refine sw_st (st' := [.int (bI (0 ≤ x ∧ x ≤ ((σ 9 0) - 1)))]) rfl ?_
  have h_1 : bI (0 ≤ x ∧ x ≤ ((σ 9 0) - 1)) = bI (rIn σ 9 x) := by first | with_reducible rfl | (first | with_reducible rfl | (simp [-Int32.not_le, -Int32.not_lt, st2_a]; done)  | ((repeat' split) <;> simp_all [-Int32.not_le, -Int32.not_lt, st2_a, rGap, rWall]; done))
  exact sw_iret (pc := 12) hc hlk hrt (nar_01 bI_01) ⟨(congrArg (fun z => some (Value.int z)) h_1), rfl⟩ (Nat.le_of_ble_eq_true rfl) (Nat.le_of_ble_eq_true rfl) dX8_isReplay_12

set_option maxHeartbeats 4000000 in
set_option maxRecDepth 100000 in
theorem c_X8_isCategory (l : Launch) (g : sg_G) (C : Nat → Option va_E) (m0 : Nat) (q : Nat → Nat) (σ : Mem) (x : Int32) (hN : mN m0 q) : sg_Met l yX8_isCategory cX8_isCategory 2 (some .boolean) 1 23 0 0 g [.ref m0, .int x] (sg_ov C (mW g m0 q σ)) (fun v C' => v = some (.int (bI (rIn σ 16 x))) ∧ C' = sg_ov C (mW g m0 q σ)) sg_no := by
  refine sg_ofW (by decide) rfl ?_ (Nat.le_of_ble_eq_true rfl)
  intro p e s m below meth c hc hlk hrt hin2 htb
  have hc : sg_Cx p s m _ c cX8_isCategory 2 RX8 g := hc
  show sg_W p l e _ s m _ below meth c 2 g 0 0 _ (sg_ov C (mW g m0 q σ)) 0 [(0, .ref m0), (1, .int x)] []
  refine sw_aload_n (pc := 0) hc dX8_isCategory_0 rfl 0 rfl ?_
  refine sw_iload_n (pc := 1) hc dX8_isCategory_1 rfl 1 rfl ?_
  refine sw_iconst (pc := 2) (v := 0) hc dX8_isCategory_2 (by decide) ?_
  refine sw_aload_n (pc := 3) hc dX8_isCategory_3 rfl 0 rfl ?_
  refine sw_get (pc := 4) (v := .int (σ 16 0)) hc fl_RX8_102 (mW_o hN) rfl dX8_isCategory_4 ?_
  refine sw_iconst (pc := 7) (v := 1) hc dX8_isCategory_7 (by decide) ?_
  refine sw_isub (pc := 8) hc dX8_isCategory_8 ?_
  refine sw_callV (pc := 9) (rest := []) hc (c_X8_between l g C m0 q σ x 0 ((σ 16 0) - 1) hN ) md_X8_between ml_RX8_95 im_X8_between sl_X8_between (mW_o hN) rfl rfl rfl (Nat.le_of_ble_eq_true rfl) dX8_isCategory_9 ⟨Nat.le_of_ble_eq_true rfl, Nat.le_of_ble_eq_true rfl, Nat.le_of_ble_eq_true rfl, Nat.le_of_ble_eq_true rfl⟩ (fun v C' hP => ?_) (fun _ _ h => h.elim)
  obtain ⟨rfl, rfl⟩ := hP
  refine sw_st (st' := [.int (bI (0 ≤ x ∧ x ≤ ((σ 16 0) - 1)))]) rfl ?_
  have h_1 : bI (0 ≤ x ∧ x ≤ ((σ 16 0) - 1)) = bI (rIn σ 16 x) := by first | with_reducible rfl | (first | with_reducible rfl | (simp [-Int32.not_le, -Int32.not_lt, st2_a]; done)  | ((repeat' split) <;> simp_all [-Int32.not_le, -Int32.not_lt, st2_a, rGap, rWall]; done))
  exact sw_iret (pc := 12) hc hlk hrt (nar_01 bI_01) ⟨(congrArg (fun z => some (Value.int z)) h_1), rfl⟩ (Nat.le_of_ble_eq_true rfl) (Nat.le_of_ble_eq_true rfl) dX8_isCategory_12

set_option maxHeartbeats 4000000 in
set_option maxRecDepth 100000 in
theorem c_X8_isRun (l : Launch) (g : sg_G) (C : Nat → Option va_E) (m0 : Nat) (q : Nat → Nat) (σ : Mem) (x : Int32) (hN : mN m0 q) : sg_Met l yX8_isRun cX8_isRun 2 (some .boolean) 1 23 0 0 g [.ref m0, .int x] (sg_ov C (mW g m0 q σ)) (fun v C' => v = some (.int (bI (rIn σ 26 x))) ∧ C' = sg_ov C (mW g m0 q σ)) sg_no := by
  refine sg_ofW (by decide) rfl ?_ (Nat.le_of_ble_eq_true rfl)
  intro p e s m below meth c hc hlk hrt hin2 htb
  have hc : sg_Cx p s m _ c cX8_isRun 2 RX8 g := hc
  show sg_W p l e _ s m _ below meth c 2 g 0 0 _ (sg_ov C (mW g m0 q σ)) 0 [(0, .ref m0), (1, .int x)] []
  refine sw_aload_n (pc := 0) hc dX8_isRun_0 rfl 0 rfl ?_
  refine sw_iload_n (pc := 1) hc dX8_isRun_1 rfl 1 rfl ?_
  refine sw_iconst (pc := 2) (v := 0) hc dX8_isRun_2 (by decide) ?_
  refine sw_aload_n (pc := 3) hc dX8_isRun_3 rfl 0 rfl ?_
  refine sw_get (pc := 4) (v := .int (σ 26 0)) hc fl_RX8_105 (mW_o hN) rfl dX8_isRun_4 ?_
  refine sw_iconst (pc := 7) (v := 1) hc dX8_isRun_7 (by decide) ?_
  refine sw_isub (pc := 8) hc dX8_isRun_8 ?_
  refine sw_callV (pc := 9) (rest := []) hc (c_X8_between l g C m0 q σ x 0 ((σ 26 0) - 1) hN ) md_X8_between ml_RX8_95 im_X8_between sl_X8_between (mW_o hN) rfl rfl rfl (Nat.le_of_ble_eq_true rfl) dX8_isRun_9 ⟨Nat.le_of_ble_eq_true rfl, Nat.le_of_ble_eq_true rfl, Nat.le_of_ble_eq_true rfl, Nat.le_of_ble_eq_true rfl⟩ (fun v C' hP => ?_) (fun _ _ h => h.elim)
  obtain ⟨rfl, rfl⟩ := hP
  refine sw_st (st' := [.int (bI (0 ≤ x ∧ x ≤ ((σ 26 0) - 1)))]) rfl ?_
  have h_1 : bI (0 ≤ x ∧ x ≤ ((σ 26 0) - 1)) = bI (rIn σ 26 x) := by first | with_reducible rfl | (first | with_reducible rfl | (simp [-Int32.not_le, -Int32.not_lt, st2_a]; done)  | ((repeat' split) <;> simp_all [-Int32.not_le, -Int32.not_lt, st2_a, rGap, rWall]; done))
  exact sw_iret (pc := 12) hc hlk hrt (nar_01 bI_01) ⟨(congrArg (fun z => some (Value.int z)) h_1), rfl⟩ (Nat.le_of_ble_eq_true rfl) (Nat.le_of_ble_eq_true rfl) dX8_isRun_12

set_option maxHeartbeats 4000000 in
set_option maxRecDepth 100000 in
theorem c_X8_isRunner (l : Launch) (g : sg_G) (C : Nat → Option va_E) (m0 : Nat) (q : Nat → Nat) (σ : Mem) (x : Int32) (hN : mN m0 q) : sg_Met l yX8_isRunner cX8_isRunner 2 (some .boolean) 1 23 0 0 g [.ref m0, .int x] (sg_ov C (mW g m0 q σ)) (fun v C' => v = some (.int (bI (0 ≤ x ∧ x ≤ 7))) ∧ C' = sg_ov C (mW g m0 q σ)) sg_no := by
  refine sg_ofW (by decide) rfl ?_ (Nat.le_of_ble_eq_true rfl)
  intro p e s m below meth c hc hlk hrt hin2 htb
  have hc : sg_Cx p s m _ c cX8_isRunner 2 RX8 g := hc
  show sg_W p l e _ s m _ below meth c 2 g 0 0 _ (sg_ov C (mW g m0 q σ)) 0 [(0, .ref m0), (1, .int x)] []
  refine sw_aload_n (pc := 0) hc dX8_isRunner_0 rfl 0 rfl ?_
  refine sw_iload_n (pc := 1) hc dX8_isRunner_1 rfl 1 rfl ?_
  refine sw_iconst (pc := 2) (v := 0) hc dX8_isRunner_2 (by decide) ?_
  refine sw_bipush (pc := 3) (v := 7) hc dX8_isRunner_3 (by decide) ?_
  refine sw_callV (pc := 5) (rest := []) hc (c_X8_between l g C m0 q σ x 0 7 hN ) md_X8_between ml_RX8_95 im_X8_between sl_X8_between (mW_o hN) rfl rfl rfl (Nat.le_of_ble_eq_true rfl) dX8_isRunner_5 ⟨Nat.le_of_ble_eq_true rfl, Nat.le_of_ble_eq_true rfl, Nat.le_of_ble_eq_true rfl, Nat.le_of_ble_eq_true rfl⟩ (fun v C' hP => ?_) (fun _ _ h => h.elim)
  obtain ⟨rfl, rfl⟩ := hP
  refine sw_st (st' := [.int (bI (0 ≤ x ∧ x ≤ 7))]) rfl ?_
  exact sw_iret (pc := 8) hc hlk hrt (nar_01 bI_01) ⟨rfl, rfl⟩ (Nat.le_of_ble_eq_true rfl) (Nat.le_of_ble_eq_true rfl) dX8_isRunner_8

set_option maxHeartbeats 4000000 in
set_option maxRecDepth 100000 in
theorem c_X8_gap (l : Launch) (g : sg_G) (C : Nat → Option va_E) (m0 : Nat) (q : Nat → Nat) (σ : Mem) (a : Nat) (b : Nat) (hN : mN m0 q) (hb : 32 * a + b < 96) : sg_Met l yX8_gap cX8_gap 3 (some .boolean) 0 0 0 0 g [.ref m0, .int (nI a), .int (nI b)] (sg_ov C (mW g m0 q σ)) (fun v C' => v = some (.int (bI (rGap σ a b))) ∧ C' = sg_ov C (mW g m0 q σ)) sg_no := by
  refine sg_ofW (by decide) rfl ?_ (Nat.le_of_ble_eq_true rfl)
  intro p e s m below meth c hc hlk hrt hin2 htb
  have hc : sg_Cx p s m _ c cX8_gap 3 RX8 g := hc
  show sg_W p l e _ s m _ below meth c 3 g 0 0 _ (sg_ov C (mW g m0 q σ)) 0 [(0, .ref m0), (1, .int (nI a)), (2, .int (nI b))] []
  refine sw_aload_n (pc := 0) hc dX8_gap_0 rfl 0 rfl ?_
  refine sw_get (pc := 1) (v := .ref (q 0)) hc fl_RX8_7 (mW_o hN) rfl dX8_gap_1 ?_
  refine sw_bipush (pc := 4) (v := 32) hc dX8_gap_4 (by decide) ?_
  refine sw_iload_n (pc := 6) hc dX8_gap_6 rfl 1 rfl ?_
  refine sw_imul (pc := 7) hc dX8_gap_7 ?_
  refine sw_iload_n (pc := 8) hc dX8_gap_8 rfl 2 rfl ?_
  refine sw_iadd (pc := 9) hc dX8_gap_9 ?_
  refine sw_iald (pc := 10) (j := 32 * a + b) hc (mW_a0 hN) ((rfl).trans (nI_ix 32)) (by omega) (by decide) dX8_gap_10 ?_
  refine sw_if_ge (pc := 11) (tgt := 18) hc dX8_gap_11 (by decide) (fun c_1 => ?_) (fun c_1 => ?_)
  ·
    have c_1' := Int32.not_lt.mpr c_1
    refine sw_iconst (pc := 18) (v := 0) hc dX8_gap_18 (by decide) ?_
    have h_2 : 0 = bI (rGap σ a b) := by first | with_reducible rfl | (first | with_reducible rfl | (simp [-Int32.not_le, -Int32.not_lt, bI, st2_a, c_1, c_1']; done) | (((try simp only [st2_a, Nat.reduceBEq, Bool.false_and, Bool.true_and, beq_self_eq_true, cond_false, cond_true] at c_1 c_1') <;> simp [-Int32.not_le, -Int32.not_lt, bI, st2_a, c_1, c_1']); done) | ((try simp only [bI]); (repeat' split) <;> simp_all [-Int32.not_le, -Int32.not_lt, st2_a, rGap, rWall]; done))
    exact sw_iret (pc := 19) hc hlk hrt rfl ⟨(congrArg (fun z => some (Value.int z)) h_2), rfl⟩ (Nat.le_of_ble_eq_true rfl) (Nat.le_of_ble_eq_true rfl) dX8_gap_19
  ·
    have c_1' := Int32.not_le.mp c_1
    refine sw_iconst (pc := 14) (v := 1) hc dX8_gap_14 (by decide) ?_
    refine sw_goto (pc := 15) (tgt := 19) hc dX8_gap_15 (by decide) ?_
    have h_3 : 1 = bI (rGap σ a b) := by first | with_reducible rfl | (first | with_reducible rfl | (simp [-Int32.not_le, -Int32.not_lt, bI, st2_a, c_1, c_1']; done) | (((try simp only [st2_a, Nat.reduceBEq, Bool.false_and, Bool.true_and, beq_self_eq_true, cond_false, cond_true] at c_1 c_1') <;> simp [-Int32.not_le, -Int32.not_lt, bI, st2_a, c_1, c_1']); done) | ((try simp only [bI]); (repeat' split) <;> simp_all [-Int32.not_le, -Int32.not_lt, st2_a, rGap, rWall]; done))
    exact sw_iret (pc := 19) hc hlk hrt rfl ⟨(congrArg (fun z => some (Value.int z)) h_3), rfl⟩ (Nat.le_of_ble_eq_true rfl) (Nat.le_of_ble_eq_true rfl) dX8_gap_19

set_option maxHeartbeats 4000000 in
set_option maxRecDepth 100000 in
theorem c_X8_ground (l : Launch) (g : sg_G) (C : Nat → Option va_E) (m0 : Nat) (q : Nat → Nat) (σ : Mem) (a : Nat) (b : Nat) (hN : mN m0 q) (hb : 32 * a + b < 96) : sg_Met l yX8_ground cX8_ground 3 (some .int) 0 0 0 0 g [.ref m0, .int (nI a), .int (nI b)] (sg_ov C (mW g m0 q σ)) (fun v C' => v = some (.int (rGnd σ a b)) ∧ C' = sg_ov C (mW g m0 q σ)) sg_no := by
  refine sg_ofW (by decide) rfl ?_ (Nat.le_of_ble_eq_true rfl)
  intro p e s m below meth c hc hlk hrt hin2 htb
  have hc : sg_Cx p s m _ c cX8_ground 3 RX8 g := hc
  show sg_W p l e _ s m _ below meth c 3 g 0 0 _ (sg_ov C (mW g m0 q σ)) 0 [(0, .ref m0), (1, .int (nI a)), (2, .int (nI b))] []
  refine sw_bipush (pc := 0) (v := 16) hc dX8_ground_0 (by decide) ?_
  refine sw_aload_n (pc := 2) hc dX8_ground_2 rfl 0 rfl ?_
  refine sw_get (pc := 3) (v := .ref (q 0)) hc fl_RX8_7 (mW_o hN) rfl dX8_ground_3 ?_
  refine sw_bipush (pc := 6) (v := 32) hc dX8_ground_6 (by decide) ?_
  refine sw_iload_n (pc := 8) hc dX8_ground_8 rfl 1 rfl ?_
  refine sw_imul (pc := 9) hc dX8_ground_9 ?_
  refine sw_iload_n (pc := 10) hc dX8_ground_10 rfl 2 rfl ?_
  refine sw_iadd (pc := 11) hc dX8_ground_11 ?_
  refine sw_iald (pc := 12) (j := 32 * a + b) hc (mW_a0 hN) ((rfl).trans (nI_ix 32)) (by omega) (by decide) dX8_ground_12 ?_
  refine sw_imul (pc := 13) hc dX8_ground_13 ?_
  have h_1 : 16 * (σ 0 (32 * a + b)) = rGnd σ a b := by rfl
  exact sw_iret (pc := 14) hc hlk hrt rfl ⟨(congrArg (fun z => some (Value.int z)) h_1), rfl⟩ (Nat.le_of_ble_eq_true rfl) (Nat.le_of_ble_eq_true rfl) dX8_ground_14

set_option maxHeartbeats 4000000 in
set_option maxRecDepth 100000 in
theorem c_X8_wall (l : Launch) (g : sg_G) (C : Nat → Option va_E) (m0 : Nat) (q : Nat → Nat) (σ : Mem) (a : Nat) (b : Nat) (hN : mN m0 q) (hb : 32 * a + b < 96) : sg_Met l yX8_wall cX8_wall 3 (some .boolean) 1 22 0 0 g [.ref m0, .int (nI a), .int (nI b)] (sg_ov C (mW g m0 q σ)) (fun v C' => v = some (.int (bI (rWall σ a b))) ∧ C' = sg_ov C (mW g m0 q σ)) sg_no := by
  refine sg_ofW (by decide) rfl ?_ (Nat.le_of_ble_eq_true rfl)
  intro p e s m below meth c hc hlk hrt hin2 htb
  have hc : sg_Cx p s m _ c cX8_wall 3 RX8 g := hc
  show sg_W p l e _ s m _ below meth c 3 g 0 0 _ (sg_ov C (mW g m0 q σ)) 0 [(0, .ref m0), (1, .int (nI a)), (2, .int (nI b))] []
  refine sw_aload_n (pc := 0) hc dX8_wall_0 rfl 0 rfl ?_
  refine sw_iload_n (pc := 1) hc dX8_wall_1 rfl 1 rfl ?_
  refine sw_iload_n (pc := 2) hc dX8_wall_2 rfl 2 rfl ?_
  refine sw_callV (pc := 3) (rest := []) hc (c_X8_gap l g C m0 q σ a b hN (by omega)) md_X8_gap ml_RX8_108 im_X8_gap sl_X8_gap (mW_o hN) rfl rfl rfl (Nat.le_of_ble_eq_true rfl) dX8_wall_3 ⟨Nat.le_of_ble_eq_true rfl, Nat.le_of_ble_eq_true rfl, Nat.le_of_ble_eq_true rfl, Nat.le_of_ble_eq_true rfl⟩ (fun v C' hP => ?_) (fun _ _ h => h.elim)
  obtain ⟨rfl, rfl⟩ := hP
  refine sw_st (st' := [.int (bI (rGap σ a b))]) rfl ?_
  refine sw_if_ne (pc := 6) (tgt := 26) hc dX8_wall_6 (by decide) (fun c_1 => ?_) (fun c_1 => ?_)
  ·
    have p_2 : rGap σ a b := bI_n c_1
    refine sw_iconst (pc := 26) (v := 0) hc dX8_wall_26 (by decide) ?_
    have h_3 : 0 = bI (rWall σ a b) := by first | with_reducible rfl | (first | with_reducible rfl | (simp [-Int32.not_le, -Int32.not_lt, bI, st2_a, p_2]; done) | (((try simp only [st2_a, Nat.reduceBEq, Bool.false_and, Bool.true_and, beq_self_eq_true, cond_false, cond_true] at p_2) <;> simp [-Int32.not_le, -Int32.not_lt, bI, st2_a, p_2]); done) | ((try simp only [bI]); (repeat' split) <;> simp_all [-Int32.not_le, -Int32.not_lt, st2_a, rGap, rWall]; done))
    exact sw_iret (pc := 27) hc hlk hrt rfl ⟨(congrArg (fun z => some (Value.int z)) h_3), rfl⟩ (Nat.le_of_ble_eq_true rfl) (Nat.le_of_ble_eq_true rfl) dX8_wall_27
  ·
    have p_4 : ¬ (rGap σ a b) := bI_0 c_1
    refine sw_aload_n (pc := 9) hc dX8_wall_9 rfl 0 rfl ?_
    refine sw_iload_n (pc := 10) hc dX8_wall_10 rfl 1 rfl ?_
    refine sw_iload_n (pc := 11) hc dX8_wall_11 rfl 2 rfl ?_
    refine sw_callV (pc := 12) (rest := []) hc (c_X8_ground l g C m0 q σ a b hN (by omega)) md_X8_ground ml_RX8_112 im_X8_ground sl_X8_ground (mW_o hN) rfl rfl rfl (Nat.le_of_ble_eq_true rfl) dX8_wall_12 ⟨Nat.le_of_ble_eq_true rfl, Nat.le_of_ble_eq_true rfl, Nat.le_of_ble_eq_true rfl, Nat.le_of_ble_eq_true rfl⟩ (fun v C' hP => ?_) (fun _ _ h => h.elim)
    obtain ⟨rfl, rfl⟩ := hP
    refine sw_st (st' := [.int (rGnd σ a b)]) rfl ?_
    refine sw_aload_n (pc := 15) hc dX8_wall_15 rfl 0 rfl ?_
    refine sw_get (pc := 16) (v := .int (σ 33 0)) hc fl_RX8_116 (mW_o hN) rfl dX8_wall_16 ?_
    refine sw_icmp_le (pc := 19) (tgt := 26) hc dX8_wall_19 (by decide) (fun c_5 => ?_) (fun c_5 => ?_)
    ·
      have c_5' := Int32.not_lt.mpr c_5
      refine sw_iconst (pc := 26) (v := 0) hc dX8_wall_26 (by decide) ?_
      have h_6 : 0 = bI (rWall σ a b) := by first | with_reducible rfl | (first | with_reducible rfl | (simp [-Int32.not_le, -Int32.not_lt, bI, st2_a, p_4, c_5, c_5']; done) | (((try simp only [st2_a, Nat.reduceBEq, Bool.false_and, Bool.true_and, beq_self_eq_true, cond_false, cond_true] at p_4 c_5 c_5') <;> simp [-Int32.not_le, -Int32.not_lt, bI, st2_a, p_4, c_5, c_5']); done) | ((try simp only [bI]); (repeat' split) <;> simp_all [-Int32.not_le, -Int32.not_lt, st2_a, rGap, rWall]; done))
      exact sw_iret (pc := 27) hc hlk hrt rfl ⟨(congrArg (fun z => some (Value.int z)) h_6), rfl⟩ (Nat.le_of_ble_eq_true rfl) (Nat.le_of_ble_eq_true rfl) dX8_wall_27
    ·
      have c_5' := Int32.not_le.mp c_5
      refine sw_iconst (pc := 22) (v := 1) hc dX8_wall_22 (by decide) ?_
      refine sw_goto (pc := 23) (tgt := 27) hc dX8_wall_23 (by decide) ?_
      have h_7 : 1 = bI (rWall σ a b) := by first | with_reducible rfl | (first | with_reducible rfl | (simp [-Int32.not_le, -Int32.not_lt, bI, st2_a, p_4, c_5, c_5']; done) | (((try simp only [st2_a, Nat.reduceBEq, Bool.false_and, Bool.true_and, beq_self_eq_true, cond_false, cond_true] at p_4 c_5 c_5') <;> simp [-Int32.not_le, -Int32.not_lt, bI, st2_a, p_4, c_5, c_5']); done) | ((try simp only [bI]); (repeat' split) <;> simp_all [-Int32.not_le, -Int32.not_lt, st2_a, rGap, rWall]; done))
      exact sw_iret (pc := 27) hc hlk hrt rfl ⟨(congrArg (fun z => some (Value.int z)) h_7), rfl⟩ (Nat.le_of_ble_eq_true rfl) (Nat.le_of_ble_eq_true rfl) dX8_wall_27

