/-! the hero where all heights are 0 -/
def Flat (τ : Mem) : Prop := ∀ c, c < 32 → τ 0 c = 0
abbrev gDa (d b n : Int32) : Prop := 0 < n &&& 8 ∧ ¬ rWay0 b = 0 ∧ ¬ d = 0
def gW (d b n : Int32) : Int32 := if gDa d b n then rWay0 b * 5 else rWay0 b
def gD (d b n : Int32) : Int32 := if gDa d b n then 0 else d
abbrev gJ (s n : Int32) : Prop := 0 < n &&& 4 ∧ ¬ s = 0
/-- stands, speed, height -/
def gFall (s v y : Int32) : Int32 × Int32 × Int32 := if s = 0 then (if rSp v ≤ 0 ∧ y + rSp v ≤ 0 then (1, 0, 0) else (0, rSp v, y + rSp v)) else (s, v, y)
def gFall1 (s v y : Int32) : Int32 × Int32 × Int32 := if ¬ s = 0 ∧ 0 < y then gFall 0 0 y else gFall s v y
def gT (s v y n : Int32) : Int32 × Int32 × Int32 := if gJ s n then gFall1 0 14 y else gFall1 s v y
section FLAT
variable {τ σ : Mem} {a c : Nat} {b n f w : Int32}
theorem gap_f (h : Flat τ) (hc : c < 32) : ¬ rGap τ 0 c := by
  show ¬ τ 0 (32 * 0 + c) < 0
  rw [show 32 * 0 + c = c by omega, h c hc]
  decide
theorem gnd_f (h : Flat τ) (hc : c < 32) : rGnd τ 0 c = 0 := by
  show 16 * τ 0 (32 * 0 + c) = 0
  rw [show 32 * 0 + c = c by omega, h c hc]
  rfl
theorem wall_f (h : Flat τ) (hc : c < 32) (hy : 0 ≤ τ 33 0) : ¬ rWall τ 0 c := fun q => by
  have h2 := q.2
  rw [gnd_f h hc] at h2
  exact absurd hy (Int32.not_le.mpr h2)
theorem Flat.fr (h : Flat σ) (hF : rFr σ τ) : Flat τ := fun c hc => by rw [hF 0 (by decide)]; exact h c hc
theorem wayS_32 : rWayS τ b n 32 0 = τ 32 0 := by
  unfold rWayS rWayM2 rWayM
  split <;> rfl
theorem wayS_33 : rWayS τ b n 33 0 = τ 33 0 := by
  unfold rWayS rWayM2 rWayM
  split <;> rfl
theorem wayS_34 : rWayS τ b n 34 0 = τ 34 0 := by
  unfold rWayS rWayM2 rWayM
  split <;> rfl
theorem wayS_35 : rWayS τ b n 35 0 = τ 35 0 := by
  unfold rWayS rWayM2 rWayM
  split <;> rfl
theorem wayS_40 : rWayS τ b n 40 0 = τ 40 0 := by
  unfold rWayS rWayM2 rWayM
  split <;> rfl
theorem wayS_41 : rWayS τ b n 41 0 = τ 41 0 := by
  unfold rWayS rWayM2 rWayM
  split <;> rfl
theorem wayS_36 : rWayS τ b n 36 0 = gD (τ 36 0) b n := by
  show rWayM τ b n 36 0 = gD (τ 36 0) b n
  unfold rWayM gD
  by_cases q : rDash τ b n
  · rw [if_pos q, if_pos (show gDa (τ 36 0) b n from q)]; rfl
  · rw [if_neg q, if_neg (show ¬ gDa (τ 36 0) b n from q)]
theorem jump_32 : rJump τ n 32 0 = τ 32 0 := by
  unfold rJump
  split <;> rfl
theorem jump_33 : rJump τ n 33 0 = τ 33 0 := by
  unfold rJump
  split <;> rfl
theorem jump_36 : rJump τ n 36 0 = τ 36 0 := by
  unfold rJump
  split <;> rfl
theorem jump_40 : rJump τ n 40 0 = τ 40 0 := by
  unfold rJump
  split <;> rfl
theorem jump_41 : rJump τ n 41 0 = τ 41 0 := by
  unfold rJump
  split <;> rfl
theorem jump_34 : rJump τ n 34 0 = if gJ (τ 35 0) n then 14 else τ 34 0 := by
  unfold rJump
  by_cases q : gJ (τ 35 0) n
  · rw [if_pos q, if_pos q]; rfl
  · rw [if_neg q, if_neg q]
theorem jump_35 : rJump τ n 35 0 = if gJ (τ 35 0) n then 0 else τ 35 0 := by
  unfold rJump
  by_cases q : gJ (τ 35 0) n
  · rw [if_pos q, if_pos q]; rfl
  · rw [if_neg q, if_neg q]
theorem clip_k {k : Nat} (hk : Nat.beq k 39 = false) : ∀ {m i : Nat} {τ : Mem}, rClip a m i τ k 0 = τ k 0
  | 0, _, _ => rfl
  | m + 1, i, τ => by
    refine Eq.trans (clip_k hk (m := m) (i := i + 1)) ?_
    show cond (Nat.beq k 39 && Nat.beq 0 0) _ _ = _
    rw [hk]
    rfl
theorem go_32 (h : Flat τ) (hH : rHW τ) (hy : 0 ≤ τ 33 0) : rGo τ 0 w 32 0 = rTo (τ 32 0 + w) := by
  unfold rGo
  rw [if_neg (wall_f h (cN_x (rTo_x _)).2 hy)]
  exact st2_ss
theorem go_33 : rGo τ a w 33 0 = τ 33 0 := by
  unfold rGo
  split
  · rfl
  · exact clip_k rfl
theorem go_34 : rGo τ a w 34 0 = τ 34 0 := by
  unfold rGo
  split
  · rfl
  · exact clip_k rfl
theorem go_35 : rGo τ a w 35 0 = τ 35 0 := by
  unfold rGo
  split
  · rfl
  · exact clip_k rfl
theorem go_36 : rGo τ a w 36 0 = τ 36 0 := by
  unfold rGo
  split
  · rfl
  · exact clip_k rfl
theorem go_40 : rGo τ a w 40 0 = τ 40 0 := by
  unfold rGo
  split
  · rfl
  · exact clip_k rfl
theorem go_41 : rGo τ a w 41 0 = τ 41 0 := by
  unfold rGo
  split
  · rfl
  · exact clip_k rfl
theorem fall4_f (h : Flat τ) (hc : c < 32) : (rFall4 τ 0 c 35 0, rFall4 τ 0 c 34 0, rFall4 τ 0 c 33 0) = gFall (τ 35 0) (τ 34 0) (τ 33 0) := by
  have h2 : Flat (rFall2 τ) := fun d hd => h d hd
  unfold rFall4 gFall
  by_cases q : τ 35 0 = 0
  · rw [if_pos q, if_pos q]
    unfold rFall3
    by_cases q2 : rSp (τ 34 0) ≤ 0 ∧ τ 33 0 + rSp (τ 34 0) ≤ 0
    · have q3 : ¬ rGap (rFall2 τ) 0 c ∧ rFall2 τ 34 0 ≤ 0 ∧ rFall2 τ 33 0 ≤ rGnd (rFall2 τ) 0 c := ⟨gap_f h2 hc, q2.1, by rw [gnd_f h2 hc]; exact q2.2⟩
      rw [if_pos q3, if_pos q2, gnd_f h2 hc]
      rfl
    · have q3 : ¬ (¬ rGap (rFall2 τ) 0 c ∧ rFall2 τ 34 0 ≤ 0 ∧ rFall2 τ 33 0 ≤ rGnd (rFall2 τ) 0 c) := fun z => q2 ⟨z.2.1, by have z3 := z.2.2; rw [gnd_f h2 hc] at z3; exact z3⟩
      rw [if_neg q3, if_neg q2]
      show (τ 35 0, _, _) = _
      rw [q]
      rfl
  · rw [if_neg q, if_neg q]
theorem fall4_36 : rFall4 τ 0 c 36 0 = τ 36 0 := by
  unfold rFall4 rFall3 rFall2
  split
  · split <;> rfl
  · rfl
theorem fall1_f (h : Flat τ) (hH : rHW τ) : (rFall4 (rFall1 τ 0) 0 (cN (τ 32 0)) 35 0, rFall4 (rFall1 τ 0) 0 (cN (τ 32 0)) 34 0, rFall4 (rFall1 τ 0) 0 (cN (τ 32 0)) 33 0) = gFall1 (τ 35 0) (τ 34 0) (τ 33 0) := by
  have hc : cN (τ 32 0) < 32 := (cN_x hH.1).2
  unfold gFall1
  by_cases q : ¬ τ 35 0 = 0 ∧ 0 < τ 33 0
  · have e : rFall1 τ 0 = st2 (st2 τ 35 0 0) 34 0 0 := by
      unfold rFall1
      rw [if_pos ⟨q.1, .inr (by rw [gnd_f h hc]; exact q.2)⟩]
    rw [e, if_pos q]
    exact fall4_f (τ := st2 (st2 τ 35 0 0) 34 0 0) (fun d hd => h d hd) hc
  · have e : rFall1 τ 0 = τ := by
      unfold rFall1
      rw [if_neg]
      intro z
      rcases z.2 with z2 | z2
      · exact gap_f h hc z2
      · rw [gnd_f h hc] at z2
        exact q ⟨z.1, z2⟩
    rw [e, if_neg q]
    exact fall4_f h hc
theorem fall1_36 : rFall1 τ a 36 0 = τ 36 0 := by
  unfold rFall1
  split <;> rfl
theorem fall_f (h : Flat τ) (hH : rHW τ) : (rFall τ 0 35 0, rFall τ 0 34 0, rFall τ 0 33 0) = gFall1 (τ 35 0) (τ 34 0) (τ 33 0) := fall1_f h hH
theorem fall_36 (h : Flat τ) (hH : rHW τ) : rFall τ 0 36 0 = τ 36 0 ||| (gFall1 (τ 35 0) (τ 34 0) (τ 33 0)).1 := by
  rw [← fall1_f h hH]
  show rFall4 (rFall1 τ 0) 0 (cN (τ 32 0)) 36 0 ||| _ = _
  rw [fall4_36, fall1_36]
theorem fall4_32 {d : Nat} : rFall4 τ a d 32 0 = τ 32 0 := by
  unfold rFall4 rFall3 rFall2
  split
  · split <;> rfl
  · rfl
theorem fall_32 : rFall τ a 32 0 = τ 32 0 := by
  show rFall4 (rFall1 τ a) a (cN (τ 32 0)) 32 0 = τ 32 0
  rw [fall4_32, rFall1_32]
theorem fall4_40 {d : Nat} : rFall4 τ a d 40 0 = τ 40 0 := by
  unfold rFall4 rFall3 rFall2
  split
  · split <;> rfl
  · rfl
theorem fall_40 : rFall τ a 40 0 = τ 40 0 := by
  show rFall4 (rFall1 τ a) a (cN (τ 32 0)) 40 0 = τ 40 0
  rw [fall4_40]
  unfold rFall1
  split <;> rfl
theorem meet1_32 {d : Nat} : rMeet1 τ a d 32 0 = τ 32 0 := by
  unfold rMeet1
  split <;> rfl
theorem meet_32 : rMeet τ a 32 0 = τ 32 0 := meet1_32
theorem meet1_33 {d : Nat} : rMeet1 τ a d 33 0 = τ 33 0 := by
  unfold rMeet1
  split <;> rfl
theorem meet_33 : rMeet τ a 33 0 = τ 33 0 := meet1_33
theorem meet1_34 {d : Nat} : rMeet1 τ a d 34 0 = τ 34 0 := by
  unfold rMeet1
  split <;> rfl
theorem meet_34 : rMeet τ a 34 0 = τ 34 0 := meet1_34
theorem meet1_35 {d : Nat} : rMeet1 τ a d 35 0 = τ 35 0 := by
  unfold rMeet1
  split <;> rfl
theorem meet_35 : rMeet τ a 35 0 = τ 35 0 := meet1_35
theorem meet1_36 {d : Nat} : rMeet1 τ a d 36 0 = τ 36 0 := by
  unfold rMeet1
  split <;> rfl
theorem meet_36 : rMeet τ a 36 0 = τ 36 0 := meet1_36
theorem meet1_40 {d : Nat} : rMeet1 τ a d 40 0 = τ 40 0 := by
  unfold rMeet1
  split <;> rfl
theorem meet_40 : rMeet τ a 40 0 = τ 40 0 := meet1_40
theorem meet_41 : rMeet τ a 41 0 = rFate τ (cN (τ 32 0)) (τ 1 (32 * a + cN (τ 32 0))) := by
  show (if rMeet1 τ a (cN (τ 32 0)) 33 0 < -32 ∨ (¬ rMeet1 τ a (cN (τ 32 0)) 35 0 = 0 ∧ _) then _ else _) = _
  rw [meet1_33, meet1_35]
  rfl
theorem fate_3 (b : Nat) (x : Int32) : rFate τ b x = 0 ∨ rFate τ b x = 1 ∨ rFate τ b x = 2 := by
  unfold rFate
  split
  · exact .inr (.inr rfl)
  · split
    · exact .inr (.inl rfl)
    · exact .inl rfl
/-- the tick's steps, ahead of the count -/
def rTk (τ : Mem) (a : Nat) (b f : Int32) : Mem := rGo (rJump (rWayS τ b (rNew b f)) (rNew b f)) a (rWay τ b (rNew b f))
theorem st2_o {k k' i : Nat} {v : Int32} (h : Nat.beq k' k = false) : st2 τ k i v k' 0 = τ k' 0 := by
  show cond (Nat.beq k' k && Nat.beq 0 i) v (τ k' 0) = τ k' 0
  rw [h]
  rfl
theorem tick_k {k : Nat} (h : Nat.beq k 40 = false) : rTick τ a b f k 0 = rMeet (rFall (rTk τ a b f) a) a k 0 := st2_o h
theorem tick_40 : rTick τ a b f 40 0 = τ 40 0 + 1 := by
  have e : rTick τ a b f 40 0 = rMeet (rFall (rTk τ a b f) a) a 40 0 + 1 := st2_ss
  rw [e, meet_40, fall_40]
  unfold rTk
  rw [go_40, jump_40, wayS_40]
theorem tick_41 : rTick τ a b f 41 0 = 0 ∨ rTick τ a b f 41 0 = 1 ∨ rTick τ a b f 41 0 = 2 := by
  rw [tick_k rfl, meet_41]
  exact fate_3 _ _
/-- a tick, where all heights are 0 -/
theorem tick_f (h : Flat τ) (hH : rHW τ) (hy : 0 ≤ τ 33 0) : rTick τ 0 b f 32 0 = rTo (τ 32 0 + gW (τ 36 0) b (rNew b f)) ∧
    (rTick τ 0 b f 35 0, rTick τ 0 b f 34 0, rTick τ 0 b f 33 0) = gT (τ 35 0) (τ 34 0) (τ 33 0) (rNew b f) ∧
    rTick τ 0 b f 36 0 = gD (τ 36 0) b (rNew b f) ||| (gT (τ 35 0) (τ 34 0) (τ 33 0) (rNew b f)).1 := by
  have hA : Flat (rWayS τ b (rNew b f)) := h.fr (rFr_way rFr.rf)
  have hAH : rHW (rWayS τ b (rNew b f)) := rHW_way hH
  have hJ : Flat (rJump (rWayS τ b (rNew b f)) (rNew b f)) := hA.fr (rFr_jump rFr.rf)
  have hJH : rHW (rJump (rWayS τ b (rNew b f)) (rNew b f)) := rHW_jump hAH
  have hJy : 0 ≤ rJump (rWayS τ b (rNew b f)) (rNew b f) 33 0 := by rw [jump_33, wayS_33]; exact hy
  have hG : Flat (rGo (rJump (rWayS τ b (rNew b f)) (rNew b f)) 0 (rWay τ b (rNew b f))) := hJ.fr (rFr_go rFr.rf)
  have hGH : rHW (rGo (rJump (rWayS τ b (rNew b f)) (rNew b f)) 0 (rWay τ b (rNew b f))) := rHW_go hJH
  have eT : gT (τ 35 0) (τ 34 0) (τ 33 0) (rNew b f) = gFall1 (rJump (rWayS τ b (rNew b f)) (rNew b f) 35 0) (rJump (rWayS τ b (rNew b f)) (rNew b f) 34 0) (τ 33 0) := by
    rw [jump_35, jump_34, wayS_35, wayS_34]
    unfold gT
    by_cases q : gJ (τ 35 0) (rNew b f)
    · rw [if_pos q, if_pos q, if_pos q]
    · rw [if_neg q, if_neg q, if_neg q]
  have eF := fall_f hG hGH
  rw [go_35, go_34, go_33, jump_33, wayS_33, ← eT] at eF
  refine ⟨?_, ?_, ?_⟩
  · rw [tick_k rfl, meet_32, fall_32]
    unfold rTk
    rw [go_32 hJ hJH hJy, jump_32, wayS_32]
    rfl
  · rw [tick_k rfl, tick_k rfl, tick_k rfl, meet_35, meet_34, meet_33]
    exact eF
  · rw [tick_k rfl, meet_36, fall_36 (τ := rTk τ 0 b f) hG hGH]
    unfold rTk
    rw [go_36, jump_36, wayS_36, go_35, go_34, go_33, jump_33, wayS_33, ← eT]
end FLAT
theorem ti_add {x y : Int32} (h1 : -2147483648 ≤ x.toInt + y.toInt) (h2 : x.toInt + y.toInt < 2147483648) : (x + y).toInt = x.toInt + y.toInt := by
  rw [Int32.toInt_add]
  exact Int.bmod_eq_of_le (by omega) (by omega)
theorem ti_sub {x y : Int32} (h1 : -2147483648 ≤ x.toInt - y.toInt) (h2 : x.toInt - y.toInt < 2147483648) : (x - y).toInt = x.toInt - y.toInt := by
  rw [Int32.toInt_sub]
  exact Int.bmod_eq_of_le (by omega) (by omega)
theorem rSp_b {v : Int32} (h : -14 ≤ v.toInt ∧ v.toInt ≤ 14) : -14 ≤ (rSp v).toInt ∧ (rSp v).toInt ≤ 12 := by
  have e : (v - 2).toInt = v.toInt - 2 := ti_sub (y := 2) (by show _ ≤ v.toInt - 2; omega) (by show v.toInt - 2 < _; omega)
  unfold rSp
  by_cases q : v - 2 < -14
  · rw [if_pos q]; decide
  · rw [if_neg q, e]
    have q2 := Int32.le_iff_toInt_le.mp (Int32.not_lt.mp q)
    rw [e, show (-14 : Int32).toInt = -14 from by decide] at q2
    omega
theorem nI_toI {x : Int32} {z : Int} (h : x.toInt = z) (h0 : 0 ≤ z) : x = nI z.toNat := by
  have hb : z < 2 ^ 31 := by have := x.toInt_lt; omega
  apply Int32.toInt_inj.mp
  rw [h, nI_toInt (by omega)]
  omega
theorem gFall_b {s v : Int32} {Y : Nat} (hY : Y ≤ 1000000) (hv : -14 ≤ v.toInt ∧ v.toInt ≤ 14) : ∃ Z : Nat, (gFall s v (nI Y)).2.2 = nI Z ∧ Z ≤ Y + 12 ∧ Y ≤ Z + 14 ∧ -14 ≤ (gFall s v (nI Y)).2.1.toInt ∧ (gFall s v (nI Y)).2.1.toInt ≤ 14 := by
  have hs := rSp_b hv
  have e : (nI Y + rSp v).toInt = Y + (rSp v).toInt := by
    have := nI_toInt (n := Y) (by omega)
    rw [ti_add (by omega) (by omega), this]
  unfold gFall
  by_cases q : s = 0
  · rw [if_pos q]
    by_cases q2 : rSp v ≤ 0 ∧ nI Y + rSp v ≤ 0
    · rw [if_pos q2]
      have q3 := Int32.le_iff_toInt_le.mp q2.2
      rw [e, show (0 : Int32).toInt = 0 from by decide] at q3
      exact ⟨0, rfl, by omega, by omega, by decide, by decide⟩
    · rw [if_neg q2]
      have q3 : 0 ≤ (Y : Int) + (rSp v).toInt := by
        refine Decidable.byContradiction fun z => q2 ⟨Int32.le_iff_toInt_le.mpr ?_, Int32.le_iff_toInt_le.mpr ?_⟩
        · rw [show (0 : Int32).toInt = 0 from by decide]; omega
        · rw [e, show (0 : Int32).toInt = 0 from by decide]; omega
      exact ⟨_, nI_toI e q3, by omega, by omega, hs.1, by show (rSp v).toInt ≤ 14; omega⟩
  · rw [if_neg q]
    exact ⟨Y, rfl, by omega, by omega, hv.1, hv.2⟩
theorem gFall1_b {s v : Int32} {Y : Nat} (hY : Y ≤ 1000000) (hv : -14 ≤ v.toInt ∧ v.toInt ≤ 14) : ∃ Z : Nat, (gFall1 s v (nI Y)).2.2 = nI Z ∧ Z ≤ Y + 12 ∧ Y ≤ Z + 14 ∧ -14 ≤ (gFall1 s v (nI Y)).2.1.toInt ∧ (gFall1 s v (nI Y)).2.1.toInt ≤ 14 := by
  unfold gFall1
  split
  · exact gFall_b hY (by decide)
  · exact gFall_b hY hv
theorem gT_b {s v n : Int32} {Y : Nat} (hY : Y ≤ 1000000) (hv : -14 ≤ v.toInt ∧ v.toInt ≤ 14) : ∃ Z : Nat, (gT s v (nI Y) n).2.2 = nI Z ∧ Z ≤ Y + 12 ∧ Y ≤ Z + 14 ∧ -14 ≤ (gT s v (nI Y) n).2.1.toInt ∧ (gT s v (nI Y) n).2.1.toInt ≤ 14 := by
  unfold gT
  split
  · exact gFall1_b hY (by decide)
  · exact gFall1_b hY hv
theorem gW_b (d b n : Int32) : -20 ≤ (gW d b n).toInt ∧ (gW d b n).toInt ≤ 20 := by
  have h : rWay0 b = 4 ∨ rWay0 b = -4 ∨ rWay0 b = 0 := by
    unfold rWay0
    split
    · exact .inl rfl
    · split
      · exact .inr (.inl rfl)
      · exact .inr (.inr rfl)
  unfold gW
  split <;> rcases h with h | h | h <;> rw [h] <;> decide
theorem rTo_b {X : Nat} {w : Int32} (hX : X < 512) (hw : -20 ≤ w.toInt ∧ w.toInt ≤ 20) : ∃ Z : Nat, Z < 512 ∧ rTo (nI X + w) = nI Z ∧ Z ≤ X + 20 ∧ X ≤ Z + 20 := by
  have e : (nI X + w).toInt = X + w.toInt := by
    have := nI_toInt (n := X) (by omega)
    rw [ti_add (by omega) (by omega), this]
  unfold rTo
  by_cases q : nI X + w < 0
  · rw [if_pos q]
    have q3 := Int32.lt_iff_toInt_lt.mp q
    rw [e, show (0 : Int32).toInt = 0 from by decide] at q3
    exact ⟨0, by decide, rfl, by omega, by omega⟩
  · rw [if_neg q]
    have q0 := Int32.le_iff_toInt_le.mp (Int32.not_lt.mp q)
    rw [e, show (0 : Int32).toInt = 0 from by decide] at q0
    by_cases q2 : 511 < nI X + w
    · rw [if_pos q2]
      have q3 := Int32.lt_iff_toInt_lt.mp q2
      rw [e, show (511 : Int32).toInt = 511 from by decide] at q3
      exact ⟨511, by decide, rfl, by omega, by omega⟩
    · rw [if_neg q2]
      have q3 := Int32.le_iff_toInt_le.mp (Int32.not_lt.mp q2)
      rw [e, show (511 : Int32).toInt = 511 from by decide] at q3
      exact ⟨_, by omega, nI_toI e q0, by omega, by omega⟩
/-! a replay's ticks -/
/-- what holds of the hero of a replay on such a level, behind t ticks -/
def HJ (σ x : Mem) (t : Nat) : Prop := rFr σ x ∧ rHW x ∧ x 40 0 = nI t ∧ ∃ Y : Nat, x 33 0 = nI Y ∧ Y ≤ 12 * t ∧ -14 ≤ (x 34 0).toInt ∧ (x 34 0).toInt ≤ 14
theorem HJ.tick {σ x : Mem} {t : Nat} {b f : Int32} (h0 : Flat σ) (h : HJ σ x t) (ht : t ≤ 1000) : HJ σ (rTick x 0 b f) (t + 1) ∧ ∃ X Y X' Y' : Nat, x 32 0 = nI X ∧ x 33 0 = nI Y ∧ rTick x 0 b f 32 0 = nI X' ∧ rTick x 0 b f 33 0 = nI Y' ∧ X < 512 ∧ X' < 512 ∧ X' ≤ X + 20 ∧ X ≤ X' + 20 ∧ Y' ≤ Y + 12 ∧ Y ≤ Y' + 14 ∧ Y ≤ 12 * t := by
  obtain ⟨hF, hH, h40, Y, hY, hYt, hv⟩ := h
  obtain ⟨e1, e2, e3⟩ := tick_f (b := b) (f := f) (h0.fr hF) hH (by rw [hY]; exact nI_pos' (by omega))
  obtain ⟨X, hX, eX⟩ := hH.1
  obtain ⟨Z, z1, z2, z3, z4⟩ := gT_b (s := x 35 0) (v := x 34 0) (n := rNew b f) (Y := Y) (by omega) hv
  obtain ⟨W, w1, w2, w3, w4⟩ := rTo_b hX (gW_b (x 36 0) b (rNew b f))
  rw [eX, w2] at e1
  rw [hY] at e2
  generalize gT (x 35 0) (x 34 0) (nI Y) (rNew b f) = q at e2 z1 z4
  obtain ⟨q1, q2, q3⟩ := q
  simp only [Prod.mk.injEq] at e2
  obtain ⟨-, e34, e33⟩ := e2
  have e33 := e33.trans z1
  refine ⟨⟨rFr_tick hF, rHW_tick hH, by rw [tick_40, h40]; exact nI_1 t, Z, e33, by omega, by rw [e34]; exact z4⟩, X, Y, W, Z, eX, hY, e1, e33, hX, w1, w3, w4, z2, z3, hYt⟩
theorem HJ.start {σ : Mem} (h0 : Flat σ) : HJ σ (rStart σ 0) 0 := by
  refine ⟨rFr_start rFr.rf, rHW_start _ _, rfl, 0, ?_, by decide, by show (-14 : Int) ≤ (0 : Int32).toInt; decide, by show (0 : Int32).toInt ≤ 14; decide⟩
  show (if rGap σ 0 0 then 0 else rGnd σ 0 0) = nI 0
  rw [if_neg (gap_f h0 (by decide)), gnd_f h0 (by decide)]
  rfl
/-- one tick more -/
def Nx (a T : Nat) (A B : Mem × Int32) : Prop := (A = B ∧ ∃ t, t ≤ T ∧ A.1 40 0 = nI t) ∨ (A.1 40 0 = nI T ∧ ∃ key, B = (rTick A.1 a key A.2, key))
theorem in1_at {a T n : Nat} {key : Int32} {A : Mem × Int32} (h : A.1 40 0 = nI T) : rIn1 a key (nI T) n A = A := by
  cases n with
  | zero => rfl
  | succ n =>
    show (if _ then _ else _) = _
    rw [if_neg]
    intro q
    rw [h] at q
    exact absurd q.1 (Int32.lt_irrefl)
theorem Nx.in1 {a T : Nat} {key : Int32} (hT : T ≤ 1000) : ∀ (n : Nat) {A B : Mem × Int32}, Nx a T A B → Nx a T (rIn1 a key (nI T) n A) (rIn1 a key (nI (T + 1)) n B)
  | 0, _, _, h => h
  | n + 1, A, B, h => by
    rcases h with ⟨rfl, t, ht, h40⟩ | ⟨h40, k', rfl⟩
    · by_cases q : A.1 41 0 = 0
      · rcases Nat.lt_or_ge t T with h1 | h1
        · have e1 : rIn1 a key (nI T) (n + 1) A = rIn1 a key (nI T) n (rTick A.1 a key A.2, key) := if_pos ⟨by rw [h40]; exact nI_lt h1 (by omega), q⟩
          have e2 : rIn1 a key (nI (T + 1)) (n + 1) A = rIn1 a key (nI (T + 1)) n (rTick A.1 a key A.2, key) := if_pos ⟨by rw [h40]; exact nI_lt (by omega) (by omega), q⟩
          rw [e1, e2]
          exact Nx.in1 hT n (.inl ⟨rfl, t + 1, h1, by dsimp only; rw [tick_40, h40]; exact nI_1 t⟩)
        · have et : t = T := by omega
          subst et
          have e2 : rIn1 a key (nI (t + 1)) (n + 1) A = rIn1 a key (nI (t + 1)) n (rTick A.1 a key A.2, key) := if_pos ⟨by rw [h40]; exact nI_lt (by omega) (by omega), q⟩
          rw [in1_at h40, e2, in1_at (by dsimp only; rw [tick_40, h40]; exact nI_1 t)]
          exact .inr ⟨h40, key, rfl⟩
      · have e1 : ∀ til, rIn1 a key til (n + 1) A = A := fun til => if_neg (fun z => q z.2)
        rw [e1, e1]
        exact .inl ⟨rfl, t, ht, h40⟩
    · rw [in1_at h40, in1_at (by dsimp only; rw [tick_40, h40]; exact nI_1 T)]
      exact .inr ⟨h40, k', rfl⟩
theorem Nx.out {σ : Mem} {r T : Nat} (hT : T ≤ 1000) : ∀ p, Nx (iN (σ 3 r)) T (rOut σ r (nI T) p) (rOut σ r (nI (T + 1)) p)
  | 0 => .inl ⟨rfl, 0, Nat.zero_le _, rfl⟩
  | p + 1 => Nx.in1 hT _ (Nx.out hT p)
theorem HJ.in1 {σ : Mem} {key : Int32} {T : Nat} (h0 : Flat σ) (hT : T ≤ 1000) : ∀ (n : Nat) {x : Mem × Int32} {t : Nat}, HJ σ x.1 t → t ≤ T → ∃ t', t' ≤ T ∧ HJ σ (rIn1 0 key (nI T) n x).1 t'
  | 0, _, t, h, ht => ⟨t, ht, h⟩
  | n + 1, x, t, h, ht => by
    unfold rIn1
    split
    · rename_i q
      have q1 := q.1
      rw [h.2.2.1] at q1
      have q2 := (nI_ltI (by omega) (by omega)).mp q1
      exact HJ.in1 h0 hT n (x := (rTick x.1 0 key x.2, key)) (h.tick h0 (by omega)).1 q2
    · exact ⟨t, ht, h⟩
theorem HJ.out {σ : Mem} {r T : Nat} (h0 : Flat σ) (hT : T ≤ 1000) (hr : iN (σ 3 r) = 0) : ∀ p, ∃ t, t ≤ T ∧ HJ σ (rOut σ r (nI T) p).1 t
  | 0 => ⟨0, Nat.zero_le _, by show HJ σ (rStart σ (iN (σ 3 r))) 0; rw [hr]; exact HJ.start h0⟩
  | p + 1 => by
    obtain ⟨t, h1, h2⟩ := HJ.out h0 hT hr p
    show ∃ t, t ≤ T ∧ HJ σ (rIn1 (iN (σ 3 r)) _ _ _ _).1 t
    rw [hr]
    exact HJ.in1 h0 hT _ h2 h1
/-- where the hero is behind T ticks, and behind one more -/
theorem hero_step {σ : Mem} {r T : Nat} (h0 : Flat σ) (hT : T ≤ 100) (hr : iN (σ 3 r) = 0) : ∃ X Y X' Y' : Nat, heroT σ r (nI T) 0 = nI X ∧ heroT σ r (nI T) 1 = nI Y ∧ heroT σ r (nI (T + 1)) 0 = nI X' ∧ heroT σ r (nI (T + 1)) 1 = nI Y' ∧ X < 512 ∧ X' < 512 ∧ X' ≤ X + 20 ∧ X ≤ X' + 20 ∧ Y' ≤ Y + 12 ∧ Y ≤ Y' + 14 ∧ Y ≤ 1200 := by
  obtain ⟨t, ht, hJ⟩ := HJ.out h0 (T := T) (by omega) hr (iN (σ 4 r))
  have hN := Nx.out (σ := σ) (r := r) (T := T) (by omega) (iN (σ 4 r))
  rw [hr] at hN
  rcases hN with ⟨e, -⟩ | ⟨-, key, e⟩
  · obtain ⟨X, hX, eX⟩ := hJ.2.1.1
    obtain ⟨Y, eY, hY, -⟩ := hJ.2.2.2
    refine ⟨X, Y, X, Y, eX, eY, ?_, ?_, hX, hX, by omega, by omega, by omega, by omega, by omega⟩
    · show (rOut σ r (nI (T + 1)) (iN (σ 4 r))).1 32 0 = nI X
      rw [← e]; exact eX
    · show (rOut σ r (nI (T + 1)) (iN (σ 4 r))).1 33 0 = nI Y
      rw [← e]; exact eY
  · obtain ⟨-, X, Y, X', Y', q1, q2, q3, q4, q5⟩ := hJ.tick (b := key) (f := (rOut σ r (nI T) (iN (σ 4 r))).2) h0 (by omega)
    refine ⟨X, Y, X', Y', q1, q2, ?_, ?_, q5.1, q5.2.1, q5.2.2.1, q5.2.2.2.1, q5.2.2.2.2.1, q5.2.2.2.2.2.1, by have := q5.2.2.2.2.2.2; omega⟩
    · show (rOut σ r (nI (T + 1)) (iN (σ 4 r))).1 32 0 = nI X'
      rw [e]; dsimp only; exact q3
    · show (rOut σ r (nI (T + 1)) (iN (σ 4 r))).1 33 0 = nI Y'
      rw [e]; dsimp only; exact q4
/-! how a replay ends, on any level -/
def HE (x : Mem) (T : Nat) : Prop := ∃ t p : Nat, t ≤ T ∧ p < 3 ∧ x 40 0 = nI t ∧ x 41 0 = nI p ∧ (t = 0 → p = 0)
theorem HE.in1 {a T : Nat} {key : Int32} (hT : T ≤ 1000) : ∀ (n : Nat) {x : Mem × Int32}, HE x.1 T → HE (rIn1 a key (nI T) n x).1 T
  | 0, _, h => h
  | n + 1, x, h => by
    unfold rIn1
    split
    · rename_i q
      obtain ⟨t, p, ht, hp, h1, h2, h3⟩ := h
      have q1 := q.1
      rw [h1] at q1
      have q2 := (nI_ltI (by omega) (by omega)).mp q1
      refine HE.in1 hT n (x := (rTick x.1 a key x.2, key)) ?_
      dsimp only
      have e40 : rTick x.1 a key x.2 40 0 = nI (t + 1) := by rw [tick_40, h1]; exact nI_1 t
      rcases tick_41 (τ := x.1) (a := a) (b := key) (f := x.2) with h | h | h
      · exact ⟨t + 1, 0, q2, by decide, e40, h, fun _ => rfl⟩
      · exact ⟨t + 1, 1, q2, by decide, e40, h, fun z => absurd z (Nat.succ_ne_zero t)⟩
      · exact ⟨t + 1, 2, q2, by decide, e40, h, fun z => absurd z (Nat.succ_ne_zero t)⟩
    · exact h
theorem HE.out {σ : Mem} {r T : Nat} (hT : T ≤ 1000) : ∀ p, HE (rOut σ r (nI T) p).1 T
  | 0 => ⟨0, 0, Nat.zero_le _, by decide, rfl, rfl, fun _ => rfl⟩
  | p + 1 => HE.in1 hT _ (HE.out hT p)
theorem hero_end (σ : Mem) (r : Nat) : ∃ t p : Nat, t ≤ 500 ∧ p < 3 ∧ heroR σ r 10 = nI t ∧ heroR σ r 11 = nI p ∧ (t = 0 → p = 0) := HE.out (T := 500) (by decide) _
theorem res_end (σ : Mem) (r : Nat) : ∃ t p : Nat, t ≤ 500 ∧ p < 3 ∧ heroR σ r 10 = nI t ∧ rRes σ r = nI (10 * t + p) := by
  obtain ⟨t, p, h1, h2, h3, h4, -⟩ := hero_end σ r
  refine ⟨t, p, h1, h2, h3, ?_⟩
  unfold rRes
  rw [h3, h4, show (10 : Int32) = nI 10 from rfl, pk_mul, nI_add]
