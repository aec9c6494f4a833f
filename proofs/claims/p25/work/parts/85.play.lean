/-! the law's four replays, tick by tick -/
/-- place, can dash; stands, speed, height; ticks, fate -/
abbrev H7 : Type := (Int32 × Int32) × (Int32 × Int32 × Int32) × (Int32 × Int32)
def p7 (x : Mem) : H7 := ((x 32 0, x 36 0), (x 35 0, x 34 0, x 33 0), (x 40 0, x 41 0))
def s71 (b f : Int32) (h : H7) : H7 :=
  ((rTo (h.1.1 + gW h.1.2 b (rNew b f)), gD h.1.2 b (rNew b f) ||| (gT h.2.1.1 h.2.1.2.1 h.2.1.2.2 (rNew b f)).1), gT h.2.1.1 h.2.1.2.1 h.2.1.2.2 (rNew b f),
    (h.2.2.1 + 1, if nI (cN (rTo (h.1.1 + gW h.1.2 b (rNew b f)))) = 31 then 1 else 0))
def s7N (b : Int32) : Nat → H7 × Int32 → H7 × Int32
  | 0, h => h
  | n + 1, h => if h.1.2.2.1 < 500 ∧ h.1.2.2.2 = 0 then s7N b n (s71 b h.2 h.1, b) else h
/-- items of level 0: nothing, or a coin -/
def Coin (σ : Mem) : Prop := ∀ c, c < 32 → σ 1 c = 0 ∨ σ 1 c = 1
section PLAY
variable {σ : Mem} {b f : Int32}
theorem fate_f {τ : Mem} {c : Nat} {x : Int32} (hy : 0 ≤ τ 33 0) (hx : x = 0 ∨ x = 1) : rFate τ c x = if nI c = 31 then 1 else 0 := by
  unfold rFate
  rw [if_neg]
  intro q
  rcases q with q | ⟨-, q⟩
  · exact absurd (Int32.lt_of_lt_of_le q (by decide : (-32 : Int32) ≤ 0)) (Int32.not_lt.mpr hy)
  · rcases hx with rfl | rfl
    · exact absurd q (by decide)
    · exact absurd q (by decide)
theorem play_1 (h0 : Flat σ) (hC : Coin σ) {x : Mem} {t : Nat} (hJ : HJ σ x t) (ht : t ≤ 500) : p7 (rTick x 0 b f) = s71 b f (p7 x) := by
  obtain ⟨hF, hH, h40, Y, hY, hYt0, -⟩ := id hJ
  obtain ⟨e1, e2, e3⟩ := tick_f (b := b) (f := f) (h0.fr hF) hH (by rw [hY]; exact nI_pos' (by omega))
  obtain ⟨hJ2, -⟩ := hJ.tick (b := b) (f := f) h0 (by omega)
  obtain ⟨hF2, hH2, -, Y2, hY2, hYt, -⟩ := hJ2
  have e41 : rTick x 0 b f 41 0 = if nI (cN (rTick x 0 b f 32 0)) = 31 then 1 else 0 := by
    have e32 : rTick x 0 b f 32 0 = rFall (rTk x 0 b f) 0 32 0 := by rw [tick_k rfl, meet_32]
    have e33 : rTick x 0 b f 33 0 = rFall (rTk x 0 b f) 0 33 0 := by rw [tick_k rfl, meet_33]
    have hc : cN (rTick x 0 b f 32 0) < 32 := (cN_x hH2.1).2
    have hF3 : rFr σ (rFall (rTk x 0 b f) 0) := rFr_fall (rFr_go (rFr_jump (rFr_way hF)))
    rw [tick_k rfl, meet_41, ← e32]
    refine fate_f ?_ ?_
    · rw [← e33, hY2]; exact nI_pos' (by omega)
    · rw [hF3 1 (by decide), show 32 * 0 + cN (rTick x 0 b f 32 0) = cN (rTick x 0 b f 32 0) by omega]
      exact hC _ hc
  have e40 : rTick x 0 b f 40 0 = x 40 0 + 1 := tick_40
  rw [e1] at e41
  unfold p7
  rw [e1, e2, e3, e40, e41]
  rfl
theorem play_n (h0 : Flat σ) (hC : Coin σ) : ∀ (n : Nat) {x : Mem × Int32} {t : Nat}, HJ σ x.1 t → t ≤ 500 → ∃ t', t' ≤ 500 ∧ HJ σ (rIn1 0 b 500 n x).1 t' ∧ (p7 (rIn1 0 b 500 n x).1, (rIn1 0 b 500 n x).2) = s7N b n (p7 x.1, x.2)
  | 0, _, t, h, ht => ⟨t, ht, h, rfl⟩
  | n + 1, x, t, h, ht => by
    unfold rIn1 s7N
    by_cases q : x.1 40 0 < 500 ∧ x.1 41 0 = 0
    · rw [if_pos q, if_pos (show (p7 x.1, x.2).1.2.2.1 < 500 ∧ (p7 x.1, x.2).1.2.2.2 = 0 from q)]
      have q1 := q.1
      rw [h.2.2.1] at q1
      have q2 := (nI_ltI (b := 500) (by omega) (by decide)).mp q1
      obtain ⟨t', a1, a2, a3⟩ := play_n h0 hC n (x := (rTick x.1 0 b x.2, b)) (h.tick h0 (by omega)).1 q2
      refine ⟨t', a1, a2, a3.trans ?_⟩
      dsimp only
      rw [play_1 h0 hC h ht]
    · rw [if_neg q, if_neg (show ¬ ((p7 x.1, x.2).1.2.2.1 < 500 ∧ (p7 x.1, x.2).1.2.2.2 = 0) from q)]
      exact ⟨t, ht, h, rfl⟩
def s70 : H7 := ((8, 1), (1, 0, 0), (0, 0))
theorem play_s (h0 : Flat σ) : p7 (rStart σ 0) = s70 := by
  have e : (if rGap σ 0 0 then 0 else rGnd σ 0 0) = 0 := by rw [if_neg (gap_f h0 (by decide)), gnd_f h0 (by decide)]
  show ((8, 1), (1, 0, (if rGap σ 0 0 then 0 else rGnd σ 0 0)), (0, 0)) = s70
  rw [e]
  rfl
/-- a replay of three pieces -/
theorem play_3 (h0 : Flat σ) (hC : Coin σ) {r m : Nat} {a d e : Int32} {u v w : Nat} (hr : iN (σ 3 r) = 0) (h4 : σ 4 r = 3) (a1 : σ 7 (20 * r) = a) (a2 : σ 7 (20 * r + 1) = d) (a3 : σ 7 (20 * r + 2) = e) (b1 : iN (σ 8 (20 * r)) = u) (b2 : iN (σ 8 (20 * r + 1)) = v) (b3 : iN (σ 8 (20 * r + 2)) = w) :
    (heroR σ r 10, heroR σ r 11) = (s7N e w (s7N d v (s7N a u (s70, 0)))).1.2.2 := by
  have e3 : rOut σ r 500 (iN (σ 4 r)) = rIn1 0 e 500 w (rIn1 0 d 500 v (rIn1 0 a 500 u (rStart σ 0, 0))) := by
    rw [h4]
    show rIn1 (iN (σ 3 r)) (σ 7 (20 * r + 2)) 500 (iN (σ 8 (20 * r + 2))) (rIn1 (iN (σ 3 r)) (σ 7 (20 * r + 1)) 500 (iN (σ 8 (20 * r + 1))) (rIn1 (iN (σ 3 r)) (σ 7 (20 * r)) 500 (iN (σ 8 (20 * r))) (rStart σ (iN (σ 3 r)), 0))) = _
    rw [hr, a1, a2, a3, b1, b2, b3]
  obtain ⟨t1, x1, j1, q1⟩ := play_n (b := a) h0 hC u (x := (rStart σ 0, 0)) (HJ.start h0) (Nat.zero_le _)
  obtain ⟨t2, x2, j2, q2⟩ := play_n (b := d) h0 hC v j1 x1
  obtain ⟨t3, x3, j3, q3⟩ := play_n (b := e) h0 hC w j2 x2
  rw [q2, q1] at q3
  dsimp only at q3
  rw [play_s h0] at q3
  show ((rOut σ r 500 (iN (σ 4 r))).1 40 0, (rOut σ r 500 (iN (σ 4 r))).1 41 0) = _
  rw [e3, ← q3]
  rfl
end PLAY
set_option maxRecDepth 100000 in
theorem sim_a : (s7N 2 100 (s7N 2 100 (s7N 2 1 (s70, 0)))).1.2.2 = (122, 1) := by decide +kernel
set_option maxRecDepth 100000 in
theorem sim_b : (s7N 2 100 (s7N 2 100 (s7N 10 1 (s70, 0)))).1.2.2 = (118, 1) := by decide +kernel
set_option maxRecDepth 100000 in
theorem sim_c : (s7N 2 100 (s7N 2 100 (s7N 6 1 (s70, 0)))).1.2.2 = (122, 1) := by decide +kernel
set_option maxRecDepth 100000 in
theorem sim_d : (s7N 2 5 (s7N 2 5 (s7N 2 1 (s70, 0)))).1.2.2 = (11, 0) := by decide +kernel
