/-! the events; the beginning -/
theorem md_L_cell : sg_MD yL_cell cL_cell 2 (some .int) 2 := ⟨sg_mem (i := 461) (by decide +kernel) rfl, sg_mem (i := 25) (by decide +kernel) rfl, ⟨by decide, by decide⟩, by decide +kernel⟩
theorem lk_RL_110 : Cond.methodLink RL 110 yL_cell ∈ sg_T := sg_mem (i := 459) (by decide +kernel) rfl
theorem st_L_cell : Cond.static yL_cell ∈ sg_T := sg_mem (i := 460) (by decide +kernel) rfl
theorem md_L_act : sg_MD yL_act cL_act 10 (some .int) 6 := ⟨sg_mem (i := 775) (by decide +kernel) rfl, sg_mem (i := 25) (by decide +kernel) rfl, ⟨by decide, by decide⟩, by decide +kernel⟩
theorem ml_RL_128 : sg_ML RL 128 yL_act := .inl (sg_mem (i := 773) (by decide +kernel) rfl)
theorem st_L_act : Cond.static yL_act ∈ sg_T := sg_mem (i := 774) (by decide +kernel) rfl
theorem md_X7_replay : sg_MD yX7_replay cX7_replay 3 (some .int) 1 := ⟨sg_mem (i := 319) (by decide +kernel) rfl, sg_mem (i := 26) (by decide +kernel) rfl, ⟨by decide, by decide⟩, by decide +kernel⟩
theorem ml_RL_118 : sg_ML RL 118 yX7_replay := .inl (sg_mem (i := 316) (by decide +kernel) rfl)
theorem im_X7_replay : Cond.instanceMethod yX7_replay ∈ sg_T := sg_mem (i := 317) (by decide +kernel) rfl
theorem sl_X7_replay : Cond.selects yX7_replay.cls yX7_replay yX7_replay ∈ sg_T := sg_mem (i := 318) (by decide +kernel) rfl
theorem md_X7_category : sg_MD yX7_category cX7_category 3 (some .int) 1 := ⟨sg_mem (i := 412) (by decide +kernel) rfl, sg_mem (i := 26) (by decide +kernel) rfl, ⟨by decide, by decide⟩, by decide +kernel⟩
theorem ml_RL_121 : sg_ML RL 121 yX7_category := .inl (sg_mem (i := 409) (by decide +kernel) rfl)
theorem im_X7_category : Cond.instanceMethod yX7_category ∈ sg_T := sg_mem (i := 410) (by decide +kernel) rfl
theorem sl_X7_category : Cond.selects yX7_category.cls yX7_category yX7_category ∈ sg_T := sg_mem (i := 411) (by decide +kernel) rfl
theorem md_X7_level : sg_MD yX7_level cX7_level 1 (some .int) 0 := ⟨sg_mem (i := 167) (by decide +kernel) rfl, sg_mem (i := 26) (by decide +kernel) rfl, ⟨by decide, by decide⟩, by decide +kernel⟩
theorem ml_RL_114 : sg_ML RL 114 yX7_level := .inl (sg_mem (i := 164) (by decide +kernel) rfl)
theorem im_X7_level : Cond.instanceMethod yX7_level ∈ sg_T := sg_mem (i := 165) (by decide +kernel) rfl
theorem sl_X7_level : Cond.selects yX7_level.cls yX7_level yX7_level ∈ sg_T := sg_mem (i := 166) (by decide +kernel) rfl
set_option maxHeartbeats 4000000 in
set_option maxRecDepth 100000 in
theorem law_l {p : Program} {l : Launch} {e : Env} {s : State} {m : MethodId} {below : List Frame} {meth : Method} {c : Code} {Q : State → Prop} {g : sg_G} {b L x0 nA wA : Nat} {xs : Nat → Int32} {scr : Cell} (hc : sg_Cx p s m #[.ref b] c cL_law 14 RL g) (hA : s.isArrayOf scr .int) (hX : Scr g b L xs scr) (hL : L ≤ 100000) (hst : l.stackTraces = false) (kend : ∀ (C : Nat → Option va_E) (lv : List (Nat × Value)) (k n : Nat), k ≤ 600086 → n ≤ 7301442 → sg_W p l e room_1 s m #[.ref b] below meth c 14 g k n Q C 649 lv [.int 1]) (n : Nat) : ∀ (ev : Nat) (σ : Mem) (fn fw : Nat → Int32) (C : Nat → Option va_E), ev + n = 30 → IV σ → NA σ fn → WA σ fw → GB σ ev → GK g x0 σ [(nA, sg_ia g 4 fn), (wA, sg_ia g 48 fw)] C → sg_W p l e room_1 s m (#[.ref b]) below meth c 14 g (3000 + 6500 * ev) (20000 + 40000 * ev) Q C 285 [(5, .int (nI ev)), (1, .ref x0), (2, .ref nA), (3, .ref wA), (0, .ref b)] [] := by
  induction n with
  | zero =>
    intro ev σ fn fw C he hI hN hw hB hG
    have he : ev = 30 := by omega
    subst he
    refine sw_iload (pc := 285) hc dL_law_285 0 rfl ?_
    refine sw_bipush (pc := 287) (v := 30) hc dL_law_287 (by decide) ?_
    refine sw_icmp_ge (pc := 289) (tgt := 524) hc dL_law_289 (by decide) (fun _ => ?_) (fun c1 => absurd (nI_le (a := 30) (b := 30) (by decide) (by decide)) c1)
    exact sw_sub (ks := [1, 2, 3]) (lv' := [(1, .ref x0), (2, .ref nA), (3, .ref wA)]) rfl (law_fin hc hA hX hL hst (by omega) (by omega) hI hG kend)
  | succ n ih =>
    intro ev σ fn fw C he hI hN hw hB hG
    refine sw_iload (pc := 285) hc dL_law_285 0 rfl ?_
    refine sw_bipush (pc := 287) (v := 30) hc dL_law_287 (by decide) ?_
    refine sw_icmp_ge (pc := 289) (tgt := 524) hc dL_law_289 (by decide) (fun c1 => absurd c1 (nI_ge (b := 30) (by omega) (by decide))) (fun _ => ?_)
    refine sw_aload_n (pc := 292) hc dL_law_292 rfl 4 rfl ?_
    refine sw_iconst (pc := 293) (v := 2) hc dL_law_293 (by decide) ?_
    refine sw_iload (pc := 294) hc dL_law_294 0 rfl ?_
    refine sw_imul (pc := 296) hc dL_law_296 ?_
    refine sw_iconst (pc := 297) (v := 1) hc dL_law_297 (by decide) ?_
    refine sw_iadd (pc := 298) hc dL_law_298 ?_
    refine sw_cv (y := nI (2 * ev + 1)) ((congrArg (fun z => z + 1) (pk_mul 2 ev)).trans (nI_1 _)) ?_
    refine sw_callSA (pc := 299) (rest := []) hc hA (c_L_cell l g _ b L (2 * ev + 1) xs scr hX hL (by omega)) md_L_cell lk_RL_110 st_L_cell rfl rfl (Nat.le_of_ble_eq_true rfl) dL_law_299 ⟨Nat.le_of_ble_eq_true rfl, Nat.le_of_ble_eq_true rfl, (by show 3000 + 6500 * ev + 0 ≤ 600086; omega), (by show 20000 + 40000 * ev + 0 ≤ 7301442; omega)⟩ (fun v2 C3 hP4 => ?_) (fun _ _ hf => hf.elim)
    obtain ⟨rfl, rfl⟩ := hP4
    refine sw_st (st' := [.int (cellV L xs (2 * ev + 1))]) rfl ?_
    refine sw_any (fun xx => ?_)
    refine sw_istore (pc := 302) hc dL_law_302 (by decide) (lv' := [(6, .int xx), (5, .int (nI ev)), (1, .ref x0), (2, .ref nA), (3, .ref wA), (0, .ref b)]) rfl ?_
    refine sw_aload_n (pc := 304) hc dL_law_304 rfl 5 rfl ?_
    refine sw_iconst (pc := 305) (v := 2) hc dL_law_305 (by decide) ?_
    refine sw_iload (pc := 306) hc dL_law_306 1 rfl ?_
    refine sw_imul (pc := 308) hc dL_law_308 ?_
    refine sw_iconst (pc := 309) (v := 2) hc dL_law_309 (by decide) ?_
    refine sw_iadd (pc := 310) hc dL_law_310 ?_
    refine sw_cv (y := nI (2 * ev + 2)) ((congrArg (fun z => z + 2) (pk_mul 2 ev)).trans (nI_add _ 2)) ?_
    refine sw_callSA (pc := 311) (rest := []) hc hA (c_L_cell l g _ b L (2 * ev + 2) xs scr hX hL (by omega)) md_L_cell lk_RL_110 st_L_cell rfl rfl (Nat.le_of_ble_eq_true rfl) dL_law_311 ⟨Nat.le_of_ble_eq_true rfl, Nat.le_of_ble_eq_true rfl, (by show 3000 + 6500 * ev + 0 + 0 ≤ 600086; omega), (by show 20000 + 40000 * ev + 0 + 0 ≤ 7301442; omega)⟩ (fun v5 C6 hP7 => ?_) (fun _ _ hf => hf.elim)
    obtain ⟨rfl, rfl⟩ := hP7
    refine sw_st (st' := [.int (cellV L xs (2 * ev + 2))]) rfl ?_
    refine sw_any (fun yy => ?_)
    refine sw_istore (pc := 314) hc dL_law_314 (by decide) (lv' := [(7, .int yy), (6, .int xx), (5, .int (nI ev)), (1, .ref x0), (2, .ref nA), (3, .ref wA), (0, .ref b)]) rfl ?_
    refine sw_iload (pc := 316) hc dL_law_316 1 rfl ?_
    refine sw_iconst (pc := 318) (v := 3) hc dL_law_318 (by decide) ?_
    refine sw_ishr (pc := 319) hc dL_law_319 ?_
    refine sw_bipush (pc := 320) (v := 12) hc dL_law_320 (by decide) ?_
    refine sw_callS (pc := 322) (rest := []) hc (c_L_low l g _ (xx >>> (3 &&& 31)) 12 (by decide) (by decide)) md_L_low ml_RL_89 st_L_low rfl rfl (Nat.le_of_ble_eq_true rfl) dL_law_322 ⟨Nat.le_of_ble_eq_true rfl, Nat.le_of_ble_eq_true rfl, (by show 3000 + 6500 * ev + 0 + 0 + 0 ≤ 600086; omega), (by show 20000 + 40000 * ev + 0 + 0 + 0 ≤ 7301442; omega)⟩ (fun v8 C10 hP9 => ?_) (fun _ _ hf => hf.elim)
    obtain ⟨rfl, rfl⟩ := hP9
    refine sw_st (st' := [.int (nI (lowN (xx >>> (3 &&& 31)) 12))]) rfl ?_
    have hkd := lowN_lt (xx >>> (3 &&& 31)) (n := 12) (by decide)
    generalize lowN (xx >>> (3 &&& 31)) 12 = kd at hkd
    refine sw_st (st' := [.int (nI kd)]) rfl ?_
    refine sw_istore (pc := 325) hc dL_law_325 (by decide) (lv' := [(8, .int (nI kd)), (7, .int yy), (6, .int xx), (5, .int (nI ev)), (1, .ref x0), (2, .ref nA), (3, .ref wA), (0, .ref b)]) rfl ?_
    refine sw_aload_n (pc := 327) hc dL_law_327 rfl 4 rfl ?_
    refine sw_aload_n (pc := 328) hc dL_law_328 rfl 5 rfl ?_
    refine sw_callS (pc := 329) (rest := []) hc (c_L_tell l g _ x0 nA σ _ fn hst hI hN hG) md_L_tell ml_RL_124 st_L_tell rfl rfl (Nat.le_of_ble_eq_true rfl) dL_law_329 ⟨Nat.le_of_ble_eq_true rfl, Nat.le_of_ble_eq_true rfl, (by show 3000 + 6500 * ev + 0 + 0 + 0 + 700 ≤ 600086; omega), (by show 20000 + 40000 * ev + 0 + 0 + 0 + 4200 ≤ 7301442; omega)⟩ (fun v11 C13 hP12 => ?_) (fun _ _ hf => hf.elim)
    obtain ⟨r14, rfl, hG15⟩ := hP12
    have hG16 := hG15.rot
    refine sw_st (st' := [.ref r14]) rfl ?_
    refine sw_astore (pc := 332) hc dL_law_332 (by decide) (lv' := [(9, .ref r14), (8, .int (nI kd)), (7, .int yy), (6, .int xx), (5, .int (nI ev)), (1, .ref x0), (2, .ref nA), (3, .ref wA), (0, .ref b)]) rfl ?_
    refine sw_aload_n (pc := 334) hc dL_law_334 rfl 5 rfl ?_
    refine sw_aload_n (pc := 335) hc dL_law_335 rfl 6 rfl ?_
    refine sw_aload_n (pc := 336) hc dL_law_336 rfl 7 rfl ?_
    refine sw_iload (pc := 337) hc dL_law_337 3 rfl ?_
    refine sw_iload (pc := 339) hc dL_law_339 2 rfl ?_
    refine sw_iload (pc := 341) hc dL_law_341 1 rfl ?_
    refine sw_callS (pc := 343) (rest := []) hc (c_L_act l g _ x0 nA wA ev kd σ _ fn fw xx yy hst hkd hI hN hw hB (by omega) hG16) md_L_act ml_RL_128 st_L_act rfl rfl (Nat.le_of_ble_eq_true rfl) dL_law_343 ⟨Nat.le_of_ble_eq_true rfl, Nat.le_of_ble_eq_true rfl, (by show 3000 + 6500 * ev + 0 + 0 + 0 + 700 + 24 ≤ 600086; omega), (by show 20000 + 40000 * ev + 0 + 0 + 0 + 4200 + 420 ≤ 7301442; omega)⟩ (fun v17 C19 hP18 => ?_) (fun _ _ hf => hf.elim)
    obtain ⟨zt, σ2, fn2, fw2, rfl, hGa, hI2, hN2, hw2, hB2, href⟩ := hP18
    have K368 : ∀ C, GK g x0 σ2 [(nA, sg_ia g 4 fn2), (wA, sg_ia g 48 fw2)] C → sg_W p l e room_1 s m #[.ref b] below meth c 14 g (3000 + 6500 * ev + 1500) (20000 + 40000 * ev + 9000) Q C 368 [(7, .int yy), (6, .int xx), (5, .int (nI ev)), (1, .ref x0), (2, .ref nA), (3, .ref wA), (0, .ref b)] [] := by
      intro C hG
      refine law_s (k0 := 3000 + 6500 * ev + 1500) (n0 := 20000 + 40000 * ev + 9000) hc hA hX hL hst hI2 hN2 hw2 (fun C hG => ?_) (by omega) (by omega) hG
      refine sw_iinc (pc := 518) (v := nI (ev + 1)) (lv' := [(5, .int (nI (ev + 1))), (1, .ref x0), (2, .ref nA), (3, .ref wA), (0, .ref b)]) hc dL_law_518 (k := 0) rfl (nI_1 ev) (by decide) rfl ?_
      refine sw_goto (pc := 521) (tgt := 285) hc dL_law_521 (by decide) ?_
      exact sw_widen (by omega) (by omega) (ih (ev + 1) σ2 fn2 fw2 _ (by omega) hI2 hN2 hw2 hB2 hG)
    refine sw_st (st' := [.int zt]) rfl ?_
    refine sw_istore (pc := 346) hc dL_law_346 (by decide) (lv' := [(10, .int zt), (9, .ref r14), (8, .int (nI kd)), (7, .int yy), (6, .int xx), (5, .int (nI ev)), (1, .ref x0), (2, .ref nA), (3, .ref wA), (0, .ref b)]) rfl ?_
    refine sw_iload (pc := 348) hc dL_law_348 0 rfl ?_
    refine sw_if_ge (pc := 350) (tgt := 368) hc dL_law_350 (by decide) (fun cz => ?_) (fun cz => ?_)
    ·
      exact sw_sub (ks := [3, 4, 5, 6, 7, 8, 9]) (lv' := [(7, .int yy), (6, .int xx), (5, .int (nI ev)), (1, .ref x0), (2, .ref nA), (3, .ref wA), (0, .ref b)]) rfl (sw_widen (by omega) (by omega) (K368 _ hGa.drop2))
    ·
      obtain ⟨es, -, -⟩ := href (Int32.not_le.mp cz)
      refine sw_aload (pc := 353) hc dL_law_353 1 rfl ?_
      refine sw_aload_n (pc := 355) hc dL_law_355 rfl 6 rfl ?_
      refine sw_aload_n (pc := 356) hc dL_law_356 rfl 7 rfl ?_
      refine sw_callS (pc := 357) (rest := [.ref r14]) hc (c_L_tell l g _ x0 nA σ2 _ fn2 hst hI2 hN2 hGa) md_L_tell ml_RL_124 st_L_tell rfl rfl (Nat.le_of_ble_eq_true rfl) dL_law_357 ⟨Nat.le_of_ble_eq_true rfl, Nat.le_of_ble_eq_true rfl, (by show 3000 + 6500 * ev + 0 + 0 + 0 + 700 + 24 + 700 ≤ 600086; omega), (by show 20000 + 40000 * ev + 0 + 0 + 0 + 4200 + 420 + 4200 ≤ 7301442; omega)⟩ (fun v20 C22 hP21 => ?_) (fun _ _ hf => hf.elim)
      obtain ⟨r23, rfl, hG24⟩ := hP21
      have hG25 := hG24.rot
      refine sw_st (st' := [.ref r23, .ref r14]) rfl ?_
      refine sw_callS (pc := 360) (rest := []) hc (c_L_same l g _ r14 r23 (tellF σ) (tellF σ2) (hG25.at 3 rfl) (hG25.at 2 rfl)) md_L_same ml_RL_132 st_L_same rfl rfl (Nat.le_of_ble_eq_true rfl) dL_law_360 ⟨Nat.le_of_ble_eq_true rfl, Nat.le_of_ble_eq_true rfl, (by show 3000 + 6500 * ev + 0 + 0 + 0 + 700 + 24 + 700 + 0 ≤ 600086; omega), (by show 20000 + 40000 * ev + 0 + 0 + 0 + 4200 + 420 + 4200 + 0 ≤ 7301442; omega)⟩ (fun v26 C28 hP27 => ?_) (fun _ _ hf => hf.elim)
      obtain ⟨⟨sv1, rfl, hsv⟩, rfl⟩ := hP27
      have hsv1 := hsv (fun _ _ => by rw [es])
      subst hsv1
      refine sw_st (st' := [.int 1]) rfl ?_
      refine sw_if_ne (pc := 363) (tgt := 368) hc dL_law_363 (by decide) (fun _ => ?_) (fun c29 => absurd c29 (by decide))
      exact sw_sub (ks := [3, 4, 5, 6, 7, 8, 9]) (lv' := [(7, .int yy), (6, .int xx), (5, .int (nI ev)), (1, .ref x0), (2, .ref nA), (3, .ref wA), (0, .ref b)]) rfl (sw_widen (by omega) (by omega) (K368 _ hG25.drop2))

set_option maxHeartbeats 4000000 in
set_option maxRecDepth 100000 in
theorem law_c {p : Program} {l : Launch} {e : Env} {s : State} {m : MethodId} {below : List Frame} {meth : Method} {c : Code} {Q : State → Prop} {g : sg_G} {b L x0 nA wA : Nat} {xs : Nat → Int32} {scr : Cell} (hc : sg_Cx p s m #[.ref b] c cL_law 14 RL g) (hA : s.isArrayOf scr .int) (hX : Scr g b L xs scr) (hL : L ≤ 100000) (hst : l.stackTraces = false) {it : Int32} {fn fw : Nat → Int32} (kcol : ∀ C σ, Z2 0 σ → GK g x0 σ [(nA, sg_ia g 4 fn), (wA, sg_ia g 48 fw)] C → sg_W p l e room_1 s m #[.ref b] below meth c 14 g 552 5672 Q C 74 [(5, .int (nI 32)), (4, .int it), (1, .ref x0), (2, .ref nA), (3, .ref wA), (0, .ref b)] []) (n : Nat) : ∀ (d : Nat) (σ : Mem) (C : Nat → Option va_E), d + n = 32 → Z2 0 σ → GK g x0 σ [(nA, sg_ia g 4 fn), (wA, sg_ia g 48 fw)] C → sg_W p l e room_1 s m (#[.ref b]) below meth c 14 g (40 + 16 * d) (2600 + 96 * d) Q C 32 [(5, .int (nI d)), (4, .int it), (1, .ref x0), (2, .ref nA), (3, .ref wA), (0, .ref b)] [] := by
  induction n with
  | zero =>
    intro d σ C hd hZ hG
    have hd : d = 32 := by omega
    subst hd
    refine sw_iload (pc := 32) hc dL_law_32 0 rfl ?_
    refine sw_bipush (pc := 34) (v := 32) hc dL_law_34 (by decide) ?_
    refine sw_icmp_ge (pc := 36) (tgt := 74) hc dL_law_36 (by decide) (fun _ => ?_) (fun c1 => absurd (nI_le (a := 32) (b := 32) (by decide) (by decide)) c1)
    exact kcol _ _ hZ hG
  | succ n ih =>
    intro d σ C hd hZ hG
    refine sw_iload (pc := 32) hc dL_law_32 0 rfl ?_
    refine sw_bipush (pc := 34) (v := 32) hc dL_law_34 (by decide) ?_
    refine sw_icmp_ge (pc := 36) (tgt := 74) hc dL_law_36 (by decide) (fun c1 => absurd c1 (nI_ge (b := 32) (by omega) (by decide))) (fun _ => ?_)
    refine sw_aload_n (pc := 39) hc dL_law_39 rfl 2 rfl ?_
    refine sw_iconst (pc := 40) (v := 0) hc dL_law_40 (by decide) ?_
    refine sw_iload (pc := 41) hc dL_law_41 0 rfl ?_
    refine sw_iconst (pc := 43) (v := 0) hc dL_law_43 (by decide) ?_
    refine sw_iload (pc := 44) hc dL_law_44 1 rfl ?_
    refine sw_iload (pc := 46) hc dL_law_46 0 rfl ?_
    refine sw_bipush (pc := 48) (v := 20) hc dL_law_48 (by decide) ?_
    refine sw_irem (pc := 50) hc dL_law_50 (by decide) ?_
    refine sw_ishr (pc := 51) hc dL_law_51 ?_
    refine sw_iconst (pc := 52) (v := 5) hc dL_law_52 (by decide) ?_
    refine sw_callS (pc := 53) (rest := [.int 0, .int (nI d), .int 0, .ref x0]) hc (c_L_low l g _ (it >>> (((nI d) - (nI d) / 20 * 20) &&& 31)) 5 (by decide) (by decide)) md_L_low ml_RL_89 st_L_low rfl rfl (Nat.le_of_ble_eq_true rfl) dL_law_53 ⟨Nat.le_of_ble_eq_true rfl, Nat.le_of_ble_eq_true rfl, (by show 40 + 16 * d + 0 ≤ 600086; omega), (by show 2600 + 96 * d + 0 ≤ 7301442; omega)⟩ (fun v2 C4 hP3 => ?_) (fun _ _ hf => hf.elim)
    obtain ⟨rfl, rfl⟩ := hP3
    refine sw_st (st' := [.int (nI (lowN (it >>> (((nI d) - (nI d) / 20 * 20) &&& 31)) 5)), .int 0, .int (nI d), .int 0, .ref x0]) rfl ?_
    refine sw_if_ne (pc := 56) (tgt := 63) hc dL_law_56 (by decide) (fun b1 => ?_) (fun b1 => ?_)
    ·
      refine sw_iconst (pc := 63) (v := 0) hc dL_law_63 (by decide) ?_
      refine sw_callSX (pc := 64) (rest := []) hc (c_L_column l g _ x0 σ _ 0 (nI d) 0 0 hst hG) mdh_L_column lk_RL_106 st_L_column rfl rfl (Nat.le_of_ble_eq_true rfl) dL_law_64 ⟨Nat.le_of_ble_eq_true rfl, Nat.le_of_ble_eq_true rfl, (by show 40 + 16 * d + 0 + 16 ≤ 600086; omega), (by show 2600 + 96 * d + 0 + 96 ≤ 7301442; omega)⟩ (fun v5 C7 hP6 => ?_)
      obtain ⟨rfl, hG8⟩ := hP6
      refine sw_st (st' := [.int (if kColumn σ 0 (nI d) 0 0 = 0 then 0 else x3 (kColumn σ 0 (nI d) 0 0))]) rfl ?_
      refine sw_pop (pc := 67) hc dL_law_67 rfl ?_
      refine sw_iinc (pc := 68) (v := nI (d + 1)) (lv' := [(5, .int (nI (d + 1))), (4, .int it), (1, .ref x0), (2, .ref nA), (3, .ref wA), (0, .ref b)]) hc dL_law_68 (k := 0) rfl (nI_1 d) (by decide) rfl ?_
      refine sw_goto (pc := 71) (tgt := 32) hc dL_law_71 (by decide) ?_
      exact sw_widen (by omega) (by omega) (ih (d + 1) _ _ (by omega) (z2_col hZ (.inl rfl)) hG8)
    ·
      refine sw_iconst (pc := 59) (v := 1) hc dL_law_59 (by decide) ?_
      refine sw_goto (pc := 60) (tgt := 64) hc dL_law_60 (by decide) ?_
      refine sw_callSX (pc := 64) (rest := []) hc (c_L_column l g _ x0 σ _ 0 (nI d) 0 1 hst hG) mdh_L_column lk_RL_106 st_L_column rfl rfl (Nat.le_of_ble_eq_true rfl) dL_law_64 ⟨Nat.le_of_ble_eq_true rfl, Nat.le_of_ble_eq_true rfl, (by show 40 + 16 * d + 0 + 16 ≤ 600086; omega), (by show 2600 + 96 * d + 0 + 96 ≤ 7301442; omega)⟩ (fun v9 C11 hP10 => ?_)
      obtain ⟨rfl, hG12⟩ := hP10
      refine sw_st (st' := [.int (if kColumn σ 0 (nI d) 0 1 = 0 then 0 else x3 (kColumn σ 0 (nI d) 0 1))]) rfl ?_
      refine sw_pop (pc := 67) hc dL_law_67 rfl ?_
      refine sw_iinc (pc := 68) (v := nI (d + 1)) (lv' := [(5, .int (nI (d + 1))), (4, .int it), (1, .ref x0), (2, .ref nA), (3, .ref wA), (0, .ref b)]) hc dL_law_68 (k := 0) rfl (nI_1 d) (by decide) rfl ?_
      refine sw_goto (pc := 71) (tgt := 32) hc dL_law_71 (by decide) ?_
      exact sw_widen (by omega) (by omega) (ih (d + 1) _ _ (by omega) (z2_col hZ (.inr rfl)) hG12)

set_option maxHeartbeats 4000000 in
set_option maxRecDepth 100000 in
theorem law_r0 {p : Program} {l : Launch} {e : Env} {s : State} {m : MethodId} {below : List Frame} {meth : Method} {c : Code} {Q : State → Prop} {g : sg_G} {b L x0 nA wA : Nat} {xs : Nat → Int32} {scr : Cell} (hc : sg_Cx p s m #[.ref b] c cL_law 14 RL g) (hA : s.isArrayOf scr .int) (hX : Scr g b L xs scr) (hL : L ≤ 100000) (hst : l.stackTraces = false) {it : Int32} {fn fw : Nat → Int32} {σ : Mem} {C : Nat → Option va_E} (hf : fn 0 = nI 0) (hZ : Z2 0 σ) (hG : GK g x0 σ [(nA, sg_ia g 4 fn), (wA, sg_ia g 48 fw)] C) (kend : ∀ C σ, Z2 1 σ → GK g x0 σ [(nA, sg_ia g 4 (upd fn 0 (nI 1))), (wA, sg_ia g 48 fw)] C → sg_W p l e room_1 s m #[.ref b] below meth c 14 g 632 6408 Q C 77 [(5, .int (nI 1)), (4, .int it), (1, .ref x0), (2, .ref nA), (3, .ref wA), (0, .ref b)] []) : sg_W p l e room_1 s m (#[.ref b]) below meth c 14 g 560 5700 Q C 77 [(5, .int (nI 0)), (4, .int it), (1, .ref x0), (2, .ref nA), (3, .ref wA), (0, .ref b)] [] := by
  have hr := rep_step hZ (by decide)
  have hz := z2_step hZ hG.wx (by decide)
  rw [show bz 0 = 2 from rfl, show tz 0 = 100 from rfl] at hz
  refine sw_iload (pc := 77) hc dL_law_77 0 rfl ?_
  refine sw_iconst (pc := 79) (v := 4) hc dL_law_79 (by decide) ?_
  refine sw_icmp_ge (pc := 80) (tgt := 181) hc dL_law_80 (by decide) (fun c1 => absurd c1 (by decide)) (fun _ => ?_)
  refine sw_aload_n (pc := 83) hc dL_law_83 rfl 3 rfl ?_
  refine sw_iconst (pc := 84) (v := 0) hc dL_law_84 (by decide) ?_
  refine sw_dup2_11 (pc := 85) hc dL_law_85 rfl rfl ?_
  refine sw_iald (pc := 86) (j := 0) hc (hG.at 0 rfl) rfl (by decide) (by decide) dL_law_86 ?_
  refine sw_cv (y := nI 0) hf ?_
  refine sw_aload_n (pc := 87) hc dL_law_87 rfl 2 rfl ?_
  refine sw_iconst (pc := 88) (v := 0) hc dL_law_88 (by decide) ?_
  obtain ⟨fs5, hx6⟩ := hG.gate
  refine sw_callV (pc := 89) (rest := [.int (nI 0), .int 0, .ref nA]) hc (m_replay l 0 hst hG hr.1) md_X7_replay ml_RL_118 im_X7_replay sl_X7_replay hx6 rfl rfl rfl (Nat.le_of_ble_eq_true rfl) dL_law_89 ⟨Nat.le_of_ble_eq_true rfl, Nat.le_of_ble_eq_true rfl, (by show 560 + 24 ≤ 600086; omega), (by show 5700 + 420 ≤ 7301442; omega)⟩ (fun v2 C4 hP3 => ?_) (fun _ _ hf => hf.elim)
  obtain ⟨rfl, hG7⟩ := hP3
  refine sw_st (st' := [.int (vReplay σ 0), .int (nI 0), .int 0, .ref nA]) rfl ?_
  refine sw_cv (y := nI 0) hr.2.1 ?_
  refine sw_iload (pc := 92) hc dL_law_92 0 rfl ?_
  refine sw_icmp_ne (pc := 94) (tgt := 101) hc dL_law_94 (by decide) (fun c8 => absurd c8 (fun zf => zf rfl)) (fun _ => ?_)
  refine sw_iconst (pc := 97) (v := 1) hc dL_law_97 (by decide) ?_
  refine sw_goto (pc := 98) (tgt := 102) hc dL_law_98 (by decide) ?_
  refine sw_iadd (pc := 102) hc dL_law_102 ?_
  refine sw_cv (y := nI 1) (nI_1 0) ?_
  refine sw_iast (pc := 103) (j := 0) hc (hG7.at 0 rfl) rfl (by decide) (by decide) dL_law_103 ?_
  refine sw_gen (P := fun zC => GK g x0 (fReplay σ 0) [(nA, sg_ia g 4 (upd fn 0 (nI 1))), (wA, sg_ia g 48 fw)] zC) (hG7.put 0 rfl) (fun C9 hG10 => ?_)
  refine sw_aload_n (pc := 104) hc dL_law_104 rfl 2 rfl ?_
  refine sw_iload (pc := 105) hc dL_law_105 0 rfl ?_
  refine sw_iload (pc := 107) hc dL_law_107 0 rfl ?_
  refine sw_iconst (pc := 109) (v := 1) hc dL_law_109 (by decide) ?_
  refine sw_icmp_ne (pc := 110) (tgt := 118) hc dL_law_110 (by decide) (fun _ => ?_) (fun c11 => absurd c11 (by decide))
  refine sw_iload (pc := 118) hc dL_law_118 0 rfl ?_
  refine sw_iconst (pc := 120) (v := 2) hc dL_law_120 (by decide) ?_
  refine sw_icmp_ne (pc := 121) (tgt := 129) hc dL_law_121 (by decide) (fun _ => ?_) (fun c12 => absurd c12 (by decide))
  refine sw_iconst (pc := 129) (v := 2) hc dL_law_129 (by decide) ?_
  refine sw_iconst (pc := 130) (v := 1) hc dL_law_130 (by decide) ?_
  refine sw_callSX (pc := 131) (rest := []) hc (c_L_input l g _ x0 (fReplay σ 0) _ (nI 0) 2 1 hst hG10) mdh_L_input lk_RL_92 st_L_input rfl rfl (Nat.le_of_ble_eq_true rfl) dL_law_131 ⟨Nat.le_of_ble_eq_true rfl, Nat.le_of_ble_eq_true rfl, (by show 584 + 16 ≤ 600086; omega), (by show 6120 + 96 ≤ 7301442; omega)⟩ (fun v13 C15 hP14 => ?_)
  obtain ⟨rfl, hG16⟩ := hP14
  rw [if_pos hz.1] at hG16
  refine sw_st (st' := [.int (if kInput (fReplay σ 0) (nI 0) 2 1 = 0 then vInput (fReplay σ 0) (nI 0) 2 1 else x3 (kInput (fReplay σ 0) (nI 0) 2 1))]) rfl ?_
  refine sw_pop (pc := 134) hc dL_law_134 rfl ?_
  refine sw_aload_n (pc := 135) hc dL_law_135 rfl 2 rfl ?_
  refine sw_iload (pc := 136) hc dL_law_136 0 rfl ?_
  refine sw_iconst (pc := 138) (v := 2) hc dL_law_138 (by decide) ?_
  refine sw_iload (pc := 139) hc dL_law_139 0 rfl ?_
  refine sw_iconst (pc := 141) (v := 3) hc dL_law_141 (by decide) ?_
  refine sw_icmp_ne (pc := 142) (tgt := 149) hc dL_law_142 (by decide) (fun _ => ?_) (fun c17 => absurd c17 (by decide))
  refine sw_bipush (pc := 149) (v := 100) hc dL_law_149 (by decide) ?_
  refine sw_callSX (pc := 151) (rest := []) hc (c_L_input l g _ x0 (fInput (fReplay σ 0) (nI 0) 2 1) _ (nI 0) 2 100 hst hG16) mdh_L_input lk_RL_92 st_L_input rfl rfl (Nat.le_of_ble_eq_true rfl) dL_law_151 ⟨Nat.le_of_ble_eq_true rfl, Nat.le_of_ble_eq_true rfl, (by show 600 + 16 ≤ 600086; omega), (by show 6216 + 96 ≤ 7301442; omega)⟩ (fun v18 C20 hP19 => ?_)
  obtain ⟨rfl, hG21⟩ := hP19
  rw [if_pos hz.2.1] at hG21
  refine sw_st (st' := [.int (if kInput (fInput (fReplay σ 0) (nI 0) 2 1) (nI 0) 2 100 = 0 then vInput (fInput (fReplay σ 0) (nI 0) 2 1) (nI 0) 2 100 else x3 (kInput (fInput (fReplay σ 0) (nI 0) 2 1) (nI 0) 2 100))]) rfl ?_
  refine sw_pop (pc := 154) hc dL_law_154 rfl ?_
  refine sw_aload_n (pc := 155) hc dL_law_155 rfl 2 rfl ?_
  refine sw_iload (pc := 156) hc dL_law_156 0 rfl ?_
  refine sw_iconst (pc := 158) (v := 2) hc dL_law_158 (by decide) ?_
  refine sw_iload (pc := 159) hc dL_law_159 0 rfl ?_
  refine sw_iconst (pc := 161) (v := 3) hc dL_law_161 (by decide) ?_
  refine sw_icmp_ne (pc := 162) (tgt := 169) hc dL_law_162 (by decide) (fun _ => ?_) (fun c22 => absurd c22 (by decide))
  refine sw_bipush (pc := 169) (v := 100) hc dL_law_169 (by decide) ?_
  refine sw_callSX (pc := 171) (rest := []) hc (c_L_input l g _ x0 (fInput (fInput (fReplay σ 0) (nI 0) 2 1) (nI 0) 2 100) _ (nI 0) 2 100 hst hG21) mdh_L_input lk_RL_92 st_L_input rfl rfl (Nat.le_of_ble_eq_true rfl) dL_law_171 ⟨Nat.le_of_ble_eq_true rfl, Nat.le_of_ble_eq_true rfl, (by show 616 + 16 ≤ 600086; omega), (by show 6312 + 96 ≤ 7301442; omega)⟩ (fun v23 C25 hP24 => ?_)
  obtain ⟨rfl, hG26⟩ := hP24
  rw [if_pos hz.2.2.1] at hG26
  refine sw_st (st' := [.int (if kInput (fInput (fInput (fReplay σ 0) (nI 0) 2 1) (nI 0) 2 100) (nI 0) 2 100 = 0 then vInput (fInput (fInput (fReplay σ 0) (nI 0) 2 1) (nI 0) 2 100) (nI 0) 2 100 else x3 (kInput (fInput (fInput (fReplay σ 0) (nI 0) 2 1) (nI 0) 2 100) (nI 0) 2 100))]) rfl ?_
  refine sw_pop (pc := 174) hc dL_law_174 rfl ?_
  refine sw_iinc (pc := 175) (v := nI 1) (lv' := [(5, .int (nI 1)), (4, .int it), (1, .ref x0), (2, .ref nA), (3, .ref wA), (0, .ref b)]) hc dL_law_175 (k := 0) rfl (nI_1 0) (by decide) rfl ?_
  refine sw_goto (pc := 178) (tgt := 77) hc dL_law_178 (by decide) ?_
  exact sw_sub (ks := [0, 1, 2, 3, 4, 5]) (lv' := [(5, .int (nI 1)), (4, .int it), (1, .ref x0), (2, .ref nA), (3, .ref wA), (0, .ref b)]) rfl (kend _ _ hz.2.2.2 hG26)

set_option maxHeartbeats 4000000 in
set_option maxRecDepth 100000 in
theorem law_r1 {p : Program} {l : Launch} {e : Env} {s : State} {m : MethodId} {below : List Frame} {meth : Method} {c : Code} {Q : State → Prop} {g : sg_G} {b L x0 nA wA : Nat} {xs : Nat → Int32} {scr : Cell} (hc : sg_Cx p s m #[.ref b] c cL_law 14 RL g) (hA : s.isArrayOf scr .int) (hX : Scr g b L xs scr) (hL : L ≤ 100000) (hst : l.stackTraces = false) {it : Int32} {fn fw : Nat → Int32} {σ : Mem} {C : Nat → Option va_E} (hf : fn 0 = nI 1) (hZ : Z2 1 σ) (hG : GK g x0 σ [(nA, sg_ia g 4 fn), (wA, sg_ia g 48 fw)] C) (kend : ∀ C σ, Z2 2 σ → GK g x0 σ [(nA, sg_ia g 4 (upd fn 0 (nI 2))), (wA, sg_ia g 48 fw)] C → sg_W p l e room_1 s m #[.ref b] below meth c 14 g 704 7116 Q C 77 [(5, .int (nI 2)), (4, .int it), (1, .ref x0), (2, .ref nA), (3, .ref wA), (0, .ref b)] []) : sg_W p l e room_1 s m (#[.ref b]) below meth c 14 g 632 6408 Q C 77 [(5, .int (nI 1)), (4, .int it), (1, .ref x0), (2, .ref nA), (3, .ref wA), (0, .ref b)] [] := by
  have hr := rep_step hZ (by decide)
  have hz := z2_step hZ hG.wx (by decide)
  rw [show bz 1 = 10 from rfl, show tz 1 = 100 from rfl] at hz
  refine sw_iload (pc := 77) hc dL_law_77 0 rfl ?_
  refine sw_iconst (pc := 79) (v := 4) hc dL_law_79 (by decide) ?_
  refine sw_icmp_ge (pc := 80) (tgt := 181) hc dL_law_80 (by decide) (fun c1 => absurd c1 (by decide)) (fun _ => ?_)
  refine sw_aload_n (pc := 83) hc dL_law_83 rfl 3 rfl ?_
  refine sw_iconst (pc := 84) (v := 0) hc dL_law_84 (by decide) ?_
  refine sw_dup2_11 (pc := 85) hc dL_law_85 rfl rfl ?_
  refine sw_iald (pc := 86) (j := 0) hc (hG.at 0 rfl) rfl (by decide) (by decide) dL_law_86 ?_
  refine sw_cv (y := nI 1) hf ?_
  refine sw_aload_n (pc := 87) hc dL_law_87 rfl 2 rfl ?_
  refine sw_iconst (pc := 88) (v := 0) hc dL_law_88 (by decide) ?_
  obtain ⟨fs5, hx6⟩ := hG.gate
  refine sw_callV (pc := 89) (rest := [.int (nI 1), .int 0, .ref nA]) hc (m_replay l 0 hst hG hr.1) md_X7_replay ml_RL_118 im_X7_replay sl_X7_replay hx6 rfl rfl rfl (Nat.le_of_ble_eq_true rfl) dL_law_89 ⟨Nat.le_of_ble_eq_true rfl, Nat.le_of_ble_eq_true rfl, (by show 632 + 24 ≤ 600086; omega), (by show 6408 + 420 ≤ 7301442; omega)⟩ (fun v2 C4 hP3 => ?_) (fun _ _ hf => hf.elim)
  obtain ⟨rfl, hG7⟩ := hP3
  refine sw_st (st' := [.int (vReplay σ 0), .int (nI 1), .int 0, .ref nA]) rfl ?_
  refine sw_cv (y := nI 1) hr.2.1 ?_
  refine sw_iload (pc := 92) hc dL_law_92 0 rfl ?_
  refine sw_icmp_ne (pc := 94) (tgt := 101) hc dL_law_94 (by decide) (fun c8 => absurd c8 (fun zf => zf rfl)) (fun _ => ?_)
  refine sw_iconst (pc := 97) (v := 1) hc dL_law_97 (by decide) ?_
  refine sw_goto (pc := 98) (tgt := 102) hc dL_law_98 (by decide) ?_
  refine sw_iadd (pc := 102) hc dL_law_102 ?_
  refine sw_cv (y := nI 2) (nI_1 1) ?_
  refine sw_iast (pc := 103) (j := 0) hc (hG7.at 0 rfl) rfl (by decide) (by decide) dL_law_103 ?_
  refine sw_gen (P := fun zC => GK g x0 (fReplay σ 0) [(nA, sg_ia g 4 (upd fn 0 (nI 2))), (wA, sg_ia g 48 fw)] zC) (hG7.put 0 rfl) (fun C9 hG10 => ?_)
  refine sw_aload_n (pc := 104) hc dL_law_104 rfl 2 rfl ?_
  refine sw_iload (pc := 105) hc dL_law_105 0 rfl ?_
  refine sw_iload (pc := 107) hc dL_law_107 0 rfl ?_
  refine sw_iconst (pc := 109) (v := 1) hc dL_law_109 (by decide) ?_
  refine sw_icmp_ne (pc := 110) (tgt := 118) hc dL_law_110 (by decide) (fun c11 => absurd c11 (fun zf => zf rfl)) (fun _ => ?_)
  refine sw_bipush (pc := 113) (v := 10) hc dL_law_113 (by decide) ?_
  refine sw_goto (pc := 115) (tgt := 130) hc dL_law_115 (by decide) ?_
  refine sw_iconst (pc := 130) (v := 1) hc dL_law_130 (by decide) ?_
  refine sw_callSX (pc := 131) (rest := []) hc (c_L_input l g _ x0 (fReplay σ 0) _ (nI 1) 10 1 hst hG10) mdh_L_input lk_RL_92 st_L_input rfl rfl (Nat.le_of_ble_eq_true rfl) dL_law_131 ⟨Nat.le_of_ble_eq_true rfl, Nat.le_of_ble_eq_true rfl, (by show 656 + 16 ≤ 600086; omega), (by show 6828 + 96 ≤ 7301442; omega)⟩ (fun v12 C14 hP13 => ?_)
  obtain ⟨rfl, hG15⟩ := hP13
  rw [if_pos hz.1] at hG15
  refine sw_st (st' := [.int (if kInput (fReplay σ 0) (nI 1) 10 1 = 0 then vInput (fReplay σ 0) (nI 1) 10 1 else x3 (kInput (fReplay σ 0) (nI 1) 10 1))]) rfl ?_
  refine sw_pop (pc := 134) hc dL_law_134 rfl ?_
  refine sw_aload_n (pc := 135) hc dL_law_135 rfl 2 rfl ?_
  refine sw_iload (pc := 136) hc dL_law_136 0 rfl ?_
  refine sw_iconst (pc := 138) (v := 2) hc dL_law_138 (by decide) ?_
  refine sw_iload (pc := 139) hc dL_law_139 0 rfl ?_
  refine sw_iconst (pc := 141) (v := 3) hc dL_law_141 (by decide) ?_
  refine sw_icmp_ne (pc := 142) (tgt := 149) hc dL_law_142 (by decide) (fun _ => ?_) (fun c16 => absurd c16 (by decide))
  refine sw_bipush (pc := 149) (v := 100) hc dL_law_149 (by decide) ?_
  refine sw_callSX (pc := 151) (rest := []) hc (c_L_input l g _ x0 (fInput (fReplay σ 0) (nI 1) 10 1) _ (nI 1) 2 100 hst hG15) mdh_L_input lk_RL_92 st_L_input rfl rfl (Nat.le_of_ble_eq_true rfl) dL_law_151 ⟨Nat.le_of_ble_eq_true rfl, Nat.le_of_ble_eq_true rfl, (by show 672 + 16 ≤ 600086; omega), (by show 6924 + 96 ≤ 7301442; omega)⟩ (fun v17 C19 hP18 => ?_)
  obtain ⟨rfl, hG20⟩ := hP18
  rw [if_pos hz.2.1] at hG20
  refine sw_st (st' := [.int (if kInput (fInput (fReplay σ 0) (nI 1) 10 1) (nI 1) 2 100 = 0 then vInput (fInput (fReplay σ 0) (nI 1) 10 1) (nI 1) 2 100 else x3 (kInput (fInput (fReplay σ 0) (nI 1) 10 1) (nI 1) 2 100))]) rfl ?_
  refine sw_pop (pc := 154) hc dL_law_154 rfl ?_
  refine sw_aload_n (pc := 155) hc dL_law_155 rfl 2 rfl ?_
  refine sw_iload (pc := 156) hc dL_law_156 0 rfl ?_
  refine sw_iconst (pc := 158) (v := 2) hc dL_law_158 (by decide) ?_
  refine sw_iload (pc := 159) hc dL_law_159 0 rfl ?_
  refine sw_iconst (pc := 161) (v := 3) hc dL_law_161 (by decide) ?_
  refine sw_icmp_ne (pc := 162) (tgt := 169) hc dL_law_162 (by decide) (fun _ => ?_) (fun c21 => absurd c21 (by decide))
  refine sw_bipush (pc := 169) (v := 100) hc dL_law_169 (by decide) ?_
  refine sw_callSX (pc := 171) (rest := []) hc (c_L_input l g _ x0 (fInput (fInput (fReplay σ 0) (nI 1) 10 1) (nI 1) 2 100) _ (nI 1) 2 100 hst hG20) mdh_L_input lk_RL_92 st_L_input rfl rfl (Nat.le_of_ble_eq_true rfl) dL_law_171 ⟨Nat.le_of_ble_eq_true rfl, Nat.le_of_ble_eq_true rfl, (by show 688 + 16 ≤ 600086; omega), (by show 7020 + 96 ≤ 7301442; omega)⟩ (fun v22 C24 hP23 => ?_)
  obtain ⟨rfl, hG25⟩ := hP23
  rw [if_pos hz.2.2.1] at hG25
  refine sw_st (st' := [.int (if kInput (fInput (fInput (fReplay σ 0) (nI 1) 10 1) (nI 1) 2 100) (nI 1) 2 100 = 0 then vInput (fInput (fInput (fReplay σ 0) (nI 1) 10 1) (nI 1) 2 100) (nI 1) 2 100 else x3 (kInput (fInput (fInput (fReplay σ 0) (nI 1) 10 1) (nI 1) 2 100) (nI 1) 2 100))]) rfl ?_
  refine sw_pop (pc := 174) hc dL_law_174 rfl ?_
  refine sw_iinc (pc := 175) (v := nI 2) (lv' := [(5, .int (nI 2)), (4, .int it), (1, .ref x0), (2, .ref nA), (3, .ref wA), (0, .ref b)]) hc dL_law_175 (k := 0) rfl (nI_1 1) (by decide) rfl ?_
  refine sw_goto (pc := 178) (tgt := 77) hc dL_law_178 (by decide) ?_
  exact sw_sub (ks := [0, 1, 2, 3, 4, 5]) (lv' := [(5, .int (nI 2)), (4, .int it), (1, .ref x0), (2, .ref nA), (3, .ref wA), (0, .ref b)]) rfl (kend _ _ hz.2.2.2 hG25)

set_option maxHeartbeats 4000000 in
set_option maxRecDepth 100000 in
theorem law_r2 {p : Program} {l : Launch} {e : Env} {s : State} {m : MethodId} {below : List Frame} {meth : Method} {c : Code} {Q : State → Prop} {g : sg_G} {b L x0 nA wA : Nat} {xs : Nat → Int32} {scr : Cell} (hc : sg_Cx p s m #[.ref b] c cL_law 14 RL g) (hA : s.isArrayOf scr .int) (hX : Scr g b L xs scr) (hL : L ≤ 100000) (hst : l.stackTraces = false) {it : Int32} {fn fw : Nat → Int32} {σ : Mem} {C : Nat → Option va_E} (hf : fn 0 = nI 2) (hZ : Z2 2 σ) (hG : GK g x0 σ [(nA, sg_ia g 4 fn), (wA, sg_ia g 48 fw)] C) (kend : ∀ C σ, Z2 3 σ → GK g x0 σ [(nA, sg_ia g 4 (upd fn 0 (nI 3))), (wA, sg_ia g 48 fw)] C → sg_W p l e room_1 s m #[.ref b] below meth c 14 g 776 7824 Q C 77 [(5, .int (nI 3)), (4, .int it), (1, .ref x0), (2, .ref nA), (3, .ref wA), (0, .ref b)] []) : sg_W p l e room_1 s m (#[.ref b]) below meth c 14 g 704 7116 Q C 77 [(5, .int (nI 2)), (4, .int it), (1, .ref x0), (2, .ref nA), (3, .ref wA), (0, .ref b)] [] := by
  have hr := rep_step hZ (by decide)
  have hz := z2_step hZ hG.wx (by decide)
  rw [show bz 2 = 6 from rfl, show tz 2 = 100 from rfl] at hz
  refine sw_iload (pc := 77) hc dL_law_77 0 rfl ?_
  refine sw_iconst (pc := 79) (v := 4) hc dL_law_79 (by decide) ?_
  refine sw_icmp_ge (pc := 80) (tgt := 181) hc dL_law_80 (by decide) (fun c1 => absurd c1 (by decide)) (fun _ => ?_)
  refine sw_aload_n (pc := 83) hc dL_law_83 rfl 3 rfl ?_
  refine sw_iconst (pc := 84) (v := 0) hc dL_law_84 (by decide) ?_
  refine sw_dup2_11 (pc := 85) hc dL_law_85 rfl rfl ?_
  refine sw_iald (pc := 86) (j := 0) hc (hG.at 0 rfl) rfl (by decide) (by decide) dL_law_86 ?_
  refine sw_cv (y := nI 2) hf ?_
  refine sw_aload_n (pc := 87) hc dL_law_87 rfl 2 rfl ?_
  refine sw_iconst (pc := 88) (v := 0) hc dL_law_88 (by decide) ?_
  obtain ⟨fs5, hx6⟩ := hG.gate
  refine sw_callV (pc := 89) (rest := [.int (nI 2), .int 0, .ref nA]) hc (m_replay l 0 hst hG hr.1) md_X7_replay ml_RL_118 im_X7_replay sl_X7_replay hx6 rfl rfl rfl (Nat.le_of_ble_eq_true rfl) dL_law_89 ⟨Nat.le_of_ble_eq_true rfl, Nat.le_of_ble_eq_true rfl, (by show 704 + 24 ≤ 600086; omega), (by show 7116 + 420 ≤ 7301442; omega)⟩ (fun v2 C4 hP3 => ?_) (fun _ _ hf => hf.elim)
  obtain ⟨rfl, hG7⟩ := hP3
  refine sw_st (st' := [.int (vReplay σ 0), .int (nI 2), .int 0, .ref nA]) rfl ?_
  refine sw_cv (y := nI 2) hr.2.1 ?_
  refine sw_iload (pc := 92) hc dL_law_92 0 rfl ?_
  refine sw_icmp_ne (pc := 94) (tgt := 101) hc dL_law_94 (by decide) (fun c8 => absurd c8 (fun zf => zf rfl)) (fun _ => ?_)
  refine sw_iconst (pc := 97) (v := 1) hc dL_law_97 (by decide) ?_
  refine sw_goto (pc := 98) (tgt := 102) hc dL_law_98 (by decide) ?_
  refine sw_iadd (pc := 102) hc dL_law_102 ?_
  refine sw_cv (y := nI 3) (nI_1 2) ?_
  refine sw_iast (pc := 103) (j := 0) hc (hG7.at 0 rfl) rfl (by decide) (by decide) dL_law_103 ?_
  refine sw_gen (P := fun zC => GK g x0 (fReplay σ 0) [(nA, sg_ia g 4 (upd fn 0 (nI 3))), (wA, sg_ia g 48 fw)] zC) (hG7.put 0 rfl) (fun C9 hG10 => ?_)
  refine sw_aload_n (pc := 104) hc dL_law_104 rfl 2 rfl ?_
  refine sw_iload (pc := 105) hc dL_law_105 0 rfl ?_
  refine sw_iload (pc := 107) hc dL_law_107 0 rfl ?_
  refine sw_iconst (pc := 109) (v := 1) hc dL_law_109 (by decide) ?_
  refine sw_icmp_ne (pc := 110) (tgt := 118) hc dL_law_110 (by decide) (fun _ => ?_) (fun c11 => absurd c11 (by decide))
  refine sw_iload (pc := 118) hc dL_law_118 0 rfl ?_
  refine sw_iconst (pc := 120) (v := 2) hc dL_law_120 (by decide) ?_
  refine sw_icmp_ne (pc := 121) (tgt := 129) hc dL_law_121 (by decide) (fun c12 => absurd c12 (fun zf => zf rfl)) (fun _ => ?_)
  refine sw_bipush (pc := 124) (v := 6) hc dL_law_124 (by decide) ?_
  refine sw_goto (pc := 126) (tgt := 130) hc dL_law_126 (by decide) ?_
  refine sw_iconst (pc := 130) (v := 1) hc dL_law_130 (by decide) ?_
  refine sw_callSX (pc := 131) (rest := []) hc (c_L_input l g _ x0 (fReplay σ 0) _ (nI 2) 6 1 hst hG10) mdh_L_input lk_RL_92 st_L_input rfl rfl (Nat.le_of_ble_eq_true rfl) dL_law_131 ⟨Nat.le_of_ble_eq_true rfl, Nat.le_of_ble_eq_true rfl, (by show 728 + 16 ≤ 600086; omega), (by show 7536 + 96 ≤ 7301442; omega)⟩ (fun v13 C15 hP14 => ?_)
  obtain ⟨rfl, hG16⟩ := hP14
  rw [if_pos hz.1] at hG16
  refine sw_st (st' := [.int (if kInput (fReplay σ 0) (nI 2) 6 1 = 0 then vInput (fReplay σ 0) (nI 2) 6 1 else x3 (kInput (fReplay σ 0) (nI 2) 6 1))]) rfl ?_
  refine sw_pop (pc := 134) hc dL_law_134 rfl ?_
  refine sw_aload_n (pc := 135) hc dL_law_135 rfl 2 rfl ?_
  refine sw_iload (pc := 136) hc dL_law_136 0 rfl ?_
  refine sw_iconst (pc := 138) (v := 2) hc dL_law_138 (by decide) ?_
  refine sw_iload (pc := 139) hc dL_law_139 0 rfl ?_
  refine sw_iconst (pc := 141) (v := 3) hc dL_law_141 (by decide) ?_
  refine sw_icmp_ne (pc := 142) (tgt := 149) hc dL_law_142 (by decide) (fun _ => ?_) (fun c17 => absurd c17 (by decide))
  refine sw_bipush (pc := 149) (v := 100) hc dL_law_149 (by decide) ?_
  refine sw_callSX (pc := 151) (rest := []) hc (c_L_input l g _ x0 (fInput (fReplay σ 0) (nI 2) 6 1) _ (nI 2) 2 100 hst hG16) mdh_L_input lk_RL_92 st_L_input rfl rfl (Nat.le_of_ble_eq_true rfl) dL_law_151 ⟨Nat.le_of_ble_eq_true rfl, Nat.le_of_ble_eq_true rfl, (by show 744 + 16 ≤ 600086; omega), (by show 7632 + 96 ≤ 7301442; omega)⟩ (fun v18 C20 hP19 => ?_)
  obtain ⟨rfl, hG21⟩ := hP19
  rw [if_pos hz.2.1] at hG21
  refine sw_st (st' := [.int (if kInput (fInput (fReplay σ 0) (nI 2) 6 1) (nI 2) 2 100 = 0 then vInput (fInput (fReplay σ 0) (nI 2) 6 1) (nI 2) 2 100 else x3 (kInput (fInput (fReplay σ 0) (nI 2) 6 1) (nI 2) 2 100))]) rfl ?_
  refine sw_pop (pc := 154) hc dL_law_154 rfl ?_
  refine sw_aload_n (pc := 155) hc dL_law_155 rfl 2 rfl ?_
  refine sw_iload (pc := 156) hc dL_law_156 0 rfl ?_
  refine sw_iconst (pc := 158) (v := 2) hc dL_law_158 (by decide) ?_
  refine sw_iload (pc := 159) hc dL_law_159 0 rfl ?_
  refine sw_iconst (pc := 161) (v := 3) hc dL_law_161 (by decide) ?_
  refine sw_icmp_ne (pc := 162) (tgt := 169) hc dL_law_162 (by decide) (fun _ => ?_) (fun c22 => absurd c22 (by decide))
  refine sw_bipush (pc := 169) (v := 100) hc dL_law_169 (by decide) ?_
  refine sw_callSX (pc := 171) (rest := []) hc (c_L_input l g _ x0 (fInput (fInput (fReplay σ 0) (nI 2) 6 1) (nI 2) 2 100) _ (nI 2) 2 100 hst hG21) mdh_L_input lk_RL_92 st_L_input rfl rfl (Nat.le_of_ble_eq_true rfl) dL_law_171 ⟨Nat.le_of_ble_eq_true rfl, Nat.le_of_ble_eq_true rfl, (by show 760 + 16 ≤ 600086; omega), (by show 7728 + 96 ≤ 7301442; omega)⟩ (fun v23 C25 hP24 => ?_)
  obtain ⟨rfl, hG26⟩ := hP24
  rw [if_pos hz.2.2.1] at hG26
  refine sw_st (st' := [.int (if kInput (fInput (fInput (fReplay σ 0) (nI 2) 6 1) (nI 2) 2 100) (nI 2) 2 100 = 0 then vInput (fInput (fInput (fReplay σ 0) (nI 2) 6 1) (nI 2) 2 100) (nI 2) 2 100 else x3 (kInput (fInput (fInput (fReplay σ 0) (nI 2) 6 1) (nI 2) 2 100) (nI 2) 2 100))]) rfl ?_
  refine sw_pop (pc := 174) hc dL_law_174 rfl ?_
  refine sw_iinc (pc := 175) (v := nI 3) (lv' := [(5, .int (nI 3)), (4, .int it), (1, .ref x0), (2, .ref nA), (3, .ref wA), (0, .ref b)]) hc dL_law_175 (k := 0) rfl (nI_1 2) (by decide) rfl ?_
  refine sw_goto (pc := 178) (tgt := 77) hc dL_law_178 (by decide) ?_
  exact sw_sub (ks := [0, 1, 2, 3, 4, 5]) (lv' := [(5, .int (nI 3)), (4, .int it), (1, .ref x0), (2, .ref nA), (3, .ref wA), (0, .ref b)]) rfl (kend _ _ hz.2.2.2 hG26)

set_option maxHeartbeats 4000000 in
set_option maxRecDepth 100000 in
theorem law_r3 {p : Program} {l : Launch} {e : Env} {s : State} {m : MethodId} {below : List Frame} {meth : Method} {c : Code} {Q : State → Prop} {g : sg_G} {b L x0 nA wA : Nat} {xs : Nat → Int32} {scr : Cell} (hc : sg_Cx p s m #[.ref b] c cL_law 14 RL g) (hA : s.isArrayOf scr .int) (hX : Scr g b L xs scr) (hL : L ≤ 100000) (hst : l.stackTraces = false) {it : Int32} {fn fw : Nat → Int32} {σ : Mem} {C : Nat → Option va_E} (hf : fn 0 = nI 3) (hZ : Z2 3 σ) (hG : GK g x0 σ [(nA, sg_ia g 4 fn), (wA, sg_ia g 48 fw)] C) (kend : ∀ C σ, Z2 4 σ → GK g x0 σ [(nA, sg_ia g 4 (upd fn 0 (nI 4))), (wA, sg_ia g 48 fw)] C → sg_W p l e room_1 s m #[.ref b] below meth c 14 g 848 8532 Q C 77 [(5, .int (nI 4)), (4, .int it), (1, .ref x0), (2, .ref nA), (3, .ref wA), (0, .ref b)] []) : sg_W p l e room_1 s m (#[.ref b]) below meth c 14 g 776 7824 Q C 77 [(5, .int (nI 3)), (4, .int it), (1, .ref x0), (2, .ref nA), (3, .ref wA), (0, .ref b)] [] := by
  have hr := rep_step hZ (by decide)
  have hz := z2_step hZ hG.wx (by decide)
  rw [show bz 3 = 2 from rfl, show tz 3 = 5 from rfl] at hz
  refine sw_iload (pc := 77) hc dL_law_77 0 rfl ?_
  refine sw_iconst (pc := 79) (v := 4) hc dL_law_79 (by decide) ?_
  refine sw_icmp_ge (pc := 80) (tgt := 181) hc dL_law_80 (by decide) (fun c1 => absurd c1 (by decide)) (fun _ => ?_)
  refine sw_aload_n (pc := 83) hc dL_law_83 rfl 3 rfl ?_
  refine sw_iconst (pc := 84) (v := 0) hc dL_law_84 (by decide) ?_
  refine sw_dup2_11 (pc := 85) hc dL_law_85 rfl rfl ?_
  refine sw_iald (pc := 86) (j := 0) hc (hG.at 0 rfl) rfl (by decide) (by decide) dL_law_86 ?_
  refine sw_cv (y := nI 3) hf ?_
  refine sw_aload_n (pc := 87) hc dL_law_87 rfl 2 rfl ?_
  refine sw_iconst (pc := 88) (v := 0) hc dL_law_88 (by decide) ?_
  obtain ⟨fs5, hx6⟩ := hG.gate
  refine sw_callV (pc := 89) (rest := [.int (nI 3), .int 0, .ref nA]) hc (m_replay l 0 hst hG hr.1) md_X7_replay ml_RL_118 im_X7_replay sl_X7_replay hx6 rfl rfl rfl (Nat.le_of_ble_eq_true rfl) dL_law_89 ⟨Nat.le_of_ble_eq_true rfl, Nat.le_of_ble_eq_true rfl, (by show 776 + 24 ≤ 600086; omega), (by show 7824 + 420 ≤ 7301442; omega)⟩ (fun v2 C4 hP3 => ?_) (fun _ _ hf => hf.elim)
  obtain ⟨rfl, hG7⟩ := hP3
  refine sw_st (st' := [.int (vReplay σ 0), .int (nI 3), .int 0, .ref nA]) rfl ?_
  refine sw_cv (y := nI 3) hr.2.1 ?_
  refine sw_iload (pc := 92) hc dL_law_92 0 rfl ?_
  refine sw_icmp_ne (pc := 94) (tgt := 101) hc dL_law_94 (by decide) (fun c8 => absurd c8 (fun zf => zf rfl)) (fun _ => ?_)
  refine sw_iconst (pc := 97) (v := 1) hc dL_law_97 (by decide) ?_
  refine sw_goto (pc := 98) (tgt := 102) hc dL_law_98 (by decide) ?_
  refine sw_iadd (pc := 102) hc dL_law_102 ?_
  refine sw_cv (y := nI 4) (nI_1 3) ?_
  refine sw_iast (pc := 103) (j := 0) hc (hG7.at 0 rfl) rfl (by decide) (by decide) dL_law_103 ?_
  refine sw_gen (P := fun zC => GK g x0 (fReplay σ 0) [(nA, sg_ia g 4 (upd fn 0 (nI 4))), (wA, sg_ia g 48 fw)] zC) (hG7.put 0 rfl) (fun C9 hG10 => ?_)
  refine sw_aload_n (pc := 104) hc dL_law_104 rfl 2 rfl ?_
  refine sw_iload (pc := 105) hc dL_law_105 0 rfl ?_
  refine sw_iload (pc := 107) hc dL_law_107 0 rfl ?_
  refine sw_iconst (pc := 109) (v := 1) hc dL_law_109 (by decide) ?_
  refine sw_icmp_ne (pc := 110) (tgt := 118) hc dL_law_110 (by decide) (fun _ => ?_) (fun c11 => absurd c11 (by decide))
  refine sw_iload (pc := 118) hc dL_law_118 0 rfl ?_
  refine sw_iconst (pc := 120) (v := 2) hc dL_law_120 (by decide) ?_
  refine sw_icmp_ne (pc := 121) (tgt := 129) hc dL_law_121 (by decide) (fun _ => ?_) (fun c12 => absurd c12 (by decide))
  refine sw_iconst (pc := 129) (v := 2) hc dL_law_129 (by decide) ?_
  refine sw_iconst (pc := 130) (v := 1) hc dL_law_130 (by decide) ?_
  refine sw_callSX (pc := 131) (rest := []) hc (c_L_input l g _ x0 (fReplay σ 0) _ (nI 3) 2 1 hst hG10) mdh_L_input lk_RL_92 st_L_input rfl rfl (Nat.le_of_ble_eq_true rfl) dL_law_131 ⟨Nat.le_of_ble_eq_true rfl, Nat.le_of_ble_eq_true rfl, (by show 800 + 16 ≤ 600086; omega), (by show 8244 + 96 ≤ 7301442; omega)⟩ (fun v13 C15 hP14 => ?_)
  obtain ⟨rfl, hG16⟩ := hP14
  rw [if_pos hz.1] at hG16
  refine sw_st (st' := [.int (if kInput (fReplay σ 0) (nI 3) 2 1 = 0 then vInput (fReplay σ 0) (nI 3) 2 1 else x3 (kInput (fReplay σ 0) (nI 3) 2 1))]) rfl ?_
  refine sw_pop (pc := 134) hc dL_law_134 rfl ?_
  refine sw_aload_n (pc := 135) hc dL_law_135 rfl 2 rfl ?_
  refine sw_iload (pc := 136) hc dL_law_136 0 rfl ?_
  refine sw_iconst (pc := 138) (v := 2) hc dL_law_138 (by decide) ?_
  refine sw_iload (pc := 139) hc dL_law_139 0 rfl ?_
  refine sw_iconst (pc := 141) (v := 3) hc dL_law_141 (by decide) ?_
  refine sw_icmp_ne (pc := 142) (tgt := 149) hc dL_law_142 (by decide) (fun c17 => absurd c17 (fun zf => zf rfl)) (fun _ => ?_)
  refine sw_iconst (pc := 145) (v := 5) hc dL_law_145 (by decide) ?_
  refine sw_goto (pc := 146) (tgt := 151) hc dL_law_146 (by decide) ?_
  refine sw_callSX (pc := 151) (rest := []) hc (c_L_input l g _ x0 (fInput (fReplay σ 0) (nI 3) 2 1) _ (nI 3) 2 5 hst hG16) mdh_L_input lk_RL_92 st_L_input rfl rfl (Nat.le_of_ble_eq_true rfl) dL_law_151 ⟨Nat.le_of_ble_eq_true rfl, Nat.le_of_ble_eq_true rfl, (by show 816 + 16 ≤ 600086; omega), (by show 8340 + 96 ≤ 7301442; omega)⟩ (fun v18 C20 hP19 => ?_)
  obtain ⟨rfl, hG21⟩ := hP19
  rw [if_pos hz.2.1] at hG21
  refine sw_st (st' := [.int (if kInput (fInput (fReplay σ 0) (nI 3) 2 1) (nI 3) 2 5 = 0 then vInput (fInput (fReplay σ 0) (nI 3) 2 1) (nI 3) 2 5 else x3 (kInput (fInput (fReplay σ 0) (nI 3) 2 1) (nI 3) 2 5))]) rfl ?_
  refine sw_pop (pc := 154) hc dL_law_154 rfl ?_
  refine sw_aload_n (pc := 155) hc dL_law_155 rfl 2 rfl ?_
  refine sw_iload (pc := 156) hc dL_law_156 0 rfl ?_
  refine sw_iconst (pc := 158) (v := 2) hc dL_law_158 (by decide) ?_
  refine sw_iload (pc := 159) hc dL_law_159 0 rfl ?_
  refine sw_iconst (pc := 161) (v := 3) hc dL_law_161 (by decide) ?_
  refine sw_icmp_ne (pc := 162) (tgt := 169) hc dL_law_162 (by decide) (fun c22 => absurd c22 (fun zf => zf rfl)) (fun _ => ?_)
  refine sw_iconst (pc := 165) (v := 5) hc dL_law_165 (by decide) ?_
  refine sw_goto (pc := 166) (tgt := 171) hc dL_law_166 (by decide) ?_
  refine sw_callSX (pc := 171) (rest := []) hc (c_L_input l g _ x0 (fInput (fInput (fReplay σ 0) (nI 3) 2 1) (nI 3) 2 5) _ (nI 3) 2 5 hst hG21) mdh_L_input lk_RL_92 st_L_input rfl rfl (Nat.le_of_ble_eq_true rfl) dL_law_171 ⟨Nat.le_of_ble_eq_true rfl, Nat.le_of_ble_eq_true rfl, (by show 832 + 16 ≤ 600086; omega), (by show 8436 + 96 ≤ 7301442; omega)⟩ (fun v23 C25 hP24 => ?_)
  obtain ⟨rfl, hG26⟩ := hP24
  rw [if_pos hz.2.2.1] at hG26
  refine sw_st (st' := [.int (if kInput (fInput (fInput (fReplay σ 0) (nI 3) 2 1) (nI 3) 2 5) (nI 3) 2 5 = 0 then vInput (fInput (fInput (fReplay σ 0) (nI 3) 2 1) (nI 3) 2 5) (nI 3) 2 5 else x3 (kInput (fInput (fInput (fReplay σ 0) (nI 3) 2 1) (nI 3) 2 5) (nI 3) 2 5))]) rfl ?_
  refine sw_pop (pc := 174) hc dL_law_174 rfl ?_
  refine sw_iinc (pc := 175) (v := nI 4) (lv' := [(5, .int (nI 4)), (4, .int it), (1, .ref x0), (2, .ref nA), (3, .ref wA), (0, .ref b)]) hc dL_law_175 (k := 0) rfl (nI_1 3) (by decide) rfl ?_
  refine sw_goto (pc := 178) (tgt := 77) hc dL_law_178 (by decide) ?_
  exact sw_sub (ks := [0, 1, 2, 3, 4, 5]) (lv' := [(5, .int (nI 4)), (4, .int it), (1, .ref x0), (2, .ref nA), (3, .ref wA), (0, .ref b)]) rfl (kend _ _ hz.2.2.2 hG26)

set_option maxHeartbeats 4000000 in
set_option maxRecDepth 100000 in
theorem law_e {p : Program} {l : Launch} {e : Env} {s : State} {m : MethodId} {below : List Frame} {meth : Method} {c : Code} {Q : State → Prop} {g : sg_G} {b L x0 nA wA : Nat} {xs : Nat → Int32} {scr : Cell} (hc : sg_Cx p s m #[.ref b] c cL_law 14 RL g) (hA : s.isArrayOf scr .int) (hX : Scr g b L xs scr) (hL : L ≤ 100000) (hst : l.stackTraces = false) (kend : ∀ (C : Nat → Option va_E) (lv : List (Nat × Value)) (k n : Nat), k ≤ 600086 → n ≤ 7301442 → sg_W p l e room_1 s m #[.ref b] below meth c 14 g k n Q C 649 lv [.int 1]) {it : Int32} {fn fw : Nat → Int32} {σ : Mem} {C : Nat → Option va_E} (hf0 : fn 0 = 4) (hf1 : fn 1 = 0) (hf2 : fn 2 = 0) (hf3 : fn 3 = 0) (hZ : Z2 4 σ) (hG : GK g x0 σ [(nA, sg_ia g 4 fn), (wA, sg_ia g 48 fw)] C) : sg_W p l e room_1 s m (#[.ref b]) below meth c 14 g 848 8532 Q C 77 [(5, .int (nI 4)), (4, .int it), (1, .ref x0), (2, .ref nA), (3, .ref wA), (0, .ref b)] [] := by
  have he := z2_end hZ
  refine sw_iload (pc := 77) hc dL_law_77 0 rfl ?_
  refine sw_iconst (pc := 79) (v := 4) hc dL_law_79 (by decide) ?_
  refine sw_icmp_ge (pc := 80) (tgt := 181) hc dL_law_80 (by decide) (fun _ => ?_) (fun c1 => absurd (by decide) c1)
  refine sw_aload_n (pc := 181) hc dL_law_181 rfl 3 rfl ?_
  refine sw_iconst (pc := 182) (v := 1) hc dL_law_182 (by decide) ?_
  refine sw_dup2_11 (pc := 183) hc dL_law_183 rfl rfl ?_
  refine sw_iald (pc := 184) (j := 1) hc (hG.at 0 rfl) rfl (by decide) (by decide) dL_law_184 ?_
  refine sw_cv (y := 0) hf1 ?_
  refine sw_aload_n (pc := 185) hc dL_law_185 rfl 2 rfl ?_
  refine sw_iconst (pc := 186) (v := 0) hc dL_law_186 (by decide) ?_
  obtain ⟨fs5, hx6⟩ := hG.gate
  refine sw_callV (pc := 187) (rest := [.int 0, .int 1, .ref nA]) hc (m_category l 0 hst hG he.1) md_X7_category ml_RL_121 im_X7_category sl_X7_category hx6 rfl rfl rfl (Nat.le_of_ble_eq_true rfl) dL_law_187 ⟨Nat.le_of_ble_eq_true rfl, Nat.le_of_ble_eq_true rfl, (by show 848 + 24 ≤ 600086; omega), (by show 8532 + 420 ≤ 7301442; omega)⟩ (fun v2 C4 hP3 => ?_) (fun _ _ hf => hf.elim)
  obtain ⟨rfl, hG7⟩ := hP3
  refine sw_st (st' := [.int (vCategory σ 0), .int 0, .int 1, .ref nA]) rfl ?_
  refine sw_cv (y := 0) he.2.1 ?_
  refine sw_if_ne (pc := 190) (tgt := 197) hc dL_law_190 (by decide) (fun c8 => absurd c8 (fun zf => zf rfl)) (fun _ => ?_)
  refine sw_iconst (pc := 193) (v := 1) hc dL_law_193 (by decide) ?_
  refine sw_goto (pc := 194) (tgt := 198) hc dL_law_194 (by decide) ?_
  refine sw_iadd (pc := 198) hc dL_law_198 ?_
  refine sw_cv (y := 1) (by decide) ?_
  refine sw_iast (pc := 199) (j := 1) hc (hG7.at 0 rfl) rfl (by decide) (by decide) dL_law_199 ?_
  refine sw_gen (P := fun zC => GK g x0 (fCategory σ 0) [(nA, sg_ia g 4 (upd fn 1 1)), (wA, sg_ia g 48 fw)] zC) (hG7.put 0 rfl) (fun C9 hG10 => ?_)
  refine sw_aload_n (pc := 200) hc dL_law_200 rfl 3 rfl ?_
  refine sw_iconst (pc := 201) (v := 1) hc dL_law_201 (by decide) ?_
  refine sw_dup2_11 (pc := 202) hc dL_law_202 rfl rfl ?_
  refine sw_iald (pc := 203) (j := 1) hc (hG10.at 0 rfl) rfl (by decide) (by decide) dL_law_203 ?_
  refine sw_cv (y := 1) pk_us ?_
  refine sw_aload_n (pc := 204) hc dL_law_204 rfl 2 rfl ?_
  refine sw_iconst (pc := 205) (v := 0) hc dL_law_205 (by decide) ?_
  obtain ⟨fs14, hx15⟩ := hG10.gate
  refine sw_callV (pc := 206) (rest := [.int 1, .int 1, .ref nA]) hc (m_category l 0 hst hG10 he.2.2.1) md_X7_category ml_RL_121 im_X7_category sl_X7_category hx15 rfl rfl rfl (Nat.le_of_ble_eq_true rfl) dL_law_206 ⟨Nat.le_of_ble_eq_true rfl, Nat.le_of_ble_eq_true rfl, (by show 872 + 24 ≤ 600086; omega), (by show 8952 + 420 ≤ 7301442; omega)⟩ (fun v11 C13 hP12 => ?_) (fun _ _ hf => hf.elim)
  obtain ⟨rfl, hG16⟩ := hP12
  refine sw_st (st' := [.int (vCategory (fCategory σ 0) 0), .int 1, .int 1, .ref nA]) rfl ?_
  refine sw_cv (y := 1) he.2.2.2.1 ?_
  refine sw_iconst (pc := 209) (v := 1) hc dL_law_209 (by decide) ?_
  refine sw_icmp_ne (pc := 210) (tgt := 217) hc dL_law_210 (by decide) (fun c17 => absurd c17 (fun zf => zf rfl)) (fun _ => ?_)
  refine sw_iconst (pc := 213) (v := 1) hc dL_law_213 (by decide) ?_
  refine sw_goto (pc := 214) (tgt := 218) hc dL_law_214 (by decide) ?_
  refine sw_iadd (pc := 218) hc dL_law_218 ?_
  refine sw_cv (y := 2) (by decide) ?_
  refine sw_iast (pc := 219) (j := 1) hc (hG16.at 0 rfl) rfl (by decide) (by decide) dL_law_219 ?_
  refine sw_gen (P := fun zC => GK g x0 (fCategory (fCategory σ 0) 0) [(nA, sg_ia g 4 (upd (upd fn 1 1) 1 2)), (wA, sg_ia g 48 fw)] zC) (hG16.put 0 rfl) (fun C18 hG19 => ?_)
  obtain ⟨-, -, -, -, hI, hB, h26, h30, hC, hR⟩ := he
  have hq := res_4 hI hG19.wx hC hR
  generalize fCategory (fCategory σ 0) 0 = υ at *
  have hN : NA υ (upd (upd fn 1 1) 1 2) := ⟨(pk_un (by decide)).trans ((pk_un (by decide)).trans hf0), pk_us, (pk_un (by decide)).trans ((pk_un (by decide)).trans (hf2.trans (by rw [h26]; rfl))), (pk_un (by decide)).trans ((pk_un (by decide)).trans (hf3.trans (by rw [h30]; rfl)))⟩
  have hw : WA υ fw := fun r hr => absurd hr (by rw [h26]; exact Nat.not_lt_zero r)
  refine sw_aload_n (pc := 220) hc dL_law_220 rfl 3 rfl ?_
  refine sw_iconst (pc := 221) (v := 0) hc dL_law_221 (by decide) ?_
  refine sw_iald (pc := 222) (j := 0) hc (hG19.at 0 rfl) rfl (by decide) (by decide) dL_law_222 ?_
  refine sw_cv (y := 4) hN.1 ?_
  refine sw_iconst (pc := 223) (v := 4) hc dL_law_223 (by decide) ?_
  refine sw_icmp_ne (pc := 224) (tgt := 280) hc dL_law_224 (by decide) (fun c20 => absurd c20 (fun zf => zf rfl)) (fun _ => ?_)
  refine sw_aload_n (pc := 227) hc dL_law_227 rfl 3 rfl ?_
  refine sw_iconst (pc := 228) (v := 1) hc dL_law_228 (by decide) ?_
  refine sw_iald (pc := 229) (j := 1) hc (hG19.at 0 rfl) rfl (by decide) (by decide) dL_law_229 ?_
  refine sw_cv (y := 2) hN.2.1 ?_
  refine sw_iconst (pc := 230) (v := 2) hc dL_law_230 (by decide) ?_
  refine sw_icmp_ne (pc := 231) (tgt := 280) hc dL_law_231 (by decide) (fun c21 => absurd c21 (fun zf => zf rfl)) (fun _ => ?_)
  refine sw_aload_n (pc := 234) hc dL_law_234 rfl 2 rfl ?_
  refine sw_iconst (pc := 235) (v := 0) hc dL_law_235 (by decide) ?_
  obtain ⟨fs25, hx26⟩ := hG19.gate
  refine sw_callV (pc := 236) (rest := []) hc (m_result l 0 hst hG19 (hI.rep (r := 0) (by decide))) md_X7_result ml_RL_58 im_X7_result sl_X7_result hx26 rfl rfl rfl (Nat.le_of_ble_eq_true rfl) dL_law_236 ⟨Nat.le_of_ble_eq_true rfl, Nat.le_of_ble_eq_true rfl, (by show 896 + 16 ≤ 600086; omega), (by show 9372 + 96 ≤ 7301442; omega)⟩ (fun v22 C24 hP23 => ?_) (fun _ _ hf => hf.elim)
  obtain ⟨rfl, hG27⟩ := hP23
  refine sw_st (st' := [.int (rRes υ (iN 0))]) rfl ?_
  refine sw_cv (y := 1221) hq.1 ?_
  refine sw_bipush (pc := 239) (v := 10) hc dL_law_239 (by decide) ?_
  refine sw_irem (pc := 241) hc dL_law_241 (by decide) ?_
  refine sw_cv (y := 1) (by decide) ?_
  refine sw_iconst (pc := 242) (v := 1) hc dL_law_242 (by decide) ?_
  refine sw_icmp_ne (pc := 243) (tgt := 280) hc dL_law_243 (by decide) (fun c28 => absurd c28 (fun zf => zf rfl)) (fun _ => ?_)
  refine sw_aload_n (pc := 246) hc dL_law_246 rfl 2 rfl ?_
  refine sw_iconst (pc := 247) (v := 1) hc dL_law_247 (by decide) ?_
  obtain ⟨fs32, hx33⟩ := hG27.gate
  refine sw_callV (pc := 248) (rest := []) hc (m_result l 1 hst hG27 (hI.rep (r := 1) (by decide))) md_X7_result ml_RL_58 im_X7_result sl_X7_result hx33 rfl rfl rfl (Nat.le_of_ble_eq_true rfl) dL_law_248 ⟨Nat.le_of_ble_eq_true rfl, Nat.le_of_ble_eq_true rfl, (by show 912 + 16 ≤ 600086; omega), (by show 9468 + 96 ≤ 7301442; omega)⟩ (fun v29 C31 hP30 => ?_) (fun _ _ hf => hf.elim)
  obtain ⟨rfl, hG34⟩ := hP30
  refine sw_st (st' := [.int (rRes υ (iN 1))]) rfl ?_
  refine sw_cv (y := 1181) hq.2.1 ?_
  refine sw_bipush (pc := 251) (v := 10) hc dL_law_251 (by decide) ?_
  refine sw_irem (pc := 253) hc dL_law_253 (by decide) ?_
  refine sw_cv (y := 1) (by decide) ?_
  refine sw_iconst (pc := 254) (v := 1) hc dL_law_254 (by decide) ?_
  refine sw_icmp_ne (pc := 255) (tgt := 280) hc dL_law_255 (by decide) (fun c35 => absurd c35 (fun zf => zf rfl)) (fun _ => ?_)
  refine sw_aload_n (pc := 258) hc dL_law_258 rfl 2 rfl ?_
  refine sw_iconst (pc := 259) (v := 2) hc dL_law_259 (by decide) ?_
  obtain ⟨fs39, hx40⟩ := hG34.gate
  refine sw_callV (pc := 260) (rest := []) hc (m_result l 2 hst hG34 (hI.rep (r := 2) (by decide))) md_X7_result ml_RL_58 im_X7_result sl_X7_result hx40 rfl rfl rfl (Nat.le_of_ble_eq_true rfl) dL_law_260 ⟨Nat.le_of_ble_eq_true rfl, Nat.le_of_ble_eq_true rfl, (by show 928 + 16 ≤ 600086; omega), (by show 9564 + 96 ≤ 7301442; omega)⟩ (fun v36 C38 hP37 => ?_) (fun _ _ hf => hf.elim)
  obtain ⟨rfl, hG41⟩ := hP37
  refine sw_st (st' := [.int (rRes υ (iN 2))]) rfl ?_
  refine sw_cv (y := 1221) hq.2.2.1 ?_
  refine sw_bipush (pc := 263) (v := 10) hc dL_law_263 (by decide) ?_
  refine sw_irem (pc := 265) hc dL_law_265 (by decide) ?_
  refine sw_cv (y := 1) (by decide) ?_
  refine sw_iconst (pc := 266) (v := 1) hc dL_law_266 (by decide) ?_
  refine sw_icmp_ne (pc := 267) (tgt := 280) hc dL_law_267 (by decide) (fun c42 => absurd c42 (fun zf => zf rfl)) (fun _ => ?_)
  refine sw_aload_n (pc := 270) hc dL_law_270 rfl 2 rfl ?_
  refine sw_iconst (pc := 271) (v := 3) hc dL_law_271 (by decide) ?_
  obtain ⟨fs46, hx47⟩ := hG41.gate
  refine sw_callV (pc := 272) (rest := []) hc (m_result l 3 hst hG41 (hI.rep (r := 3) (by decide))) md_X7_result ml_RL_58 im_X7_result sl_X7_result hx47 rfl rfl rfl (Nat.le_of_ble_eq_true rfl) dL_law_272 ⟨Nat.le_of_ble_eq_true rfl, Nat.le_of_ble_eq_true rfl, (by show 944 + 16 ≤ 600086; omega), (by show 9660 + 96 ≤ 7301442; omega)⟩ (fun v43 C45 hP44 => ?_) (fun _ _ hf => hf.elim)
  obtain ⟨rfl, hG48⟩ := hP44
  refine sw_st (st' := [.int (rRes υ (iN 3))]) rfl ?_
  refine sw_cv (y := 110) hq.2.2.2 ?_
  refine sw_bipush (pc := 275) (v := 110) hc dL_law_275 (by decide) ?_
  refine sw_icmp_eq (pc := 277) (tgt := 282) hc dL_law_277 (by decide) (fun _ => ?_) (fun c49 => absurd rfl c49)
  refine sw_iconst (pc := 282) (v := 0) hc dL_law_282 (by decide) ?_
  refine sw_istore (pc := 283) hc dL_law_283 (by decide) (lv' := [(5, .int 0), (4, .int it), (1, .ref x0), (2, .ref nA), (3, .ref wA), (0, .ref b)]) rfl ?_
  exact sw_sub (ks := [0, 2, 3, 4, 5]) (lv' := [(5, .int (nI 0)), (1, .ref x0), (2, .ref nA), (3, .ref wA), (0, .ref b)]) rfl (sw_widen (by omega) (by omega) (law_l hc hA hX hL hst kend 30 0 υ _ fw _ rfl hI hN hw hB hG48))

set_option maxHeartbeats 4000000 in
set_option maxRecDepth 100000 in
theorem k_start {p : Program} {l : Launch} {e : Env} {s : State} {m : MethodId} {below : List Frame} {meth : Method} {c : Code} {Q : State → Prop} {g : sg_G} {b L : Nat} {xs : Nat → Int32} {scr : Cell} (hc : sg_Cx p s m #[.ref b] c cL_law 14 RL g) (hA : s.isArrayOf scr .int) (hX : Scr g b L xs scr) (hL : L ≤ 100000) (hst : l.stackTraces = false) (kend : ∀ (C : Nat → Option va_E) (lv : List (Nat × Value)) (k n : Nat), k ≤ 600086 → n ≤ 7301442 → sg_W p l e room_1 s m #[.ref b] below meth c 14 g k n Q C 649 lv [.int 1]) : sg_W p l e room_1 s m #[.ref b] below meth c 14 g 0 0 Q (fun _ => none) 0 [(0, .ref b)] [] := by
  show sg_W p l e room_1 s m #[.ref b] below meth c 14 g 0 0 Q (fun _ => none) 0 [(0, .ref b)] []
  refine sw_new (pc := 0) hc nw_RL_10 ⟨(by decide), (by decide)⟩ dL_law_0 (fun x0 hx0 => ?_)
  refine sw_dup (pc := 3) hc dL_law_3 rfl ?_
  refine sw_callI (pc := 4) (rest := [.ref x0]) hc (c_X7_init l g _ x0 sg_up_s) md_X7_init ml_RL_109 im_X7_init rfl rfl rfl (Nat.le_of_ble_eq_true rfl) dL_law_4 ⟨Nat.le_of_ble_eq_true rfl, Nat.le_of_ble_eq_true rfl, (by decide), (by decide)⟩ (fun v C2 hP => ?_) (fun _ _ h => h.elim)
  obtain ⟨rfl, b1, b2, b3, b4, b5, b6, b7, b8, -, -, -, -, -, -, -, -, hn1, hC2⟩ := hP
  have hG0 : GK g x0 sg0 [] C2 := by rw [hC2]; exact GK_0 hn1
  refine sw_st (st' := [.ref x0]) rfl ?_
  refine sw_astore_n (pc := 7) hc dL_law_7 rfl (by decide) (lv' := [(1, .ref x0), (0, .ref b)]) rfl ?_
  refine sw_iconst (pc := 8) (v := 4) hc dL_law_8 (by decide) ?_
  refine sw_newi (pc := 9) (n := 4) hc ac_int rfl (by decide) ⟨Nat.le_of_ble_eq_true rfl, Nat.le_of_ble_eq_true rfl⟩ dL_law_9 (fun r1 fr1 => ?_)
  refine sw_gen (P := fun zC => GK g x0 sg0 [(r1, sg_ia g 4 (fun _ => 0))] zC) (hG0.cons fr1) (fun C2 hG3 => ?_)
  refine sw_astore_n (pc := 11) hc dL_law_11 rfl (by decide) (lv' := [(2, .ref r1), (1, .ref x0), (0, .ref b)]) rfl ?_
  refine sw_bipush (pc := 12) (v := 48) hc dL_law_12 (by decide) ?_
  refine sw_newi (pc := 14) (n := 48) hc ac_int rfl (by decide) ⟨Nat.le_of_ble_eq_true rfl, Nat.le_of_ble_eq_true rfl⟩ dL_law_14 (fun r4 fr4 => ?_)
  refine sw_gen (P := fun zC => GK g x0 sg0 [(r4, sg_ia g 48 (fun _ => 0)), (r1, sg_ia g 4 (fun _ => 0))] zC) (hG3.cons fr4) (fun C5 hG6 => ?_)
  have hG7 := hG6.swp
  refine sw_astore_n (pc := 16) hc dL_law_16 rfl (by decide) (lv' := [(3, .ref r4), (2, .ref r1), (1, .ref x0), (0, .ref b)]) rfl ?_
  refine sw_aload_n (pc := 17) hc dL_law_17 rfl 3 rfl ?_
  refine sw_iconst (pc := 18) (v := 0) hc dL_law_18 (by decide) ?_
  refine sw_callSA (pc := 19) (rest := []) hc hA (c_L_cell l g _ b L 0 xs scr hX hL (by decide)) md_L_cell lk_RL_110 st_L_cell rfl rfl (Nat.le_of_ble_eq_true rfl) dL_law_19 ⟨Nat.le_of_ble_eq_true rfl, Nat.le_of_ble_eq_true rfl, (by show 11 + 0 ≤ 600086; omega), (by show 2151 + 0 ≤ 7301442; omega)⟩ (fun v8 C9 hP10 => ?_) (fun _ _ hf => hf.elim)
  obtain ⟨rfl, rfl⟩ := hP10
  refine sw_st (st' := [.int (cellV L xs 0)]) rfl ?_
  refine sw_any (fun it => ?_)
  refine sw_istore (pc := 22) hc dL_law_22 (by decide) (lv' := [(4, .int it), (3, .ref r4), (2, .ref r1), (1, .ref x0), (0, .ref b)]) rfl ?_
  refine sw_aload_n (pc := 24) hc dL_law_24 rfl 3 rfl ?_
  obtain ⟨fs14, hx15⟩ := hG7.gate
  refine sw_callV (pc := 25) (rest := []) hc (m_level l hst hG7 z2_level.1) md_X7_level ml_RL_114 im_X7_level sl_X7_level hx15 rfl rfl rfl (Nat.le_of_ble_eq_true rfl) dL_law_25 ⟨Nat.le_of_ble_eq_true rfl, Nat.le_of_ble_eq_true rfl, (by show 11 + 24 ≤ 600086; omega), (by show 2151 + 420 ≤ 7301442; omega)⟩ (fun v11 C13 hP12 => ?_) (fun _ _ hf => hf.elim)
  obtain ⟨rfl, hG16⟩ := hP12
  refine sw_st (st' := [.int (vLevel sg0)]) rfl ?_
  refine sw_pop (pc := 28) hc dL_law_28 rfl ?_
  refine sw_iconst (pc := 29) (v := 0) hc dL_law_29 (by decide) ?_
  refine sw_istore (pc := 30) hc dL_law_30 (by decide) (lv' := [(5, .int 0), (4, .int it), (3, .ref r4), (2, .ref r1), (1, .ref x0), (0, .ref b)]) rfl ?_
  refine sw_sub (ks := [0, 1, 4, 3, 2, 5]) (lv' := [(5, .int (nI 0)), (4, .int it), (1, .ref x0), (2, .ref r1), (3, .ref r4), (0, .ref b)]) rfl ?_
  refine sw_widen (k := 40 + 16 * 0) (n := 2600 + 96 * 0) (by omega) (by omega) ?_
  refine law_c hc hA hX hL hst (fun C3 σ3 hZ3 hG3 => ?_) 32 0 _ _ rfl z2_level.2 hG16
  refine sw_iconst (pc := 74) (v := 0) hc dL_law_74 (by decide) ?_
  refine sw_istore (pc := 75) hc dL_law_75 (by decide) (lv' := [(5, .int 0), (4, .int it), (1, .ref x0), (2, .ref r1), (3, .ref r4), (0, .ref b)]) rfl ?_
  refine sw_sub (ks := [0, 1, 2, 3, 4, 5]) (lv' := [(5, .int (nI 0)), (4, .int it), (1, .ref x0), (2, .ref r1), (3, .ref r4), (0, .ref b)]) rfl ?_
  refine sw_widen (k := 560) (n := 5700) (by omega) (by omega) ?_
  refine law_r0 (fn := (fun _ => 0)) hc hA hX hL hst rfl hZ3 hG3 (fun Ca0 σa0 hZa0 hGa0 => ?_)
  refine law_r1 (fn := upd (fun _ => 0) 0 (nI 1)) hc hA hX hL hst pk_us hZa0 hGa0 (fun Ca1 σa1 hZa1 hGa1 => ?_)
  refine law_r2 (fn := upd (upd (fun _ => 0) 0 (nI 1)) 0 (nI 2)) hc hA hX hL hst pk_us hZa1 hGa1 (fun Ca2 σa2 hZa2 hGa2 => ?_)
  refine law_r3 (fn := upd (upd (upd (fun _ => 0) 0 (nI 1)) 0 (nI 2)) 0 (nI 3)) hc hA hX hL hst pk_us hZa2 hGa2 (fun Ca3 σa3 hZa3 hGa3 => ?_)
  exact law_e hc hA hX hL hst kend pk_us rfl rfl rfl hZa3 hGa3

