def hz : Her := fun _ => 0

theorem md_Jxc12de_init_da8c8 : sg_MD yJxc12de_init_da8c8 cJxc12de_init_da8c8 1 none 0 := ⟨sg_mem (i := 64) (by decide +kernel) rfl, sg_mem (i := 28) (by decide +kernel) rfl, ⟨by decide, by decide⟩, by decide +kernel⟩
theorem ml_RJx4a65c_1 : sg_ML RJx4a65c 1 yJxc12de_init_da8c8 := .inl (sg_mem (i := 62) (by decide +kernel) rfl)
theorem im_Jxc12de_init_da8c8 : Cond.instanceMethod yJxc12de_init_da8c8 ∈ sg_T := sg_mem (i := 63) (by decide +kernel) rfl
theorem oi_RX1_5 : Cond.methodLink RX1 5 Lib.objectInit ∈ sg_T := sg_mem (i := 88) (by decide +kernel) rfl
theorem oi_RX3_1 : Cond.methodLink RX3 1 Lib.objectInit ∈ sg_T := sg_mem (i := 792) (by decide +kernel) rfl
theorem ti_4 : ∀ w ∈ u_ws RX3 TX3 3, w ∈ sg_T := List.forall_mem_cons.mpr ⟨sg_mem (i := 798) (by decide +kernel) rfl, List.forall_mem_cons.mpr ⟨sg_mem (i := 800) (by decide +kernel) rfl, List.forall_mem_cons.mpr ⟨sg_mem (i := 802) (by decide +kernel) rfl, fun _ h => absurd h List.not_mem_nil⟩⟩⟩
theorem fl_RX3_7 : sg_FL RX3 7 4 0 := ⟨RX3, TX3, 3, "SplitGate$Offer", rfl, by decide, ti_4, .inl rfl, .inl (sg_mem (i := 793) (by decide +kernel) rfl)⟩
theorem fk_RX3_7 : sg_FL1 RX3 7 4 0 := ⟨RX3, TX3, 3, "SplitGate$Offer", rfl, by decide, ti_4, .inl rfl, (sg_mem (i := 793) (by decide +kernel) rfl)⟩
theorem ty_4 : sg_TY 4 := ⟨RX3, TX3, 3, tyX3, rfl, tyX3_ok, nmX3⟩
theorem fp_4_0 : sg_FP 4 0 true (.object "SplitGate$Category") := ⟨RX3, TX3, 3, rfl, rfl, by decide +kernel, rfl⟩
theorem fl_RX3_13 : sg_FL RX3 13 4 1 := ⟨RX3, TX3, 3, "SplitGate$Offer", rfl, by decide, ti_4, .inl rfl, .inl (sg_mem (i := 795) (by decide +kernel) rfl)⟩
theorem fk_RX3_13 : sg_FL1 RX3 13 4 1 := ⟨RX3, TX3, 3, "SplitGate$Offer", rfl, by decide, ti_4, .inl rfl, (sg_mem (i := 795) (by decide +kernel) rfl)⟩
theorem fp_4_1 : sg_FP 4 1 true .int := ⟨RX3, TX3, 3, rfl, rfl, by decide +kernel, rfl⟩
theorem oi_RX5_1 : Cond.methodLink RX5 1 Lib.objectInit ∈ sg_T := sg_mem (i := 640) (by decide +kernel) rfl
theorem ti_6 : ∀ w ∈ u_ws RX5 TX5 4, w ∈ sg_T := List.forall_mem_cons.mpr ⟨sg_mem (i := 646) (by decide +kernel) rfl, List.forall_mem_cons.mpr ⟨sg_mem (i := 648) (by decide +kernel) rfl, List.forall_mem_cons.mpr ⟨sg_mem (i := 650) (by decide +kernel) rfl, List.forall_mem_cons.mpr ⟨sg_mem (i := 652) (by decide +kernel) rfl, fun _ h => absurd h List.not_mem_nil⟩⟩⟩⟩
theorem fl_RX5_7 : sg_FL RX5 7 6 0 := ⟨RX5, TX5, 4, "SplitGate$Rule", rfl, by decide, ti_6, .inl rfl, .inl (sg_mem (i := 641) (by decide +kernel) rfl)⟩
theorem fk_RX5_7 : sg_FL1 RX5 7 6 0 := ⟨RX5, TX5, 4, "SplitGate$Rule", rfl, by decide, ti_6, .inl rfl, (sg_mem (i := 641) (by decide +kernel) rfl)⟩
theorem ty_6 : sg_TY 6 := ⟨RX5, TX5, 4, tyX5, rfl, tyX5_ok, nmX5⟩
theorem fp_6_0 : sg_FP 6 0 true .int := ⟨RX5, TX5, 4, rfl, rfl, by decide +kernel, rfl⟩
theorem fl_RX5_13 : sg_FL RX5 13 6 1 := ⟨RX5, TX5, 4, "SplitGate$Rule", rfl, by decide, ti_6, .inl rfl, .inl (sg_mem (i := 643) (by decide +kernel) rfl)⟩
theorem fk_RX5_13 : sg_FL1 RX5 13 6 1 := ⟨RX5, TX5, 4, "SplitGate$Rule", rfl, by decide, ti_6, .inl rfl, (sg_mem (i := 643) (by decide +kernel) rfl)⟩
theorem fp_6_1 : sg_FP 6 1 true .int := ⟨RX5, TX5, 4, rfl, rfl, by decide +kernel, rfl⟩
theorem fl_RX5_16 : sg_FL RX5 16 6 2 := ⟨RX5, TX5, 4, "SplitGate$Rule", rfl, by decide, ti_6, .inl rfl, .inl (sg_mem (i := 644) (by decide +kernel) rfl)⟩
theorem fk_RX5_16 : sg_FL1 RX5 16 6 2 := ⟨RX5, TX5, 4, "SplitGate$Rule", rfl, by decide, ti_6, .inl rfl, (sg_mem (i := 644) (by decide +kernel) rfl)⟩
theorem fp_6_2 : sg_FP 6 2 true .int := ⟨RX5, TX5, 4, rfl, rfl, by decide +kernel, rfl⟩
theorem fl_RX5_19 : sg_FL RX5 19 6 3 := ⟨RX5, TX5, 4, "SplitGate$Rule", rfl, by decide, ti_6, .inl rfl, .inl (sg_mem (i := 645) (by decide +kernel) rfl)⟩
theorem fk_RX5_19 : sg_FL1 RX5 19 6 3 := ⟨RX5, TX5, 4, "SplitGate$Rule", rfl, by decide, ti_6, .inl rfl, (sg_mem (i := 645) (by decide +kernel) rfl)⟩
theorem fp_6_3 : sg_FP 6 3 true .int := ⟨RX5, TX5, 4, rfl, rfl, by decide +kernel, rfl⟩
theorem oi_RX6_1 : Cond.methodLink RX6 1 Lib.objectInit ∈ sg_T := sg_mem (i := 598) (by decide +kernel) rfl
theorem ti_7 : ∀ w ∈ u_ws RX6 TX6 7, w ∈ sg_T := List.forall_mem_cons.mpr ⟨sg_mem (i := 612) (by decide +kernel) rfl, List.forall_mem_cons.mpr ⟨sg_mem (i := 614) (by decide +kernel) rfl, List.forall_mem_cons.mpr ⟨sg_mem (i := 616) (by decide +kernel) rfl, List.forall_mem_cons.mpr ⟨sg_mem (i := 618) (by decide +kernel) rfl, List.forall_mem_cons.mpr ⟨sg_mem (i := 620) (by decide +kernel) rfl, List.forall_mem_cons.mpr ⟨sg_mem (i := 622) (by decide +kernel) rfl, List.forall_mem_cons.mpr ⟨sg_mem (i := 624) (by decide +kernel) rfl, fun _ h => absurd h List.not_mem_nil⟩⟩⟩⟩⟩⟩⟩
theorem fl_RX6_7 : sg_FL RX6 7 7 0 := ⟨RX6, TX6, 7, "SplitGate$Run", rfl, by decide, ti_7, .inl rfl, .inl (sg_mem (i := 599) (by decide +kernel) rfl)⟩
theorem fk_RX6_7 : sg_FL1 RX6 7 7 0 := ⟨RX6, TX6, 7, "SplitGate$Run", rfl, by decide, ti_7, .inl rfl, (sg_mem (i := 599) (by decide +kernel) rfl)⟩
theorem ty_7 : sg_TY 7 := ⟨RX6, TX6, 7, tyX6, rfl, tyX6_ok, nmX6⟩
theorem fp_7_0 : sg_FP 7 0 true .int := ⟨RX6, TX6, 7, rfl, rfl, by decide +kernel, rfl⟩
theorem fl_RX6_13 : sg_FL RX6 13 7 1 := ⟨RX6, TX6, 7, "SplitGate$Run", rfl, by decide, ti_7, .inl rfl, .inl (sg_mem (i := 601) (by decide +kernel) rfl)⟩
theorem fk_RX6_13 : sg_FL1 RX6 13 7 1 := ⟨RX6, TX6, 7, "SplitGate$Run", rfl, by decide, ti_7, .inl rfl, (sg_mem (i := 601) (by decide +kernel) rfl)⟩
theorem fp_7_1 : sg_FP 7 1 true .int := ⟨RX6, TX6, 7, rfl, rfl, by decide +kernel, rfl⟩
theorem fl_RX6_16 : sg_FL RX6 16 7 2 := ⟨RX6, TX6, 7, "SplitGate$Run", rfl, by decide, ti_7, .inl rfl, .inl (sg_mem (i := 603) (by decide +kernel) rfl)⟩
theorem fk_RX6_16 : sg_FL1 RX6 16 7 2 := ⟨RX6, TX6, 7, "SplitGate$Run", rfl, by decide, ti_7, .inl rfl, (sg_mem (i := 603) (by decide +kernel) rfl)⟩
theorem fp_7_2 : sg_FP 7 2 true (.object "SplitGate$Replay") := ⟨RX6, TX6, 7, rfl, rfl, by decide +kernel, rfl⟩
theorem fl_RX6_20 : sg_FL RX6 20 7 3 := ⟨RX6, TX6, 7, "SplitGate$Run", rfl, by decide, ti_7, .inl rfl, .inl (sg_mem (i := 605) (by decide +kernel) rfl)⟩
theorem fk_RX6_20 : sg_FL1 RX6 20 7 3 := ⟨RX6, TX6, 7, "SplitGate$Run", rfl, by decide, ti_7, .inl rfl, (sg_mem (i := 605) (by decide +kernel) rfl)⟩
theorem fp_7_3 : sg_FP 7 3 true (.object "SplitGate$Category") := ⟨RX6, TX6, 7, rfl, rfl, by decide +kernel, rfl⟩
theorem fl_RX6_24 : sg_FL RX6 24 7 4 := ⟨RX6, TX6, 7, "SplitGate$Run", rfl, by decide, ti_7, .inl rfl, .inl (sg_mem (i := 607) (by decide +kernel) rfl)⟩
theorem fk_RX6_24 : sg_FL1 RX6 24 7 4 := ⟨RX6, TX6, 7, "SplitGate$Run", rfl, by decide, ti_7, .inl rfl, (sg_mem (i := 607) (by decide +kernel) rfl)⟩
theorem fp_7_4 : sg_FP 7 4 true .int := ⟨RX6, TX6, 7, rfl, rfl, by decide +kernel, rfl⟩
theorem ti_5 : ∀ w ∈ u_ws RX4 TX4 7, w ∈ sg_T := List.forall_mem_cons.mpr ⟨sg_mem (i := 385) (by decide +kernel) rfl, List.forall_mem_cons.mpr ⟨sg_mem (i := 387) (by decide +kernel) rfl, List.forall_mem_cons.mpr ⟨sg_mem (i := 389) (by decide +kernel) rfl, List.forall_mem_cons.mpr ⟨sg_mem (i := 391) (by decide +kernel) rfl, List.forall_mem_cons.mpr ⟨sg_mem (i := 393) (by decide +kernel) rfl, List.forall_mem_cons.mpr ⟨sg_mem (i := 395) (by decide +kernel) rfl, List.forall_mem_cons.mpr ⟨sg_mem (i := 397) (by decide +kernel) rfl, fun _ h => absurd h List.not_mem_nil⟩⟩⟩⟩⟩⟩⟩
theorem fl_RX6_27 : sg_FL RX6 27 5 3 := ⟨RX4, TX4, 7, "SplitGate$Replay", rfl, by decide, ti_5, .inl rfl, .inr ⟨"SplitGate", sg_memN (i := 379) (by decide +kernel) rfl⟩⟩
theorem fl_RX6_33 : sg_FL RX6 33 2 10 := ⟨RX1, TX1, 12, "SplitGate$Hero", rfl, by decide, ti_2, .inl rfl, .inr ⟨"SplitGate", sg_memN (i := 104) (by decide +kernel) rfl⟩⟩
theorem fl_RX6_38 : sg_FL RX6 38 7 5 := ⟨RX6, TX6, 7, "SplitGate$Run", rfl, by decide, ti_7, .inl rfl, .inl (sg_mem (i := 609) (by decide +kernel) rfl)⟩
theorem fk_RX6_38 : sg_FL1 RX6 38 7 5 := ⟨RX6, TX6, 7, "SplitGate$Run", rfl, by decide, ti_7, .inl rfl, (sg_mem (i := 609) (by decide +kernel) rfl)⟩
theorem fp_7_5 : sg_FP 7 5 true .int := ⟨RX6, TX6, 7, rfl, rfl, by decide +kernel, rfl⟩
theorem oi_RX2_3 : Cond.methodLink RX2 3 Lib.objectInit ∈ sg_T := sg_mem (i := 245) (by decide +kernel) rfl
theorem ac_boolean : Cond.arrayClass .boolean ∈ sg_T := sg_mem (i := 256) (by decide +kernel) rfl
theorem fk_RX2_9 : sg_FL1 RX2 9 3 0 := ⟨RX2, TX2, 3, "SplitGate$Level", rfl, by decide, ti_3, .inl rfl, (sg_mem (i := 246) (by decide +kernel) rfl)⟩
theorem ty_3 : sg_TY 3 := ⟨RX2, TX2, 3, tyX2, rfl, tyX2_ok, nmX2⟩
theorem fp_3_0 : sg_FP 3 0 true (.array .boolean) := ⟨RX2, TX2, 3, rfl, rfl, by decide +kernel, rfl⟩
theorem ac_int : Cond.arrayClass .int ∈ sg_T := sg_mem (i := 163) (by decide +kernel) rfl
theorem fk_RX2_15 : sg_FL1 RX2 15 3 1 := ⟨RX2, TX2, 3, "SplitGate$Level", rfl, by decide, ti_3, .inl rfl, (sg_mem (i := 247) (by decide +kernel) rfl)⟩
theorem fp_3_1 : sg_FP 3 1 true (.array .int) := ⟨RX2, TX2, 3, rfl, rfl, by decide +kernel, rfl⟩
theorem fk_RX2_19 : sg_FL1 RX2 19 3 2 := ⟨RX2, TX2, 3, "SplitGate$Level", rfl, by decide, ti_3, .inl rfl, (sg_mem (i := 248) (by decide +kernel) rfl)⟩
theorem fp_3_2 : sg_FP 3 2 true (.array .int) := ⟨RX2, TX2, 3, rfl, rfl, by decide +kernel, rfl⟩
theorem oi_RX0_1 : Cond.methodLink RX0 1 Lib.objectInit ∈ sg_T := sg_mem (i := 419) (by decide +kernel) rfl
theorem nw_RX0_7 : sg_NW RX0 7 0 3 [.int 0, .null, .int 0] := ⟨RJx4a65c, TJx4a65c, tyJx4a65c, rfl, ti_0, tyJx4a65c_ok, (fun j hj => match j, hj with | 0, _ => rfl | 1, _ => rfl | 2, _ => rfl | n + 3, h => absurd h (by omega)), sg_mem (i := 420) (by decide +kernel) rfl, sg_mem (i := 58) (by decide +kernel) rfl, sg_mem (i := 29) (by decide +kernel) rfl⟩
theorem md_Jx4a65c_init_da8c8 : sg_MD yJx4a65c_init_da8c8 cJx4a65c_init_da8c8 1 none 0 := ⟨sg_mem (i := 61) (by decide +kernel) rfl, sg_mem (i := 29) (by decide +kernel) rfl, ⟨by decide, by decide⟩, by decide +kernel⟩
theorem ml_RX0_9 : sg_ML RX0 9 yJx4a65c_init_da8c8 := .inl (sg_mem (i := 421) (by decide +kernel) rfl)
theorem im_Jx4a65c_init_da8c8 : Cond.instanceMethod yJx4a65c_init_da8c8 ∈ sg_T := sg_mem (i := 60) (by decide +kernel) rfl
theorem ti_1 : ∀ w ∈ u_ws RX0 TX0 2, w ∈ sg_T := List.forall_mem_cons.mpr ⟨sg_mem (i := 426) (by decide +kernel) rfl, List.forall_mem_cons.mpr ⟨sg_mem (i := 428) (by decide +kernel) rfl, fun _ h => absurd h List.not_mem_nil⟩⟩
theorem fl_RX0_10 : sg_FL RX0 10 1 1 := ⟨RX0, TX0, 2, "SplitGate$Category", rfl, by decide, ti_1, .inl rfl, .inl (sg_mem (i := 424) (by decide +kernel) rfl)⟩
theorem fk_RX0_10 : sg_FL1 RX0 10 1 1 := ⟨RX0, TX0, 2, "SplitGate$Category", rfl, by decide, ti_1, .inl rfl, (sg_mem (i := 424) (by decide +kernel) rfl)⟩
theorem ty_1 : sg_TY 1 := ⟨RX0, TX0, 2, tyX0, rfl, tyX0_ok, nmX0⟩
theorem fp_1_1 : sg_FP 1 1 true (.object "java/util/ArrayList") := ⟨RX0, TX0, 2, rfl, rfl, by decide +kernel, rfl⟩
theorem fl_RX0_16 : sg_FL RX0 16 1 0 := ⟨RX0, TX0, 2, "SplitGate$Category", rfl, by decide, ti_1, .inl rfl, .inl (sg_mem (i := 422) (by decide +kernel) rfl)⟩
theorem fk_RX0_16 : sg_FL1 RX0 16 1 0 := ⟨RX0, TX0, 2, "SplitGate$Category", rfl, by decide, ti_1, .inl rfl, (sg_mem (i := 422) (by decide +kernel) rfl)⟩
theorem fp_1_0 : sg_FP 1 0 true (.object "SplitGate$Level") := ⟨RX0, TX0, 2, rfl, rfl, by decide +kernel, rfl⟩
theorem oi_RX4_3 : Cond.methodLink RX4 3 Lib.objectInit ∈ sg_T := sg_mem (i := 363) (by decide +kernel) rfl
theorem fl_RX4_9 : sg_FL RX4 9 5 1 := ⟨RX4, TX4, 7, "SplitGate$Replay", rfl, by decide, ti_5, .inl rfl, .inl (sg_mem (i := 376) (by decide +kernel) rfl)⟩
theorem fk_RX4_9 : sg_FL1 RX4 9 5 1 := ⟨RX4, TX4, 7, "SplitGate$Replay", rfl, by decide, ti_5, .inl rfl, (sg_mem (i := 376) (by decide +kernel) rfl)⟩
theorem ty_5 : sg_TY 5 := ⟨RX4, TX4, 7, tyX4, rfl, tyX4_ok, nmX4⟩
theorem fp_5_1 : sg_FP 5 1 true (.array .int) := ⟨RX4, TX4, 7, rfl, rfl, by decide +kernel, rfl⟩
theorem fl_RX4_15 : sg_FL RX4 15 5 2 := ⟨RX4, TX4, 7, "SplitGate$Replay", rfl, by decide, ti_5, .inl rfl, .inl (sg_mem (i := 377) (by decide +kernel) rfl)⟩
theorem fk_RX4_15 : sg_FL1 RX4 15 5 2 := ⟨RX4, TX4, 7, "SplitGate$Replay", rfl, by decide, ti_5, .inl rfl, (sg_mem (i := 377) (by decide +kernel) rfl)⟩
theorem fp_5_2 : sg_FP 5 2 true (.array .int) := ⟨RX4, TX4, 7, rfl, rfl, by decide +kernel, rfl⟩
theorem nw_RX4_18 : sg_NW RX4 18 2 12 [.int 0, .int 0, .int 0, .int 0, .int 0, .int 0, .int 0, .int 0, .int 0, .int 0, .int 0, .int 0] := ⟨RX1, TX1, tyX1, rfl, ti_2, tyX1_ok, (fun j hj => match j, hj with | 0, _ => rfl | 1, _ => rfl | 2, _ => rfl | 3, _ => rfl | 4, _ => rfl | 5, _ => rfl | 6, _ => rfl | 7, _ => rfl | 8, _ => rfl | 9, _ => rfl | 10, _ => rfl | 11, _ => rfl | n + 12, h => absurd h (by omega)), sg_mem (i := 364) (by decide +kernel) rfl, sg_mem (i := 84) (by decide +kernel) rfl, sg_mem (i := 30) (by decide +kernel) rfl⟩
theorem md_X1_init : sg_MD yX1_init cX1_init 1 none 0 := ⟨sg_mem (i := 87) (by decide +kernel) rfl, sg_mem (i := 30) (by decide +kernel) rfl, ⟨by decide, by decide⟩, by decide +kernel⟩
theorem ml_RX4_20 : sg_ML RX4 20 yX1_init := .inr ⟨"SplitGate", sg_memN (i := 365) (by decide +kernel) rfl⟩
theorem im_X1_init : Cond.instanceMethod yX1_init ∈ sg_T := sg_mem (i := 86) (by decide +kernel) rfl
theorem fl_RX4_21 : sg_FL RX4 21 5 3 := ⟨RX4, TX4, 7, "SplitGate$Replay", rfl, by decide, ti_5, .inl rfl, .inl (sg_mem (i := 378) (by decide +kernel) rfl)⟩
theorem fk_RX4_21 : sg_FL1 RX4 21 5 3 := ⟨RX4, TX4, 7, "SplitGate$Replay", rfl, by decide, ti_5, .inl rfl, (sg_mem (i := 378) (by decide +kernel) rfl)⟩
theorem fp_5_3 : sg_FP 5 3 true (.object "SplitGate$Hero") := ⟨RX4, TX4, 7, rfl, rfl, by decide +kernel, rfl⟩
theorem fl_RX4_25 : sg_FL RX4 25 5 0 := ⟨RX4, TX4, 7, "SplitGate$Replay", rfl, by decide, ti_5, .inl rfl, .inl (sg_mem (i := 374) (by decide +kernel) rfl)⟩
theorem fk_RX4_25 : sg_FL1 RX4 25 5 0 := ⟨RX4, TX4, 7, "SplitGate$Replay", rfl, by decide, ti_5, .inl rfl, (sg_mem (i := 374) (by decide +kernel) rfl)⟩
theorem fp_5_0 : sg_FP 5 0 true (.object "SplitGate$Level") := ⟨RX4, TX4, 7, rfl, rfl, by decide +kernel, rfl⟩
theorem md_X1_start : sg_MD yX1_start cX1_start 2 none 1 := ⟨sg_mem (i := 369) (by decide +kernel) rfl, sg_mem (i := 30) (by decide +kernel) rfl, ⟨by decide, by decide⟩, by decide +kernel⟩
theorem ml_RX4_29 : sg_ML RX4 29 yX1_start := .inl (sg_mem (i := 366) (by decide +kernel) rfl)
theorem im_X1_start : Cond.instanceMethod yX1_start ∈ sg_T := sg_mem (i := 367) (by decide +kernel) rfl
theorem sl_X1_start : Cond.selects yX1_start.cls yX1_start yX1_start ∈ sg_T := sg_mem (i := 368) (by decide +kernel) rfl
set_option maxHeartbeats 4000000 in
set_option maxRecDepth 100000 in
theorem c_Jx4a65c_init_da8c8 (l : Launch) (g : sg_G) (C : Nat → Option va_E) (a : Nat) (hC_a : C a = some (.inr (0, [.int 0, .null, .int 0]))) : sg_Met l yJx4a65c_init_da8c8 cJx4a65c_init_da8c8 1 none 3 52 0 0 g [.ref a] C (fun v C' => v = none ∧ C' = sg_ov C [(a, .inr (0, [.int 0, .ref (g.2.2.2 0), .int 0]))]) sg_no := by
  refine sg_ofW (by decide) rfl ?_ (Nat.le_of_ble_eq_true rfl)
  intro p e s m below meth c hc hlk hrt hin2 ht
  have hc : sg_Cx p s m _ c cJx4a65c_init_da8c8 1 RJx4a65c g := hc
  show sg_W p l e _ s m _ below meth c 1 g 0 0 _ C 0 [(0, .ref a)] []
  have hN : sg_nd [a] := ⟨List.not_mem_nil, trivial⟩
  refine sw_eq (C' := sg_ov C [(a, .inr (0, [.int 0, .null, .int 0]))]) (sg_ov_self2 (List.forall_mem_cons.mpr ⟨hC_a, fun _ h => absurd h List.not_mem_nil⟩)).symm ?_
  refine sw_aload_n (pc := 0) hc dJx4a65c_init_da8c8_0 rfl 0 rfl ?_
  refine sw_callI (pc := 1) (rest := []) hc (c_Jxc12de_init_da8c8 l g (sg_ov C [(a, .inr (0, [.int 0, .null, .int 0]))]) a (sg_ov_at hN (k := 0) rfl)) md_Jxc12de_init_da8c8 ml_RJx4a65c_1 im_Jxc12de_init_da8c8 rfl rfl rfl (Nat.le_of_ble_eq_true rfl) dJx4a65c_init_da8c8_1 ⟨Nat.le_of_ble_eq_true rfl, Nat.le_of_ble_eq_true rfl, Nat.le_of_ble_eq_true rfl, Nat.le_of_ble_eq_true rfl⟩ (fun v C' hP => ?_) (fun _ _ h => h.elim)
  obtain ⟨rfl, rfl⟩ := hP
  refine sw_eq (C' := sg_ov C [(a, .inr (0, [.int 0, .null, .int 0]))]) (sg_ov_set (l := [(a, .inr (0, [.int 0, .null, .int 0]))]) hN (k := 0) rfl) ?_
  refine sw_aload_n (pc := 4) hc dJx4a65c_init_da8c8_4 rfl 0 rfl ?_
  refine sw_gete (pc := 5) hc ge_RJx4a65c dJx4a65c_init_da8c8_5 ?_
  refine sw_putO (pc := 8) (k := 1) (fs' := [.int 0, .ref (g.2.2.2 0), .int 0]) (L := [(a, .inr (0, [.int 0, .null, .int 0]))]) (l' := [(a, .inr (0, [.int 0, .ref (g.2.2.2 0), .int 0]))]) hc fl_RJx4a65c_9 ty_0 fp_0_1 hN (q0 := 0) rfl rfl rfl (Nat.le_of_ble_eq_true rfl) rfl rfl dJx4a65c_init_da8c8_8 ?_
  exact sw_vret (pc := 11) hc hlk hrt ⟨rfl, rfl⟩ (Nat.le_of_ble_eq_true rfl) (Nat.le_of_ble_eq_true rfl) dJx4a65c_init_da8c8_11

set_option maxHeartbeats 4000000 in
set_option maxRecDepth 100000 in
theorem c_X1_init (l : Launch) (g : sg_G) (C : Nat → Option va_E) (h : Nat) : sg_Met l yX1_init cX1_init 1 none 1 12 0 0 g [.ref h] C (fun v C' => v = none ∧ C' = C) sg_no := by
  refine sg_ofW (by decide) rfl ?_ (Nat.le_of_ble_eq_true rfl)
  intro p e s m below meth c hc hlk hrt hin2 ht
  have hc : sg_Cx p s m _ c cX1_init 1 RX1 g := hc
  show sg_W p l e _ s m _ below meth c 1 g 0 0 _ C 0 [(0, .ref h)] []
  refine sw_aload_n (pc := 0) hc dX1_init_0 rfl 0 rfl ?_
  refine sw_objInit (pc := 1) hc oi_RX1_5 oi_i oi_c dX1_init_1 ⟨Nat.le_of_ble_eq_true rfl, Nat.le_of_ble_eq_true rfl⟩ ?_
  exact sw_vret (pc := 4) hc hlk hrt ⟨rfl, rfl⟩ (Nat.le_of_ble_eq_true rfl) (Nat.le_of_ble_eq_true rfl) dX1_init_4

set_option maxHeartbeats 4000000 in
set_option maxRecDepth 100000 in
theorem c_X3_init (l : Launch) (g : sg_G) (C : Nat → Option va_E) (a : Nat) (k : Nat) (y : Int32) (hC_a : C a = some (.inr (4, [.null, .int 0, .int 0]))) : sg_Met l yX3_init cX3_init 3 none 1 12 0 0 g [.ref a, .ref k, .int y] C (fun v C' => v = none ∧ C' = sg_ov C [(a, .inr (4, [.ref k, .int y, .int 0]))]) sg_no := by
  refine sg_ofW (by decide) rfl ?_ (Nat.le_of_ble_eq_true rfl)
  intro p e s m below meth c hc hlk hrt hin2 ht
  have hc : sg_Cx p s m _ c cX3_init 3 RX3 g := hc
  show sg_W p l e _ s m _ below meth c 3 g 0 0 _ C 0 [(0, .ref a), (1, .ref k), (2, .int y)] []
  have hN : sg_nd [a] := ⟨List.not_mem_nil, trivial⟩
  refine sw_eq (C' := sg_ov C [(a, .inr (4, [.null, .int 0, .int 0]))]) (sg_ov_self2 (List.forall_mem_cons.mpr ⟨hC_a, fun _ h => absurd h List.not_mem_nil⟩)).symm ?_
  refine sw_aload_n (pc := 0) hc dX3_init_0 rfl 0 rfl ?_
  refine sw_objInit (pc := 1) hc oi_RX3_1 oi_i oi_c dX3_init_1 ⟨Nat.le_of_ble_eq_true rfl, Nat.le_of_ble_eq_true rfl⟩ ?_
  refine sw_aload_n (pc := 4) hc dX3_init_4 rfl 0 rfl ?_
  refine sw_aload_n (pc := 5) hc dX3_init_5 rfl 1 rfl ?_
  refine sw_putF0 (pc := 6) (k := 0) (fs' := [.ref k, .int 0, .int 0]) (L := [(a, .inr (4, [.null, .int 0, .int 0]))]) (l' := [(a, .inr (4, [.ref k, .int 0, .int 0]))]) hc hin2 fk_RX3_7 ty_4 fp_4_0 ⟨_, _, rfl⟩ hN (q0 := 0) rfl rfl rfl (Nat.le_of_ble_eq_true rfl) rfl rfl dX3_init_6 ?_
  refine sw_aload_n (pc := 9) hc dX3_init_9 rfl 0 rfl ?_
  refine sw_iload_n (pc := 10) hc dX3_init_10 rfl 2 rfl ?_
  refine sw_putF0 (pc := 11) (k := 1) (fs' := [.ref k, .int y, .int 0]) (L := [(a, .inr (4, [.ref k, .int 0, .int 0]))]) (l' := [(a, .inr (4, [.ref k, .int y, .int 0]))]) hc hin2 fk_RX3_13 ty_4 fp_4_1 ⟨_, _, rfl⟩ hN (q0 := 0) rfl rfl rfl (Nat.le_of_ble_eq_true rfl) rfl rfl dX3_init_11 ?_
  exact sw_vret (pc := 14) hc hlk hrt ⟨rfl, rfl⟩ (Nat.le_of_ble_eq_true rfl) (Nat.le_of_ble_eq_true rfl) dX3_init_14

set_option maxHeartbeats 4000000 in
set_option maxRecDepth 100000 in
theorem c_X5_init (l : Launch) (g : sg_G) (C : Nat → Option va_E) (a : Nat) (x1 : Int32) (x2 : Int32) (x3 : Int32) (x4 : Int32) (hC_a : C a = some (.inr (6, [.int 0, .int 0, .int 0, .int 0]))) : sg_Met l yX5_init cX5_init 5 none 1 12 0 0 g [.ref a, .int x1, .int x2, .int x3, .int x4] C (fun v C' => v = none ∧ C' = sg_ov C [(a, .inr (6, [.int x1, .int x2, .int x3, .int x4]))]) sg_no := by
  refine sg_ofW (by decide) rfl ?_ (Nat.le_of_ble_eq_true rfl)
  intro p e s m below meth c hc hlk hrt hin2 ht
  have hc : sg_Cx p s m _ c cX5_init 5 RX5 g := hc
  show sg_W p l e _ s m _ below meth c 5 g 0 0 _ C 0 [(0, .ref a), (1, .int x1), (2, .int x2), (3, .int x3), (4, .int x4)] []
  have hN : sg_nd [a] := ⟨List.not_mem_nil, trivial⟩
  refine sw_eq (C' := sg_ov C [(a, .inr (6, [.int 0, .int 0, .int 0, .int 0]))]) (sg_ov_self2 (List.forall_mem_cons.mpr ⟨hC_a, fun _ h => absurd h List.not_mem_nil⟩)).symm ?_
  refine sw_aload_n (pc := 0) hc dX5_init_0 rfl 0 rfl ?_
  refine sw_objInit (pc := 1) hc oi_RX5_1 oi_i oi_c dX5_init_1 ⟨Nat.le_of_ble_eq_true rfl, Nat.le_of_ble_eq_true rfl⟩ ?_
  refine sw_aload_n (pc := 4) hc dX5_init_4 rfl 0 rfl ?_
  refine sw_iload_n (pc := 5) hc dX5_init_5 rfl 1 rfl ?_
  refine sw_putF0 (pc := 6) (k := 0) (fs' := [.int x1, .int 0, .int 0, .int 0]) (L := [(a, .inr (6, [.int 0, .int 0, .int 0, .int 0]))]) (l' := [(a, .inr (6, [.int x1, .int 0, .int 0, .int 0]))]) hc hin2 fk_RX5_7 ty_6 fp_6_0 ⟨_, _, rfl⟩ hN (q0 := 0) rfl rfl rfl (Nat.le_of_ble_eq_true rfl) rfl rfl dX5_init_6 ?_
  refine sw_aload_n (pc := 9) hc dX5_init_9 rfl 0 rfl ?_
  refine sw_iload_n (pc := 10) hc dX5_init_10 rfl 2 rfl ?_
  refine sw_putF0 (pc := 11) (k := 1) (fs' := [.int x1, .int x2, .int 0, .int 0]) (L := [(a, .inr (6, [.int x1, .int 0, .int 0, .int 0]))]) (l' := [(a, .inr (6, [.int x1, .int x2, .int 0, .int 0]))]) hc hin2 fk_RX5_13 ty_6 fp_6_1 ⟨_, _, rfl⟩ hN (q0 := 0) rfl rfl rfl (Nat.le_of_ble_eq_true rfl) rfl rfl dX5_init_11 ?_
  refine sw_aload_n (pc := 14) hc dX5_init_14 rfl 0 rfl ?_
  refine sw_iload_n (pc := 15) hc dX5_init_15 rfl 3 rfl ?_
  refine sw_putF0 (pc := 16) (k := 2) (fs' := [.int x1, .int x2, .int x3, .int 0]) (L := [(a, .inr (6, [.int x1, .int x2, .int 0, .int 0]))]) (l' := [(a, .inr (6, [.int x1, .int x2, .int x3, .int 0]))]) hc hin2 fk_RX5_16 ty_6 fp_6_2 ⟨_, _, rfl⟩ hN (q0 := 0) rfl rfl rfl (Nat.le_of_ble_eq_true rfl) rfl rfl dX5_init_16 ?_
  refine sw_aload_n (pc := 19) hc dX5_init_19 rfl 0 rfl ?_
  refine sw_iload (pc := 20) hc dX5_init_20 4 rfl ?_
  refine sw_putF0 (pc := 22) (k := 3) (fs' := [.int x1, .int x2, .int x3, .int x4]) (L := [(a, .inr (6, [.int x1, .int x2, .int x3, .int 0]))]) (l' := [(a, .inr (6, [.int x1, .int x2, .int x3, .int x4]))]) hc hin2 fk_RX5_19 ty_6 fp_6_3 ⟨_, _, rfl⟩ hN (q0 := 0) rfl rfl rfl (Nat.le_of_ble_eq_true rfl) rfl rfl dX5_init_22 ?_
  exact sw_vret (pc := 25) hc hlk hrt ⟨rfl, rfl⟩ (Nat.le_of_ble_eq_true rfl) (Nat.le_of_ble_eq_true rfl) dX5_init_25

set_option maxHeartbeats 4000000 in
set_option maxRecDepth 100000 in
theorem c_X6_init (l : Launch) (g : sg_G) (C : Nat → Option va_E) (a : Nat) (x1 : Int32) (x2 : Int32) (r : Nat) (k : Nat) (x5 : Int32) (r0 : Nat) (r1 : Nat) (r2 : Nat) (h : Nat) (y4 : Int32) (y5 : Int32) (y6 : Int32) (hs : Nat → Int32) (hC_a : C a = some (.inr (7, [.int 0, .int 0, .null, .null, .int 0, .int 0, .int 0]))) (hC_r : C r = some (.inr (5, [.ref r0, .ref r1, .ref r2, .ref h, .int y4, .int y5, .int y6]))) (hC_h : C h = some (.inr (2, hfs hs))) : sg_Met l yX6_init cX6_init 6 none 1 12 0 0 g [.ref a, .int x1, .int x2, .ref r, .ref k, .int x5] C (fun v C' => v = none ∧ C' = sg_ov C [(a, .inr (7, [.int x1, .int x2, .ref r, .ref k, .int x5, .int (hs 10), .int 0]))]) sg_no := by
  refine sg_ofW (by decide) rfl ?_ (Nat.le_of_ble_eq_true rfl)
  intro p e s m below meth c hc hlk hrt hin2 ht
  have hc : sg_Cx p s m _ c cX6_init 6 RX6 g := hc
  show sg_W p l e _ s m _ below meth c 6 g 0 0 _ C 0 [(0, .ref a), (1, .int x1), (2, .int x2), (3, .ref r), (4, .ref k), (5, .int x5)] []
  have hN : sg_nd [a] := ⟨List.not_mem_nil, trivial⟩
  have hO_r : r ∉ [a] := sg_nin (sg_ne hC_r hC_a (Nat.ne_of_beq_eq_false rfl)) (List.not_mem_nil)
  have hO_h : h ∉ [a] := sg_nin (sg_ne hC_h hC_a (Nat.ne_of_beq_eq_false rfl)) (List.not_mem_nil)
  refine sw_eq (C' := sg_ov C [(a, .inr (7, [.int 0, .int 0, .null, .null, .int 0, .int 0, .int 0]))]) (sg_ov_self2 (List.forall_mem_cons.mpr ⟨hC_a, fun _ h => absurd h List.not_mem_nil⟩)).symm ?_
  refine sw_aload_n (pc := 0) hc dX6_init_0 rfl 0 rfl ?_
  refine sw_objInit (pc := 1) hc oi_RX6_1 oi_i oi_c dX6_init_1 ⟨Nat.le_of_ble_eq_true rfl, Nat.le_of_ble_eq_true rfl⟩ ?_
  refine sw_aload_n (pc := 4) hc dX6_init_4 rfl 0 rfl ?_
  refine sw_iload_n (pc := 5) hc dX6_init_5 rfl 1 rfl ?_
  refine sw_putF0 (pc := 6) (k := 0) (fs' := [.int x1, .int 0, .null, .null, .int 0, .int 0, .int 0]) (L := [(a, .inr (7, [.int 0, .int 0, .null, .null, .int 0, .int 0, .int 0]))]) (l' := [(a, .inr (7, [.int x1, .int 0, .null, .null, .int 0, .int 0, .int 0]))]) hc hin2 fk_RX6_7 ty_7 fp_7_0 ⟨_, _, rfl⟩ hN (q0 := 0) rfl rfl rfl (Nat.le_of_ble_eq_true rfl) rfl rfl dX6_init_6 ?_
  refine sw_aload_n (pc := 9) hc dX6_init_9 rfl 0 rfl ?_
  refine sw_iload_n (pc := 10) hc dX6_init_10 rfl 2 rfl ?_
  refine sw_putF0 (pc := 11) (k := 1) (fs' := [.int x1, .int x2, .null, .null, .int 0, .int 0, .int 0]) (L := [(a, .inr (7, [.int x1, .int 0, .null, .null, .int 0, .int 0, .int 0]))]) (l' := [(a, .inr (7, [.int x1, .int x2, .null, .null, .int 0, .int 0, .int 0]))]) hc hin2 fk_RX6_13 ty_7 fp_7_1 ⟨_, _, rfl⟩ hN (q0 := 0) rfl rfl rfl (Nat.le_of_ble_eq_true rfl) rfl rfl dX6_init_11 ?_
  refine sw_aload_n (pc := 14) hc dX6_init_14 rfl 0 rfl ?_
  refine sw_aload_n (pc := 15) hc dX6_init_15 rfl 3 rfl ?_
  refine sw_putF0 (pc := 16) (k := 2) (fs' := [.int x1, .int x2, .ref r, .null, .int 0, .int 0, .int 0]) (L := [(a, .inr (7, [.int x1, .int x2, .null, .null, .int 0, .int 0, .int 0]))]) (l' := [(a, .inr (7, [.int x1, .int x2, .ref r, .null, .int 0, .int 0, .int 0]))]) hc hin2 fk_RX6_16 ty_7 fp_7_2 ⟨_, _, rfl⟩ hN (q0 := 0) rfl rfl rfl (Nat.le_of_ble_eq_true rfl) rfl rfl dX6_init_16 ?_
  refine sw_aload_n (pc := 19) hc dX6_init_19 rfl 0 rfl ?_
  refine sw_aload (pc := 20) hc dX6_init_20 4 rfl ?_
  refine sw_putF0 (pc := 22) (k := 3) (fs' := [.int x1, .int x2, .ref r, .ref k, .int 0, .int 0, .int 0]) (L := [(a, .inr (7, [.int x1, .int x2, .ref r, .null, .int 0, .int 0, .int 0]))]) (l' := [(a, .inr (7, [.int x1, .int x2, .ref r, .ref k, .int 0, .int 0, .int 0]))]) hc hin2 fk_RX6_20 ty_7 fp_7_3 ⟨_, _, rfl⟩ hN (q0 := 0) rfl rfl rfl (Nat.le_of_ble_eq_true rfl) rfl rfl dX6_init_22 ?_
  refine sw_aload_n (pc := 25) hc dX6_init_25 rfl 0 rfl ?_
  refine sw_iload (pc := 26) hc dX6_init_26 5 rfl ?_
  refine sw_putF0 (pc := 28) (k := 4) (fs' := [.int x1, .int x2, .ref r, .ref k, .int x5, .int 0, .int 0]) (L := [(a, .inr (7, [.int x1, .int x2, .ref r, .ref k, .int 0, .int 0, .int 0]))]) (l' := [(a, .inr (7, [.int x1, .int x2, .ref r, .ref k, .int x5, .int 0, .int 0]))]) hc hin2 fk_RX6_24 ty_7 fp_7_4 ⟨_, _, rfl⟩ hN (q0 := 0) rfl rfl rfl (Nat.le_of_ble_eq_true rfl) rfl rfl dX6_init_28 ?_
  refine sw_aload_n (pc := 31) hc dX6_init_31 rfl 0 rfl ?_
  refine sw_aload_n (pc := 32) hc dX6_init_32 rfl 3 rfl ?_
  refine sw_get (pc := 33) (v := .ref h) hc fl_RX6_27 ((sg_ov_out hO_r).trans hC_r) rfl dX6_init_33 ?_
  refine sw_get (pc := 36) (v := .int (hs 10)) hc fl_RX6_33 ((sg_ov_out hO_h).trans hC_h) rfl dX6_init_36 ?_
  refine sw_putF0 (pc := 39) (k := 5) (fs' := [.int x1, .int x2, .ref r, .ref k, .int x5, .int (hs 10), .int 0]) (L := [(a, .inr (7, [.int x1, .int x2, .ref r, .ref k, .int x5, .int 0, .int 0]))]) (l' := [(a, .inr (7, [.int x1, .int x2, .ref r, .ref k, .int x5, .int (hs 10), .int 0]))]) hc hin2 fk_RX6_38 ty_7 fp_7_5 ⟨_, _, rfl⟩ hN (q0 := 0) rfl rfl rfl (Nat.le_of_ble_eq_true rfl) rfl rfl dX6_init_39 ?_
  exact sw_vret (pc := 42) hc hlk hrt ⟨rfl, rfl⟩ (Nat.le_of_ble_eq_true rfl) (Nat.le_of_ble_eq_true rfl) dX6_init_42

set_option maxHeartbeats 4000000 in
set_option maxRecDepth 100000 in
theorem c_X2_init (l : Launch) (g : sg_G) (C : Nat → Option va_E) (a : Nat) (hC_a : C a = some (.inr (3, [.null, .null, .null]))) : sg_Met l yX2_init cX2_init 1 none 1 12 3 96 g [.ref a] C (fun v C' => v = none ∧ ∃ b1 b2 b3, C b1 = none ∧ C b2 = none ∧ C b3 = none ∧ sg_nd [b3, b2, b1, a] ∧ C' = sg_ov C [(b3, sg_ia g 32 (fun _ => 0)), (b2, sg_ia g 32 (fun _ => 0)), (b1, sg_za g 32 (fun _ => 0)), (a, .inr (3, [.ref b1, .ref b2, .ref b3]))]) (sg_no) := by
  refine sg_ofW (by decide) rfl ?_ (Nat.le_of_ble_eq_true rfl)
  intro p e s m below meth c hc hlk hrt hin2 htb
  have hc : sg_Cx p s m _ c cX2_init 1 RX2 g := hc
  show sg_W p l e _ s m _ below meth c 1 g 0 0 _ C 0 [(0, .ref a)] []
  have hN : sg_nd [a] := ⟨List.not_mem_nil, trivial⟩
  refine sw_eq (C' := sg_ov C [(a, .inr (3, [.null, .null, .null]))]) (sg_ov_self2 (List.forall_mem_cons.mpr ⟨hC_a, fun _ h => absurd h List.not_mem_nil⟩)).symm ?_
  refine sw_aload_n (pc := 0) hc dX2_init_0 rfl 0 rfl ?_
  refine sw_objInit (pc := 1) hc oi_RX2_3 oi_i oi_c dX2_init_1 ⟨Nat.le_of_ble_eq_true rfl, Nat.le_of_ble_eq_true rfl⟩ ?_
  refine sw_aload_n (pc := 4) hc dX2_init_4 rfl 0 rfl ?_
  refine sw_bipush (pc := 5) (v := 32) hc dX2_init_5 (by decide) ?_
  refine sw_newz (pc := 7) (n := 32) hc ac_boolean rfl (by omega) ⟨Nat.le_of_ble_eq_true rfl, Nat.le_of_ble_eq_true rfl⟩ dX2_init_7 (fun w1 hf_w1 => ?_)
  have fa_w1 : C w1 = none := (sg_fresh (C := C) (L := [(a, .inr (3, [.null, .null, .null]))]) hf_w1).2
  have hN : sg_nd [w1, a] := ⟨(sg_fresh (C := C) (L := [(a, .inr (3, [.null, .null, .null]))]) hf_w1).1, hN⟩
  refine sw_eq (C' := sg_ov C [(w1, sg_za g 32 (fun _ => 0)), (a, .inr (3, [.null, .null, .null]))]) rfl ?_
  refine sw_putF0 (pc := 9) (k := 0) (fs' := [.ref w1, .null, .null]) (L := [(w1, sg_za g 32 (fun _ => 0)), (a, .inr (3, [.null, .null, .null]))]) (l' := [(w1, sg_za g 32 (fun _ => 0)), (a, .inr (3, [.ref w1, .null, .null]))]) hc hin2 fk_RX2_9 ty_3 fp_3_0 ⟨_, _, rfl⟩ hN (q0 := 1) rfl rfl rfl (Nat.le_of_ble_eq_true rfl) rfl rfl dX2_init_9 ?_
  refine sw_aload_n (pc := 12) hc dX2_init_12 rfl 0 rfl ?_
  refine sw_bipush (pc := 13) (v := 32) hc dX2_init_13 (by decide) ?_
  refine sw_newi (pc := 15) (n := 32) hc ac_int rfl (by omega) ⟨Nat.le_of_ble_eq_true rfl, Nat.le_of_ble_eq_true rfl⟩ dX2_init_15 (fun w2 hf_w2 => ?_)
  have fa_w2 : C w2 = none := (sg_fresh (C := C) (L := [(w1, sg_za g 32 (fun _ => 0)), (a, .inr (3, [.ref w1, .null, .null]))]) hf_w2).2
  have hN : sg_nd [w2, w1, a] := ⟨(sg_fresh (C := C) (L := [(w1, sg_za g 32 (fun _ => 0)), (a, .inr (3, [.ref w1, .null, .null]))]) hf_w2).1, hN⟩
  refine sw_eq (C' := sg_ov C [(w2, sg_ia g 32 (fun _ => 0)), (w1, sg_za g 32 (fun _ => 0)), (a, .inr (3, [.ref w1, .null, .null]))]) rfl ?_
  refine sw_putF0 (pc := 17) (k := 1) (fs' := [.ref w1, .ref w2, .null]) (L := [(w2, sg_ia g 32 (fun _ => 0)), (w1, sg_za g 32 (fun _ => 0)), (a, .inr (3, [.ref w1, .null, .null]))]) (l' := [(w2, sg_ia g 32 (fun _ => 0)), (w1, sg_za g 32 (fun _ => 0)), (a, .inr (3, [.ref w1, .ref w2, .null]))]) hc hin2 fk_RX2_15 ty_3 fp_3_1 ⟨_, _, rfl⟩ hN (q0 := 2) rfl rfl rfl (Nat.le_of_ble_eq_true rfl) rfl rfl dX2_init_17 ?_
  refine sw_aload_n (pc := 20) hc dX2_init_20 rfl 0 rfl ?_
  refine sw_bipush (pc := 21) (v := 32) hc dX2_init_21 (by decide) ?_
  refine sw_newi (pc := 23) (n := 32) hc ac_int rfl (by omega) ⟨Nat.le_of_ble_eq_true rfl, Nat.le_of_ble_eq_true rfl⟩ dX2_init_23 (fun w3 hf_w3 => ?_)
  have fa_w3 : C w3 = none := (sg_fresh (C := C) (L := [(w2, sg_ia g 32 (fun _ => 0)), (w1, sg_za g 32 (fun _ => 0)), (a, .inr (3, [.ref w1, .ref w2, .null]))]) hf_w3).2
  have hN : sg_nd [w3, w2, w1, a] := ⟨(sg_fresh (C := C) (L := [(w2, sg_ia g 32 (fun _ => 0)), (w1, sg_za g 32 (fun _ => 0)), (a, .inr (3, [.ref w1, .ref w2, .null]))]) hf_w3).1, hN⟩
  refine sw_eq (C' := sg_ov C [(w3, sg_ia g 32 (fun _ => 0)), (w2, sg_ia g 32 (fun _ => 0)), (w1, sg_za g 32 (fun _ => 0)), (a, .inr (3, [.ref w1, .ref w2, .null]))]) rfl ?_
  refine sw_putF0 (pc := 25) (k := 2) (fs' := [.ref w1, .ref w2, .ref w3]) (L := [(w3, sg_ia g 32 (fun _ => 0)), (w2, sg_ia g 32 (fun _ => 0)), (w1, sg_za g 32 (fun _ => 0)), (a, .inr (3, [.ref w1, .ref w2, .null]))]) (l' := [(w3, sg_ia g 32 (fun _ => 0)), (w2, sg_ia g 32 (fun _ => 0)), (w1, sg_za g 32 (fun _ => 0)), (a, .inr (3, [.ref w1, .ref w2, .ref w3]))]) hc hin2 fk_RX2_19 ty_3 fp_3_2 ⟨_, _, rfl⟩ hN (q0 := 3) rfl rfl rfl (Nat.le_of_ble_eq_true rfl) rfl rfl dX2_init_25 ?_
  exact sw_vret (pc := 28) hc hlk hrt ⟨rfl, w1, w2, w3, fa_w1, fa_w2, fa_w3, hN, rfl⟩ (Nat.le_of_ble_eq_true rfl) (Nat.le_of_ble_eq_true rfl) dX2_init_28

set_option maxHeartbeats 4000000 in
set_option maxRecDepth 100000 in
theorem c_X0_init (l : Launch) (g : sg_G) (C : Nat → Option va_E) (a : Nat) (k : Nat) (hC_a : C a = some (.inr (1, [.null, .null]))) : sg_Met l yX0_init cX0_init 2 none 4 72 1 3 g [.ref a, .ref k] C (fun v C' => v = none ∧ ∃ b1, C b1 = none ∧ sg_nd [b1, a] ∧ C' = sg_ov C [(b1, .inr (0, [.int 0, .ref (g.2.2.2 0), .int 0])), (a, .inr (1, [.ref k, .ref b1]))]) (sg_no) := by
  refine sg_ofW (by decide) rfl ?_ (Nat.le_of_ble_eq_true rfl)
  intro p e s m below meth c hc hlk hrt hin2 htb
  have hc : sg_Cx p s m _ c cX0_init 2 RX0 g := hc
  show sg_W p l e _ s m _ below meth c 2 g 0 0 _ C 0 [(0, .ref a), (1, .ref k)] []
  have hN : sg_nd [a] := ⟨List.not_mem_nil, trivial⟩
  refine sw_eq (C' := sg_ov C [(a, .inr (1, [.null, .null]))]) (sg_ov_self2 (List.forall_mem_cons.mpr ⟨hC_a, fun _ h => absurd h List.not_mem_nil⟩)).symm ?_
  refine sw_aload_n (pc := 0) hc dX0_init_0 rfl 0 rfl ?_
  refine sw_objInit (pc := 1) hc oi_RX0_1 oi_i oi_c dX0_init_1 ⟨Nat.le_of_ble_eq_true rfl, Nat.le_of_ble_eq_true rfl⟩ ?_
  refine sw_aload_n (pc := 4) hc dX0_init_4 rfl 0 rfl ?_
  refine sw_new (pc := 5) hc nw_RX0_7 ⟨Nat.le_of_ble_eq_true rfl, Nat.le_of_ble_eq_true rfl⟩ dX0_init_5 (fun w1 hf_w1 => ?_)
  have fa_w1 : C w1 = none := (sg_fresh (C := C) (L := [(a, .inr (1, [.null, .null]))]) hf_w1).2
  have hN : sg_nd [w1, a] := ⟨(sg_fresh (C := C) (L := [(a, .inr (1, [.null, .null]))]) hf_w1).1, hN⟩
  refine sw_eq (C' := sg_ov C [(w1, .inr (0, [.int 0, .null, .int 0])), (a, .inr (1, [.null, .null]))]) rfl ?_
  refine sw_dup (pc := 8) hc dX0_init_8 rfl ?_
  refine sw_callI (pc := 9) (rest := [.ref w1, .ref a]) hc (c_Jx4a65c_init_da8c8 l g (sg_ov C [(w1, .inr (0, [.int 0, .null, .int 0])), (a, .inr (1, [.null, .null]))]) w1 (sg_ov_at hN (k := 0) rfl)) md_Jx4a65c_init_da8c8 ml_RX0_9 im_Jx4a65c_init_da8c8 rfl rfl rfl (Nat.le_of_ble_eq_true rfl) dX0_init_9 ⟨Nat.le_of_ble_eq_true rfl, Nat.le_of_ble_eq_true rfl, Nat.le_of_ble_eq_true rfl, Nat.le_of_ble_eq_true rfl⟩ (fun v C' hP => ?_) (fun _ _ h => h.elim)
  obtain ⟨rfl, rfl⟩ := hP
  refine sw_eq (C' := sg_ov C [(w1, .inr (0, [.int 0, .ref (g.2.2.2 0), .int 0])), (a, .inr (1, [.null, .null]))]) (sg_ov_set (l := [(w1, .inr (0, [.int 0, .null, .int 0])), (a, .inr (1, [.null, .null]))]) hN (k := 0) rfl) ?_
  refine sw_putF0 (pc := 12) (k := 1) (fs' := [.null, .ref w1]) (L := [(w1, .inr (0, [.int 0, .ref (g.2.2.2 0), .int 0])), (a, .inr (1, [.null, .null]))]) (l' := [(w1, .inr (0, [.int 0, .ref (g.2.2.2 0), .int 0])), (a, .inr (1, [.null, .ref w1]))]) hc hin2 fk_RX0_10 ty_1 fp_1_1 ⟨_, _, rfl⟩ hN (q0 := 1) rfl rfl rfl (Nat.le_of_ble_eq_true rfl) rfl rfl dX0_init_12 ?_
  refine sw_aload_n (pc := 15) hc dX0_init_15 rfl 0 rfl ?_
  refine sw_aload_n (pc := 16) hc dX0_init_16 rfl 1 rfl ?_
  refine sw_putF0 (pc := 17) (k := 0) (fs' := [.ref k, .ref w1]) (L := [(w1, .inr (0, [.int 0, .ref (g.2.2.2 0), .int 0])), (a, .inr (1, [.null, .ref w1]))]) (l' := [(w1, .inr (0, [.int 0, .ref (g.2.2.2 0), .int 0])), (a, .inr (1, [.ref k, .ref w1]))]) hc hin2 fk_RX0_16 ty_1 fp_1_0 ⟨_, _, rfl⟩ hN (q0 := 1) rfl rfl rfl (Nat.le_of_ble_eq_true rfl) rfl rfl dX0_init_17 ?_
  exact sw_vret (pc := 20) hc hlk hrt ⟨rfl, w1, fa_w1, hN, rfl⟩ (Nat.le_of_ble_eq_true rfl) (Nat.le_of_ble_eq_true rfl) dX0_init_20

set_option maxHeartbeats 4000000 in
set_option maxRecDepth 100000 in
theorem c_X4_init (l : Launch) (g : sg_G) (C : Nat → Option va_E) (a : Nat) (lv : Nat) (ag : Nat) (af : Nat) (ai : Nat) (fl : Nat → Int32) (hC_a : C a = some (.inr (5, [.null, .null, .null, .null, .int 0, .int 0, .int 0]))) (hC_lv : C lv = some (.inr (3, [.ref ag, .ref af, .ref ai]))) (hC_af : C af = some (sg_ia g 32 fl)) : sg_Met l yX4_init cX4_init 2 none 2 42 3 52 g [.ref a, .ref lv] C (fun v C' => v = none ∧ ∃ b1 b2 b3, C b1 = none ∧ C b2 = none ∧ C b3 = none ∧ sg_nd [b3, b2, b1, a] ∧ C' = sg_ov C [(b3, .inr (2, hfs (hStart fl hz))), (b2, sg_ia g 20 (fun _ => 0)), (b1, sg_ia g 20 (fun _ => 0)), (a, .inr (5, [.ref lv, .ref b1, .ref b2, .ref b3, .int 0, .int 0, .int 0]))]) (sg_no) := by
  refine sg_ofW (by decide) rfl ?_ (Nat.le_of_ble_eq_true rfl)
  intro p e s m below meth c hc hlk hrt hin2 htb
  have hc : sg_Cx p s m _ c cX4_init 2 RX4 g := hc
  show sg_W p l e _ s m _ below meth c 2 g 0 0 _ C 0 [(0, .ref a), (1, .ref lv)] []
  have hN : sg_nd [a] := ⟨List.not_mem_nil, trivial⟩
  refine sw_eq (C' := sg_ov C [(a, .inr (5, [.null, .null, .null, .null, .int 0, .int 0, .int 0]))]) (sg_ov_self2 (List.forall_mem_cons.mpr ⟨hC_a, fun _ h => absurd h List.not_mem_nil⟩)).symm ?_
  refine sw_aload_n (pc := 0) hc dX4_init_0 rfl 0 rfl ?_
  refine sw_objInit (pc := 1) hc oi_RX4_3 oi_i oi_c dX4_init_1 ⟨Nat.le_of_ble_eq_true rfl, Nat.le_of_ble_eq_true rfl⟩ ?_
  refine sw_aload_n (pc := 4) hc dX4_init_4 rfl 0 rfl ?_
  refine sw_bipush (pc := 5) (v := 20) hc dX4_init_5 (by decide) ?_
  refine sw_newi (pc := 7) (n := 20) hc ac_int rfl (by omega) ⟨Nat.le_of_ble_eq_true rfl, Nat.le_of_ble_eq_true rfl⟩ dX4_init_7 (fun w1 hf_w1 => ?_)
  have fa_w1 : C w1 = none := (sg_fresh (C := C) (L := [(a, .inr (5, [.null, .null, .null, .null, .int 0, .int 0, .int 0]))]) hf_w1).2
  have hN : sg_nd [w1, a] := ⟨(sg_fresh (C := C) (L := [(a, .inr (5, [.null, .null, .null, .null, .int 0, .int 0, .int 0]))]) hf_w1).1, hN⟩
  refine sw_eq (C' := sg_ov C [(w1, sg_ia g 20 (fun _ => 0)), (a, .inr (5, [.null, .null, .null, .null, .int 0, .int 0, .int 0]))]) rfl ?_
  refine sw_putF0 (pc := 9) (k := 1) (fs' := [.null, .ref w1, .null, .null, .int 0, .int 0, .int 0]) (L := [(w1, sg_ia g 20 (fun _ => 0)), (a, .inr (5, [.null, .null, .null, .null, .int 0, .int 0, .int 0]))]) (l' := [(w1, sg_ia g 20 (fun _ => 0)), (a, .inr (5, [.null, .ref w1, .null, .null, .int 0, .int 0, .int 0]))]) hc hin2 fk_RX4_9 ty_5 fp_5_1 ⟨_, _, rfl⟩ hN (q0 := 1) rfl rfl rfl (Nat.le_of_ble_eq_true rfl) rfl rfl dX4_init_9 ?_
  refine sw_aload_n (pc := 12) hc dX4_init_12 rfl 0 rfl ?_
  refine sw_bipush (pc := 13) (v := 20) hc dX4_init_13 (by decide) ?_
  refine sw_newi (pc := 15) (n := 20) hc ac_int rfl (by omega) ⟨Nat.le_of_ble_eq_true rfl, Nat.le_of_ble_eq_true rfl⟩ dX4_init_15 (fun w2 hf_w2 => ?_)
  have fa_w2 : C w2 = none := (sg_fresh (C := C) (L := [(w1, sg_ia g 20 (fun _ => 0)), (a, .inr (5, [.null, .ref w1, .null, .null, .int 0, .int 0, .int 0]))]) hf_w2).2
  have hN : sg_nd [w2, w1, a] := ⟨(sg_fresh (C := C) (L := [(w1, sg_ia g 20 (fun _ => 0)), (a, .inr (5, [.null, .ref w1, .null, .null, .int 0, .int 0, .int 0]))]) hf_w2).1, hN⟩
  refine sw_eq (C' := sg_ov C [(w2, sg_ia g 20 (fun _ => 0)), (w1, sg_ia g 20 (fun _ => 0)), (a, .inr (5, [.null, .ref w1, .null, .null, .int 0, .int 0, .int 0]))]) rfl ?_
  refine sw_putF0 (pc := 17) (k := 2) (fs' := [.null, .ref w1, .ref w2, .null, .int 0, .int 0, .int 0]) (L := [(w2, sg_ia g 20 (fun _ => 0)), (w1, sg_ia g 20 (fun _ => 0)), (a, .inr (5, [.null, .ref w1, .null, .null, .int 0, .int 0, .int 0]))]) (l' := [(w2, sg_ia g 20 (fun _ => 0)), (w1, sg_ia g 20 (fun _ => 0)), (a, .inr (5, [.null, .ref w1, .ref w2, .null, .int 0, .int 0, .int 0]))]) hc hin2 fk_RX4_15 ty_5 fp_5_2 ⟨_, _, rfl⟩ hN (q0 := 2) rfl rfl rfl (Nat.le_of_ble_eq_true rfl) rfl rfl dX4_init_17 ?_
  refine sw_aload_n (pc := 20) hc dX4_init_20 rfl 0 rfl ?_
  refine sw_new (pc := 21) hc nw_RX4_18 ⟨Nat.le_of_ble_eq_true rfl, Nat.le_of_ble_eq_true rfl⟩ dX4_init_21 (fun w3 hf_w3 => ?_)
  have fa_w3 : C w3 = none := (sg_fresh (C := C) (L := [(w2, sg_ia g 20 (fun _ => 0)), (w1, sg_ia g 20 (fun _ => 0)), (a, .inr (5, [.null, .ref w1, .ref w2, .null, .int 0, .int 0, .int 0]))]) hf_w3).2
  have hN : sg_nd [w3, w2, w1, a] := ⟨(sg_fresh (C := C) (L := [(w2, sg_ia g 20 (fun _ => 0)), (w1, sg_ia g 20 (fun _ => 0)), (a, .inr (5, [.null, .ref w1, .ref w2, .null, .int 0, .int 0, .int 0]))]) hf_w3).1, hN⟩
  refine sw_eq (C' := sg_ov C [(w3, .inr (2, hfs hz)), (w2, sg_ia g 20 (fun _ => 0)), (w1, sg_ia g 20 (fun _ => 0)), (a, .inr (5, [.null, .ref w1, .ref w2, .null, .int 0, .int 0, .int 0]))]) rfl ?_
  refine sw_dup (pc := 24) hc dX4_init_24 rfl ?_
  refine sw_callI (pc := 25) (rest := [.ref w3, .ref a]) hc (c_X1_init l g (sg_ov C [(w3, .inr (2, hfs hz)), (w2, sg_ia g 20 (fun _ => 0)), (w1, sg_ia g 20 (fun _ => 0)), (a, .inr (5, [.null, .ref w1, .ref w2, .null, .int 0, .int 0, .int 0]))]) w3 ) md_X1_init ml_RX4_20 im_X1_init rfl rfl rfl (Nat.le_of_ble_eq_true rfl) dX4_init_25 ⟨Nat.le_of_ble_eq_true rfl, Nat.le_of_ble_eq_true rfl, Nat.le_of_ble_eq_true rfl, Nat.le_of_ble_eq_true rfl⟩ (fun v C' hP => ?_) (fun _ _ h => h.elim)
  obtain ⟨rfl, rfl⟩ := hP
  refine sw_putF0 (pc := 28) (k := 3) (fs' := [.null, .ref w1, .ref w2, .ref w3, .int 0, .int 0, .int 0]) (L := [(w3, .inr (2, hfs hz)), (w2, sg_ia g 20 (fun _ => 0)), (w1, sg_ia g 20 (fun _ => 0)), (a, .inr (5, [.null, .ref w1, .ref w2, .null, .int 0, .int 0, .int 0]))]) (l' := [(w3, .inr (2, hfs hz)), (w2, sg_ia g 20 (fun _ => 0)), (w1, sg_ia g 20 (fun _ => 0)), (a, .inr (5, [.null, .ref w1, .ref w2, .ref w3, .int 0, .int 0, .int 0]))]) hc hin2 fk_RX4_21 ty_5 fp_5_3 ⟨_, _, rfl⟩ hN (q0 := 3) rfl rfl rfl (Nat.le_of_ble_eq_true rfl) rfl rfl dX4_init_28 ?_
  refine sw_aload_n (pc := 31) hc dX4_init_31 rfl 0 rfl ?_
  refine sw_aload_n (pc := 32) hc dX4_init_32 rfl 1 rfl ?_
  refine sw_putF0 (pc := 33) (k := 0) (fs' := [.ref lv, .ref w1, .ref w2, .ref w3, .int 0, .int 0, .int 0]) (L := [(w3, .inr (2, hfs hz)), (w2, sg_ia g 20 (fun _ => 0)), (w1, sg_ia g 20 (fun _ => 0)), (a, .inr (5, [.null, .ref w1, .ref w2, .ref w3, .int 0, .int 0, .int 0]))]) (l' := [(w3, .inr (2, hfs hz)), (w2, sg_ia g 20 (fun _ => 0)), (w1, sg_ia g 20 (fun _ => 0)), (a, .inr (5, [.ref lv, .ref w1, .ref w2, .ref w3, .int 0, .int 0, .int 0]))]) hc hin2 fk_RX4_25 ty_5 fp_5_0 ⟨_, _, rfl⟩ hN (q0 := 3) rfl rfl rfl (Nat.le_of_ble_eq_true rfl) rfl rfl dX4_init_33 ?_
  refine sw_aload_n (pc := 36) hc dX4_init_36 rfl 0 rfl ?_
  refine sw_get (pc := 37) (v := .ref w3) hc fl_RX4_21 (sg_ov_at hN (k := 3) rfl) rfl dX4_init_37 ?_
  refine sw_aload_n (pc := 40) hc dX4_init_40 rfl 1 rfl ?_
  refine sw_callV (pc := 41) (rest := []) hc (c_X1_start l g (sg_ov C [(w3, .inr (2, hfs hz)), (w2, sg_ia g 20 (fun _ => 0)), (w1, sg_ia g 20 (fun _ => 0)), (a, .inr (5, [.ref lv, .ref w1, .ref w2, .ref w3, .int 0, .int 0, .int 0]))]) w3 lv hz ag af ai fl (sg_ov_at hN (k := 0) rfl) ((sg_ov_out (sg_nin (sg_nf hC_lv fa_w3) (sg_nin (sg_nf hC_lv fa_w2) (sg_nin (sg_nf hC_lv fa_w1) (sg_nin (sg_ne hC_lv hC_a (Nat.ne_of_beq_eq_false rfl)) List.not_mem_nil))))).trans hC_lv) ((sg_ov_out (sg_nin (sg_nf hC_af fa_w3) (sg_nin (sg_nf hC_af fa_w2) (sg_nin (sg_nf hC_af fa_w1) (sg_nin (sg_ne hC_af hC_a (Nat.ne_of_beq_eq_false rfl)) List.not_mem_nil))))).trans hC_af)) md_X1_start ml_RX4_29 im_X1_start sl_X1_start (sg_ov_at hN (k := 0) rfl) rfl rfl rfl (Nat.le_of_ble_eq_true rfl) dX4_init_41 ⟨Nat.le_of_ble_eq_true rfl, Nat.le_of_ble_eq_true rfl, Nat.le_of_ble_eq_true rfl, Nat.le_of_ble_eq_true rfl⟩ (fun v C' hP => ?_) (fun _ _ h => h.elim)
  obtain ⟨rfl, rfl⟩ := hP
  refine sw_eq (C' := sg_ov C [(w3, .inr (2, hfs (hStart fl hz))), (w2, sg_ia g 20 (fun _ => 0)), (w1, sg_ia g 20 (fun _ => 0)), (a, .inr (5, [.ref lv, .ref w1, .ref w2, .ref w3, .int 0, .int 0, .int 0]))]) (sg_ov_set (l := [(w3, .inr (2, hfs hz)), (w2, sg_ia g 20 (fun _ => 0)), (w1, sg_ia g 20 (fun _ => 0)), (a, .inr (5, [.ref lv, .ref w1, .ref w2, .ref w3, .int 0, .int 0, .int 0]))]) hN (k := 0) rfl) ?_
  exact sw_vret (pc := 44) hc hlk hrt ⟨rfl, w1, w2, w3, fa_w1, fa_w2, fa_w3, hN, rfl⟩ (Nat.le_of_ble_eq_true rfl) (Nat.le_of_ble_eq_true rfl) dX4_init_44
