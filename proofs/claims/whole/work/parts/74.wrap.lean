/-! the law's own small methods -/

theorem md_X7_level : sg_MD yX7_level cX7_level 1 (some .int) 0 := ⟨sg_mem (i := 203) (by decide +kernel) rfl, sg_mem (i := 54) (by decide +kernel) rfl, ⟨by decide, by decide⟩, by decide +kernel⟩
theorem ml_RL_7 : sg_ML RL 7 yX7_level := .inl (sg_mem (i := 200) (by decide +kernel) rfl)
theorem im_X7_level : Cond.instanceMethod yX7_level ∈ sg_T := sg_mem (i := 201) (by decide +kernel) rfl
theorem sl_X7_level : Cond.selects yX7_level.cls yX7_level yX7_level ∈ sg_T := sg_mem (i := 202) (by decide +kernel) rfl
theorem kl_RL_13 : Cond.classLink RL 13 "java/lang/IllegalStateException" ∈ sg_T := sg_mem (i := 199) (by decide +kernel) rfl
theorem cc_IllegalStateException : Cond.castable "java/lang/IllegalStateException" "java/lang/IllegalStateException" ∈ sg_N := sg_memN (i := 210) (by decide +kernel) rfl
theorem mdh_L_level : sg_MDH yL_level cL_level 3 (some .int) [(0, 8, 11, 13)] 2 := ⟨sg_mem (i := 198) (by decide +kernel) rfl, sg_mem (i := 53) (by decide +kernel) rfl, ⟨by decide, by decide⟩, by decide +kernel⟩
theorem md_X7_column : sg_MD yX7_column cX7_column 6 none 4 := ⟨sg_mem (i := 361) (by decide +kernel) rfl, sg_mem (i := 54) (by decide +kernel) rfl, ⟨by decide, by decide⟩, by decide +kernel⟩
theorem ml_RL_15 : sg_ML RL 15 yX7_column := .inl (sg_mem (i := 358) (by decide +kernel) rfl)
theorem im_X7_column : Cond.instanceMethod yX7_column ∈ sg_T := sg_mem (i := 359) (by decide +kernel) rfl
theorem sl_X7_column : Cond.selects yX7_column.cls yX7_column yX7_column ∈ sg_T := sg_mem (i := 360) (by decide +kernel) rfl
theorem kl_RL_19 : Cond.classLink RL 19 "java/lang/IndexOutOfBoundsException" ∈ sg_T := sg_mem (i := 356) (by decide +kernel) rfl
theorem cc_IndexOutOfBoundsException : Cond.castable "java/lang/IndexOutOfBoundsException" "java/lang/IndexOutOfBoundsException" ∈ sg_N := sg_memN (i := 371) (by decide +kernel) rfl
theorem kl_RL_21 : Cond.classLink RL 21 "java/lang/IllegalArgumentException" ∈ sg_T := sg_mem (i := 357) (by decide +kernel) rfl
theorem cc_IllegalArgumentException : Cond.castable "java/lang/IllegalArgumentException" "java/lang/IllegalArgumentException" ∈ sg_N := sg_memN (i := 405) (by decide +kernel) rfl
theorem mdh_L_column : sg_MDH yL_column cL_column 6 (some .int) [(0, 9, 12, 19), (0, 9, 16, 21), (0, 9, 20, 13)] 5 := ⟨sg_mem (i := 355) (by decide +kernel) rfl, sg_mem (i := 53) (by decide +kernel) rfl, ⟨by decide, by decide⟩, by decide +kernel⟩
theorem md_X7_replay : sg_MD yX7_replay cX7_replay 3 (some .int) 1 := ⟨sg_mem (i := 435) (by decide +kernel) rfl, sg_mem (i := 54) (by decide +kernel) rfl, ⟨by decide, by decide⟩, by decide +kernel⟩
theorem ml_RL_23 : sg_ML RL 23 yX7_replay := .inl (sg_mem (i := 432) (by decide +kernel) rfl)
theorem im_X7_replay : Cond.instanceMethod yX7_replay ∈ sg_T := sg_mem (i := 433) (by decide +kernel) rfl
theorem sl_X7_replay : Cond.selects yX7_replay.cls yX7_replay yX7_replay ∈ sg_T := sg_mem (i := 434) (by decide +kernel) rfl
theorem mdh_L_replay : sg_MDH yL_replay cL_replay 4 (some .int) [(0, 9, 12, 19), (0, 9, 15, 13)] 3 := ⟨sg_mem (i := 431) (by decide +kernel) rfl, sg_mem (i := 53) (by decide +kernel) rfl, ⟨by decide, by decide⟩, by decide +kernel⟩
theorem md_X7_input : sg_MD yX7_input cX7_input 5 (some .int) 3 := ⟨sg_mem (i := 484) (by decide +kernel) rfl, sg_mem (i := 54) (by decide +kernel) rfl, ⟨by decide, by decide⟩, by decide +kernel⟩
theorem ml_RL_27 : sg_ML RL 27 yX7_input := .inl (sg_mem (i := 481) (by decide +kernel) rfl)
theorem im_X7_input : Cond.instanceMethod yX7_input ∈ sg_T := sg_mem (i := 482) (by decide +kernel) rfl
theorem sl_X7_input : Cond.selects yX7_input.cls yX7_input yX7_input ∈ sg_T := sg_mem (i := 483) (by decide +kernel) rfl
theorem mdh_L_input : sg_MDH yL_input cL_input 6 (some .int) [(0, 12, 15, 19), (0, 12, 19, 21), (0, 12, 23, 13)] 5 := ⟨sg_mem (i := 480) (by decide +kernel) rfl, sg_mem (i := 53) (by decide +kernel) rfl, ⟨by decide, by decide⟩, by decide +kernel⟩
theorem md_X7_result : sg_MD yX7_result cX7_result 3 (some .int) 1 := ⟨sg_mem (i := 555) (by decide +kernel) rfl, sg_mem (i := 54) (by decide +kernel) rfl, ⟨by decide, by decide⟩, by decide +kernel⟩
theorem ml_RL_31 : sg_ML RL 31 yX7_result := .inl (sg_mem (i := 552) (by decide +kernel) rfl)
theorem im_X7_result : Cond.instanceMethod yX7_result ∈ sg_T := sg_mem (i := 553) (by decide +kernel) rfl
theorem sl_X7_result : Cond.selects yX7_result.cls yX7_result yX7_result ∈ sg_T := sg_mem (i := 554) (by decide +kernel) rfl
theorem mdh_L_result : sg_MDH yL_result cL_result 4 (some .int) [(0, 9, 12, 19)] 3 := ⟨sg_mem (i := 551) (by decide +kernel) rfl, sg_mem (i := 53) (by decide +kernel) rfl, ⟨by decide, by decide⟩, by decide +kernel⟩
theorem md_X7_used : sg_MD yX7_used cX7_used 3 (some .int) 1 := ⟨sg_mem (i := 562) (by decide +kernel) rfl, sg_mem (i := 54) (by decide +kernel) rfl, ⟨by decide, by decide⟩, by decide +kernel⟩
theorem ml_RL_34 : sg_ML RL 34 yX7_used := .inl (sg_mem (i := 559) (by decide +kernel) rfl)
theorem im_X7_used : Cond.instanceMethod yX7_used ∈ sg_T := sg_mem (i := 560) (by decide +kernel) rfl
theorem sl_X7_used : Cond.selects yX7_used.cls yX7_used yX7_used ∈ sg_T := sg_mem (i := 561) (by decide +kernel) rfl
theorem mdh_L_used : sg_MDH yL_used cL_used 4 (some .int) [(0, 9, 12, 19)] 3 := ⟨sg_mem (i := 558) (by decide +kernel) rfl, sg_mem (i := 53) (by decide +kernel) rfl, ⟨by decide, by decide⟩, by decide +kernel⟩
theorem md_X7_where : sg_MD yX7_where cX7_where 4 (some .int) 2 := ⟨sg_mem (i := 569) (by decide +kernel) rfl, sg_mem (i := 54) (by decide +kernel) rfl, ⟨by decide, by decide⟩, by decide +kernel⟩
theorem ml_RL_37 : sg_ML RL 37 yX7_where := .inl (sg_mem (i := 566) (by decide +kernel) rfl)
theorem im_X7_where : Cond.instanceMethod yX7_where ∈ sg_T := sg_mem (i := 567) (by decide +kernel) rfl
theorem sl_X7_where : Cond.selects yX7_where.cls yX7_where yX7_where ∈ sg_T := sg_mem (i := 568) (by decide +kernel) rfl
theorem mdh_L_where : sg_MDH yL_where cL_where 5 (some .int) [(0, 10, 13, 19)] 4 := ⟨sg_mem (i := 565) (by decide +kernel) rfl, sg_mem (i := 53) (by decide +kernel) rfl, ⟨by decide, by decide⟩, by decide +kernel⟩
theorem md_X7_category : sg_MD yX7_category cX7_category 3 (some .int) 1 := ⟨sg_mem (i := 582) (by decide +kernel) rfl, sg_mem (i := 54) (by decide +kernel) rfl, ⟨by decide, by decide⟩, by decide +kernel⟩
theorem ml_RL_41 : sg_ML RL 41 yX7_category := .inl (sg_mem (i := 579) (by decide +kernel) rfl)
theorem im_X7_category : Cond.instanceMethod yX7_category ∈ sg_T := sg_mem (i := 580) (by decide +kernel) rfl
theorem sl_X7_category : Cond.selects yX7_category.cls yX7_category yX7_category ∈ sg_T := sg_mem (i := 581) (by decide +kernel) rfl
theorem mdh_L_category : sg_MDH yL_category cL_category 4 (some .int) [(0, 9, 12, 19), (0, 9, 15, 13)] 3 := ⟨sg_mem (i := 578) (by decide +kernel) rfl, sg_mem (i := 53) (by decide +kernel) rfl, ⟨by decide, by decide⟩, by decide +kernel⟩
theorem md_X7_rule : sg_MD yX7_rule cX7_rule 7 (some .int) 5 := ⟨sg_mem (i := 607) (by decide +kernel) rfl, sg_mem (i := 54) (by decide +kernel) rfl, ⟨by decide, by decide⟩, by decide +kernel⟩
theorem ml_RL_44 : sg_ML RL 44 yX7_rule := .inl (sg_mem (i := 604) (by decide +kernel) rfl)
theorem im_X7_rule : Cond.instanceMethod yX7_rule ∈ sg_T := sg_mem (i := 605) (by decide +kernel) rfl
theorem sl_X7_rule : Cond.selects yX7_rule.cls yX7_rule yX7_rule ∈ sg_T := sg_mem (i := 606) (by decide +kernel) rfl
theorem mdh_L_rule : sg_MDH yL_rule cL_rule 8 (some .int) [(0, 16, 19, 19), (0, 16, 23, 21), (0, 16, 27, 13)] 7 := ⟨sg_mem (i := 603) (by decide +kernel) rfl, sg_mem (i := 53) (by decide +kernel) rfl, ⟨by decide, by decide⟩, by decide +kernel⟩
theorem md_X7_pass : sg_MD yX7_pass cX7_pass 2 (some .int) 1 := ⟨sg_mem (i := 659) (by decide +kernel) rfl, sg_mem (i := 54) (by decide +kernel) rfl, ⟨by decide, by decide⟩, by decide +kernel⟩
theorem ml_RL_48 : sg_ML RL 48 yX7_pass := .inl (sg_mem (i := 656) (by decide +kernel) rfl)
theorem im_X7_pass : Cond.instanceMethod yX7_pass ∈ sg_T := sg_mem (i := 657) (by decide +kernel) rfl
theorem sl_X7_pass : Cond.selects yX7_pass.cls yX7_pass yX7_pass ∈ sg_T := sg_mem (i := 658) (by decide +kernel) rfl
theorem mdh_L_pass : sg_MDH yL_pass cL_pass 4 (some .int) [(0, 9, 12, 21), (0, 9, 15, 13)] 3 := ⟨sg_mem (i := 655) (by decide +kernel) rfl, sg_mem (i := 53) (by decide +kernel) rfl, ⟨by decide, by decide⟩, by decide +kernel⟩
theorem md_X7_submit : sg_MD yX7_submit cX7_submit 7 (some .int) 3 := ⟨sg_mem (i := 667) (by decide +kernel) rfl, sg_mem (i := 54) (by decide +kernel) rfl, ⟨by decide, by decide⟩, by decide +kernel⟩
theorem ml_RL_51 : sg_ML RL 51 yX7_submit := .inl (sg_mem (i := 664) (by decide +kernel) rfl)
theorem im_X7_submit : Cond.instanceMethod yX7_submit ∈ sg_T := sg_mem (i := 665) (by decide +kernel) rfl
theorem sl_X7_submit : Cond.selects yX7_submit.cls yX7_submit yX7_submit ∈ sg_T := sg_mem (i := 666) (by decide +kernel) rfl
theorem mdh_L_submit : sg_MDH yL_submit cL_submit 6 (some .int) [(0, 12, 15, 19), (0, 12, 19, 21), (0, 12, 23, 13)] 5 := ⟨sg_mem (i := 663) (by decide +kernel) rfl, sg_mem (i := 53) (by decide +kernel) rfl, ⟨by decide, by decide⟩, by decide +kernel⟩
theorem md_X7_judged : sg_MD yX7_judged cX7_judged 5 (some .int) 1 := ⟨sg_mem (i := 717) (by decide +kernel) rfl, sg_mem (i := 54) (by decide +kernel) rfl, ⟨by decide, by decide⟩, by decide +kernel⟩
theorem ml_RL_54 : sg_ML RL 54 yX7_judged := .inl (sg_mem (i := 714) (by decide +kernel) rfl)
theorem im_X7_judged : Cond.instanceMethod yX7_judged ∈ sg_T := sg_mem (i := 715) (by decide +kernel) rfl
theorem sl_X7_judged : Cond.selects yX7_judged.cls yX7_judged yX7_judged ∈ sg_T := sg_mem (i := 716) (by decide +kernel) rfl
theorem mdh_L_judged : sg_MDH yL_judged cL_judged 4 (some .int) [(0, 9, 12, 19)] 3 := ⟨sg_mem (i := 713) (by decide +kernel) rfl, sg_mem (i := 53) (by decide +kernel) rfl, ⟨by decide, by decide⟩, by decide +kernel⟩
theorem md_X7_strike : sg_MD yX7_strike cX7_strike 3 (some .boolean) 1 := ⟨sg_mem (i := 729) (by decide +kernel) rfl, sg_mem (i := 54) (by decide +kernel) rfl, ⟨by decide, by decide⟩, by decide +kernel⟩
theorem ml_RL_57 : sg_ML RL 57 yX7_strike := .inl (sg_mem (i := 726) (by decide +kernel) rfl)
theorem im_X7_strike : Cond.instanceMethod yX7_strike ∈ sg_T := sg_mem (i := 727) (by decide +kernel) rfl
theorem sl_X7_strike : Cond.selects yX7_strike.cls yX7_strike yX7_strike ∈ sg_T := sg_mem (i := 728) (by decide +kernel) rfl
theorem mdh_L_strike : sg_MDH yL_strike cL_strike 4 (some .int) [(0, 16, 19, 19)] 3 := ⟨sg_mem (i := 725) (by decide +kernel) rfl, sg_mem (i := 53) (by decide +kernel) rfl, ⟨by decide, by decide⟩, by decide +kernel⟩
theorem md_X7_best : sg_MD yX7_best cX7_best 5 (some .int) 2 := ⟨sg_mem (i := 736) (by decide +kernel) rfl, sg_mem (i := 54) (by decide +kernel) rfl, ⟨by decide, by decide⟩, by decide +kernel⟩
theorem ml_RL_61 : sg_ML RL 61 yX7_best := .inl (sg_mem (i := 733) (by decide +kernel) rfl)
theorem im_X7_best : Cond.instanceMethod yX7_best ∈ sg_T := sg_mem (i := 734) (by decide +kernel) rfl
theorem sl_X7_best : Cond.selects yX7_best.cls yX7_best yX7_best ∈ sg_T := sg_mem (i := 735) (by decide +kernel) rfl
theorem mdh_L_best : sg_MDH yL_best cL_best 5 (some .int) [(0, 10, 13, 19)] 4 := ⟨sg_mem (i := 732) (by decide +kernel) rfl, sg_mem (i := 53) (by decide +kernel) rfl, ⟨by decide, by decide⟩, by decide +kernel⟩
theorem md_X7_bestAnew : sg_MD yX7_bestAnew cX7_bestAnew 8 (some .int) 2 := ⟨sg_mem (i := 758) (by decide +kernel) rfl, sg_mem (i := 54) (by decide +kernel) rfl, ⟨by decide, by decide⟩, by decide +kernel⟩
theorem ml_RL_64 : sg_ML RL 64 yX7_bestAnew := .inl (sg_mem (i := 755) (by decide +kernel) rfl)
theorem im_X7_bestAnew : Cond.instanceMethod yX7_bestAnew ∈ sg_T := sg_mem (i := 756) (by decide +kernel) rfl
theorem sl_X7_bestAnew : Cond.selects yX7_bestAnew.cls yX7_bestAnew yX7_bestAnew ∈ sg_T := sg_mem (i := 757) (by decide +kernel) rfl
theorem mdh_L_bestAnew : sg_MDH yL_bestAnew cL_bestAnew 5 (some .int) [(0, 10, 13, 19)] 4 := ⟨sg_mem (i := 754) (by decide +kernel) rfl, sg_mem (i := 53) (by decide +kernel) rfl, ⟨by decide, by decide⟩, by decide +kernel⟩
theorem md_X7_place : sg_MD yX7_place cX7_place 4 (some .int) 2 := ⟨sg_mem (i := 769) (by decide +kernel) rfl, sg_mem (i := 54) (by decide +kernel) rfl, ⟨by decide, by decide⟩, by decide +kernel⟩
theorem ml_RL_67 : sg_ML RL 67 yX7_place := .inl (sg_mem (i := 766) (by decide +kernel) rfl)
theorem im_X7_place : Cond.instanceMethod yX7_place ∈ sg_T := sg_mem (i := 767) (by decide +kernel) rfl
theorem sl_X7_place : Cond.selects yX7_place.cls yX7_place yX7_place ∈ sg_T := sg_mem (i := 768) (by decide +kernel) rfl
theorem mdh_L_place : sg_MDH yL_place cL_place 5 (some .int) [(0, 10, 13, 19)] 4 := ⟨sg_mem (i := 765) (by decide +kernel) rfl, sg_mem (i := 53) (by decide +kernel) rfl, ⟨by decide, by decide⟩, by decide +kernel⟩
theorem md_X7_at : sg_MD yX7_at cX7_at 6 (some .int) 2 := ⟨sg_mem (i := 780) (by decide +kernel) rfl, sg_mem (i := 54) (by decide +kernel) rfl, ⟨by decide, by decide⟩, by decide +kernel⟩
theorem ml_RL_70 : sg_ML RL 70 yX7_at := .inl (sg_mem (i := 777) (by decide +kernel) rfl)
theorem im_X7_at : Cond.instanceMethod yX7_at ∈ sg_T := sg_mem (i := 778) (by decide +kernel) rfl
theorem sl_X7_at : Cond.selects yX7_at.cls yX7_at yX7_at ∈ sg_T := sg_mem (i := 779) (by decide +kernel) rfl
theorem mdh_L_at : sg_MDH yL_at cL_at 5 (some .int) [(0, 10, 13, 19)] 4 := ⟨sg_mem (i := 776) (by decide +kernel) rfl, sg_mem (i := 53) (by decide +kernel) rfl, ⟨by decide, by decide⟩, by decide +kernel⟩
theorem md_X7_placeWithout : sg_MD yX7_placeWithout cX7_placeWithout 3 (some .int) 1 := ⟨sg_mem (i := 792) (by decide +kernel) rfl, sg_mem (i := 54) (by decide +kernel) rfl, ⟨by decide, by decide⟩, by decide +kernel⟩
theorem ml_RL_73 : sg_ML RL 73 yX7_placeWithout := .inl (sg_mem (i := 789) (by decide +kernel) rfl)
theorem im_X7_placeWithout : Cond.instanceMethod yX7_placeWithout ∈ sg_T := sg_mem (i := 790) (by decide +kernel) rfl
theorem sl_X7_placeWithout : Cond.selects yX7_placeWithout.cls yX7_placeWithout yX7_placeWithout ∈ sg_T := sg_mem (i := 791) (by decide +kernel) rfl
theorem mdh_L_placeWithout : sg_MDH yL_placeWithout cL_placeWithout 4 (some .int) [(0, 9, 12, 19)] 3 := ⟨sg_mem (i := 788) (by decide +kernel) rfl, sg_mem (i := 53) (by decide +kernel) rfl, ⟨by decide, by decide⟩, by decide +kernel⟩
theorem md_X7_estimate : sg_MD yX7_estimate cX7_estimate 4 (some .int) 2 := ⟨sg_mem (i := 799) (by decide +kernel) rfl, sg_mem (i := 54) (by decide +kernel) rfl, ⟨by decide, by decide⟩, by decide +kernel⟩
theorem ml_RL_76 : sg_ML RL 76 yX7_estimate := .inl (sg_mem (i := 796) (by decide +kernel) rfl)
theorem im_X7_estimate : Cond.instanceMethod yX7_estimate ∈ sg_T := sg_mem (i := 797) (by decide +kernel) rfl
theorem sl_X7_estimate : Cond.selects yX7_estimate.cls yX7_estimate yX7_estimate ∈ sg_T := sg_mem (i := 798) (by decide +kernel) rfl
theorem mdh_L_estimate : sg_MDH yL_estimate cL_estimate 5 (some .int) [(0, 10, 13, 19)] 4 := ⟨sg_mem (i := 795) (by decide +kernel) rfl, sg_mem (i := 53) (by decide +kernel) rfl, ⟨by decide, by decide⟩, by decide +kernel⟩
theorem md_X7_offer : sg_MD yX7_offer cX7_offer 4 (some .int) 2 := ⟨sg_mem (i := 810) (by decide +kernel) rfl, sg_mem (i := 54) (by decide +kernel) rfl, ⟨by decide, by decide⟩, by decide +kernel⟩
theorem ml_RL_79 : sg_ML RL 79 yX7_offer := .inl (sg_mem (i := 807) (by decide +kernel) rfl)
theorem im_X7_offer : Cond.instanceMethod yX7_offer ∈ sg_T := sg_mem (i := 808) (by decide +kernel) rfl
theorem sl_X7_offer : Cond.selects yX7_offer.cls yX7_offer yX7_offer ∈ sg_T := sg_mem (i := 809) (by decide +kernel) rfl
theorem mdh_L_offer : sg_MDH yL_offer cL_offer 5 (some .int) [(0, 10, 13, 19), (0, 10, 17, 13)] 4 := ⟨sg_mem (i := 806) (by decide +kernel) rfl, sg_mem (i := 53) (by decide +kernel) rfl, ⟨by decide, by decide⟩, by decide +kernel⟩
theorem md_X7_gift : sg_MD yX7_gift cX7_gift 4 (some .int) 2 := ⟨sg_mem (i := 840) (by decide +kernel) rfl, sg_mem (i := 54) (by decide +kernel) rfl, ⟨by decide, by decide⟩, by decide +kernel⟩
theorem ml_RL_82 : sg_ML RL 82 yX7_gift := .inl (sg_mem (i := 837) (by decide +kernel) rfl)
theorem im_X7_gift : Cond.instanceMethod yX7_gift ∈ sg_T := sg_mem (i := 838) (by decide +kernel) rfl
theorem sl_X7_gift : Cond.selects yX7_gift.cls yX7_gift yX7_gift ∈ sg_T := sg_mem (i := 839) (by decide +kernel) rfl
theorem mdh_L_gift : sg_MDH yL_gift cL_gift 5 (some .int) [(0, 10, 13, 19), (0, 10, 17, 21), (0, 10, 21, 13)] 4 := ⟨sg_mem (i := 836) (by decide +kernel) rfl, sg_mem (i := 53) (by decide +kernel) rfl, ⟨by decide, by decide⟩, by decide +kernel⟩
theorem md_X7_plan : sg_MD yX7_plan cX7_plan 6 (some .int) 1 := ⟨sg_mem (i := 849) (by decide +kernel) rfl, sg_mem (i := 54) (by decide +kernel) rfl, ⟨by decide, by decide⟩, by decide +kernel⟩
theorem ml_RL_85 : sg_ML RL 85 yX7_plan := .inl (sg_mem (i := 846) (by decide +kernel) rfl)
theorem im_X7_plan : Cond.instanceMethod yX7_plan ∈ sg_T := sg_mem (i := 847) (by decide +kernel) rfl
theorem sl_X7_plan : Cond.selects yX7_plan.cls yX7_plan yX7_plan ∈ sg_T := sg_mem (i := 848) (by decide +kernel) rfl
theorem mdh_L_plan : sg_MDH yL_plan cL_plan 4 (some .int) [(0, 9, 12, 21)] 3 := ⟨sg_mem (i := 845) (by decide +kernel) rfl, sg_mem (i := 53) (by decide +kernel) rfl, ⟨by decide, by decide⟩, by decide +kernel⟩
set_option maxHeartbeats 4000000 in
set_option maxRecDepth 100000 in
theorem c_L_level (l : Launch) (g : sg_G) (C : Nat → Option va_E) (ad : Ad) (own : Nat → Option (Nat × Nat)) (gh : Gh) (σ : Mem) (o : Nat) (fo : Nat → Int64) (hQ : Pic g ad own gh σ C) (hW : WX σ) (hg : gOk gh) (hO : C o = some (sg_la g 1 fo)) (hOo : own o = none) (hst : l.stackTraces = false) : sg_MetH l yL_level cL_level 3 (some .int) [(0, 8, 11, 13)] 8 181 24 420 g [.ref (ad 0 0), .ref o] C (fun v C' => v = some (.int (kLevel σ)) ∧ ∃ f', PO g (ad 0 0) own o C (fLevel σ) C' f' ∧ (kLevel σ = 0 → f' 0 = (vLevel σ).toInt64)) := by
  refine sg_ofWH (by decide) rfl ?_ (Nat.le_of_ble_eq_true rfl)
  intro p e s m below meth c hc hlk hrt htb
  have hc : sg_Cx p s m _ c cL_level 3 RL g := hc
  show sg_W p l e _ s m _ below meth c 3 g 0 0 _ C 0 [(0, .ref (ad 0 0)), (1, .ref o)] []
  refine sw_aload_n (pc := 0) hc dL_level_0 rfl 1 rfl ?_
  refine sw_iconst (pc := 1) (v := 0) hc dL_level_1 (by decide) ?_
  refine sw_aload_n (pc := 2) hc dL_level_2 rfl 0 rfl ?_
  refine sw_callV (pc := 3) (rest := [.int 0, .ref o]) hc (c_X7_level l g C ad own gh σ hQ hW hg hst) md_X7_level ml_RL_7 im_X7_level sl_X7_level (hQ.at ct0) rfl rfl rfl (Nat.le_of_ble_eq_true rfl) dL_level_3 ⟨Nat.le_of_ble_eq_true rfl, Nat.le_of_ble_eq_true rfl, Nat.le_of_ble_eq_true rfl, Nat.le_of_ble_eq_true rfl⟩ (fun v C1 hP => ?_) (fun E C1 hX => ?_)
  · obtain ⟨rfl, hk, hPH⟩ := hP
    refine sw_st (st' := [.int (vLevel σ), .int 0, .ref o]) rfl ?_
    refine sw_i2l (pc := 6) (v := (vLevel σ).toInt64) hc dL_level_6 rfl ?_
    refine sw_last (pc := 7) (j := 0) hc (hPH.ou hO hOo) rfl (by decide) (by decide) dL_level_7 ?_
    refine sw_goto (pc := 8) (tgt := 14) hc dL_level_8 (by decide) ?_
    refine sw_iconst (pc := 14) (v := 0) hc dL_level_14 (by decide) ?_
    exact sw_iret (pc := 15) hc hlk hrt rfl ⟨congrArg (fun zq => some (Value.int zq)) ((z_kLevel σ).resolve_right hk).symm, _, PO.put hPH hO hOo _, fun _ => pk_uLs⟩ (Nat.le_of_ble_eq_true rfl) (Nat.le_of_ble_eq_true rfl) dL_level_15
  · obtain ⟨hE, hPH⟩ := hX
    obtain ⟨rfl, hk⟩ := hE
    refine sx_catch (name := "java/lang/IllegalStateException") hc [] ⟨0, 8, 11, 13⟩ [] (htb.trans rfl) (fun z hz => absurd hz List.not_mem_nil) (by decide) (by decide) kl_RL_13 cc_IllegalStateException (fun q => ?_)
    refine sw_astore_n (pc := 11) hc dL_level_11 rfl (by decide) (lv' := [(2, .ref q), (0, .ref (ad 0 0)), (1, .ref o)]) rfl ?_
    refine sw_iconst (pc := 12) (v := 1) hc dL_level_12 (by decide) ?_
    exact sw_iret (pc := 13) hc hlk hrt rfl ⟨congrArg (fun zq => some (Value.int zq)) hk.symm, _, PO.of hPH hO hOo, fun zq => absurd (hk.symm.trans zq) (by decide)⟩ (Nat.le_of_ble_eq_true rfl) (Nat.le_of_ble_eq_true rfl) dL_level_13
set_option maxHeartbeats 4000000 in
set_option maxRecDepth 100000 in
theorem c_L_column (l : Launch) (g : sg_G) (C : Nat → Option va_E) (ad : Ad) (own : Nat → Option (Nat × Nat)) (gh : Gh) (σ : Mem) (o : Nat) (fo : Nat → Int64) (x : Int32) (y : Int32) (h : Int32) (t : Int32) (hQ : Pic g ad own gh σ C) (hW : WX σ) (hg : gOk gh) (hO : C o = some (sg_la g 1 fo)) (hOo : own o = none) (hst : l.stackTraces = false) : sg_MetH l yL_column cL_column 6 (some .int) [(0, 9, 12, 19), (0, 9, 16, 21), (0, 9, 20, 13)] 8 128 16 96 g [.ref (ad 0 0), .int x, .int y, .int h, .int t] C (fun v C' => v = some (.int (kColumn σ x y h t)) ∧ ∃ f', PO g (ad 0 0) own o C (fColumn σ x y h t) C' f') := by
  refine sg_ofWH (by decide) rfl ?_ (Nat.le_of_ble_eq_true rfl)
  intro p e s m below meth c hc hlk hrt htb
  have hc : sg_Cx p s m _ c cL_column 6 RL g := hc
  show sg_W p l e _ s m _ below meth c 6 g 0 0 _ C 0 [(0, .ref (ad 0 0)), (1, .int x), (2, .int y), (3, .int h), (4, .int t)] []
  refine sw_aload_n (pc := 0) hc dL_column_0 rfl 0 rfl ?_
  refine sw_iload_n (pc := 1) hc dL_column_1 rfl 1 rfl ?_
  refine sw_iload_n (pc := 2) hc dL_column_2 rfl 2 rfl ?_
  refine sw_iload_n (pc := 3) hc dL_column_3 rfl 3 rfl ?_
  refine sw_iload (pc := 4) hc dL_column_4 4 rfl ?_
  refine sw_callV (pc := 6) (rest := []) hc (c_X7_column l g C ad own gh σ x y h t hQ hW hg hst) md_X7_column ml_RL_15 im_X7_column sl_X7_column (hQ.at ct0) rfl rfl rfl (Nat.le_of_ble_eq_true rfl) dL_column_6 ⟨Nat.le_of_ble_eq_true rfl, Nat.le_of_ble_eq_true rfl, Nat.le_of_ble_eq_true rfl, Nat.le_of_ble_eq_true rfl⟩ (fun v C1 hP => ?_) (fun E C1 hX => ?_)
  · obtain ⟨rfl, hk, hPH⟩ := hP
    refine sw_st (st' := []) rfl ?_
    refine sw_goto (pc := 9) (tgt := 24) hc dL_column_9 (by decide) ?_
    refine sw_iconst (pc := 24) (v := 0) hc dL_column_24 (by decide) ?_
    exact sw_iret (pc := 25) hc hlk hrt rfl ⟨congrArg (fun zq => some (Value.int zq)) ((z_kColumn σ x y h t).resolve_right hk).symm, _, PO.of hPH hO hOo⟩ (Nat.le_of_ble_eq_true rfl) (Nat.le_of_ble_eq_true rfl) dL_column_25
  · obtain ⟨hE, hPH⟩ := hX
    rcases hE with ⟨rfl, hk⟩ | ⟨rfl, hk⟩ | ⟨rfl, hk⟩
    · refine sx_catch (name := "java/lang/IndexOutOfBoundsException") hc [] ⟨0, 9, 12, 19⟩ [⟨0, 9, 16, 21⟩, ⟨0, 9, 20, 13⟩] (htb.trans rfl) (fun z hz => absurd hz List.not_mem_nil) (by decide) (by decide) kl_RL_19 cc_IndexOutOfBoundsException (fun q => ?_)
      refine sw_astore (pc := 12) hc dL_column_12 (by decide) (lv' := [(5, .ref q), (0, .ref (ad 0 0)), (1, .int x), (2, .int y), (3, .int h), (4, .int t)]) rfl ?_
      refine sw_iconst (pc := 14) (v := 1) hc dL_column_14 (by decide) ?_
      exact sw_iret (pc := 15) hc hlk hrt rfl ⟨congrArg (fun zq => some (Value.int zq)) hk.symm, _, PO.of hPH hO hOo⟩ (Nat.le_of_ble_eq_true rfl) (Nat.le_of_ble_eq_true rfl) dL_column_15
    · refine sx_catch (name := "java/lang/IllegalArgumentException") hc [⟨0, 9, 12, 19⟩] ⟨0, 9, 16, 21⟩ [⟨0, 9, 20, 13⟩] (htb.trans rfl) (List.forall_mem_cons.mpr ⟨(.inr ⟨by decide, "java/lang/IndexOutOfBoundsException", kl_RL_19, by decide +kernel⟩), fun _ h => absurd h List.not_mem_nil⟩) (by decide) (by decide) kl_RL_21 cc_IllegalArgumentException (fun q => ?_)
      refine sw_astore (pc := 16) hc dL_column_16 (by decide) (lv' := [(5, .ref q), (0, .ref (ad 0 0)), (1, .int x), (2, .int y), (3, .int h), (4, .int t)]) rfl ?_
      refine sw_iconst (pc := 18) (v := 2) hc dL_column_18 (by decide) ?_
      exact sw_iret (pc := 19) hc hlk hrt rfl ⟨congrArg (fun zq => some (Value.int zq)) hk.symm, _, PO.of hPH hO hOo⟩ (Nat.le_of_ble_eq_true rfl) (Nat.le_of_ble_eq_true rfl) dL_column_19
    · refine sx_catch (name := "java/lang/IllegalStateException") hc [⟨0, 9, 12, 19⟩, ⟨0, 9, 16, 21⟩] ⟨0, 9, 20, 13⟩ [] (htb.trans rfl) (List.forall_mem_cons.mpr ⟨(.inr ⟨by decide, "java/lang/IndexOutOfBoundsException", kl_RL_19, by decide +kernel⟩), List.forall_mem_cons.mpr ⟨(.inr ⟨by decide, "java/lang/IllegalArgumentException", kl_RL_21, by decide +kernel⟩), fun _ h => absurd h List.not_mem_nil⟩⟩) (by decide) (by decide) kl_RL_13 cc_IllegalStateException (fun q => ?_)
      refine sw_astore (pc := 20) hc dL_column_20 (by decide) (lv' := [(5, .ref q), (0, .ref (ad 0 0)), (1, .int x), (2, .int y), (3, .int h), (4, .int t)]) rfl ?_
      refine sw_iconst (pc := 22) (v := 3) hc dL_column_22 (by decide) ?_
      exact sw_iret (pc := 23) hc hlk hrt rfl ⟨congrArg (fun zq => some (Value.int zq)) hk.symm, _, PO.of hPH hO hOo⟩ (Nat.le_of_ble_eq_true rfl) (Nat.le_of_ble_eq_true rfl) dL_column_23
set_option maxHeartbeats 4000000 in
set_option maxRecDepth 100000 in
theorem c_L_replay (l : Launch) (g : sg_G) (C : Nat → Option va_E) (ad : Ad) (own : Nat → Option (Nat × Nat)) (gh : Gh) (σ : Mem) (o : Nat) (fo : Nat → Int64) (x : Int32) (hQ : Pic g ad own gh σ C) (hW : WX σ) (hg : gOk gh) (hO : C o = some (sg_la g 1 fo)) (hOo : own o = none) (hst : l.stackTraces = false) : sg_MetH l yL_replay cL_replay 4 (some .int) [(0, 9, 12, 19), (0, 9, 15, 13)] 8 183 24 420 g [.ref (ad 0 0), .int x, .ref o] C (fun v C' => v = some (.int (kReplay σ x)) ∧ ∃ f', PO g (ad 0 0) own o C (fReplay σ x) C' f' ∧ (kReplay σ x = 0 → f' 0 = (vReplay σ x).toInt64)) := by
  refine sg_ofWH (by decide) rfl ?_ (Nat.le_of_ble_eq_true rfl)
  intro p e s m below meth c hc hlk hrt htb
  have hc : sg_Cx p s m _ c cL_replay 4 RL g := hc
  show sg_W p l e _ s m _ below meth c 4 g 0 0 _ C 0 [(0, .ref (ad 0 0)), (1, .int x), (2, .ref o)] []
  refine sw_aload_n (pc := 0) hc dL_replay_0 rfl 2 rfl ?_
  refine sw_iconst (pc := 1) (v := 0) hc dL_replay_1 (by decide) ?_
  refine sw_aload_n (pc := 2) hc dL_replay_2 rfl 0 rfl ?_
  refine sw_iload_n (pc := 3) hc dL_replay_3 rfl 1 rfl ?_
  refine sw_callV (pc := 4) (rest := [.int 0, .ref o]) hc (c_X7_replay l g C ad own gh σ x hQ hW hg hst) md_X7_replay ml_RL_23 im_X7_replay sl_X7_replay (hQ.at ct0) rfl rfl rfl (Nat.le_of_ble_eq_true rfl) dL_replay_4 ⟨Nat.le_of_ble_eq_true rfl, Nat.le_of_ble_eq_true rfl, Nat.le_of_ble_eq_true rfl, Nat.le_of_ble_eq_true rfl⟩ (fun v C1 hP => ?_) (fun E C1 hX => ?_)
  · obtain ⟨rfl, hk, hPH⟩ := hP
    refine sw_st (st' := [.int (vReplay σ x), .int 0, .ref o]) rfl ?_
    refine sw_i2l (pc := 7) (v := (vReplay σ x).toInt64) hc dL_replay_7 rfl ?_
    refine sw_last (pc := 8) (j := 0) hc (hPH.ou hO hOo) rfl (by decide) (by decide) dL_replay_8 ?_
    refine sw_goto (pc := 9) (tgt := 18) hc dL_replay_9 (by decide) ?_
    refine sw_iconst (pc := 18) (v := 0) hc dL_replay_18 (by decide) ?_
    exact sw_iret (pc := 19) hc hlk hrt rfl ⟨congrArg (fun zq => some (Value.int zq)) ((z_kReplay σ x).resolve_right hk).symm, _, PO.put hPH hO hOo _, fun _ => pk_uLs⟩ (Nat.le_of_ble_eq_true rfl) (Nat.le_of_ble_eq_true rfl) dL_replay_19
  · obtain ⟨hE, hPH⟩ := hX
    rcases hE with ⟨rfl, hk⟩ | ⟨rfl, hk⟩
    · refine sx_catch (name := "java/lang/IndexOutOfBoundsException") hc [] ⟨0, 9, 12, 19⟩ [⟨0, 9, 15, 13⟩] (htb.trans rfl) (fun z hz => absurd hz List.not_mem_nil) (by decide) (by decide) kl_RL_19 cc_IndexOutOfBoundsException (fun q => ?_)
      refine sw_astore_n (pc := 12) hc dL_replay_12 rfl (by decide) (lv' := [(3, .ref q), (0, .ref (ad 0 0)), (1, .int x), (2, .ref o)]) rfl ?_
      refine sw_iconst (pc := 13) (v := 1) hc dL_replay_13 (by decide) ?_
      exact sw_iret (pc := 14) hc hlk hrt rfl ⟨congrArg (fun zq => some (Value.int zq)) hk.symm, _, PO.of hPH hO hOo, fun zq => absurd (hk.symm.trans zq) (by decide)⟩ (Nat.le_of_ble_eq_true rfl) (Nat.le_of_ble_eq_true rfl) dL_replay_14
    · refine sx_catch (name := "java/lang/IllegalStateException") hc [⟨0, 9, 12, 19⟩] ⟨0, 9, 15, 13⟩ [] (htb.trans rfl) (List.forall_mem_cons.mpr ⟨(.inr ⟨by decide, "java/lang/IndexOutOfBoundsException", kl_RL_19, by decide +kernel⟩), fun _ h => absurd h List.not_mem_nil⟩) (by decide) (by decide) kl_RL_13 cc_IllegalStateException (fun q => ?_)
      refine sw_astore_n (pc := 15) hc dL_replay_15 rfl (by decide) (lv' := [(3, .ref q), (0, .ref (ad 0 0)), (1, .int x), (2, .ref o)]) rfl ?_
      refine sw_iconst (pc := 16) (v := 2) hc dL_replay_16 (by decide) ?_
      exact sw_iret (pc := 17) hc hlk hrt rfl ⟨congrArg (fun zq => some (Value.int zq)) hk.symm, _, PO.of hPH hO hOo, fun zq => absurd (hk.symm.trans zq) (by decide)⟩ (Nat.le_of_ble_eq_true rfl) (Nat.le_of_ble_eq_true rfl) dL_replay_17
set_option maxHeartbeats 4000000 in
set_option maxRecDepth 100000 in
theorem c_L_input (l : Launch) (g : sg_G) (C : Nat → Option va_E) (ad : Ad) (own : Nat → Option (Nat × Nat)) (gh : Gh) (σ : Mem) (o : Nat) (fo : Nat → Int64) (x : Int32) (b : Int32) (t : Int32) (hQ : Pic g ad own gh σ C) (hW : WX σ) (hg : gOk gh) (hO : C o = some (sg_la g 1 fo)) (hOo : own o = none) (hst : l.stackTraces = false) : sg_MetH l yL_input cL_input 6 (some .int) [(0, 12, 15, 19), (0, 12, 19, 21), (0, 12, 23, 13)] 8 142 16 96 g [.ref (ad 0 0), .int x, .int b, .int t, .ref o] C (fun v C' => v = some (.int (kInput σ x b t)) ∧ ∃ f', PO g (ad 0 0) own o C (fInput σ x b t) C' f' ∧ (kInput σ x b t = 0 → f' 0 = (vInput σ x b t).toInt64)) := by
  refine sg_ofWH (by decide) rfl ?_ (Nat.le_of_ble_eq_true rfl)
  intro p e s m below meth c hc hlk hrt htb
  have hc : sg_Cx p s m _ c cL_input 6 RL g := hc
  show sg_W p l e _ s m _ below meth c 6 g 0 0 _ C 0 [(0, .ref (ad 0 0)), (1, .int x), (2, .int b), (3, .int t), (4, .ref o)] []
  refine sw_aload (pc := 0) hc dL_input_0 4 rfl ?_
  refine sw_iconst (pc := 2) (v := 0) hc dL_input_2 (by decide) ?_
  refine sw_aload_n (pc := 3) hc dL_input_3 rfl 0 rfl ?_
  refine sw_iload_n (pc := 4) hc dL_input_4 rfl 1 rfl ?_
  refine sw_iload_n (pc := 5) hc dL_input_5 rfl 2 rfl ?_
  refine sw_iload_n (pc := 6) hc dL_input_6 rfl 3 rfl ?_
  refine sw_callV (pc := 7) (rest := [.int 0, .ref o]) hc (c_X7_input l g C ad own gh σ x b t hQ hW hg hst) md_X7_input ml_RL_27 im_X7_input sl_X7_input (hQ.at ct0) rfl rfl rfl (Nat.le_of_ble_eq_true rfl) dL_input_7 ⟨Nat.le_of_ble_eq_true rfl, Nat.le_of_ble_eq_true rfl, Nat.le_of_ble_eq_true rfl, Nat.le_of_ble_eq_true rfl⟩ (fun v C1 hP => ?_) (fun E C1 hX => ?_)
  · obtain ⟨rfl, hk, hPH⟩ := hP
    refine sw_st (st' := [.int (vInput σ x b t), .int 0, .ref o]) rfl ?_
    refine sw_i2l (pc := 10) (v := (vInput σ x b t).toInt64) hc dL_input_10 rfl ?_
    refine sw_last (pc := 11) (j := 0) hc (hPH.ou hO hOo) rfl (by decide) (by decide) dL_input_11 ?_
    refine sw_goto (pc := 12) (tgt := 27) hc dL_input_12 (by decide) ?_
    refine sw_iconst (pc := 27) (v := 0) hc dL_input_27 (by decide) ?_
    exact sw_iret (pc := 28) hc hlk hrt rfl ⟨congrArg (fun zq => some (Value.int zq)) ((z_kInput σ x b t).resolve_right hk).symm, _, PO.put hPH hO hOo _, fun _ => pk_uLs⟩ (Nat.le_of_ble_eq_true rfl) (Nat.le_of_ble_eq_true rfl) dL_input_28
  · obtain ⟨hE, hPH⟩ := hX
    rcases hE with ⟨rfl, hk⟩ | ⟨rfl, hk⟩ | ⟨rfl, hk⟩
    · refine sx_catch (name := "java/lang/IndexOutOfBoundsException") hc [] ⟨0, 12, 15, 19⟩ [⟨0, 12, 19, 21⟩, ⟨0, 12, 23, 13⟩] (htb.trans rfl) (fun z hz => absurd hz List.not_mem_nil) (by decide) (by decide) kl_RL_19 cc_IndexOutOfBoundsException (fun q => ?_)
      refine sw_astore (pc := 15) hc dL_input_15 (by decide) (lv' := [(5, .ref q), (0, .ref (ad 0 0)), (1, .int x), (2, .int b), (3, .int t), (4, .ref o)]) rfl ?_
      refine sw_iconst (pc := 17) (v := 1) hc dL_input_17 (by decide) ?_
      exact sw_iret (pc := 18) hc hlk hrt rfl ⟨congrArg (fun zq => some (Value.int zq)) hk.symm, _, PO.of hPH hO hOo, fun zq => absurd (hk.symm.trans zq) (by decide)⟩ (Nat.le_of_ble_eq_true rfl) (Nat.le_of_ble_eq_true rfl) dL_input_18
    · refine sx_catch (name := "java/lang/IllegalArgumentException") hc [⟨0, 12, 15, 19⟩] ⟨0, 12, 19, 21⟩ [⟨0, 12, 23, 13⟩] (htb.trans rfl) (List.forall_mem_cons.mpr ⟨(.inr ⟨by decide, "java/lang/IndexOutOfBoundsException", kl_RL_19, by decide +kernel⟩), fun _ h => absurd h List.not_mem_nil⟩) (by decide) (by decide) kl_RL_21 cc_IllegalArgumentException (fun q => ?_)
      refine sw_astore (pc := 19) hc dL_input_19 (by decide) (lv' := [(5, .ref q), (0, .ref (ad 0 0)), (1, .int x), (2, .int b), (3, .int t), (4, .ref o)]) rfl ?_
      refine sw_iconst (pc := 21) (v := 2) hc dL_input_21 (by decide) ?_
      exact sw_iret (pc := 22) hc hlk hrt rfl ⟨congrArg (fun zq => some (Value.int zq)) hk.symm, _, PO.of hPH hO hOo, fun zq => absurd (hk.symm.trans zq) (by decide)⟩ (Nat.le_of_ble_eq_true rfl) (Nat.le_of_ble_eq_true rfl) dL_input_22
    · refine sx_catch (name := "java/lang/IllegalStateException") hc [⟨0, 12, 15, 19⟩, ⟨0, 12, 19, 21⟩] ⟨0, 12, 23, 13⟩ [] (htb.trans rfl) (List.forall_mem_cons.mpr ⟨(.inr ⟨by decide, "java/lang/IndexOutOfBoundsException", kl_RL_19, by decide +kernel⟩), List.forall_mem_cons.mpr ⟨(.inr ⟨by decide, "java/lang/IllegalArgumentException", kl_RL_21, by decide +kernel⟩), fun _ h => absurd h List.not_mem_nil⟩⟩) (by decide) (by decide) kl_RL_13 cc_IllegalStateException (fun q => ?_)
      refine sw_astore (pc := 23) hc dL_input_23 (by decide) (lv' := [(5, .ref q), (0, .ref (ad 0 0)), (1, .int x), (2, .int b), (3, .int t), (4, .ref o)]) rfl ?_
      refine sw_iconst (pc := 25) (v := 3) hc dL_input_25 (by decide) ?_
      exact sw_iret (pc := 26) hc hlk hrt rfl ⟨congrArg (fun zq => some (Value.int zq)) hk.symm, _, PO.of hPH hO hOo, fun zq => absurd (hk.symm.trans zq) (by decide)⟩ (Nat.le_of_ble_eq_true rfl) (Nat.le_of_ble_eq_true rfl) dL_input_26
set_option maxHeartbeats 4000000 in
set_option maxRecDepth 100000 in
theorem c_L_result (l : Launch) (g : sg_G) (C : Nat → Option va_E) (ad : Ad) (own : Nat → Option (Nat × Nat)) (gh : Gh) (σ : Mem) (o : Nat) (fo : Nat → Int64) (x : Int32) (hQ : Pic g ad own gh σ C) (hW : WX σ) (hg : gOk gh) (hO : C o = some (sg_la g 1 fo)) (hOo : own o = none) (hst : l.stackTraces = false) : sg_MetH l yL_result cL_result 4 (some .int) [(0, 9, 12, 19)] 8 125 16 96 g [.ref (ad 0 0), .int x, .ref o] C (fun v C' => v = some (.int (kIn σ 9 x)) ∧ ∃ f', PO g (ad 0 0) own o C (fResult σ x) C' f' ∧ (kIn σ 9 x = 0 → f' 0 = (vResult σ x).toInt64)) := by
  refine sg_ofWH (by decide) rfl ?_ (Nat.le_of_ble_eq_true rfl)
  intro p e s m below meth c hc hlk hrt htb
  have hc : sg_Cx p s m _ c cL_result 4 RL g := hc
  show sg_W p l e _ s m _ below meth c 4 g 0 0 _ C 0 [(0, .ref (ad 0 0)), (1, .int x), (2, .ref o)] []
  refine sw_aload_n (pc := 0) hc dL_result_0 rfl 2 rfl ?_
  refine sw_iconst (pc := 1) (v := 0) hc dL_result_1 (by decide) ?_
  refine sw_aload_n (pc := 2) hc dL_result_2 rfl 0 rfl ?_
  refine sw_iload_n (pc := 3) hc dL_result_3 rfl 1 rfl ?_
  refine sw_callV (pc := 4) (rest := [.int 0, .ref o]) hc (c_X7_result l g C ad own gh σ x hQ hW hg hst) md_X7_result ml_RL_31 im_X7_result sl_X7_result (hQ.at ct0) rfl rfl rfl (Nat.le_of_ble_eq_true rfl) dL_result_4 ⟨Nat.le_of_ble_eq_true rfl, Nat.le_of_ble_eq_true rfl, Nat.le_of_ble_eq_true rfl, Nat.le_of_ble_eq_true rfl⟩ (fun v C1 hP => ?_) (fun E C1 hX => ?_)
  · obtain ⟨rfl, hk, hPH⟩ := hP
    refine sw_st (st' := [.int (vResult σ x), .int 0, .ref o]) rfl ?_
    refine sw_i2l (pc := 7) (v := (vResult σ x).toInt64) hc dL_result_7 rfl ?_
    refine sw_last (pc := 8) (j := 0) hc (hPH.ou hO hOo) rfl (by decide) (by decide) dL_result_8 ?_
    refine sw_goto (pc := 9) (tgt := 15) hc dL_result_9 (by decide) ?_
    refine sw_iconst (pc := 15) (v := 0) hc dL_result_15 (by decide) ?_
    exact sw_iret (pc := 16) hc hlk hrt rfl ⟨congrArg (fun zq => some (Value.int zq)) ((z_kIn σ 9 x).resolve_right hk).symm, _, PO.put hPH hO hOo _, fun _ => pk_uLs⟩ (Nat.le_of_ble_eq_true rfl) (Nat.le_of_ble_eq_true rfl) dL_result_16
  · obtain ⟨hE, hPH⟩ := hX
    obtain ⟨rfl, hk⟩ := hE
    refine sx_catch (name := "java/lang/IndexOutOfBoundsException") hc [] ⟨0, 9, 12, 19⟩ [] (htb.trans rfl) (fun z hz => absurd hz List.not_mem_nil) (by decide) (by decide) kl_RL_19 cc_IndexOutOfBoundsException (fun q => ?_)
    refine sw_astore_n (pc := 12) hc dL_result_12 rfl (by decide) (lv' := [(3, .ref q), (0, .ref (ad 0 0)), (1, .int x), (2, .ref o)]) rfl ?_
    refine sw_iconst (pc := 13) (v := 1) hc dL_result_13 (by decide) ?_
    exact sw_iret (pc := 14) hc hlk hrt rfl ⟨congrArg (fun zq => some (Value.int zq)) hk.symm, _, PO.of hPH hO hOo, fun zq => absurd (hk.symm.trans zq) (by decide)⟩ (Nat.le_of_ble_eq_true rfl) (Nat.le_of_ble_eq_true rfl) dL_result_14
set_option maxHeartbeats 4000000 in
set_option maxRecDepth 100000 in
theorem c_L_used (l : Launch) (g : sg_G) (C : Nat → Option va_E) (ad : Ad) (own : Nat → Option (Nat × Nat)) (gh : Gh) (σ : Mem) (o : Nat) (fo : Nat → Int64) (x : Int32) (hQ : Pic g ad own gh σ C) (hW : WX σ) (hg : gOk gh) (hO : C o = some (sg_la g 1 fo)) (hOo : own o = none) (hst : l.stackTraces = false) : sg_MetH l yL_used cL_used 4 (some .int) [(0, 9, 12, 19)] 8 125 16 96 g [.ref (ad 0 0), .int x, .ref o] C (fun v C' => v = some (.int (kIn σ 9 x)) ∧ ∃ f', PO g (ad 0 0) own o C (fResult σ x) C' f' ∧ (kIn σ 9 x = 0 → f' 0 = (vUsed σ x).toInt64)) := by
  refine sg_ofWH (by decide) rfl ?_ (Nat.le_of_ble_eq_true rfl)
  intro p e s m below meth c hc hlk hrt htb
  have hc : sg_Cx p s m _ c cL_used 4 RL g := hc
  show sg_W p l e _ s m _ below meth c 4 g 0 0 _ C 0 [(0, .ref (ad 0 0)), (1, .int x), (2, .ref o)] []
  refine sw_aload_n (pc := 0) hc dL_used_0 rfl 2 rfl ?_
  refine sw_iconst (pc := 1) (v := 0) hc dL_used_1 (by decide) ?_
  refine sw_aload_n (pc := 2) hc dL_used_2 rfl 0 rfl ?_
  refine sw_iload_n (pc := 3) hc dL_used_3 rfl 1 rfl ?_
  refine sw_callV (pc := 4) (rest := [.int 0, .ref o]) hc (c_X7_used l g C ad own gh σ x hQ hW hg hst) md_X7_used ml_RL_34 im_X7_used sl_X7_used (hQ.at ct0) rfl rfl rfl (Nat.le_of_ble_eq_true rfl) dL_used_4 ⟨Nat.le_of_ble_eq_true rfl, Nat.le_of_ble_eq_true rfl, Nat.le_of_ble_eq_true rfl, Nat.le_of_ble_eq_true rfl⟩ (fun v C1 hP => ?_) (fun E C1 hX => ?_)
  · obtain ⟨rfl, hk, hPH⟩ := hP
    refine sw_st (st' := [.int (vUsed σ x), .int 0, .ref o]) rfl ?_
    refine sw_i2l (pc := 7) (v := (vUsed σ x).toInt64) hc dL_used_7 rfl ?_
    refine sw_last (pc := 8) (j := 0) hc (hPH.ou hO hOo) rfl (by decide) (by decide) dL_used_8 ?_
    refine sw_goto (pc := 9) (tgt := 15) hc dL_used_9 (by decide) ?_
    refine sw_iconst (pc := 15) (v := 0) hc dL_used_15 (by decide) ?_
    exact sw_iret (pc := 16) hc hlk hrt rfl ⟨congrArg (fun zq => some (Value.int zq)) ((z_kIn σ 9 x).resolve_right hk).symm, _, PO.put hPH hO hOo _, fun _ => pk_uLs⟩ (Nat.le_of_ble_eq_true rfl) (Nat.le_of_ble_eq_true rfl) dL_used_16
  · obtain ⟨hE, hPH⟩ := hX
    obtain ⟨rfl, hk⟩ := hE
    refine sx_catch (name := "java/lang/IndexOutOfBoundsException") hc [] ⟨0, 9, 12, 19⟩ [] (htb.trans rfl) (fun z hz => absurd hz List.not_mem_nil) (by decide) (by decide) kl_RL_19 cc_IndexOutOfBoundsException (fun q => ?_)
    refine sw_astore_n (pc := 12) hc dL_used_12 rfl (by decide) (lv' := [(3, .ref q), (0, .ref (ad 0 0)), (1, .int x), (2, .ref o)]) rfl ?_
    refine sw_iconst (pc := 13) (v := 1) hc dL_used_13 (by decide) ?_
    exact sw_iret (pc := 14) hc hlk hrt rfl ⟨congrArg (fun zq => some (Value.int zq)) hk.symm, _, PO.of hPH hO hOo, fun zq => absurd (hk.symm.trans zq) (by decide)⟩ (Nat.le_of_ble_eq_true rfl) (Nat.le_of_ble_eq_true rfl) dL_used_14
set_option maxHeartbeats 4000000 in
set_option maxRecDepth 100000 in
theorem c_L_where (l : Launch) (g : sg_G) (C : Nat → Option va_E) (ad : Ad) (own : Nat → Option (Nat × Nat)) (gh : Gh) (σ : Mem) (o : Nat) (fo : Nat → Int64) (x : Int32) (t : Int32) (hQ : Pic g ad own gh σ C) (hW : WX σ) (hg : gOk gh) (hO : C o = some (sg_la g 1 fo)) (hOo : own o = none) (hst : l.stackTraces = false) : sg_MetH l yL_where cL_where 5 (some .int) [(0, 10, 13, 19)] 8 142 16 96 g [.ref (ad 0 0), .int x, .int t, .ref o] C (fun v C' => v = some (.int (kWhere σ x t)) ∧ ∃ f', PO g (ad 0 0) own o C (fWhere σ x t) C' f' ∧ (kWhere σ x t = 0 → f' 0 = (vWhere σ x t).toInt64)) := by
  refine sg_ofWH (by decide) rfl ?_ (Nat.le_of_ble_eq_true rfl)
  intro p e s m below meth c hc hlk hrt htb
  have hc : sg_Cx p s m _ c cL_where 5 RL g := hc
  show sg_W p l e _ s m _ below meth c 5 g 0 0 _ C 0 [(0, .ref (ad 0 0)), (1, .int x), (2, .int t), (3, .ref o)] []
  refine sw_aload_n (pc := 0) hc dL_where_0 rfl 3 rfl ?_
  refine sw_iconst (pc := 1) (v := 0) hc dL_where_1 (by decide) ?_
  refine sw_aload_n (pc := 2) hc dL_where_2 rfl 0 rfl ?_
  refine sw_iload_n (pc := 3) hc dL_where_3 rfl 1 rfl ?_
  refine sw_iload_n (pc := 4) hc dL_where_4 rfl 2 rfl ?_
  refine sw_callV (pc := 5) (rest := [.int 0, .ref o]) hc (c_X7_where l g C ad own gh σ x t hQ hW hg hst) md_X7_where ml_RL_37 im_X7_where sl_X7_where (hQ.at ct0) rfl rfl rfl (Nat.le_of_ble_eq_true rfl) dL_where_5 ⟨Nat.le_of_ble_eq_true rfl, Nat.le_of_ble_eq_true rfl, Nat.le_of_ble_eq_true rfl, Nat.le_of_ble_eq_true rfl⟩ (fun v C1 hP => ?_) (fun E C1 hX => ?_)
  · obtain ⟨rfl, hk, hPH⟩ := hP
    refine sw_st (st' := [.int (vWhere σ x t), .int 0, .ref o]) rfl ?_
    refine sw_i2l (pc := 8) (v := (vWhere σ x t).toInt64) hc dL_where_8 rfl ?_
    refine sw_last (pc := 9) (j := 0) hc (hPH.ou hO hOo) rfl (by decide) (by decide) dL_where_9 ?_
    refine sw_goto (pc := 10) (tgt := 17) hc dL_where_10 (by decide) ?_
    refine sw_iconst (pc := 17) (v := 0) hc dL_where_17 (by decide) ?_
    exact sw_iret (pc := 18) hc hlk hrt rfl ⟨congrArg (fun zq => some (Value.int zq)) ((z_kWhere σ x t).resolve_right hk).symm, _, PO.put hPH hO hOo _, fun _ => pk_uLs⟩ (Nat.le_of_ble_eq_true rfl) (Nat.le_of_ble_eq_true rfl) dL_where_18
  · obtain ⟨hE, hPH⟩ := hX
    obtain ⟨rfl, hk⟩ := hE
    refine sx_catch (name := "java/lang/IndexOutOfBoundsException") hc [] ⟨0, 10, 13, 19⟩ [] (htb.trans rfl) (fun z hz => absurd hz List.not_mem_nil) (by decide) (by decide) kl_RL_19 cc_IndexOutOfBoundsException (fun q => ?_)
    refine sw_astore (pc := 13) hc dL_where_13 (by decide) (lv' := [(4, .ref q), (0, .ref (ad 0 0)), (1, .int x), (2, .int t), (3, .ref o)]) rfl ?_
    refine sw_iconst (pc := 15) (v := 1) hc dL_where_15 (by decide) ?_
    exact sw_iret (pc := 16) hc hlk hrt rfl ⟨congrArg (fun zq => some (Value.int zq)) hk.symm, _, PO.of hPH hO hOo, fun zq => absurd (hk.symm.trans zq) (by decide)⟩ (Nat.le_of_ble_eq_true rfl) (Nat.le_of_ble_eq_true rfl) dL_where_16
set_option maxHeartbeats 4000000 in
set_option maxRecDepth 100000 in
theorem c_L_category (l : Launch) (g : sg_G) (C : Nat → Option va_E) (ad : Ad) (own : Nat → Option (Nat × Nat)) (gh : Gh) (σ : Mem) (o : Nat) (fo : Nat → Int64) (x : Int32) (hQ : Pic g ad own gh σ C) (hW : WX σ) (hg : gOk gh) (hO : C o = some (sg_la g 1 fo)) (hOo : own o = none) (hst : l.stackTraces = false) : sg_MetH l yL_category cL_category 4 (some .int) [(0, 9, 12, 19), (0, 9, 15, 13)] 8 183 24 420 g [.ref (ad 0 0), .int x, .ref o] C (fun v C' => v = some (.int (kCategory σ x)) ∧ ∃ f', PO g (ad 0 0) own o C (fCategory σ x) C' f' ∧ (kCategory σ x = 0 → f' 0 = (vCategory σ x).toInt64)) := by
  refine sg_ofWH (by decide) rfl ?_ (Nat.le_of_ble_eq_true rfl)
  intro p e s m below meth c hc hlk hrt htb
  have hc : sg_Cx p s m _ c cL_category 4 RL g := hc
  show sg_W p l e _ s m _ below meth c 4 g 0 0 _ C 0 [(0, .ref (ad 0 0)), (1, .int x), (2, .ref o)] []
  refine sw_aload_n (pc := 0) hc dL_category_0 rfl 2 rfl ?_
  refine sw_iconst (pc := 1) (v := 0) hc dL_category_1 (by decide) ?_
  refine sw_aload_n (pc := 2) hc dL_category_2 rfl 0 rfl ?_
  refine sw_iload_n (pc := 3) hc dL_category_3 rfl 1 rfl ?_
  refine sw_callV (pc := 4) (rest := [.int 0, .ref o]) hc (c_X7_category l g C ad own gh σ x hQ hW hg hst) md_X7_category ml_RL_41 im_X7_category sl_X7_category (hQ.at ct0) rfl rfl rfl (Nat.le_of_ble_eq_true rfl) dL_category_4 ⟨Nat.le_of_ble_eq_true rfl, Nat.le_of_ble_eq_true rfl, Nat.le_of_ble_eq_true rfl, Nat.le_of_ble_eq_true rfl⟩ (fun v C1 hP => ?_) (fun E C1 hX => ?_)
  · obtain ⟨rfl, hk, hPH⟩ := hP
    refine sw_st (st' := [.int (vCategory σ x), .int 0, .ref o]) rfl ?_
    refine sw_i2l (pc := 7) (v := (vCategory σ x).toInt64) hc dL_category_7 rfl ?_
    refine sw_last (pc := 8) (j := 0) hc (hPH.ou hO hOo) rfl (by decide) (by decide) dL_category_8 ?_
    refine sw_goto (pc := 9) (tgt := 18) hc dL_category_9 (by decide) ?_
    refine sw_iconst (pc := 18) (v := 0) hc dL_category_18 (by decide) ?_
    exact sw_iret (pc := 19) hc hlk hrt rfl ⟨congrArg (fun zq => some (Value.int zq)) ((z_kCategory σ x).resolve_right hk).symm, _, PO.put hPH hO hOo _, fun _ => pk_uLs⟩ (Nat.le_of_ble_eq_true rfl) (Nat.le_of_ble_eq_true rfl) dL_category_19
  · obtain ⟨hE, hPH⟩ := hX
    rcases hE with ⟨rfl, hk⟩ | ⟨rfl, hk⟩
    · refine sx_catch (name := "java/lang/IndexOutOfBoundsException") hc [] ⟨0, 9, 12, 19⟩ [⟨0, 9, 15, 13⟩] (htb.trans rfl) (fun z hz => absurd hz List.not_mem_nil) (by decide) (by decide) kl_RL_19 cc_IndexOutOfBoundsException (fun q => ?_)
      refine sw_astore_n (pc := 12) hc dL_category_12 rfl (by decide) (lv' := [(3, .ref q), (0, .ref (ad 0 0)), (1, .int x), (2, .ref o)]) rfl ?_
      refine sw_iconst (pc := 13) (v := 1) hc dL_category_13 (by decide) ?_
      exact sw_iret (pc := 14) hc hlk hrt rfl ⟨congrArg (fun zq => some (Value.int zq)) hk.symm, _, PO.of hPH hO hOo, fun zq => absurd (hk.symm.trans zq) (by decide)⟩ (Nat.le_of_ble_eq_true rfl) (Nat.le_of_ble_eq_true rfl) dL_category_14
    · refine sx_catch (name := "java/lang/IllegalStateException") hc [⟨0, 9, 12, 19⟩] ⟨0, 9, 15, 13⟩ [] (htb.trans rfl) (List.forall_mem_cons.mpr ⟨(.inr ⟨by decide, "java/lang/IndexOutOfBoundsException", kl_RL_19, by decide +kernel⟩), fun _ h => absurd h List.not_mem_nil⟩) (by decide) (by decide) kl_RL_13 cc_IllegalStateException (fun q => ?_)
      refine sw_astore_n (pc := 15) hc dL_category_15 rfl (by decide) (lv' := [(3, .ref q), (0, .ref (ad 0 0)), (1, .int x), (2, .ref o)]) rfl ?_
      refine sw_iconst (pc := 16) (v := 2) hc dL_category_16 (by decide) ?_
      exact sw_iret (pc := 17) hc hlk hrt rfl ⟨congrArg (fun zq => some (Value.int zq)) hk.symm, _, PO.of hPH hO hOo, fun zq => absurd (hk.symm.trans zq) (by decide)⟩ (Nat.le_of_ble_eq_true rfl) (Nat.le_of_ble_eq_true rfl) dL_category_17
set_option maxHeartbeats 4000000 in
set_option maxRecDepth 100000 in
theorem c_L_rule (l : Launch) (g : sg_G) (C : Nat → Option va_E) (ad : Ad) (own : Nat → Option (Nat × Nat)) (gh : Gh) (σ : Mem) (o : Nat) (fo : Nat → Int64) (x : Int32) (d : Int32) (f : Int32) (pu : Int32) (j : Int32) (hQ : Pic g ad own gh σ C) (hW : WX σ) (hg : gOk gh) (hO : C o = some (sg_la g 1 fo)) (hOo : own o = none) (hst : l.stackTraces = false) : sg_MetH l yL_rule cL_rule 8 (some .int) [(0, 16, 19, 19), (0, 16, 23, 21), (0, 16, 27, 13)] 8 187 24 420 g [.ref (ad 0 0), .int x, .int d, .int f, .int pu, .int j, .ref o] C (fun v C' => v = some (.int (kRule σ x d f pu j)) ∧ ∃ f', PO g (ad 0 0) own o C (fRule σ x d f pu j) C' f' ∧ (kRule σ x d f pu j = 0 → f' 0 = (vRule σ x d f pu j).toInt64)) := by
  refine sg_ofWH (by decide) rfl ?_ (Nat.le_of_ble_eq_true rfl)
  intro p e s m below meth c hc hlk hrt htb
  have hc : sg_Cx p s m _ c cL_rule 8 RL g := hc
  show sg_W p l e _ s m _ below meth c 8 g 0 0 _ C 0 [(0, .ref (ad 0 0)), (1, .int x), (2, .int d), (3, .int f), (4, .int pu), (5, .int j), (6, .ref o)] []
  refine sw_aload (pc := 0) hc dL_rule_0 6 rfl ?_
  refine sw_iconst (pc := 2) (v := 0) hc dL_rule_2 (by decide) ?_
  refine sw_aload_n (pc := 3) hc dL_rule_3 rfl 0 rfl ?_
  refine sw_iload_n (pc := 4) hc dL_rule_4 rfl 1 rfl ?_
  refine sw_iload_n (pc := 5) hc dL_rule_5 rfl 2 rfl ?_
  refine sw_iload_n (pc := 6) hc dL_rule_6 rfl 3 rfl ?_
  refine sw_iload (pc := 7) hc dL_rule_7 4 rfl ?_
  refine sw_iload (pc := 9) hc dL_rule_9 5 rfl ?_
  refine sw_callV (pc := 11) (rest := [.int 0, .ref o]) hc (c_X7_rule l g C ad own gh σ x d f pu j hQ hW hg hst) md_X7_rule ml_RL_44 im_X7_rule sl_X7_rule (hQ.at ct0) rfl rfl rfl (Nat.le_of_ble_eq_true rfl) dL_rule_11 ⟨Nat.le_of_ble_eq_true rfl, Nat.le_of_ble_eq_true rfl, Nat.le_of_ble_eq_true rfl, Nat.le_of_ble_eq_true rfl⟩ (fun v C1 hP => ?_) (fun E C1 hX => ?_)
  · obtain ⟨rfl, hk, hPH⟩ := hP
    refine sw_st (st' := [.int (vRule σ x d f pu j), .int 0, .ref o]) rfl ?_
    refine sw_i2l (pc := 14) (v := (vRule σ x d f pu j).toInt64) hc dL_rule_14 rfl ?_
    refine sw_last (pc := 15) (j := 0) hc (hPH.ou hO hOo) rfl (by decide) (by decide) dL_rule_15 ?_
    refine sw_goto (pc := 16) (tgt := 31) hc dL_rule_16 (by decide) ?_
    refine sw_iconst (pc := 31) (v := 0) hc dL_rule_31 (by decide) ?_
    exact sw_iret (pc := 32) hc hlk hrt rfl ⟨congrArg (fun zq => some (Value.int zq)) ((z_kRule σ x d f pu j).resolve_right hk).symm, _, PO.put hPH hO hOo _, fun _ => pk_uLs⟩ (Nat.le_of_ble_eq_true rfl) (Nat.le_of_ble_eq_true rfl) dL_rule_32
  · obtain ⟨hE, hPH⟩ := hX
    rcases hE with ⟨rfl, hk⟩ | ⟨rfl, hk⟩ | ⟨rfl, hk⟩
    · refine sx_catch (name := "java/lang/IndexOutOfBoundsException") hc [] ⟨0, 16, 19, 19⟩ [⟨0, 16, 23, 21⟩, ⟨0, 16, 27, 13⟩] (htb.trans rfl) (fun z hz => absurd hz List.not_mem_nil) (by decide) (by decide) kl_RL_19 cc_IndexOutOfBoundsException (fun q => ?_)
      refine sw_astore (pc := 19) hc dL_rule_19 (by decide) (lv' := [(7, .ref q), (0, .ref (ad 0 0)), (1, .int x), (2, .int d), (3, .int f), (4, .int pu), (5, .int j), (6, .ref o)]) rfl ?_
      refine sw_iconst (pc := 21) (v := 1) hc dL_rule_21 (by decide) ?_
      exact sw_iret (pc := 22) hc hlk hrt rfl ⟨congrArg (fun zq => some (Value.int zq)) hk.symm, _, PO.of hPH hO hOo, fun zq => absurd (hk.symm.trans zq) (by decide)⟩ (Nat.le_of_ble_eq_true rfl) (Nat.le_of_ble_eq_true rfl) dL_rule_22
    · refine sx_catch (name := "java/lang/IllegalArgumentException") hc [⟨0, 16, 19, 19⟩] ⟨0, 16, 23, 21⟩ [⟨0, 16, 27, 13⟩] (htb.trans rfl) (List.forall_mem_cons.mpr ⟨(.inr ⟨by decide, "java/lang/IndexOutOfBoundsException", kl_RL_19, by decide +kernel⟩), fun _ h => absurd h List.not_mem_nil⟩) (by decide) (by decide) kl_RL_21 cc_IllegalArgumentException (fun q => ?_)
      refine sw_astore (pc := 23) hc dL_rule_23 (by decide) (lv' := [(7, .ref q), (0, .ref (ad 0 0)), (1, .int x), (2, .int d), (3, .int f), (4, .int pu), (5, .int j), (6, .ref o)]) rfl ?_
      refine sw_iconst (pc := 25) (v := 2) hc dL_rule_25 (by decide) ?_
      exact sw_iret (pc := 26) hc hlk hrt rfl ⟨congrArg (fun zq => some (Value.int zq)) hk.symm, _, PO.of hPH hO hOo, fun zq => absurd (hk.symm.trans zq) (by decide)⟩ (Nat.le_of_ble_eq_true rfl) (Nat.le_of_ble_eq_true rfl) dL_rule_26
    · refine sx_catch (name := "java/lang/IllegalStateException") hc [⟨0, 16, 19, 19⟩, ⟨0, 16, 23, 21⟩] ⟨0, 16, 27, 13⟩ [] (htb.trans rfl) (List.forall_mem_cons.mpr ⟨(.inr ⟨by decide, "java/lang/IndexOutOfBoundsException", kl_RL_19, by decide +kernel⟩), List.forall_mem_cons.mpr ⟨(.inr ⟨by decide, "java/lang/IllegalArgumentException", kl_RL_21, by decide +kernel⟩), fun _ h => absurd h List.not_mem_nil⟩⟩) (by decide) (by decide) kl_RL_13 cc_IllegalStateException (fun q => ?_)
      refine sw_astore (pc := 27) hc dL_rule_27 (by decide) (lv' := [(7, .ref q), (0, .ref (ad 0 0)), (1, .int x), (2, .int d), (3, .int f), (4, .int pu), (5, .int j), (6, .ref o)]) rfl ?_
      refine sw_iconst (pc := 29) (v := 3) hc dL_rule_29 (by decide) ?_
      exact sw_iret (pc := 30) hc hlk hrt rfl ⟨congrArg (fun zq => some (Value.int zq)) hk.symm, _, PO.of hPH hO hOo, fun zq => absurd (hk.symm.trans zq) (by decide)⟩ (Nat.le_of_ble_eq_true rfl) (Nat.le_of_ble_eq_true rfl) dL_rule_30
set_option maxHeartbeats 4000000 in
set_option maxRecDepth 100000 in
theorem c_L_pass (l : Launch) (g : sg_G) (C : Nat → Option va_E) (ad : Ad) (own : Nat → Option (Nat × Nat)) (gh : Gh) (σ : Mem) (o : Nat) (fo : Nat → Int64) (x : Int32) (hQ : Pic g ad own gh σ C) (hW : WX σ) (hg : gOk gh) (hO : C o = some (sg_la g 1 fo)) (hOo : own o = none) (hst : l.stackTraces = false) : sg_MetH l yL_pass cL_pass 4 (some .int) [(0, 9, 12, 21), (0, 9, 15, 13)] 8 123 16 96 g [.ref (ad 0 0), .int x, .ref o] C (fun v C' => v = some (.int (kPass σ x)) ∧ ∃ f', PO g (ad 0 0) own o C (fPass σ x) C' f' ∧ (kPass σ x = 0 → f' 0 = (vPass σ x).toInt64)) := by
  refine sg_ofWH (by decide) rfl ?_ (Nat.le_of_ble_eq_true rfl)
  intro p e s m below meth c hc hlk hrt htb
  have hc : sg_Cx p s m _ c cL_pass 4 RL g := hc
  show sg_W p l e _ s m _ below meth c 4 g 0 0 _ C 0 [(0, .ref (ad 0 0)), (1, .int x), (2, .ref o)] []
  refine sw_aload_n (pc := 0) hc dL_pass_0 rfl 2 rfl ?_
  refine sw_iconst (pc := 1) (v := 0) hc dL_pass_1 (by decide) ?_
  refine sw_aload_n (pc := 2) hc dL_pass_2 rfl 0 rfl ?_
  refine sw_iload_n (pc := 3) hc dL_pass_3 rfl 1 rfl ?_
  refine sw_callV (pc := 4) (rest := [.int 0, .ref o]) hc (c_X7_pass l g C ad own gh σ x hQ hW hg hst) md_X7_pass ml_RL_48 im_X7_pass sl_X7_pass (hQ.at ct0) rfl rfl rfl (Nat.le_of_ble_eq_true rfl) dL_pass_4 ⟨Nat.le_of_ble_eq_true rfl, Nat.le_of_ble_eq_true rfl, Nat.le_of_ble_eq_true rfl, Nat.le_of_ble_eq_true rfl⟩ (fun v C1 hP => ?_) (fun E C1 hX => ?_)
  · obtain ⟨rfl, hk, hPH⟩ := hP
    refine sw_st (st' := [.int (vPass σ x), .int 0, .ref o]) rfl ?_
    refine sw_i2l (pc := 7) (v := (vPass σ x).toInt64) hc dL_pass_7 rfl ?_
    refine sw_last (pc := 8) (j := 0) hc (hPH.ou hO hOo) rfl (by decide) (by decide) dL_pass_8 ?_
    refine sw_goto (pc := 9) (tgt := 18) hc dL_pass_9 (by decide) ?_
    refine sw_iconst (pc := 18) (v := 0) hc dL_pass_18 (by decide) ?_
    exact sw_iret (pc := 19) hc hlk hrt rfl ⟨congrArg (fun zq => some (Value.int zq)) ((z_kPass σ x).resolve_right hk).symm, _, PO.put hPH hO hOo _, fun _ => pk_uLs⟩ (Nat.le_of_ble_eq_true rfl) (Nat.le_of_ble_eq_true rfl) dL_pass_19
  · obtain ⟨hE, hPH⟩ := hX
    rcases hE with ⟨rfl, hk⟩ | ⟨rfl, hk⟩
    · refine sx_catch (name := "java/lang/IllegalArgumentException") hc [] ⟨0, 9, 12, 21⟩ [⟨0, 9, 15, 13⟩] (htb.trans rfl) (fun z hz => absurd hz List.not_mem_nil) (by decide) (by decide) kl_RL_21 cc_IllegalArgumentException (fun q => ?_)
      refine sw_astore_n (pc := 12) hc dL_pass_12 rfl (by decide) (lv' := [(3, .ref q), (0, .ref (ad 0 0)), (1, .int x), (2, .ref o)]) rfl ?_
      refine sw_iconst (pc := 13) (v := 1) hc dL_pass_13 (by decide) ?_
      exact sw_iret (pc := 14) hc hlk hrt rfl ⟨congrArg (fun zq => some (Value.int zq)) hk.symm, _, PO.of hPH hO hOo, fun zq => absurd (hk.symm.trans zq) (by decide)⟩ (Nat.le_of_ble_eq_true rfl) (Nat.le_of_ble_eq_true rfl) dL_pass_14
    · refine sx_catch (name := "java/lang/IllegalStateException") hc [⟨0, 9, 12, 21⟩] ⟨0, 9, 15, 13⟩ [] (htb.trans rfl) (List.forall_mem_cons.mpr ⟨(.inr ⟨by decide, "java/lang/IllegalArgumentException", kl_RL_21, by decide +kernel⟩), fun _ h => absurd h List.not_mem_nil⟩) (by decide) (by decide) kl_RL_13 cc_IllegalStateException (fun q => ?_)
      refine sw_astore_n (pc := 15) hc dL_pass_15 rfl (by decide) (lv' := [(3, .ref q), (0, .ref (ad 0 0)), (1, .int x), (2, .ref o)]) rfl ?_
      refine sw_iconst (pc := 16) (v := 2) hc dL_pass_16 (by decide) ?_
      exact sw_iret (pc := 17) hc hlk hrt rfl ⟨congrArg (fun zq => some (Value.int zq)) hk.symm, _, PO.of hPH hO hOo, fun zq => absurd (hk.symm.trans zq) (by decide)⟩ (Nat.le_of_ble_eq_true rfl) (Nat.le_of_ble_eq_true rfl) dL_pass_17
set_option maxHeartbeats 4000000 in
set_option maxRecDepth 100000 in
theorem c_L_submit (l : Launch) (g : sg_G) (C : Nat → Option va_E) (ad : Ad) (own : Nat → Option (Nat × Nat)) (gh : Gh) (σ : Mem) (o : Nat) (fo : Nat → Int64) (x : Int32) (y : Int32) (z : Int32) (hQ : Pic g ad own gh σ C) (hW : WX σ) (hg : gOk gh) (hO : C o = some (sg_la g 1 fo)) (hOo : own o = none) (hst : l.stackTraces = false) : sg_MetH l yL_submit cL_submit 6 (some .int) [(0, 12, 15, 19), (0, 12, 19, 21), (0, 12, 23, 13)] 8 187 24 420 g [.ref (ad 0 0), .int x, .int y, .int z, .ref o] C (fun v C' => v = some (.int (kSubmit σ (rSub σ x y z) x y z)) ∧ ∃ f', PO g (ad 0 0) own o C (fSubmit σ x y z) C' f' ∧ (kSubmit σ (rSub σ x y z) x y z = 0 → f' 0 = (vSubmit σ x y z).toInt64)) := by
  refine sg_ofWH (by decide) rfl ?_ (Nat.le_of_ble_eq_true rfl)
  intro p e s m below meth c hc hlk hrt htb
  have hc : sg_Cx p s m _ c cL_submit 6 RL g := hc
  show sg_W p l e _ s m _ below meth c 6 g 0 0 _ C 0 [(0, .ref (ad 0 0)), (1, .int x), (2, .int y), (3, .int z), (4, .ref o)] []
  refine sw_aload (pc := 0) hc dL_submit_0 4 rfl ?_
  refine sw_iconst (pc := 2) (v := 0) hc dL_submit_2 (by decide) ?_
  refine sw_aload_n (pc := 3) hc dL_submit_3 rfl 0 rfl ?_
  refine sw_iload_n (pc := 4) hc dL_submit_4 rfl 1 rfl ?_
  refine sw_iload_n (pc := 5) hc dL_submit_5 rfl 2 rfl ?_
  refine sw_iload_n (pc := 6) hc dL_submit_6 rfl 3 rfl ?_
  refine sw_callV (pc := 7) (rest := [.int 0, .ref o]) hc (c_X7_submit l g C ad own gh σ x y z hQ hW hg hst) md_X7_submit ml_RL_51 im_X7_submit sl_X7_submit (hQ.at ct0) rfl rfl rfl (Nat.le_of_ble_eq_true rfl) dL_submit_7 ⟨Nat.le_of_ble_eq_true rfl, Nat.le_of_ble_eq_true rfl, Nat.le_of_ble_eq_true rfl, Nat.le_of_ble_eq_true rfl⟩ (fun v C1 hP => ?_) (fun E C1 hX => ?_)
  · obtain ⟨rfl, hk, hPH⟩ := hP
    refine sw_st (st' := [.int (vSubmit σ x y z), .int 0, .ref o]) rfl ?_
    refine sw_i2l (pc := 10) (v := (vSubmit σ x y z).toInt64) hc dL_submit_10 rfl ?_
    refine sw_last (pc := 11) (j := 0) hc (hPH.ou hO hOo) rfl (by decide) (by decide) dL_submit_11 ?_
    refine sw_goto (pc := 12) (tgt := 27) hc dL_submit_12 (by decide) ?_
    refine sw_iconst (pc := 27) (v := 0) hc dL_submit_27 (by decide) ?_
    exact sw_iret (pc := 28) hc hlk hrt rfl ⟨congrArg (fun zq => some (Value.int zq)) ((z_kSubmit σ (rSub σ x y z) x y z).resolve_right hk).symm, _, PO.put hPH hO hOo _, fun _ => pk_uLs⟩ (Nat.le_of_ble_eq_true rfl) (Nat.le_of_ble_eq_true rfl) dL_submit_28
  · obtain ⟨hE, hPH⟩ := hX
    rcases hE with ⟨rfl, hk⟩ | ⟨rfl, hk⟩ | ⟨rfl, hk⟩
    · refine sx_catch (name := "java/lang/IndexOutOfBoundsException") hc [] ⟨0, 12, 15, 19⟩ [⟨0, 12, 19, 21⟩, ⟨0, 12, 23, 13⟩] (htb.trans rfl) (fun z hz => absurd hz List.not_mem_nil) (by decide) (by decide) kl_RL_19 cc_IndexOutOfBoundsException (fun q => ?_)
      refine sw_astore (pc := 15) hc dL_submit_15 (by decide) (lv' := [(5, .ref q), (0, .ref (ad 0 0)), (1, .int x), (2, .int y), (3, .int z), (4, .ref o)]) rfl ?_
      refine sw_iconst (pc := 17) (v := 1) hc dL_submit_17 (by decide) ?_
      exact sw_iret (pc := 18) hc hlk hrt rfl ⟨congrArg (fun zq => some (Value.int zq)) hk.symm, _, PO.of hPH hO hOo, fun zq => absurd (hk.symm.trans zq) (by decide)⟩ (Nat.le_of_ble_eq_true rfl) (Nat.le_of_ble_eq_true rfl) dL_submit_18
    · refine sx_catch (name := "java/lang/IllegalArgumentException") hc [⟨0, 12, 15, 19⟩] ⟨0, 12, 19, 21⟩ [⟨0, 12, 23, 13⟩] (htb.trans rfl) (List.forall_mem_cons.mpr ⟨(.inr ⟨by decide, "java/lang/IndexOutOfBoundsException", kl_RL_19, by decide +kernel⟩), fun _ h => absurd h List.not_mem_nil⟩) (by decide) (by decide) kl_RL_21 cc_IllegalArgumentException (fun q => ?_)
      refine sw_astore (pc := 19) hc dL_submit_19 (by decide) (lv' := [(5, .ref q), (0, .ref (ad 0 0)), (1, .int x), (2, .int y), (3, .int z), (4, .ref o)]) rfl ?_
      refine sw_iconst (pc := 21) (v := 2) hc dL_submit_21 (by decide) ?_
      exact sw_iret (pc := 22) hc hlk hrt rfl ⟨congrArg (fun zq => some (Value.int zq)) hk.symm, _, PO.of hPH hO hOo, fun zq => absurd (hk.symm.trans zq) (by decide)⟩ (Nat.le_of_ble_eq_true rfl) (Nat.le_of_ble_eq_true rfl) dL_submit_22
    · refine sx_catch (name := "java/lang/IllegalStateException") hc [⟨0, 12, 15, 19⟩, ⟨0, 12, 19, 21⟩] ⟨0, 12, 23, 13⟩ [] (htb.trans rfl) (List.forall_mem_cons.mpr ⟨(.inr ⟨by decide, "java/lang/IndexOutOfBoundsException", kl_RL_19, by decide +kernel⟩), List.forall_mem_cons.mpr ⟨(.inr ⟨by decide, "java/lang/IllegalArgumentException", kl_RL_21, by decide +kernel⟩), fun _ h => absurd h List.not_mem_nil⟩⟩) (by decide) (by decide) kl_RL_13 cc_IllegalStateException (fun q => ?_)
      refine sw_astore (pc := 23) hc dL_submit_23 (by decide) (lv' := [(5, .ref q), (0, .ref (ad 0 0)), (1, .int x), (2, .int y), (3, .int z), (4, .ref o)]) rfl ?_
      refine sw_iconst (pc := 25) (v := 3) hc dL_submit_25 (by decide) ?_
      exact sw_iret (pc := 26) hc hlk hrt rfl ⟨congrArg (fun zq => some (Value.int zq)) hk.symm, _, PO.of hPH hO hOo, fun zq => absurd (hk.symm.trans zq) (by decide)⟩ (Nat.le_of_ble_eq_true rfl) (Nat.le_of_ble_eq_true rfl) dL_submit_26
set_option maxHeartbeats 4000000 in
set_option maxRecDepth 100000 in
theorem c_L_judged (l : Launch) (g : sg_G) (C : Nat → Option va_E) (ad : Ad) (own : Nat → Option (Nat × Nat)) (gh : Gh) (σ : Mem) (o : Nat) (fo : Nat → Int64) (x : Int32) (hQ : Pic g ad own gh σ C) (hW : WX σ) (hg : gOk gh) (hO : C o = some (sg_la g 1 fo)) (hOo : own o = none) (hst : l.stackTraces = false) : sg_MetH l yL_judged cL_judged 4 (some .int) [(0, 9, 12, 19)] 8 134 16 96 g [.ref (ad 0 0), .int x, .ref o] C (fun v C' => v = some (.int (kIn σ 26 x)) ∧ ∃ f', PO g (ad 0 0) own o C (fIn σ 26 x) C' f' ∧ (kIn σ 26 x = 0 → f' 0 = (vJudged σ x).toInt64)) := by
  refine sg_ofWH (by decide) rfl ?_ (Nat.le_of_ble_eq_true rfl)
  intro p e s m below meth c hc hlk hrt htb
  have hc : sg_Cx p s m _ c cL_judged 4 RL g := hc
  show sg_W p l e _ s m _ below meth c 4 g 0 0 _ C 0 [(0, .ref (ad 0 0)), (1, .int x), (2, .ref o)] []
  refine sw_aload_n (pc := 0) hc dL_judged_0 rfl 2 rfl ?_
  refine sw_iconst (pc := 1) (v := 0) hc dL_judged_1 (by decide) ?_
  refine sw_aload_n (pc := 2) hc dL_judged_2 rfl 0 rfl ?_
  refine sw_iload_n (pc := 3) hc dL_judged_3 rfl 1 rfl ?_
  refine sw_callV (pc := 4) (rest := [.int 0, .ref o]) hc (c_X7_judged l g C ad own gh σ x hQ hW hg hst) md_X7_judged ml_RL_54 im_X7_judged sl_X7_judged (hQ.at ct0) rfl rfl rfl (Nat.le_of_ble_eq_true rfl) dL_judged_4 ⟨Nat.le_of_ble_eq_true rfl, Nat.le_of_ble_eq_true rfl, Nat.le_of_ble_eq_true rfl, Nat.le_of_ble_eq_true rfl⟩ (fun v C1 hP => ?_) (fun E C1 hX => ?_)
  · obtain ⟨rfl, hk, hPH⟩ := hP
    refine sw_st (st' := [.int (vJudged σ x), .int 0, .ref o]) rfl ?_
    refine sw_i2l (pc := 7) (v := (vJudged σ x).toInt64) hc dL_judged_7 rfl ?_
    refine sw_last (pc := 8) (j := 0) hc (hPH.ou hO hOo) rfl (by decide) (by decide) dL_judged_8 ?_
    refine sw_goto (pc := 9) (tgt := 15) hc dL_judged_9 (by decide) ?_
    refine sw_iconst (pc := 15) (v := 0) hc dL_judged_15 (by decide) ?_
    exact sw_iret (pc := 16) hc hlk hrt rfl ⟨congrArg (fun zq => some (Value.int zq)) ((z_kIn σ 26 x).resolve_right hk).symm, _, PO.put hPH hO hOo _, fun _ => pk_uLs⟩ (Nat.le_of_ble_eq_true rfl) (Nat.le_of_ble_eq_true rfl) dL_judged_16
  · obtain ⟨hE, hPH⟩ := hX
    obtain ⟨rfl, hk⟩ := hE
    refine sx_catch (name := "java/lang/IndexOutOfBoundsException") hc [] ⟨0, 9, 12, 19⟩ [] (htb.trans rfl) (fun z hz => absurd hz List.not_mem_nil) (by decide) (by decide) kl_RL_19 cc_IndexOutOfBoundsException (fun q => ?_)
    refine sw_astore_n (pc := 12) hc dL_judged_12 rfl (by decide) (lv' := [(3, .ref q), (0, .ref (ad 0 0)), (1, .int x), (2, .ref o)]) rfl ?_
    refine sw_iconst (pc := 13) (v := 1) hc dL_judged_13 (by decide) ?_
    exact sw_iret (pc := 14) hc hlk hrt rfl ⟨congrArg (fun zq => some (Value.int zq)) hk.symm, _, PO.of hPH hO hOo, fun zq => absurd (hk.symm.trans zq) (by decide)⟩ (Nat.le_of_ble_eq_true rfl) (Nat.le_of_ble_eq_true rfl) dL_judged_14
set_option maxHeartbeats 4000000 in
set_option maxRecDepth 100000 in
theorem c_L_strike (l : Launch) (g : sg_G) (C : Nat → Option va_E) (ad : Ad) (own : Nat → Option (Nat × Nat)) (gh : Gh) (σ : Mem) (o : Nat) (fo : Nat → Int64) (x : Int32) (hQ : Pic g ad own gh σ C) (hW : WX σ) (hg : gOk gh) (hO : C o = some (sg_la g 1 fo)) (hOo : own o = none) (hst : l.stackTraces = false) : sg_MetH l yL_strike cL_strike 4 (some .int) [(0, 16, 19, 19)] 8 125 16 96 g [.ref (ad 0 0), .int x, .ref o] C (fun v C' => v = some (.int (kIn σ 26 x)) ∧ ∃ f', PO g (ad 0 0) own o C (fStrike σ x) C' f' ∧ (kIn σ 26 x = 0 → f' 0 = if pStrike σ x then 1 else 0)) := by
  refine sg_ofWH (by decide) rfl ?_ (Nat.le_of_ble_eq_true rfl)
  intro p e s m below meth c hc hlk hrt htb
  have hc : sg_Cx p s m _ c cL_strike 4 RL g := hc
  show sg_W p l e _ s m _ below meth c 4 g 0 0 _ C 0 [(0, .ref (ad 0 0)), (1, .int x), (2, .ref o)] []
  refine sw_aload_n (pc := 0) hc dL_strike_0 rfl 2 rfl ?_
  refine sw_iconst (pc := 1) (v := 0) hc dL_strike_1 (by decide) ?_
  refine sw_aload_n (pc := 2) hc dL_strike_2 rfl 0 rfl ?_
  refine sw_iload_n (pc := 3) hc dL_strike_3 rfl 1 rfl ?_
  refine sw_callV (pc := 4) (rest := [.int 0, .ref o]) hc (c_X7_strike l g C ad own gh σ x hQ hW hg hst) md_X7_strike ml_RL_57 im_X7_strike sl_X7_strike (hQ.at ct0) rfl rfl rfl (Nat.le_of_ble_eq_true rfl) dL_strike_4 ⟨Nat.le_of_ble_eq_true rfl, Nat.le_of_ble_eq_true rfl, Nat.le_of_ble_eq_true rfl, Nat.le_of_ble_eq_true rfl⟩ (fun v C1 hP => ?_) (fun E C1 hX => ?_)
  · obtain ⟨rfl, hk, hPH⟩ := hP
    refine sw_st (st' := [.int (bI (pStrike σ x)), .int 0, .ref o]) rfl ?_
    refine sw_if_eq (pc := 7) (tgt := 14) hc dL_strike_7 (by decide) (fun c1 => ?_) (fun c1 => ?_)
    · refine sw_lconst (pc := 14) (n := 0) (v := 0) hc dL_strike_14 rfl ?_
      refine sw_last (pc := 15) (j := 0) hc (hPH.ou hO hOo) rfl (by decide) (by decide) dL_strike_15 ?_
      refine sw_goto (pc := 16) (tgt := 22) hc dL_strike_16 (by decide) ?_
      refine sw_iconst (pc := 22) (v := 0) hc dL_strike_22 (by decide) ?_
      exact sw_iret (pc := 23) hc hlk hrt rfl ⟨congrArg (fun zq => some (Value.int zq)) ((z_kIn σ 26 x).resolve_right hk).symm, _, PO.put hPH hO hOo _, fun _ => pk_uLs.trans (if_neg (bI_0 c1)).symm⟩ (Nat.le_of_ble_eq_true rfl) (Nat.le_of_ble_eq_true rfl) dL_strike_23
    · refine sw_lconst (pc := 10) (n := 1) (v := 1) hc dL_strike_10 rfl ?_
      refine sw_goto (pc := 11) (tgt := 15) hc dL_strike_11 (by decide) ?_
      refine sw_last (pc := 15) (j := 0) hc (hPH.ou hO hOo) rfl (by decide) (by decide) dL_strike_15 ?_
      refine sw_goto (pc := 16) (tgt := 22) hc dL_strike_16 (by decide) ?_
      refine sw_iconst (pc := 22) (v := 0) hc dL_strike_22 (by decide) ?_
      exact sw_iret (pc := 23) hc hlk hrt rfl ⟨congrArg (fun zq => some (Value.int zq)) ((z_kIn σ 26 x).resolve_right hk).symm, _, PO.put hPH hO hOo _, fun _ => pk_uLs.trans (if_pos (bI_n c1)).symm⟩ (Nat.le_of_ble_eq_true rfl) (Nat.le_of_ble_eq_true rfl) dL_strike_23
  · obtain ⟨hE, hPH⟩ := hX
    obtain ⟨rfl, hk⟩ := hE
    refine sx_catch (name := "java/lang/IndexOutOfBoundsException") hc [] ⟨0, 16, 19, 19⟩ [] (htb.trans rfl) (fun z hz => absurd hz List.not_mem_nil) (by decide) (by decide) kl_RL_19 cc_IndexOutOfBoundsException (fun q => ?_)
    refine sw_astore_n (pc := 19) hc dL_strike_19 rfl (by decide) (lv' := [(3, .ref q), (0, .ref (ad 0 0)), (1, .int x), (2, .ref o)]) rfl ?_
    refine sw_iconst (pc := 20) (v := 1) hc dL_strike_20 (by decide) ?_
    exact sw_iret (pc := 21) hc hlk hrt rfl ⟨congrArg (fun zq => some (Value.int zq)) hk.symm, _, PO.of hPH hO hOo, fun zq => absurd (hk.symm.trans zq) (by decide)⟩ (Nat.le_of_ble_eq_true rfl) (Nat.le_of_ble_eq_true rfl) dL_strike_21
set_option maxHeartbeats 4000000 in
set_option maxRecDepth 100000 in
theorem c_L_best (l : Launch) (g : sg_G) (C : Nat → Option va_E) (ad : Ad) (own : Nat → Option (Nat × Nat)) (gh : Gh) (σ : Mem) (o : Nat) (fo : Nat → Int64) (x : Int32) (y : Int32) (hQ : Pic g ad own gh σ C) (hW : WX σ) (hg : gOk gh) (hO : C o = some (sg_la g 1 fo)) (hOo : own o = none) (hst : l.stackTraces = false) : sg_MetH l yL_best cL_best 5 (some .int) [(0, 10, 13, 19)] 8 180 16 96 g [.ref (ad 0 0), .int x, .int y, .ref o] C (fun v C' => v = some (.int (kPair σ x y)) ∧ ∃ f', PO g (ad 0 0) own o C (fPair σ x y) C' f' ∧ (kPair σ x y = 0 → f' 0 = (vBest2 σ x y).toInt64)) := by
  refine sg_ofWH (by decide) rfl ?_ (Nat.le_of_ble_eq_true rfl)
  intro p e s m below meth c hc hlk hrt htb
  have hc : sg_Cx p s m _ c cL_best 5 RL g := hc
  show sg_W p l e _ s m _ below meth c 5 g 0 0 _ C 0 [(0, .ref (ad 0 0)), (1, .int x), (2, .int y), (3, .ref o)] []
  refine sw_aload_n (pc := 0) hc dL_best_0 rfl 3 rfl ?_
  refine sw_iconst (pc := 1) (v := 0) hc dL_best_1 (by decide) ?_
  refine sw_aload_n (pc := 2) hc dL_best_2 rfl 0 rfl ?_
  refine sw_iload_n (pc := 3) hc dL_best_3 rfl 1 rfl ?_
  refine sw_iload_n (pc := 4) hc dL_best_4 rfl 2 rfl ?_
  refine sw_callV (pc := 5) (rest := [.int 0, .ref o]) hc (c_X7_best l g C ad own gh σ x y hQ hW hg hst) md_X7_best ml_RL_61 im_X7_best sl_X7_best (hQ.at ct0) rfl rfl rfl (Nat.le_of_ble_eq_true rfl) dL_best_5 ⟨Nat.le_of_ble_eq_true rfl, Nat.le_of_ble_eq_true rfl, Nat.le_of_ble_eq_true rfl, Nat.le_of_ble_eq_true rfl⟩ (fun v C1 hP => ?_) (fun E C1 hX => ?_)
  · obtain ⟨rfl, hk, hPH⟩ := hP
    refine sw_st (st' := [.int (vBest2 σ x y), .int 0, .ref o]) rfl ?_
    refine sw_i2l (pc := 8) (v := (vBest2 σ x y).toInt64) hc dL_best_8 rfl ?_
    refine sw_last (pc := 9) (j := 0) hc (hPH.ou hO hOo) rfl (by decide) (by decide) dL_best_9 ?_
    refine sw_goto (pc := 10) (tgt := 17) hc dL_best_10 (by decide) ?_
    refine sw_iconst (pc := 17) (v := 0) hc dL_best_17 (by decide) ?_
    exact sw_iret (pc := 18) hc hlk hrt rfl ⟨congrArg (fun zq => some (Value.int zq)) ((z_kPair σ x y).resolve_right hk).symm, _, PO.put hPH hO hOo _, fun _ => pk_uLs⟩ (Nat.le_of_ble_eq_true rfl) (Nat.le_of_ble_eq_true rfl) dL_best_18
  · obtain ⟨hE, hPH⟩ := hX
    obtain ⟨rfl, hk⟩ := hE
    refine sx_catch (name := "java/lang/IndexOutOfBoundsException") hc [] ⟨0, 10, 13, 19⟩ [] (htb.trans rfl) (fun z hz => absurd hz List.not_mem_nil) (by decide) (by decide) kl_RL_19 cc_IndexOutOfBoundsException (fun q => ?_)
    refine sw_astore (pc := 13) hc dL_best_13 (by decide) (lv' := [(4, .ref q), (0, .ref (ad 0 0)), (1, .int x), (2, .int y), (3, .ref o)]) rfl ?_
    refine sw_iconst (pc := 15) (v := 1) hc dL_best_15 (by decide) ?_
    exact sw_iret (pc := 16) hc hlk hrt rfl ⟨congrArg (fun zq => some (Value.int zq)) hk.symm, _, PO.of hPH hO hOo, fun zq => absurd (hk.symm.trans zq) (by decide)⟩ (Nat.le_of_ble_eq_true rfl) (Nat.le_of_ble_eq_true rfl) dL_best_16
set_option maxHeartbeats 4000000 in
set_option maxRecDepth 100000 in
theorem c_L_bestAnew (l : Launch) (g : sg_G) (C : Nat → Option va_E) (ad : Ad) (own : Nat → Option (Nat × Nat)) (gh : Gh) (σ : Mem) (o : Nat) (fo : Nat → Int64) (x : Int32) (y : Int32) (hQ : Pic g ad own gh σ C) (hW : WX σ) (hg : gOk gh) (hO : C o = some (sg_la g 1 fo)) (hOo : own o = none) (hst : l.stackTraces = false) : sg_MetH l yL_bestAnew cL_bestAnew 5 (some .int) [(0, 10, 13, 19)] 8 167 16 96 g [.ref (ad 0 0), .int x, .int y, .ref o] C (fun v C' => v = some (.int (kPair σ x y)) ∧ ∃ f', PO g (ad 0 0) own o C (fBestAnew σ x y) C' f' ∧ (kPair σ x y = 0 → f' 0 = (vBestAnew σ x y).toInt64)) := by
  refine sg_ofWH (by decide) rfl ?_ (Nat.le_of_ble_eq_true rfl)
  intro p e s m below meth c hc hlk hrt htb
  have hc : sg_Cx p s m _ c cL_bestAnew 5 RL g := hc
  show sg_W p l e _ s m _ below meth c 5 g 0 0 _ C 0 [(0, .ref (ad 0 0)), (1, .int x), (2, .int y), (3, .ref o)] []
  refine sw_aload_n (pc := 0) hc dL_bestAnew_0 rfl 3 rfl ?_
  refine sw_iconst (pc := 1) (v := 0) hc dL_bestAnew_1 (by decide) ?_
  refine sw_aload_n (pc := 2) hc dL_bestAnew_2 rfl 0 rfl ?_
  refine sw_iload_n (pc := 3) hc dL_bestAnew_3 rfl 1 rfl ?_
  refine sw_iload_n (pc := 4) hc dL_bestAnew_4 rfl 2 rfl ?_
  refine sw_callV (pc := 5) (rest := [.int 0, .ref o]) hc (c_X7_bestAnew l g C ad own gh σ x y hQ hW hg hst) md_X7_bestAnew ml_RL_64 im_X7_bestAnew sl_X7_bestAnew (hQ.at ct0) rfl rfl rfl (Nat.le_of_ble_eq_true rfl) dL_bestAnew_5 ⟨Nat.le_of_ble_eq_true rfl, Nat.le_of_ble_eq_true rfl, Nat.le_of_ble_eq_true rfl, Nat.le_of_ble_eq_true rfl⟩ (fun v C1 hP => ?_) (fun E C1 hX => ?_)
  · obtain ⟨rfl, hk, hPH⟩ := hP
    refine sw_st (st' := [.int (vBestAnew σ x y), .int 0, .ref o]) rfl ?_
    refine sw_i2l (pc := 8) (v := (vBestAnew σ x y).toInt64) hc dL_bestAnew_8 rfl ?_
    refine sw_last (pc := 9) (j := 0) hc (hPH.ou hO hOo) rfl (by decide) (by decide) dL_bestAnew_9 ?_
    refine sw_goto (pc := 10) (tgt := 17) hc dL_bestAnew_10 (by decide) ?_
    refine sw_iconst (pc := 17) (v := 0) hc dL_bestAnew_17 (by decide) ?_
    exact sw_iret (pc := 18) hc hlk hrt rfl ⟨congrArg (fun zq => some (Value.int zq)) ((z_kPair σ x y).resolve_right hk).symm, _, PO.put hPH hO hOo _, fun _ => pk_uLs⟩ (Nat.le_of_ble_eq_true rfl) (Nat.le_of_ble_eq_true rfl) dL_bestAnew_18
  · obtain ⟨hE, hPH⟩ := hX
    obtain ⟨rfl, hk⟩ := hE
    refine sx_catch (name := "java/lang/IndexOutOfBoundsException") hc [] ⟨0, 10, 13, 19⟩ [] (htb.trans rfl) (fun z hz => absurd hz List.not_mem_nil) (by decide) (by decide) kl_RL_19 cc_IndexOutOfBoundsException (fun q => ?_)
    refine sw_astore (pc := 13) hc dL_bestAnew_13 (by decide) (lv' := [(4, .ref q), (0, .ref (ad 0 0)), (1, .int x), (2, .int y), (3, .ref o)]) rfl ?_
    refine sw_iconst (pc := 15) (v := 1) hc dL_bestAnew_15 (by decide) ?_
    exact sw_iret (pc := 16) hc hlk hrt rfl ⟨congrArg (fun zq => some (Value.int zq)) hk.symm, _, PO.of hPH hO hOo, fun zq => absurd (hk.symm.trans zq) (by decide)⟩ (Nat.le_of_ble_eq_true rfl) (Nat.le_of_ble_eq_true rfl) dL_bestAnew_16
set_option maxHeartbeats 4000000 in
set_option maxRecDepth 100000 in
theorem c_L_place (l : Launch) (g : sg_G) (C : Nat → Option va_E) (ad : Ad) (own : Nat → Option (Nat × Nat)) (gh : Gh) (σ : Mem) (o : Nat) (fo : Nat → Int64) (x : Int32) (y : Int32) (hQ : Pic g ad own gh σ C) (hW : WX σ) (hg : gOk gh) (hO : C o = some (sg_la g 1 fo)) (hOo : own o = none) (hst : l.stackTraces = false) : sg_MetH l yL_place cL_place 5 (some .int) [(0, 10, 13, 19)] 9 206 16 96 g [.ref (ad 0 0), .int x, .int y, .ref o] C (fun v C' => v = some (.int (kPair σ x y)) ∧ ∃ f', PO g (ad 0 0) own o C (fPair σ x y) C' f' ∧ (kPair σ x y = 0 → f' 0 = (vPlace σ x y).toInt64)) := by
  refine sg_ofWH (by decide) rfl ?_ (Nat.le_of_ble_eq_true rfl)
  intro p e s m below meth c hc hlk hrt htb
  have hc : sg_Cx p s m _ c cL_place 5 RL g := hc
  show sg_W p l e _ s m _ below meth c 5 g 0 0 _ C 0 [(0, .ref (ad 0 0)), (1, .int x), (2, .int y), (3, .ref o)] []
  refine sw_aload_n (pc := 0) hc dL_place_0 rfl 3 rfl ?_
  refine sw_iconst (pc := 1) (v := 0) hc dL_place_1 (by decide) ?_
  refine sw_aload_n (pc := 2) hc dL_place_2 rfl 0 rfl ?_
  refine sw_iload_n (pc := 3) hc dL_place_3 rfl 1 rfl ?_
  refine sw_iload_n (pc := 4) hc dL_place_4 rfl 2 rfl ?_
  refine sw_callV (pc := 5) (rest := [.int 0, .ref o]) hc (c_X7_place l g C ad own gh σ x y hQ hW hg hst) md_X7_place ml_RL_67 im_X7_place sl_X7_place (hQ.at ct0) rfl rfl rfl (Nat.le_of_ble_eq_true rfl) dL_place_5 ⟨Nat.le_of_ble_eq_true rfl, Nat.le_of_ble_eq_true rfl, Nat.le_of_ble_eq_true rfl, Nat.le_of_ble_eq_true rfl⟩ (fun v C1 hP => ?_) (fun E C1 hX => ?_)
  · obtain ⟨rfl, hk, hPH⟩ := hP
    refine sw_st (st' := [.int (vPlace σ x y), .int 0, .ref o]) rfl ?_
    refine sw_i2l (pc := 8) (v := (vPlace σ x y).toInt64) hc dL_place_8 rfl ?_
    refine sw_last (pc := 9) (j := 0) hc (hPH.ou hO hOo) rfl (by decide) (by decide) dL_place_9 ?_
    refine sw_goto (pc := 10) (tgt := 17) hc dL_place_10 (by decide) ?_
    refine sw_iconst (pc := 17) (v := 0) hc dL_place_17 (by decide) ?_
    exact sw_iret (pc := 18) hc hlk hrt rfl ⟨congrArg (fun zq => some (Value.int zq)) ((z_kPair σ x y).resolve_right hk).symm, _, PO.put hPH hO hOo _, fun _ => pk_uLs⟩ (Nat.le_of_ble_eq_true rfl) (Nat.le_of_ble_eq_true rfl) dL_place_18
  · obtain ⟨hE, hPH⟩ := hX
    obtain ⟨rfl, hk⟩ := hE
    refine sx_catch (name := "java/lang/IndexOutOfBoundsException") hc [] ⟨0, 10, 13, 19⟩ [] (htb.trans rfl) (fun z hz => absurd hz List.not_mem_nil) (by decide) (by decide) kl_RL_19 cc_IndexOutOfBoundsException (fun q => ?_)
    refine sw_astore (pc := 13) hc dL_place_13 (by decide) (lv' := [(4, .ref q), (0, .ref (ad 0 0)), (1, .int x), (2, .int y), (3, .ref o)]) rfl ?_
    refine sw_iconst (pc := 15) (v := 1) hc dL_place_15 (by decide) ?_
    exact sw_iret (pc := 16) hc hlk hrt rfl ⟨congrArg (fun zq => some (Value.int zq)) hk.symm, _, PO.of hPH hO hOo, fun zq => absurd (hk.symm.trans zq) (by decide)⟩ (Nat.le_of_ble_eq_true rfl) (Nat.le_of_ble_eq_true rfl) dL_place_16
set_option maxHeartbeats 4000000 in
set_option maxRecDepth 100000 in
theorem c_L_at (l : Launch) (g : sg_G) (C : Nat → Option va_E) (ad : Ad) (own : Nat → Option (Nat × Nat)) (gh : Gh) (σ : Mem) (o : Nat) (fo : Nat → Int64) (x : Int32) (z : Int32) (hQ : Pic g ad own gh σ C) (hW : WX σ) (hg : gOk gh) (hO : C o = some (sg_la g 1 fo)) (hOo : own o = none) (hst : l.stackTraces = false) : sg_MetH l yL_at cL_at 5 (some .int) [(0, 10, 13, 19)] 9 205 16 96 g [.ref (ad 0 0), .int x, .int z, .ref o] C (fun v C' => v = some (.int (kAt σ x z)) ∧ ∃ f', PO g (ad 0 0) own o C (fAt σ x z) C' f' ∧ (kAt σ x z = 0 → f' 0 = (vAt σ x z).toInt64)) := by
  refine sg_ofWH (by decide) rfl ?_ (Nat.le_of_ble_eq_true rfl)
  intro p e s m below meth c hc hlk hrt htb
  have hc : sg_Cx p s m _ c cL_at 5 RL g := hc
  show sg_W p l e _ s m _ below meth c 5 g 0 0 _ C 0 [(0, .ref (ad 0 0)), (1, .int x), (2, .int z), (3, .ref o)] []
  refine sw_aload_n (pc := 0) hc dL_at_0 rfl 3 rfl ?_
  refine sw_iconst (pc := 1) (v := 0) hc dL_at_1 (by decide) ?_
  refine sw_aload_n (pc := 2) hc dL_at_2 rfl 0 rfl ?_
  refine sw_iload_n (pc := 3) hc dL_at_3 rfl 1 rfl ?_
  refine sw_iload_n (pc := 4) hc dL_at_4 rfl 2 rfl ?_
  refine sw_callV (pc := 5) (rest := [.int 0, .ref o]) hc (c_X7_at l g C ad own gh σ x z hQ hW hg hst) md_X7_at ml_RL_70 im_X7_at sl_X7_at (hQ.at ct0) rfl rfl rfl (Nat.le_of_ble_eq_true rfl) dL_at_5 ⟨Nat.le_of_ble_eq_true rfl, Nat.le_of_ble_eq_true rfl, Nat.le_of_ble_eq_true rfl, Nat.le_of_ble_eq_true rfl⟩ (fun v C1 hP => ?_) (fun E C1 hX => ?_)
  · obtain ⟨rfl, hk, hPH⟩ := hP
    refine sw_st (st' := [.int (vAt σ x z), .int 0, .ref o]) rfl ?_
    refine sw_i2l (pc := 8) (v := (vAt σ x z).toInt64) hc dL_at_8 rfl ?_
    refine sw_last (pc := 9) (j := 0) hc (hPH.ou hO hOo) rfl (by decide) (by decide) dL_at_9 ?_
    refine sw_goto (pc := 10) (tgt := 17) hc dL_at_10 (by decide) ?_
    refine sw_iconst (pc := 17) (v := 0) hc dL_at_17 (by decide) ?_
    exact sw_iret (pc := 18) hc hlk hrt rfl ⟨congrArg (fun zq => some (Value.int zq)) ((z_kAt σ x z).resolve_right hk).symm, _, PO.put hPH hO hOo _, fun _ => pk_uLs⟩ (Nat.le_of_ble_eq_true rfl) (Nat.le_of_ble_eq_true rfl) dL_at_18
  · obtain ⟨hE, hPH⟩ := hX
    obtain ⟨rfl, hk⟩ := hE
    refine sx_catch (name := "java/lang/IndexOutOfBoundsException") hc [] ⟨0, 10, 13, 19⟩ [] (htb.trans rfl) (fun z hz => absurd hz List.not_mem_nil) (by decide) (by decide) kl_RL_19 cc_IndexOutOfBoundsException (fun q => ?_)
    refine sw_astore (pc := 13) hc dL_at_13 (by decide) (lv' := [(4, .ref q), (0, .ref (ad 0 0)), (1, .int x), (2, .int z), (3, .ref o)]) rfl ?_
    refine sw_iconst (pc := 15) (v := 1) hc dL_at_15 (by decide) ?_
    exact sw_iret (pc := 16) hc hlk hrt rfl ⟨congrArg (fun zq => some (Value.int zq)) hk.symm, _, PO.of hPH hO hOo, fun zq => absurd (hk.symm.trans zq) (by decide)⟩ (Nat.le_of_ble_eq_true rfl) (Nat.le_of_ble_eq_true rfl) dL_at_16
set_option maxHeartbeats 4000000 in
set_option maxRecDepth 100000 in
theorem c_L_placeWithout (l : Launch) (g : sg_G) (C : Nat → Option va_E) (ad : Ad) (own : Nat → Option (Nat × Nat)) (gh : Gh) (σ : Mem) (o : Nat) (fo : Nat → Int64) (x : Int32) (hQ : Pic g ad own gh σ C) (hW : WX σ) (hg : gOk gh) (hO : C o = some (sg_la g 1 fo)) (hOo : own o = none) (hst : l.stackTraces = false) : sg_MetH l yL_placeWithout cL_placeWithout 4 (some .int) [(0, 9, 12, 19)] 9 205 16 96 g [.ref (ad 0 0), .int x, .ref o] C (fun v C' => v = some (.int (kIn σ 26 x)) ∧ ∃ f', PO g (ad 0 0) own o C (fIn σ 26 x) C' f' ∧ (kIn σ 26 x = 0 → f' 0 = (vPlaceW σ x).toInt64)) := by
  refine sg_ofWH (by decide) rfl ?_ (Nat.le_of_ble_eq_true rfl)
  intro p e s m below meth c hc hlk hrt htb
  have hc : sg_Cx p s m _ c cL_placeWithout 4 RL g := hc
  show sg_W p l e _ s m _ below meth c 4 g 0 0 _ C 0 [(0, .ref (ad 0 0)), (1, .int x), (2, .ref o)] []
  refine sw_aload_n (pc := 0) hc dL_placeWithout_0 rfl 2 rfl ?_
  refine sw_iconst (pc := 1) (v := 0) hc dL_placeWithout_1 (by decide) ?_
  refine sw_aload_n (pc := 2) hc dL_placeWithout_2 rfl 0 rfl ?_
  refine sw_iload_n (pc := 3) hc dL_placeWithout_3 rfl 1 rfl ?_
  refine sw_callV (pc := 4) (rest := [.int 0, .ref o]) hc (c_X7_placeWithout l g C ad own gh σ x hQ hW hg hst) md_X7_placeWithout ml_RL_73 im_X7_placeWithout sl_X7_placeWithout (hQ.at ct0) rfl rfl rfl (Nat.le_of_ble_eq_true rfl) dL_placeWithout_4 ⟨Nat.le_of_ble_eq_true rfl, Nat.le_of_ble_eq_true rfl, Nat.le_of_ble_eq_true rfl, Nat.le_of_ble_eq_true rfl⟩ (fun v C1 hP => ?_) (fun E C1 hX => ?_)
  · obtain ⟨rfl, hk, hPH⟩ := hP
    refine sw_st (st' := [.int (vPlaceW σ x), .int 0, .ref o]) rfl ?_
    refine sw_i2l (pc := 7) (v := (vPlaceW σ x).toInt64) hc dL_placeWithout_7 rfl ?_
    refine sw_last (pc := 8) (j := 0) hc (hPH.ou hO hOo) rfl (by decide) (by decide) dL_placeWithout_8 ?_
    refine sw_goto (pc := 9) (tgt := 15) hc dL_placeWithout_9 (by decide) ?_
    refine sw_iconst (pc := 15) (v := 0) hc dL_placeWithout_15 (by decide) ?_
    exact sw_iret (pc := 16) hc hlk hrt rfl ⟨congrArg (fun zq => some (Value.int zq)) ((z_kIn σ 26 x).resolve_right hk).symm, _, PO.put hPH hO hOo _, fun _ => pk_uLs⟩ (Nat.le_of_ble_eq_true rfl) (Nat.le_of_ble_eq_true rfl) dL_placeWithout_16
  · obtain ⟨hE, hPH⟩ := hX
    obtain ⟨rfl, hk⟩ := hE
    refine sx_catch (name := "java/lang/IndexOutOfBoundsException") hc [] ⟨0, 9, 12, 19⟩ [] (htb.trans rfl) (fun z hz => absurd hz List.not_mem_nil) (by decide) (by decide) kl_RL_19 cc_IndexOutOfBoundsException (fun q => ?_)
    refine sw_astore_n (pc := 12) hc dL_placeWithout_12 rfl (by decide) (lv' := [(3, .ref q), (0, .ref (ad 0 0)), (1, .int x), (2, .ref o)]) rfl ?_
    refine sw_iconst (pc := 13) (v := 1) hc dL_placeWithout_13 (by decide) ?_
    exact sw_iret (pc := 14) hc hlk hrt rfl ⟨congrArg (fun zq => some (Value.int zq)) hk.symm, _, PO.of hPH hO hOo, fun zq => absurd (hk.symm.trans zq) (by decide)⟩ (Nat.le_of_ble_eq_true rfl) (Nat.le_of_ble_eq_true rfl) dL_placeWithout_14
set_option maxHeartbeats 4000000 in
set_option maxRecDepth 100000 in
theorem c_L_estimate (l : Launch) (g : sg_G) (C : Nat → Option va_E) (ad : Ad) (own : Nat → Option (Nat × Nat)) (gh : Gh) (σ : Mem) (o : Nat) (fo : Nat → Int64) (x : Int32) (y : Int32) (hQ : Pic g ad own gh σ C) (hW : WX σ) (hg : gOk gh) (hO : C o = some (sg_la g 1 fo)) (hOo : own o = none) (hst : l.stackTraces = false) : sg_MetH l yL_estimate cL_estimate 5 (some .int) [(0, 10, 13, 19)] 8 179 16 96 g [.ref (ad 0 0), .int x, .int y, .ref o] C (fun v C' => v = some (.int (kPair σ x y)) ∧ ∃ f', PO g (ad 0 0) own o C (fPair σ x y) C' f' ∧ (kPair σ x y = 0 → f' 0 = (vEst σ x y).toInt64)) := by
  refine sg_ofWH (by decide) rfl ?_ (Nat.le_of_ble_eq_true rfl)
  intro p e s m below meth c hc hlk hrt htb
  have hc : sg_Cx p s m _ c cL_estimate 5 RL g := hc
  show sg_W p l e _ s m _ below meth c 5 g 0 0 _ C 0 [(0, .ref (ad 0 0)), (1, .int x), (2, .int y), (3, .ref o)] []
  refine sw_aload_n (pc := 0) hc dL_estimate_0 rfl 3 rfl ?_
  refine sw_iconst (pc := 1) (v := 0) hc dL_estimate_1 (by decide) ?_
  refine sw_aload_n (pc := 2) hc dL_estimate_2 rfl 0 rfl ?_
  refine sw_iload_n (pc := 3) hc dL_estimate_3 rfl 1 rfl ?_
  refine sw_iload_n (pc := 4) hc dL_estimate_4 rfl 2 rfl ?_
  refine sw_callV (pc := 5) (rest := [.int 0, .ref o]) hc (c_X7_estimate l g C ad own gh σ x y hQ hW hg hst) md_X7_estimate ml_RL_76 im_X7_estimate sl_X7_estimate (hQ.at ct0) rfl rfl rfl (Nat.le_of_ble_eq_true rfl) dL_estimate_5 ⟨Nat.le_of_ble_eq_true rfl, Nat.le_of_ble_eq_true rfl, Nat.le_of_ble_eq_true rfl, Nat.le_of_ble_eq_true rfl⟩ (fun v C1 hP => ?_) (fun E C1 hX => ?_)
  · obtain ⟨rfl, hk, hPH⟩ := hP
    refine sw_st (st' := [.int (vEst σ x y), .int 0, .ref o]) rfl ?_
    refine sw_i2l (pc := 8) (v := (vEst σ x y).toInt64) hc dL_estimate_8 rfl ?_
    refine sw_last (pc := 9) (j := 0) hc (hPH.ou hO hOo) rfl (by decide) (by decide) dL_estimate_9 ?_
    refine sw_goto (pc := 10) (tgt := 17) hc dL_estimate_10 (by decide) ?_
    refine sw_iconst (pc := 17) (v := 0) hc dL_estimate_17 (by decide) ?_
    exact sw_iret (pc := 18) hc hlk hrt rfl ⟨congrArg (fun zq => some (Value.int zq)) ((z_kPair σ x y).resolve_right hk).symm, _, PO.put hPH hO hOo _, fun _ => pk_uLs⟩ (Nat.le_of_ble_eq_true rfl) (Nat.le_of_ble_eq_true rfl) dL_estimate_18
  · obtain ⟨hE, hPH⟩ := hX
    obtain ⟨rfl, hk⟩ := hE
    refine sx_catch (name := "java/lang/IndexOutOfBoundsException") hc [] ⟨0, 10, 13, 19⟩ [] (htb.trans rfl) (fun z hz => absurd hz List.not_mem_nil) (by decide) (by decide) kl_RL_19 cc_IndexOutOfBoundsException (fun q => ?_)
    refine sw_astore (pc := 13) hc dL_estimate_13 (by decide) (lv' := [(4, .ref q), (0, .ref (ad 0 0)), (1, .int x), (2, .int y), (3, .ref o)]) rfl ?_
    refine sw_iconst (pc := 15) (v := 1) hc dL_estimate_15 (by decide) ?_
    exact sw_iret (pc := 16) hc hlk hrt rfl ⟨congrArg (fun zq => some (Value.int zq)) hk.symm, _, PO.of hPH hO hOo, fun zq => absurd (hk.symm.trans zq) (by decide)⟩ (Nat.le_of_ble_eq_true rfl) (Nat.le_of_ble_eq_true rfl) dL_estimate_16
set_option maxHeartbeats 4000000 in
set_option maxRecDepth 100000 in
theorem c_L_offer (l : Launch) (g : sg_G) (C : Nat → Option va_E) (ad : Ad) (own : Nat → Option (Nat × Nat)) (gh : Gh) (σ : Mem) (o : Nat) (fo : Nat → Int64) (x : Int32) (y : Int32) (hQ : Pic g ad own gh σ C) (hW : WX σ) (hg : gOk gh) (hO : C o = some (sg_la g 1 fo)) (hOo : own o = none) (hst : l.stackTraces = false) : sg_MetH l yL_offer cL_offer 5 (some .int) [(0, 10, 13, 19), (0, 10, 17, 13)] 8 184 24 420 g [.ref (ad 0 0), .int x, .int y, .ref o] C (fun v C' => v = some (.int (kOffer σ x y)) ∧ ∃ f', PO g (ad 0 0) own o C (fOffer σ x y) C' f' ∧ (kOffer σ x y = 0 → f' 0 = (vOffer σ x y).toInt64)) := by
  refine sg_ofWH (by decide) rfl ?_ (Nat.le_of_ble_eq_true rfl)
  intro p e s m below meth c hc hlk hrt htb
  have hc : sg_Cx p s m _ c cL_offer 5 RL g := hc
  show sg_W p l e _ s m _ below meth c 5 g 0 0 _ C 0 [(0, .ref (ad 0 0)), (1, .int x), (2, .int y), (3, .ref o)] []
  refine sw_aload_n (pc := 0) hc dL_offer_0 rfl 3 rfl ?_
  refine sw_iconst (pc := 1) (v := 0) hc dL_offer_1 (by decide) ?_
  refine sw_aload_n (pc := 2) hc dL_offer_2 rfl 0 rfl ?_
  refine sw_iload_n (pc := 3) hc dL_offer_3 rfl 1 rfl ?_
  refine sw_iload_n (pc := 4) hc dL_offer_4 rfl 2 rfl ?_
  refine sw_callV (pc := 5) (rest := [.int 0, .ref o]) hc (c_X7_offer l g C ad own gh σ x y hQ hW hg hst) md_X7_offer ml_RL_79 im_X7_offer sl_X7_offer (hQ.at ct0) rfl rfl rfl (Nat.le_of_ble_eq_true rfl) dL_offer_5 ⟨Nat.le_of_ble_eq_true rfl, Nat.le_of_ble_eq_true rfl, Nat.le_of_ble_eq_true rfl, Nat.le_of_ble_eq_true rfl⟩ (fun v C1 hP => ?_) (fun E C1 hX => ?_)
  · obtain ⟨rfl, hk, hPH⟩ := hP
    refine sw_st (st' := [.int (vOffer σ x y), .int 0, .ref o]) rfl ?_
    refine sw_i2l (pc := 8) (v := (vOffer σ x y).toInt64) hc dL_offer_8 rfl ?_
    refine sw_last (pc := 9) (j := 0) hc (hPH.ou hO hOo) rfl (by decide) (by decide) dL_offer_9 ?_
    refine sw_goto (pc := 10) (tgt := 21) hc dL_offer_10 (by decide) ?_
    refine sw_iconst (pc := 21) (v := 0) hc dL_offer_21 (by decide) ?_
    exact sw_iret (pc := 22) hc hlk hrt rfl ⟨congrArg (fun zq => some (Value.int zq)) ((z_kOffer σ x y).resolve_right hk).symm, _, PO.put hPH hO hOo _, fun _ => pk_uLs⟩ (Nat.le_of_ble_eq_true rfl) (Nat.le_of_ble_eq_true rfl) dL_offer_22
  · obtain ⟨hE, hPH⟩ := hX
    rcases hE with ⟨rfl, hk⟩ | ⟨rfl, hk⟩
    · refine sx_catch (name := "java/lang/IndexOutOfBoundsException") hc [] ⟨0, 10, 13, 19⟩ [⟨0, 10, 17, 13⟩] (htb.trans rfl) (fun z hz => absurd hz List.not_mem_nil) (by decide) (by decide) kl_RL_19 cc_IndexOutOfBoundsException (fun q => ?_)
      refine sw_astore (pc := 13) hc dL_offer_13 (by decide) (lv' := [(4, .ref q), (0, .ref (ad 0 0)), (1, .int x), (2, .int y), (3, .ref o)]) rfl ?_
      refine sw_iconst (pc := 15) (v := 1) hc dL_offer_15 (by decide) ?_
      exact sw_iret (pc := 16) hc hlk hrt rfl ⟨congrArg (fun zq => some (Value.int zq)) hk.symm, _, PO.of hPH hO hOo, fun zq => absurd (hk.symm.trans zq) (by decide)⟩ (Nat.le_of_ble_eq_true rfl) (Nat.le_of_ble_eq_true rfl) dL_offer_16
    · refine sx_catch (name := "java/lang/IllegalStateException") hc [⟨0, 10, 13, 19⟩] ⟨0, 10, 17, 13⟩ [] (htb.trans rfl) (List.forall_mem_cons.mpr ⟨(.inr ⟨by decide, "java/lang/IndexOutOfBoundsException", kl_RL_19, by decide +kernel⟩), fun _ h => absurd h List.not_mem_nil⟩) (by decide) (by decide) kl_RL_13 cc_IllegalStateException (fun q => ?_)
      refine sw_astore (pc := 17) hc dL_offer_17 (by decide) (lv' := [(4, .ref q), (0, .ref (ad 0 0)), (1, .int x), (2, .int y), (3, .ref o)]) rfl ?_
      refine sw_iconst (pc := 19) (v := 2) hc dL_offer_19 (by decide) ?_
      exact sw_iret (pc := 20) hc hlk hrt rfl ⟨congrArg (fun zq => some (Value.int zq)) hk.symm, _, PO.of hPH hO hOo, fun zq => absurd (hk.symm.trans zq) (by decide)⟩ (Nat.le_of_ble_eq_true rfl) (Nat.le_of_ble_eq_true rfl) dL_offer_20
set_option maxHeartbeats 4000000 in
set_option maxRecDepth 100000 in
theorem c_L_gift (l : Launch) (g : sg_G) (C : Nat → Option va_E) (ad : Ad) (own : Nat → Option (Nat × Nat)) (gh : Gh) (σ : Mem) (o : Nat) (fo : Nat → Int64) (x : Int32) (a : Int32) (hQ : Pic g ad own gh σ C) (hW : WX σ) (hg : gOk gh) (hO : C o = some (sg_la g 1 fo)) (hOo : own o = none) (hst : l.stackTraces = false) : sg_MetH l yL_gift cL_gift 5 (some .int) [(0, 10, 13, 19), (0, 10, 17, 21), (0, 10, 21, 13)] 8 179 16 96 g [.ref (ad 0 0), .int x, .int a, .ref o] C (fun v C' => v = some (.int (kGift σ x a)) ∧ ∃ f', PO g (ad 0 0) own o C (fGift σ x a) C' f' ∧ (kGift σ x a = 0 → f' 0 = (vGift σ x a).toInt64)) := by
  refine sg_ofWH (by decide) rfl ?_ (Nat.le_of_ble_eq_true rfl)
  intro p e s m below meth c hc hlk hrt htb
  have hc : sg_Cx p s m _ c cL_gift 5 RL g := hc
  show sg_W p l e _ s m _ below meth c 5 g 0 0 _ C 0 [(0, .ref (ad 0 0)), (1, .int x), (2, .int a), (3, .ref o)] []
  refine sw_aload_n (pc := 0) hc dL_gift_0 rfl 3 rfl ?_
  refine sw_iconst (pc := 1) (v := 0) hc dL_gift_1 (by decide) ?_
  refine sw_aload_n (pc := 2) hc dL_gift_2 rfl 0 rfl ?_
  refine sw_iload_n (pc := 3) hc dL_gift_3 rfl 1 rfl ?_
  refine sw_iload_n (pc := 4) hc dL_gift_4 rfl 2 rfl ?_
  refine sw_callV (pc := 5) (rest := [.int 0, .ref o]) hc (c_X7_gift l g C ad own gh σ x a hQ hW hg hst) md_X7_gift ml_RL_82 im_X7_gift sl_X7_gift (hQ.at ct0) rfl rfl rfl (Nat.le_of_ble_eq_true rfl) dL_gift_5 ⟨Nat.le_of_ble_eq_true rfl, Nat.le_of_ble_eq_true rfl, Nat.le_of_ble_eq_true rfl, Nat.le_of_ble_eq_true rfl⟩ (fun v C1 hP => ?_) (fun E C1 hX => ?_)
  · obtain ⟨rfl, hk, hPH⟩ := hP
    refine sw_st (st' := [.int (vGift σ x a), .int 0, .ref o]) rfl ?_
    refine sw_i2l (pc := 8) (v := (vGift σ x a).toInt64) hc dL_gift_8 rfl ?_
    refine sw_last (pc := 9) (j := 0) hc (hPH.ou hO hOo) rfl (by decide) (by decide) dL_gift_9 ?_
    refine sw_goto (pc := 10) (tgt := 25) hc dL_gift_10 (by decide) ?_
    refine sw_iconst (pc := 25) (v := 0) hc dL_gift_25 (by decide) ?_
    exact sw_iret (pc := 26) hc hlk hrt rfl ⟨congrArg (fun zq => some (Value.int zq)) ((z_kGift σ x a).resolve_right hk).symm, _, PO.put hPH hO hOo _, fun _ => pk_uLs⟩ (Nat.le_of_ble_eq_true rfl) (Nat.le_of_ble_eq_true rfl) dL_gift_26
  · obtain ⟨hE, hPH⟩ := hX
    rcases hE with ⟨rfl, hk⟩ | ⟨rfl, hk⟩ | ⟨rfl, hk⟩
    · refine sx_catch (name := "java/lang/IndexOutOfBoundsException") hc [] ⟨0, 10, 13, 19⟩ [⟨0, 10, 17, 21⟩, ⟨0, 10, 21, 13⟩] (htb.trans rfl) (fun z hz => absurd hz List.not_mem_nil) (by decide) (by decide) kl_RL_19 cc_IndexOutOfBoundsException (fun q => ?_)
      refine sw_astore (pc := 13) hc dL_gift_13 (by decide) (lv' := [(4, .ref q), (0, .ref (ad 0 0)), (1, .int x), (2, .int a), (3, .ref o)]) rfl ?_
      refine sw_iconst (pc := 15) (v := 1) hc dL_gift_15 (by decide) ?_
      exact sw_iret (pc := 16) hc hlk hrt rfl ⟨congrArg (fun zq => some (Value.int zq)) hk.symm, _, PO.of hPH hO hOo, fun zq => absurd (hk.symm.trans zq) (by decide)⟩ (Nat.le_of_ble_eq_true rfl) (Nat.le_of_ble_eq_true rfl) dL_gift_16
    · refine sx_catch (name := "java/lang/IllegalArgumentException") hc [⟨0, 10, 13, 19⟩] ⟨0, 10, 17, 21⟩ [⟨0, 10, 21, 13⟩] (htb.trans rfl) (List.forall_mem_cons.mpr ⟨(.inr ⟨by decide, "java/lang/IndexOutOfBoundsException", kl_RL_19, by decide +kernel⟩), fun _ h => absurd h List.not_mem_nil⟩) (by decide) (by decide) kl_RL_21 cc_IllegalArgumentException (fun q => ?_)
      refine sw_astore (pc := 17) hc dL_gift_17 (by decide) (lv' := [(4, .ref q), (0, .ref (ad 0 0)), (1, .int x), (2, .int a), (3, .ref o)]) rfl ?_
      refine sw_iconst (pc := 19) (v := 2) hc dL_gift_19 (by decide) ?_
      exact sw_iret (pc := 20) hc hlk hrt rfl ⟨congrArg (fun zq => some (Value.int zq)) hk.symm, _, PO.of hPH hO hOo, fun zq => absurd (hk.symm.trans zq) (by decide)⟩ (Nat.le_of_ble_eq_true rfl) (Nat.le_of_ble_eq_true rfl) dL_gift_20
    · refine sx_catch (name := "java/lang/IllegalStateException") hc [⟨0, 10, 13, 19⟩, ⟨0, 10, 17, 21⟩] ⟨0, 10, 21, 13⟩ [] (htb.trans rfl) (List.forall_mem_cons.mpr ⟨(.inr ⟨by decide, "java/lang/IndexOutOfBoundsException", kl_RL_19, by decide +kernel⟩), List.forall_mem_cons.mpr ⟨(.inr ⟨by decide, "java/lang/IllegalArgumentException", kl_RL_21, by decide +kernel⟩), fun _ h => absurd h List.not_mem_nil⟩⟩) (by decide) (by decide) kl_RL_13 cc_IllegalStateException (fun q => ?_)
      refine sw_astore (pc := 21) hc dL_gift_21 (by decide) (lv' := [(4, .ref q), (0, .ref (ad 0 0)), (1, .int x), (2, .int a), (3, .ref o)]) rfl ?_
      refine sw_iconst (pc := 23) (v := 3) hc dL_gift_23 (by decide) ?_
      exact sw_iret (pc := 24) hc hlk hrt rfl ⟨congrArg (fun zq => some (Value.int zq)) hk.symm, _, PO.of hPH hO hOo, fun zq => absurd (hk.symm.trans zq) (by decide)⟩ (Nat.le_of_ble_eq_true rfl) (Nat.le_of_ble_eq_true rfl) dL_gift_24
set_option maxHeartbeats 4000000 in
set_option maxRecDepth 100000 in
theorem c_L_plan (l : Launch) (g : sg_G) (C : Nat → Option va_E) (ad : Ad) (own : Nat → Option (Nat × Nat)) (gh : Gh) (σ : Mem) (o : Nat) (fo : Nat → Int64) (x : Int32) (hQ : Pic g ad own gh σ C) (hW : WX σ) (hg : gOk gh) (hO : C o = some (sg_la g 1 fo)) (hOo : own o = none) (hst : l.stackTraces = false) : sg_MetH l yL_plan cL_plan 4 (some .int) [(0, 9, 12, 21)] 10 228 16 96 g [.ref (ad 0 0), .int x, .ref o] C (fun v C' => v = some (.int (kPlan x)) ∧ ∃ f', PO g (ad 0 0) own o C (fPlan σ x) C' f' ∧ (kPlan x = 0 → f' 0 = (vPlan σ x).toInt64)) := by
  refine sg_ofWH (by decide) rfl ?_ (Nat.le_of_ble_eq_true rfl)
  intro p e s m below meth c hc hlk hrt htb
  have hc : sg_Cx p s m _ c cL_plan 4 RL g := hc
  show sg_W p l e _ s m _ below meth c 4 g 0 0 _ C 0 [(0, .ref (ad 0 0)), (1, .int x), (2, .ref o)] []
  refine sw_aload_n (pc := 0) hc dL_plan_0 rfl 2 rfl ?_
  refine sw_iconst (pc := 1) (v := 0) hc dL_plan_1 (by decide) ?_
  refine sw_aload_n (pc := 2) hc dL_plan_2 rfl 0 rfl ?_
  refine sw_iload_n (pc := 3) hc dL_plan_3 rfl 1 rfl ?_
  refine sw_callV (pc := 4) (rest := [.int 0, .ref o]) hc (c_X7_plan l g C ad own gh σ x hQ hW hg hst) md_X7_plan ml_RL_85 im_X7_plan sl_X7_plan (hQ.at ct0) rfl rfl rfl (Nat.le_of_ble_eq_true rfl) dL_plan_4 ⟨Nat.le_of_ble_eq_true rfl, Nat.le_of_ble_eq_true rfl, Nat.le_of_ble_eq_true rfl, Nat.le_of_ble_eq_true rfl⟩ (fun v C1 hP => ?_) (fun E C1 hX => ?_)
  · obtain ⟨rfl, hk, hPH⟩ := hP
    refine sw_st (st' := [.int (vPlan σ x), .int 0, .ref o]) rfl ?_
    refine sw_i2l (pc := 7) (v := (vPlan σ x).toInt64) hc dL_plan_7 rfl ?_
    refine sw_last (pc := 8) (j := 0) hc (hPH.ou hO hOo) rfl (by decide) (by decide) dL_plan_8 ?_
    refine sw_goto (pc := 9) (tgt := 15) hc dL_plan_9 (by decide) ?_
    refine sw_iconst (pc := 15) (v := 0) hc dL_plan_15 (by decide) ?_
    exact sw_iret (pc := 16) hc hlk hrt rfl ⟨congrArg (fun zq => some (Value.int zq)) ((z_kPlan x).resolve_right hk).symm, _, PO.put hPH hO hOo _, fun _ => pk_uLs⟩ (Nat.le_of_ble_eq_true rfl) (Nat.le_of_ble_eq_true rfl) dL_plan_16
  · obtain ⟨hE, hPH⟩ := hX
    obtain ⟨rfl, hk⟩ := hE
    refine sx_catch (name := "java/lang/IllegalArgumentException") hc [] ⟨0, 9, 12, 21⟩ [] (htb.trans rfl) (fun z hz => absurd hz List.not_mem_nil) (by decide) (by decide) kl_RL_21 cc_IllegalArgumentException (fun q => ?_)
    refine sw_astore_n (pc := 12) hc dL_plan_12 rfl (by decide) (lv' := [(3, .ref q), (0, .ref (ad 0 0)), (1, .int x), (2, .ref o)]) rfl ?_
    refine sw_iconst (pc := 13) (v := 1) hc dL_plan_13 (by decide) ?_
    exact sw_iret (pc := 14) hc hlk hrt rfl ⟨congrArg (fun zq => some (Value.int zq)) hk.symm, _, PO.of hPH hO hOo, fun zq => absurd (hk.symm.trans zq) (by decide)⟩ (Nat.le_of_ble_eq_true rfl) (Nat.le_of_ble_eq_true rfl) dL_plan_14
