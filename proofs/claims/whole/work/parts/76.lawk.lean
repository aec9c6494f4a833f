/-! the law's 22 cases -/

theorem lk_RL_92 : Cond.methodLink RL 92 yL_level ∈ sg_T := sg_mem (i := 196) (by decide +kernel) rfl
theorem st_L_level : Cond.static yL_level ∈ sg_T := sg_mem (i := 197) (by decide +kernel) rfl
theorem md_X8_level : sg_MD yX8_level cX8_level 1 (some .int) 0 := ⟨sg_mem (i := 1001) (by decide +kernel) rfl, sg_mem (i := 59) (by decide +kernel) rfl, ⟨by decide, by decide⟩, by decide +kernel⟩
theorem ml_RL_97 : sg_ML RL 97 yX8_level := .inl (sg_mem (i := 998) (by decide +kernel) rfl)
theorem im_X8_level : Cond.instanceMethod yX8_level ∈ sg_T := sg_mem (i := 999) (by decide +kernel) rfl
theorem sl_X8_level : Cond.selects yX8_level.cls yX8_level yX8_level ∈ sg_T := sg_mem (i := 1000) (by decide +kernel) rfl
theorem md_X8_thrown : sg_MD yX8_thrown cX8_thrown 1 (some .int) 0 := ⟨sg_mem (i := 997) (by decide +kernel) rfl, sg_mem (i := 59) (by decide +kernel) rfl, ⟨by decide, by decide⟩, by decide +kernel⟩
theorem ml_RL_98 : sg_ML RL 98 yX8_thrown := .inl (sg_mem (i := 994) (by decide +kernel) rfl)
theorem im_X8_thrown : Cond.instanceMethod yX8_thrown ∈ sg_T := sg_mem (i := 995) (by decide +kernel) rfl
theorem sl_X8_thrown : Cond.selects yX8_thrown.cls yX8_thrown yX8_thrown ∈ sg_T := sg_mem (i := 996) (by decide +kernel) rfl
theorem lk_RL_101 : Cond.methodLink RL 101 yL_column ∈ sg_T := sg_mem (i := 353) (by decide +kernel) rfl
theorem st_L_column : Cond.static yL_column ∈ sg_T := sg_mem (i := 354) (by decide +kernel) rfl
theorem md_X8_column : sg_MD yX8_column cX8_column 6 none 4 := ⟨sg_mem (i := 1009) (by decide +kernel) rfl, sg_mem (i := 59) (by decide +kernel) rfl, ⟨by decide, by decide⟩, by decide +kernel⟩
theorem ml_RL_104 : sg_ML RL 104 yX8_column := .inl (sg_mem (i := 1006) (by decide +kernel) rfl)
theorem im_X8_column : Cond.instanceMethod yX8_column ∈ sg_T := sg_mem (i := 1007) (by decide +kernel) rfl
theorem sl_X8_column : Cond.selects yX8_column.cls yX8_column yX8_column ∈ sg_T := sg_mem (i := 1008) (by decide +kernel) rfl
theorem lk_RL_105 : Cond.methodLink RL 105 yL_replay ∈ sg_T := sg_mem (i := 429) (by decide +kernel) rfl
theorem st_L_replay : Cond.static yL_replay ∈ sg_T := sg_mem (i := 430) (by decide +kernel) rfl
theorem md_X8_replay : sg_MD yX8_replay cX8_replay 2 (some .int) 1 := ⟨sg_mem (i := 1025) (by decide +kernel) rfl, sg_mem (i := 59) (by decide +kernel) rfl, ⟨by decide, by decide⟩, by decide +kernel⟩
theorem ml_RL_108 : sg_ML RL 108 yX8_replay := .inl (sg_mem (i := 1022) (by decide +kernel) rfl)
theorem im_X8_replay : Cond.instanceMethod yX8_replay ∈ sg_T := sg_mem (i := 1023) (by decide +kernel) rfl
theorem sl_X8_replay : Cond.selects yX8_replay.cls yX8_replay yX8_replay ∈ sg_T := sg_mem (i := 1024) (by decide +kernel) rfl
theorem lk_RL_109 : Cond.methodLink RL 109 yL_input ∈ sg_T := sg_mem (i := 478) (by decide +kernel) rfl
theorem st_L_input : Cond.static yL_input ∈ sg_T := sg_mem (i := 479) (by decide +kernel) rfl
theorem md_X8_input : sg_MD yX8_input cX8_input 6 (some .int) 3 := ⟨sg_mem (i := 1029) (by decide +kernel) rfl, sg_mem (i := 59) (by decide +kernel) rfl, ⟨by decide, by decide⟩, by decide +kernel⟩
theorem ml_RL_112 : sg_ML RL 112 yX8_input := .inl (sg_mem (i := 1026) (by decide +kernel) rfl)
theorem im_X8_input : Cond.instanceMethod yX8_input ∈ sg_T := sg_mem (i := 1027) (by decide +kernel) rfl
theorem sl_X8_input : Cond.selects yX8_input.cls yX8_input yX8_input ∈ sg_T := sg_mem (i := 1028) (by decide +kernel) rfl
theorem lk_RL_113 : Cond.methodLink RL 113 yL_result ∈ sg_T := sg_mem (i := 549) (by decide +kernel) rfl
theorem st_L_result : Cond.static yL_result ∈ sg_T := sg_mem (i := 550) (by decide +kernel) rfl
theorem md_X8_result : sg_MD yX8_result cX8_result 2 (some .int) 1 := ⟨sg_mem (i := 1037) (by decide +kernel) rfl, sg_mem (i := 59) (by decide +kernel) rfl, ⟨by decide, by decide⟩, by decide +kernel⟩
theorem ml_RL_115 : sg_ML RL 115 yX8_result := .inl (sg_mem (i := 1034) (by decide +kernel) rfl)
theorem im_X8_result : Cond.instanceMethod yX8_result ∈ sg_T := sg_mem (i := 1035) (by decide +kernel) rfl
theorem sl_X8_result : Cond.selects yX8_result.cls yX8_result yX8_result ∈ sg_T := sg_mem (i := 1036) (by decide +kernel) rfl
theorem lk_RL_116 : Cond.methodLink RL 116 yL_used ∈ sg_T := sg_mem (i := 556) (by decide +kernel) rfl
theorem st_L_used : Cond.static yL_used ∈ sg_T := sg_mem (i := 557) (by decide +kernel) rfl
theorem md_X8_used : sg_MD yX8_used cX8_used 2 (some .int) 1 := ⟨sg_mem (i := 1081) (by decide +kernel) rfl, sg_mem (i := 59) (by decide +kernel) rfl, ⟨by decide, by decide⟩, by decide +kernel⟩
theorem ml_RL_118 : sg_ML RL 118 yX8_used := .inl (sg_mem (i := 1078) (by decide +kernel) rfl)
theorem im_X8_used : Cond.instanceMethod yX8_used ∈ sg_T := sg_mem (i := 1079) (by decide +kernel) rfl
theorem sl_X8_used : Cond.selects yX8_used.cls yX8_used yX8_used ∈ sg_T := sg_mem (i := 1080) (by decide +kernel) rfl
theorem lk_RL_119 : Cond.methodLink RL 119 yL_where ∈ sg_T := sg_mem (i := 563) (by decide +kernel) rfl
theorem st_L_where : Cond.static yL_where ∈ sg_T := sg_mem (i := 564) (by decide +kernel) rfl
theorem md_X8_where : sg_MD yX8_where cX8_where 3 (some .int) 2 := ⟨sg_mem (i := 1089) (by decide +kernel) rfl, sg_mem (i := 59) (by decide +kernel) rfl, ⟨by decide, by decide⟩, by decide +kernel⟩
theorem ml_RL_122 : sg_ML RL 122 yX8_where := .inl (sg_mem (i := 1086) (by decide +kernel) rfl)
theorem im_X8_where : Cond.instanceMethod yX8_where ∈ sg_T := sg_mem (i := 1087) (by decide +kernel) rfl
theorem sl_X8_where : Cond.selects yX8_where.cls yX8_where yX8_where ∈ sg_T := sg_mem (i := 1088) (by decide +kernel) rfl
theorem lk_RL_123 : Cond.methodLink RL 123 yL_category ∈ sg_T := sg_mem (i := 576) (by decide +kernel) rfl
theorem st_L_category : Cond.static yL_category ∈ sg_T := sg_mem (i := 577) (by decide +kernel) rfl
theorem md_X8_category : sg_MD yX8_category cX8_category 2 (some .int) 1 := ⟨sg_mem (i := 1093) (by decide +kernel) rfl, sg_mem (i := 59) (by decide +kernel) rfl, ⟨by decide, by decide⟩, by decide +kernel⟩
theorem ml_RL_125 : sg_ML RL 125 yX8_category := .inl (sg_mem (i := 1090) (by decide +kernel) rfl)
theorem im_X8_category : Cond.instanceMethod yX8_category ∈ sg_T := sg_mem (i := 1091) (by decide +kernel) rfl
theorem sl_X8_category : Cond.selects yX8_category.cls yX8_category yX8_category ∈ sg_T := sg_mem (i := 1092) (by decide +kernel) rfl
theorem lk_RL_126 : Cond.methodLink RL 126 yL_rule ∈ sg_T := sg_mem (i := 601) (by decide +kernel) rfl
theorem st_L_rule : Cond.static yL_rule ∈ sg_T := sg_mem (i := 602) (by decide +kernel) rfl
theorem md_X8_rule : sg_MD yX8_rule cX8_rule 10 (some .int) 5 := ⟨sg_mem (i := 1097) (by decide +kernel) rfl, sg_mem (i := 59) (by decide +kernel) rfl, ⟨by decide, by decide⟩, by decide +kernel⟩
theorem ml_RL_129 : sg_ML RL 129 yX8_rule := .inl (sg_mem (i := 1094) (by decide +kernel) rfl)
theorem im_X8_rule : Cond.instanceMethod yX8_rule ∈ sg_T := sg_mem (i := 1095) (by decide +kernel) rfl
theorem sl_X8_rule : Cond.selects yX8_rule.cls yX8_rule yX8_rule ∈ sg_T := sg_mem (i := 1096) (by decide +kernel) rfl
theorem lk_RL_130 : Cond.methodLink RL 130 yL_pass ∈ sg_T := sg_mem (i := 653) (by decide +kernel) rfl
theorem st_L_pass : Cond.static yL_pass ∈ sg_T := sg_mem (i := 654) (by decide +kernel) rfl
theorem md_X8_pass : sg_MD yX8_pass cX8_pass 2 (some .int) 1 := ⟨sg_mem (i := 1113) (by decide +kernel) rfl, sg_mem (i := 59) (by decide +kernel) rfl, ⟨by decide, by decide⟩, by decide +kernel⟩
theorem ml_RL_132 : sg_ML RL 132 yX8_pass := .inl (sg_mem (i := 1110) (by decide +kernel) rfl)
theorem im_X8_pass : Cond.instanceMethod yX8_pass ∈ sg_T := sg_mem (i := 1111) (by decide +kernel) rfl
theorem sl_X8_pass : Cond.selects yX8_pass.cls yX8_pass yX8_pass ∈ sg_T := sg_mem (i := 1112) (by decide +kernel) rfl
theorem lk_RL_133 : Cond.methodLink RL 133 yL_submit ∈ sg_T := sg_mem (i := 661) (by decide +kernel) rfl
theorem st_L_submit : Cond.static yL_submit ∈ sg_T := sg_mem (i := 662) (by decide +kernel) rfl
theorem md_X8_submit : sg_MD yX8_submit cX8_submit 5 (some .int) 3 := ⟨sg_mem (i := 1117) (by decide +kernel) rfl, sg_mem (i := 59) (by decide +kernel) rfl, ⟨by decide, by decide⟩, by decide +kernel⟩
theorem ml_RL_135 : sg_ML RL 135 yX8_submit := .inl (sg_mem (i := 1114) (by decide +kernel) rfl)
theorem im_X8_submit : Cond.instanceMethod yX8_submit ∈ sg_T := sg_mem (i := 1115) (by decide +kernel) rfl
theorem sl_X8_submit : Cond.selects yX8_submit.cls yX8_submit yX8_submit ∈ sg_T := sg_mem (i := 1116) (by decide +kernel) rfl
theorem lk_RL_136 : Cond.methodLink RL 136 yL_judged ∈ sg_T := sg_mem (i := 711) (by decide +kernel) rfl
theorem st_L_judged : Cond.static yL_judged ∈ sg_T := sg_mem (i := 712) (by decide +kernel) rfl
theorem md_X8_judged : sg_MD yX8_judged cX8_judged 2 (some .int) 1 := ⟨sg_mem (i := 1125) (by decide +kernel) rfl, sg_mem (i := 59) (by decide +kernel) rfl, ⟨by decide, by decide⟩, by decide +kernel⟩
theorem ml_RL_138 : sg_ML RL 138 yX8_judged := .inl (sg_mem (i := 1122) (by decide +kernel) rfl)
theorem im_X8_judged : Cond.instanceMethod yX8_judged ∈ sg_T := sg_mem (i := 1123) (by decide +kernel) rfl
theorem sl_X8_judged : Cond.selects yX8_judged.cls yX8_judged yX8_judged ∈ sg_T := sg_mem (i := 1124) (by decide +kernel) rfl
theorem lk_RL_139 : Cond.methodLink RL 139 yL_strike ∈ sg_T := sg_mem (i := 723) (by decide +kernel) rfl
theorem st_L_strike : Cond.static yL_strike ∈ sg_T := sg_mem (i := 724) (by decide +kernel) rfl
theorem md_X8_strike : sg_MD yX8_strike cX8_strike 2 (some .boolean) 1 := ⟨sg_mem (i := 1133) (by decide +kernel) rfl, sg_mem (i := 59) (by decide +kernel) rfl, ⟨by decide, by decide⟩, by decide +kernel⟩
theorem ml_RL_141 : sg_ML RL 141 yX8_strike := .inl (sg_mem (i := 1130) (by decide +kernel) rfl)
theorem im_X8_strike : Cond.instanceMethod yX8_strike ∈ sg_T := sg_mem (i := 1131) (by decide +kernel) rfl
theorem sl_X8_strike : Cond.selects yX8_strike.cls yX8_strike yX8_strike ∈ sg_T := sg_mem (i := 1132) (by decide +kernel) rfl
theorem lk_RL_142 : Cond.methodLink RL 142 yL_best ∈ sg_T := sg_mem (i := 730) (by decide +kernel) rfl
theorem st_L_best : Cond.static yL_best ∈ sg_T := sg_mem (i := 731) (by decide +kernel) rfl
theorem md_X8_best : sg_MD yX8_best cX8_best 3 (some .int) 2 := ⟨sg_mem (i := 1137) (by decide +kernel) rfl, sg_mem (i := 59) (by decide +kernel) rfl, ⟨by decide, by decide⟩, by decide +kernel⟩
theorem ml_RL_144 : sg_ML RL 144 yX8_best := .inl (sg_mem (i := 1134) (by decide +kernel) rfl)
theorem im_X8_best : Cond.instanceMethod yX8_best ∈ sg_T := sg_mem (i := 1135) (by decide +kernel) rfl
theorem sl_X8_best : Cond.selects yX8_best.cls yX8_best yX8_best ∈ sg_T := sg_mem (i := 1136) (by decide +kernel) rfl
theorem lk_RL_145 : Cond.methodLink RL 145 yL_bestAnew ∈ sg_T := sg_mem (i := 752) (by decide +kernel) rfl
theorem st_L_bestAnew : Cond.static yL_bestAnew ∈ sg_T := sg_mem (i := 753) (by decide +kernel) rfl
theorem md_X8_bestAnew : sg_MD yX8_bestAnew cX8_bestAnew 6 (some .int) 2 := ⟨sg_mem (i := 1157) (by decide +kernel) rfl, sg_mem (i := 59) (by decide +kernel) rfl, ⟨by decide, by decide⟩, by decide +kernel⟩
theorem ml_RL_147 : sg_ML RL 147 yX8_bestAnew := .inl (sg_mem (i := 1154) (by decide +kernel) rfl)
theorem im_X8_bestAnew : Cond.instanceMethod yX8_bestAnew ∈ sg_T := sg_mem (i := 1155) (by decide +kernel) rfl
theorem sl_X8_bestAnew : Cond.selects yX8_bestAnew.cls yX8_bestAnew yX8_bestAnew ∈ sg_T := sg_mem (i := 1156) (by decide +kernel) rfl
theorem lk_RL_148 : Cond.methodLink RL 148 yL_place ∈ sg_T := sg_mem (i := 763) (by decide +kernel) rfl
theorem st_L_place : Cond.static yL_place ∈ sg_T := sg_mem (i := 764) (by decide +kernel) rfl
theorem md_X8_place : sg_MD yX8_place cX8_place 3 (some .int) 2 := ⟨sg_mem (i := 1161) (by decide +kernel) rfl, sg_mem (i := 59) (by decide +kernel) rfl, ⟨by decide, by decide⟩, by decide +kernel⟩
theorem ml_RL_150 : sg_ML RL 150 yX8_place := .inl (sg_mem (i := 1158) (by decide +kernel) rfl)
theorem im_X8_place : Cond.instanceMethod yX8_place ∈ sg_T := sg_mem (i := 1159) (by decide +kernel) rfl
theorem sl_X8_place : Cond.selects yX8_place.cls yX8_place yX8_place ∈ sg_T := sg_mem (i := 1160) (by decide +kernel) rfl
theorem lk_RL_151 : Cond.methodLink RL 151 yL_at ∈ sg_T := sg_mem (i := 774) (by decide +kernel) rfl
theorem st_L_at : Cond.static yL_at ∈ sg_T := sg_mem (i := 775) (by decide +kernel) rfl
theorem md_X8_at : sg_MD yX8_at cX8_at 9 (some .int) 2 := ⟨sg_mem (i := 1169) (by decide +kernel) rfl, sg_mem (i := 59) (by decide +kernel) rfl, ⟨by decide, by decide⟩, by decide +kernel⟩
theorem ml_RL_153 : sg_ML RL 153 yX8_at := .inl (sg_mem (i := 1166) (by decide +kernel) rfl)
theorem im_X8_at : Cond.instanceMethod yX8_at ∈ sg_T := sg_mem (i := 1167) (by decide +kernel) rfl
theorem sl_X8_at : Cond.selects yX8_at.cls yX8_at yX8_at ∈ sg_T := sg_mem (i := 1168) (by decide +kernel) rfl
theorem lk_RL_154 : Cond.methodLink RL 154 yL_placeWithout ∈ sg_T := sg_mem (i := 786) (by decide +kernel) rfl
theorem st_L_placeWithout : Cond.static yL_placeWithout ∈ sg_T := sg_mem (i := 787) (by decide +kernel) rfl
theorem md_X8_placeWithout : sg_MD yX8_placeWithout cX8_placeWithout 2 (some .int) 1 := ⟨sg_mem (i := 1173) (by decide +kernel) rfl, sg_mem (i := 59) (by decide +kernel) rfl, ⟨by decide, by decide⟩, by decide +kernel⟩
theorem ml_RL_156 : sg_ML RL 156 yX8_placeWithout := .inl (sg_mem (i := 1170) (by decide +kernel) rfl)
theorem im_X8_placeWithout : Cond.instanceMethod yX8_placeWithout ∈ sg_T := sg_mem (i := 1171) (by decide +kernel) rfl
theorem sl_X8_placeWithout : Cond.selects yX8_placeWithout.cls yX8_placeWithout yX8_placeWithout ∈ sg_T := sg_mem (i := 1172) (by decide +kernel) rfl
theorem lk_RL_157 : Cond.methodLink RL 157 yL_estimate ∈ sg_T := sg_mem (i := 793) (by decide +kernel) rfl
theorem st_L_estimate : Cond.static yL_estimate ∈ sg_T := sg_mem (i := 794) (by decide +kernel) rfl
theorem md_X8_estimate : sg_MD yX8_estimate cX8_estimate 3 (some .int) 2 := ⟨sg_mem (i := 1177) (by decide +kernel) rfl, sg_mem (i := 59) (by decide +kernel) rfl, ⟨by decide, by decide⟩, by decide +kernel⟩
theorem ml_RL_159 : sg_ML RL 159 yX8_estimate := .inl (sg_mem (i := 1174) (by decide +kernel) rfl)
theorem im_X8_estimate : Cond.instanceMethod yX8_estimate ∈ sg_T := sg_mem (i := 1175) (by decide +kernel) rfl
theorem sl_X8_estimate : Cond.selects yX8_estimate.cls yX8_estimate yX8_estimate ∈ sg_T := sg_mem (i := 1176) (by decide +kernel) rfl
theorem lk_RL_160 : Cond.methodLink RL 160 yL_offer ∈ sg_T := sg_mem (i := 804) (by decide +kernel) rfl
theorem st_L_offer : Cond.static yL_offer ∈ sg_T := sg_mem (i := 805) (by decide +kernel) rfl
theorem md_X8_offer : sg_MD yX8_offer cX8_offer 5 (some .int) 2 := ⟨sg_mem (i := 1185) (by decide +kernel) rfl, sg_mem (i := 59) (by decide +kernel) rfl, ⟨by decide, by decide⟩, by decide +kernel⟩
theorem ml_RL_162 : sg_ML RL 162 yX8_offer := .inl (sg_mem (i := 1182) (by decide +kernel) rfl)
theorem im_X8_offer : Cond.instanceMethod yX8_offer ∈ sg_T := sg_mem (i := 1183) (by decide +kernel) rfl
theorem sl_X8_offer : Cond.selects yX8_offer.cls yX8_offer yX8_offer ∈ sg_T := sg_mem (i := 1184) (by decide +kernel) rfl
theorem lk_RL_163 : Cond.methodLink RL 163 yL_gift ∈ sg_T := sg_mem (i := 834) (by decide +kernel) rfl
theorem st_L_gift : Cond.static yL_gift ∈ sg_T := sg_mem (i := 835) (by decide +kernel) rfl
theorem md_X8_gift : sg_MD yX8_gift cX8_gift 4 (some .int) 2 := ⟨sg_mem (i := 1189) (by decide +kernel) rfl, sg_mem (i := 59) (by decide +kernel) rfl, ⟨by decide, by decide⟩, by decide +kernel⟩
theorem ml_RL_165 : sg_ML RL 165 yX8_gift := .inl (sg_mem (i := 1186) (by decide +kernel) rfl)
theorem im_X8_gift : Cond.instanceMethod yX8_gift ∈ sg_T := sg_mem (i := 1187) (by decide +kernel) rfl
theorem sl_X8_gift : Cond.selects yX8_gift.cls yX8_gift yX8_gift ∈ sg_T := sg_mem (i := 1188) (by decide +kernel) rfl
theorem lk_RL_166 : Cond.methodLink RL 166 yL_plan ∈ sg_T := sg_mem (i := 843) (by decide +kernel) rfl
theorem st_L_plan : Cond.static yL_plan ∈ sg_T := sg_mem (i := 844) (by decide +kernel) rfl
theorem md_X8_plan : sg_MD yX8_plan cX8_plan 11 (some .int) 1 := ⟨sg_mem (i := 1197) (by decide +kernel) rfl, sg_mem (i := 59) (by decide +kernel) rfl, ⟨by decide, by decide⟩, by decide +kernel⟩
theorem ml_RL_168 : sg_ML RL 168 yX8_plan := .inl (sg_mem (i := 1194) (by decide +kernel) rfl)
theorem im_X8_plan : Cond.instanceMethod yX8_plan ∈ sg_T := sg_mem (i := 1195) (by decide +kernel) rfl
theorem sl_X8_plan : Cond.selects yX8_plan.cls yX8_plan yX8_plan ∈ sg_T := sg_mem (i := 1196) (by decide +kernel) rfl
set_option maxHeartbeats 4000000 in
set_option maxRecDepth 100000 in
theorem k_L_level {p : Program} {l : Launch} {e : Env} {s : State} {m : MethodId} {below : List Frame} {meth : Method} {c : Code} {cells slots : Nat} {Q : State → Prop} {g : sg_G} {C : Nat → Option va_E} {b L x0 m0 o : Nat} {xs : Nat → Int32} {q : Nat → Nat} {σ : Mem} {i : Int32} (hc : sg_Cx p s m #[.ref b] c cL_law 7 RL g) (hgs : g.2.2.1 = s.heap) (hX : va_X b L xs s s.heap) (hbl : b < s.heap.size) (hst : l.stackTraces = false) (hN : mN m0 q) (hI : LI g x0 m0 q o σ C) (hcs : cells + 24 ≤ room_1.cells) (hsl : slots + 420 ≤ room_1.slots) (kk : ∀ τ C', LI g x0 m0 q o τ C' → sg_W p l e room_1 s m #[.ref b] below meth c 7 g (cells + 24) (slots + 420) Q C' 1579 [(4, .int i), (3, .ref o), (2, .ref m0), (1, .ref x0), (0, .ref b)] []) : sg_W p l e room_1 s m #[.ref b] below meth c 7 g cells slots Q C 144 [(4, .int i), (3, .ref o), (2, .ref m0), (1, .ref x0), (0, .ref b)] [] := by
  obtain ⟨ad, own, gh, fo, hQ, hg, hW, rfl, hO, hOo, hM, hK⟩ := hI
  refine sw_aload_n (pc := 144) hc dL_law_144 rfl 3 rfl ?_
  refine sw_aload_n (pc := 145) hc dL_law_145 rfl 1 rfl ?_
  refine sw_callSX (pc := 146) (rest := []) hc (c_L_level l g C ad own gh σ o fo hQ hW hg hO hOo hst) mdh_L_level lk_RL_92 st_L_level rfl rfl (Nat.le_of_ble_eq_true rfl) dL_law_146 ⟨Nat.le_of_ble_eq_true rfl, Nat.le_of_ble_eq_true rfl, (by omega), (by omega)⟩ (fun v C1 hP => ?_)
  obtain ⟨rfl, f', hPO, hv⟩ := hP
  refine sw_st (st' := [.int (kLevel σ)]) rfl ?_
  refine sw_istore (pc := 149) hc dL_law_149 (by decide) (lv' := [(5, .int (kLevel σ)), (4, .int i), (3, .ref o), (2, .ref m0), (1, .ref (ad 0 0)), (0, .ref b)]) rfl ?_
  refine sw_eq (C' := sg_ov C1 (mW g m0 q σ)) (hPO.mid hM hK) ?_
  refine sw_aload_n (pc := 151) hc dL_law_151 rfl 3 rfl ?_
  refine sw_callV (pc := 152) (rest := []) hc (c_X8_level l g C1 m0 q σ hN) md_X8_level ml_RL_97 im_X8_level sl_X8_level (mW_o hN) rfl rfl rfl (Nat.le_of_ble_eq_true rfl) dL_law_152 ⟨Nat.le_of_ble_eq_true rfl, Nat.le_of_ble_eq_true rfl, (by omega), (by omega)⟩ (fun v C2 hP2 => ?_) (fun _ _ h => h.elim)
  obtain ⟨rfl, rfl⟩ := hP2
  refine sw_st (st' := [.int (vLevel σ)]) rfl ?_
  refine sw_istore (pc := 155) hc dL_law_155 (by decide) (lv' := [(6, .int (vLevel σ)), (5, .int (kLevel σ)), (4, .int i), (3, .ref o), (2, .ref m0), (1, .ref (ad 0 0)), (0, .ref b)]) rfl ?_
  refine sw_aload_n (pc := 157) hc dL_law_157 rfl 4 rfl ?_
  refine sw_callV (pc := 158) (rest := []) hc (c_X8_thrown l g C1 m0 q (fLevel σ) hN) md_X8_thrown ml_RL_98 im_X8_thrown sl_X8_thrown (mW_o hN) rfl rfl rfl (Nat.le_of_ble_eq_true rfl) dL_law_158 ⟨Nat.le_of_ble_eq_true rfl, Nat.le_of_ble_eq_true rfl, (by omega), (by omega)⟩ (fun v C2 hP2 => ?_) (fun _ _ h => h.elim)
  obtain ⟨rfl, rfl⟩ := hP2
  refine sw_st (st' := [.int (kLevel σ)]) (by rw [q_Level]; rfl) ?_
  refine sw_iload (pc := 161) hc dL_law_161 1 rfl ?_
  refine sw_icmp_eq (pc := 163) (tgt := 168) hc dL_law_163 (by decide) (fun _ => ?_) (fun hz => absurd rfl hz)
  refine sw_iload (pc := 168) hc dL_law_168 1 rfl ?_
  refine sw_if_ne (pc := 170) (tgt := 185) hc dL_law_170 (by decide) (fun _ => ?_) (fun hz => ?_)
  · skip
    refine sw_goto (pc := 185) (tgt := 1579) hc dL_law_185 (by decide) ?_
    refine sw_widen (k := cells + 24) (n := slots + 420) (by omega) (by omega) ?_
    refine sw_sub (ks := [2, 3, 4, 5, 6]) rfl ?_
    exact kk _ _ (hPO.nx hN hM hK)
  · skip
    refine sw_aload_n (pc := 173) hc dL_law_173 rfl 3 rfl ?_
    refine sw_iconst (pc := 174) (v := 0) hc dL_law_174 (by decide) ?_
    refine sw_lald (pc := 175) (j := 0) hc (hPO.out hK) rfl (by decide) (by decide) dL_law_175 ?_
    refine sw_st (st' := [.long ((vLevel σ).toInt64)]) (by rw [hv hz]) ?_
    refine sw_iload (pc := 176) hc dL_law_176 0 rfl ?_
    refine sw_i2l (pc := 178) (v := (vLevel σ).toInt64) hc dL_law_178 rfl ?_
    refine sw_lcmp (pc := 179) hc dL_law_179 ?_
    refine sw_if_eq (pc := 180) (tgt := 185) hc dL_law_180 (by decide) (fun _ => ?_) (fun hz2 => absurd ((lg_cmp_eq _ _).mpr rfl) hz2)
    refine sw_goto (pc := 185) (tgt := 1579) hc dL_law_185 (by decide) ?_
    refine sw_widen (k := cells + 24) (n := slots + 420) (by omega) (by omega) ?_
    refine sw_sub (ks := [2, 3, 4, 5, 6]) rfl ?_
    exact kk _ _ (hPO.nx hN hM hK)
set_option maxHeartbeats 4000000 in
set_option maxRecDepth 100000 in
theorem k_L_column {p : Program} {l : Launch} {e : Env} {s : State} {m : MethodId} {below : List Frame} {meth : Method} {c : Code} {cells slots : Nat} {Q : State → Prop} {g : sg_G} {C : Nat → Option va_E} {b L x0 m0 o : Nat} {xs : Nat → Int32} {q : Nat → Nat} {σ : Mem} {i : Int32} {w1 w2 w3 w4 : Int32} (hc : sg_Cx p s m #[.ref b] c cL_law 7 RL g) (hgs : g.2.2.1 = s.heap) (hX : va_X b L xs s s.heap) (hbl : b < s.heap.size) (hst : l.stackTraces = false) (hN : mN m0 q) (hI : LI g x0 m0 q o σ C) (h_w1 : AV L xs (i + 1) w1) (h_w2 : AV L xs (i + 2) w2) (h_w3 : AV L xs (i + 3) w3) (h_w4 : AV L xs (i + 4) w4) (hcs : cells + 24 ≤ room_1.cells) (hsl : slots + 420 ≤ room_1.slots) (kk : ∀ τ C', LI g x0 m0 q o τ C' → sg_W p l e room_1 s m #[.ref b] below meth c 7 g (cells + 24) (slots + 420) Q C' 1579 [(4, .int i), (3, .ref o), (2, .ref m0), (1, .ref x0), (0, .ref b)] []) : sg_W p l e room_1 s m #[.ref b] below meth c 7 g cells slots Q C 188 [(4, .int i), (3, .ref o), (2, .ref m0), (1, .ref x0), (0, .ref b)] [] := by
  obtain ⟨ad, own, gh, fo, hQ, hg, hW, rfl, hO, hOo, hM, hK⟩ := hI
  refine sw_aload_n (pc := 188) hc dL_law_188 rfl 3 rfl ?_
  refine sw_aload_n (pc := 189) hc dL_law_189 rfl 4 rfl ?_
  refine sw_iload (pc := 190) hc dL_law_190 0 rfl ?_
  refine sw_iconst (pc := 192) (v := 1) hc dL_law_192 (by decide) ?_
  refine sw_iadd (pc := 193) hc dL_law_193 ?_
  refine sw_sld (pc := 194) hc hgs hX hbl h_w1 dL_law_194 ?_
  refine sw_aload_n (pc := 195) hc dL_law_195 rfl 4 rfl ?_
  refine sw_iload (pc := 196) hc dL_law_196 0 rfl ?_
  refine sw_iconst (pc := 198) (v := 2) hc dL_law_198 (by decide) ?_
  refine sw_iadd (pc := 199) hc dL_law_199 ?_
  refine sw_sld (pc := 200) hc hgs hX hbl h_w2 dL_law_200 ?_
  refine sw_aload_n (pc := 201) hc dL_law_201 rfl 4 rfl ?_
  refine sw_iload (pc := 202) hc dL_law_202 0 rfl ?_
  refine sw_iconst (pc := 204) (v := 3) hc dL_law_204 (by decide) ?_
  refine sw_iadd (pc := 205) hc dL_law_205 ?_
  refine sw_sld (pc := 206) hc hgs hX hbl h_w3 dL_law_206 ?_
  refine sw_aload_n (pc := 207) hc dL_law_207 rfl 4 rfl ?_
  refine sw_iload (pc := 208) hc dL_law_208 0 rfl ?_
  refine sw_iconst (pc := 210) (v := 4) hc dL_law_210 (by decide) ?_
  refine sw_iadd (pc := 211) hc dL_law_211 ?_
  refine sw_sld (pc := 212) hc hgs hX hbl h_w4 dL_law_212 ?_
  refine sw_callSX (pc := 213) (rest := []) hc (c_L_column l g C ad own gh σ o fo w1 w2 w3 w4 hQ hW hg hO hOo hst) mdh_L_column lk_RL_101 st_L_column rfl rfl (Nat.le_of_ble_eq_true rfl) dL_law_213 ⟨Nat.le_of_ble_eq_true rfl, Nat.le_of_ble_eq_true rfl, (by omega), (by omega)⟩ (fun v C1 hP => ?_)
  obtain ⟨rfl, f', hPO⟩ := hP
  refine sw_st (st' := [.int (kColumn σ w1 w2 w3 w4)]) rfl ?_
  refine sw_istore (pc := 216) hc dL_law_216 (by decide) (lv' := [(5, .int (kColumn σ w1 w2 w3 w4)), (4, .int i), (3, .ref o), (2, .ref m0), (1, .ref (ad 0 0)), (0, .ref b)]) rfl ?_
  refine sw_eq (C' := sg_ov C1 (mW g m0 q σ)) (hPO.mid hM hK) ?_
  refine sw_aload_n (pc := 218) hc dL_law_218 rfl 3 rfl ?_
  refine sw_aload_n (pc := 219) hc dL_law_219 rfl 5 rfl ?_
  refine sw_iload (pc := 220) hc dL_law_220 1 rfl ?_
  refine sw_iconst (pc := 222) (v := 1) hc dL_law_222 (by decide) ?_
  refine sw_iadd (pc := 223) hc dL_law_223 ?_
  refine sw_sld (pc := 224) hc hgs hX hbl h_w1 dL_law_224 ?_
  refine sw_aload_n (pc := 225) hc dL_law_225 rfl 5 rfl ?_
  refine sw_iload (pc := 226) hc dL_law_226 1 rfl ?_
  refine sw_iconst (pc := 228) (v := 2) hc dL_law_228 (by decide) ?_
  refine sw_iadd (pc := 229) hc dL_law_229 ?_
  refine sw_sld (pc := 230) hc hgs hX hbl h_w2 dL_law_230 ?_
  refine sw_aload_n (pc := 231) hc dL_law_231 rfl 5 rfl ?_
  refine sw_iload (pc := 232) hc dL_law_232 1 rfl ?_
  refine sw_iconst (pc := 234) (v := 3) hc dL_law_234 (by decide) ?_
  refine sw_iadd (pc := 235) hc dL_law_235 ?_
  refine sw_sld (pc := 236) hc hgs hX hbl h_w3 dL_law_236 ?_
  refine sw_aload_n (pc := 237) hc dL_law_237 rfl 5 rfl ?_
  refine sw_iload (pc := 238) hc dL_law_238 1 rfl ?_
  refine sw_iconst (pc := 240) (v := 4) hc dL_law_240 (by decide) ?_
  refine sw_iadd (pc := 241) hc dL_law_241 ?_
  refine sw_sld (pc := 242) hc hgs hX hbl h_w4 dL_law_242 ?_
  refine sw_callV (pc := 243) (rest := []) hc (c_X8_column l g C1 m0 q σ w1 w2 w3 w4 hN hW.1) md_X8_column ml_RL_104 im_X8_column sl_X8_column (mW_o hN) rfl rfl rfl (Nat.le_of_ble_eq_true rfl) dL_law_243 ⟨Nat.le_of_ble_eq_true rfl, Nat.le_of_ble_eq_true rfl, (by omega), (by omega)⟩ (fun v C2 hP2 => ?_) (fun _ _ h => h.elim)
  obtain ⟨rfl, rfl⟩ := hP2
  refine sw_st (st' := []) rfl ?_
  refine sw_aload_n (pc := 246) hc dL_law_246 rfl 3 rfl ?_
  refine sw_callV (pc := 247) (rest := []) hc (c_X8_thrown l g C1 m0 q (fColumn σ w1 w2 w3 w4) hN) md_X8_thrown ml_RL_98 im_X8_thrown sl_X8_thrown (mW_o hN) rfl rfl rfl (Nat.le_of_ble_eq_true rfl) dL_law_247 ⟨Nat.le_of_ble_eq_true rfl, Nat.le_of_ble_eq_true rfl, (by omega), (by omega)⟩ (fun v C2 hP2 => ?_) (fun _ _ h => h.elim)
  obtain ⟨rfl, rfl⟩ := hP2
  refine sw_st (st' := [.int (kColumn σ w1 w2 w3 w4)]) (by rw [q_Column]; rfl) ?_
  refine sw_iload (pc := 250) hc dL_law_250 0 rfl ?_
  refine sw_icmp_eq (pc := 252) (tgt := 257) hc dL_law_252 (by decide) (fun _ => ?_) (fun hz => absurd rfl hz)
  refine sw_goto (pc := 257) (tgt := 1579) hc dL_law_257 (by decide) ?_
  refine sw_widen (k := cells + 24) (n := slots + 420) (by omega) (by omega) ?_
  refine sw_sub (ks := [1, 2, 3, 4, 5]) rfl ?_
  exact kk _ _ (hPO.nx hN hM hK)
set_option maxHeartbeats 4000000 in
set_option maxRecDepth 100000 in
theorem k_L_replay {p : Program} {l : Launch} {e : Env} {s : State} {m : MethodId} {below : List Frame} {meth : Method} {c : Code} {cells slots : Nat} {Q : State → Prop} {g : sg_G} {C : Nat → Option va_E} {b L x0 m0 o : Nat} {xs : Nat → Int32} {q : Nat → Nat} {σ : Mem} {i : Int32} {w1 : Int32} (hc : sg_Cx p s m #[.ref b] c cL_law 7 RL g) (hgs : g.2.2.1 = s.heap) (hX : va_X b L xs s s.heap) (hbl : b < s.heap.size) (hst : l.stackTraces = false) (hN : mN m0 q) (hI : LI g x0 m0 q o σ C) (h_w1 : AV L xs (i + 1) w1) (hcs : cells + 24 ≤ room_1.cells) (hsl : slots + 420 ≤ room_1.slots) (kk : ∀ τ C', LI g x0 m0 q o τ C' → sg_W p l e room_1 s m #[.ref b] below meth c 7 g (cells + 24) (slots + 420) Q C' 1579 [(4, .int i), (3, .ref o), (2, .ref m0), (1, .ref x0), (0, .ref b)] []) : sg_W p l e room_1 s m #[.ref b] below meth c 7 g cells slots Q C 260 [(4, .int i), (3, .ref o), (2, .ref m0), (1, .ref x0), (0, .ref b)] [] := by
  obtain ⟨ad, own, gh, fo, hQ, hg, hW, rfl, hO, hOo, hM, hK⟩ := hI
  refine sw_aload_n (pc := 260) hc dL_law_260 rfl 3 rfl ?_
  refine sw_aload_n (pc := 261) hc dL_law_261 rfl 4 rfl ?_
  refine sw_iload (pc := 262) hc dL_law_262 0 rfl ?_
  refine sw_iconst (pc := 264) (v := 1) hc dL_law_264 (by decide) ?_
  refine sw_iadd (pc := 265) hc dL_law_265 ?_
  refine sw_sld (pc := 266) hc hgs hX hbl h_w1 dL_law_266 ?_
  refine sw_aload_n (pc := 267) hc dL_law_267 rfl 1 rfl ?_
  refine sw_callSX (pc := 268) (rest := []) hc (c_L_replay l g C ad own gh σ o fo w1 hQ hW hg hO hOo hst) mdh_L_replay lk_RL_105 st_L_replay rfl rfl (Nat.le_of_ble_eq_true rfl) dL_law_268 ⟨Nat.le_of_ble_eq_true rfl, Nat.le_of_ble_eq_true rfl, (by omega), (by omega)⟩ (fun v C1 hP => ?_)
  obtain ⟨rfl, f', hPO, hv⟩ := hP
  refine sw_st (st' := [.int (kReplay σ w1)]) rfl ?_
  refine sw_istore (pc := 271) hc dL_law_271 (by decide) (lv' := [(5, .int (kReplay σ w1)), (4, .int i), (3, .ref o), (2, .ref m0), (1, .ref (ad 0 0)), (0, .ref b)]) rfl ?_
  refine sw_eq (C' := sg_ov C1 (mW g m0 q σ)) (hPO.mid hM hK) ?_
  refine sw_aload_n (pc := 273) hc dL_law_273 rfl 3 rfl ?_
  refine sw_aload_n (pc := 274) hc dL_law_274 rfl 5 rfl ?_
  refine sw_iload (pc := 275) hc dL_law_275 1 rfl ?_
  refine sw_iconst (pc := 277) (v := 1) hc dL_law_277 (by decide) ?_
  refine sw_iadd (pc := 278) hc dL_law_278 ?_
  refine sw_sld (pc := 279) hc hgs hX hbl h_w1 dL_law_279 ?_
  refine sw_callV (pc := 280) (rest := []) hc (c_X8_replay l g C1 m0 q σ w1 hN hW.1) md_X8_replay ml_RL_108 im_X8_replay sl_X8_replay (mW_o hN) rfl rfl rfl (Nat.le_of_ble_eq_true rfl) dL_law_280 ⟨Nat.le_of_ble_eq_true rfl, Nat.le_of_ble_eq_true rfl, (by omega), (by omega)⟩ (fun v C2 hP2 => ?_) (fun _ _ h => h.elim)
  obtain ⟨rfl, rfl⟩ := hP2
  refine sw_st (st' := [.int (vReplay σ w1)]) rfl ?_
  refine sw_istore (pc := 283) hc dL_law_283 (by decide) (lv' := [(6, .int (vReplay σ w1)), (5, .int (kReplay σ w1)), (4, .int i), (3, .ref o), (2, .ref m0), (1, .ref (ad 0 0)), (0, .ref b)]) rfl ?_
  refine sw_aload_n (pc := 285) hc dL_law_285 rfl 4 rfl ?_
  refine sw_callV (pc := 286) (rest := []) hc (c_X8_thrown l g C1 m0 q (fReplay σ w1) hN) md_X8_thrown ml_RL_98 im_X8_thrown sl_X8_thrown (mW_o hN) rfl rfl rfl (Nat.le_of_ble_eq_true rfl) dL_law_286 ⟨Nat.le_of_ble_eq_true rfl, Nat.le_of_ble_eq_true rfl, (by omega), (by omega)⟩ (fun v C2 hP2 => ?_) (fun _ _ h => h.elim)
  obtain ⟨rfl, rfl⟩ := hP2
  refine sw_st (st' := [.int (kReplay σ w1)]) (by rw [q_Replay]; rfl) ?_
  refine sw_iload (pc := 289) hc dL_law_289 1 rfl ?_
  refine sw_icmp_eq (pc := 291) (tgt := 296) hc dL_law_291 (by decide) (fun _ => ?_) (fun hz => absurd rfl hz)
  refine sw_iload (pc := 296) hc dL_law_296 1 rfl ?_
  refine sw_if_ne (pc := 298) (tgt := 313) hc dL_law_298 (by decide) (fun _ => ?_) (fun hz => ?_)
  · skip
    refine sw_goto (pc := 313) (tgt := 1579) hc dL_law_313 (by decide) ?_
    refine sw_widen (k := cells + 24) (n := slots + 420) (by omega) (by omega) ?_
    refine sw_sub (ks := [2, 3, 4, 5, 6]) rfl ?_
    exact kk _ _ (hPO.nx hN hM hK)
  · skip
    refine sw_aload_n (pc := 301) hc dL_law_301 rfl 3 rfl ?_
    refine sw_iconst (pc := 302) (v := 0) hc dL_law_302 (by decide) ?_
    refine sw_lald (pc := 303) (j := 0) hc (hPO.out hK) rfl (by decide) (by decide) dL_law_303 ?_
    refine sw_st (st' := [.long ((vReplay σ w1).toInt64)]) (by rw [hv hz]) ?_
    refine sw_iload (pc := 304) hc dL_law_304 0 rfl ?_
    refine sw_i2l (pc := 306) (v := (vReplay σ w1).toInt64) hc dL_law_306 rfl ?_
    refine sw_lcmp (pc := 307) hc dL_law_307 ?_
    refine sw_if_eq (pc := 308) (tgt := 313) hc dL_law_308 (by decide) (fun _ => ?_) (fun hz2 => absurd ((lg_cmp_eq _ _).mpr rfl) hz2)
    refine sw_goto (pc := 313) (tgt := 1579) hc dL_law_313 (by decide) ?_
    refine sw_widen (k := cells + 24) (n := slots + 420) (by omega) (by omega) ?_
    refine sw_sub (ks := [2, 3, 4, 5, 6]) rfl ?_
    exact kk _ _ (hPO.nx hN hM hK)
set_option maxHeartbeats 4000000 in
set_option maxRecDepth 100000 in
theorem k_L_input {p : Program} {l : Launch} {e : Env} {s : State} {m : MethodId} {below : List Frame} {meth : Method} {c : Code} {cells slots : Nat} {Q : State → Prop} {g : sg_G} {C : Nat → Option va_E} {b L x0 m0 o : Nat} {xs : Nat → Int32} {q : Nat → Nat} {σ : Mem} {i : Int32} {w1 w2 w3 : Int32} (hc : sg_Cx p s m #[.ref b] c cL_law 7 RL g) (hgs : g.2.2.1 = s.heap) (hX : va_X b L xs s s.heap) (hbl : b < s.heap.size) (hst : l.stackTraces = false) (hN : mN m0 q) (hI : LI g x0 m0 q o σ C) (h_w1 : AV L xs (i + 1) w1) (h_w2 : AV L xs (i + 2) w2) (h_w3 : AV L xs (i + 3) w3) (hcs : cells + 24 ≤ room_1.cells) (hsl : slots + 420 ≤ room_1.slots) (kk : ∀ τ C', LI g x0 m0 q o τ C' → sg_W p l e room_1 s m #[.ref b] below meth c 7 g (cells + 24) (slots + 420) Q C' 1579 [(4, .int i), (3, .ref o), (2, .ref m0), (1, .ref x0), (0, .ref b)] []) : sg_W p l e room_1 s m #[.ref b] below meth c 7 g cells slots Q C 316 [(4, .int i), (3, .ref o), (2, .ref m0), (1, .ref x0), (0, .ref b)] [] := by
  obtain ⟨ad, own, gh, fo, hQ, hg, hW, rfl, hO, hOo, hM, hK⟩ := hI
  refine sw_aload_n (pc := 316) hc dL_law_316 rfl 3 rfl ?_
  refine sw_aload_n (pc := 317) hc dL_law_317 rfl 4 rfl ?_
  refine sw_iload (pc := 318) hc dL_law_318 0 rfl ?_
  refine sw_iconst (pc := 320) (v := 1) hc dL_law_320 (by decide) ?_
  refine sw_iadd (pc := 321) hc dL_law_321 ?_
  refine sw_sld (pc := 322) hc hgs hX hbl h_w1 dL_law_322 ?_
  refine sw_aload_n (pc := 323) hc dL_law_323 rfl 4 rfl ?_
  refine sw_iload (pc := 324) hc dL_law_324 0 rfl ?_
  refine sw_iconst (pc := 326) (v := 2) hc dL_law_326 (by decide) ?_
  refine sw_iadd (pc := 327) hc dL_law_327 ?_
  refine sw_sld (pc := 328) hc hgs hX hbl h_w2 dL_law_328 ?_
  refine sw_aload_n (pc := 329) hc dL_law_329 rfl 4 rfl ?_
  refine sw_iload (pc := 330) hc dL_law_330 0 rfl ?_
  refine sw_iconst (pc := 332) (v := 3) hc dL_law_332 (by decide) ?_
  refine sw_iadd (pc := 333) hc dL_law_333 ?_
  refine sw_sld (pc := 334) hc hgs hX hbl h_w3 dL_law_334 ?_
  refine sw_aload_n (pc := 335) hc dL_law_335 rfl 1 rfl ?_
  refine sw_callSX (pc := 336) (rest := []) hc (c_L_input l g C ad own gh σ o fo w1 w2 w3 hQ hW hg hO hOo hst) mdh_L_input lk_RL_109 st_L_input rfl rfl (Nat.le_of_ble_eq_true rfl) dL_law_336 ⟨Nat.le_of_ble_eq_true rfl, Nat.le_of_ble_eq_true rfl, (by omega), (by omega)⟩ (fun v C1 hP => ?_)
  obtain ⟨rfl, f', hPO, hv⟩ := hP
  refine sw_st (st' := [.int (kInput σ w1 w2 w3)]) rfl ?_
  refine sw_istore (pc := 339) hc dL_law_339 (by decide) (lv' := [(5, .int (kInput σ w1 w2 w3)), (4, .int i), (3, .ref o), (2, .ref m0), (1, .ref (ad 0 0)), (0, .ref b)]) rfl ?_
  refine sw_eq (C' := sg_ov C1 (mW g m0 q σ)) (hPO.mid hM hK) ?_
  refine sw_aload_n (pc := 341) hc dL_law_341 rfl 3 rfl ?_
  refine sw_aload_n (pc := 342) hc dL_law_342 rfl 5 rfl ?_
  refine sw_iload (pc := 343) hc dL_law_343 1 rfl ?_
  refine sw_iconst (pc := 345) (v := 1) hc dL_law_345 (by decide) ?_
  refine sw_iadd (pc := 346) hc dL_law_346 ?_
  refine sw_sld (pc := 347) hc hgs hX hbl h_w1 dL_law_347 ?_
  refine sw_aload_n (pc := 348) hc dL_law_348 rfl 5 rfl ?_
  refine sw_iload (pc := 349) hc dL_law_349 1 rfl ?_
  refine sw_iconst (pc := 351) (v := 2) hc dL_law_351 (by decide) ?_
  refine sw_iadd (pc := 352) hc dL_law_352 ?_
  refine sw_sld (pc := 353) hc hgs hX hbl h_w2 dL_law_353 ?_
  refine sw_aload_n (pc := 354) hc dL_law_354 rfl 5 rfl ?_
  refine sw_iload (pc := 355) hc dL_law_355 1 rfl ?_
  refine sw_iconst (pc := 357) (v := 3) hc dL_law_357 (by decide) ?_
  refine sw_iadd (pc := 358) hc dL_law_358 ?_
  refine sw_sld (pc := 359) hc hgs hX hbl h_w3 dL_law_359 ?_
  refine sw_callV (pc := 360) (rest := []) hc (c_X8_input l g C1 m0 q σ w1 w2 w3 hN hW.1) md_X8_input ml_RL_112 im_X8_input sl_X8_input (mW_o hN) rfl rfl rfl (Nat.le_of_ble_eq_true rfl) dL_law_360 ⟨Nat.le_of_ble_eq_true rfl, Nat.le_of_ble_eq_true rfl, (by omega), (by omega)⟩ (fun v C2 hP2 => ?_) (fun _ _ h => h.elim)
  obtain ⟨rfl, rfl⟩ := hP2
  refine sw_st (st' := [.int (vInput σ w1 w2 w3)]) rfl ?_
  refine sw_istore (pc := 363) hc dL_law_363 (by decide) (lv' := [(6, .int (vInput σ w1 w2 w3)), (5, .int (kInput σ w1 w2 w3)), (4, .int i), (3, .ref o), (2, .ref m0), (1, .ref (ad 0 0)), (0, .ref b)]) rfl ?_
  refine sw_aload_n (pc := 365) hc dL_law_365 rfl 4 rfl ?_
  refine sw_callV (pc := 366) (rest := []) hc (c_X8_thrown l g C1 m0 q (fInput σ w1 w2 w3) hN) md_X8_thrown ml_RL_98 im_X8_thrown sl_X8_thrown (mW_o hN) rfl rfl rfl (Nat.le_of_ble_eq_true rfl) dL_law_366 ⟨Nat.le_of_ble_eq_true rfl, Nat.le_of_ble_eq_true rfl, (by omega), (by omega)⟩ (fun v C2 hP2 => ?_) (fun _ _ h => h.elim)
  obtain ⟨rfl, rfl⟩ := hP2
  refine sw_st (st' := [.int (kInput σ w1 w2 w3)]) (by rw [q_Input]; rfl) ?_
  refine sw_iload (pc := 369) hc dL_law_369 1 rfl ?_
  refine sw_icmp_eq (pc := 371) (tgt := 376) hc dL_law_371 (by decide) (fun _ => ?_) (fun hz => absurd rfl hz)
  refine sw_iload (pc := 376) hc dL_law_376 1 rfl ?_
  refine sw_if_ne (pc := 378) (tgt := 393) hc dL_law_378 (by decide) (fun _ => ?_) (fun hz => ?_)
  · skip
    refine sw_goto (pc := 393) (tgt := 1579) hc dL_law_393 (by decide) ?_
    refine sw_widen (k := cells + 24) (n := slots + 420) (by omega) (by omega) ?_
    refine sw_sub (ks := [2, 3, 4, 5, 6]) rfl ?_
    exact kk _ _ (hPO.nx hN hM hK)
  · skip
    refine sw_aload_n (pc := 381) hc dL_law_381 rfl 3 rfl ?_
    refine sw_iconst (pc := 382) (v := 0) hc dL_law_382 (by decide) ?_
    refine sw_lald (pc := 383) (j := 0) hc (hPO.out hK) rfl (by decide) (by decide) dL_law_383 ?_
    refine sw_st (st' := [.long ((vInput σ w1 w2 w3).toInt64)]) (by rw [hv hz]) ?_
    refine sw_iload (pc := 384) hc dL_law_384 0 rfl ?_
    refine sw_i2l (pc := 386) (v := (vInput σ w1 w2 w3).toInt64) hc dL_law_386 rfl ?_
    refine sw_lcmp (pc := 387) hc dL_law_387 ?_
    refine sw_if_eq (pc := 388) (tgt := 393) hc dL_law_388 (by decide) (fun _ => ?_) (fun hz2 => absurd ((lg_cmp_eq _ _).mpr rfl) hz2)
    refine sw_goto (pc := 393) (tgt := 1579) hc dL_law_393 (by decide) ?_
    refine sw_widen (k := cells + 24) (n := slots + 420) (by omega) (by omega) ?_
    refine sw_sub (ks := [2, 3, 4, 5, 6]) rfl ?_
    exact kk _ _ (hPO.nx hN hM hK)
set_option maxHeartbeats 4000000 in
set_option maxRecDepth 100000 in
theorem k_L_result {p : Program} {l : Launch} {e : Env} {s : State} {m : MethodId} {below : List Frame} {meth : Method} {c : Code} {cells slots : Nat} {Q : State → Prop} {g : sg_G} {C : Nat → Option va_E} {b L x0 m0 o : Nat} {xs : Nat → Int32} {q : Nat → Nat} {σ : Mem} {i : Int32} {w1 : Int32} (hc : sg_Cx p s m #[.ref b] c cL_law 7 RL g) (hgs : g.2.2.1 = s.heap) (hX : va_X b L xs s s.heap) (hbl : b < s.heap.size) (hst : l.stackTraces = false) (hN : mN m0 q) (hI : LI g x0 m0 q o σ C) (h_w1 : AV L xs (i + 1) w1) (hcs : cells + 24 ≤ room_1.cells) (hsl : slots + 420 ≤ room_1.slots) (kk : ∀ τ C', LI g x0 m0 q o τ C' → sg_W p l e room_1 s m #[.ref b] below meth c 7 g (cells + 24) (slots + 420) Q C' 1579 [(4, .int i), (3, .ref o), (2, .ref m0), (1, .ref x0), (0, .ref b)] []) : sg_W p l e room_1 s m #[.ref b] below meth c 7 g cells slots Q C 396 [(4, .int i), (3, .ref o), (2, .ref m0), (1, .ref x0), (0, .ref b)] [] := by
  obtain ⟨ad, own, gh, fo, hQ, hg, hW, rfl, hO, hOo, hM, hK⟩ := hI
  refine sw_aload_n (pc := 396) hc dL_law_396 rfl 3 rfl ?_
  refine sw_aload_n (pc := 397) hc dL_law_397 rfl 4 rfl ?_
  refine sw_iload (pc := 398) hc dL_law_398 0 rfl ?_
  refine sw_iconst (pc := 400) (v := 1) hc dL_law_400 (by decide) ?_
  refine sw_iadd (pc := 401) hc dL_law_401 ?_
  refine sw_sld (pc := 402) hc hgs hX hbl h_w1 dL_law_402 ?_
  refine sw_aload_n (pc := 403) hc dL_law_403 rfl 1 rfl ?_
  refine sw_callSX (pc := 404) (rest := []) hc (c_L_result l g C ad own gh σ o fo w1 hQ hW hg hO hOo hst) mdh_L_result lk_RL_113 st_L_result rfl rfl (Nat.le_of_ble_eq_true rfl) dL_law_404 ⟨Nat.le_of_ble_eq_true rfl, Nat.le_of_ble_eq_true rfl, (by omega), (by omega)⟩ (fun v C1 hP => ?_)
  obtain ⟨rfl, f', hPO, hv⟩ := hP
  refine sw_st (st' := [.int (kIn σ 9 w1)]) rfl ?_
  refine sw_istore (pc := 407) hc dL_law_407 (by decide) (lv' := [(5, .int (kIn σ 9 w1)), (4, .int i), (3, .ref o), (2, .ref m0), (1, .ref (ad 0 0)), (0, .ref b)]) rfl ?_
  refine sw_eq (C' := sg_ov C1 (mW g m0 q σ)) (hPO.mid hM hK) ?_
  refine sw_aload_n (pc := 409) hc dL_law_409 rfl 3 rfl ?_
  refine sw_aload_n (pc := 410) hc dL_law_410 rfl 5 rfl ?_
  refine sw_iload (pc := 411) hc dL_law_411 1 rfl ?_
  refine sw_iconst (pc := 413) (v := 1) hc dL_law_413 (by decide) ?_
  refine sw_iadd (pc := 414) hc dL_law_414 ?_
  refine sw_sld (pc := 415) hc hgs hX hbl h_w1 dL_law_415 ?_
  refine sw_callV (pc := 416) (rest := []) hc (c_X8_result l g C1 m0 q σ w1 hN hW.1) md_X8_result ml_RL_115 im_X8_result sl_X8_result (mW_o hN) rfl rfl rfl (Nat.le_of_ble_eq_true rfl) dL_law_416 ⟨Nat.le_of_ble_eq_true rfl, Nat.le_of_ble_eq_true rfl, (by omega), (by omega)⟩ (fun v C2 hP2 => ?_) (fun _ _ h => h.elim)
  obtain ⟨rfl, rfl⟩ := hP2
  refine sw_st (st' := [.int (vResult σ w1)]) rfl ?_
  refine sw_istore (pc := 419) hc dL_law_419 (by decide) (lv' := [(6, .int (vResult σ w1)), (5, .int (kIn σ 9 w1)), (4, .int i), (3, .ref o), (2, .ref m0), (1, .ref (ad 0 0)), (0, .ref b)]) rfl ?_
  refine sw_aload_n (pc := 421) hc dL_law_421 rfl 4 rfl ?_
  refine sw_callV (pc := 422) (rest := []) hc (c_X8_thrown l g C1 m0 q (fResult σ w1) hN) md_X8_thrown ml_RL_98 im_X8_thrown sl_X8_thrown (mW_o hN) rfl rfl rfl (Nat.le_of_ble_eq_true rfl) dL_law_422 ⟨Nat.le_of_ble_eq_true rfl, Nat.le_of_ble_eq_true rfl, (by omega), (by omega)⟩ (fun v C2 hP2 => ?_) (fun _ _ h => h.elim)
  obtain ⟨rfl, rfl⟩ := hP2
  refine sw_st (st' := [.int (kIn σ 9 w1)]) (by rw [q_Result]; rfl) ?_
  refine sw_iload (pc := 425) hc dL_law_425 1 rfl ?_
  refine sw_icmp_eq (pc := 427) (tgt := 432) hc dL_law_427 (by decide) (fun _ => ?_) (fun hz => absurd rfl hz)
  refine sw_iload (pc := 432) hc dL_law_432 1 rfl ?_
  refine sw_if_ne (pc := 434) (tgt := 449) hc dL_law_434 (by decide) (fun _ => ?_) (fun hz => ?_)
  · skip
    refine sw_goto (pc := 449) (tgt := 1579) hc dL_law_449 (by decide) ?_
    refine sw_widen (k := cells + 24) (n := slots + 420) (by omega) (by omega) ?_
    refine sw_sub (ks := [2, 3, 4, 5, 6]) rfl ?_
    exact kk _ _ (hPO.nx hN hM hK)
  · skip
    refine sw_aload_n (pc := 437) hc dL_law_437 rfl 3 rfl ?_
    refine sw_iconst (pc := 438) (v := 0) hc dL_law_438 (by decide) ?_
    refine sw_lald (pc := 439) (j := 0) hc (hPO.out hK) rfl (by decide) (by decide) dL_law_439 ?_
    refine sw_st (st' := [.long ((vResult σ w1).toInt64)]) (by rw [hv hz]) ?_
    refine sw_iload (pc := 440) hc dL_law_440 0 rfl ?_
    refine sw_i2l (pc := 442) (v := (vResult σ w1).toInt64) hc dL_law_442 rfl ?_
    refine sw_lcmp (pc := 443) hc dL_law_443 ?_
    refine sw_if_eq (pc := 444) (tgt := 449) hc dL_law_444 (by decide) (fun _ => ?_) (fun hz2 => absurd ((lg_cmp_eq _ _).mpr rfl) hz2)
    refine sw_goto (pc := 449) (tgt := 1579) hc dL_law_449 (by decide) ?_
    refine sw_widen (k := cells + 24) (n := slots + 420) (by omega) (by omega) ?_
    refine sw_sub (ks := [2, 3, 4, 5, 6]) rfl ?_
    exact kk _ _ (hPO.nx hN hM hK)
set_option maxHeartbeats 4000000 in
set_option maxRecDepth 100000 in
theorem k_L_used {p : Program} {l : Launch} {e : Env} {s : State} {m : MethodId} {below : List Frame} {meth : Method} {c : Code} {cells slots : Nat} {Q : State → Prop} {g : sg_G} {C : Nat → Option va_E} {b L x0 m0 o : Nat} {xs : Nat → Int32} {q : Nat → Nat} {σ : Mem} {i : Int32} {w1 : Int32} (hc : sg_Cx p s m #[.ref b] c cL_law 7 RL g) (hgs : g.2.2.1 = s.heap) (hX : va_X b L xs s s.heap) (hbl : b < s.heap.size) (hst : l.stackTraces = false) (hN : mN m0 q) (hI : LI g x0 m0 q o σ C) (h_w1 : AV L xs (i + 1) w1) (hcs : cells + 24 ≤ room_1.cells) (hsl : slots + 420 ≤ room_1.slots) (kk : ∀ τ C', LI g x0 m0 q o τ C' → sg_W p l e room_1 s m #[.ref b] below meth c 7 g (cells + 24) (slots + 420) Q C' 1579 [(4, .int i), (3, .ref o), (2, .ref m0), (1, .ref x0), (0, .ref b)] []) : sg_W p l e room_1 s m #[.ref b] below meth c 7 g cells slots Q C 452 [(4, .int i), (3, .ref o), (2, .ref m0), (1, .ref x0), (0, .ref b)] [] := by
  obtain ⟨ad, own, gh, fo, hQ, hg, hW, rfl, hO, hOo, hM, hK⟩ := hI
  refine sw_aload_n (pc := 452) hc dL_law_452 rfl 3 rfl ?_
  refine sw_aload_n (pc := 453) hc dL_law_453 rfl 4 rfl ?_
  refine sw_iload (pc := 454) hc dL_law_454 0 rfl ?_
  refine sw_iconst (pc := 456) (v := 1) hc dL_law_456 (by decide) ?_
  refine sw_iadd (pc := 457) hc dL_law_457 ?_
  refine sw_sld (pc := 458) hc hgs hX hbl h_w1 dL_law_458 ?_
  refine sw_aload_n (pc := 459) hc dL_law_459 rfl 1 rfl ?_
  refine sw_callSX (pc := 460) (rest := []) hc (c_L_used l g C ad own gh σ o fo w1 hQ hW hg hO hOo hst) mdh_L_used lk_RL_116 st_L_used rfl rfl (Nat.le_of_ble_eq_true rfl) dL_law_460 ⟨Nat.le_of_ble_eq_true rfl, Nat.le_of_ble_eq_true rfl, (by omega), (by omega)⟩ (fun v C1 hP => ?_)
  obtain ⟨rfl, f', hPO, hv⟩ := hP
  refine sw_st (st' := [.int (kIn σ 9 w1)]) rfl ?_
  refine sw_istore (pc := 463) hc dL_law_463 (by decide) (lv' := [(5, .int (kIn σ 9 w1)), (4, .int i), (3, .ref o), (2, .ref m0), (1, .ref (ad 0 0)), (0, .ref b)]) rfl ?_
  refine sw_eq (C' := sg_ov C1 (mW g m0 q σ)) (hPO.mid hM hK) ?_
  refine sw_aload_n (pc := 465) hc dL_law_465 rfl 3 rfl ?_
  refine sw_aload_n (pc := 466) hc dL_law_466 rfl 5 rfl ?_
  refine sw_iload (pc := 467) hc dL_law_467 1 rfl ?_
  refine sw_iconst (pc := 469) (v := 1) hc dL_law_469 (by decide) ?_
  refine sw_iadd (pc := 470) hc dL_law_470 ?_
  refine sw_sld (pc := 471) hc hgs hX hbl h_w1 dL_law_471 ?_
  refine sw_callV (pc := 472) (rest := []) hc (c_X8_used l g C1 m0 q σ w1 hN hW.1) md_X8_used ml_RL_118 im_X8_used sl_X8_used (mW_o hN) rfl rfl rfl (Nat.le_of_ble_eq_true rfl) dL_law_472 ⟨Nat.le_of_ble_eq_true rfl, Nat.le_of_ble_eq_true rfl, (by omega), (by omega)⟩ (fun v C2 hP2 => ?_) (fun _ _ h => h.elim)
  obtain ⟨rfl, rfl⟩ := hP2
  refine sw_st (st' := [.int (vUsed σ w1)]) rfl ?_
  refine sw_istore (pc := 475) hc dL_law_475 (by decide) (lv' := [(6, .int (vUsed σ w1)), (5, .int (kIn σ 9 w1)), (4, .int i), (3, .ref o), (2, .ref m0), (1, .ref (ad 0 0)), (0, .ref b)]) rfl ?_
  refine sw_aload_n (pc := 477) hc dL_law_477 rfl 4 rfl ?_
  refine sw_callV (pc := 478) (rest := []) hc (c_X8_thrown l g C1 m0 q (fResult σ w1) hN) md_X8_thrown ml_RL_98 im_X8_thrown sl_X8_thrown (mW_o hN) rfl rfl rfl (Nat.le_of_ble_eq_true rfl) dL_law_478 ⟨Nat.le_of_ble_eq_true rfl, Nat.le_of_ble_eq_true rfl, (by omega), (by omega)⟩ (fun v C2 hP2 => ?_) (fun _ _ h => h.elim)
  obtain ⟨rfl, rfl⟩ := hP2
  refine sw_st (st' := [.int (kIn σ 9 w1)]) (by rw [q_Result]; rfl) ?_
  refine sw_iload (pc := 481) hc dL_law_481 1 rfl ?_
  refine sw_icmp_eq (pc := 483) (tgt := 488) hc dL_law_483 (by decide) (fun _ => ?_) (fun hz => absurd rfl hz)
  refine sw_iload (pc := 488) hc dL_law_488 1 rfl ?_
  refine sw_if_ne (pc := 490) (tgt := 505) hc dL_law_490 (by decide) (fun _ => ?_) (fun hz => ?_)
  · skip
    refine sw_goto (pc := 505) (tgt := 1579) hc dL_law_505 (by decide) ?_
    refine sw_widen (k := cells + 24) (n := slots + 420) (by omega) (by omega) ?_
    refine sw_sub (ks := [2, 3, 4, 5, 6]) rfl ?_
    exact kk _ _ (hPO.nx hN hM hK)
  · skip
    refine sw_aload_n (pc := 493) hc dL_law_493 rfl 3 rfl ?_
    refine sw_iconst (pc := 494) (v := 0) hc dL_law_494 (by decide) ?_
    refine sw_lald (pc := 495) (j := 0) hc (hPO.out hK) rfl (by decide) (by decide) dL_law_495 ?_
    refine sw_st (st' := [.long ((vUsed σ w1).toInt64)]) (by rw [hv hz]) ?_
    refine sw_iload (pc := 496) hc dL_law_496 0 rfl ?_
    refine sw_i2l (pc := 498) (v := (vUsed σ w1).toInt64) hc dL_law_498 rfl ?_
    refine sw_lcmp (pc := 499) hc dL_law_499 ?_
    refine sw_if_eq (pc := 500) (tgt := 505) hc dL_law_500 (by decide) (fun _ => ?_) (fun hz2 => absurd ((lg_cmp_eq _ _).mpr rfl) hz2)
    refine sw_goto (pc := 505) (tgt := 1579) hc dL_law_505 (by decide) ?_
    refine sw_widen (k := cells + 24) (n := slots + 420) (by omega) (by omega) ?_
    refine sw_sub (ks := [2, 3, 4, 5, 6]) rfl ?_
    exact kk _ _ (hPO.nx hN hM hK)
set_option maxHeartbeats 4000000 in
set_option maxRecDepth 100000 in
theorem k_L_where {p : Program} {l : Launch} {e : Env} {s : State} {m : MethodId} {below : List Frame} {meth : Method} {c : Code} {cells slots : Nat} {Q : State → Prop} {g : sg_G} {C : Nat → Option va_E} {b L x0 m0 o : Nat} {xs : Nat → Int32} {q : Nat → Nat} {σ : Mem} {i : Int32} {w1 w2 : Int32} (hc : sg_Cx p s m #[.ref b] c cL_law 7 RL g) (hgs : g.2.2.1 = s.heap) (hX : va_X b L xs s s.heap) (hbl : b < s.heap.size) (hst : l.stackTraces = false) (hN : mN m0 q) (hI : LI g x0 m0 q o σ C) (h_w1 : AV L xs (i + 1) w1) (h_w2 : AV L xs (i + 2) w2) (hcs : cells + 24 ≤ room_1.cells) (hsl : slots + 420 ≤ room_1.slots) (kk : ∀ τ C', LI g x0 m0 q o τ C' → sg_W p l e room_1 s m #[.ref b] below meth c 7 g (cells + 24) (slots + 420) Q C' 1579 [(4, .int i), (3, .ref o), (2, .ref m0), (1, .ref x0), (0, .ref b)] []) : sg_W p l e room_1 s m #[.ref b] below meth c 7 g cells slots Q C 508 [(4, .int i), (3, .ref o), (2, .ref m0), (1, .ref x0), (0, .ref b)] [] := by
  obtain ⟨ad, own, gh, fo, hQ, hg, hW, rfl, hO, hOo, hM, hK⟩ := hI
  refine sw_aload_n (pc := 508) hc dL_law_508 rfl 3 rfl ?_
  refine sw_aload_n (pc := 509) hc dL_law_509 rfl 4 rfl ?_
  refine sw_iload (pc := 510) hc dL_law_510 0 rfl ?_
  refine sw_iconst (pc := 512) (v := 1) hc dL_law_512 (by decide) ?_
  refine sw_iadd (pc := 513) hc dL_law_513 ?_
  refine sw_sld (pc := 514) hc hgs hX hbl h_w1 dL_law_514 ?_
  refine sw_aload_n (pc := 515) hc dL_law_515 rfl 4 rfl ?_
  refine sw_iload (pc := 516) hc dL_law_516 0 rfl ?_
  refine sw_iconst (pc := 518) (v := 2) hc dL_law_518 (by decide) ?_
  refine sw_iadd (pc := 519) hc dL_law_519 ?_
  refine sw_sld (pc := 520) hc hgs hX hbl h_w2 dL_law_520 ?_
  refine sw_aload_n (pc := 521) hc dL_law_521 rfl 1 rfl ?_
  refine sw_callSX (pc := 522) (rest := []) hc (c_L_where l g C ad own gh σ o fo w1 w2 hQ hW hg hO hOo hst) mdh_L_where lk_RL_119 st_L_where rfl rfl (Nat.le_of_ble_eq_true rfl) dL_law_522 ⟨Nat.le_of_ble_eq_true rfl, Nat.le_of_ble_eq_true rfl, (by omega), (by omega)⟩ (fun v C1 hP => ?_)
  obtain ⟨rfl, f', hPO, hv⟩ := hP
  refine sw_st (st' := [.int (kWhere σ w1 w2)]) rfl ?_
  refine sw_istore (pc := 525) hc dL_law_525 (by decide) (lv' := [(5, .int (kWhere σ w1 w2)), (4, .int i), (3, .ref o), (2, .ref m0), (1, .ref (ad 0 0)), (0, .ref b)]) rfl ?_
  refine sw_eq (C' := sg_ov C1 (mW g m0 q σ)) (hPO.mid hM hK) ?_
  refine sw_aload_n (pc := 527) hc dL_law_527 rfl 3 rfl ?_
  refine sw_aload_n (pc := 528) hc dL_law_528 rfl 5 rfl ?_
  refine sw_iload (pc := 529) hc dL_law_529 1 rfl ?_
  refine sw_iconst (pc := 531) (v := 1) hc dL_law_531 (by decide) ?_
  refine sw_iadd (pc := 532) hc dL_law_532 ?_
  refine sw_sld (pc := 533) hc hgs hX hbl h_w1 dL_law_533 ?_
  refine sw_aload_n (pc := 534) hc dL_law_534 rfl 5 rfl ?_
  refine sw_iload (pc := 535) hc dL_law_535 1 rfl ?_
  refine sw_iconst (pc := 537) (v := 2) hc dL_law_537 (by decide) ?_
  refine sw_iadd (pc := 538) hc dL_law_538 ?_
  refine sw_sld (pc := 539) hc hgs hX hbl h_w2 dL_law_539 ?_
  refine sw_callV (pc := 540) (rest := []) hc (c_X8_where l g C1 m0 q σ w1 w2 hN hW.1) md_X8_where ml_RL_122 im_X8_where sl_X8_where (mW_o hN) rfl rfl rfl (Nat.le_of_ble_eq_true rfl) dL_law_540 ⟨Nat.le_of_ble_eq_true rfl, Nat.le_of_ble_eq_true rfl, (by omega), (by omega)⟩ (fun v C2 hP2 => ?_) (fun _ _ h => h.elim)
  obtain ⟨rfl, rfl⟩ := hP2
  refine sw_st (st' := [.int (vWhere σ w1 w2)]) rfl ?_
  refine sw_istore (pc := 543) hc dL_law_543 (by decide) (lv' := [(6, .int (vWhere σ w1 w2)), (5, .int (kWhere σ w1 w2)), (4, .int i), (3, .ref o), (2, .ref m0), (1, .ref (ad 0 0)), (0, .ref b)]) rfl ?_
  refine sw_aload_n (pc := 545) hc dL_law_545 rfl 4 rfl ?_
  refine sw_callV (pc := 546) (rest := []) hc (c_X8_thrown l g C1 m0 q (fWhere σ w1 w2) hN) md_X8_thrown ml_RL_98 im_X8_thrown sl_X8_thrown (mW_o hN) rfl rfl rfl (Nat.le_of_ble_eq_true rfl) dL_law_546 ⟨Nat.le_of_ble_eq_true rfl, Nat.le_of_ble_eq_true rfl, (by omega), (by omega)⟩ (fun v C2 hP2 => ?_) (fun _ _ h => h.elim)
  obtain ⟨rfl, rfl⟩ := hP2
  refine sw_st (st' := [.int (kWhere σ w1 w2)]) (by rw [q_Where]; rfl) ?_
  refine sw_iload (pc := 549) hc dL_law_549 1 rfl ?_
  refine sw_icmp_eq (pc := 551) (tgt := 556) hc dL_law_551 (by decide) (fun _ => ?_) (fun hz => absurd rfl hz)
  refine sw_iload (pc := 556) hc dL_law_556 1 rfl ?_
  refine sw_if_ne (pc := 558) (tgt := 573) hc dL_law_558 (by decide) (fun _ => ?_) (fun hz => ?_)
  · skip
    refine sw_goto (pc := 573) (tgt := 1579) hc dL_law_573 (by decide) ?_
    refine sw_widen (k := cells + 24) (n := slots + 420) (by omega) (by omega) ?_
    refine sw_sub (ks := [2, 3, 4, 5, 6]) rfl ?_
    exact kk _ _ (hPO.nx hN hM hK)
  · skip
    refine sw_aload_n (pc := 561) hc dL_law_561 rfl 3 rfl ?_
    refine sw_iconst (pc := 562) (v := 0) hc dL_law_562 (by decide) ?_
    refine sw_lald (pc := 563) (j := 0) hc (hPO.out hK) rfl (by decide) (by decide) dL_law_563 ?_
    refine sw_st (st' := [.long ((vWhere σ w1 w2).toInt64)]) (by rw [hv hz]) ?_
    refine sw_iload (pc := 564) hc dL_law_564 0 rfl ?_
    refine sw_i2l (pc := 566) (v := (vWhere σ w1 w2).toInt64) hc dL_law_566 rfl ?_
    refine sw_lcmp (pc := 567) hc dL_law_567 ?_
    refine sw_if_eq (pc := 568) (tgt := 573) hc dL_law_568 (by decide) (fun _ => ?_) (fun hz2 => absurd ((lg_cmp_eq _ _).mpr rfl) hz2)
    refine sw_goto (pc := 573) (tgt := 1579) hc dL_law_573 (by decide) ?_
    refine sw_widen (k := cells + 24) (n := slots + 420) (by omega) (by omega) ?_
    refine sw_sub (ks := [2, 3, 4, 5, 6]) rfl ?_
    exact kk _ _ (hPO.nx hN hM hK)
set_option maxHeartbeats 4000000 in
set_option maxRecDepth 100000 in
theorem k_L_category {p : Program} {l : Launch} {e : Env} {s : State} {m : MethodId} {below : List Frame} {meth : Method} {c : Code} {cells slots : Nat} {Q : State → Prop} {g : sg_G} {C : Nat → Option va_E} {b L x0 m0 o : Nat} {xs : Nat → Int32} {q : Nat → Nat} {σ : Mem} {i : Int32} {w1 : Int32} (hc : sg_Cx p s m #[.ref b] c cL_law 7 RL g) (hgs : g.2.2.1 = s.heap) (hX : va_X b L xs s s.heap) (hbl : b < s.heap.size) (hst : l.stackTraces = false) (hN : mN m0 q) (hI : LI g x0 m0 q o σ C) (h_w1 : AV L xs (i + 1) w1) (hcs : cells + 24 ≤ room_1.cells) (hsl : slots + 420 ≤ room_1.slots) (kk : ∀ τ C', LI g x0 m0 q o τ C' → sg_W p l e room_1 s m #[.ref b] below meth c 7 g (cells + 24) (slots + 420) Q C' 1579 [(4, .int i), (3, .ref o), (2, .ref m0), (1, .ref x0), (0, .ref b)] []) : sg_W p l e room_1 s m #[.ref b] below meth c 7 g cells slots Q C 576 [(4, .int i), (3, .ref o), (2, .ref m0), (1, .ref x0), (0, .ref b)] [] := by
  obtain ⟨ad, own, gh, fo, hQ, hg, hW, rfl, hO, hOo, hM, hK⟩ := hI
  refine sw_aload_n (pc := 576) hc dL_law_576 rfl 3 rfl ?_
  refine sw_aload_n (pc := 577) hc dL_law_577 rfl 4 rfl ?_
  refine sw_iload (pc := 578) hc dL_law_578 0 rfl ?_
  refine sw_iconst (pc := 580) (v := 1) hc dL_law_580 (by decide) ?_
  refine sw_iadd (pc := 581) hc dL_law_581 ?_
  refine sw_sld (pc := 582) hc hgs hX hbl h_w1 dL_law_582 ?_
  refine sw_aload_n (pc := 583) hc dL_law_583 rfl 1 rfl ?_
  refine sw_callSX (pc := 584) (rest := []) hc (c_L_category l g C ad own gh σ o fo w1 hQ hW hg hO hOo hst) mdh_L_category lk_RL_123 st_L_category rfl rfl (Nat.le_of_ble_eq_true rfl) dL_law_584 ⟨Nat.le_of_ble_eq_true rfl, Nat.le_of_ble_eq_true rfl, (by omega), (by omega)⟩ (fun v C1 hP => ?_)
  obtain ⟨rfl, f', hPO, hv⟩ := hP
  refine sw_st (st' := [.int (kCategory σ w1)]) rfl ?_
  refine sw_istore (pc := 587) hc dL_law_587 (by decide) (lv' := [(5, .int (kCategory σ w1)), (4, .int i), (3, .ref o), (2, .ref m0), (1, .ref (ad 0 0)), (0, .ref b)]) rfl ?_
  refine sw_eq (C' := sg_ov C1 (mW g m0 q σ)) (hPO.mid hM hK) ?_
  refine sw_aload_n (pc := 589) hc dL_law_589 rfl 3 rfl ?_
  refine sw_aload_n (pc := 590) hc dL_law_590 rfl 5 rfl ?_
  refine sw_iload (pc := 591) hc dL_law_591 1 rfl ?_
  refine sw_iconst (pc := 593) (v := 1) hc dL_law_593 (by decide) ?_
  refine sw_iadd (pc := 594) hc dL_law_594 ?_
  refine sw_sld (pc := 595) hc hgs hX hbl h_w1 dL_law_595 ?_
  refine sw_callV (pc := 596) (rest := []) hc (c_X8_category l g C1 m0 q σ w1 hN hW.1) md_X8_category ml_RL_125 im_X8_category sl_X8_category (mW_o hN) rfl rfl rfl (Nat.le_of_ble_eq_true rfl) dL_law_596 ⟨Nat.le_of_ble_eq_true rfl, Nat.le_of_ble_eq_true rfl, (by omega), (by omega)⟩ (fun v C2 hP2 => ?_) (fun _ _ h => h.elim)
  obtain ⟨rfl, rfl⟩ := hP2
  refine sw_st (st' := [.int (vCategory σ w1)]) rfl ?_
  refine sw_istore (pc := 599) hc dL_law_599 (by decide) (lv' := [(6, .int (vCategory σ w1)), (5, .int (kCategory σ w1)), (4, .int i), (3, .ref o), (2, .ref m0), (1, .ref (ad 0 0)), (0, .ref b)]) rfl ?_
  refine sw_aload_n (pc := 601) hc dL_law_601 rfl 4 rfl ?_
  refine sw_callV (pc := 602) (rest := []) hc (c_X8_thrown l g C1 m0 q (fCategory σ w1) hN) md_X8_thrown ml_RL_98 im_X8_thrown sl_X8_thrown (mW_o hN) rfl rfl rfl (Nat.le_of_ble_eq_true rfl) dL_law_602 ⟨Nat.le_of_ble_eq_true rfl, Nat.le_of_ble_eq_true rfl, (by omega), (by omega)⟩ (fun v C2 hP2 => ?_) (fun _ _ h => h.elim)
  obtain ⟨rfl, rfl⟩ := hP2
  refine sw_st (st' := [.int (kCategory σ w1)]) (by rw [q_Category]; rfl) ?_
  refine sw_iload (pc := 605) hc dL_law_605 1 rfl ?_
  refine sw_icmp_eq (pc := 607) (tgt := 612) hc dL_law_607 (by decide) (fun _ => ?_) (fun hz => absurd rfl hz)
  refine sw_iload (pc := 612) hc dL_law_612 1 rfl ?_
  refine sw_if_ne (pc := 614) (tgt := 629) hc dL_law_614 (by decide) (fun _ => ?_) (fun hz => ?_)
  · skip
    refine sw_goto (pc := 629) (tgt := 1579) hc dL_law_629 (by decide) ?_
    refine sw_widen (k := cells + 24) (n := slots + 420) (by omega) (by omega) ?_
    refine sw_sub (ks := [2, 3, 4, 5, 6]) rfl ?_
    exact kk _ _ (hPO.nx hN hM hK)
  · skip
    refine sw_aload_n (pc := 617) hc dL_law_617 rfl 3 rfl ?_
    refine sw_iconst (pc := 618) (v := 0) hc dL_law_618 (by decide) ?_
    refine sw_lald (pc := 619) (j := 0) hc (hPO.out hK) rfl (by decide) (by decide) dL_law_619 ?_
    refine sw_st (st' := [.long ((vCategory σ w1).toInt64)]) (by rw [hv hz]) ?_
    refine sw_iload (pc := 620) hc dL_law_620 0 rfl ?_
    refine sw_i2l (pc := 622) (v := (vCategory σ w1).toInt64) hc dL_law_622 rfl ?_
    refine sw_lcmp (pc := 623) hc dL_law_623 ?_
    refine sw_if_eq (pc := 624) (tgt := 629) hc dL_law_624 (by decide) (fun _ => ?_) (fun hz2 => absurd ((lg_cmp_eq _ _).mpr rfl) hz2)
    refine sw_goto (pc := 629) (tgt := 1579) hc dL_law_629 (by decide) ?_
    refine sw_widen (k := cells + 24) (n := slots + 420) (by omega) (by omega) ?_
    refine sw_sub (ks := [2, 3, 4, 5, 6]) rfl ?_
    exact kk _ _ (hPO.nx hN hM hK)
set_option maxHeartbeats 4000000 in
set_option maxRecDepth 100000 in
theorem k_L_rule {p : Program} {l : Launch} {e : Env} {s : State} {m : MethodId} {below : List Frame} {meth : Method} {c : Code} {cells slots : Nat} {Q : State → Prop} {g : sg_G} {C : Nat → Option va_E} {b L x0 m0 o : Nat} {xs : Nat → Int32} {q : Nat → Nat} {σ : Mem} {i : Int32} {w1 w2 w3 w4 w5 : Int32} (hc : sg_Cx p s m #[.ref b] c cL_law 7 RL g) (hgs : g.2.2.1 = s.heap) (hX : va_X b L xs s s.heap) (hbl : b < s.heap.size) (hst : l.stackTraces = false) (hN : mN m0 q) (hI : LI g x0 m0 q o σ C) (h_w1 : AV L xs (i + 1) w1) (h_w2 : AV L xs (i + 2) w2) (h_w3 : AV L xs (i + 3) w3) (h_w4 : AV L xs (i + 4) w4) (h_w5 : AV L xs (i + 5) w5) (hcs : cells + 24 ≤ room_1.cells) (hsl : slots + 420 ≤ room_1.slots) (kk : ∀ τ C', LI g x0 m0 q o τ C' → sg_W p l e room_1 s m #[.ref b] below meth c 7 g (cells + 24) (slots + 420) Q C' 1579 [(4, .int i), (3, .ref o), (2, .ref m0), (1, .ref x0), (0, .ref b)] []) : sg_W p l e room_1 s m #[.ref b] below meth c 7 g cells slots Q C 632 [(4, .int i), (3, .ref o), (2, .ref m0), (1, .ref x0), (0, .ref b)] [] := by
  obtain ⟨ad, own, gh, fo, hQ, hg, hW, rfl, hO, hOo, hM, hK⟩ := hI
  refine sw_aload_n (pc := 632) hc dL_law_632 rfl 3 rfl ?_
  refine sw_aload_n (pc := 633) hc dL_law_633 rfl 4 rfl ?_
  refine sw_iload (pc := 634) hc dL_law_634 0 rfl ?_
  refine sw_iconst (pc := 636) (v := 1) hc dL_law_636 (by decide) ?_
  refine sw_iadd (pc := 637) hc dL_law_637 ?_
  refine sw_sld (pc := 638) hc hgs hX hbl h_w1 dL_law_638 ?_
  refine sw_aload_n (pc := 639) hc dL_law_639 rfl 4 rfl ?_
  refine sw_iload (pc := 640) hc dL_law_640 0 rfl ?_
  refine sw_iconst (pc := 642) (v := 2) hc dL_law_642 (by decide) ?_
  refine sw_iadd (pc := 643) hc dL_law_643 ?_
  refine sw_sld (pc := 644) hc hgs hX hbl h_w2 dL_law_644 ?_
  refine sw_aload_n (pc := 645) hc dL_law_645 rfl 4 rfl ?_
  refine sw_iload (pc := 646) hc dL_law_646 0 rfl ?_
  refine sw_iconst (pc := 648) (v := 3) hc dL_law_648 (by decide) ?_
  refine sw_iadd (pc := 649) hc dL_law_649 ?_
  refine sw_sld (pc := 650) hc hgs hX hbl h_w3 dL_law_650 ?_
  refine sw_aload_n (pc := 651) hc dL_law_651 rfl 4 rfl ?_
  refine sw_iload (pc := 652) hc dL_law_652 0 rfl ?_
  refine sw_iconst (pc := 654) (v := 4) hc dL_law_654 (by decide) ?_
  refine sw_iadd (pc := 655) hc dL_law_655 ?_
  refine sw_sld (pc := 656) hc hgs hX hbl h_w4 dL_law_656 ?_
  refine sw_aload_n (pc := 657) hc dL_law_657 rfl 4 rfl ?_
  refine sw_iload (pc := 658) hc dL_law_658 0 rfl ?_
  refine sw_iconst (pc := 660) (v := 5) hc dL_law_660 (by decide) ?_
  refine sw_iadd (pc := 661) hc dL_law_661 ?_
  refine sw_sld (pc := 662) hc hgs hX hbl h_w5 dL_law_662 ?_
  refine sw_aload_n (pc := 663) hc dL_law_663 rfl 1 rfl ?_
  refine sw_callSX (pc := 664) (rest := []) hc (c_L_rule l g C ad own gh σ o fo w1 w2 w3 w4 w5 hQ hW hg hO hOo hst) mdh_L_rule lk_RL_126 st_L_rule rfl rfl (Nat.le_of_ble_eq_true rfl) dL_law_664 ⟨Nat.le_of_ble_eq_true rfl, Nat.le_of_ble_eq_true rfl, (by omega), (by omega)⟩ (fun v C1 hP => ?_)
  obtain ⟨rfl, f', hPO, hv⟩ := hP
  refine sw_st (st' := [.int (kRule σ w1 w2 w3 w4 w5)]) rfl ?_
  refine sw_istore (pc := 667) hc dL_law_667 (by decide) (lv' := [(5, .int (kRule σ w1 w2 w3 w4 w5)), (4, .int i), (3, .ref o), (2, .ref m0), (1, .ref (ad 0 0)), (0, .ref b)]) rfl ?_
  refine sw_eq (C' := sg_ov C1 (mW g m0 q σ)) (hPO.mid hM hK) ?_
  refine sw_aload_n (pc := 669) hc dL_law_669 rfl 3 rfl ?_
  refine sw_aload_n (pc := 670) hc dL_law_670 rfl 5 rfl ?_
  refine sw_iload (pc := 671) hc dL_law_671 1 rfl ?_
  refine sw_iconst (pc := 673) (v := 1) hc dL_law_673 (by decide) ?_
  refine sw_iadd (pc := 674) hc dL_law_674 ?_
  refine sw_sld (pc := 675) hc hgs hX hbl h_w1 dL_law_675 ?_
  refine sw_aload_n (pc := 676) hc dL_law_676 rfl 5 rfl ?_
  refine sw_iload (pc := 677) hc dL_law_677 1 rfl ?_
  refine sw_iconst (pc := 679) (v := 2) hc dL_law_679 (by decide) ?_
  refine sw_iadd (pc := 680) hc dL_law_680 ?_
  refine sw_sld (pc := 681) hc hgs hX hbl h_w2 dL_law_681 ?_
  refine sw_aload_n (pc := 682) hc dL_law_682 rfl 5 rfl ?_
  refine sw_iload (pc := 683) hc dL_law_683 1 rfl ?_
  refine sw_iconst (pc := 685) (v := 3) hc dL_law_685 (by decide) ?_
  refine sw_iadd (pc := 686) hc dL_law_686 ?_
  refine sw_sld (pc := 687) hc hgs hX hbl h_w3 dL_law_687 ?_
  refine sw_aload_n (pc := 688) hc dL_law_688 rfl 5 rfl ?_
  refine sw_iload (pc := 689) hc dL_law_689 1 rfl ?_
  refine sw_iconst (pc := 691) (v := 4) hc dL_law_691 (by decide) ?_
  refine sw_iadd (pc := 692) hc dL_law_692 ?_
  refine sw_sld (pc := 693) hc hgs hX hbl h_w4 dL_law_693 ?_
  refine sw_aload_n (pc := 694) hc dL_law_694 rfl 5 rfl ?_
  refine sw_iload (pc := 695) hc dL_law_695 1 rfl ?_
  refine sw_iconst (pc := 697) (v := 5) hc dL_law_697 (by decide) ?_
  refine sw_iadd (pc := 698) hc dL_law_698 ?_
  refine sw_sld (pc := 699) hc hgs hX hbl h_w5 dL_law_699 ?_
  refine sw_callV (pc := 700) (rest := []) hc (c_X8_rule l g C1 m0 q σ w1 w2 w3 w4 w5 hN hW.1) md_X8_rule ml_RL_129 im_X8_rule sl_X8_rule (mW_o hN) rfl rfl rfl (Nat.le_of_ble_eq_true rfl) dL_law_700 ⟨Nat.le_of_ble_eq_true rfl, Nat.le_of_ble_eq_true rfl, (by omega), (by omega)⟩ (fun v C2 hP2 => ?_) (fun _ _ h => h.elim)
  obtain ⟨rfl, rfl⟩ := hP2
  refine sw_st (st' := [.int (vRule σ w1 w2 w3 w4 w5)]) rfl ?_
  refine sw_istore (pc := 703) hc dL_law_703 (by decide) (lv' := [(6, .int (vRule σ w1 w2 w3 w4 w5)), (5, .int (kRule σ w1 w2 w3 w4 w5)), (4, .int i), (3, .ref o), (2, .ref m0), (1, .ref (ad 0 0)), (0, .ref b)]) rfl ?_
  refine sw_aload_n (pc := 705) hc dL_law_705 rfl 4 rfl ?_
  refine sw_callV (pc := 706) (rest := []) hc (c_X8_thrown l g C1 m0 q (fRule σ w1 w2 w3 w4 w5) hN) md_X8_thrown ml_RL_98 im_X8_thrown sl_X8_thrown (mW_o hN) rfl rfl rfl (Nat.le_of_ble_eq_true rfl) dL_law_706 ⟨Nat.le_of_ble_eq_true rfl, Nat.le_of_ble_eq_true rfl, (by omega), (by omega)⟩ (fun v C2 hP2 => ?_) (fun _ _ h => h.elim)
  obtain ⟨rfl, rfl⟩ := hP2
  refine sw_st (st' := [.int (kRule σ w1 w2 w3 w4 w5)]) (by rw [q_Rule]; rfl) ?_
  refine sw_iload (pc := 709) hc dL_law_709 1 rfl ?_
  refine sw_icmp_eq (pc := 711) (tgt := 716) hc dL_law_711 (by decide) (fun _ => ?_) (fun hz => absurd rfl hz)
  refine sw_iload (pc := 716) hc dL_law_716 1 rfl ?_
  refine sw_if_ne (pc := 718) (tgt := 733) hc dL_law_718 (by decide) (fun _ => ?_) (fun hz => ?_)
  · skip
    refine sw_goto (pc := 733) (tgt := 1579) hc dL_law_733 (by decide) ?_
    refine sw_widen (k := cells + 24) (n := slots + 420) (by omega) (by omega) ?_
    refine sw_sub (ks := [2, 3, 4, 5, 6]) rfl ?_
    exact kk _ _ (hPO.nx hN hM hK)
  · skip
    refine sw_aload_n (pc := 721) hc dL_law_721 rfl 3 rfl ?_
    refine sw_iconst (pc := 722) (v := 0) hc dL_law_722 (by decide) ?_
    refine sw_lald (pc := 723) (j := 0) hc (hPO.out hK) rfl (by decide) (by decide) dL_law_723 ?_
    refine sw_st (st' := [.long ((vRule σ w1 w2 w3 w4 w5).toInt64)]) (by rw [hv hz]) ?_
    refine sw_iload (pc := 724) hc dL_law_724 0 rfl ?_
    refine sw_i2l (pc := 726) (v := (vRule σ w1 w2 w3 w4 w5).toInt64) hc dL_law_726 rfl ?_
    refine sw_lcmp (pc := 727) hc dL_law_727 ?_
    refine sw_if_eq (pc := 728) (tgt := 733) hc dL_law_728 (by decide) (fun _ => ?_) (fun hz2 => absurd ((lg_cmp_eq _ _).mpr rfl) hz2)
    refine sw_goto (pc := 733) (tgt := 1579) hc dL_law_733 (by decide) ?_
    refine sw_widen (k := cells + 24) (n := slots + 420) (by omega) (by omega) ?_
    refine sw_sub (ks := [2, 3, 4, 5, 6]) rfl ?_
    exact kk _ _ (hPO.nx hN hM hK)
set_option maxHeartbeats 4000000 in
set_option maxRecDepth 100000 in
theorem k_L_pass {p : Program} {l : Launch} {e : Env} {s : State} {m : MethodId} {below : List Frame} {meth : Method} {c : Code} {cells slots : Nat} {Q : State → Prop} {g : sg_G} {C : Nat → Option va_E} {b L x0 m0 o : Nat} {xs : Nat → Int32} {q : Nat → Nat} {σ : Mem} {i : Int32} {w1 : Int32} (hc : sg_Cx p s m #[.ref b] c cL_law 7 RL g) (hgs : g.2.2.1 = s.heap) (hX : va_X b L xs s s.heap) (hbl : b < s.heap.size) (hst : l.stackTraces = false) (hN : mN m0 q) (hI : LI g x0 m0 q o σ C) (h_w1 : AV L xs (i + 1) w1) (hcs : cells + 24 ≤ room_1.cells) (hsl : slots + 420 ≤ room_1.slots) (kk : ∀ τ C', LI g x0 m0 q o τ C' → sg_W p l e room_1 s m #[.ref b] below meth c 7 g (cells + 24) (slots + 420) Q C' 1579 [(4, .int i), (3, .ref o), (2, .ref m0), (1, .ref x0), (0, .ref b)] []) : sg_W p l e room_1 s m #[.ref b] below meth c 7 g cells slots Q C 736 [(4, .int i), (3, .ref o), (2, .ref m0), (1, .ref x0), (0, .ref b)] [] := by
  obtain ⟨ad, own, gh, fo, hQ, hg, hW, rfl, hO, hOo, hM, hK⟩ := hI
  refine sw_aload_n (pc := 736) hc dL_law_736 rfl 3 rfl ?_
  refine sw_aload_n (pc := 737) hc dL_law_737 rfl 4 rfl ?_
  refine sw_iload (pc := 738) hc dL_law_738 0 rfl ?_
  refine sw_iconst (pc := 740) (v := 1) hc dL_law_740 (by decide) ?_
  refine sw_iadd (pc := 741) hc dL_law_741 ?_
  refine sw_sld (pc := 742) hc hgs hX hbl h_w1 dL_law_742 ?_
  refine sw_aload_n (pc := 743) hc dL_law_743 rfl 1 rfl ?_
  refine sw_callSX (pc := 744) (rest := []) hc (c_L_pass l g C ad own gh σ o fo w1 hQ hW hg hO hOo hst) mdh_L_pass lk_RL_130 st_L_pass rfl rfl (Nat.le_of_ble_eq_true rfl) dL_law_744 ⟨Nat.le_of_ble_eq_true rfl, Nat.le_of_ble_eq_true rfl, (by omega), (by omega)⟩ (fun v C1 hP => ?_)
  obtain ⟨rfl, f', hPO, hv⟩ := hP
  refine sw_st (st' := [.int (kPass σ w1)]) rfl ?_
  refine sw_istore (pc := 747) hc dL_law_747 (by decide) (lv' := [(5, .int (kPass σ w1)), (4, .int i), (3, .ref o), (2, .ref m0), (1, .ref (ad 0 0)), (0, .ref b)]) rfl ?_
  refine sw_eq (C' := sg_ov C1 (mW g m0 q σ)) (hPO.mid hM hK) ?_
  refine sw_aload_n (pc := 749) hc dL_law_749 rfl 3 rfl ?_
  refine sw_aload_n (pc := 750) hc dL_law_750 rfl 5 rfl ?_
  refine sw_iload (pc := 751) hc dL_law_751 1 rfl ?_
  refine sw_iconst (pc := 753) (v := 1) hc dL_law_753 (by decide) ?_
  refine sw_iadd (pc := 754) hc dL_law_754 ?_
  refine sw_sld (pc := 755) hc hgs hX hbl h_w1 dL_law_755 ?_
  refine sw_callV (pc := 756) (rest := []) hc (c_X8_pass l g C1 m0 q σ w1 hN) md_X8_pass ml_RL_132 im_X8_pass sl_X8_pass (mW_o hN) rfl rfl rfl (Nat.le_of_ble_eq_true rfl) dL_law_756 ⟨Nat.le_of_ble_eq_true rfl, Nat.le_of_ble_eq_true rfl, (by omega), (by omega)⟩ (fun v C2 hP2 => ?_) (fun _ _ h => h.elim)
  obtain ⟨rfl, rfl⟩ := hP2
  refine sw_st (st' := [.int (vPass σ w1)]) rfl ?_
  refine sw_istore (pc := 759) hc dL_law_759 (by decide) (lv' := [(6, .int (vPass σ w1)), (5, .int (kPass σ w1)), (4, .int i), (3, .ref o), (2, .ref m0), (1, .ref (ad 0 0)), (0, .ref b)]) rfl ?_
  refine sw_aload_n (pc := 761) hc dL_law_761 rfl 4 rfl ?_
  refine sw_callV (pc := 762) (rest := []) hc (c_X8_thrown l g C1 m0 q (fPass σ w1) hN) md_X8_thrown ml_RL_98 im_X8_thrown sl_X8_thrown (mW_o hN) rfl rfl rfl (Nat.le_of_ble_eq_true rfl) dL_law_762 ⟨Nat.le_of_ble_eq_true rfl, Nat.le_of_ble_eq_true rfl, (by omega), (by omega)⟩ (fun v C2 hP2 => ?_) (fun _ _ h => h.elim)
  obtain ⟨rfl, rfl⟩ := hP2
  refine sw_st (st' := [.int (kPass σ w1)]) (by rw [q_Pass]; rfl) ?_
  refine sw_iload (pc := 765) hc dL_law_765 1 rfl ?_
  refine sw_icmp_eq (pc := 767) (tgt := 772) hc dL_law_767 (by decide) (fun _ => ?_) (fun hz => absurd rfl hz)
  refine sw_iload (pc := 772) hc dL_law_772 1 rfl ?_
  refine sw_if_ne (pc := 774) (tgt := 789) hc dL_law_774 (by decide) (fun _ => ?_) (fun hz => ?_)
  · skip
    refine sw_goto (pc := 789) (tgt := 1579) hc dL_law_789 (by decide) ?_
    refine sw_widen (k := cells + 24) (n := slots + 420) (by omega) (by omega) ?_
    refine sw_sub (ks := [2, 3, 4, 5, 6]) rfl ?_
    exact kk _ _ (hPO.nx hN hM hK)
  · skip
    refine sw_aload_n (pc := 777) hc dL_law_777 rfl 3 rfl ?_
    refine sw_iconst (pc := 778) (v := 0) hc dL_law_778 (by decide) ?_
    refine sw_lald (pc := 779) (j := 0) hc (hPO.out hK) rfl (by decide) (by decide) dL_law_779 ?_
    refine sw_st (st' := [.long ((vPass σ w1).toInt64)]) (by rw [hv hz]) ?_
    refine sw_iload (pc := 780) hc dL_law_780 0 rfl ?_
    refine sw_i2l (pc := 782) (v := (vPass σ w1).toInt64) hc dL_law_782 rfl ?_
    refine sw_lcmp (pc := 783) hc dL_law_783 ?_
    refine sw_if_eq (pc := 784) (tgt := 789) hc dL_law_784 (by decide) (fun _ => ?_) (fun hz2 => absurd ((lg_cmp_eq _ _).mpr rfl) hz2)
    refine sw_goto (pc := 789) (tgt := 1579) hc dL_law_789 (by decide) ?_
    refine sw_widen (k := cells + 24) (n := slots + 420) (by omega) (by omega) ?_
    refine sw_sub (ks := [2, 3, 4, 5, 6]) rfl ?_
    exact kk _ _ (hPO.nx hN hM hK)
set_option maxHeartbeats 4000000 in
set_option maxRecDepth 100000 in
theorem k_L_submit {p : Program} {l : Launch} {e : Env} {s : State} {m : MethodId} {below : List Frame} {meth : Method} {c : Code} {cells slots : Nat} {Q : State → Prop} {g : sg_G} {C : Nat → Option va_E} {b L x0 m0 o : Nat} {xs : Nat → Int32} {q : Nat → Nat} {σ : Mem} {i : Int32} {w1 w2 w3 : Int32} (hc : sg_Cx p s m #[.ref b] c cL_law 7 RL g) (hgs : g.2.2.1 = s.heap) (hX : va_X b L xs s s.heap) (hbl : b < s.heap.size) (hst : l.stackTraces = false) (hN : mN m0 q) (hI : LI g x0 m0 q o σ C) (h_w1 : AV L xs (i + 1) w1) (h_w2 : AV L xs (i + 2) w2) (h_w3 : AV L xs (i + 3) w3) (hcs : cells + 24 ≤ room_1.cells) (hsl : slots + 420 ≤ room_1.slots) (kk : ∀ τ C', LI g x0 m0 q o τ C' → sg_W p l e room_1 s m #[.ref b] below meth c 7 g (cells + 24) (slots + 420) Q C' 1579 [(4, .int i), (3, .ref o), (2, .ref m0), (1, .ref x0), (0, .ref b)] []) : sg_W p l e room_1 s m #[.ref b] below meth c 7 g cells slots Q C 792 [(4, .int i), (3, .ref o), (2, .ref m0), (1, .ref x0), (0, .ref b)] [] := by
  obtain ⟨ad, own, gh, fo, hQ, hg, hW, rfl, hO, hOo, hM, hK⟩ := hI
  refine sw_aload_n (pc := 792) hc dL_law_792 rfl 3 rfl ?_
  refine sw_aload_n (pc := 793) hc dL_law_793 rfl 4 rfl ?_
  refine sw_iload (pc := 794) hc dL_law_794 0 rfl ?_
  refine sw_iconst (pc := 796) (v := 1) hc dL_law_796 (by decide) ?_
  refine sw_iadd (pc := 797) hc dL_law_797 ?_
  refine sw_sld (pc := 798) hc hgs hX hbl h_w1 dL_law_798 ?_
  refine sw_aload_n (pc := 799) hc dL_law_799 rfl 4 rfl ?_
  refine sw_iload (pc := 800) hc dL_law_800 0 rfl ?_
  refine sw_iconst (pc := 802) (v := 2) hc dL_law_802 (by decide) ?_
  refine sw_iadd (pc := 803) hc dL_law_803 ?_
  refine sw_sld (pc := 804) hc hgs hX hbl h_w2 dL_law_804 ?_
  refine sw_aload_n (pc := 805) hc dL_law_805 rfl 4 rfl ?_
  refine sw_iload (pc := 806) hc dL_law_806 0 rfl ?_
  refine sw_iconst (pc := 808) (v := 3) hc dL_law_808 (by decide) ?_
  refine sw_iadd (pc := 809) hc dL_law_809 ?_
  refine sw_sld (pc := 810) hc hgs hX hbl h_w3 dL_law_810 ?_
  refine sw_aload_n (pc := 811) hc dL_law_811 rfl 1 rfl ?_
  refine sw_callSX (pc := 812) (rest := []) hc (c_L_submit l g C ad own gh σ o fo w1 w2 w3 hQ hW hg hO hOo hst) mdh_L_submit lk_RL_133 st_L_submit rfl rfl (Nat.le_of_ble_eq_true rfl) dL_law_812 ⟨Nat.le_of_ble_eq_true rfl, Nat.le_of_ble_eq_true rfl, (by omega), (by omega)⟩ (fun v C1 hP => ?_)
  obtain ⟨rfl, f', hPO, hv⟩ := hP
  refine sw_st (st' := [.int (kSubmit σ (rSub σ w1 w2 w3) w1 w2 w3)]) rfl ?_
  refine sw_istore (pc := 815) hc dL_law_815 (by decide) (lv' := [(5, .int (kSubmit σ (rSub σ w1 w2 w3) w1 w2 w3)), (4, .int i), (3, .ref o), (2, .ref m0), (1, .ref (ad 0 0)), (0, .ref b)]) rfl ?_
  refine sw_eq (C' := sg_ov C1 (mW g m0 q σ)) (hPO.mid hM hK) ?_
  refine sw_aload_n (pc := 817) hc dL_law_817 rfl 3 rfl ?_
  refine sw_aload_n (pc := 818) hc dL_law_818 rfl 5 rfl ?_
  refine sw_iload (pc := 819) hc dL_law_819 1 rfl ?_
  refine sw_iconst (pc := 821) (v := 1) hc dL_law_821 (by decide) ?_
  refine sw_iadd (pc := 822) hc dL_law_822 ?_
  refine sw_sld (pc := 823) hc hgs hX hbl h_w1 dL_law_823 ?_
  refine sw_aload_n (pc := 824) hc dL_law_824 rfl 5 rfl ?_
  refine sw_iload (pc := 825) hc dL_law_825 1 rfl ?_
  refine sw_iconst (pc := 827) (v := 2) hc dL_law_827 (by decide) ?_
  refine sw_iadd (pc := 828) hc dL_law_828 ?_
  refine sw_sld (pc := 829) hc hgs hX hbl h_w2 dL_law_829 ?_
  refine sw_aload_n (pc := 830) hc dL_law_830 rfl 5 rfl ?_
  refine sw_iload (pc := 831) hc dL_law_831 1 rfl ?_
  refine sw_iconst (pc := 833) (v := 3) hc dL_law_833 (by decide) ?_
  refine sw_iadd (pc := 834) hc dL_law_834 ?_
  refine sw_sld (pc := 835) hc hgs hX hbl h_w3 dL_law_835 ?_
  refine sw_callV (pc := 836) (rest := []) hc (c_X8_submit l g C1 m0 q σ w1 w2 w3 hN hW.1) md_X8_submit ml_RL_135 im_X8_submit sl_X8_submit (mW_o hN) rfl rfl rfl (Nat.le_of_ble_eq_true rfl) dL_law_836 ⟨Nat.le_of_ble_eq_true rfl, Nat.le_of_ble_eq_true rfl, (by omega), (by omega)⟩ (fun v C2 hP2 => ?_) (fun _ _ h => h.elim)
  obtain ⟨rfl, rfl⟩ := hP2
  refine sw_st (st' := [.int (vSubmit σ w1 w2 w3)]) rfl ?_
  refine sw_istore (pc := 839) hc dL_law_839 (by decide) (lv' := [(6, .int (vSubmit σ w1 w2 w3)), (5, .int (kSubmit σ (rSub σ w1 w2 w3) w1 w2 w3)), (4, .int i), (3, .ref o), (2, .ref m0), (1, .ref (ad 0 0)), (0, .ref b)]) rfl ?_
  refine sw_aload_n (pc := 841) hc dL_law_841 rfl 4 rfl ?_
  refine sw_callV (pc := 842) (rest := []) hc (c_X8_thrown l g C1 m0 q (fSubmit σ w1 w2 w3) hN) md_X8_thrown ml_RL_98 im_X8_thrown sl_X8_thrown (mW_o hN) rfl rfl rfl (Nat.le_of_ble_eq_true rfl) dL_law_842 ⟨Nat.le_of_ble_eq_true rfl, Nat.le_of_ble_eq_true rfl, (by omega), (by omega)⟩ (fun v C2 hP2 => ?_) (fun _ _ h => h.elim)
  obtain ⟨rfl, rfl⟩ := hP2
  refine sw_st (st' := [.int (kSubmit σ (rSub σ w1 w2 w3) w1 w2 w3)]) (by rw [q_Submit]; rfl) ?_
  refine sw_iload (pc := 845) hc dL_law_845 1 rfl ?_
  refine sw_icmp_eq (pc := 847) (tgt := 852) hc dL_law_847 (by decide) (fun _ => ?_) (fun hz => absurd rfl hz)
  refine sw_iload (pc := 852) hc dL_law_852 1 rfl ?_
  refine sw_if_ne (pc := 854) (tgt := 869) hc dL_law_854 (by decide) (fun _ => ?_) (fun hz => ?_)
  · skip
    refine sw_goto (pc := 869) (tgt := 1579) hc dL_law_869 (by decide) ?_
    refine sw_widen (k := cells + 24) (n := slots + 420) (by omega) (by omega) ?_
    refine sw_sub (ks := [2, 3, 4, 5, 6]) rfl ?_
    exact kk _ _ (hPO.nx hN hM hK)
  · skip
    refine sw_aload_n (pc := 857) hc dL_law_857 rfl 3 rfl ?_
    refine sw_iconst (pc := 858) (v := 0) hc dL_law_858 (by decide) ?_
    refine sw_lald (pc := 859) (j := 0) hc (hPO.out hK) rfl (by decide) (by decide) dL_law_859 ?_
    refine sw_st (st' := [.long ((vSubmit σ w1 w2 w3).toInt64)]) (by rw [hv hz]) ?_
    refine sw_iload (pc := 860) hc dL_law_860 0 rfl ?_
    refine sw_i2l (pc := 862) (v := (vSubmit σ w1 w2 w3).toInt64) hc dL_law_862 rfl ?_
    refine sw_lcmp (pc := 863) hc dL_law_863 ?_
    refine sw_if_eq (pc := 864) (tgt := 869) hc dL_law_864 (by decide) (fun _ => ?_) (fun hz2 => absurd ((lg_cmp_eq _ _).mpr rfl) hz2)
    refine sw_goto (pc := 869) (tgt := 1579) hc dL_law_869 (by decide) ?_
    refine sw_widen (k := cells + 24) (n := slots + 420) (by omega) (by omega) ?_
    refine sw_sub (ks := [2, 3, 4, 5, 6]) rfl ?_
    exact kk _ _ (hPO.nx hN hM hK)
set_option maxHeartbeats 4000000 in
set_option maxRecDepth 100000 in
theorem k_L_judged {p : Program} {l : Launch} {e : Env} {s : State} {m : MethodId} {below : List Frame} {meth : Method} {c : Code} {cells slots : Nat} {Q : State → Prop} {g : sg_G} {C : Nat → Option va_E} {b L x0 m0 o : Nat} {xs : Nat → Int32} {q : Nat → Nat} {σ : Mem} {i : Int32} {w1 : Int32} (hc : sg_Cx p s m #[.ref b] c cL_law 7 RL g) (hgs : g.2.2.1 = s.heap) (hX : va_X b L xs s s.heap) (hbl : b < s.heap.size) (hst : l.stackTraces = false) (hN : mN m0 q) (hI : LI g x0 m0 q o σ C) (h_w1 : AV L xs (i + 1) w1) (hcs : cells + 24 ≤ room_1.cells) (hsl : slots + 420 ≤ room_1.slots) (kk : ∀ τ C', LI g x0 m0 q o τ C' → sg_W p l e room_1 s m #[.ref b] below meth c 7 g (cells + 24) (slots + 420) Q C' 1579 [(4, .int i), (3, .ref o), (2, .ref m0), (1, .ref x0), (0, .ref b)] []) : sg_W p l e room_1 s m #[.ref b] below meth c 7 g cells slots Q C 872 [(4, .int i), (3, .ref o), (2, .ref m0), (1, .ref x0), (0, .ref b)] [] := by
  obtain ⟨ad, own, gh, fo, hQ, hg, hW, rfl, hO, hOo, hM, hK⟩ := hI
  refine sw_aload_n (pc := 872) hc dL_law_872 rfl 3 rfl ?_
  refine sw_aload_n (pc := 873) hc dL_law_873 rfl 4 rfl ?_
  refine sw_iload (pc := 874) hc dL_law_874 0 rfl ?_
  refine sw_iconst (pc := 876) (v := 1) hc dL_law_876 (by decide) ?_
  refine sw_iadd (pc := 877) hc dL_law_877 ?_
  refine sw_sld (pc := 878) hc hgs hX hbl h_w1 dL_law_878 ?_
  refine sw_aload_n (pc := 879) hc dL_law_879 rfl 1 rfl ?_
  refine sw_callSX (pc := 880) (rest := []) hc (c_L_judged l g C ad own gh σ o fo w1 hQ hW hg hO hOo hst) mdh_L_judged lk_RL_136 st_L_judged rfl rfl (Nat.le_of_ble_eq_true rfl) dL_law_880 ⟨Nat.le_of_ble_eq_true rfl, Nat.le_of_ble_eq_true rfl, (by omega), (by omega)⟩ (fun v C1 hP => ?_)
  obtain ⟨rfl, f', hPO, hv⟩ := hP
  refine sw_st (st' := [.int (kIn σ 26 w1)]) rfl ?_
  refine sw_istore (pc := 883) hc dL_law_883 (by decide) (lv' := [(5, .int (kIn σ 26 w1)), (4, .int i), (3, .ref o), (2, .ref m0), (1, .ref (ad 0 0)), (0, .ref b)]) rfl ?_
  refine sw_eq (C' := sg_ov C1 (mW g m0 q σ)) (hPO.mid hM hK) ?_
  refine sw_aload_n (pc := 885) hc dL_law_885 rfl 3 rfl ?_
  refine sw_aload_n (pc := 886) hc dL_law_886 rfl 5 rfl ?_
  refine sw_iload (pc := 887) hc dL_law_887 1 rfl ?_
  refine sw_iconst (pc := 889) (v := 1) hc dL_law_889 (by decide) ?_
  refine sw_iadd (pc := 890) hc dL_law_890 ?_
  refine sw_sld (pc := 891) hc hgs hX hbl h_w1 dL_law_891 ?_
  refine sw_callV (pc := 892) (rest := []) hc (c_X8_judged l g C1 m0 q σ w1 hN hW.1) md_X8_judged ml_RL_138 im_X8_judged sl_X8_judged (mW_o hN) rfl rfl rfl (Nat.le_of_ble_eq_true rfl) dL_law_892 ⟨Nat.le_of_ble_eq_true rfl, Nat.le_of_ble_eq_true rfl, (by omega), (by omega)⟩ (fun v C2 hP2 => ?_) (fun _ _ h => h.elim)
  obtain ⟨rfl, rfl⟩ := hP2
  refine sw_st (st' := [.int (vJudged σ w1)]) rfl ?_
  refine sw_istore (pc := 895) hc dL_law_895 (by decide) (lv' := [(6, .int (vJudged σ w1)), (5, .int (kIn σ 26 w1)), (4, .int i), (3, .ref o), (2, .ref m0), (1, .ref (ad 0 0)), (0, .ref b)]) rfl ?_
  refine sw_aload_n (pc := 897) hc dL_law_897 rfl 4 rfl ?_
  refine sw_callV (pc := 898) (rest := []) hc (c_X8_thrown l g C1 m0 q (fIn σ 26 w1) hN) md_X8_thrown ml_RL_98 im_X8_thrown sl_X8_thrown (mW_o hN) rfl rfl rfl (Nat.le_of_ble_eq_true rfl) dL_law_898 ⟨Nat.le_of_ble_eq_true rfl, Nat.le_of_ble_eq_true rfl, (by omega), (by omega)⟩ (fun v C2 hP2 => ?_) (fun _ _ h => h.elim)
  obtain ⟨rfl, rfl⟩ := hP2
  refine sw_st (st' := [.int (kIn σ 26 w1)]) (by rw [q_In]; rfl) ?_
  refine sw_iload (pc := 901) hc dL_law_901 1 rfl ?_
  refine sw_icmp_eq (pc := 903) (tgt := 908) hc dL_law_903 (by decide) (fun _ => ?_) (fun hz => absurd rfl hz)
  refine sw_iload (pc := 908) hc dL_law_908 1 rfl ?_
  refine sw_if_ne (pc := 910) (tgt := 925) hc dL_law_910 (by decide) (fun _ => ?_) (fun hz => ?_)
  · skip
    refine sw_goto (pc := 925) (tgt := 1579) hc dL_law_925 (by decide) ?_
    refine sw_widen (k := cells + 24) (n := slots + 420) (by omega) (by omega) ?_
    refine sw_sub (ks := [2, 3, 4, 5, 6]) rfl ?_
    exact kk _ _ (hPO.nx hN hM hK)
  · skip
    refine sw_aload_n (pc := 913) hc dL_law_913 rfl 3 rfl ?_
    refine sw_iconst (pc := 914) (v := 0) hc dL_law_914 (by decide) ?_
    refine sw_lald (pc := 915) (j := 0) hc (hPO.out hK) rfl (by decide) (by decide) dL_law_915 ?_
    refine sw_st (st' := [.long ((vJudged σ w1).toInt64)]) (by rw [hv hz]) ?_
    refine sw_iload (pc := 916) hc dL_law_916 0 rfl ?_
    refine sw_i2l (pc := 918) (v := (vJudged σ w1).toInt64) hc dL_law_918 rfl ?_
    refine sw_lcmp (pc := 919) hc dL_law_919 ?_
    refine sw_if_eq (pc := 920) (tgt := 925) hc dL_law_920 (by decide) (fun _ => ?_) (fun hz2 => absurd ((lg_cmp_eq _ _).mpr rfl) hz2)
    refine sw_goto (pc := 925) (tgt := 1579) hc dL_law_925 (by decide) ?_
    refine sw_widen (k := cells + 24) (n := slots + 420) (by omega) (by omega) ?_
    refine sw_sub (ks := [2, 3, 4, 5, 6]) rfl ?_
    exact kk _ _ (hPO.nx hN hM hK)
set_option maxHeartbeats 4000000 in
set_option maxRecDepth 100000 in
theorem k_L_strike {p : Program} {l : Launch} {e : Env} {s : State} {m : MethodId} {below : List Frame} {meth : Method} {c : Code} {cells slots : Nat} {Q : State → Prop} {g : sg_G} {C : Nat → Option va_E} {b L x0 m0 o : Nat} {xs : Nat → Int32} {q : Nat → Nat} {σ : Mem} {i : Int32} {w1 : Int32} (hc : sg_Cx p s m #[.ref b] c cL_law 7 RL g) (hgs : g.2.2.1 = s.heap) (hX : va_X b L xs s s.heap) (hbl : b < s.heap.size) (hst : l.stackTraces = false) (hN : mN m0 q) (hI : LI g x0 m0 q o σ C) (h_w1 : AV L xs (i + 1) w1) (hcs : cells + 24 ≤ room_1.cells) (hsl : slots + 420 ≤ room_1.slots) (kk : ∀ τ C', LI g x0 m0 q o τ C' → sg_W p l e room_1 s m #[.ref b] below meth c 7 g (cells + 24) (slots + 420) Q C' 1579 [(4, .int i), (3, .ref o), (2, .ref m0), (1, .ref x0), (0, .ref b)] []) : sg_W p l e room_1 s m #[.ref b] below meth c 7 g cells slots Q C 928 [(4, .int i), (3, .ref o), (2, .ref m0), (1, .ref x0), (0, .ref b)] [] := by
  obtain ⟨ad, own, gh, fo, hQ, hg, hW, rfl, hO, hOo, hM, hK⟩ := hI
  refine sw_aload_n (pc := 928) hc dL_law_928 rfl 3 rfl ?_
  refine sw_aload_n (pc := 929) hc dL_law_929 rfl 4 rfl ?_
  refine sw_iload (pc := 930) hc dL_law_930 0 rfl ?_
  refine sw_iconst (pc := 932) (v := 1) hc dL_law_932 (by decide) ?_
  refine sw_iadd (pc := 933) hc dL_law_933 ?_
  refine sw_sld (pc := 934) hc hgs hX hbl h_w1 dL_law_934 ?_
  refine sw_aload_n (pc := 935) hc dL_law_935 rfl 1 rfl ?_
  refine sw_callSX (pc := 936) (rest := []) hc (c_L_strike l g C ad own gh σ o fo w1 hQ hW hg hO hOo hst) mdh_L_strike lk_RL_139 st_L_strike rfl rfl (Nat.le_of_ble_eq_true rfl) dL_law_936 ⟨Nat.le_of_ble_eq_true rfl, Nat.le_of_ble_eq_true rfl, (by omega), (by omega)⟩ (fun v C1 hP => ?_)
  obtain ⟨rfl, f', hPO, hv⟩ := hP
  refine sw_st (st' := [.int (kIn σ 26 w1)]) rfl ?_
  refine sw_istore (pc := 939) hc dL_law_939 (by decide) (lv' := [(5, .int (kIn σ 26 w1)), (4, .int i), (3, .ref o), (2, .ref m0), (1, .ref (ad 0 0)), (0, .ref b)]) rfl ?_
  refine sw_eq (C' := sg_ov C1 (mW g m0 q σ)) (hPO.mid hM hK) ?_
  refine sw_aload_n (pc := 941) hc dL_law_941 rfl 3 rfl ?_
  refine sw_aload_n (pc := 942) hc dL_law_942 rfl 5 rfl ?_
  refine sw_iload (pc := 943) hc dL_law_943 1 rfl ?_
  refine sw_iconst (pc := 945) (v := 1) hc dL_law_945 (by decide) ?_
  refine sw_iadd (pc := 946) hc dL_law_946 ?_
  refine sw_sld (pc := 947) hc hgs hX hbl h_w1 dL_law_947 ?_
  refine sw_callV (pc := 948) (rest := []) hc (c_X8_strike l g C1 m0 q σ w1 hN hW.1) md_X8_strike ml_RL_141 im_X8_strike sl_X8_strike (mW_o hN) rfl rfl rfl (Nat.le_of_ble_eq_true rfl) dL_law_948 ⟨Nat.le_of_ble_eq_true rfl, Nat.le_of_ble_eq_true rfl, (by omega), (by omega)⟩ (fun v C2 hP2 => ?_) (fun _ _ h => h.elim)
  obtain ⟨rfl, rfl⟩ := hP2
  refine sw_st (st' := [.int (bI (pStrike σ w1))]) rfl ?_
  refine sw_istore (pc := 951) hc dL_law_951 (by decide) (lv' := [(6, .int (bI (pStrike σ w1))), (5, .int (kIn σ 26 w1)), (4, .int i), (3, .ref o), (2, .ref m0), (1, .ref (ad 0 0)), (0, .ref b)]) rfl ?_
  refine sw_aload_n (pc := 953) hc dL_law_953 rfl 4 rfl ?_
  refine sw_callV (pc := 954) (rest := []) hc (c_X8_thrown l g C1 m0 q (fStrike σ w1) hN) md_X8_thrown ml_RL_98 im_X8_thrown sl_X8_thrown (mW_o hN) rfl rfl rfl (Nat.le_of_ble_eq_true rfl) dL_law_954 ⟨Nat.le_of_ble_eq_true rfl, Nat.le_of_ble_eq_true rfl, (by omega), (by omega)⟩ (fun v C2 hP2 => ?_) (fun _ _ h => h.elim)
  obtain ⟨rfl, rfl⟩ := hP2
  refine sw_st (st' := [.int (kIn σ 26 w1)]) (by rw [q_Strike]; rfl) ?_
  refine sw_iload (pc := 957) hc dL_law_957 1 rfl ?_
  refine sw_icmp_eq (pc := 959) (tgt := 964) hc dL_law_959 (by decide) (fun _ => ?_) (fun hz => absurd rfl hz)
  refine sw_iload (pc := 964) hc dL_law_964 1 rfl ?_
  refine sw_if_ne (pc := 966) (tgt := 988) hc dL_law_966 (by decide) (fun _ => ?_) (fun hz => ?_)
  · skip
    refine sw_goto (pc := 988) (tgt := 1579) hc dL_law_988 (by decide) ?_
    refine sw_widen (k := cells + 24) (n := slots + 420) (by omega) (by omega) ?_
    refine sw_sub (ks := [2, 3, 4, 5, 6]) rfl ?_
    exact kk _ _ (hPO.nx hN hM hK)
  · skip
    refine sw_aload_n (pc := 969) hc dL_law_969 rfl 3 rfl ?_
    refine sw_iconst (pc := 970) (v := 0) hc dL_law_970 (by decide) ?_
    refine sw_lald (pc := 971) (j := 0) hc (hPO.out hK) rfl (by decide) (by decide) dL_law_971 ?_
    refine sw_iload (pc := 972) hc dL_law_972 0 rfl ?_
    refine sw_if_eq (pc := 974) (tgt := 981) hc dL_law_974 (by decide) (fun c1 => ?_) (fun c1 => ?_)
    · refine sw_st (st' := [.long 0]) (by rw [hv hz, if_neg (bI_0 c1)]) ?_
      refine sw_lconst (pc := 981) (n := 0) (v := 0) hc dL_law_981 rfl ?_
      refine sw_lcmp (pc := 982) hc dL_law_982 ?_
      refine sw_if_eq (pc := 983) (tgt := 988) hc dL_law_983 (by decide) (fun _ => ?_) (fun hz2 => absurd ((lg_cmp_eq _ _).mpr rfl) hz2)
      refine sw_goto (pc := 988) (tgt := 1579) hc dL_law_988 (by decide) ?_
      refine sw_widen (k := cells + 24) (n := slots + 420) (by omega) (by omega) ?_
      refine sw_sub (ks := [2, 3, 4, 5, 6]) rfl ?_
      exact kk _ _ (hPO.nx hN hM hK)
    · refine sw_st (st' := [.long 1]) (by rw [hv hz, if_pos (bI_n c1)]) ?_
      refine sw_lconst (pc := 977) (n := 1) (v := 1) hc dL_law_977 rfl ?_
      refine sw_goto (pc := 978) (tgt := 982) hc dL_law_978 (by decide) ?_
      refine sw_lcmp (pc := 982) hc dL_law_982 ?_
      refine sw_if_eq (pc := 983) (tgt := 988) hc dL_law_983 (by decide) (fun _ => ?_) (fun hz2 => absurd ((lg_cmp_eq _ _).mpr rfl) hz2)
      refine sw_goto (pc := 988) (tgt := 1579) hc dL_law_988 (by decide) ?_
      refine sw_widen (k := cells + 24) (n := slots + 420) (by omega) (by omega) ?_
      refine sw_sub (ks := [2, 3, 4, 5, 6]) rfl ?_
      exact kk _ _ (hPO.nx hN hM hK)
set_option maxHeartbeats 4000000 in
set_option maxRecDepth 100000 in
theorem k_L_best {p : Program} {l : Launch} {e : Env} {s : State} {m : MethodId} {below : List Frame} {meth : Method} {c : Code} {cells slots : Nat} {Q : State → Prop} {g : sg_G} {C : Nat → Option va_E} {b L x0 m0 o : Nat} {xs : Nat → Int32} {q : Nat → Nat} {σ : Mem} {i : Int32} {w1 w2 : Int32} (hc : sg_Cx p s m #[.ref b] c cL_law 7 RL g) (hgs : g.2.2.1 = s.heap) (hX : va_X b L xs s s.heap) (hbl : b < s.heap.size) (hst : l.stackTraces = false) (hN : mN m0 q) (hI : LI g x0 m0 q o σ C) (h_w1 : AV L xs (i + 1) w1) (h_w2 : AV L xs (i + 2) w2) (hcs : cells + 24 ≤ room_1.cells) (hsl : slots + 420 ≤ room_1.slots) (kk : ∀ τ C', LI g x0 m0 q o τ C' → sg_W p l e room_1 s m #[.ref b] below meth c 7 g (cells + 24) (slots + 420) Q C' 1579 [(4, .int i), (3, .ref o), (2, .ref m0), (1, .ref x0), (0, .ref b)] []) : sg_W p l e room_1 s m #[.ref b] below meth c 7 g cells slots Q C 991 [(4, .int i), (3, .ref o), (2, .ref m0), (1, .ref x0), (0, .ref b)] [] := by
  obtain ⟨ad, own, gh, fo, hQ, hg, hW, rfl, hO, hOo, hM, hK⟩ := hI
  refine sw_aload_n (pc := 991) hc dL_law_991 rfl 3 rfl ?_
  refine sw_aload_n (pc := 992) hc dL_law_992 rfl 4 rfl ?_
  refine sw_iload (pc := 993) hc dL_law_993 0 rfl ?_
  refine sw_iconst (pc := 995) (v := 1) hc dL_law_995 (by decide) ?_
  refine sw_iadd (pc := 996) hc dL_law_996 ?_
  refine sw_sld (pc := 997) hc hgs hX hbl h_w1 dL_law_997 ?_
  refine sw_aload_n (pc := 998) hc dL_law_998 rfl 4 rfl ?_
  refine sw_iload (pc := 999) hc dL_law_999 0 rfl ?_
  refine sw_iconst (pc := 1001) (v := 2) hc dL_law_1001 (by decide) ?_
  refine sw_iadd (pc := 1002) hc dL_law_1002 ?_
  refine sw_sld (pc := 1003) hc hgs hX hbl h_w2 dL_law_1003 ?_
  refine sw_aload_n (pc := 1004) hc dL_law_1004 rfl 1 rfl ?_
  refine sw_callSX (pc := 1005) (rest := []) hc (c_L_best l g C ad own gh σ o fo w1 w2 hQ hW hg hO hOo hst) mdh_L_best lk_RL_142 st_L_best rfl rfl (Nat.le_of_ble_eq_true rfl) dL_law_1005 ⟨Nat.le_of_ble_eq_true rfl, Nat.le_of_ble_eq_true rfl, (by omega), (by omega)⟩ (fun v C1 hP => ?_)
  obtain ⟨rfl, f', hPO, hv⟩ := hP
  refine sw_st (st' := [.int (kPair σ w1 w2)]) rfl ?_
  refine sw_istore (pc := 1008) hc dL_law_1008 (by decide) (lv' := [(5, .int (kPair σ w1 w2)), (4, .int i), (3, .ref o), (2, .ref m0), (1, .ref (ad 0 0)), (0, .ref b)]) rfl ?_
  refine sw_eq (C' := sg_ov C1 (mW g m0 q σ)) (hPO.mid hM hK) ?_
  refine sw_aload_n (pc := 1010) hc dL_law_1010 rfl 3 rfl ?_
  refine sw_aload_n (pc := 1011) hc dL_law_1011 rfl 5 rfl ?_
  refine sw_iload (pc := 1012) hc dL_law_1012 1 rfl ?_
  refine sw_iconst (pc := 1014) (v := 1) hc dL_law_1014 (by decide) ?_
  refine sw_iadd (pc := 1015) hc dL_law_1015 ?_
  refine sw_sld (pc := 1016) hc hgs hX hbl h_w1 dL_law_1016 ?_
  refine sw_aload_n (pc := 1017) hc dL_law_1017 rfl 5 rfl ?_
  refine sw_iload (pc := 1018) hc dL_law_1018 1 rfl ?_
  refine sw_iconst (pc := 1020) (v := 2) hc dL_law_1020 (by decide) ?_
  refine sw_iadd (pc := 1021) hc dL_law_1021 ?_
  refine sw_sld (pc := 1022) hc hgs hX hbl h_w2 dL_law_1022 ?_
  refine sw_callV (pc := 1023) (rest := []) hc (c_X8_best l g C1 m0 q σ w1 w2 hN hW.1) md_X8_best ml_RL_144 im_X8_best sl_X8_best (mW_o hN) rfl rfl rfl (Nat.le_of_ble_eq_true rfl) dL_law_1023 ⟨Nat.le_of_ble_eq_true rfl, Nat.le_of_ble_eq_true rfl, (by omega), (by omega)⟩ (fun v C2 hP2 => ?_) (fun _ _ h => h.elim)
  obtain ⟨rfl, rfl⟩ := hP2
  refine sw_st (st' := [.int (vBest2 σ w1 w2)]) rfl ?_
  refine sw_istore (pc := 1026) hc dL_law_1026 (by decide) (lv' := [(6, .int (vBest2 σ w1 w2)), (5, .int (kPair σ w1 w2)), (4, .int i), (3, .ref o), (2, .ref m0), (1, .ref (ad 0 0)), (0, .ref b)]) rfl ?_
  refine sw_aload_n (pc := 1028) hc dL_law_1028 rfl 4 rfl ?_
  refine sw_callV (pc := 1029) (rest := []) hc (c_X8_thrown l g C1 m0 q (fPair σ w1 w2) hN) md_X8_thrown ml_RL_98 im_X8_thrown sl_X8_thrown (mW_o hN) rfl rfl rfl (Nat.le_of_ble_eq_true rfl) dL_law_1029 ⟨Nat.le_of_ble_eq_true rfl, Nat.le_of_ble_eq_true rfl, (by omega), (by omega)⟩ (fun v C2 hP2 => ?_) (fun _ _ h => h.elim)
  obtain ⟨rfl, rfl⟩ := hP2
  refine sw_st (st' := [.int (kPair σ w1 w2)]) (by rw [q_Pair]; rfl) ?_
  refine sw_iload (pc := 1032) hc dL_law_1032 1 rfl ?_
  refine sw_icmp_eq (pc := 1034) (tgt := 1039) hc dL_law_1034 (by decide) (fun _ => ?_) (fun hz => absurd rfl hz)
  refine sw_iload (pc := 1039) hc dL_law_1039 1 rfl ?_
  refine sw_if_ne (pc := 1041) (tgt := 1056) hc dL_law_1041 (by decide) (fun _ => ?_) (fun hz => ?_)
  · skip
    refine sw_goto (pc := 1056) (tgt := 1579) hc dL_law_1056 (by decide) ?_
    refine sw_widen (k := cells + 24) (n := slots + 420) (by omega) (by omega) ?_
    refine sw_sub (ks := [2, 3, 4, 5, 6]) rfl ?_
    exact kk _ _ (hPO.nx hN hM hK)
  · skip
    refine sw_aload_n (pc := 1044) hc dL_law_1044 rfl 3 rfl ?_
    refine sw_iconst (pc := 1045) (v := 0) hc dL_law_1045 (by decide) ?_
    refine sw_lald (pc := 1046) (j := 0) hc (hPO.out hK) rfl (by decide) (by decide) dL_law_1046 ?_
    refine sw_st (st' := [.long ((vBest2 σ w1 w2).toInt64)]) (by rw [hv hz]) ?_
    refine sw_iload (pc := 1047) hc dL_law_1047 0 rfl ?_
    refine sw_i2l (pc := 1049) (v := (vBest2 σ w1 w2).toInt64) hc dL_law_1049 rfl ?_
    refine sw_lcmp (pc := 1050) hc dL_law_1050 ?_
    refine sw_if_eq (pc := 1051) (tgt := 1056) hc dL_law_1051 (by decide) (fun _ => ?_) (fun hz2 => absurd ((lg_cmp_eq _ _).mpr rfl) hz2)
    refine sw_goto (pc := 1056) (tgt := 1579) hc dL_law_1056 (by decide) ?_
    refine sw_widen (k := cells + 24) (n := slots + 420) (by omega) (by omega) ?_
    refine sw_sub (ks := [2, 3, 4, 5, 6]) rfl ?_
    exact kk _ _ (hPO.nx hN hM hK)
set_option maxHeartbeats 4000000 in
set_option maxRecDepth 100000 in
theorem k_L_bestAnew {p : Program} {l : Launch} {e : Env} {s : State} {m : MethodId} {below : List Frame} {meth : Method} {c : Code} {cells slots : Nat} {Q : State → Prop} {g : sg_G} {C : Nat → Option va_E} {b L x0 m0 o : Nat} {xs : Nat → Int32} {q : Nat → Nat} {σ : Mem} {i : Int32} {w1 w2 : Int32} (hc : sg_Cx p s m #[.ref b] c cL_law 7 RL g) (hgs : g.2.2.1 = s.heap) (hX : va_X b L xs s s.heap) (hbl : b < s.heap.size) (hst : l.stackTraces = false) (hN : mN m0 q) (hI : LI g x0 m0 q o σ C) (h_w1 : AV L xs (i + 1) w1) (h_w2 : AV L xs (i + 2) w2) (hcs : cells + 24 ≤ room_1.cells) (hsl : slots + 420 ≤ room_1.slots) (kk : ∀ τ C', LI g x0 m0 q o τ C' → sg_W p l e room_1 s m #[.ref b] below meth c 7 g (cells + 24) (slots + 420) Q C' 1579 [(4, .int i), (3, .ref o), (2, .ref m0), (1, .ref x0), (0, .ref b)] []) : sg_W p l e room_1 s m #[.ref b] below meth c 7 g cells slots Q C 1059 [(4, .int i), (3, .ref o), (2, .ref m0), (1, .ref x0), (0, .ref b)] [] := by
  obtain ⟨ad, own, gh, fo, hQ, hg, hW, rfl, hO, hOo, hM, hK⟩ := hI
  refine sw_aload_n (pc := 1059) hc dL_law_1059 rfl 3 rfl ?_
  refine sw_aload_n (pc := 1060) hc dL_law_1060 rfl 4 rfl ?_
  refine sw_iload (pc := 1061) hc dL_law_1061 0 rfl ?_
  refine sw_iconst (pc := 1063) (v := 1) hc dL_law_1063 (by decide) ?_
  refine sw_iadd (pc := 1064) hc dL_law_1064 ?_
  refine sw_sld (pc := 1065) hc hgs hX hbl h_w1 dL_law_1065 ?_
  refine sw_aload_n (pc := 1066) hc dL_law_1066 rfl 4 rfl ?_
  refine sw_iload (pc := 1067) hc dL_law_1067 0 rfl ?_
  refine sw_iconst (pc := 1069) (v := 2) hc dL_law_1069 (by decide) ?_
  refine sw_iadd (pc := 1070) hc dL_law_1070 ?_
  refine sw_sld (pc := 1071) hc hgs hX hbl h_w2 dL_law_1071 ?_
  refine sw_aload_n (pc := 1072) hc dL_law_1072 rfl 1 rfl ?_
  refine sw_callSX (pc := 1073) (rest := []) hc (c_L_bestAnew l g C ad own gh σ o fo w1 w2 hQ hW hg hO hOo hst) mdh_L_bestAnew lk_RL_145 st_L_bestAnew rfl rfl (Nat.le_of_ble_eq_true rfl) dL_law_1073 ⟨Nat.le_of_ble_eq_true rfl, Nat.le_of_ble_eq_true rfl, (by omega), (by omega)⟩ (fun v C1 hP => ?_)
  obtain ⟨rfl, f', hPO, hv⟩ := hP
  refine sw_st (st' := [.int (kPair σ w1 w2)]) rfl ?_
  refine sw_istore (pc := 1076) hc dL_law_1076 (by decide) (lv' := [(5, .int (kPair σ w1 w2)), (4, .int i), (3, .ref o), (2, .ref m0), (1, .ref (ad 0 0)), (0, .ref b)]) rfl ?_
  refine sw_eq (C' := sg_ov C1 (mW g m0 q σ)) (hPO.mid hM hK) ?_
  refine sw_aload_n (pc := 1078) hc dL_law_1078 rfl 3 rfl ?_
  refine sw_aload_n (pc := 1079) hc dL_law_1079 rfl 5 rfl ?_
  refine sw_iload (pc := 1080) hc dL_law_1080 1 rfl ?_
  refine sw_iconst (pc := 1082) (v := 1) hc dL_law_1082 (by decide) ?_
  refine sw_iadd (pc := 1083) hc dL_law_1083 ?_
  refine sw_sld (pc := 1084) hc hgs hX hbl h_w1 dL_law_1084 ?_
  refine sw_aload_n (pc := 1085) hc dL_law_1085 rfl 5 rfl ?_
  refine sw_iload (pc := 1086) hc dL_law_1086 1 rfl ?_
  refine sw_iconst (pc := 1088) (v := 2) hc dL_law_1088 (by decide) ?_
  refine sw_iadd (pc := 1089) hc dL_law_1089 ?_
  refine sw_sld (pc := 1090) hc hgs hX hbl h_w2 dL_law_1090 ?_
  refine sw_callV (pc := 1091) (rest := []) hc (c_X8_bestAnew l g C1 m0 q σ w1 w2 hN hW.1) md_X8_bestAnew ml_RL_147 im_X8_bestAnew sl_X8_bestAnew (mW_o hN) rfl rfl rfl (Nat.le_of_ble_eq_true rfl) dL_law_1091 ⟨Nat.le_of_ble_eq_true rfl, Nat.le_of_ble_eq_true rfl, (by omega), (by omega)⟩ (fun v C2 hP2 => ?_) (fun _ _ h => h.elim)
  obtain ⟨rfl, rfl⟩ := hP2
  refine sw_st (st' := [.int (vBestAnew σ w1 w2)]) rfl ?_
  refine sw_istore (pc := 1094) hc dL_law_1094 (by decide) (lv' := [(6, .int (vBestAnew σ w1 w2)), (5, .int (kPair σ w1 w2)), (4, .int i), (3, .ref o), (2, .ref m0), (1, .ref (ad 0 0)), (0, .ref b)]) rfl ?_
  refine sw_aload_n (pc := 1096) hc dL_law_1096 rfl 4 rfl ?_
  refine sw_callV (pc := 1097) (rest := []) hc (c_X8_thrown l g C1 m0 q (fBestAnew σ w1 w2) hN) md_X8_thrown ml_RL_98 im_X8_thrown sl_X8_thrown (mW_o hN) rfl rfl rfl (Nat.le_of_ble_eq_true rfl) dL_law_1097 ⟨Nat.le_of_ble_eq_true rfl, Nat.le_of_ble_eq_true rfl, (by omega), (by omega)⟩ (fun v C2 hP2 => ?_) (fun _ _ h => h.elim)
  obtain ⟨rfl, rfl⟩ := hP2
  refine sw_st (st' := [.int (kPair σ w1 w2)]) (by rw [q_BestAnew]; rfl) ?_
  refine sw_iload (pc := 1100) hc dL_law_1100 1 rfl ?_
  refine sw_icmp_eq (pc := 1102) (tgt := 1107) hc dL_law_1102 (by decide) (fun _ => ?_) (fun hz => absurd rfl hz)
  refine sw_iload (pc := 1107) hc dL_law_1107 1 rfl ?_
  refine sw_if_ne (pc := 1109) (tgt := 1124) hc dL_law_1109 (by decide) (fun _ => ?_) (fun hz => ?_)
  · skip
    refine sw_goto (pc := 1124) (tgt := 1579) hc dL_law_1124 (by decide) ?_
    refine sw_widen (k := cells + 24) (n := slots + 420) (by omega) (by omega) ?_
    refine sw_sub (ks := [2, 3, 4, 5, 6]) rfl ?_
    exact kk _ _ (hPO.nx hN hM hK)
  · skip
    refine sw_aload_n (pc := 1112) hc dL_law_1112 rfl 3 rfl ?_
    refine sw_iconst (pc := 1113) (v := 0) hc dL_law_1113 (by decide) ?_
    refine sw_lald (pc := 1114) (j := 0) hc (hPO.out hK) rfl (by decide) (by decide) dL_law_1114 ?_
    refine sw_st (st' := [.long ((vBestAnew σ w1 w2).toInt64)]) (by rw [hv hz]) ?_
    refine sw_iload (pc := 1115) hc dL_law_1115 0 rfl ?_
    refine sw_i2l (pc := 1117) (v := (vBestAnew σ w1 w2).toInt64) hc dL_law_1117 rfl ?_
    refine sw_lcmp (pc := 1118) hc dL_law_1118 ?_
    refine sw_if_eq (pc := 1119) (tgt := 1124) hc dL_law_1119 (by decide) (fun _ => ?_) (fun hz2 => absurd ((lg_cmp_eq _ _).mpr rfl) hz2)
    refine sw_goto (pc := 1124) (tgt := 1579) hc dL_law_1124 (by decide) ?_
    refine sw_widen (k := cells + 24) (n := slots + 420) (by omega) (by omega) ?_
    refine sw_sub (ks := [2, 3, 4, 5, 6]) rfl ?_
    exact kk _ _ (hPO.nx hN hM hK)
set_option maxHeartbeats 4000000 in
set_option maxRecDepth 100000 in
theorem k_L_place {p : Program} {l : Launch} {e : Env} {s : State} {m : MethodId} {below : List Frame} {meth : Method} {c : Code} {cells slots : Nat} {Q : State → Prop} {g : sg_G} {C : Nat → Option va_E} {b L x0 m0 o : Nat} {xs : Nat → Int32} {q : Nat → Nat} {σ : Mem} {i : Int32} {w1 w2 : Int32} (hc : sg_Cx p s m #[.ref b] c cL_law 7 RL g) (hgs : g.2.2.1 = s.heap) (hX : va_X b L xs s s.heap) (hbl : b < s.heap.size) (hst : l.stackTraces = false) (hN : mN m0 q) (hI : LI g x0 m0 q o σ C) (h_w1 : AV L xs (i + 1) w1) (h_w2 : AV L xs (i + 2) w2) (hcs : cells + 24 ≤ room_1.cells) (hsl : slots + 420 ≤ room_1.slots) (kk : ∀ τ C', LI g x0 m0 q o τ C' → sg_W p l e room_1 s m #[.ref b] below meth c 7 g (cells + 24) (slots + 420) Q C' 1579 [(4, .int i), (3, .ref o), (2, .ref m0), (1, .ref x0), (0, .ref b)] []) : sg_W p l e room_1 s m #[.ref b] below meth c 7 g cells slots Q C 1127 [(4, .int i), (3, .ref o), (2, .ref m0), (1, .ref x0), (0, .ref b)] [] := by
  obtain ⟨ad, own, gh, fo, hQ, hg, hW, rfl, hO, hOo, hM, hK⟩ := hI
  refine sw_aload_n (pc := 1127) hc dL_law_1127 rfl 3 rfl ?_
  refine sw_aload_n (pc := 1128) hc dL_law_1128 rfl 4 rfl ?_
  refine sw_iload (pc := 1129) hc dL_law_1129 0 rfl ?_
  refine sw_iconst (pc := 1131) (v := 1) hc dL_law_1131 (by decide) ?_
  refine sw_iadd (pc := 1132) hc dL_law_1132 ?_
  refine sw_sld (pc := 1133) hc hgs hX hbl h_w1 dL_law_1133 ?_
  refine sw_aload_n (pc := 1134) hc dL_law_1134 rfl 4 rfl ?_
  refine sw_iload (pc := 1135) hc dL_law_1135 0 rfl ?_
  refine sw_iconst (pc := 1137) (v := 2) hc dL_law_1137 (by decide) ?_
  refine sw_iadd (pc := 1138) hc dL_law_1138 ?_
  refine sw_sld (pc := 1139) hc hgs hX hbl h_w2 dL_law_1139 ?_
  refine sw_aload_n (pc := 1140) hc dL_law_1140 rfl 1 rfl ?_
  refine sw_callSX (pc := 1141) (rest := []) hc (c_L_place l g C ad own gh σ o fo w1 w2 hQ hW hg hO hOo hst) mdh_L_place lk_RL_148 st_L_place rfl rfl (Nat.le_of_ble_eq_true rfl) dL_law_1141 ⟨Nat.le_of_ble_eq_true rfl, Nat.le_of_ble_eq_true rfl, (by omega), (by omega)⟩ (fun v C1 hP => ?_)
  obtain ⟨rfl, f', hPO, hv⟩ := hP
  refine sw_st (st' := [.int (kPair σ w1 w2)]) rfl ?_
  refine sw_istore (pc := 1144) hc dL_law_1144 (by decide) (lv' := [(5, .int (kPair σ w1 w2)), (4, .int i), (3, .ref o), (2, .ref m0), (1, .ref (ad 0 0)), (0, .ref b)]) rfl ?_
  refine sw_eq (C' := sg_ov C1 (mW g m0 q σ)) (hPO.mid hM hK) ?_
  refine sw_aload_n (pc := 1146) hc dL_law_1146 rfl 3 rfl ?_
  refine sw_aload_n (pc := 1147) hc dL_law_1147 rfl 5 rfl ?_
  refine sw_iload (pc := 1148) hc dL_law_1148 1 rfl ?_
  refine sw_iconst (pc := 1150) (v := 1) hc dL_law_1150 (by decide) ?_
  refine sw_iadd (pc := 1151) hc dL_law_1151 ?_
  refine sw_sld (pc := 1152) hc hgs hX hbl h_w1 dL_law_1152 ?_
  refine sw_aload_n (pc := 1153) hc dL_law_1153 rfl 5 rfl ?_
  refine sw_iload (pc := 1154) hc dL_law_1154 1 rfl ?_
  refine sw_iconst (pc := 1156) (v := 2) hc dL_law_1156 (by decide) ?_
  refine sw_iadd (pc := 1157) hc dL_law_1157 ?_
  refine sw_sld (pc := 1158) hc hgs hX hbl h_w2 dL_law_1158 ?_
  refine sw_callV (pc := 1159) (rest := []) hc (c_X8_place l g C1 m0 q σ w1 w2 hN hW.1) md_X8_place ml_RL_150 im_X8_place sl_X8_place (mW_o hN) rfl rfl rfl (Nat.le_of_ble_eq_true rfl) dL_law_1159 ⟨Nat.le_of_ble_eq_true rfl, Nat.le_of_ble_eq_true rfl, (by omega), (by omega)⟩ (fun v C2 hP2 => ?_) (fun _ _ h => h.elim)
  obtain ⟨rfl, rfl⟩ := hP2
  refine sw_st (st' := [.int (vPlace σ w1 w2)]) rfl ?_
  refine sw_istore (pc := 1162) hc dL_law_1162 (by decide) (lv' := [(6, .int (vPlace σ w1 w2)), (5, .int (kPair σ w1 w2)), (4, .int i), (3, .ref o), (2, .ref m0), (1, .ref (ad 0 0)), (0, .ref b)]) rfl ?_
  refine sw_aload_n (pc := 1164) hc dL_law_1164 rfl 4 rfl ?_
  refine sw_callV (pc := 1165) (rest := []) hc (c_X8_thrown l g C1 m0 q (fPair σ w1 w2) hN) md_X8_thrown ml_RL_98 im_X8_thrown sl_X8_thrown (mW_o hN) rfl rfl rfl (Nat.le_of_ble_eq_true rfl) dL_law_1165 ⟨Nat.le_of_ble_eq_true rfl, Nat.le_of_ble_eq_true rfl, (by omega), (by omega)⟩ (fun v C2 hP2 => ?_) (fun _ _ h => h.elim)
  obtain ⟨rfl, rfl⟩ := hP2
  refine sw_st (st' := [.int (kPair σ w1 w2)]) (by rw [q_Pair]; rfl) ?_
  refine sw_iload (pc := 1168) hc dL_law_1168 1 rfl ?_
  refine sw_icmp_eq (pc := 1170) (tgt := 1175) hc dL_law_1170 (by decide) (fun _ => ?_) (fun hz => absurd rfl hz)
  refine sw_iload (pc := 1175) hc dL_law_1175 1 rfl ?_
  refine sw_if_ne (pc := 1177) (tgt := 1192) hc dL_law_1177 (by decide) (fun _ => ?_) (fun hz => ?_)
  · skip
    refine sw_goto (pc := 1192) (tgt := 1579) hc dL_law_1192 (by decide) ?_
    refine sw_widen (k := cells + 24) (n := slots + 420) (by omega) (by omega) ?_
    refine sw_sub (ks := [2, 3, 4, 5, 6]) rfl ?_
    exact kk _ _ (hPO.nx hN hM hK)
  · skip
    refine sw_aload_n (pc := 1180) hc dL_law_1180 rfl 3 rfl ?_
    refine sw_iconst (pc := 1181) (v := 0) hc dL_law_1181 (by decide) ?_
    refine sw_lald (pc := 1182) (j := 0) hc (hPO.out hK) rfl (by decide) (by decide) dL_law_1182 ?_
    refine sw_st (st' := [.long ((vPlace σ w1 w2).toInt64)]) (by rw [hv hz]) ?_
    refine sw_iload (pc := 1183) hc dL_law_1183 0 rfl ?_
    refine sw_i2l (pc := 1185) (v := (vPlace σ w1 w2).toInt64) hc dL_law_1185 rfl ?_
    refine sw_lcmp (pc := 1186) hc dL_law_1186 ?_
    refine sw_if_eq (pc := 1187) (tgt := 1192) hc dL_law_1187 (by decide) (fun _ => ?_) (fun hz2 => absurd ((lg_cmp_eq _ _).mpr rfl) hz2)
    refine sw_goto (pc := 1192) (tgt := 1579) hc dL_law_1192 (by decide) ?_
    refine sw_widen (k := cells + 24) (n := slots + 420) (by omega) (by omega) ?_
    refine sw_sub (ks := [2, 3, 4, 5, 6]) rfl ?_
    exact kk _ _ (hPO.nx hN hM hK)
set_option maxHeartbeats 4000000 in
set_option maxRecDepth 100000 in
theorem k_L_at {p : Program} {l : Launch} {e : Env} {s : State} {m : MethodId} {below : List Frame} {meth : Method} {c : Code} {cells slots : Nat} {Q : State → Prop} {g : sg_G} {C : Nat → Option va_E} {b L x0 m0 o : Nat} {xs : Nat → Int32} {q : Nat → Nat} {σ : Mem} {i : Int32} {w1 w2 : Int32} (hc : sg_Cx p s m #[.ref b] c cL_law 7 RL g) (hgs : g.2.2.1 = s.heap) (hX : va_X b L xs s s.heap) (hbl : b < s.heap.size) (hst : l.stackTraces = false) (hN : mN m0 q) (hI : LI g x0 m0 q o σ C) (h_w1 : AV L xs (i + 1) w1) (h_w2 : AV L xs (i + 2) w2) (hcs : cells + 24 ≤ room_1.cells) (hsl : slots + 420 ≤ room_1.slots) (kk : ∀ τ C', LI g x0 m0 q o τ C' → sg_W p l e room_1 s m #[.ref b] below meth c 7 g (cells + 24) (slots + 420) Q C' 1579 [(4, .int i), (3, .ref o), (2, .ref m0), (1, .ref x0), (0, .ref b)] []) : sg_W p l e room_1 s m #[.ref b] below meth c 7 g cells slots Q C 1195 [(4, .int i), (3, .ref o), (2, .ref m0), (1, .ref x0), (0, .ref b)] [] := by
  obtain ⟨ad, own, gh, fo, hQ, hg, hW, rfl, hO, hOo, hM, hK⟩ := hI
  refine sw_aload_n (pc := 1195) hc dL_law_1195 rfl 3 rfl ?_
  refine sw_aload_n (pc := 1196) hc dL_law_1196 rfl 4 rfl ?_
  refine sw_iload (pc := 1197) hc dL_law_1197 0 rfl ?_
  refine sw_iconst (pc := 1199) (v := 1) hc dL_law_1199 (by decide) ?_
  refine sw_iadd (pc := 1200) hc dL_law_1200 ?_
  refine sw_sld (pc := 1201) hc hgs hX hbl h_w1 dL_law_1201 ?_
  refine sw_aload_n (pc := 1202) hc dL_law_1202 rfl 4 rfl ?_
  refine sw_iload (pc := 1203) hc dL_law_1203 0 rfl ?_
  refine sw_iconst (pc := 1205) (v := 2) hc dL_law_1205 (by decide) ?_
  refine sw_iadd (pc := 1206) hc dL_law_1206 ?_
  refine sw_sld (pc := 1207) hc hgs hX hbl h_w2 dL_law_1207 ?_
  refine sw_aload_n (pc := 1208) hc dL_law_1208 rfl 1 rfl ?_
  refine sw_callSX (pc := 1209) (rest := []) hc (c_L_at l g C ad own gh σ o fo w1 w2 hQ hW hg hO hOo hst) mdh_L_at lk_RL_151 st_L_at rfl rfl (Nat.le_of_ble_eq_true rfl) dL_law_1209 ⟨Nat.le_of_ble_eq_true rfl, Nat.le_of_ble_eq_true rfl, (by omega), (by omega)⟩ (fun v C1 hP => ?_)
  obtain ⟨rfl, f', hPO, hv⟩ := hP
  refine sw_st (st' := [.int (kAt σ w1 w2)]) rfl ?_
  refine sw_istore (pc := 1212) hc dL_law_1212 (by decide) (lv' := [(5, .int (kAt σ w1 w2)), (4, .int i), (3, .ref o), (2, .ref m0), (1, .ref (ad 0 0)), (0, .ref b)]) rfl ?_
  refine sw_eq (C' := sg_ov C1 (mW g m0 q σ)) (hPO.mid hM hK) ?_
  refine sw_aload_n (pc := 1214) hc dL_law_1214 rfl 3 rfl ?_
  refine sw_aload_n (pc := 1215) hc dL_law_1215 rfl 5 rfl ?_
  refine sw_iload (pc := 1216) hc dL_law_1216 1 rfl ?_
  refine sw_iconst (pc := 1218) (v := 1) hc dL_law_1218 (by decide) ?_
  refine sw_iadd (pc := 1219) hc dL_law_1219 ?_
  refine sw_sld (pc := 1220) hc hgs hX hbl h_w1 dL_law_1220 ?_
  refine sw_aload_n (pc := 1221) hc dL_law_1221 rfl 5 rfl ?_
  refine sw_iload (pc := 1222) hc dL_law_1222 1 rfl ?_
  refine sw_iconst (pc := 1224) (v := 2) hc dL_law_1224 (by decide) ?_
  refine sw_iadd (pc := 1225) hc dL_law_1225 ?_
  refine sw_sld (pc := 1226) hc hgs hX hbl h_w2 dL_law_1226 ?_
  refine sw_callV (pc := 1227) (rest := []) hc (c_X8_at l g C1 m0 q σ w1 w2 hN hW.1) md_X8_at ml_RL_153 im_X8_at sl_X8_at (mW_o hN) rfl rfl rfl (Nat.le_of_ble_eq_true rfl) dL_law_1227 ⟨Nat.le_of_ble_eq_true rfl, Nat.le_of_ble_eq_true rfl, (by omega), (by omega)⟩ (fun v C2 hP2 => ?_) (fun _ _ h => h.elim)
  obtain ⟨rfl, rfl⟩ := hP2
  refine sw_st (st' := [.int (vAt σ w1 w2)]) rfl ?_
  refine sw_istore (pc := 1230) hc dL_law_1230 (by decide) (lv' := [(6, .int (vAt σ w1 w2)), (5, .int (kAt σ w1 w2)), (4, .int i), (3, .ref o), (2, .ref m0), (1, .ref (ad 0 0)), (0, .ref b)]) rfl ?_
  refine sw_aload_n (pc := 1232) hc dL_law_1232 rfl 4 rfl ?_
  refine sw_callV (pc := 1233) (rest := []) hc (c_X8_thrown l g C1 m0 q (fAt σ w1 w2) hN) md_X8_thrown ml_RL_98 im_X8_thrown sl_X8_thrown (mW_o hN) rfl rfl rfl (Nat.le_of_ble_eq_true rfl) dL_law_1233 ⟨Nat.le_of_ble_eq_true rfl, Nat.le_of_ble_eq_true rfl, (by omega), (by omega)⟩ (fun v C2 hP2 => ?_) (fun _ _ h => h.elim)
  obtain ⟨rfl, rfl⟩ := hP2
  refine sw_st (st' := [.int (kAt σ w1 w2)]) (by rw [q_At]; rfl) ?_
  refine sw_iload (pc := 1236) hc dL_law_1236 1 rfl ?_
  refine sw_icmp_eq (pc := 1238) (tgt := 1243) hc dL_law_1238 (by decide) (fun _ => ?_) (fun hz => absurd rfl hz)
  refine sw_iload (pc := 1243) hc dL_law_1243 1 rfl ?_
  refine sw_if_ne (pc := 1245) (tgt := 1260) hc dL_law_1245 (by decide) (fun _ => ?_) (fun hz => ?_)
  · skip
    refine sw_goto (pc := 1260) (tgt := 1579) hc dL_law_1260 (by decide) ?_
    refine sw_widen (k := cells + 24) (n := slots + 420) (by omega) (by omega) ?_
    refine sw_sub (ks := [2, 3, 4, 5, 6]) rfl ?_
    exact kk _ _ (hPO.nx hN hM hK)
  · skip
    refine sw_aload_n (pc := 1248) hc dL_law_1248 rfl 3 rfl ?_
    refine sw_iconst (pc := 1249) (v := 0) hc dL_law_1249 (by decide) ?_
    refine sw_lald (pc := 1250) (j := 0) hc (hPO.out hK) rfl (by decide) (by decide) dL_law_1250 ?_
    refine sw_st (st' := [.long ((vAt σ w1 w2).toInt64)]) (by rw [hv hz]) ?_
    refine sw_iload (pc := 1251) hc dL_law_1251 0 rfl ?_
    refine sw_i2l (pc := 1253) (v := (vAt σ w1 w2).toInt64) hc dL_law_1253 rfl ?_
    refine sw_lcmp (pc := 1254) hc dL_law_1254 ?_
    refine sw_if_eq (pc := 1255) (tgt := 1260) hc dL_law_1255 (by decide) (fun _ => ?_) (fun hz2 => absurd ((lg_cmp_eq _ _).mpr rfl) hz2)
    refine sw_goto (pc := 1260) (tgt := 1579) hc dL_law_1260 (by decide) ?_
    refine sw_widen (k := cells + 24) (n := slots + 420) (by omega) (by omega) ?_
    refine sw_sub (ks := [2, 3, 4, 5, 6]) rfl ?_
    exact kk _ _ (hPO.nx hN hM hK)
set_option maxHeartbeats 4000000 in
set_option maxRecDepth 100000 in
theorem k_L_placeWithout {p : Program} {l : Launch} {e : Env} {s : State} {m : MethodId} {below : List Frame} {meth : Method} {c : Code} {cells slots : Nat} {Q : State → Prop} {g : sg_G} {C : Nat → Option va_E} {b L x0 m0 o : Nat} {xs : Nat → Int32} {q : Nat → Nat} {σ : Mem} {i : Int32} {w1 : Int32} (hc : sg_Cx p s m #[.ref b] c cL_law 7 RL g) (hgs : g.2.2.1 = s.heap) (hX : va_X b L xs s s.heap) (hbl : b < s.heap.size) (hst : l.stackTraces = false) (hN : mN m0 q) (hI : LI g x0 m0 q o σ C) (h_w1 : AV L xs (i + 1) w1) (hcs : cells + 24 ≤ room_1.cells) (hsl : slots + 420 ≤ room_1.slots) (kk : ∀ τ C', LI g x0 m0 q o τ C' → sg_W p l e room_1 s m #[.ref b] below meth c 7 g (cells + 24) (slots + 420) Q C' 1579 [(4, .int i), (3, .ref o), (2, .ref m0), (1, .ref x0), (0, .ref b)] []) : sg_W p l e room_1 s m #[.ref b] below meth c 7 g cells slots Q C 1263 [(4, .int i), (3, .ref o), (2, .ref m0), (1, .ref x0), (0, .ref b)] [] := by
  obtain ⟨ad, own, gh, fo, hQ, hg, hW, rfl, hO, hOo, hM, hK⟩ := hI
  refine sw_aload_n (pc := 1263) hc dL_law_1263 rfl 3 rfl ?_
  refine sw_aload_n (pc := 1264) hc dL_law_1264 rfl 4 rfl ?_
  refine sw_iload (pc := 1265) hc dL_law_1265 0 rfl ?_
  refine sw_iconst (pc := 1267) (v := 1) hc dL_law_1267 (by decide) ?_
  refine sw_iadd (pc := 1268) hc dL_law_1268 ?_
  refine sw_sld (pc := 1269) hc hgs hX hbl h_w1 dL_law_1269 ?_
  refine sw_aload_n (pc := 1270) hc dL_law_1270 rfl 1 rfl ?_
  refine sw_callSX (pc := 1271) (rest := []) hc (c_L_placeWithout l g C ad own gh σ o fo w1 hQ hW hg hO hOo hst) mdh_L_placeWithout lk_RL_154 st_L_placeWithout rfl rfl (Nat.le_of_ble_eq_true rfl) dL_law_1271 ⟨Nat.le_of_ble_eq_true rfl, Nat.le_of_ble_eq_true rfl, (by omega), (by omega)⟩ (fun v C1 hP => ?_)
  obtain ⟨rfl, f', hPO, hv⟩ := hP
  refine sw_st (st' := [.int (kIn σ 26 w1)]) rfl ?_
  refine sw_istore (pc := 1274) hc dL_law_1274 (by decide) (lv' := [(5, .int (kIn σ 26 w1)), (4, .int i), (3, .ref o), (2, .ref m0), (1, .ref (ad 0 0)), (0, .ref b)]) rfl ?_
  refine sw_eq (C' := sg_ov C1 (mW g m0 q σ)) (hPO.mid hM hK) ?_
  refine sw_aload_n (pc := 1276) hc dL_law_1276 rfl 3 rfl ?_
  refine sw_aload_n (pc := 1277) hc dL_law_1277 rfl 5 rfl ?_
  refine sw_iload (pc := 1278) hc dL_law_1278 1 rfl ?_
  refine sw_iconst (pc := 1280) (v := 1) hc dL_law_1280 (by decide) ?_
  refine sw_iadd (pc := 1281) hc dL_law_1281 ?_
  refine sw_sld (pc := 1282) hc hgs hX hbl h_w1 dL_law_1282 ?_
  refine sw_callV (pc := 1283) (rest := []) hc (c_X8_placeWithout l g C1 m0 q σ w1 hN hW.1) md_X8_placeWithout ml_RL_156 im_X8_placeWithout sl_X8_placeWithout (mW_o hN) rfl rfl rfl (Nat.le_of_ble_eq_true rfl) dL_law_1283 ⟨Nat.le_of_ble_eq_true rfl, Nat.le_of_ble_eq_true rfl, (by omega), (by omega)⟩ (fun v C2 hP2 => ?_) (fun _ _ h => h.elim)
  obtain ⟨rfl, rfl⟩ := hP2
  refine sw_st (st' := [.int (vPlaceW σ w1)]) rfl ?_
  refine sw_istore (pc := 1286) hc dL_law_1286 (by decide) (lv' := [(6, .int (vPlaceW σ w1)), (5, .int (kIn σ 26 w1)), (4, .int i), (3, .ref o), (2, .ref m0), (1, .ref (ad 0 0)), (0, .ref b)]) rfl ?_
  refine sw_aload_n (pc := 1288) hc dL_law_1288 rfl 4 rfl ?_
  refine sw_callV (pc := 1289) (rest := []) hc (c_X8_thrown l g C1 m0 q (fIn σ 26 w1) hN) md_X8_thrown ml_RL_98 im_X8_thrown sl_X8_thrown (mW_o hN) rfl rfl rfl (Nat.le_of_ble_eq_true rfl) dL_law_1289 ⟨Nat.le_of_ble_eq_true rfl, Nat.le_of_ble_eq_true rfl, (by omega), (by omega)⟩ (fun v C2 hP2 => ?_) (fun _ _ h => h.elim)
  obtain ⟨rfl, rfl⟩ := hP2
  refine sw_st (st' := [.int (kIn σ 26 w1)]) (by rw [q_In]; rfl) ?_
  refine sw_iload (pc := 1292) hc dL_law_1292 1 rfl ?_
  refine sw_icmp_eq (pc := 1294) (tgt := 1299) hc dL_law_1294 (by decide) (fun _ => ?_) (fun hz => absurd rfl hz)
  refine sw_iload (pc := 1299) hc dL_law_1299 1 rfl ?_
  refine sw_if_ne (pc := 1301) (tgt := 1316) hc dL_law_1301 (by decide) (fun _ => ?_) (fun hz => ?_)
  · skip
    refine sw_goto (pc := 1316) (tgt := 1579) hc dL_law_1316 (by decide) ?_
    refine sw_widen (k := cells + 24) (n := slots + 420) (by omega) (by omega) ?_
    refine sw_sub (ks := [2, 3, 4, 5, 6]) rfl ?_
    exact kk _ _ (hPO.nx hN hM hK)
  · skip
    refine sw_aload_n (pc := 1304) hc dL_law_1304 rfl 3 rfl ?_
    refine sw_iconst (pc := 1305) (v := 0) hc dL_law_1305 (by decide) ?_
    refine sw_lald (pc := 1306) (j := 0) hc (hPO.out hK) rfl (by decide) (by decide) dL_law_1306 ?_
    refine sw_st (st' := [.long ((vPlaceW σ w1).toInt64)]) (by rw [hv hz]) ?_
    refine sw_iload (pc := 1307) hc dL_law_1307 0 rfl ?_
    refine sw_i2l (pc := 1309) (v := (vPlaceW σ w1).toInt64) hc dL_law_1309 rfl ?_
    refine sw_lcmp (pc := 1310) hc dL_law_1310 ?_
    refine sw_if_eq (pc := 1311) (tgt := 1316) hc dL_law_1311 (by decide) (fun _ => ?_) (fun hz2 => absurd ((lg_cmp_eq _ _).mpr rfl) hz2)
    refine sw_goto (pc := 1316) (tgt := 1579) hc dL_law_1316 (by decide) ?_
    refine sw_widen (k := cells + 24) (n := slots + 420) (by omega) (by omega) ?_
    refine sw_sub (ks := [2, 3, 4, 5, 6]) rfl ?_
    exact kk _ _ (hPO.nx hN hM hK)
set_option maxHeartbeats 4000000 in
set_option maxRecDepth 100000 in
theorem k_L_estimate {p : Program} {l : Launch} {e : Env} {s : State} {m : MethodId} {below : List Frame} {meth : Method} {c : Code} {cells slots : Nat} {Q : State → Prop} {g : sg_G} {C : Nat → Option va_E} {b L x0 m0 o : Nat} {xs : Nat → Int32} {q : Nat → Nat} {σ : Mem} {i : Int32} {w1 w2 : Int32} (hc : sg_Cx p s m #[.ref b] c cL_law 7 RL g) (hgs : g.2.2.1 = s.heap) (hX : va_X b L xs s s.heap) (hbl : b < s.heap.size) (hst : l.stackTraces = false) (hN : mN m0 q) (hI : LI g x0 m0 q o σ C) (h_w1 : AV L xs (i + 1) w1) (h_w2 : AV L xs (i + 2) w2) (hcs : cells + 24 ≤ room_1.cells) (hsl : slots + 420 ≤ room_1.slots) (kk : ∀ τ C', LI g x0 m0 q o τ C' → sg_W p l e room_1 s m #[.ref b] below meth c 7 g (cells + 24) (slots + 420) Q C' 1579 [(4, .int i), (3, .ref o), (2, .ref m0), (1, .ref x0), (0, .ref b)] []) : sg_W p l e room_1 s m #[.ref b] below meth c 7 g cells slots Q C 1319 [(4, .int i), (3, .ref o), (2, .ref m0), (1, .ref x0), (0, .ref b)] [] := by
  obtain ⟨ad, own, gh, fo, hQ, hg, hW, rfl, hO, hOo, hM, hK⟩ := hI
  refine sw_aload_n (pc := 1319) hc dL_law_1319 rfl 3 rfl ?_
  refine sw_aload_n (pc := 1320) hc dL_law_1320 rfl 4 rfl ?_
  refine sw_iload (pc := 1321) hc dL_law_1321 0 rfl ?_
  refine sw_iconst (pc := 1323) (v := 1) hc dL_law_1323 (by decide) ?_
  refine sw_iadd (pc := 1324) hc dL_law_1324 ?_
  refine sw_sld (pc := 1325) hc hgs hX hbl h_w1 dL_law_1325 ?_
  refine sw_aload_n (pc := 1326) hc dL_law_1326 rfl 4 rfl ?_
  refine sw_iload (pc := 1327) hc dL_law_1327 0 rfl ?_
  refine sw_iconst (pc := 1329) (v := 2) hc dL_law_1329 (by decide) ?_
  refine sw_iadd (pc := 1330) hc dL_law_1330 ?_
  refine sw_sld (pc := 1331) hc hgs hX hbl h_w2 dL_law_1331 ?_
  refine sw_aload_n (pc := 1332) hc dL_law_1332 rfl 1 rfl ?_
  refine sw_callSX (pc := 1333) (rest := []) hc (c_L_estimate l g C ad own gh σ o fo w1 w2 hQ hW hg hO hOo hst) mdh_L_estimate lk_RL_157 st_L_estimate rfl rfl (Nat.le_of_ble_eq_true rfl) dL_law_1333 ⟨Nat.le_of_ble_eq_true rfl, Nat.le_of_ble_eq_true rfl, (by omega), (by omega)⟩ (fun v C1 hP => ?_)
  obtain ⟨rfl, f', hPO, hv⟩ := hP
  refine sw_st (st' := [.int (kPair σ w1 w2)]) rfl ?_
  refine sw_istore (pc := 1336) hc dL_law_1336 (by decide) (lv' := [(5, .int (kPair σ w1 w2)), (4, .int i), (3, .ref o), (2, .ref m0), (1, .ref (ad 0 0)), (0, .ref b)]) rfl ?_
  refine sw_eq (C' := sg_ov C1 (mW g m0 q σ)) (hPO.mid hM hK) ?_
  refine sw_aload_n (pc := 1338) hc dL_law_1338 rfl 3 rfl ?_
  refine sw_aload_n (pc := 1339) hc dL_law_1339 rfl 5 rfl ?_
  refine sw_iload (pc := 1340) hc dL_law_1340 1 rfl ?_
  refine sw_iconst (pc := 1342) (v := 1) hc dL_law_1342 (by decide) ?_
  refine sw_iadd (pc := 1343) hc dL_law_1343 ?_
  refine sw_sld (pc := 1344) hc hgs hX hbl h_w1 dL_law_1344 ?_
  refine sw_aload_n (pc := 1345) hc dL_law_1345 rfl 5 rfl ?_
  refine sw_iload (pc := 1346) hc dL_law_1346 1 rfl ?_
  refine sw_iconst (pc := 1348) (v := 2) hc dL_law_1348 (by decide) ?_
  refine sw_iadd (pc := 1349) hc dL_law_1349 ?_
  refine sw_sld (pc := 1350) hc hgs hX hbl h_w2 dL_law_1350 ?_
  refine sw_callV (pc := 1351) (rest := []) hc (c_X8_estimate l g C1 m0 q σ w1 w2 hN hW.1) md_X8_estimate ml_RL_159 im_X8_estimate sl_X8_estimate (mW_o hN) rfl rfl rfl (Nat.le_of_ble_eq_true rfl) dL_law_1351 ⟨Nat.le_of_ble_eq_true rfl, Nat.le_of_ble_eq_true rfl, (by omega), (by omega)⟩ (fun v C2 hP2 => ?_) (fun _ _ h => h.elim)
  obtain ⟨rfl, rfl⟩ := hP2
  refine sw_st (st' := [.int (vEst σ w1 w2)]) rfl ?_
  refine sw_istore (pc := 1354) hc dL_law_1354 (by decide) (lv' := [(6, .int (vEst σ w1 w2)), (5, .int (kPair σ w1 w2)), (4, .int i), (3, .ref o), (2, .ref m0), (1, .ref (ad 0 0)), (0, .ref b)]) rfl ?_
  refine sw_aload_n (pc := 1356) hc dL_law_1356 rfl 4 rfl ?_
  refine sw_callV (pc := 1357) (rest := []) hc (c_X8_thrown l g C1 m0 q (fPair σ w1 w2) hN) md_X8_thrown ml_RL_98 im_X8_thrown sl_X8_thrown (mW_o hN) rfl rfl rfl (Nat.le_of_ble_eq_true rfl) dL_law_1357 ⟨Nat.le_of_ble_eq_true rfl, Nat.le_of_ble_eq_true rfl, (by omega), (by omega)⟩ (fun v C2 hP2 => ?_) (fun _ _ h => h.elim)
  obtain ⟨rfl, rfl⟩ := hP2
  refine sw_st (st' := [.int (kPair σ w1 w2)]) (by rw [q_Pair]; rfl) ?_
  refine sw_iload (pc := 1360) hc dL_law_1360 1 rfl ?_
  refine sw_icmp_eq (pc := 1362) (tgt := 1367) hc dL_law_1362 (by decide) (fun _ => ?_) (fun hz => absurd rfl hz)
  refine sw_iload (pc := 1367) hc dL_law_1367 1 rfl ?_
  refine sw_if_ne (pc := 1369) (tgt := 1384) hc dL_law_1369 (by decide) (fun _ => ?_) (fun hz => ?_)
  · skip
    refine sw_goto (pc := 1384) (tgt := 1579) hc dL_law_1384 (by decide) ?_
    refine sw_widen (k := cells + 24) (n := slots + 420) (by omega) (by omega) ?_
    refine sw_sub (ks := [2, 3, 4, 5, 6]) rfl ?_
    exact kk _ _ (hPO.nx hN hM hK)
  · skip
    refine sw_aload_n (pc := 1372) hc dL_law_1372 rfl 3 rfl ?_
    refine sw_iconst (pc := 1373) (v := 0) hc dL_law_1373 (by decide) ?_
    refine sw_lald (pc := 1374) (j := 0) hc (hPO.out hK) rfl (by decide) (by decide) dL_law_1374 ?_
    refine sw_st (st' := [.long ((vEst σ w1 w2).toInt64)]) (by rw [hv hz]) ?_
    refine sw_iload (pc := 1375) hc dL_law_1375 0 rfl ?_
    refine sw_i2l (pc := 1377) (v := (vEst σ w1 w2).toInt64) hc dL_law_1377 rfl ?_
    refine sw_lcmp (pc := 1378) hc dL_law_1378 ?_
    refine sw_if_eq (pc := 1379) (tgt := 1384) hc dL_law_1379 (by decide) (fun _ => ?_) (fun hz2 => absurd ((lg_cmp_eq _ _).mpr rfl) hz2)
    refine sw_goto (pc := 1384) (tgt := 1579) hc dL_law_1384 (by decide) ?_
    refine sw_widen (k := cells + 24) (n := slots + 420) (by omega) (by omega) ?_
    refine sw_sub (ks := [2, 3, 4, 5, 6]) rfl ?_
    exact kk _ _ (hPO.nx hN hM hK)
set_option maxHeartbeats 4000000 in
set_option maxRecDepth 100000 in
theorem k_L_offer {p : Program} {l : Launch} {e : Env} {s : State} {m : MethodId} {below : List Frame} {meth : Method} {c : Code} {cells slots : Nat} {Q : State → Prop} {g : sg_G} {C : Nat → Option va_E} {b L x0 m0 o : Nat} {xs : Nat → Int32} {q : Nat → Nat} {σ : Mem} {i : Int32} {w1 w2 : Int32} (hc : sg_Cx p s m #[.ref b] c cL_law 7 RL g) (hgs : g.2.2.1 = s.heap) (hX : va_X b L xs s s.heap) (hbl : b < s.heap.size) (hst : l.stackTraces = false) (hN : mN m0 q) (hI : LI g x0 m0 q o σ C) (h_w1 : AV L xs (i + 1) w1) (h_w2 : AV L xs (i + 2) w2) (hcs : cells + 24 ≤ room_1.cells) (hsl : slots + 420 ≤ room_1.slots) (kk : ∀ τ C', LI g x0 m0 q o τ C' → sg_W p l e room_1 s m #[.ref b] below meth c 7 g (cells + 24) (slots + 420) Q C' 1579 [(4, .int i), (3, .ref o), (2, .ref m0), (1, .ref x0), (0, .ref b)] []) : sg_W p l e room_1 s m #[.ref b] below meth c 7 g cells slots Q C 1387 [(4, .int i), (3, .ref o), (2, .ref m0), (1, .ref x0), (0, .ref b)] [] := by
  obtain ⟨ad, own, gh, fo, hQ, hg, hW, rfl, hO, hOo, hM, hK⟩ := hI
  refine sw_aload_n (pc := 1387) hc dL_law_1387 rfl 3 rfl ?_
  refine sw_aload_n (pc := 1388) hc dL_law_1388 rfl 4 rfl ?_
  refine sw_iload (pc := 1389) hc dL_law_1389 0 rfl ?_
  refine sw_iconst (pc := 1391) (v := 1) hc dL_law_1391 (by decide) ?_
  refine sw_iadd (pc := 1392) hc dL_law_1392 ?_
  refine sw_sld (pc := 1393) hc hgs hX hbl h_w1 dL_law_1393 ?_
  refine sw_aload_n (pc := 1394) hc dL_law_1394 rfl 4 rfl ?_
  refine sw_iload (pc := 1395) hc dL_law_1395 0 rfl ?_
  refine sw_iconst (pc := 1397) (v := 2) hc dL_law_1397 (by decide) ?_
  refine sw_iadd (pc := 1398) hc dL_law_1398 ?_
  refine sw_sld (pc := 1399) hc hgs hX hbl h_w2 dL_law_1399 ?_
  refine sw_aload_n (pc := 1400) hc dL_law_1400 rfl 1 rfl ?_
  refine sw_callSX (pc := 1401) (rest := []) hc (c_L_offer l g C ad own gh σ o fo w1 w2 hQ hW hg hO hOo hst) mdh_L_offer lk_RL_160 st_L_offer rfl rfl (Nat.le_of_ble_eq_true rfl) dL_law_1401 ⟨Nat.le_of_ble_eq_true rfl, Nat.le_of_ble_eq_true rfl, (by omega), (by omega)⟩ (fun v C1 hP => ?_)
  obtain ⟨rfl, f', hPO, hv⟩ := hP
  refine sw_st (st' := [.int (kOffer σ w1 w2)]) rfl ?_
  refine sw_istore (pc := 1404) hc dL_law_1404 (by decide) (lv' := [(5, .int (kOffer σ w1 w2)), (4, .int i), (3, .ref o), (2, .ref m0), (1, .ref (ad 0 0)), (0, .ref b)]) rfl ?_
  refine sw_eq (C' := sg_ov C1 (mW g m0 q σ)) (hPO.mid hM hK) ?_
  refine sw_aload_n (pc := 1406) hc dL_law_1406 rfl 3 rfl ?_
  refine sw_aload_n (pc := 1407) hc dL_law_1407 rfl 5 rfl ?_
  refine sw_iload (pc := 1408) hc dL_law_1408 1 rfl ?_
  refine sw_iconst (pc := 1410) (v := 1) hc dL_law_1410 (by decide) ?_
  refine sw_iadd (pc := 1411) hc dL_law_1411 ?_
  refine sw_sld (pc := 1412) hc hgs hX hbl h_w1 dL_law_1412 ?_
  refine sw_aload_n (pc := 1413) hc dL_law_1413 rfl 5 rfl ?_
  refine sw_iload (pc := 1414) hc dL_law_1414 1 rfl ?_
  refine sw_iconst (pc := 1416) (v := 2) hc dL_law_1416 (by decide) ?_
  refine sw_iadd (pc := 1417) hc dL_law_1417 ?_
  refine sw_sld (pc := 1418) hc hgs hX hbl h_w2 dL_law_1418 ?_
  refine sw_callV (pc := 1419) (rest := []) hc (c_X8_offer l g C1 m0 q σ w1 w2 hN hW.1) md_X8_offer ml_RL_162 im_X8_offer sl_X8_offer (mW_o hN) rfl rfl rfl (Nat.le_of_ble_eq_true rfl) dL_law_1419 ⟨Nat.le_of_ble_eq_true rfl, Nat.le_of_ble_eq_true rfl, (by omega), (by omega)⟩ (fun v C2 hP2 => ?_) (fun _ _ h => h.elim)
  obtain ⟨rfl, rfl⟩ := hP2
  refine sw_st (st' := [.int (vOffer σ w1 w2)]) rfl ?_
  refine sw_istore (pc := 1422) hc dL_law_1422 (by decide) (lv' := [(6, .int (vOffer σ w1 w2)), (5, .int (kOffer σ w1 w2)), (4, .int i), (3, .ref o), (2, .ref m0), (1, .ref (ad 0 0)), (0, .ref b)]) rfl ?_
  refine sw_aload_n (pc := 1424) hc dL_law_1424 rfl 4 rfl ?_
  refine sw_callV (pc := 1425) (rest := []) hc (c_X8_thrown l g C1 m0 q (fOffer σ w1 w2) hN) md_X8_thrown ml_RL_98 im_X8_thrown sl_X8_thrown (mW_o hN) rfl rfl rfl (Nat.le_of_ble_eq_true rfl) dL_law_1425 ⟨Nat.le_of_ble_eq_true rfl, Nat.le_of_ble_eq_true rfl, (by omega), (by omega)⟩ (fun v C2 hP2 => ?_) (fun _ _ h => h.elim)
  obtain ⟨rfl, rfl⟩ := hP2
  refine sw_st (st' := [.int (kOffer σ w1 w2)]) (by rw [q_Offer]; rfl) ?_
  refine sw_iload (pc := 1428) hc dL_law_1428 1 rfl ?_
  refine sw_icmp_eq (pc := 1430) (tgt := 1435) hc dL_law_1430 (by decide) (fun _ => ?_) (fun hz => absurd rfl hz)
  refine sw_iload (pc := 1435) hc dL_law_1435 1 rfl ?_
  refine sw_if_ne (pc := 1437) (tgt := 1452) hc dL_law_1437 (by decide) (fun _ => ?_) (fun hz => ?_)
  · skip
    refine sw_goto (pc := 1452) (tgt := 1579) hc dL_law_1452 (by decide) ?_
    refine sw_widen (k := cells + 24) (n := slots + 420) (by omega) (by omega) ?_
    refine sw_sub (ks := [2, 3, 4, 5, 6]) rfl ?_
    exact kk _ _ (hPO.nx hN hM hK)
  · skip
    refine sw_aload_n (pc := 1440) hc dL_law_1440 rfl 3 rfl ?_
    refine sw_iconst (pc := 1441) (v := 0) hc dL_law_1441 (by decide) ?_
    refine sw_lald (pc := 1442) (j := 0) hc (hPO.out hK) rfl (by decide) (by decide) dL_law_1442 ?_
    refine sw_st (st' := [.long ((vOffer σ w1 w2).toInt64)]) (by rw [hv hz]) ?_
    refine sw_iload (pc := 1443) hc dL_law_1443 0 rfl ?_
    refine sw_i2l (pc := 1445) (v := (vOffer σ w1 w2).toInt64) hc dL_law_1445 rfl ?_
    refine sw_lcmp (pc := 1446) hc dL_law_1446 ?_
    refine sw_if_eq (pc := 1447) (tgt := 1452) hc dL_law_1447 (by decide) (fun _ => ?_) (fun hz2 => absurd ((lg_cmp_eq _ _).mpr rfl) hz2)
    refine sw_goto (pc := 1452) (tgt := 1579) hc dL_law_1452 (by decide) ?_
    refine sw_widen (k := cells + 24) (n := slots + 420) (by omega) (by omega) ?_
    refine sw_sub (ks := [2, 3, 4, 5, 6]) rfl ?_
    exact kk _ _ (hPO.nx hN hM hK)
set_option maxHeartbeats 4000000 in
set_option maxRecDepth 100000 in
theorem k_L_gift {p : Program} {l : Launch} {e : Env} {s : State} {m : MethodId} {below : List Frame} {meth : Method} {c : Code} {cells slots : Nat} {Q : State → Prop} {g : sg_G} {C : Nat → Option va_E} {b L x0 m0 o : Nat} {xs : Nat → Int32} {q : Nat → Nat} {σ : Mem} {i : Int32} {w1 w2 : Int32} (hc : sg_Cx p s m #[.ref b] c cL_law 7 RL g) (hgs : g.2.2.1 = s.heap) (hX : va_X b L xs s s.heap) (hbl : b < s.heap.size) (hst : l.stackTraces = false) (hN : mN m0 q) (hI : LI g x0 m0 q o σ C) (h_w1 : AV L xs (i + 1) w1) (h_w2 : AV L xs (i + 2) w2) (hcs : cells + 24 ≤ room_1.cells) (hsl : slots + 420 ≤ room_1.slots) (kk : ∀ τ C', LI g x0 m0 q o τ C' → sg_W p l e room_1 s m #[.ref b] below meth c 7 g (cells + 24) (slots + 420) Q C' 1579 [(4, .int i), (3, .ref o), (2, .ref m0), (1, .ref x0), (0, .ref b)] []) : sg_W p l e room_1 s m #[.ref b] below meth c 7 g cells slots Q C 1455 [(4, .int i), (3, .ref o), (2, .ref m0), (1, .ref x0), (0, .ref b)] [] := by
  obtain ⟨ad, own, gh, fo, hQ, hg, hW, rfl, hO, hOo, hM, hK⟩ := hI
  refine sw_aload_n (pc := 1455) hc dL_law_1455 rfl 3 rfl ?_
  refine sw_aload_n (pc := 1456) hc dL_law_1456 rfl 4 rfl ?_
  refine sw_iload (pc := 1457) hc dL_law_1457 0 rfl ?_
  refine sw_iconst (pc := 1459) (v := 1) hc dL_law_1459 (by decide) ?_
  refine sw_iadd (pc := 1460) hc dL_law_1460 ?_
  refine sw_sld (pc := 1461) hc hgs hX hbl h_w1 dL_law_1461 ?_
  refine sw_aload_n (pc := 1462) hc dL_law_1462 rfl 4 rfl ?_
  refine sw_iload (pc := 1463) hc dL_law_1463 0 rfl ?_
  refine sw_iconst (pc := 1465) (v := 2) hc dL_law_1465 (by decide) ?_
  refine sw_iadd (pc := 1466) hc dL_law_1466 ?_
  refine sw_sld (pc := 1467) hc hgs hX hbl h_w2 dL_law_1467 ?_
  refine sw_aload_n (pc := 1468) hc dL_law_1468 rfl 1 rfl ?_
  refine sw_callSX (pc := 1469) (rest := []) hc (c_L_gift l g C ad own gh σ o fo w1 w2 hQ hW hg hO hOo hst) mdh_L_gift lk_RL_163 st_L_gift rfl rfl (Nat.le_of_ble_eq_true rfl) dL_law_1469 ⟨Nat.le_of_ble_eq_true rfl, Nat.le_of_ble_eq_true rfl, (by omega), (by omega)⟩ (fun v C1 hP => ?_)
  obtain ⟨rfl, f', hPO, hv⟩ := hP
  refine sw_st (st' := [.int (kGift σ w1 w2)]) rfl ?_
  refine sw_istore (pc := 1472) hc dL_law_1472 (by decide) (lv' := [(5, .int (kGift σ w1 w2)), (4, .int i), (3, .ref o), (2, .ref m0), (1, .ref (ad 0 0)), (0, .ref b)]) rfl ?_
  refine sw_eq (C' := sg_ov C1 (mW g m0 q σ)) (hPO.mid hM hK) ?_
  refine sw_aload_n (pc := 1474) hc dL_law_1474 rfl 3 rfl ?_
  refine sw_aload_n (pc := 1475) hc dL_law_1475 rfl 5 rfl ?_
  refine sw_iload (pc := 1476) hc dL_law_1476 1 rfl ?_
  refine sw_iconst (pc := 1478) (v := 1) hc dL_law_1478 (by decide) ?_
  refine sw_iadd (pc := 1479) hc dL_law_1479 ?_
  refine sw_sld (pc := 1480) hc hgs hX hbl h_w1 dL_law_1480 ?_
  refine sw_aload_n (pc := 1481) hc dL_law_1481 rfl 5 rfl ?_
  refine sw_iload (pc := 1482) hc dL_law_1482 1 rfl ?_
  refine sw_iconst (pc := 1484) (v := 2) hc dL_law_1484 (by decide) ?_
  refine sw_iadd (pc := 1485) hc dL_law_1485 ?_
  refine sw_sld (pc := 1486) hc hgs hX hbl h_w2 dL_law_1486 ?_
  refine sw_callV (pc := 1487) (rest := []) hc (c_X8_gift l g C1 m0 q σ w1 w2 hN hW.1) md_X8_gift ml_RL_165 im_X8_gift sl_X8_gift (mW_o hN) rfl rfl rfl (Nat.le_of_ble_eq_true rfl) dL_law_1487 ⟨Nat.le_of_ble_eq_true rfl, Nat.le_of_ble_eq_true rfl, (by omega), (by omega)⟩ (fun v C2 hP2 => ?_) (fun _ _ h => h.elim)
  obtain ⟨rfl, rfl⟩ := hP2
  refine sw_st (st' := [.int (vGift σ w1 w2)]) rfl ?_
  refine sw_istore (pc := 1490) hc dL_law_1490 (by decide) (lv' := [(6, .int (vGift σ w1 w2)), (5, .int (kGift σ w1 w2)), (4, .int i), (3, .ref o), (2, .ref m0), (1, .ref (ad 0 0)), (0, .ref b)]) rfl ?_
  refine sw_aload_n (pc := 1492) hc dL_law_1492 rfl 4 rfl ?_
  refine sw_callV (pc := 1493) (rest := []) hc (c_X8_thrown l g C1 m0 q (fGift σ w1 w2) hN) md_X8_thrown ml_RL_98 im_X8_thrown sl_X8_thrown (mW_o hN) rfl rfl rfl (Nat.le_of_ble_eq_true rfl) dL_law_1493 ⟨Nat.le_of_ble_eq_true rfl, Nat.le_of_ble_eq_true rfl, (by omega), (by omega)⟩ (fun v C2 hP2 => ?_) (fun _ _ h => h.elim)
  obtain ⟨rfl, rfl⟩ := hP2
  refine sw_st (st' := [.int (kGift σ w1 w2)]) (by rw [q_Gift]; rfl) ?_
  refine sw_iload (pc := 1496) hc dL_law_1496 1 rfl ?_
  refine sw_icmp_eq (pc := 1498) (tgt := 1503) hc dL_law_1498 (by decide) (fun _ => ?_) (fun hz => absurd rfl hz)
  refine sw_iload (pc := 1503) hc dL_law_1503 1 rfl ?_
  refine sw_if_ne (pc := 1505) (tgt := 1520) hc dL_law_1505 (by decide) (fun _ => ?_) (fun hz => ?_)
  · skip
    refine sw_goto (pc := 1520) (tgt := 1579) hc dL_law_1520 (by decide) ?_
    refine sw_widen (k := cells + 24) (n := slots + 420) (by omega) (by omega) ?_
    refine sw_sub (ks := [2, 3, 4, 5, 6]) rfl ?_
    exact kk _ _ (hPO.nx hN hM hK)
  · skip
    refine sw_aload_n (pc := 1508) hc dL_law_1508 rfl 3 rfl ?_
    refine sw_iconst (pc := 1509) (v := 0) hc dL_law_1509 (by decide) ?_
    refine sw_lald (pc := 1510) (j := 0) hc (hPO.out hK) rfl (by decide) (by decide) dL_law_1510 ?_
    refine sw_st (st' := [.long ((vGift σ w1 w2).toInt64)]) (by rw [hv hz]) ?_
    refine sw_iload (pc := 1511) hc dL_law_1511 0 rfl ?_
    refine sw_i2l (pc := 1513) (v := (vGift σ w1 w2).toInt64) hc dL_law_1513 rfl ?_
    refine sw_lcmp (pc := 1514) hc dL_law_1514 ?_
    refine sw_if_eq (pc := 1515) (tgt := 1520) hc dL_law_1515 (by decide) (fun _ => ?_) (fun hz2 => absurd ((lg_cmp_eq _ _).mpr rfl) hz2)
    refine sw_goto (pc := 1520) (tgt := 1579) hc dL_law_1520 (by decide) ?_
    refine sw_widen (k := cells + 24) (n := slots + 420) (by omega) (by omega) ?_
    refine sw_sub (ks := [2, 3, 4, 5, 6]) rfl ?_
    exact kk _ _ (hPO.nx hN hM hK)
set_option maxHeartbeats 4000000 in
set_option maxRecDepth 100000 in
theorem k_L_plan {p : Program} {l : Launch} {e : Env} {s : State} {m : MethodId} {below : List Frame} {meth : Method} {c : Code} {cells slots : Nat} {Q : State → Prop} {g : sg_G} {C : Nat → Option va_E} {b L x0 m0 o : Nat} {xs : Nat → Int32} {q : Nat → Nat} {σ : Mem} {i : Int32} {w1 : Int32} (hc : sg_Cx p s m #[.ref b] c cL_law 7 RL g) (hgs : g.2.2.1 = s.heap) (hX : va_X b L xs s s.heap) (hbl : b < s.heap.size) (hst : l.stackTraces = false) (hN : mN m0 q) (hI : LI g x0 m0 q o σ C) (h_w1 : AV L xs (i + 1) w1) (hcs : cells + 24 ≤ room_1.cells) (hsl : slots + 420 ≤ room_1.slots) (kk : ∀ τ C', LI g x0 m0 q o τ C' → sg_W p l e room_1 s m #[.ref b] below meth c 7 g (cells + 24) (slots + 420) Q C' 1579 [(4, .int i), (3, .ref o), (2, .ref m0), (1, .ref x0), (0, .ref b)] []) : sg_W p l e room_1 s m #[.ref b] below meth c 7 g cells slots Q C 1523 [(4, .int i), (3, .ref o), (2, .ref m0), (1, .ref x0), (0, .ref b)] [] := by
  obtain ⟨ad, own, gh, fo, hQ, hg, hW, rfl, hO, hOo, hM, hK⟩ := hI
  refine sw_aload_n (pc := 1523) hc dL_law_1523 rfl 3 rfl ?_
  refine sw_aload_n (pc := 1524) hc dL_law_1524 rfl 4 rfl ?_
  refine sw_iload (pc := 1525) hc dL_law_1525 0 rfl ?_
  refine sw_iconst (pc := 1527) (v := 1) hc dL_law_1527 (by decide) ?_
  refine sw_iadd (pc := 1528) hc dL_law_1528 ?_
  refine sw_sld (pc := 1529) hc hgs hX hbl h_w1 dL_law_1529 ?_
  refine sw_aload_n (pc := 1530) hc dL_law_1530 rfl 1 rfl ?_
  refine sw_callSX (pc := 1531) (rest := []) hc (c_L_plan l g C ad own gh σ o fo w1 hQ hW hg hO hOo hst) mdh_L_plan lk_RL_166 st_L_plan rfl rfl (Nat.le_of_ble_eq_true rfl) dL_law_1531 ⟨Nat.le_of_ble_eq_true rfl, Nat.le_of_ble_eq_true rfl, (by omega), (by omega)⟩ (fun v C1 hP => ?_)
  obtain ⟨rfl, f', hPO, hv⟩ := hP
  refine sw_st (st' := [.int (kPlan w1)]) rfl ?_
  refine sw_istore (pc := 1534) hc dL_law_1534 (by decide) (lv' := [(5, .int (kPlan w1)), (4, .int i), (3, .ref o), (2, .ref m0), (1, .ref (ad 0 0)), (0, .ref b)]) rfl ?_
  refine sw_eq (C' := sg_ov C1 (mW g m0 q σ)) (hPO.mid hM hK) ?_
  refine sw_aload_n (pc := 1536) hc dL_law_1536 rfl 3 rfl ?_
  refine sw_aload_n (pc := 1537) hc dL_law_1537 rfl 5 rfl ?_
  refine sw_iload (pc := 1538) hc dL_law_1538 1 rfl ?_
  refine sw_iconst (pc := 1540) (v := 1) hc dL_law_1540 (by decide) ?_
  refine sw_iadd (pc := 1541) hc dL_law_1541 ?_
  refine sw_sld (pc := 1542) hc hgs hX hbl h_w1 dL_law_1542 ?_
  refine sw_callV (pc := 1543) (rest := []) hc (c_X8_plan l g C1 m0 q σ w1 hN hW.1) md_X8_plan ml_RL_168 im_X8_plan sl_X8_plan (mW_o hN) rfl rfl rfl (Nat.le_of_ble_eq_true rfl) dL_law_1543 ⟨Nat.le_of_ble_eq_true rfl, Nat.le_of_ble_eq_true rfl, (by omega), (by omega)⟩ (fun v C2 hP2 => ?_) (fun _ _ h => h.elim)
  obtain ⟨rfl, rfl⟩ := hP2
  refine sw_st (st' := [.int (vPlan σ w1)]) rfl ?_
  refine sw_istore (pc := 1546) hc dL_law_1546 (by decide) (lv' := [(6, .int (vPlan σ w1)), (5, .int (kPlan w1)), (4, .int i), (3, .ref o), (2, .ref m0), (1, .ref (ad 0 0)), (0, .ref b)]) rfl ?_
  refine sw_aload_n (pc := 1548) hc dL_law_1548 rfl 4 rfl ?_
  refine sw_callV (pc := 1549) (rest := []) hc (c_X8_thrown l g C1 m0 q (fPlan σ w1) hN) md_X8_thrown ml_RL_98 im_X8_thrown sl_X8_thrown (mW_o hN) rfl rfl rfl (Nat.le_of_ble_eq_true rfl) dL_law_1549 ⟨Nat.le_of_ble_eq_true rfl, Nat.le_of_ble_eq_true rfl, (by omega), (by omega)⟩ (fun v C2 hP2 => ?_) (fun _ _ h => h.elim)
  obtain ⟨rfl, rfl⟩ := hP2
  refine sw_st (st' := [.int (kPlan w1)]) (by rw [q_Plan]; rfl) ?_
  refine sw_iload (pc := 1552) hc dL_law_1552 1 rfl ?_
  refine sw_icmp_eq (pc := 1554) (tgt := 1559) hc dL_law_1554 (by decide) (fun _ => ?_) (fun hz => absurd rfl hz)
  refine sw_iload (pc := 1559) hc dL_law_1559 1 rfl ?_
  refine sw_if_ne (pc := 1561) (tgt := 1576) hc dL_law_1561 (by decide) (fun _ => ?_) (fun hz => ?_)
  · skip
    refine sw_goto (pc := 1576) (tgt := 1579) hc dL_law_1576 (by decide) ?_
    refine sw_widen (k := cells + 24) (n := slots + 420) (by omega) (by omega) ?_
    refine sw_sub (ks := [2, 3, 4, 5, 6]) rfl ?_
    exact kk _ _ (hPO.nx hN hM hK)
  · skip
    refine sw_aload_n (pc := 1564) hc dL_law_1564 rfl 3 rfl ?_
    refine sw_iconst (pc := 1565) (v := 0) hc dL_law_1565 (by decide) ?_
    refine sw_lald (pc := 1566) (j := 0) hc (hPO.out hK) rfl (by decide) (by decide) dL_law_1566 ?_
    refine sw_st (st' := [.long ((vPlan σ w1).toInt64)]) (by rw [hv hz]) ?_
    refine sw_iload (pc := 1567) hc dL_law_1567 0 rfl ?_
    refine sw_i2l (pc := 1569) (v := (vPlan σ w1).toInt64) hc dL_law_1569 rfl ?_
    refine sw_lcmp (pc := 1570) hc dL_law_1570 ?_
    refine sw_if_eq (pc := 1571) (tgt := 1576) hc dL_law_1571 (by decide) (fun _ => ?_) (fun hz2 => absurd ((lg_cmp_eq _ _).mpr rfl) hz2)
    refine sw_goto (pc := 1576) (tgt := 1579) hc dL_law_1576 (by decide) ?_
    refine sw_widen (k := cells + 24) (n := slots + 420) (by omega) (by omega) ?_
    refine sw_sub (ks := [2, 3, 4, 5, 6]) rfl ?_
    exact kk _ _ (hPO.nx hN hM hK)
