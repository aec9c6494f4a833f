theorem dL_cell_0 : decode cL_cell 0 = .ok (.iload_n 1, 1) := by decide +kernel
theorem dL_cell_1 : decode cL_cell 1 = .ok (.aload_n 0, 1) := by decide +kernel
theorem dL_cell_2 : decode cL_cell 2 = .ok (.arraylength, 1) := by decide +kernel
theorem dL_cell_3 : decode cL_cell 3 = .ok (.if_icmp .ge 9, 3) := by decide +kernel
theorem dL_cell_6 : decode cL_cell 6 = .ok (.aload_n 0, 1) := by decide +kernel
theorem dL_cell_7 : decode cL_cell 7 = .ok (.iload_n 1, 1) := by decide +kernel
theorem dL_cell_8 : decode cL_cell 8 = .ok (.iaload, 1) := by decide +kernel
theorem dL_cell_9 : decode cL_cell 9 = .ok (.goto 11, 3) := by decide +kernel
theorem dL_cell_12 : decode cL_cell 12 = .ok (.ldc 7, 2) := by decide +kernel
theorem dL_cell_14 : decode cL_cell 14 = .ok (.iload_n 1, 1) := by decide +kernel
theorem dL_cell_15 : decode cL_cell 15 = .ok (.imul, 1) := by decide +kernel
theorem dL_cell_16 : decode cL_cell 16 = .ok (.sipush 1571, 3) := by decide +kernel
theorem dL_cell_19 : decode cL_cell 19 = .ok (.iadd, 1) := by decide +kernel
theorem dL_cell_20 : decode cL_cell 20 = .ok (.ireturn, 1) := by decide +kernel
theorem dL_low_0 : decode cL_low 0 = .ok (.iload_n 0, 1) := by decide +kernel
theorem dL_low_1 : decode cL_low 1 = .ok (.ldc 8, 2) := by decide +kernel
theorem dL_low_3 : decode cL_low 3 = .ok (.iand, 1) := by decide +kernel
theorem dL_low_4 : decode cL_low 4 = .ok (.iload_n 1, 1) := by decide +kernel
theorem dL_low_5 : decode cL_low 5 = .ok (.irem, 1) := by decide +kernel
theorem dL_low_6 : decode cL_low 6 = .ok (.ireturn, 1) := by decide +kernel
theorem dL_input_0 : decode cL_input 0 = .ok (.aload_n 0, 1) := by decide +kernel
theorem dL_input_1 : decode cL_input 1 = .ok (.iload_n 1, 1) := by decide +kernel
theorem dL_input_2 : decode cL_input 2 = .ok (.iload_n 2, 1) := by decide +kernel
theorem dL_input_3 : decode cL_input 3 = .ok (.iload_n 3, 1) := by decide +kernel
theorem dL_input_4 : decode cL_input 4 = .ok (.invokevirtual 9, 3) := by decide +kernel
theorem dL_input_7 : decode cL_input 7 = .ok (.ireturn, 1) := by decide +kernel
theorem dL_input_8 : decode cL_input 8 = .ok (.astore 4, 2) := by decide +kernel
theorem dL_input_10 : decode cL_input 10 = .ok (.bipush (-2), 2) := by decide +kernel
theorem dL_input_12 : decode cL_input 12 = .ok (.ireturn, 1) := by decide +kernel
theorem dL_input_13 : decode cL_input 13 = .ok (.astore 4, 2) := by decide +kernel
theorem dL_input_15 : decode cL_input 15 = .ok (.bipush (-3), 2) := by decide +kernel
theorem dL_input_17 : decode cL_input 17 = .ok (.ireturn, 1) := by decide +kernel
theorem dL_input_18 : decode cL_input 18 = .ok (.astore 4, 2) := by decide +kernel
theorem dL_input_20 : decode cL_input 20 = .ok (.bipush (-4), 2) := by decide +kernel
theorem dL_input_22 : decode cL_input 22 = .ok (.ireturn, 1) := by decide +kernel
theorem dL_column_0 : decode cL_column 0 = .ok (.aload_n 0, 1) := by decide +kernel
theorem dL_column_1 : decode cL_column 1 = .ok (.iload_n 1, 1) := by decide +kernel
theorem dL_column_2 : decode cL_column 2 = .ok (.iload_n 2, 1) := by decide +kernel
theorem dL_column_3 : decode cL_column 3 = .ok (.iload_n 3, 1) := by decide +kernel
theorem dL_column_4 : decode cL_column 4 = .ok (.iload 4, 2) := by decide +kernel
theorem dL_column_6 : decode cL_column 6 = .ok (.invokevirtual 21, 3) := by decide +kernel
theorem dL_column_9 : decode cL_column 9 = .ok (.iconst 0, 1) := by decide +kernel
theorem dL_column_10 : decode cL_column 10 = .ok (.ireturn, 1) := by decide +kernel
theorem dL_column_11 : decode cL_column 11 = .ok (.astore 5, 2) := by decide +kernel
theorem dL_column_13 : decode cL_column 13 = .ok (.bipush (-2), 2) := by decide +kernel
theorem dL_column_15 : decode cL_column 15 = .ok (.ireturn, 1) := by decide +kernel
theorem dL_column_16 : decode cL_column 16 = .ok (.astore 5, 2) := by decide +kernel
theorem dL_column_18 : decode cL_column 18 = .ok (.bipush (-3), 2) := by decide +kernel
theorem dL_column_20 : decode cL_column 20 = .ok (.ireturn, 1) := by decide +kernel
theorem dL_column_21 : decode cL_column 21 = .ok (.astore 5, 2) := by decide +kernel
theorem dL_column_23 : decode cL_column 23 = .ok (.bipush (-4), 2) := by decide +kernel
theorem dL_column_25 : decode cL_column 25 = .ok (.ireturn, 1) := by decide +kernel
theorem dL_submit_0 : decode cL_submit 0 = .ok (.aload_n 0, 1) := by decide +kernel
theorem dL_submit_1 : decode cL_submit 1 = .ok (.iload_n 1, 1) := by decide +kernel
theorem dL_submit_2 : decode cL_submit 2 = .ok (.iload_n 2, 1) := by decide +kernel
theorem dL_submit_3 : decode cL_submit 3 = .ok (.iload_n 3, 1) := by decide +kernel
theorem dL_submit_4 : decode cL_submit 4 = .ok (.invokevirtual 25, 3) := by decide +kernel
theorem dL_submit_7 : decode cL_submit 7 = .ok (.ireturn, 1) := by decide +kernel
theorem dL_submit_8 : decode cL_submit 8 = .ok (.astore 4, 2) := by decide +kernel
theorem dL_submit_10 : decode cL_submit 10 = .ok (.bipush (-2), 2) := by decide +kernel
theorem dL_submit_12 : decode cL_submit 12 = .ok (.ireturn, 1) := by decide +kernel
theorem dL_submit_13 : decode cL_submit 13 = .ok (.astore 4, 2) := by decide +kernel
theorem dL_submit_15 : decode cL_submit 15 = .ok (.bipush (-3), 2) := by decide +kernel
theorem dL_submit_17 : decode cL_submit 17 = .ok (.ireturn, 1) := by decide +kernel
theorem dL_submit_18 : decode cL_submit 18 = .ok (.astore 4, 2) := by decide +kernel
theorem dL_submit_20 : decode cL_submit 20 = .ok (.bipush (-4), 2) := by decide +kernel
theorem dL_submit_22 : decode cL_submit 22 = .ok (.ireturn, 1) := by decide +kernel
theorem dL_rule_0 : decode cL_rule 0 = .ok (.aload_n 0, 1) := by decide +kernel
theorem dL_rule_1 : decode cL_rule 1 = .ok (.iload_n 1, 1) := by decide +kernel
theorem dL_rule_2 : decode cL_rule 2 = .ok (.iload_n 2, 1) := by decide +kernel
theorem dL_rule_3 : decode cL_rule 3 = .ok (.iload_n 3, 1) := by decide +kernel
theorem dL_rule_4 : decode cL_rule 4 = .ok (.iload 4, 2) := by decide +kernel
theorem dL_rule_6 : decode cL_rule 6 = .ok (.iload 5, 2) := by decide +kernel
theorem dL_rule_8 : decode cL_rule 8 = .ok (.invokevirtual 28, 3) := by decide +kernel
theorem dL_rule_11 : decode cL_rule 11 = .ok (.ireturn, 1) := by decide +kernel
theorem dL_rule_12 : decode cL_rule 12 = .ok (.astore 6, 2) := by decide +kernel
theorem dL_rule_14 : decode cL_rule 14 = .ok (.bipush (-2), 2) := by decide +kernel
theorem dL_rule_16 : decode cL_rule 16 = .ok (.ireturn, 1) := by decide +kernel
theorem dL_rule_17 : decode cL_rule 17 = .ok (.astore 6, 2) := by decide +kernel
theorem dL_rule_19 : decode cL_rule 19 = .ok (.bipush (-3), 2) := by decide +kernel
theorem dL_rule_21 : decode cL_rule 21 = .ok (.ireturn, 1) := by decide +kernel
theorem dL_rule_22 : decode cL_rule 22 = .ok (.astore 6, 2) := by decide +kernel
theorem dL_rule_24 : decode cL_rule 24 = .ok (.bipush (-4), 2) := by decide +kernel
theorem dL_rule_26 : decode cL_rule 26 = .ok (.ireturn, 1) := by decide +kernel
theorem dL_offer_0 : decode cL_offer 0 = .ok (.aload_n 0, 1) := by decide +kernel
theorem dL_offer_1 : decode cL_offer 1 = .ok (.iload_n 1, 1) := by decide +kernel
theorem dL_offer_2 : decode cL_offer 2 = .ok (.iload_n 2, 1) := by decide +kernel
theorem dL_offer_3 : decode cL_offer 3 = .ok (.invokevirtual 32, 3) := by decide +kernel
theorem dL_offer_6 : decode cL_offer 6 = .ok (.ireturn, 1) := by decide +kernel
theorem dL_offer_7 : decode cL_offer 7 = .ok (.astore_n 3, 1) := by decide +kernel
theorem dL_offer_8 : decode cL_offer 8 = .ok (.bipush (-2), 2) := by decide +kernel
theorem dL_offer_10 : decode cL_offer 10 = .ok (.ireturn, 1) := by decide +kernel
theorem dL_offer_11 : decode cL_offer 11 = .ok (.astore_n 3, 1) := by decide +kernel
theorem dL_offer_12 : decode cL_offer 12 = .ok (.bipush (-4), 2) := by decide +kernel
theorem dL_offer_14 : decode cL_offer 14 = .ok (.ireturn, 1) := by decide +kernel
theorem dL_gift_0 : decode cL_gift 0 = .ok (.aload_n 0, 1) := by decide +kernel
theorem dL_gift_1 : decode cL_gift 1 = .ok (.iload_n 1, 1) := by decide +kernel
theorem dL_gift_2 : decode cL_gift 2 = .ok (.iload_n 2, 1) := by decide +kernel
theorem dL_gift_3 : decode cL_gift 3 = .ok (.invokevirtual 36, 3) := by decide +kernel
theorem dL_gift_6 : decode cL_gift 6 = .ok (.ireturn, 1) := by decide +kernel
theorem dL_gift_7 : decode cL_gift 7 = .ok (.astore_n 3, 1) := by decide +kernel
theorem dL_gift_8 : decode cL_gift 8 = .ok (.bipush (-2), 2) := by decide +kernel
theorem dL_gift_10 : decode cL_gift 10 = .ok (.ireturn, 1) := by decide +kernel
theorem dL_gift_11 : decode cL_gift 11 = .ok (.astore_n 3, 1) := by decide +kernel
theorem dL_gift_12 : decode cL_gift 12 = .ok (.bipush (-3), 2) := by decide +kernel
theorem dL_gift_14 : decode cL_gift 14 = .ok (.ireturn, 1) := by decide +kernel
theorem dL_gift_15 : decode cL_gift 15 = .ok (.astore_n 3, 1) := by decide +kernel
theorem dL_gift_16 : decode cL_gift 16 = .ok (.bipush (-4), 2) := by decide +kernel
theorem dL_gift_18 : decode cL_gift 18 = .ok (.ireturn, 1) := by decide +kernel
theorem dL_pass_0 : decode cL_pass 0 = .ok (.aload_n 0, 1) := by decide +kernel
theorem dL_pass_1 : decode cL_pass 1 = .ok (.iload_n 1, 1) := by decide +kernel
theorem dL_pass_2 : decode cL_pass 2 = .ok (.invokevirtual 39, 3) := by decide +kernel
theorem dL_pass_5 : decode cL_pass 5 = .ok (.ireturn, 1) := by decide +kernel
theorem dL_pass_6 : decode cL_pass 6 = .ok (.astore_n 2, 1) := by decide +kernel
theorem dL_pass_7 : decode cL_pass 7 = .ok (.bipush (-3), 2) := by decide +kernel
theorem dL_pass_9 : decode cL_pass 9 = .ok (.ireturn, 1) := by decide +kernel
theorem dL_pass_10 : decode cL_pass 10 = .ok (.astore_n 2, 1) := by decide +kernel
theorem dL_pass_11 : decode cL_pass 11 = .ok (.bipush (-4), 2) := by decide +kernel
theorem dL_pass_13 : decode cL_pass 13 = .ok (.ireturn, 1) := by decide +kernel
theorem dL_judged_0 : decode cL_judged 0 = .ok (.aload_n 0, 1) := by decide +kernel
theorem dL_judged_1 : decode cL_judged 1 = .ok (.iload_n 1, 1) := by decide +kernel
theorem dL_judged_2 : decode cL_judged 2 = .ok (.invokevirtual 43, 3) := by decide +kernel
theorem dL_judged_5 : decode cL_judged 5 = .ok (.ireturn, 1) := by decide +kernel
theorem dL_judged_6 : decode cL_judged 6 = .ok (.astore_n 2, 1) := by decide +kernel
theorem dL_judged_7 : decode cL_judged 7 = .ok (.bipush (-2), 2) := by decide +kernel
theorem dL_judged_9 : decode cL_judged 9 = .ok (.ireturn, 1) := by decide +kernel
theorem dL_plan_0 : decode cL_plan 0 = .ok (.aload_n 0, 1) := by decide +kernel
theorem dL_plan_1 : decode cL_plan 1 = .ok (.iload_n 1, 1) := by decide +kernel
theorem dL_plan_2 : decode cL_plan 2 = .ok (.invokevirtual 46, 3) := by decide +kernel
theorem dL_plan_5 : decode cL_plan 5 = .ok (.ireturn, 1) := by decide +kernel
theorem dL_plan_6 : decode cL_plan 6 = .ok (.astore_n 2, 1) := by decide +kernel
theorem dL_plan_7 : decode cL_plan 7 = .ok (.bipush (-3), 2) := by decide +kernel
theorem dL_plan_9 : decode cL_plan 9 = .ok (.ireturn, 1) := by decide +kernel
theorem dL_at_0 : decode cL_at 0 = .ok (.aload_n 0, 1) := by decide +kernel
theorem dL_at_1 : decode cL_at 1 = .ok (.iload_n 1, 1) := by decide +kernel
theorem dL_at_2 : decode cL_at 2 = .ok (.iload_n 2, 1) := by decide +kernel
theorem dL_at_3 : decode cL_at 3 = .ok (.invokevirtual 49, 3) := by decide +kernel
theorem dL_at_6 : decode cL_at 6 = .ok (.ireturn, 1) := by decide +kernel
theorem dL_at_7 : decode cL_at 7 = .ok (.astore_n 3, 1) := by decide +kernel
theorem dL_at_8 : decode cL_at 8 = .ok (.bipush (-2), 2) := by decide +kernel
theorem dL_at_10 : decode cL_at 10 = .ok (.ireturn, 1) := by decide +kernel
theorem dL_tell_0 : decode cL_tell 0 = .ok (.bipush 40, 2) := by decide +kernel
theorem dL_tell_2 : decode cL_tell 2 = .ok (.newarray .int, 2) := by decide +kernel
theorem dL_tell_4 : decode cL_tell 4 = .ok (.astore_n 2, 1) := by decide +kernel
theorem dL_tell_5 : decode cL_tell 5 = .ok (.iconst 0, 1) := by decide +kernel
theorem dL_tell_6 : decode cL_tell 6 = .ok (.istore_n 3, 1) := by decide +kernel
theorem dL_tell_7 : decode cL_tell 7 = .ok (.iload_n 3, 1) := by decide +kernel
theorem dL_tell_8 : decode cL_tell 8 = .ok (.aload_n 1, 1) := by decide +kernel
theorem dL_tell_9 : decode cL_tell 9 = .ok (.iconst 2, 1) := by decide +kernel
theorem dL_tell_10 : decode cL_tell 10 = .ok (.iaload, 1) := by decide +kernel
theorem dL_tell_11 : decode cL_tell 11 = .ok (.if_icmp .ge 17, 3) := by decide +kernel
theorem dL_tell_14 : decode cL_tell 14 = .ok (.aload_n 2, 1) := by decide +kernel
theorem dL_tell_15 : decode cL_tell 15 = .ok (.iload_n 3, 1) := by decide +kernel
theorem dL_tell_16 : decode cL_tell 16 = .ok (.aload_n 0, 1) := by decide +kernel
theorem dL_tell_17 : decode cL_tell 17 = .ok (.iload_n 3, 1) := by decide +kernel
theorem dL_tell_18 : decode cL_tell 18 = .ok (.invokevirtual 43, 3) := by decide +kernel
theorem dL_tell_21 : decode cL_tell 21 = .ok (.iastore, 1) := by decide +kernel
theorem dL_tell_22 : decode cL_tell 22 = .ok (.iinc 3 1, 3) := by decide +kernel
theorem dL_tell_25 : decode cL_tell 25 = .ok (.goto (-18), 3) := by decide +kernel
theorem dL_tell_28 : decode cL_tell 28 = .ok (.iconst 0, 1) := by decide +kernel
theorem dL_tell_29 : decode cL_tell 29 = .ok (.istore_n 3, 1) := by decide +kernel
theorem dL_tell_30 : decode cL_tell 30 = .ok (.iload_n 3, 1) := by decide +kernel
theorem dL_tell_31 : decode cL_tell 31 = .ok (.aload_n 1, 1) := by decide +kernel
theorem dL_tell_32 : decode cL_tell 32 = .ok (.iconst 1, 1) := by decide +kernel
theorem dL_tell_33 : decode cL_tell 33 = .ok (.iaload, 1) := by decide +kernel
theorem dL_tell_34 : decode cL_tell 34 = .ok (.if_icmp .ge 54, 3) := by decide +kernel
theorem dL_tell_37 : decode cL_tell 37 = .ok (.iconst 0, 1) := by decide +kernel
theorem dL_tell_38 : decode cL_tell 38 = .ok (.istore 4, 2) := by decide +kernel
theorem dL_tell_40 : decode cL_tell 40 = .ok (.iload 4, 2) := by decide +kernel
theorem dL_tell_42 : decode cL_tell 42 = .ok (.iconst 4, 1) := by decide +kernel
theorem dL_tell_43 : decode cL_tell 43 = .ok (.if_icmp .ge 39, 3) := by decide +kernel
theorem dL_tell_46 : decode cL_tell 46 = .ok (.aload_n 2, 1) := by decide +kernel
theorem dL_tell_47 : decode cL_tell 47 = .ok (.bipush 24, 2) := by decide +kernel
theorem dL_tell_49 : decode cL_tell 49 = .ok (.iconst 4, 1) := by decide +kernel
theorem dL_tell_50 : decode cL_tell 50 = .ok (.iload_n 3, 1) := by decide +kernel
theorem dL_tell_51 : decode cL_tell 51 = .ok (.imul, 1) := by decide +kernel
theorem dL_tell_52 : decode cL_tell 52 = .ok (.iadd, 1) := by decide +kernel
theorem dL_tell_53 : decode cL_tell 53 = .ok (.iload 4, 2) := by decide +kernel
theorem dL_tell_55 : decode cL_tell 55 = .ok (.iadd, 1) := by decide +kernel
theorem dL_tell_56 : decode cL_tell 56 = .ok (.sipush 1000, 3) := by decide +kernel
theorem dL_tell_59 : decode cL_tell 59 = .ok (.aload_n 0, 1) := by decide +kernel
theorem dL_tell_60 : decode cL_tell 60 = .ok (.iload_n 3, 1) := by decide +kernel
theorem dL_tell_61 : decode cL_tell 61 = .ok (.iload 4, 2) := by decide +kernel
theorem dL_tell_63 : decode cL_tell 63 = .ok (.invokevirtual 52, 3) := by decide +kernel
theorem dL_tell_66 : decode cL_tell 66 = .ok (.imul, 1) := by decide +kernel
theorem dL_tell_67 : decode cL_tell 67 = .ok (.aload_n 0, 1) := by decide +kernel
theorem dL_tell_68 : decode cL_tell 68 = .ok (.iload_n 3, 1) := by decide +kernel
theorem dL_tell_69 : decode cL_tell 69 = .ok (.iload 4, 2) := by decide +kernel
theorem dL_tell_71 : decode cL_tell 71 = .ok (.invokevirtual 55, 3) := by decide +kernel
theorem dL_tell_74 : decode cL_tell 74 = .ok (.iadd, 1) := by decide +kernel
theorem dL_tell_75 : decode cL_tell 75 = .ok (.iastore, 1) := by decide +kernel
theorem dL_tell_76 : decode cL_tell 76 = .ok (.iinc 4 1, 3) := by decide +kernel
theorem dL_tell_79 : decode cL_tell 79 = .ok (.goto (-39), 3) := by decide +kernel
theorem dL_tell_82 : decode cL_tell 82 = .ok (.iinc 3 1, 3) := by decide +kernel
theorem dL_tell_85 : decode cL_tell 85 = .ok (.goto (-55), 3) := by decide +kernel
theorem dL_tell_88 : decode cL_tell 88 = .ok (.aload_n 2, 1) := by decide +kernel
theorem dL_tell_89 : decode cL_tell 89 = .ok (.bipush 38, 2) := by decide +kernel
theorem dL_tell_91 : decode cL_tell 91 = .ok (.aload_n 0, 1) := by decide +kernel
theorem dL_tell_92 : decode cL_tell 92 = .ok (.sipush 2000, 3) := by decide +kernel
theorem dL_tell_95 : decode cL_tell 95 = .ok (.invokevirtual 46, 3) := by decide +kernel
theorem dL_tell_98 : decode cL_tell 98 = .ok (.iastore, 1) := by decide +kernel
theorem dL_tell_99 : decode cL_tell 99 = .ok (.aload_n 2, 1) := by decide +kernel
theorem dL_tell_100 : decode cL_tell 100 = .ok (.bipush 39, 2) := by decide +kernel
theorem dL_tell_102 : decode cL_tell 102 = .ok (.aload_n 1, 1) := by decide +kernel
theorem dL_tell_103 : decode cL_tell 103 = .ok (.iconst 0, 1) := by decide +kernel
theorem dL_tell_104 : decode cL_tell 104 = .ok (.iaload, 1) := by decide +kernel
theorem dL_tell_105 : decode cL_tell 105 = .ok (.ifCond .le 11, 3) := by decide +kernel
theorem dL_tell_108 : decode cL_tell 108 = .ok (.aload_n 0, 1) := by decide +kernel
theorem dL_tell_109 : decode cL_tell 109 = .ok (.iconst 0, 1) := by decide +kernel
theorem dL_tell_110 : decode cL_tell 110 = .ok (.invokevirtual 58, 3) := by decide +kernel
theorem dL_tell_113 : decode cL_tell 113 = .ok (.goto 4, 3) := by decide +kernel
theorem dL_tell_116 : decode cL_tell 116 = .ok (.iconst 0, 1) := by decide +kernel
theorem dL_tell_117 : decode cL_tell 117 = .ok (.iastore, 1) := by decide +kernel
theorem dL_tell_118 : decode cL_tell 118 = .ok (.aload_n 2, 1) := by decide +kernel
theorem dL_tell_119 : decode cL_tell 119 = .ok (.areturn, 1) := by decide +kernel
theorem dL_same_0 : decode cL_same 0 = .ok (.iconst 0, 1) := by decide +kernel
theorem dL_same_1 : decode cL_same 1 = .ok (.istore_n 2, 1) := by decide +kernel
theorem dL_same_2 : decode cL_same 2 = .ok (.iload_n 2, 1) := by decide +kernel
theorem dL_same_3 : decode cL_same 3 = .ok (.bipush 40, 2) := by decide +kernel
theorem dL_same_5 : decode cL_same 5 = .ok (.if_icmp .ge 20, 3) := by decide +kernel
theorem dL_same_8 : decode cL_same 8 = .ok (.aload_n 0, 1) := by decide +kernel
theorem dL_same_9 : decode cL_same 9 = .ok (.iload_n 2, 1) := by decide +kernel
theorem dL_same_10 : decode cL_same 10 = .ok (.iaload, 1) := by decide +kernel
theorem dL_same_11 : decode cL_same 11 = .ok (.aload_n 1, 1) := by decide +kernel
theorem dL_same_12 : decode cL_same 12 = .ok (.iload_n 2, 1) := by decide +kernel
theorem dL_same_13 : decode cL_same 13 = .ok (.iaload, 1) := by decide +kernel
theorem dL_same_14 : decode cL_same 14 = .ok (.if_icmp .eq 5, 3) := by decide +kernel
theorem dL_same_17 : decode cL_same 17 = .ok (.iconst 0, 1) := by decide +kernel
theorem dL_same_18 : decode cL_same 18 = .ok (.ireturn, 1) := by decide +kernel
theorem dL_same_19 : decode cL_same 19 = .ok (.iinc 2 1, 3) := by decide +kernel
theorem dL_same_22 : decode cL_same 22 = .ok (.goto (-20), 3) := by decide +kernel
theorem dL_same_25 : decode cL_same 25 = .ok (.iconst 1, 1) := by decide +kernel
theorem dL_same_26 : decode cL_same 26 = .ok (.ireturn, 1) := by decide +kernel
theorem dL_across_0 : decode cL_across 0 = .ok (.iload_n 0, 1) := by decide +kernel
theorem dL_across_1 : decode cL_across 1 = .ok (.sipush 1000, 3) := by decide +kernel
theorem dL_across_4 : decode cL_across 4 = .ok (.irem, 1) := by decide +kernel
theorem dL_across_5 : decode cL_across 5 = .ok (.sipush 1000, 3) := by decide +kernel
theorem dL_across_8 : decode cL_across 8 = .ok (.iadd, 1) := by decide +kernel
theorem dL_across_9 : decode cL_across 9 = .ok (.sipush 1000, 3) := by decide +kernel
theorem dL_across_12 : decode cL_across 12 = .ok (.irem, 1) := by decide +kernel
theorem dL_across_13 : decode cL_across 13 = .ok (.ireturn, 1) := by decide +kernel
theorem dL_up_0 : decode cL_up 0 = .ok (.iload_n 0, 1) := by decide +kernel
theorem dL_up_1 : decode cL_up 1 = .ok (.iload_n 0, 1) := by decide +kernel
theorem dL_up_2 : decode cL_up 2 = .ok (.invokestatic 61, 3) := by decide +kernel
theorem dL_up_5 : decode cL_up 5 = .ok (.isub, 1) := by decide +kernel
theorem dL_up_6 : decode cL_up 6 = .ok (.sipush 1000, 3) := by decide +kernel
theorem dL_up_9 : decode cL_up 9 = .ok (.idiv, 1) := by decide +kernel
theorem dL_up_10 : decode cL_up 10 = .ok (.ireturn, 1) := by decide +kernel
theorem dL_steps_0 : decode cL_steps 0 = .ok (.aload_n 0, 1) := by decide +kernel
theorem dL_steps_1 : decode cL_steps 1 = .ok (.iload_n 1, 1) := by decide +kernel
theorem dL_steps_2 : decode cL_steps 2 = .ok (.invokevirtual 58, 3) := by decide +kernel
theorem dL_steps_5 : decode cL_steps 5 = .ok (.bipush 10, 2) := by decide +kernel
theorem dL_steps_7 : decode cL_steps 7 = .ok (.idiv, 1) := by decide +kernel
theorem dL_steps_8 : decode cL_steps 8 = .ok (.istore_n 2, 1) := by decide +kernel
theorem dL_steps_9 : decode cL_steps 9 = .ok (.aload_n 0, 1) := by decide +kernel
theorem dL_steps_10 : decode cL_steps 10 = .ok (.iload_n 1, 1) := by decide +kernel
theorem dL_steps_11 : decode cL_steps 11 = .ok (.iconst 0, 1) := by decide +kernel
theorem dL_steps_12 : decode cL_steps 12 = .ok (.invokevirtual 66, 3) := by decide +kernel
theorem dL_steps_15 : decode cL_steps 15 = .ok (.istore_n 3, 1) := by decide +kernel
theorem dL_steps_16 : decode cL_steps 16 = .ok (.iconst 1, 1) := by decide +kernel
theorem dL_steps_17 : decode cL_steps 17 = .ok (.istore 4, 2) := by decide +kernel
theorem dL_steps_19 : decode cL_steps 19 = .ok (.iload 4, 2) := by decide +kernel
theorem dL_steps_21 : decode cL_steps 21 = .ok (.iload_n 2, 1) := by decide +kernel
theorem dL_steps_22 : decode cL_steps 22 = .ok (.if_icmp .gt 82, 3) := by decide +kernel
theorem dL_steps_25 : decode cL_steps 25 = .ok (.iload 4, 2) := by decide +kernel
theorem dL_steps_27 : decode cL_steps 27 = .ok (.bipush 12, 2) := by decide +kernel
theorem dL_steps_29 : decode cL_steps 29 = .ok (.if_icmp .ge 75, 3) := by decide +kernel
theorem dL_steps_32 : decode cL_steps 32 = .ok (.aload_n 0, 1) := by decide +kernel
theorem dL_steps_33 : decode cL_steps 33 = .ok (.iload_n 1, 1) := by decide +kernel
theorem dL_steps_34 : decode cL_steps 34 = .ok (.iload 4, 2) := by decide +kernel
theorem dL_steps_36 : decode cL_steps 36 = .ok (.invokevirtual 66, 3) := by decide +kernel
theorem dL_steps_39 : decode cL_steps 39 = .ok (.istore 5, 2) := by decide +kernel
theorem dL_steps_41 : decode cL_steps 41 = .ok (.iload 5, 2) := by decide +kernel
theorem dL_steps_43 : decode cL_steps 43 = .ok (.invokestatic 61, 3) := by decide +kernel
theorem dL_steps_46 : decode cL_steps 46 = .ok (.iload_n 3, 1) := by decide +kernel
theorem dL_steps_47 : decode cL_steps 47 = .ok (.invokestatic 61, 3) := by decide +kernel
theorem dL_steps_50 : decode cL_steps 50 = .ok (.isub, 1) := by decide +kernel
theorem dL_steps_51 : decode cL_steps 51 = .ok (.istore 6, 2) := by decide +kernel
theorem dL_steps_53 : decode cL_steps 53 = .ok (.iload 5, 2) := by decide +kernel
theorem dL_steps_55 : decode cL_steps 55 = .ok (.invokestatic 69, 3) := by decide +kernel
theorem dL_steps_58 : decode cL_steps 58 = .ok (.iload_n 3, 1) := by decide +kernel
theorem dL_steps_59 : decode cL_steps 59 = .ok (.invokestatic 69, 3) := by decide +kernel
theorem dL_steps_62 : decode cL_steps 62 = .ok (.isub, 1) := by decide +kernel
theorem dL_steps_63 : decode cL_steps 63 = .ok (.istore 7, 2) := by decide +kernel
theorem dL_steps_65 : decode cL_steps 65 = .ok (.iload 6, 2) := by decide +kernel
theorem dL_steps_67 : decode cL_steps 67 = .ok (.bipush 20, 2) := by decide +kernel
theorem dL_steps_69 : decode cL_steps 69 = .ok (.if_icmp .gt 24, 3) := by decide +kernel
theorem dL_steps_72 : decode cL_steps 72 = .ok (.iload 6, 2) := by decide +kernel
theorem dL_steps_74 : decode cL_steps 74 = .ok (.bipush (-20), 2) := by decide +kernel
theorem dL_steps_76 : decode cL_steps 76 = .ok (.if_icmp .lt 17, 3) := by decide +kernel
theorem dL_steps_79 : decode cL_steps 79 = .ok (.iload 7, 2) := by decide +kernel
theorem dL_steps_81 : decode cL_steps 81 = .ok (.bipush 12, 2) := by decide +kernel
theorem dL_steps_83 : decode cL_steps 83 = .ok (.if_icmp .gt 10, 3) := by decide +kernel
theorem dL_steps_86 : decode cL_steps 86 = .ok (.iload 7, 2) := by decide +kernel
theorem dL_steps_88 : decode cL_steps 88 = .ok (.bipush (-126), 2) := by decide +kernel
theorem dL_steps_90 : decode cL_steps 90 = .ok (.if_icmp .ge 5, 3) := by decide +kernel
theorem dL_steps_93 : decode cL_steps 93 = .ok (.iconst 0, 1) := by decide +kernel
theorem dL_steps_94 : decode cL_steps 94 = .ok (.ireturn, 1) := by decide +kernel
theorem dL_steps_95 : decode cL_steps 95 = .ok (.iload 5, 2) := by decide +kernel
theorem dL_steps_97 : decode cL_steps 97 = .ok (.istore_n 3, 1) := by decide +kernel
theorem dL_steps_98 : decode cL_steps 98 = .ok (.iinc 4 1, 3) := by decide +kernel
theorem dL_steps_101 : decode cL_steps 101 = .ok (.goto (-82), 3) := by decide +kernel
theorem dL_steps_104 : decode cL_steps 104 = .ok (.iload_n 3, 1) := by decide +kernel
theorem dL_steps_105 : decode cL_steps 105 = .ok (.invokestatic 61, 3) := by decide +kernel
theorem dL_steps_108 : decode cL_steps 108 = .ok (.sipush 512, 3) := by decide +kernel
theorem dL_steps_111 : decode cL_steps 111 = .ok (.if_icmp .ge 19, 3) := by decide +kernel
theorem dL_steps_114 : decode cL_steps 114 = .ok (.aload_n 0, 1) := by decide +kernel
theorem dL_steps_115 : decode cL_steps 115 = .ok (.iload_n 1, 1) := by decide +kernel
theorem dL_steps_116 : decode cL_steps 116 = .ok (.invokevirtual 58, 3) := by decide +kernel
theorem dL_steps_119 : decode cL_steps 119 = .ok (.bipush 10, 2) := by decide +kernel
theorem dL_steps_121 : decode cL_steps 121 = .ok (.irem, 1) := by decide +kernel
theorem dL_steps_122 : decode cL_steps 122 = .ok (.iconst 3, 1) := by decide +kernel
theorem dL_steps_123 : decode cL_steps 123 = .ok (.if_icmp .ge 7, 3) := by decide +kernel
theorem dL_steps_126 : decode cL_steps 126 = .ok (.iconst 1, 1) := by decide +kernel
theorem dL_steps_127 : decode cL_steps 127 = .ok (.goto 4, 3) := by decide +kernel
theorem dL_steps_130 : decode cL_steps 130 = .ok (.iconst 0, 1) := by decide +kernel
theorem dL_steps_131 : decode cL_steps 131 = .ok (.ireturn, 1) := by decide +kernel
theorem dL_boards_0 : decode cL_boards 0 = .ok (.iconst 0, 1) := by decide +kernel
theorem dL_boards_1 : decode cL_boards 1 = .ok (.istore_n 3, 1) := by decide +kernel
theorem dL_boards_2 : decode cL_boards 2 = .ok (.iload_n 3, 1) := by decide +kernel
theorem dL_boards_3 : decode cL_boards 3 = .ok (.aload_n 1, 1) := by decide +kernel
theorem dL_boards_4 : decode cL_boards 4 = .ok (.iconst 1, 1) := by decide +kernel
theorem dL_boards_5 : decode cL_boards 5 = .ok (.iaload, 1) := by decide +kernel
theorem dL_boards_6 : decode cL_boards 6 = .ok (.if_icmp .ge 315, 3) := by decide +kernel
theorem dL_boards_9 : decode cL_boards 9 = .ok (.iconst 0, 1) := by decide +kernel
theorem dL_boards_10 : decode cL_boards 10 = .ok (.istore 4, 2) := by decide +kernel
theorem dL_boards_12 : decode cL_boards 12 = .ok (.iconst 0, 1) := by decide +kernel
theorem dL_boards_13 : decode cL_boards 13 = .ok (.istore 5, 2) := by decide +kernel
theorem dL_boards_15 : decode cL_boards 15 = .ok (.iload 5, 2) := by decide +kernel
theorem dL_boards_17 : decode cL_boards 17 = .ok (.bipush 8, 2) := by decide +kernel
theorem dL_boards_19 : decode cL_boards 19 = .ok (.if_icmp .ge 181, 3) := by decide +kernel
theorem dL_boards_22 : decode cL_boards 22 = .ok (.aload_n 0, 1) := by decide +kernel
theorem dL_boards_23 : decode cL_boards 23 = .ok (.iload_n 3, 1) := by decide +kernel
theorem dL_boards_24 : decode cL_boards 24 = .ok (.iload 5, 2) := by decide +kernel
theorem dL_boards_26 : decode cL_boards 26 = .ok (.invokevirtual 52, 3) := by decide +kernel
theorem dL_boards_29 : decode cL_boards 29 = .ok (.istore 6, 2) := by decide +kernel
theorem dL_boards_31 : decode cL_boards 31 = .ok (.aload_n 0, 1) := by decide +kernel
theorem dL_boards_32 : decode cL_boards 32 = .ok (.iload_n 3, 1) := by decide +kernel
theorem dL_boards_33 : decode cL_boards 33 = .ok (.iload 5, 2) := by decide +kernel
theorem dL_boards_35 : decode cL_boards 35 = .ok (.invokevirtual 55, 3) := by decide +kernel
theorem dL_boards_38 : decode cL_boards 38 = .ok (.istore 7, 2) := by decide +kernel
theorem dL_boards_40 : decode cL_boards 40 = .ok (.iload 4, 2) := by decide +kernel
theorem dL_boards_42 : decode cL_boards 42 = .ok (.iload 6, 2) := by decide +kernel
theorem dL_boards_44 : decode cL_boards 44 = .ok (.ifCond .ge 7, 3) := by decide +kernel
theorem dL_boards_47 : decode cL_boards 47 = .ok (.iconst 0, 1) := by decide +kernel
theorem dL_boards_48 : decode cL_boards 48 = .ok (.goto 4, 3) := by decide +kernel
theorem dL_boards_51 : decode cL_boards 51 = .ok (.iconst 1, 1) := by decide +kernel
theorem dL_boards_52 : decode cL_boards 52 = .ok (.iadd, 1) := by decide +kernel
theorem dL_boards_53 : decode cL_boards 53 = .ok (.istore 4, 2) := by decide +kernel
theorem dL_boards_55 : decode cL_boards 55 = .ok (.iload 6, 2) := by decide +kernel
theorem dL_boards_57 : decode cL_boards 57 = .ok (.aload_n 0, 1) := by decide +kernel
theorem dL_boards_58 : decode cL_boards 58 = .ok (.iload_n 3, 1) := by decide +kernel
theorem dL_boards_59 : decode cL_boards 59 = .ok (.iload 5, 2) := by decide +kernel
theorem dL_boards_61 : decode cL_boards 61 = .ok (.invokevirtual 72, 3) := by decide +kernel
theorem dL_boards_64 : decode cL_boards 64 = .ok (.if_icmp .ne 61, 3) := by decide +kernel
theorem dL_boards_67 : decode cL_boards 67 = .ok (.iload 6, 2) := by decide +kernel
theorem dL_boards_69 : decode cL_boards 69 = .ok (.ifCond .ge 7, 3) := by decide +kernel
theorem dL_boards_72 : decode cL_boards 72 = .ok (.iconst 1, 1) := by decide +kernel
theorem dL_boards_73 : decode cL_boards 73 = .ok (.goto 4, 3) := by decide +kernel
theorem dL_boards_76 : decode cL_boards 76 = .ok (.iconst 0, 1) := by decide +kernel
theorem dL_boards_77 : decode cL_boards 77 = .ok (.iload 7, 2) := by decide +kernel
theorem dL_boards_79 : decode cL_boards 79 = .ok (.ifCond .ge 7, 3) := by decide +kernel
theorem dL_boards_82 : decode cL_boards 82 = .ok (.iconst 1, 1) := by decide +kernel
theorem dL_boards_83 : decode cL_boards 83 = .ok (.goto 4, 3) := by decide +kernel
theorem dL_boards_86 : decode cL_boards 86 = .ok (.iconst 0, 1) := by decide +kernel
theorem dL_boards_87 : decode cL_boards 87 = .ok (.if_icmp .ne 38, 3) := by decide +kernel
theorem dL_boards_90 : decode cL_boards 90 = .ok (.iload 6, 2) := by decide +kernel
theorem dL_boards_92 : decode cL_boards 92 = .ok (.ifCond .ge 7, 3) := by decide +kernel
theorem dL_boards_95 : decode cL_boards 95 = .ok (.iconst 1, 1) := by decide +kernel
theorem dL_boards_96 : decode cL_boards 96 = .ok (.goto 4, 3) := by decide +kernel
theorem dL_boards_99 : decode cL_boards 99 = .ok (.iconst 0, 1) := by decide +kernel
theorem dL_boards_100 : decode cL_boards 100 = .ok (.aload_n 0, 1) := by decide +kernel
theorem dL_boards_101 : decode cL_boards 101 = .ok (.iload_n 3, 1) := by decide +kernel
theorem dL_boards_102 : decode cL_boards 102 = .ok (.iload 5, 2) := by decide +kernel
theorem dL_boards_104 : decode cL_boards 104 = .ok (.invokevirtual 75, 3) := by decide +kernel
theorem dL_boards_107 : decode cL_boards 107 = .ok (.ifCond .ge 7, 3) := by decide +kernel
theorem dL_boards_110 : decode cL_boards 110 = .ok (.iconst 1, 1) := by decide +kernel
theorem dL_boards_111 : decode cL_boards 111 = .ok (.goto 4, 3) := by decide +kernel
theorem dL_boards_114 : decode cL_boards 114 = .ok (.iconst 0, 1) := by decide +kernel
theorem dL_boards_115 : decode cL_boards 115 = .ok (.if_icmp .ne 10, 3) := by decide +kernel
theorem dL_boards_118 : decode cL_boards 118 = .ok (.iload 7, 2) := by decide +kernel
theorem dL_boards_120 : decode cL_boards 120 = .ok (.bipush 8, 2) := by decide +kernel
theorem dL_boards_122 : decode cL_boards 122 = .ok (.if_icmp .le 5, 3) := by decide +kernel
theorem dL_boards_125 : decode cL_boards 125 = .ok (.iconst 0, 1) := by decide +kernel
theorem dL_boards_126 : decode cL_boards 126 = .ok (.ireturn, 1) := by decide +kernel
theorem dL_boards_127 : decode cL_boards 127 = .ok (.iload 6, 2) := by decide +kernel
theorem dL_boards_129 : decode cL_boards 129 = .ok (.ifCond .lt 65, 3) := by decide +kernel
theorem dL_boards_132 : decode cL_boards 132 = .ok (.iload 6, 2) := by decide +kernel
theorem dL_boards_134 : decode cL_boards 134 = .ok (.aload_n 1, 1) := by decide +kernel
theorem dL_boards_135 : decode cL_boards 135 = .ok (.iconst 2, 1) := by decide +kernel
theorem dL_boards_136 : decode cL_boards 136 = .ok (.iaload, 1) := by decide +kernel
theorem dL_boards_137 : decode cL_boards 137 = .ok (.if_icmp .ge 55, 3) := by decide +kernel
theorem dL_boards_140 : decode cL_boards 140 = .ok (.aload_n 2, 1) := by decide +kernel
theorem dL_boards_141 : decode cL_boards 141 = .ok (.iconst 2, 1) := by decide +kernel
theorem dL_boards_142 : decode cL_boards 142 = .ok (.iload 6, 2) := by decide +kernel
theorem dL_boards_144 : decode cL_boards 144 = .ok (.imul, 1) := by decide +kernel
theorem dL_boards_145 : decode cL_boards 145 = .ok (.iaload, 1) := by decide +kernel
theorem dL_boards_146 : decode cL_boards 146 = .ok (.iload 5, 2) := by decide +kernel
theorem dL_boards_148 : decode cL_boards 148 = .ok (.if_icmp .ne 44, 3) := by decide +kernel
theorem dL_boards_151 : decode cL_boards 151 = .ok (.aload_n 2, 1) := by decide +kernel
theorem dL_boards_152 : decode cL_boards 152 = .ok (.iconst 2, 1) := by decide +kernel
theorem dL_boards_153 : decode cL_boards 153 = .ok (.iload 6, 2) := by decide +kernel
theorem dL_boards_155 : decode cL_boards 155 = .ok (.imul, 1) := by decide +kernel
theorem dL_boards_156 : decode cL_boards 156 = .ok (.iconst 1, 1) := by decide +kernel
theorem dL_boards_157 : decode cL_boards 157 = .ok (.iadd, 1) := by decide +kernel
theorem dL_boards_158 : decode cL_boards 158 = .ok (.iaload, 1) := by decide +kernel
theorem dL_boards_159 : decode cL_boards 159 = .ok (.iload_n 3, 1) := by decide +kernel
theorem dL_boards_160 : decode cL_boards 160 = .ok (.if_icmp .ne 32, 3) := by decide +kernel
theorem dL_boards_163 : decode cL_boards 163 = .ok (.aload_n 0, 1) := by decide +kernel
theorem dL_boards_164 : decode cL_boards 164 = .ok (.iload 6, 2) := by decide +kernel
theorem dL_boards_166 : decode cL_boards 166 = .ok (.invokevirtual 43, 3) := by decide +kernel
theorem dL_boards_169 : decode cL_boards 169 = .ok (.ifCond .ne 23, 3) := by decide +kernel
theorem dL_boards_172 : decode cL_boards 172 = .ok (.aload_n 0, 1) := by decide +kernel
theorem dL_boards_173 : decode cL_boards 173 = .ok (.iload 6, 2) := by decide +kernel
theorem dL_boards_175 : decode cL_boards 175 = .ok (.invokevirtual 78, 3) := by decide +kernel
theorem dL_boards_178 : decode cL_boards 178 = .ok (.ifCond .lt 16, 3) := by decide +kernel
theorem dL_boards_181 : decode cL_boards 181 = .ok (.aload_n 0, 1) := by decide +kernel
theorem dL_boards_182 : decode cL_boards 182 = .ok (.iload 6, 2) := by decide +kernel
theorem dL_boards_184 : decode cL_boards 184 = .ok (.invokevirtual 78, 3) := by decide +kernel
theorem dL_boards_187 : decode cL_boards 187 = .ok (.iload 7, 2) := by decide +kernel
theorem dL_boards_189 : decode cL_boards 189 = .ok (.if_icmp .ge 5, 3) := by decide +kernel
theorem dL_boards_192 : decode cL_boards 192 = .ok (.iconst 0, 1) := by decide +kernel
theorem dL_boards_193 : decode cL_boards 193 = .ok (.ireturn, 1) := by decide +kernel
theorem dL_boards_194 : decode cL_boards 194 = .ok (.iinc 5 1, 3) := by decide +kernel
theorem dL_boards_197 : decode cL_boards 197 = .ok (.goto (-182), 3) := by decide +kernel
theorem dL_boards_200 : decode cL_boards 200 = .ok (.iconst 0, 1) := by decide +kernel
theorem dL_boards_201 : decode cL_boards 201 = .ok (.istore 5, 2) := by decide +kernel
theorem dL_boards_203 : decode cL_boards 203 = .ok (.iconst 0, 1) := by decide +kernel
theorem dL_boards_204 : decode cL_boards 204 = .ok (.istore 6, 2) := by decide +kernel
theorem dL_boards_206 : decode cL_boards 206 = .ok (.iload 6, 2) := by decide +kernel
theorem dL_boards_208 : decode cL_boards 208 = .ok (.iload 4, 2) := by decide +kernel
theorem dL_boards_210 : decode cL_boards 210 = .ok (.if_icmp .ge 91, 3) := by decide +kernel
theorem dL_boards_213 : decode cL_boards 213 = .ok (.aload_n 0, 1) := by decide +kernel
theorem dL_boards_214 : decode cL_boards 214 = .ok (.iload_n 3, 1) := by decide +kernel
theorem dL_boards_215 : decode cL_boards 215 = .ok (.iload 6, 2) := by decide +kernel
theorem dL_boards_217 : decode cL_boards 217 = .ok (.invokestatic 81, 3) := by decide +kernel
theorem dL_boards_220 : decode cL_boards 220 = .ok (.istore 7, 2) := by decide +kernel
theorem dL_boards_222 : decode cL_boards 222 = .ok (.iload 7, 2) := by decide +kernel
theorem dL_boards_224 : decode cL_boards 224 = .ok (.ifCond .lt 11, 3) := by decide +kernel
theorem dL_boards_227 : decode cL_boards 227 = .ok (.iload 7, 2) := by decide +kernel
theorem dL_boards_229 : decode cL_boards 229 = .ok (.aload_n 1, 1) := by decide +kernel
theorem dL_boards_230 : decode cL_boards 230 = .ok (.iconst 2, 1) := by decide +kernel
theorem dL_boards_231 : decode cL_boards 231 = .ok (.iaload, 1) := by decide +kernel
theorem dL_boards_232 : decode cL_boards 232 = .ok (.if_icmp .lt 7, 3) := by decide +kernel
theorem dL_boards_235 : decode cL_boards 235 = .ok (.iconst (-1), 1) := by decide +kernel
theorem dL_boards_236 : decode cL_boards 236 = .ok (.goto 14, 3) := by decide +kernel
theorem dL_boards_239 : decode cL_boards 239 = .ok (.aload_n 0, 1) := by decide +kernel
theorem dL_boards_240 : decode cL_boards 240 = .ok (.iload_n 3, 1) := by decide +kernel
theorem dL_boards_241 : decode cL_boards 241 = .ok (.aload_n 2, 1) := by decide +kernel
theorem dL_boards_242 : decode cL_boards 242 = .ok (.iconst 2, 1) := by decide +kernel
theorem dL_boards_243 : decode cL_boards 243 = .ok (.iload 7, 2) := by decide +kernel
theorem dL_boards_245 : decode cL_boards 245 = .ok (.imul, 1) := by decide +kernel
theorem dL_boards_246 : decode cL_boards 246 = .ok (.iaload, 1) := by decide +kernel
theorem dL_boards_247 : decode cL_boards 247 = .ok (.invokevirtual 55, 3) := by decide +kernel
theorem dL_boards_250 : decode cL_boards 250 = .ok (.istore 8, 2) := by decide +kernel
theorem dL_boards_252 : decode cL_boards 252 = .ok (.iload 7, 2) := by decide +kernel
theorem dL_boards_254 : decode cL_boards 254 = .ok (.ifCond .lt 35, 3) := by decide +kernel
theorem dL_boards_257 : decode cL_boards 257 = .ok (.aload_n 0, 1) := by decide +kernel
theorem dL_boards_258 : decode cL_boards 258 = .ok (.iload_n 3, 1) := by decide +kernel
theorem dL_boards_259 : decode cL_boards 259 = .ok (.aload_n 2, 1) := by decide +kernel
theorem dL_boards_260 : decode cL_boards 260 = .ok (.iconst 2, 1) := by decide +kernel
theorem dL_boards_261 : decode cL_boards 261 = .ok (.iload 7, 2) := by decide +kernel
theorem dL_boards_263 : decode cL_boards 263 = .ok (.imul, 1) := by decide +kernel
theorem dL_boards_264 : decode cL_boards 264 = .ok (.iaload, 1) := by decide +kernel
theorem dL_boards_265 : decode cL_boards 265 = .ok (.invokevirtual 52, 3) := by decide +kernel
theorem dL_boards_268 : decode cL_boards 268 = .ok (.iload 7, 2) := by decide +kernel
theorem dL_boards_270 : decode cL_boards 270 = .ok (.if_icmp .ne 19, 3) := by decide +kernel
theorem dL_boards_273 : decode cL_boards 273 = .ok (.iload 8, 2) := by decide +kernel
theorem dL_boards_275 : decode cL_boards 275 = .ok (.iload 5, 2) := by decide +kernel
theorem dL_boards_277 : decode cL_boards 277 = .ok (.if_icmp .lt 12, 3) := by decide +kernel
theorem dL_boards_280 : decode cL_boards 280 = .ok (.iload 8, 2) := by decide +kernel
theorem dL_boards_282 : decode cL_boards 282 = .ok (.iload 6, 2) := by decide +kernel
theorem dL_boards_284 : decode cL_boards 284 = .ok (.iconst 1, 1) := by decide +kernel
theorem dL_boards_285 : decode cL_boards 285 = .ok (.iadd, 1) := by decide +kernel
theorem dL_boards_286 : decode cL_boards 286 = .ok (.if_icmp .le 5, 3) := by decide +kernel
theorem dL_boards_289 : decode cL_boards 289 = .ok (.iconst 0, 1) := by decide +kernel
theorem dL_boards_290 : decode cL_boards 290 = .ok (.ireturn, 1) := by decide +kernel
theorem dL_boards_291 : decode cL_boards 291 = .ok (.iload 8, 2) := by decide +kernel
theorem dL_boards_293 : decode cL_boards 293 = .ok (.istore 5, 2) := by decide +kernel
theorem dL_boards_295 : decode cL_boards 295 = .ok (.iinc 6 1, 3) := by decide +kernel
theorem dL_boards_298 : decode cL_boards 298 = .ok (.goto (-92), 3) := by decide +kernel
theorem dL_boards_301 : decode cL_boards 301 = .ok (.aload_n 0, 1) := by decide +kernel
theorem dL_boards_302 : decode cL_boards 302 = .ok (.iload_n 3, 1) := by decide +kernel
theorem dL_boards_303 : decode cL_boards 303 = .ok (.iload 4, 2) := by decide +kernel
theorem dL_boards_305 : decode cL_boards 305 = .ok (.invokestatic 81, 3) := by decide +kernel
theorem dL_boards_308 : decode cL_boards 308 = .ok (.bipush (-2), 2) := by decide +kernel
theorem dL_boards_310 : decode cL_boards 310 = .ok (.if_icmp .eq 5, 3) := by decide +kernel
theorem dL_boards_313 : decode cL_boards 313 = .ok (.iconst 0, 1) := by decide +kernel
theorem dL_boards_314 : decode cL_boards 314 = .ok (.ireturn, 1) := by decide +kernel
theorem dL_boards_315 : decode cL_boards 315 = .ok (.iinc 3 1, 3) := by decide +kernel
theorem dL_boards_318 : decode cL_boards 318 = .ok (.goto (-316), 3) := by decide +kernel
theorem dL_boards_321 : decode cL_boards 321 = .ok (.aload_n 0, 1) := by decide +kernel
theorem dL_boards_322 : decode cL_boards 322 = .ok (.iconst 0, 1) := by decide +kernel
theorem dL_boards_323 : decode cL_boards 323 = .ok (.invokestatic 84, 3) := by decide +kernel
theorem dL_boards_326 : decode cL_boards 326 = .ok (.ifCond .ne 19, 3) := by decide +kernel
theorem dL_boards_329 : decode cL_boards 329 = .ok (.aload_n 0, 1) := by decide +kernel
theorem dL_boards_330 : decode cL_boards 330 = .ok (.aload_n 1, 1) := by decide +kernel
theorem dL_boards_331 : decode cL_boards 331 = .ok (.iconst 2, 1) := by decide +kernel
theorem dL_boards_332 : decode cL_boards 332 = .ok (.iaload, 1) := by decide +kernel
theorem dL_boards_333 : decode cL_boards 333 = .ok (.invokestatic 87, 3) := by decide +kernel
theorem dL_boards_336 : decode cL_boards 336 = .ok (.bipush (-2), 2) := by decide +kernel
theorem dL_boards_338 : decode cL_boards 338 = .ok (.if_icmp .ne 7, 3) := by decide +kernel
theorem dL_boards_341 : decode cL_boards 341 = .ok (.iconst 1, 1) := by decide +kernel
theorem dL_boards_342 : decode cL_boards 342 = .ok (.goto 4, 3) := by decide +kernel
theorem dL_boards_345 : decode cL_boards 345 = .ok (.iconst 0, 1) := by decide +kernel
theorem dL_boards_346 : decode cL_boards 346 = .ok (.ireturn, 1) := by decide +kernel
theorem dL_act_0 : decode cL_act 0 = .ok (.iload 4, 2) := by decide +kernel
theorem dL_act_2 : decode cL_act 2 = .ok (.aload_n 1, 1) := by decide +kernel
theorem dL_act_3 : decode cL_act 3 = .ok (.iconst 0, 1) := by decide +kernel
theorem dL_act_4 : decode cL_act 4 = .ok (.iaload, 1) := by decide +kernel
theorem dL_act_5 : decode cL_act 5 = .ok (.iconst 1, 1) := by decide +kernel
theorem dL_act_6 : decode cL_act 6 = .ok (.iadd, 1) := by decide +kernel
theorem dL_act_7 : decode cL_act 7 = .ok (.invokestatic 89, 3) := by decide +kernel
theorem dL_act_10 : decode cL_act 10 = .ok (.iload 4, 2) := by decide +kernel
theorem dL_act_12 : decode cL_act 12 = .ok (.bipush 9, 2) := by decide +kernel
theorem dL_act_14 : decode cL_act 14 = .ok (.ishr, 1) := by decide +kernel
theorem dL_act_15 : decode cL_act 15 = .ok (.bipush 17, 2) := by decide +kernel
theorem dL_act_17 : decode cL_act 17 = .ok (.invokestatic 89, 3) := by decide +kernel
theorem dL_act_20 : decode cL_act 20 = .ok (.bipush 16, 2) := by decide +kernel
theorem dL_act_22 : decode cL_act 22 = .ok (.idiv, 1) := by decide +kernel
theorem dL_act_23 : decode cL_act 23 = .ok (.isub, 1) := by decide +kernel
theorem dL_act_24 : decode cL_act 24 = .ok (.istore 6, 2) := by decide +kernel
theorem dL_act_26 : decode cL_act 26 = .ok (.iload 4, 2) := by decide +kernel
theorem dL_act_28 : decode cL_act 28 = .ok (.iconst 3, 1) := by decide +kernel
theorem dL_act_29 : decode cL_act 29 = .ok (.ishr, 1) := by decide +kernel
theorem dL_act_30 : decode cL_act 30 = .ok (.bipush 13, 2) := by decide +kernel
theorem dL_act_32 : decode cL_act 32 = .ok (.invokestatic 89, 3) := by decide +kernel
theorem dL_act_35 : decode cL_act 35 = .ok (.ifCond .ne 9, 3) := by decide +kernel
theorem dL_act_38 : decode cL_act 38 = .ok (.aload_n 1, 1) := by decide +kernel
theorem dL_act_39 : decode cL_act 39 = .ok (.iconst 1, 1) := by decide +kernel
theorem dL_act_40 : decode cL_act 40 = .ok (.iaload, 1) := by decide +kernel
theorem dL_act_41 : decode cL_act 41 = .ok (.goto 13, 3) := by decide +kernel
theorem dL_act_44 : decode cL_act 44 = .ok (.iload 4, 2) := by decide +kernel
theorem dL_act_46 : decode cL_act 46 = .ok (.iconst 4, 1) := by decide +kernel
theorem dL_act_47 : decode cL_act 47 = .ok (.ishr, 1) := by decide +kernel
theorem dL_act_48 : decode cL_act 48 = .ok (.aload_n 1, 1) := by decide +kernel
theorem dL_act_49 : decode cL_act 49 = .ok (.iconst 1, 1) := by decide +kernel
theorem dL_act_50 : decode cL_act 50 = .ok (.iaload, 1) := by decide +kernel
theorem dL_act_51 : decode cL_act 51 = .ok (.invokestatic 89, 3) := by decide +kernel
