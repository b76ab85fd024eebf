theorem t_5 : Cond.fieldLink RX12 234 "DepositJudgeModel" "homes" "I" ∈ gT := tm (List.mem_of_getElem? (i := 917) (by decide +kernel)) (by decide +kernel)
theorem t_6 : Cond.fieldLink RX12 417 "DepositJudgeModel" "claims" "I" ∈ gT := tm (List.mem_of_getElem? (i := 968) (by decide +kernel)) (by decide +kernel)
theorem t_7 : Cond.code yX12_isHome cX12_isHome 2 (some .boolean) ∈ gT := tm (List.mem_of_getElem? (i := 1222) (by decide +kernel)) (by decide +kernel)
theorem t_8 : Cond.initialized RX12 ∈ gT := tm (List.mem_of_getElem? (i := 11) (by decide +kernel)) (by decide +kernel)
theorem t_9 : Cond.methodLink RX12 249 yX12_isHome ∈ gT := tm (List.mem_of_getElem? (i := 1219) (by decide +kernel)) (by decide +kernel)
theorem t_10 : Cond.instanceMethod yX12_isHome ∈ gT := tm (List.mem_of_getElem? (i := 1221) (by decide +kernel)) (by decide +kernel)
theorem t_11 : Cond.selects RX12 yX12_isHome yX12_isHome ∈ gT := tmp (List.mem_of_getElem? (i := 32) (by decide +kernel)) (by decide +kernel)
theorem t_12 : Cond.code yX12_in cX12_in 3 (some .boolean) ∈ gT := tm (List.mem_of_getElem? (i := 1201) (by decide +kernel)) (by decide +kernel)
theorem t_13 : Cond.methodLink RX12 241 yX12_in ∈ gT := tm (List.mem_of_getElem? (i := 1199) (by decide +kernel)) (by decide +kernel)
theorem t_14 : Cond.static yX12_in ∈ gT := tm (List.mem_of_getElem? (i := 1200) (by decide +kernel)) (by decide +kernel)
theorem t_15 : Cond.fieldLink RX12 255 "DepositJudgeModel" "taped" "I" ∈ gT := tm (List.mem_of_getElem? (i := 939) (by decide +kernel)) (by decide +kernel)
theorem t_16 : Cond.code yX12_isFirst cX12_isFirst 3 (some .boolean) ∈ gT := tm (List.mem_of_getElem? (i := 1336) (by decide +kernel)) (by decide +kernel)
theorem t_17 : Cond.methodLink RX12 405 yX12_isFirst ∈ gT := tm (List.mem_of_getElem? (i := 1333) (by decide +kernel)) (by decide +kernel)
theorem t_18 : Cond.instanceMethod yX12_isFirst ∈ gT := tm (List.mem_of_getElem? (i := 1335) (by decide +kernel)) (by decide +kernel)
theorem t_19 : Cond.selects RX12 yX12_isFirst yX12_isFirst ∈ gT := tmp (List.mem_of_getElem? (i := 52) (by decide +kernel)) (by decide +kernel)
theorem t_20 : Cond.code yX12_isClaim cX12_isClaim 2 (some .boolean) ∈ gT := tm (List.mem_of_getElem? (i := 1430) (by decide +kernel)) (by decide +kernel)
theorem t_21 : Cond.methodLink RX12 423 yX12_isClaim ∈ gT := tm (List.mem_of_getElem? (i := 1427) (by decide +kernel)) (by decide +kernel)
theorem t_22 : Cond.instanceMethod yX12_isClaim ∈ gT := tm (List.mem_of_getElem? (i := 1429) (by decide +kernel)) (by decide +kernel)
theorem t_23 : Cond.selects RX12 yX12_isClaim yX12_isClaim ∈ gT := tmp (List.mem_of_getElem? (i := 70) (by decide +kernel)) (by decide +kernel)
theorem t_24 : Cond.code yX12_isJudge cX12_isJudge 1 (some .boolean) ∈ gT := tm (List.mem_of_getElem? (i := 1502) (by decide +kernel)) (by decide +kernel)
theorem t_25 : Cond.methodLink RX12 465 yX12_isJudge ∈ gT := tm (List.mem_of_getElem? (i := 1500) (by decide +kernel)) (by decide +kernel)
theorem t_26 : Cond.static yX12_isJudge ∈ gT := tm (List.mem_of_getElem? (i := 1501) (by decide +kernel)) (by decide +kernel)
theorem t_27 : Cond.fieldLink RX12 470 "DepositJudgeModel" "doubles" "I" ∈ gT := tm (List.mem_of_getElem? (i := 980) (by decide +kernel)) (by decide +kernel)
theorem t_28 : Cond.constant RX12 476 (-1000000) ∈ gT := tm (List.mem_of_getElem? (i := 1521) (by decide +kernel)) (by decide +kernel)
theorem t_29 : Cond.fieldLink RX12 500 "DepositJudgeModel" "isKept" "Z" ∈ gT := tm (List.mem_of_getElem? (i := 995) (by decide +kernel)) (by decide +kernel)
theorem t_30 : Cond.code yX12_isKind cX12_isKind 1 (some .boolean) ∈ gT := tm (List.mem_of_getElem? (i := 1198) (by decide +kernel)) (by decide +kernel)
theorem t_31 : Cond.methodLink RX12 237 yX12_isKind ∈ gT := tm (List.mem_of_getElem? (i := 1196) (by decide +kernel)) (by decide +kernel)
theorem t_32 : Cond.static yX12_isKind ∈ gT := tm (List.mem_of_getElem? (i := 1197) (by decide +kernel)) (by decide +kernel)
theorem t_33 : Cond.code yX12_isDay cX12_isDay 1 (some .boolean) ∈ gT := tm (List.mem_of_getElem? (i := 1422) (by decide +kernel)) (by decide +kernel)
theorem t_34 : Cond.methodLink RX12 420 yX12_isDay ∈ gT := tm (List.mem_of_getElem? (i := 1420) (by decide +kernel)) (by decide +kernel)
theorem t_35 : Cond.static yX12_isDay ∈ gT := tm (List.mem_of_getElem? (i := 1421) (by decide +kernel)) (by decide +kernel)
theorem t_36 : Cond.fieldLink RX12 353 "DepositJudgeModel" "clauses" "I" ∈ gT := tm (List.mem_of_getElem? (i := 948) (by decide +kernel)) (by decide +kernel)
theorem t_37 : Cond.fieldLink RX12 486 "DepositJudgeModel" "facts0" "I" ∈ gT := tm (List.mem_of_getElem? (i := 989) (by decide +kernel)) (by decide +kernel)
theorem t_38 : Cond.fieldLink RX12 229 "DepositJudgeModel" "x0" "I" ∈ gT := tm (List.mem_of_getElem? (i := 918) (by decide +kernel)) (by decide +kernel)
theorem dX12_agree_0 : decode cX12_agree 0 = .ok (.aload_n 0, 1) := by decide +kernel
theorem dX12_agree_1 : decode cX12_agree 1 = .ok (.iload_n 1, 1) := by decide +kernel
theorem dX12_agree_2 : decode cX12_agree 2 = .ok (.invokevirtual 423, 3) := by decide +kernel
theorem dX12_agree_5 : decode cX12_agree 5 = .ok (.ifCond .eq 10, 3) := by decide +kernel
theorem dX12_agree_15 : decode cX12_agree 15 = .ok (.iconst 0, 1) := by decide +kernel
theorem dX12_agree_16 : decode cX12_agree 16 = .ok (.ireturn, 1) := by decide +kernel
theorem dX12_answer_0 : decode cX12_answer 0 = .ok (.aload_n 0, 1) := by decide +kernel
theorem dX12_answer_1 : decode cX12_answer 1 = .ok (.iload_n 1, 1) := by decide +kernel
theorem dX12_answer_2 : decode cX12_answer 2 = .ok (.invokevirtual 423, 3) := by decide +kernel
theorem dX12_answer_5 : decode cX12_answer 5 = .ok (.ifCond .eq 20, 3) := by decide +kernel
theorem dX12_answer_25 : decode cX12_answer 25 = .ok (.iconst 0, 1) := by decide +kernel
theorem dX12_answer_26 : decode cX12_answer 26 = .ok (.ireturn, 1) := by decide +kernel
theorem dX12_award_0 : decode cX12_award 0 = .ok (.aload_n 0, 1) := by decide +kernel
theorem dX12_award_1 : decode cX12_award 1 = .ok (.iload_n 1, 1) := by decide +kernel
theorem dX12_award_2 : decode cX12_award 2 = .ok (.invokevirtual 423, 3) := by decide +kernel
theorem dX12_award_5 : decode cX12_award 5 = .ok (.ifCond .eq 19, 3) := by decide +kernel
theorem dX12_award_24 : decode cX12_award 24 = .ok (.iconst (-1), 1) := by decide +kernel
theorem dX12_award_25 : decode cX12_award 25 = .ok (.ireturn, 1) := by decide +kernel
theorem dX12_byKind_0 : decode cX12_byKind 0 = .ok (.iload_n 1, 1) := by decide +kernel
theorem dX12_byKind_1 : decode cX12_byKind 1 = .ok (.invokestatic 237, 3) := by decide +kernel
theorem dX12_byKind_4 : decode cX12_byKind 4 = .ok (.ifCond .eq 10, 3) := by decide +kernel
theorem dX12_byKind_7 : decode cX12_byKind 7 = .ok (.iload_n 2, 1) := by decide +kernel
theorem dX12_byKind_8 : decode cX12_byKind 8 = .ok (.invokestatic 420, 3) := by decide +kernel
theorem dX12_byKind_11 : decode cX12_byKind 11 = .ok (.ifCond .ne 5, 3) := by decide +kernel
theorem dX12_byKind_14 : decode cX12_byKind 14 = .ok (.iconst (-1), 1) := by decide +kernel
theorem dX12_byKind_15 : decode cX12_byKind 15 = .ok (.ireturn, 1) := by decide +kernel
theorem dX12_byKind_16 : decode cX12_byKind 16 = .ok (.iconst 0, 1) := by decide +kernel
theorem dX12_byKind_17 : decode cX12_byKind 17 = .ok (.istore_n 3, 1) := by decide +kernel
theorem dX12_byKind_18 : decode cX12_byKind 18 = .ok (.iconst 0, 1) := by decide +kernel
theorem dX12_byKind_19 : decode cX12_byKind 19 = .ok (.istore 4, 2) := by decide +kernel
theorem dX12_byKind_21 : decode cX12_byKind 21 = .ok (.iload 4, 2) := by decide +kernel
theorem dX12_byKind_23 : decode cX12_byKind 23 = .ok (.aload_n 0, 1) := by decide +kernel
theorem dX12_byKind_24 : decode cX12_byKind 24 = .ok (.getfield 417, 3) := by decide +kernel
theorem dX12_byKind_27 : decode cX12_byKind 27 = .ok (.if_icmp .ge 61, 3) := by decide +kernel
theorem dX12_byKind_88 : decode cX12_byKind 88 = .ok (.iload_n 3, 1) := by decide +kernel
theorem dX12_byKind_89 : decode cX12_byKind 89 = .ok (.ireturn, 1) := by decide +kernel
theorem dX12_check_0 : decode cX12_check 0 = .ok (.aload_n 0, 1) := by decide +kernel
theorem dX12_check_1 : decode cX12_check 1 = .ok (.iload_n 1, 1) := by decide +kernel
theorem dX12_check_2 : decode cX12_check 2 = .ok (.invokevirtual 249, 3) := by decide +kernel
theorem dX12_check_5 : decode cX12_check 5 = .ok (.ifCond .eq 29, 3) := by decide +kernel
theorem dX12_check_34 : decode cX12_check 34 = .ok (.bipush (-2), 2) := by decide +kernel
theorem dX12_check_36 : decode cX12_check 36 = .ok (.ireturn, 1) := by decide +kernel
theorem dX12_claim_0 : decode cX12_claim 0 = .ok (.aload_n 0, 1) := by decide +kernel
theorem dX12_claim_1 : decode cX12_claim 1 = .ok (.iload_n 1, 1) := by decide +kernel
theorem dX12_claim_2 : decode cX12_claim 2 = .ok (.iload_n 2, 1) := by decide +kernel
theorem dX12_claim_3 : decode cX12_claim 3 = .ok (.invokevirtual 405, 3) := by decide +kernel
theorem dX12_claim_6 : decode cX12_claim 6 = .ok (.ifCond .eq 41, 3) := by decide +kernel
theorem dX12_claim_47 : decode cX12_claim 47 = .ok (.iconst (-1), 1) := by decide +kernel
theorem dX12_claim_48 : decode cX12_claim 48 = .ok (.ireturn, 1) := by decide +kernel
theorem dX12_count_0 : decode cX12_count 0 = .ok (.iload_n 1, 1) := by decide +kernel
theorem dX12_count_1 : decode cX12_count 1 = .ok (.tableswitch 78 0 6 #[43, 48, 53, 58, 63, 68, 73], 43) := by decide +kernel
theorem dX12_count_44 : decode cX12_count 44 = .ok (.aload_n 0, 1) := by decide +kernel
theorem dX12_count_45 : decode cX12_count 45 = .ok (.getfield 234, 3) := by decide +kernel
theorem dX12_count_48 : decode cX12_count 48 = .ok (.ireturn, 1) := by decide +kernel
theorem dX12_count_49 : decode cX12_count 49 = .ok (.aload_n 0, 1) := by decide +kernel
theorem dX12_count_50 : decode cX12_count 50 = .ok (.getfield 417, 3) := by decide +kernel
theorem dX12_count_53 : decode cX12_count 53 = .ok (.ireturn, 1) := by decide +kernel
theorem dX12_count_54 : decode cX12_count 54 = .ok (.aload_n 0, 1) := by decide +kernel
theorem dX12_count_55 : decode cX12_count 55 = .ok (.getfield 353, 3) := by decide +kernel
theorem dX12_count_58 : decode cX12_count 58 = .ok (.ireturn, 1) := by decide +kernel
theorem dX12_count_59 : decode cX12_count 59 = .ok (.aload_n 0, 1) := by decide +kernel
theorem dX12_count_60 : decode cX12_count 60 = .ok (.getfield 255, 3) := by decide +kernel
theorem dX12_count_63 : decode cX12_count 63 = .ok (.ireturn, 1) := by decide +kernel
theorem dX12_count_64 : decode cX12_count 64 = .ok (.aload_n 0, 1) := by decide +kernel
theorem dX12_count_65 : decode cX12_count 65 = .ok (.getfield 470, 3) := by decide +kernel
theorem dX12_count_68 : decode cX12_count 68 = .ok (.ireturn, 1) := by decide +kernel
theorem dX12_count_69 : decode cX12_count 69 = .ok (.aload_n 0, 1) := by decide +kernel
theorem dX12_count_70 : decode cX12_count 70 = .ok (.getfield 486, 3) := by decide +kernel
theorem dX12_count_73 : decode cX12_count 73 = .ok (.ireturn, 1) := by decide +kernel
theorem dX12_count_74 : decode cX12_count 74 = .ok (.aload_n 0, 1) := by decide +kernel
theorem dX12_count_75 : decode cX12_count 75 = .ok (.getfield 229, 3) := by decide +kernel
theorem dX12_count_78 : decode cX12_count 78 = .ok (.ireturn, 1) := by decide +kernel
theorem dX12_count_79 : decode cX12_count 79 = .ok (.iload_n 1, 1) := by decide +kernel
theorem dX12_count_80 : decode cX12_count 80 = .ok (.bipush 10, 2) := by decide +kernel
theorem dX12_count_82 : decode cX12_count 82 = .ok (.bipush 9, 2) := by decide +kernel
theorem dX12_count_84 : decode cX12_count 84 = .ok (.aload_n 0, 1) := by decide +kernel
theorem dX12_count_85 : decode cX12_count 85 = .ok (.getfield 234, 3) := by decide +kernel
theorem dX12_count_88 : decode cX12_count 88 = .ok (.iadd, 1) := by decide +kernel
theorem dX12_count_89 : decode cX12_count 89 = .ok (.invokestatic 241, 3) := by decide +kernel
theorem dX12_count_92 : decode cX12_count 92 = .ok (.ifCond .eq 13, 3) := by decide +kernel
theorem dX12_count_105 : decode cX12_count 105 = .ok (.iload_n 1, 1) := by decide +kernel
theorem dX12_count_106 : decode cX12_count 106 = .ok (.bipush 20, 2) := by decide +kernel
theorem dX12_count_108 : decode cX12_count 108 = .ok (.bipush 19, 2) := by decide +kernel
theorem dX12_count_110 : decode cX12_count 110 = .ok (.aload_n 0, 1) := by decide +kernel
theorem dX12_count_111 : decode cX12_count 111 = .ok (.getfield 234, 3) := by decide +kernel
theorem dX12_count_114 : decode cX12_count 114 = .ok (.iadd, 1) := by decide +kernel
theorem dX12_count_115 : decode cX12_count 115 = .ok (.invokestatic 241, 3) := by decide +kernel
theorem dX12_count_118 : decode cX12_count 118 = .ok (.ifCond .eq 13, 3) := by decide +kernel
theorem dX12_count_131 : decode cX12_count 131 = .ok (.iload_n 1, 1) := by decide +kernel
theorem dX12_count_132 : decode cX12_count 132 = .ok (.bipush 30, 2) := by decide +kernel
theorem dX12_count_134 : decode cX12_count 134 = .ok (.bipush 29, 2) := by decide +kernel
theorem dX12_count_136 : decode cX12_count 136 = .ok (.aload_n 0, 1) := by decide +kernel
theorem dX12_count_137 : decode cX12_count 137 = .ok (.getfield 417, 3) := by decide +kernel
theorem dX12_count_140 : decode cX12_count 140 = .ok (.iadd, 1) := by decide +kernel
theorem dX12_count_141 : decode cX12_count 141 = .ok (.invokestatic 241, 3) := by decide +kernel
theorem dX12_count_144 : decode cX12_count 144 = .ok (.ifCond .eq 15, 3) := by decide +kernel
theorem dX12_count_159 : decode cX12_count 159 = .ok (.iconst (-1), 1) := by decide +kernel
theorem dX12_count_160 : decode cX12_count 160 = .ok (.ireturn, 1) := by decide +kernel
theorem dX12_draw_0 : decode cX12_draw 0 = .ok (.aload_n 0, 1) := by decide +kernel
theorem dX12_draw_1 : decode cX12_draw 1 = .ok (.iload_n 1, 1) := by decide +kernel
theorem dX12_draw_2 : decode cX12_draw 2 = .ok (.invokevirtual 249, 3) := by decide +kernel
theorem dX12_draw_5 : decode cX12_draw 5 = .ok (.ifCond .ne 5, 3) := by decide +kernel
theorem dX12_draw_8 : decode cX12_draw 8 = .ok (.iconst (-1), 1) := by decide +kernel
theorem dX12_draw_9 : decode cX12_draw 9 = .ok (.ireturn, 1) := by decide +kernel
theorem dX12_first_0 : decode cX12_first 0 = .ok (.aload_n 0, 1) := by decide +kernel
theorem dX12_first_1 : decode cX12_first 1 = .ok (.iload_n 1, 1) := by decide +kernel
theorem dX12_first_2 : decode cX12_first 2 = .ok (.invokevirtual 249, 3) := by decide +kernel
theorem dX12_first_5 : decode cX12_first 5 = .ok (.ifCond .eq 36, 3) := by decide +kernel
theorem dX12_first_41 : decode cX12_first 41 = .ok (.iconst (-1), 1) := by decide +kernel
theorem dX12_first_42 : decode cX12_first 42 = .ok (.ireturn, 1) := by decide +kernel
theorem dX12_isClaim_0 : decode cX12_isClaim 0 = .ok (.iload_n 1, 1) := by decide +kernel
theorem dX12_isClaim_1 : decode cX12_isClaim 1 = .ok (.ifCond .lt 15, 3) := by decide +kernel
theorem dX12_isClaim_4 : decode cX12_isClaim 4 = .ok (.iload_n 1, 1) := by decide +kernel
theorem dX12_isClaim_5 : decode cX12_isClaim 5 = .ok (.aload_n 0, 1) := by decide +kernel
theorem dX12_isClaim_6 : decode cX12_isClaim 6 = .ok (.getfield 417, 3) := by decide +kernel
theorem dX12_isClaim_9 : decode cX12_isClaim 9 = .ok (.if_icmp .ge 7, 3) := by decide +kernel
theorem dX12_isClaim_16 : decode cX12_isClaim 16 = .ok (.iconst 0, 1) := by decide +kernel
theorem dX12_isClaim_17 : decode cX12_isClaim 17 = .ok (.ireturn, 1) := by decide +kernel
theorem dX12_isFirst_0 : decode cX12_isFirst 0 = .ok (.aload_n 0, 1) := by decide +kernel
theorem dX12_isFirst_1 : decode cX12_isFirst 1 = .ok (.iload_n 1, 1) := by decide +kernel
theorem dX12_isFirst_2 : decode cX12_isFirst 2 = .ok (.invokevirtual 249, 3) := by decide +kernel
theorem dX12_isFirst_5 : decode cX12_isFirst 5 = .ok (.ifCond .eq 21, 3) := by decide +kernel
theorem dX12_isFirst_26 : decode cX12_isFirst 26 = .ok (.iconst 0, 1) := by decide +kernel
theorem dX12_isFirst_27 : decode cX12_isFirst 27 = .ok (.ireturn, 1) := by decide +kernel
theorem dX12_isHome_0 : decode cX12_isHome 0 = .ok (.iload_n 1, 1) := by decide +kernel
theorem dX12_isHome_1 : decode cX12_isHome 1 = .ok (.ifCond .lt 15, 3) := by decide +kernel
theorem dX12_isHome_4 : decode cX12_isHome 4 = .ok (.iload_n 1, 1) := by decide +kernel
theorem dX12_isHome_5 : decode cX12_isHome 5 = .ok (.aload_n 0, 1) := by decide +kernel
theorem dX12_isHome_6 : decode cX12_isHome 6 = .ok (.getfield 234, 3) := by decide +kernel
theorem dX12_isHome_9 : decode cX12_isHome 9 = .ok (.if_icmp .ge 7, 3) := by decide +kernel
theorem dX12_isHome_16 : decode cX12_isHome 16 = .ok (.iconst 0, 1) := by decide +kernel
theorem dX12_isHome_17 : decode cX12_isHome 17 = .ok (.ireturn, 1) := by decide +kernel
theorem dX12_isNew_0 : decode cX12_isNew 0 = .ok (.aload_n 0, 1) := by decide +kernel
theorem dX12_isNew_1 : decode cX12_isNew 1 = .ok (.iload_n 1, 1) := by decide +kernel
theorem dX12_isNew_2 : decode cX12_isNew 2 = .ok (.invokevirtual 249, 3) := by decide +kernel
theorem dX12_isNew_5 : decode cX12_isNew 5 = .ok (.ifCond .eq 17, 3) := by decide +kernel
theorem dX12_isNew_22 : decode cX12_isNew 22 = .ok (.iconst (-1), 1) := by decide +kernel
theorem dX12_isNew_23 : decode cX12_isNew 23 = .ok (.ireturn, 1) := by decide +kernel
theorem dX12_judged_0 : decode cX12_judged 0 = .ok (.aload_n 0, 1) := by decide +kernel
theorem dX12_judged_1 : decode cX12_judged 1 = .ok (.iload_n 1, 1) := by decide +kernel
theorem dX12_judged_2 : decode cX12_judged 2 = .ok (.invokevirtual 249, 3) := by decide +kernel
theorem dX12_judged_5 : decode cX12_judged 5 = .ok (.ifCond .eq 37, 3) := by decide +kernel
theorem dX12_judged_42 : decode cX12_judged 42 = .ok (.iconst (-1), 1) := by decide +kernel
theorem dX12_judged_43 : decode cX12_judged 43 = .ok (.ireturn, 1) := by decide +kernel
theorem dX12_kin_0 : decode cX12_kin 0 = .ok (.iload_n 1, 1) := by decide +kernel
theorem dX12_kin_1 : decode cX12_kin 1 = .ok (.invokestatic 465, 3) := by decide +kernel
theorem dX12_kin_4 : decode cX12_kin 4 = .ok (.ifCond .eq 26, 3) := by decide +kernel
theorem dX12_kin_7 : decode cX12_kin 7 = .ok (.aload_n 0, 1) := by decide +kernel
theorem dX12_kin_8 : decode cX12_kin 8 = .ok (.iload_n 2, 1) := by decide +kernel
theorem dX12_kin_9 : decode cX12_kin 9 = .ok (.invokevirtual 249, 3) := by decide +kernel
theorem dX12_kin_12 : decode cX12_kin 12 = .ok (.ifCond .eq 18, 3) := by decide +kernel
theorem dX12_kin_30 : decode cX12_kin 30 = .ok (.iconst 0, 1) := by decide +kernel
theorem dX12_kin_31 : decode cX12_kin 31 = .ok (.ireturn, 1) := by decide +kernel
theorem dX12_last_0 : decode cX12_last 0 = .ok (.aload_n 0, 1) := by decide +kernel
theorem dX12_last_1 : decode cX12_last 1 = .ok (.iload_n 1, 1) := by decide +kernel
theorem dX12_last_2 : decode cX12_last 2 = .ok (.invokevirtual 249, 3) := by decide +kernel
theorem dX12_last_5 : decode cX12_last 5 = .ok (.ifCond .eq 24, 3) := by decide +kernel
theorem dX12_last_29 : decode cX12_last 29 = .ok (.iconst (-1), 1) := by decide +kernel
theorem dX12_last_30 : decode cX12_last 30 = .ok (.ireturn, 1) := by decide +kernel
theorem dX12_law_0 : decode cX12_law 0 = .ok (.iload_n 1, 1) := by decide +kernel
theorem dX12_law_1 : decode cX12_law 1 = .ok (.iconst 1, 1) := by decide +kernel
theorem dX12_law_2 : decode cX12_law 2 = .ok (.sipush 200, 3) := by decide +kernel
theorem dX12_law_5 : decode cX12_law 5 = .ok (.invokestatic 241, 3) := by decide +kernel
theorem dX12_law_8 : decode cX12_law 8 = .ok (.ifCond .eq 11, 3) := by decide +kernel
theorem dX12_law_11 : decode cX12_law 11 = .ok (.iload_n 1, 1) := by decide +kernel
theorem dX12_law_12 : decode cX12_law 12 = .ok (.aload_n 0, 1) := by decide +kernel
theorem dX12_law_13 : decode cX12_law 13 = .ok (.getfield 255, 3) := by decide +kernel
theorem dX12_law_16 : decode cX12_law 16 = .ok (.if_icmp .le 5, 3) := by decide +kernel
theorem dX12_law_19 : decode cX12_law 19 = .ok (.iconst (-1), 1) := by decide +kernel
theorem dX12_law_20 : decode cX12_law 20 = .ok (.ireturn, 1) := by decide +kernel
theorem dX12_led_0 : decode cX12_led 0 = .ok (.aload_n 0, 1) := by decide +kernel
theorem dX12_led_1 : decode cX12_led 1 = .ok (.iload_n 1, 1) := by decide +kernel
theorem dX12_led_2 : decode cX12_led 2 = .ok (.iload_n 2, 1) := by decide +kernel
theorem dX12_led_3 : decode cX12_led 3 = .ok (.invokevirtual 405, 3) := by decide +kernel
theorem dX12_led_6 : decode cX12_led 6 = .ok (.ifCond .eq 38, 3) := by decide +kernel
theorem dX12_led_44 : decode cX12_led 44 = .ok (.iconst (-1), 1) := by decide +kernel
theorem dX12_led_45 : decode cX12_led 45 = .ok (.ireturn, 1) := by decide +kernel
theorem dX12_like_0 : decode cX12_like 0 = .ok (.aload_n 0, 1) := by decide +kernel
theorem dX12_like_1 : decode cX12_like 1 = .ok (.iload_n 1, 1) := by decide +kernel
theorem dX12_like_2 : decode cX12_like 2 = .ok (.invokevirtual 249, 3) := by decide +kernel
theorem dX12_like_5 : decode cX12_like 5 = .ok (.ifCond .eq 12, 3) := by decide +kernel
theorem dX12_like_17 : decode cX12_like 17 = .ok (.iconst (-1), 1) := by decide +kernel
theorem dX12_like_18 : decode cX12_like 18 = .ok (.ireturn, 1) := by decide +kernel
theorem dX12_met_0 : decode cX12_met 0 = .ok (.aload_n 0, 1) := by decide +kernel
theorem dX12_met_1 : decode cX12_met 1 = .ok (.iload_n 1, 1) := by decide +kernel
theorem dX12_met_2 : decode cX12_met 2 = .ok (.invokevirtual 249, 3) := by decide +kernel
theorem dX12_met_5 : decode cX12_met 5 = .ok (.ifCond .ne 5, 3) := by decide +kernel
theorem dX12_met_8 : decode cX12_met 8 = .ok (.iconst (-1), 1) := by decide +kernel
theorem dX12_met_9 : decode cX12_met 9 = .ok (.ireturn, 1) := by decide +kernel
theorem dX12_offer_0 : decode cX12_offer 0 = .ok (.aload_n 0, 1) := by decide +kernel
theorem dX12_offer_1 : decode cX12_offer 1 = .ok (.iload_n 1, 1) := by decide +kernel
theorem dX12_offer_2 : decode cX12_offer 2 = .ok (.invokevirtual 249, 3) := by decide +kernel
theorem dX12_offer_5 : decode cX12_offer 5 = .ok (.ifCond .eq 10, 3) := by decide +kernel
theorem dX12_offer_15 : decode cX12_offer 15 = .ok (.iconst (-1), 1) := by decide +kernel
theorem dX12_offer_16 : decode cX12_offer 16 = .ok (.ireturn, 1) := by decide +kernel
theorem dX12_owes_0 : decode cX12_owes 0 = .ok (.aload_n 0, 1) := by decide +kernel
theorem dX12_owes_1 : decode cX12_owes 1 = .ok (.iload_n 1, 1) := by decide +kernel
theorem dX12_owes_2 : decode cX12_owes 2 = .ok (.invokevirtual 249, 3) := by decide +kernel
theorem dX12_owes_5 : decode cX12_owes 5 = .ok (.ifCond .eq 19, 3) := by decide +kernel
theorem dX12_owes_24 : decode cX12_owes 24 = .ok (.iconst 0, 1) := by decide +kernel
theorem dX12_owes_25 : decode cX12_owes 25 = .ok (.ireturn, 1) := by decide +kernel
theorem dX12_part_0 : decode cX12_part 0 = .ok (.aload_n 0, 1) := by decide +kernel
theorem dX12_part_1 : decode cX12_part 1 = .ok (.iload_n 1, 1) := by decide +kernel
theorem dX12_part_2 : decode cX12_part 2 = .ok (.invokevirtual 249, 3) := by decide +kernel
theorem dX12_part_5 : decode cX12_part 5 = .ok (.ifCond .eq 27, 3) := by decide +kernel
theorem dX12_part_32 : decode cX12_part 32 = .ok (.iconst 0, 1) := by decide +kernel
theorem dX12_part_33 : decode cX12_part 33 = .ok (.ireturn, 1) := by decide +kernel
theorem dX12_spread_0 : decode cX12_spread 0 = .ok (.iload_n 1, 1) := by decide +kernel
theorem dX12_spread_1 : decode cX12_spread 1 = .ok (.invokestatic 465, 3) := by decide +kernel
theorem dX12_spread_4 : decode cX12_spread 4 = .ok (.ifCond .eq 12, 3) := by decide +kernel
theorem dX12_spread_7 : decode cX12_spread 7 = .ok (.iload_n 2, 1) := by decide +kernel
theorem dX12_spread_8 : decode cX12_spread 8 = .ok (.iconst 0, 1) := by decide +kernel
theorem dX12_spread_9 : decode cX12_spread 9 = .ok (.iconst 3, 1) := by decide +kernel
theorem dX12_spread_10 : decode cX12_spread 10 = .ok (.invokestatic 241, 3) := by decide +kernel
theorem dX12_spread_13 : decode cX12_spread 13 = .ok (.ifCond .ne 7, 3) := by decide +kernel
theorem dX12_spread_16 : decode cX12_spread 16 = .ok (.ldc_w 476, 3) := by decide +kernel
theorem dX12_spread_19 : decode cX12_spread 19 = .ok (.ireturn, 1) := by decide +kernel
theorem dX12_spread_20 : decode cX12_spread 20 = .ok (.iconst 0, 1) := by decide +kernel
theorem dX12_spread_21 : decode cX12_spread 21 = .ok (.istore_n 3, 1) := by decide +kernel
theorem dX12_spread_22 : decode cX12_spread 22 = .ok (.iconst 0, 1) := by decide +kernel
theorem dX12_spread_23 : decode cX12_spread 23 = .ok (.istore 4, 2) := by decide +kernel
theorem dX12_spread_25 : decode cX12_spread 25 = .ok (.iconst 0, 1) := by decide +kernel
theorem dX12_spread_26 : decode cX12_spread 26 = .ok (.istore 5, 2) := by decide +kernel
theorem dX12_spread_28 : decode cX12_spread 28 = .ok (.iconst 0, 1) := by decide +kernel
theorem dX12_spread_29 : decode cX12_spread 29 = .ok (.istore 6, 2) := by decide +kernel
theorem dX12_spread_31 : decode cX12_spread 31 = .ok (.iload 6, 2) := by decide +kernel
theorem dX12_spread_33 : decode cX12_spread 33 = .ok (.aload_n 0, 1) := by decide +kernel
theorem dX12_spread_34 : decode cX12_spread 34 = .ok (.getfield 470, 3) := by decide +kernel
theorem dX12_spread_37 : decode cX12_spread 37 = .ok (.if_icmp .ge 101, 3) := by decide +kernel
theorem dX12_spread_138 : decode cX12_spread 138 = .ok (.iload_n 3, 1) := by decide +kernel
theorem dX12_spread_139 : decode cX12_spread 139 = .ok (.ifCond .ne 7, 3) := by decide +kernel
theorem dX12_spread_142 : decode cX12_spread 142 = .ok (.ldc_w 476, 3) := by decide +kernel
theorem dX12_spread_145 : decode cX12_spread 145 = .ok (.ireturn, 1) := by decide +kernel
theorem dX12_thing_0 : decode cX12_thing 0 = .ok (.aload_n 0, 1) := by decide +kernel
theorem dX12_thing_1 : decode cX12_thing 1 = .ok (.iload_n 1, 1) := by decide +kernel
theorem dX12_thing_2 : decode cX12_thing 2 = .ok (.iload_n 2, 1) := by decide +kernel
theorem dX12_thing_3 : decode cX12_thing 3 = .ok (.invokevirtual 405, 3) := by decide +kernel
theorem dX12_thing_6 : decode cX12_thing 6 = .ok (.ifCond .eq 12, 3) := by decide +kernel
theorem dX12_thing_18 : decode cX12_thing 18 = .ok (.iconst (-1), 1) := by decide +kernel
theorem dX12_thing_19 : decode cX12_thing 19 = .ok (.ireturn, 1) := by decide +kernel
theorem dX12_undo_0 : decode cX12_undo 0 = .ok (.aload_n 0, 1) := by decide +kernel
theorem dX12_undo_1 : decode cX12_undo 1 = .ok (.getfield 500, 3) := by decide +kernel
theorem dX12_undo_4 : decode cX12_undo 4 = .ok (.ifCond .ne 5, 3) := by decide +kernel
theorem dX12_undo_7 : decode cX12_undo 7 = .ok (.iconst 0, 1) := by decide +kernel
theorem dX12_undo_8 : decode cX12_undo 8 = .ok (.ireturn, 1) := by decide +kernel
set_option maxHeartbeats 4000000 in
set_option maxRecDepth 100000 in
theorem c_X12_isHome (l : Launch) (D : va_G) (cy : Nat → ClassId) (a : Nat → Nat) (i : Nat → Int32) (r : Nat → Nat → Int32) (rl : Nat → Int64) (p0 : Int32) (hf : mZ i) : Met l yX12_isHome (Cond.code yX12_isHome cX12_isHome 2 (some .boolean) :: gT) { frames := 1, cells := 0, slots := 0, locals := 24 } (va_Pc [.ref (a 0), .int p0] (rP D cy (mW cy a i r rl))) (vp_Si (fun z => z = 0)) 0 0 (fun _ => False) := by
  refine Met.ofQ (cc := cX12_isHome) (maxL := 2) (ret := (some .boolean)) (by decide) rfl ?_
  intro p e s m args below meth c s₁ B hml hv Q hQ
  obtain ⟨rfl, hP, hK⟩ := hv
  have hx := B.exec
  have hb := B.bytes
  have hr := B.returns
  have hlocks := B.notSynchronized
  have hT : ∀ w ∈ gT, w.before _ s = true := fun w h => atoms_spec (ws := (Cond.code yX12_isHome cX12_isHome 2 (some .boolean) :: gT)) B.pre w (List.mem_cons_of_mem _ h)
  have hown : s.vm.findClass RX12 = some m.cls := findClass_of_methodNamed B.named
  have hl := lv_entry ([.ref (a 0), .int p0]) (n := 2) (Nat.le_of_ble_eq_true rfl)
  rw [lg_entry_eq]
  generalize (lg_sl ([.ref (a 0), .int p0]) ++ List.replicate (2 - (lg_sl ([.ref (a 0), .int p0])).length) Slot.unset).toArray = ls at hl ⊢
  have hl : lv_has ls 2 [(0, .ref (a 0)), (1, .int p0)] := hl
  refine lv_iload_n hx hb dX12_isHome_0 rfl (lv_at hl 1 rfl) ?_
  refine lv_if_lt (tgt := 16) hx hb dX12_isHome_1 (by decide) (fun c_1 => ?_) (fun c_1 => ?_)
  · have c_1 : p0.toInt < 0 := b_lt c_1
    refine lv_iconst (v := 0) hx hb dX12_isHome_16 (by decide) ?_
    subst hQ
    exact W.zret hx hb hr rfl (fun t ht hW => ⟨_, rfl, rfl, ht⟩) (fun q hq => absurd hq List.not_mem_nil) dX12_isHome_17
  · have c_1 : 0 ≤ p0.toInt := b_nlt c_1
    refine lv_iload_n hx hb dX12_isHome_4 rfl (lv_at hl 1 rfl) ?_
    refine lv_aload_n hx hb dX12_isHome_5 rfl (lv_at hl 0 rfl) ?_
    refine va_get (D := D) (ci := 12) (v := .int 0) (C := RX12) (T := TX12) (N := 91) hx hb hT iX12 hown hK hP 0 rfl rfl 0 (by decide) (hT _ t_5) (fun _ h9 => h9) (congrArg (fun z => some (Value.int z)) (hf.1 0 (by decide))) dX12_isHome_6 ?_
    refine lv_icmp_ge (tgt := 16) hx hb dX12_isHome_9 (by decide) (fun c_2 => ?_) (fun c_2 => by have c_2 : p0.toInt < 0 := b_nle c_2; omega)
    have c_2 : 0 ≤ p0.toInt := b_le c_2
    refine lv_iconst (v := 0) hx hb dX12_isHome_16 (by decide) ?_
    subst hQ
    exact W.zret hx hb hr rfl (fun t ht hW => ⟨_, rfl, rfl, ht⟩) (fun q hq => absurd hq List.not_mem_nil) dX12_isHome_17
set_option maxHeartbeats 4000000 in
set_option maxRecDepth 100000 in
theorem c_X12_isClaim (l : Launch) (D : va_G) (cy : Nat → ClassId) (a : Nat → Nat) (i : Nat → Int32) (r : Nat → Nat → Int32) (rl : Nat → Int64) (p0 : Int32) (hf : mZ i) : Met l yX12_isClaim (Cond.code yX12_isClaim cX12_isClaim 2 (some .boolean) :: gT) { frames := 1, cells := 0, slots := 0, locals := 24 } (va_Pc [.ref (a 0), .int p0] (rP D cy (mW cy a i r rl))) (vp_Si (fun z => z = 0)) 0 0 (fun _ => False) := by
  refine Met.ofQ (cc := cX12_isClaim) (maxL := 2) (ret := (some .boolean)) (by decide) rfl ?_
  intro p e s m args below meth c s₁ B hml hv Q hQ
  obtain ⟨rfl, hP, hK⟩ := hv
  have hx := B.exec
  have hb := B.bytes
  have hr := B.returns
  have hlocks := B.notSynchronized
  have hT : ∀ w ∈ gT, w.before _ s = true := fun w h => atoms_spec (ws := (Cond.code yX12_isClaim cX12_isClaim 2 (some .boolean) :: gT)) B.pre w (List.mem_cons_of_mem _ h)
  have hown : s.vm.findClass RX12 = some m.cls := findClass_of_methodNamed B.named
  have hl := lv_entry ([.ref (a 0), .int p0]) (n := 2) (Nat.le_of_ble_eq_true rfl)
  rw [lg_entry_eq]
  generalize (lg_sl ([.ref (a 0), .int p0]) ++ List.replicate (2 - (lg_sl ([.ref (a 0), .int p0])).length) Slot.unset).toArray = ls at hl ⊢
  have hl : lv_has ls 2 [(0, .ref (a 0)), (1, .int p0)] := hl
  refine lv_iload_n hx hb dX12_isClaim_0 rfl (lv_at hl 1 rfl) ?_
  refine lv_if_lt (tgt := 16) hx hb dX12_isClaim_1 (by decide) (fun c_1 => ?_) (fun c_1 => ?_)
  · have c_1 : p0.toInt < 0 := b_lt c_1
    refine lv_iconst (v := 0) hx hb dX12_isClaim_16 (by decide) ?_
    subst hQ
    exact W.zret hx hb hr rfl (fun t ht hW => ⟨_, rfl, rfl, ht⟩) (fun q hq => absurd hq List.not_mem_nil) dX12_isClaim_17
  · have c_1 : 0 ≤ p0.toInt := b_nlt c_1
    refine lv_iload_n hx hb dX12_isClaim_4 rfl (lv_at hl 1 rfl) ?_
    refine lv_aload_n hx hb dX12_isClaim_5 rfl (lv_at hl 0 rfl) ?_
    refine va_get (D := D) (ci := 12) (v := .int 0) (C := RX12) (T := TX12) (N := 91) hx hb hT iX12 hown hK hP 0 rfl rfl 51 (by decide) (hT _ t_6) (fun _ h9 => h9) (congrArg (fun z => some (Value.int z)) (hf.1 51 (by decide))) dX12_isClaim_6 ?_
    refine lv_icmp_ge (tgt := 16) hx hb dX12_isClaim_9 (by decide) (fun c_2 => ?_) (fun c_2 => by have c_2 : p0.toInt < 0 := b_nle c_2; omega)
    have c_2 : 0 ≤ p0.toInt := b_le c_2
    refine lv_iconst (v := 0) hx hb dX12_isClaim_16 (by decide) ?_
    subst hQ
    exact W.zret hx hb hr rfl (fun t ht hW => ⟨_, rfl, rfl, ht⟩) (fun q hq => absurd hq List.not_mem_nil) dX12_isClaim_17
set_option maxHeartbeats 4000000 in
set_option maxRecDepth 100000 in
theorem c_X12_isFirst (l : Launch) (D : va_G) (cy : Nat → ClassId) (a : Nat → Nat) (i : Nat → Int32) (r : Nat → Nat → Int32) (rl : Nat → Int64) (p0 p1 : Int32) (hf : mZ i) : Met l yX12_isFirst (Cond.code yX12_isFirst cX12_isFirst 3 (some .boolean) :: gT) { frames := 2, cells := 0, slots := 0, locals := 45 } (va_Pc [.ref (a 0), .int p0, .int p1] (rP D cy (mW cy a i r rl))) (vp_Si (fun z => z = 0)) 0 0 (fun _ => False) := by
  refine Met.ofQ (cc := cX12_isFirst) (maxL := 3) (ret := (some .boolean)) (by decide) rfl ?_
  intro p e s m args below meth c s₁ B hml hv Q hQ
  obtain ⟨rfl, hP, hK⟩ := hv
  have hx := B.exec
  have hb := B.bytes
  have hr := B.returns
  have hlocks := B.notSynchronized
  have hT : ∀ w ∈ gT, w.before _ s = true := fun w h => atoms_spec (ws := (Cond.code yX12_isFirst cX12_isFirst 3 (some .boolean) :: gT)) B.pre w (List.mem_cons_of_mem _ h)
  have hown : s.vm.findClass RX12 = some m.cls := findClass_of_methodNamed B.named
  have hl := lv_entry ([.ref (a 0), .int p0, .int p1]) (n := 3) (Nat.le_of_ble_eq_true rfl)
  rw [lg_entry_eq]
  generalize (lg_sl ([.ref (a 0), .int p0, .int p1]) ++ List.replicate (3 - (lg_sl ([.ref (a 0), .int p0, .int p1])).length) Slot.unset).toArray = ls at hl ⊢
  have hl : lv_has ls 3 [(0, .ref (a 0)), (1, .int p0), (2, .int p1)] := hl
  refine lv_aload_n hx hb dX12_isFirst_0 rfl (lv_at hl 0 rfl) ?_
  refine lv_iload_n hx hb dX12_isFirst_1 rfl (lv_at hl 1 rfl) ?_
  refine vp_callSi (W.runV (As := [.int p0]) (rest := []) ⟨hx, hb, hml, hown, hT⟩ (c_X12_isHome l D cy a i r rl p0 hf) (cwV 1 hT (gV t_7 t_9 t_10 t_11 t_8) rfl rfl rfl (by decide +kernel) ⟨Nat.le_of_ble_eq_true rfl, Nat.le_of_ble_eq_true rfl⟩) (rP_v hP hK (va_recv hK hP (ci := 12) (q0 := 0) rfl rfl)) rfl rfl hl.1 rfl (lv_room (Nat.le_of_ble_eq_true rfl)) dX12_isFirst_2 ⟨Nat.le_of_ble_eq_true rfl, Nat.le_of_ble_eq_true rfl⟩) (fun r_1 hr_1 => ?_)
  subst hr_1
  refine lv_if_eq (tgt := 26) hx hb dX12_isFirst_5 (by decide) (fun c_2 => ?_) (fun c_2 => absurd (by decide) c_2)
  refine lv_iconst (v := 0) hx hb dX12_isFirst_26 (by decide) ?_
  subst hQ
  exact W.zret hx hb hr rfl (fun t ht hW => ⟨_, rfl, rfl, ht⟩) (fun q hq => absurd hq List.not_mem_nil) dX12_isFirst_27
set_option maxHeartbeats 4000000 in
set_option maxRecDepth 100000 in
theorem c_X12_part (l : Launch) (D : va_G) (cy : Nat → ClassId) (a : Nat → Nat) (i : Nat → Int32) (r : Nat → Nat → Int32) (rl : Nat → Int64) (p0 p1 p2 : Int32) (hf : mZ i) : Met l yX12_part (Cond.code yX12_part cX12_part 4 (some .boolean) :: gT) { frames := 2, cells := 0, slots := 0, locals := 45 } (va_Pc [.ref (a 0), .int p0, .int p1, .int p2] (rP D cy (mW cy a i r rl))) (vp_Si (fun z => z = 0)) 0 0 (fun _ => False) := by
  refine Met.ofQ (cc := cX12_part) (maxL := 4) (ret := (some .boolean)) (by decide) rfl ?_
  intro p e s m args below meth c s₁ B hml hv Q hQ
  obtain ⟨rfl, hP, hK⟩ := hv
  have hx := B.exec
  have hb := B.bytes
  have hr := B.returns
  have hlocks := B.notSynchronized
  have hT : ∀ w ∈ gT, w.before _ s = true := fun w h => atoms_spec (ws := (Cond.code yX12_part cX12_part 4 (some .boolean) :: gT)) B.pre w (List.mem_cons_of_mem _ h)
  have hown : s.vm.findClass RX12 = some m.cls := findClass_of_methodNamed B.named
  have hl := lv_entry ([.ref (a 0), .int p0, .int p1, .int p2]) (n := 4) (Nat.le_of_ble_eq_true rfl)
  rw [lg_entry_eq]
  generalize (lg_sl ([.ref (a 0), .int p0, .int p1, .int p2]) ++ List.replicate (4 - (lg_sl ([.ref (a 0), .int p0, .int p1, .int p2])).length) Slot.unset).toArray = ls at hl ⊢
  have hl : lv_has ls 4 [(0, .ref (a 0)), (1, .int p0), (2, .int p1), (3, .int p2)] := hl
  refine lv_aload_n hx hb dX12_part_0 rfl (lv_at hl 0 rfl) ?_
  refine lv_iload_n hx hb dX12_part_1 rfl (lv_at hl 1 rfl) ?_
  refine vp_callSi (W.runV (As := [.int p0]) (rest := []) ⟨hx, hb, hml, hown, hT⟩ (c_X12_isHome l D cy a i r rl p0 hf) (cwV 1 hT (gV t_7 t_9 t_10 t_11 t_8) rfl rfl rfl (by decide +kernel) ⟨Nat.le_of_ble_eq_true rfl, Nat.le_of_ble_eq_true rfl⟩) (rP_v hP hK (va_recv hK hP (ci := 12) (q0 := 0) rfl rfl)) rfl rfl hl.1 rfl (lv_room (Nat.le_of_ble_eq_true rfl)) dX12_part_2 ⟨Nat.le_of_ble_eq_true rfl, Nat.le_of_ble_eq_true rfl⟩) (fun r_1 hr_1 => ?_)
  subst hr_1
  refine lv_if_eq (tgt := 32) hx hb dX12_part_5 (by decide) (fun c_2 => ?_) (fun c_2 => absurd (by decide) c_2)
  refine lv_iconst (v := 0) hx hb dX12_part_32 (by decide) ?_
  subst hQ
  exact W.zret hx hb hr rfl (fun t ht hW => ⟨_, rfl, rfl, ht⟩) (fun q hq => absurd hq List.not_mem_nil) dX12_part_33
set_option maxHeartbeats 4000000 in
set_option maxRecDepth 100000 in
theorem c_X12_owes (l : Launch) (D : va_G) (cy : Nat → ClassId) (a : Nat → Nat) (i : Nat → Int32) (r : Nat → Nat → Int32) (rl : Nat → Int64) (p0 p1 p2 : Int32) (hf : mZ i) : Met l yX12_owes (Cond.code yX12_owes cX12_owes 4 (some .boolean) :: gT) { frames := 2, cells := 0, slots := 0, locals := 45 } (va_Pc [.ref (a 0), .int p0, .int p1, .int p2] (rP D cy (mW cy a i r rl))) (vp_Si (fun z => z = 0)) 0 0 (fun _ => False) := by
  refine Met.ofQ (cc := cX12_owes) (maxL := 4) (ret := (some .boolean)) (by decide) rfl ?_
  intro p e s m args below meth c s₁ B hml hv Q hQ
  obtain ⟨rfl, hP, hK⟩ := hv
  have hx := B.exec
  have hb := B.bytes
  have hr := B.returns
  have hlocks := B.notSynchronized
  have hT : ∀ w ∈ gT, w.before _ s = true := fun w h => atoms_spec (ws := (Cond.code yX12_owes cX12_owes 4 (some .boolean) :: gT)) B.pre w (List.mem_cons_of_mem _ h)
  have hown : s.vm.findClass RX12 = some m.cls := findClass_of_methodNamed B.named
  have hl := lv_entry ([.ref (a 0), .int p0, .int p1, .int p2]) (n := 4) (Nat.le_of_ble_eq_true rfl)
  rw [lg_entry_eq]
  generalize (lg_sl ([.ref (a 0), .int p0, .int p1, .int p2]) ++ List.replicate (4 - (lg_sl ([.ref (a 0), .int p0, .int p1, .int p2])).length) Slot.unset).toArray = ls at hl ⊢
  have hl : lv_has ls 4 [(0, .ref (a 0)), (1, .int p0), (2, .int p1), (3, .int p2)] := hl
  refine lv_aload_n hx hb dX12_owes_0 rfl (lv_at hl 0 rfl) ?_
  refine lv_iload_n hx hb dX12_owes_1 rfl (lv_at hl 1 rfl) ?_
  refine vp_callSi (W.runV (As := [.int p0]) (rest := []) ⟨hx, hb, hml, hown, hT⟩ (c_X12_isHome l D cy a i r rl p0 hf) (cwV 1 hT (gV t_7 t_9 t_10 t_11 t_8) rfl rfl rfl (by decide +kernel) ⟨Nat.le_of_ble_eq_true rfl, Nat.le_of_ble_eq_true rfl⟩) (rP_v hP hK (va_recv hK hP (ci := 12) (q0 := 0) rfl rfl)) rfl rfl hl.1 rfl (lv_room (Nat.le_of_ble_eq_true rfl)) dX12_owes_2 ⟨Nat.le_of_ble_eq_true rfl, Nat.le_of_ble_eq_true rfl⟩) (fun r_1 hr_1 => ?_)
  subst hr_1
  refine lv_if_eq (tgt := 24) hx hb dX12_owes_5 (by decide) (fun c_2 => ?_) (fun c_2 => absurd (by decide) c_2)
  refine lv_iconst (v := 0) hx hb dX12_owes_24 (by decide) ?_
  subst hQ
  exact W.zret hx hb hr rfl (fun t ht hW => ⟨_, rfl, rfl, ht⟩) (fun q hq => absurd hq List.not_mem_nil) dX12_owes_25
set_option maxHeartbeats 4000000 in
set_option maxRecDepth 100000 in
theorem c_X12_first (l : Launch) (D : va_G) (cy : Nat → ClassId) (a : Nat → Nat) (i : Nat → Int32) (r : Nat → Nat → Int32) (rl : Nat → Int64) (p0 p1 p2 p3 p4 : Int32) (hf : mZ i) : Met l yX12_first (Cond.code yX12_first cX12_first 7 (some .int) :: gT) { frames := 2, cells := 0, slots := 0, locals := 45 } (va_Pc [.ref (a 0), .int p0, .int p1, .int p2, .int p3, .int p4] (rP D cy (mW cy a i r rl))) (vp_Si (fun z => z = (-1))) 0 0 (fun _ => False) := by
  refine Met.ofQ (cc := cX12_first) (maxL := 7) (ret := (some .int)) (by decide) rfl ?_
  intro p e s m args below meth c s₁ B hml hv Q hQ
  obtain ⟨rfl, hP, hK⟩ := hv
  have hx := B.exec
  have hb := B.bytes
  have hr := B.returns
  have hlocks := B.notSynchronized
  have hT : ∀ w ∈ gT, w.before _ s = true := fun w h => atoms_spec (ws := (Cond.code yX12_first cX12_first 7 (some .int) :: gT)) B.pre w (List.mem_cons_of_mem _ h)
  have hown : s.vm.findClass RX12 = some m.cls := findClass_of_methodNamed B.named
  have hl := lv_entry ([.ref (a 0), .int p0, .int p1, .int p2, .int p3, .int p4]) (n := 7) (Nat.le_of_ble_eq_true rfl)
  rw [lg_entry_eq]
  generalize (lg_sl ([.ref (a 0), .int p0, .int p1, .int p2, .int p3, .int p4]) ++ List.replicate (7 - (lg_sl ([.ref (a 0), .int p0, .int p1, .int p2, .int p3, .int p4])).length) Slot.unset).toArray = ls at hl ⊢
  have hl : lv_has ls 7 [(0, .ref (a 0)), (1, .int p0), (2, .int p1), (3, .int p2), (4, .int p3), (5, .int p4)] := hl
  refine lv_aload_n hx hb dX12_first_0 rfl (lv_at hl 0 rfl) ?_
  refine lv_iload_n hx hb dX12_first_1 rfl (lv_at hl 1 rfl) ?_
  refine vp_callSi (W.runV (As := [.int p0]) (rest := []) ⟨hx, hb, hml, hown, hT⟩ (c_X12_isHome l D cy a i r rl p0 hf) (cwV 1 hT (gV t_7 t_9 t_10 t_11 t_8) rfl rfl rfl (by decide +kernel) ⟨Nat.le_of_ble_eq_true rfl, Nat.le_of_ble_eq_true rfl⟩) (rP_v hP hK (va_recv hK hP (ci := 12) (q0 := 0) rfl rfl)) rfl rfl hl.1 rfl (lv_room (Nat.le_of_ble_eq_true rfl)) dX12_first_2 ⟨Nat.le_of_ble_eq_true rfl, Nat.le_of_ble_eq_true rfl⟩) (fun r_1 hr_1 => ?_)
  subst hr_1
  refine lv_if_eq (tgt := 41) hx hb dX12_first_5 (by decide) (fun c_2 => ?_) (fun c_2 => absurd (by decide) c_2)
  refine lv_iconst (v := (-1)) hx hb dX12_first_41 (by decide) ?_
  subst hQ
  exact W.iret (v := (-1)) hx hb hr (fun t ht hW => ⟨_, rfl, rfl, ht⟩) (fun q hq => absurd hq List.not_mem_nil) dX12_first_42
set_option maxHeartbeats 4000000 in
set_option maxRecDepth 100000 in
theorem c_X12_last (l : Launch) (D : va_G) (cy : Nat → ClassId) (a : Nat → Nat) (i : Nat → Int32) (r : Nat → Nat → Int32) (rl : Nat → Int64) (p0 p1 p2 p3 : Int32) (hf : mZ i) : Met l yX12_last (Cond.code yX12_last cX12_last 6 (some .int) :: gT) { frames := 2, cells := 0, slots := 0, locals := 45 } (va_Pc [.ref (a 0), .int p0, .int p1, .int p2, .int p3] (rP D cy (mW cy a i r rl))) (vp_Si (fun z => z = (-1))) 0 0 (fun _ => False) := by
  refine Met.ofQ (cc := cX12_last) (maxL := 6) (ret := (some .int)) (by decide) rfl ?_
  intro p e s m args below meth c s₁ B hml hv Q hQ
  obtain ⟨rfl, hP, hK⟩ := hv
  have hx := B.exec
  have hb := B.bytes
  have hr := B.returns
  have hlocks := B.notSynchronized
  have hT : ∀ w ∈ gT, w.before _ s = true := fun w h => atoms_spec (ws := (Cond.code yX12_last cX12_last 6 (some .int) :: gT)) B.pre w (List.mem_cons_of_mem _ h)
  have hown : s.vm.findClass RX12 = some m.cls := findClass_of_methodNamed B.named
  have hl := lv_entry ([.ref (a 0), .int p0, .int p1, .int p2, .int p3]) (n := 6) (Nat.le_of_ble_eq_true rfl)
  rw [lg_entry_eq]
  generalize (lg_sl ([.ref (a 0), .int p0, .int p1, .int p2, .int p3]) ++ List.replicate (6 - (lg_sl ([.ref (a 0), .int p0, .int p1, .int p2, .int p3])).length) Slot.unset).toArray = ls at hl ⊢
  have hl : lv_has ls 6 [(0, .ref (a 0)), (1, .int p0), (2, .int p1), (3, .int p2), (4, .int p3)] := hl
  refine lv_aload_n hx hb dX12_last_0 rfl (lv_at hl 0 rfl) ?_
  refine lv_iload_n hx hb dX12_last_1 rfl (lv_at hl 1 rfl) ?_
  refine vp_callSi (W.runV (As := [.int p0]) (rest := []) ⟨hx, hb, hml, hown, hT⟩ (c_X12_isHome l D cy a i r rl p0 hf) (cwV 1 hT (gV t_7 t_9 t_10 t_11 t_8) rfl rfl rfl (by decide +kernel) ⟨Nat.le_of_ble_eq_true rfl, Nat.le_of_ble_eq_true rfl⟩) (rP_v hP hK (va_recv hK hP (ci := 12) (q0 := 0) rfl rfl)) rfl rfl hl.1 rfl (lv_room (Nat.le_of_ble_eq_true rfl)) dX12_last_2 ⟨Nat.le_of_ble_eq_true rfl, Nat.le_of_ble_eq_true rfl⟩) (fun r_1 hr_1 => ?_)
  subst hr_1
  refine lv_if_eq (tgt := 29) hx hb dX12_last_5 (by decide) (fun c_2 => ?_) (fun c_2 => absurd (by decide) c_2)
  refine lv_iconst (v := (-1)) hx hb dX12_last_29 (by decide) ?_
  subst hQ
  exact W.iret (v := (-1)) hx hb hr (fun t ht hW => ⟨_, rfl, rfl, ht⟩) (fun q hq => absurd hq List.not_mem_nil) dX12_last_30
set_option maxHeartbeats 4000000 in
set_option maxRecDepth 100000 in
theorem c_X12_law (l : Launch) (D : va_G) (cy : Nat → ClassId) (a : Nat → Nat) (i : Nat → Int32) (r : Nat → Nat → Int32) (rl : Nat → Int64) (p0 : Int32) (hf : mZ i) : Met l yX12_law (Cond.code yX12_law cX12_law 4 (some .int) :: gT) { frames := 2, cells := 0, slots := 0, locals := 46 } (va_Pc [.ref (a 0), .int p0] (rP D cy (mW cy a i r rl))) (vp_Si (fun z => z = (-1))) 0 0 (fun _ => False) := by
  refine Met.ofQ (cc := cX12_law) (maxL := 4) (ret := (some .int)) (by decide) rfl ?_
  intro p e s m args below meth c s₁ B hml hv Q hQ
  obtain ⟨rfl, hP, hK⟩ := hv
  have hx := B.exec
  have hb := B.bytes
  have hr := B.returns
  have hlocks := B.notSynchronized
  have hT : ∀ w ∈ gT, w.before _ s = true := fun w h => atoms_spec (ws := (Cond.code yX12_law cX12_law 4 (some .int) :: gT)) B.pre w (List.mem_cons_of_mem _ h)
  have hown : s.vm.findClass RX12 = some m.cls := findClass_of_methodNamed B.named
  have hl := lv_entry ([.ref (a 0), .int p0]) (n := 4) (Nat.le_of_ble_eq_true rfl)
  rw [lg_entry_eq]
  generalize (lg_sl ([.ref (a 0), .int p0]) ++ List.replicate (4 - (lg_sl ([.ref (a 0), .int p0])).length) Slot.unset).toArray = ls at hl ⊢
  have hl : lv_has ls 4 [(0, .ref (a 0)), (1, .int p0)] := hl
  refine lv_iload_n hx hb dX12_law_0 rfl (lv_at hl 1 rfl) ?_
  refine lv_iconst (v := 1) hx hb dX12_law_1 (by decide) ?_
  refine lv_sipush (v := 200) hx hb dX12_law_2 (by decide) ?_
  refine vp_callSi (W.runS (As := [.int p0, .int 1, .int 200]) (rest := []) ⟨hx, hb, hml, hown, hT⟩ (c_X12_in l p0 1 200) (va_cwS 3 hT (gS t_12 t_13 t_14 t_8) rfl rfl rfl (by decide +kernel) ⟨Nat.le_of_ble_eq_true rfl, Nat.le_of_ble_eq_true rfl⟩) preT rfl rfl hl.1 rfl (lv_room (Nat.le_of_ble_eq_true rfl)) dX12_law_5 ⟨Nat.le_of_ble_eq_true rfl, Nat.le_of_ble_eq_true rfl⟩) (fun r_1 hr_1 => ?_)
  have hr_1 : BR r_1 (1 ≤ p0.toInt ∧ p0.toInt ≤ 200) 1 0 := hr_1
  rcases hr_1 with ⟨rfl, h_2⟩ | ⟨rfl, h_2⟩
  · skip
    refine lv_if_eq (tgt := 19) hx hb dX12_law_8 (by decide) (fun c_3 => absurd c_3 (by decide)) (fun c_3 => ?_)
    refine lv_iload_n hx hb dX12_law_11 rfl (lv_at hl 1 rfl) ?_
    refine lv_aload_n hx hb dX12_law_12 rfl (lv_at hl 0 rfl) ?_
    refine va_get (D := D) (ci := 12) (v := .int 0) (C := RX12) (T := TX12) (N := 91) hx hb hT iX12 hown hK hP 0 rfl rfl 22 (by decide) (hT _ t_15) (fun _ h9 => h9) (congrArg (fun z => some (Value.int z)) (hf.1 22 (by decide))) dX12_law_13 ?_
    refine lv_icmp_le (tgt := 21) hx hb dX12_law_16 (by decide) (fun c_4 => by have c_4 : p0.toInt ≤ 0 := b_le c_4; omega) (fun c_4 => ?_)
    have c_4 : 0 < p0.toInt := b_nle c_4
    refine lv_iconst (v := (-1)) hx hb dX12_law_19 (by decide) ?_
    subst hQ
    exact W.iret (v := (-1)) hx hb hr (fun t ht hW => ⟨_, rfl, rfl, ht⟩) (fun q hq => absurd hq List.not_mem_nil) dX12_law_20
  · skip
    refine lv_if_eq (tgt := 19) hx hb dX12_law_8 (by decide) (fun c_5 => ?_) (fun c_5 => absurd (by decide) c_5)
    refine lv_iconst (v := (-1)) hx hb dX12_law_19 (by decide) ?_
    subst hQ
    exact W.iret (v := (-1)) hx hb hr (fun t ht hW => ⟨_, rfl, rfl, ht⟩) (fun q hq => absurd hq List.not_mem_nil) dX12_law_20
set_option maxHeartbeats 4000000 in
set_option maxRecDepth 100000 in
theorem c_X12_thing (l : Launch) (D : va_G) (cy : Nat → ClassId) (a : Nat → Nat) (i : Nat → Int32) (r : Nat → Nat → Int32) (rl : Nat → Int64) (p0 p1 p2 : Int32) (hf : mZ i) : Met l yX12_thing (Cond.code yX12_thing cX12_thing 4 (some .int) :: gT) { frames := 3, cells := 0, slots := 0, locals := 67 } (va_Pc [.ref (a 0), .int p0, .int p1, .int p2] (rP D cy (mW cy a i r rl))) (vp_Si (fun z => z = (-1))) 0 0 (fun _ => False) := by
  refine Met.ofQ (cc := cX12_thing) (maxL := 4) (ret := (some .int)) (by decide) rfl ?_
  intro p e s m args below meth c s₁ B hml hv Q hQ
  obtain ⟨rfl, hP, hK⟩ := hv
  have hx := B.exec
  have hb := B.bytes
  have hr := B.returns
  have hlocks := B.notSynchronized
  have hT : ∀ w ∈ gT, w.before _ s = true := fun w h => atoms_spec (ws := (Cond.code yX12_thing cX12_thing 4 (some .int) :: gT)) B.pre w (List.mem_cons_of_mem _ h)
  have hown : s.vm.findClass RX12 = some m.cls := findClass_of_methodNamed B.named
  have hl := lv_entry ([.ref (a 0), .int p0, .int p1, .int p2]) (n := 4) (Nat.le_of_ble_eq_true rfl)
  rw [lg_entry_eq]
  generalize (lg_sl ([.ref (a 0), .int p0, .int p1, .int p2]) ++ List.replicate (4 - (lg_sl ([.ref (a 0), .int p0, .int p1, .int p2])).length) Slot.unset).toArray = ls at hl ⊢
  have hl : lv_has ls 4 [(0, .ref (a 0)), (1, .int p0), (2, .int p1), (3, .int p2)] := hl
  refine lv_aload_n hx hb dX12_thing_0 rfl (lv_at hl 0 rfl) ?_
  refine lv_iload_n hx hb dX12_thing_1 rfl (lv_at hl 1 rfl) ?_
  refine lv_iload_n hx hb dX12_thing_2 rfl (lv_at hl 2 rfl) ?_
  refine vp_callSi (W.runV (As := [.int p0, .int p1]) (rest := []) ⟨hx, hb, hml, hown, hT⟩ (c_X12_isFirst l D cy a i r rl p0 p1 hf) (cwV 2 hT (gV t_16 t_17 t_18 t_19 t_8) rfl rfl rfl (by decide +kernel) ⟨Nat.le_of_ble_eq_true rfl, Nat.le_of_ble_eq_true rfl⟩) (rP_v hP hK (va_recv hK hP (ci := 12) (q0 := 0) rfl rfl)) rfl rfl hl.1 rfl (lv_room (Nat.le_of_ble_eq_true rfl)) dX12_thing_3 ⟨Nat.le_of_ble_eq_true rfl, Nat.le_of_ble_eq_true rfl⟩) (fun r_1 hr_1 => ?_)
  subst hr_1
  refine lv_if_eq (tgt := 18) hx hb dX12_thing_6 (by decide) (fun c_2 => ?_) (fun c_2 => absurd (by decide) c_2)
  refine lv_iconst (v := (-1)) hx hb dX12_thing_18 (by decide) ?_
  subst hQ
  exact W.iret (v := (-1)) hx hb hr (fun t ht hW => ⟨_, rfl, rfl, ht⟩) (fun q hq => absurd hq List.not_mem_nil) dX12_thing_19
set_option maxHeartbeats 4000000 in
set_option maxRecDepth 100000 in
theorem c_X12_isNew (l : Launch) (D : va_G) (cy : Nat → ClassId) (a : Nat → Nat) (i : Nat → Int32) (r : Nat → Nat → Int32) (rl : Nat → Int64) (p0 p1 : Int32) (hf : mZ i) : Met l yX12_isNew (Cond.code yX12_isNew cX12_isNew 3 (some .int) :: gT) { frames := 2, cells := 0, slots := 0, locals := 45 } (va_Pc [.ref (a 0), .int p0, .int p1] (rP D cy (mW cy a i r rl))) (vp_Si (fun z => z = (-1))) 0 0 (fun _ => False) := by
  refine Met.ofQ (cc := cX12_isNew) (maxL := 3) (ret := (some .int)) (by decide) rfl ?_
  intro p e s m args below meth c s₁ B hml hv Q hQ
  obtain ⟨rfl, hP, hK⟩ := hv
  have hx := B.exec
  have hb := B.bytes
  have hr := B.returns
  have hlocks := B.notSynchronized
  have hT : ∀ w ∈ gT, w.before _ s = true := fun w h => atoms_spec (ws := (Cond.code yX12_isNew cX12_isNew 3 (some .int) :: gT)) B.pre w (List.mem_cons_of_mem _ h)
  have hown : s.vm.findClass RX12 = some m.cls := findClass_of_methodNamed B.named
  have hl := lv_entry ([.ref (a 0), .int p0, .int p1]) (n := 3) (Nat.le_of_ble_eq_true rfl)
  rw [lg_entry_eq]
  generalize (lg_sl ([.ref (a 0), .int p0, .int p1]) ++ List.replicate (3 - (lg_sl ([.ref (a 0), .int p0, .int p1])).length) Slot.unset).toArray = ls at hl ⊢
  have hl : lv_has ls 3 [(0, .ref (a 0)), (1, .int p0), (2, .int p1)] := hl
  refine lv_aload_n hx hb dX12_isNew_0 rfl (lv_at hl 0 rfl) ?_
  refine lv_iload_n hx hb dX12_isNew_1 rfl (lv_at hl 1 rfl) ?_
  refine vp_callSi (W.runV (As := [.int p0]) (rest := []) ⟨hx, hb, hml, hown, hT⟩ (c_X12_isHome l D cy a i r rl p0 hf) (cwV 1 hT (gV t_7 t_9 t_10 t_11 t_8) rfl rfl rfl (by decide +kernel) ⟨Nat.le_of_ble_eq_true rfl, Nat.le_of_ble_eq_true rfl⟩) (rP_v hP hK (va_recv hK hP (ci := 12) (q0 := 0) rfl rfl)) rfl rfl hl.1 rfl (lv_room (Nat.le_of_ble_eq_true rfl)) dX12_isNew_2 ⟨Nat.le_of_ble_eq_true rfl, Nat.le_of_ble_eq_true rfl⟩) (fun r_1 hr_1 => ?_)
  subst hr_1
  refine lv_if_eq (tgt := 22) hx hb dX12_isNew_5 (by decide) (fun c_2 => ?_) (fun c_2 => absurd (by decide) c_2)
  refine lv_iconst (v := (-1)) hx hb dX12_isNew_22 (by decide) ?_
  subst hQ
  exact W.iret (v := (-1)) hx hb hr (fun t ht hW => ⟨_, rfl, rfl, ht⟩) (fun q hq => absurd hq List.not_mem_nil) dX12_isNew_23
set_option maxHeartbeats 4000000 in
set_option maxRecDepth 100000 in
theorem c_X12_led (l : Launch) (D : va_G) (cy : Nat → ClassId) (a : Nat → Nat) (i : Nat → Int32) (r : Nat → Nat → Int32) (rl : Nat → Int64) (p0 p1 p2 : Int32) (hf : mZ i) : Met l yX12_led (Cond.code yX12_led cX12_led 4 (some .int) :: gT) { frames := 3, cells := 0, slots := 0, locals := 67 } (va_Pc [.ref (a 0), .int p0, .int p1, .int p2] (rP D cy (mW cy a i r rl))) (vp_Si (fun z => z = (-1))) 0 0 (fun _ => False) := by
  refine Met.ofQ (cc := cX12_led) (maxL := 4) (ret := (some .int)) (by decide) rfl ?_
  intro p e s m args below meth c s₁ B hml hv Q hQ
  obtain ⟨rfl, hP, hK⟩ := hv
  have hx := B.exec
  have hb := B.bytes
  have hr := B.returns
  have hlocks := B.notSynchronized
  have hT : ∀ w ∈ gT, w.before _ s = true := fun w h => atoms_spec (ws := (Cond.code yX12_led cX12_led 4 (some .int) :: gT)) B.pre w (List.mem_cons_of_mem _ h)
  have hown : s.vm.findClass RX12 = some m.cls := findClass_of_methodNamed B.named
  have hl := lv_entry ([.ref (a 0), .int p0, .int p1, .int p2]) (n := 4) (Nat.le_of_ble_eq_true rfl)
  rw [lg_entry_eq]
  generalize (lg_sl ([.ref (a 0), .int p0, .int p1, .int p2]) ++ List.replicate (4 - (lg_sl ([.ref (a 0), .int p0, .int p1, .int p2])).length) Slot.unset).toArray = ls at hl ⊢
  have hl : lv_has ls 4 [(0, .ref (a 0)), (1, .int p0), (2, .int p1), (3, .int p2)] := hl
  refine lv_aload_n hx hb dX12_led_0 rfl (lv_at hl 0 rfl) ?_
  refine lv_iload_n hx hb dX12_led_1 rfl (lv_at hl 1 rfl) ?_
  refine lv_iload_n hx hb dX12_led_2 rfl (lv_at hl 2 rfl) ?_
  refine vp_callSi (W.runV (As := [.int p0, .int p1]) (rest := []) ⟨hx, hb, hml, hown, hT⟩ (c_X12_isFirst l D cy a i r rl p0 p1 hf) (cwV 2 hT (gV t_16 t_17 t_18 t_19 t_8) rfl rfl rfl (by decide +kernel) ⟨Nat.le_of_ble_eq_true rfl, Nat.le_of_ble_eq_true rfl⟩) (rP_v hP hK (va_recv hK hP (ci := 12) (q0 := 0) rfl rfl)) rfl rfl hl.1 rfl (lv_room (Nat.le_of_ble_eq_true rfl)) dX12_led_3 ⟨Nat.le_of_ble_eq_true rfl, Nat.le_of_ble_eq_true rfl⟩) (fun r_1 hr_1 => ?_)
  subst hr_1
  refine lv_if_eq (tgt := 44) hx hb dX12_led_6 (by decide) (fun c_2 => ?_) (fun c_2 => absurd (by decide) c_2)
  refine lv_iconst (v := (-1)) hx hb dX12_led_44 (by decide) ?_
  subst hQ
  exact W.iret (v := (-1)) hx hb hr (fun t ht hW => ⟨_, rfl, rfl, ht⟩) (fun q hq => absurd hq List.not_mem_nil) dX12_led_45
set_option maxHeartbeats 4000000 in
set_option maxRecDepth 100000 in
theorem c_X12_claim (l : Launch) (D : va_G) (cy : Nat → ClassId) (a : Nat → Nat) (i : Nat → Int32) (r : Nat → Nat → Int32) (rl : Nat → Int64) (p0 p1 p2 p3 p4 : Int32) (hf : mZ i) : Met l yX12_claim (Cond.code yX12_claim cX12_claim 7 (some .int) :: gT) { frames := 3, cells := 0, slots := 0, locals := 67 } (va_Pc [.ref (a 0), .int p0, .int p1, .int p2, .int p3, .int p4] (rP D cy (mW cy a i r rl))) (vp_Si (fun z => z = (-1))) 0 0 (fun _ => False) := by
  refine Met.ofQ (cc := cX12_claim) (maxL := 7) (ret := (some .int)) (by decide) rfl ?_
  intro p e s m args below meth c s₁ B hml hv Q hQ
  obtain ⟨rfl, hP, hK⟩ := hv
  have hx := B.exec
  have hb := B.bytes
  have hr := B.returns
  have hlocks := B.notSynchronized
  have hT : ∀ w ∈ gT, w.before _ s = true := fun w h => atoms_spec (ws := (Cond.code yX12_claim cX12_claim 7 (some .int) :: gT)) B.pre w (List.mem_cons_of_mem _ h)
  have hown : s.vm.findClass RX12 = some m.cls := findClass_of_methodNamed B.named
  have hl := lv_entry ([.ref (a 0), .int p0, .int p1, .int p2, .int p3, .int p4]) (n := 7) (Nat.le_of_ble_eq_true rfl)
  rw [lg_entry_eq]
  generalize (lg_sl ([.ref (a 0), .int p0, .int p1, .int p2, .int p3, .int p4]) ++ List.replicate (7 - (lg_sl ([.ref (a 0), .int p0, .int p1, .int p2, .int p3, .int p4])).length) Slot.unset).toArray = ls at hl ⊢
  have hl : lv_has ls 7 [(0, .ref (a 0)), (1, .int p0), (2, .int p1), (3, .int p2), (4, .int p3), (5, .int p4)] := hl
  refine lv_aload_n hx hb dX12_claim_0 rfl (lv_at hl 0 rfl) ?_
  refine lv_iload_n hx hb dX12_claim_1 rfl (lv_at hl 1 rfl) ?_
  refine lv_iload_n hx hb dX12_claim_2 rfl (lv_at hl 2 rfl) ?_
  refine vp_callSi (W.runV (As := [.int p0, .int p1]) (rest := []) ⟨hx, hb, hml, hown, hT⟩ (c_X12_isFirst l D cy a i r rl p0 p1 hf) (cwV 2 hT (gV t_16 t_17 t_18 t_19 t_8) rfl rfl rfl (by decide +kernel) ⟨Nat.le_of_ble_eq_true rfl, Nat.le_of_ble_eq_true rfl⟩) (rP_v hP hK (va_recv hK hP (ci := 12) (q0 := 0) rfl rfl)) rfl rfl hl.1 rfl (lv_room (Nat.le_of_ble_eq_true rfl)) dX12_claim_3 ⟨Nat.le_of_ble_eq_true rfl, Nat.le_of_ble_eq_true rfl⟩) (fun r_1 hr_1 => ?_)
  subst hr_1
  refine lv_if_eq (tgt := 47) hx hb dX12_claim_6 (by decide) (fun c_2 => ?_) (fun c_2 => absurd (by decide) c_2)
  refine lv_iconst (v := (-1)) hx hb dX12_claim_47 (by decide) ?_
  subst hQ
  exact W.iret (v := (-1)) hx hb hr (fun t ht hW => ⟨_, rfl, rfl, ht⟩) (fun q hq => absurd hq List.not_mem_nil) dX12_claim_48
set_option maxHeartbeats 4000000 in
set_option maxRecDepth 100000 in
theorem c_X12_agree (l : Launch) (D : va_G) (cy : Nat → ClassId) (a : Nat → Nat) (i : Nat → Int32) (r : Nat → Nat → Int32) (rl : Nat → Int64) (p0 p1 : Int32) (hf : mZ i) : Met l yX12_agree (Cond.code yX12_agree cX12_agree 3 (some .boolean) :: gT) { frames := 2, cells := 0, slots := 0, locals := 45 } (va_Pc [.ref (a 0), .int p0, .int p1] (rP D cy (mW cy a i r rl))) (vp_Si (fun z => z = 0)) 0 0 (fun _ => False) := by
  refine Met.ofQ (cc := cX12_agree) (maxL := 3) (ret := (some .boolean)) (by decide) rfl ?_
  intro p e s m args below meth c s₁ B hml hv Q hQ
  obtain ⟨rfl, hP, hK⟩ := hv
  have hx := B.exec
  have hb := B.bytes
  have hr := B.returns
  have hlocks := B.notSynchronized
  have hT : ∀ w ∈ gT, w.before _ s = true := fun w h => atoms_spec (ws := (Cond.code yX12_agree cX12_agree 3 (some .boolean) :: gT)) B.pre w (List.mem_cons_of_mem _ h)
  have hown : s.vm.findClass RX12 = some m.cls := findClass_of_methodNamed B.named
  have hl := lv_entry ([.ref (a 0), .int p0, .int p1]) (n := 3) (Nat.le_of_ble_eq_true rfl)
  rw [lg_entry_eq]
  generalize (lg_sl ([.ref (a 0), .int p0, .int p1]) ++ List.replicate (3 - (lg_sl ([.ref (a 0), .int p0, .int p1])).length) Slot.unset).toArray = ls at hl ⊢
  have hl : lv_has ls 3 [(0, .ref (a 0)), (1, .int p0), (2, .int p1)] := hl
  refine lv_aload_n hx hb dX12_agree_0 rfl (lv_at hl 0 rfl) ?_
  refine lv_iload_n hx hb dX12_agree_1 rfl (lv_at hl 1 rfl) ?_
  refine vp_callSi (W.runV (As := [.int p0]) (rest := []) ⟨hx, hb, hml, hown, hT⟩ (c_X12_isClaim l D cy a i r rl p0 hf) (cwV 1 hT (gV t_20 t_21 t_22 t_23 t_8) rfl rfl rfl (by decide +kernel) ⟨Nat.le_of_ble_eq_true rfl, Nat.le_of_ble_eq_true rfl⟩) (rP_v hP hK (va_recv hK hP (ci := 12) (q0 := 0) rfl rfl)) rfl rfl hl.1 rfl (lv_room (Nat.le_of_ble_eq_true rfl)) dX12_agree_2 ⟨Nat.le_of_ble_eq_true rfl, Nat.le_of_ble_eq_true rfl⟩) (fun r_1 hr_1 => ?_)
  subst hr_1
  refine lv_if_eq (tgt := 15) hx hb dX12_agree_5 (by decide) (fun c_2 => ?_) (fun c_2 => absurd (by decide) c_2)
  refine lv_iconst (v := 0) hx hb dX12_agree_15 (by decide) ?_
  subst hQ
  exact W.zret hx hb hr rfl (fun t ht hW => ⟨_, rfl, rfl, ht⟩) (fun q hq => absurd hq List.not_mem_nil) dX12_agree_16
set_option maxHeartbeats 4000000 in
set_option maxRecDepth 100000 in
theorem c_X12_answer (l : Launch) (D : va_G) (cy : Nat → ClassId) (a : Nat → Nat) (i : Nat → Int32) (r : Nat → Nat → Int32) (rl : Nat → Int64) (p0 p1 p2 : Int32) (hf : mZ i) : Met l yX12_answer (Cond.code yX12_answer cX12_answer 4 (some .boolean) :: gT) { frames := 2, cells := 0, slots := 0, locals := 45 } (va_Pc [.ref (a 0), .int p0, .int p1, .int p2] (rP D cy (mW cy a i r rl))) (vp_Si (fun z => z = 0)) 0 0 (fun _ => False) := by
  refine Met.ofQ (cc := cX12_answer) (maxL := 4) (ret := (some .boolean)) (by decide) rfl ?_
  intro p e s m args below meth c s₁ B hml hv Q hQ
  obtain ⟨rfl, hP, hK⟩ := hv
  have hx := B.exec
  have hb := B.bytes
  have hr := B.returns
  have hlocks := B.notSynchronized
  have hT : ∀ w ∈ gT, w.before _ s = true := fun w h => atoms_spec (ws := (Cond.code yX12_answer cX12_answer 4 (some .boolean) :: gT)) B.pre w (List.mem_cons_of_mem _ h)
  have hown : s.vm.findClass RX12 = some m.cls := findClass_of_methodNamed B.named
  have hl := lv_entry ([.ref (a 0), .int p0, .int p1, .int p2]) (n := 4) (Nat.le_of_ble_eq_true rfl)
  rw [lg_entry_eq]
  generalize (lg_sl ([.ref (a 0), .int p0, .int p1, .int p2]) ++ List.replicate (4 - (lg_sl ([.ref (a 0), .int p0, .int p1, .int p2])).length) Slot.unset).toArray = ls at hl ⊢
  have hl : lv_has ls 4 [(0, .ref (a 0)), (1, .int p0), (2, .int p1), (3, .int p2)] := hl
  refine lv_aload_n hx hb dX12_answer_0 rfl (lv_at hl 0 rfl) ?_
  refine lv_iload_n hx hb dX12_answer_1 rfl (lv_at hl 1 rfl) ?_
  refine vp_callSi (W.runV (As := [.int p0]) (rest := []) ⟨hx, hb, hml, hown, hT⟩ (c_X12_isClaim l D cy a i r rl p0 hf) (cwV 1 hT (gV t_20 t_21 t_22 t_23 t_8) rfl rfl rfl (by decide +kernel) ⟨Nat.le_of_ble_eq_true rfl, Nat.le_of_ble_eq_true rfl⟩) (rP_v hP hK (va_recv hK hP (ci := 12) (q0 := 0) rfl rfl)) rfl rfl hl.1 rfl (lv_room (Nat.le_of_ble_eq_true rfl)) dX12_answer_2 ⟨Nat.le_of_ble_eq_true rfl, Nat.le_of_ble_eq_true rfl⟩) (fun r_1 hr_1 => ?_)
  subst hr_1
  refine lv_if_eq (tgt := 25) hx hb dX12_answer_5 (by decide) (fun c_2 => ?_) (fun c_2 => absurd (by decide) c_2)
  refine lv_iconst (v := 0) hx hb dX12_answer_25 (by decide) ?_
  subst hQ
  exact W.zret hx hb hr rfl (fun t ht hW => ⟨_, rfl, rfl, ht⟩) (fun q hq => absurd hq List.not_mem_nil) dX12_answer_26
set_option maxHeartbeats 4000000 in
set_option maxRecDepth 100000 in
theorem c_X12_award (l : Launch) (D : va_G) (cy : Nat → ClassId) (a : Nat → Nat) (i : Nat → Int32) (r : Nat → Nat → Int32) (rl : Nat → Int64) (p0 p1 p2 : Int32) (hf : mZ i) : Met l yX12_award (Cond.code yX12_award cX12_award 5 (some .int) :: gT) { frames := 2, cells := 0, slots := 0, locals := 45 } (va_Pc [.ref (a 0), .int p0, .int p1, .int p2] (rP D cy (mW cy a i r rl))) (vp_Si (fun z => z = (-1))) 0 0 (fun _ => False) := by
  refine Met.ofQ (cc := cX12_award) (maxL := 5) (ret := (some .int)) (by decide) rfl ?_
  intro p e s m args below meth c s₁ B hml hv Q hQ
  obtain ⟨rfl, hP, hK⟩ := hv
  have hx := B.exec
  have hb := B.bytes
  have hr := B.returns
  have hlocks := B.notSynchronized
  have hT : ∀ w ∈ gT, w.before _ s = true := fun w h => atoms_spec (ws := (Cond.code yX12_award cX12_award 5 (some .int) :: gT)) B.pre w (List.mem_cons_of_mem _ h)
  have hown : s.vm.findClass RX12 = some m.cls := findClass_of_methodNamed B.named
  have hl := lv_entry ([.ref (a 0), .int p0, .int p1, .int p2]) (n := 5) (Nat.le_of_ble_eq_true rfl)
  rw [lg_entry_eq]
  generalize (lg_sl ([.ref (a 0), .int p0, .int p1, .int p2]) ++ List.replicate (5 - (lg_sl ([.ref (a 0), .int p0, .int p1, .int p2])).length) Slot.unset).toArray = ls at hl ⊢
  have hl : lv_has ls 5 [(0, .ref (a 0)), (1, .int p0), (2, .int p1), (3, .int p2)] := hl
  refine lv_aload_n hx hb dX12_award_0 rfl (lv_at hl 0 rfl) ?_
  refine lv_iload_n hx hb dX12_award_1 rfl (lv_at hl 1 rfl) ?_
  refine vp_callSi (W.runV (As := [.int p0]) (rest := []) ⟨hx, hb, hml, hown, hT⟩ (c_X12_isClaim l D cy a i r rl p0 hf) (cwV 1 hT (gV t_20 t_21 t_22 t_23 t_8) rfl rfl rfl (by decide +kernel) ⟨Nat.le_of_ble_eq_true rfl, Nat.le_of_ble_eq_true rfl⟩) (rP_v hP hK (va_recv hK hP (ci := 12) (q0 := 0) rfl rfl)) rfl rfl hl.1 rfl (lv_room (Nat.le_of_ble_eq_true rfl)) dX12_award_2 ⟨Nat.le_of_ble_eq_true rfl, Nat.le_of_ble_eq_true rfl⟩) (fun r_1 hr_1 => ?_)
  subst hr_1
  refine lv_if_eq (tgt := 24) hx hb dX12_award_5 (by decide) (fun c_2 => ?_) (fun c_2 => absurd (by decide) c_2)
  refine lv_iconst (v := (-1)) hx hb dX12_award_24 (by decide) ?_
  subst hQ
  exact W.iret (v := (-1)) hx hb hr (fun t ht hW => ⟨_, rfl, rfl, ht⟩) (fun q hq => absurd hq List.not_mem_nil) dX12_award_25
set_option maxHeartbeats 4000000 in
set_option maxRecDepth 100000 in
theorem c_X12_judged (l : Launch) (D : va_G) (cy : Nat → ClassId) (a : Nat → Nat) (i : Nat → Int32) (r : Nat → Nat → Int32) (rl : Nat → Int64) (p0 p1 p2 : Int32) (hf : mZ i) : Met l yX12_judged (Cond.code yX12_judged cX12_judged 4 (some .int) :: gT) { frames := 2, cells := 0, slots := 0, locals := 45 } (va_Pc [.ref (a 0), .int p0, .int p1, .int p2] (rP D cy (mW cy a i r rl))) (vp_Si (fun z => z = (-1))) 0 0 (fun _ => False) := by
  refine Met.ofQ (cc := cX12_judged) (maxL := 4) (ret := (some .int)) (by decide) rfl ?_
  intro p e s m args below meth c s₁ B hml hv Q hQ
  obtain ⟨rfl, hP, hK⟩ := hv
  have hx := B.exec
  have hb := B.bytes
  have hr := B.returns
  have hlocks := B.notSynchronized
  have hT : ∀ w ∈ gT, w.before _ s = true := fun w h => atoms_spec (ws := (Cond.code yX12_judged cX12_judged 4 (some .int) :: gT)) B.pre w (List.mem_cons_of_mem _ h)
  have hown : s.vm.findClass RX12 = some m.cls := findClass_of_methodNamed B.named
  have hl := lv_entry ([.ref (a 0), .int p0, .int p1, .int p2]) (n := 4) (Nat.le_of_ble_eq_true rfl)
  rw [lg_entry_eq]
  generalize (lg_sl ([.ref (a 0), .int p0, .int p1, .int p2]) ++ List.replicate (4 - (lg_sl ([.ref (a 0), .int p0, .int p1, .int p2])).length) Slot.unset).toArray = ls at hl ⊢
  have hl : lv_has ls 4 [(0, .ref (a 0)), (1, .int p0), (2, .int p1), (3, .int p2)] := hl
  refine lv_aload_n hx hb dX12_judged_0 rfl (lv_at hl 0 rfl) ?_
  refine lv_iload_n hx hb dX12_judged_1 rfl (lv_at hl 1 rfl) ?_
  refine vp_callSi (W.runV (As := [.int p0]) (rest := []) ⟨hx, hb, hml, hown, hT⟩ (c_X12_isHome l D cy a i r rl p0 hf) (cwV 1 hT (gV t_7 t_9 t_10 t_11 t_8) rfl rfl rfl (by decide +kernel) ⟨Nat.le_of_ble_eq_true rfl, Nat.le_of_ble_eq_true rfl⟩) (rP_v hP hK (va_recv hK hP (ci := 12) (q0 := 0) rfl rfl)) rfl rfl hl.1 rfl (lv_room (Nat.le_of_ble_eq_true rfl)) dX12_judged_2 ⟨Nat.le_of_ble_eq_true rfl, Nat.le_of_ble_eq_true rfl⟩) (fun r_1 hr_1 => ?_)
  subst hr_1
  refine lv_if_eq (tgt := 42) hx hb dX12_judged_5 (by decide) (fun c_2 => ?_) (fun c_2 => absurd (by decide) c_2)
  refine lv_iconst (v := (-1)) hx hb dX12_judged_42 (by decide) ?_
  subst hQ
  exact W.iret (v := (-1)) hx hb hr (fun t ht hW => ⟨_, rfl, rfl, ht⟩) (fun q hq => absurd hq List.not_mem_nil) dX12_judged_43
set_option maxHeartbeats 4000000 in
set_option maxRecDepth 100000 in
theorem c_X12_offer (l : Launch) (D : va_G) (cy : Nat → ClassId) (a : Nat → Nat) (i : Nat → Int32) (r : Nat → Nat → Int32) (rl : Nat → Int64) (p0 p1 p2 : Int32) (hf : mZ i) : Met l yX12_offer (Cond.code yX12_offer cX12_offer 4 (some .int) :: gT) { frames := 2, cells := 0, slots := 0, locals := 45 } (va_Pc [.ref (a 0), .int p0, .int p1, .int p2] (rP D cy (mW cy a i r rl))) (vp_Si (fun z => z = (-1))) 0 0 (fun _ => False) := by
  refine Met.ofQ (cc := cX12_offer) (maxL := 4) (ret := (some .int)) (by decide) rfl ?_
  intro p e s m args below meth c s₁ B hml hv Q hQ
  obtain ⟨rfl, hP, hK⟩ := hv
  have hx := B.exec
  have hb := B.bytes
  have hr := B.returns
  have hlocks := B.notSynchronized
  have hT : ∀ w ∈ gT, w.before _ s = true := fun w h => atoms_spec (ws := (Cond.code yX12_offer cX12_offer 4 (some .int) :: gT)) B.pre w (List.mem_cons_of_mem _ h)
  have hown : s.vm.findClass RX12 = some m.cls := findClass_of_methodNamed B.named
  have hl := lv_entry ([.ref (a 0), .int p0, .int p1, .int p2]) (n := 4) (Nat.le_of_ble_eq_true rfl)
  rw [lg_entry_eq]
  generalize (lg_sl ([.ref (a 0), .int p0, .int p1, .int p2]) ++ List.replicate (4 - (lg_sl ([.ref (a 0), .int p0, .int p1, .int p2])).length) Slot.unset).toArray = ls at hl ⊢
  have hl : lv_has ls 4 [(0, .ref (a 0)), (1, .int p0), (2, .int p1), (3, .int p2)] := hl
  refine lv_aload_n hx hb dX12_offer_0 rfl (lv_at hl 0 rfl) ?_
  refine lv_iload_n hx hb dX12_offer_1 rfl (lv_at hl 1 rfl) ?_
  refine vp_callSi (W.runV (As := [.int p0]) (rest := []) ⟨hx, hb, hml, hown, hT⟩ (c_X12_isHome l D cy a i r rl p0 hf) (cwV 1 hT (gV t_7 t_9 t_10 t_11 t_8) rfl rfl rfl (by decide +kernel) ⟨Nat.le_of_ble_eq_true rfl, Nat.le_of_ble_eq_true rfl⟩) (rP_v hP hK (va_recv hK hP (ci := 12) (q0 := 0) rfl rfl)) rfl rfl hl.1 rfl (lv_room (Nat.le_of_ble_eq_true rfl)) dX12_offer_2 ⟨Nat.le_of_ble_eq_true rfl, Nat.le_of_ble_eq_true rfl⟩) (fun r_1 hr_1 => ?_)
  subst hr_1
  refine lv_if_eq (tgt := 15) hx hb dX12_offer_5 (by decide) (fun c_2 => ?_) (fun c_2 => absurd (by decide) c_2)
  refine lv_iconst (v := (-1)) hx hb dX12_offer_15 (by decide) ?_
  subst hQ
  exact W.iret (v := (-1)) hx hb hr (fun t ht hW => ⟨_, rfl, rfl, ht⟩) (fun q hq => absurd hq List.not_mem_nil) dX12_offer_16
set_option maxHeartbeats 4000000 in
set_option maxRecDepth 100000 in
theorem c_X12_met (l : Launch) (D : va_G) (cy : Nat → ClassId) (a : Nat → Nat) (i : Nat → Int32) (r : Nat → Nat → Int32) (rl : Nat → Int64) (p0 : Int32) (hf : mZ i) : Met l yX12_met (Cond.code yX12_met cX12_met 2 (some .int) :: gT) { frames := 2, cells := 0, slots := 0, locals := 45 } (va_Pc [.ref (a 0), .int p0] (rP D cy (mW cy a i r rl))) (vp_Si (fun z => z = (-1))) 0 0 (fun _ => False) := by
  refine Met.ofQ (cc := cX12_met) (maxL := 2) (ret := (some .int)) (by decide) rfl ?_
  intro p e s m args below meth c s₁ B hml hv Q hQ
  obtain ⟨rfl, hP, hK⟩ := hv
  have hx := B.exec
  have hb := B.bytes
  have hr := B.returns
  have hlocks := B.notSynchronized
  have hT : ∀ w ∈ gT, w.before _ s = true := fun w h => atoms_spec (ws := (Cond.code yX12_met cX12_met 2 (some .int) :: gT)) B.pre w (List.mem_cons_of_mem _ h)
  have hown : s.vm.findClass RX12 = some m.cls := findClass_of_methodNamed B.named
  have hl := lv_entry ([.ref (a 0), .int p0]) (n := 2) (Nat.le_of_ble_eq_true rfl)
  rw [lg_entry_eq]
  generalize (lg_sl ([.ref (a 0), .int p0]) ++ List.replicate (2 - (lg_sl ([.ref (a 0), .int p0])).length) Slot.unset).toArray = ls at hl ⊢
  have hl : lv_has ls 2 [(0, .ref (a 0)), (1, .int p0)] := hl
  refine lv_aload_n hx hb dX12_met_0 rfl (lv_at hl 0 rfl) ?_
  refine lv_iload_n hx hb dX12_met_1 rfl (lv_at hl 1 rfl) ?_
  refine vp_callSi (W.runV (As := [.int p0]) (rest := []) ⟨hx, hb, hml, hown, hT⟩ (c_X12_isHome l D cy a i r rl p0 hf) (cwV 1 hT (gV t_7 t_9 t_10 t_11 t_8) rfl rfl rfl (by decide +kernel) ⟨Nat.le_of_ble_eq_true rfl, Nat.le_of_ble_eq_true rfl⟩) (rP_v hP hK (va_recv hK hP (ci := 12) (q0 := 0) rfl rfl)) rfl rfl hl.1 rfl (lv_room (Nat.le_of_ble_eq_true rfl)) dX12_met_2 ⟨Nat.le_of_ble_eq_true rfl, Nat.le_of_ble_eq_true rfl⟩) (fun r_1 hr_1 => ?_)
  subst hr_1
  refine lv_if_ne (tgt := 10) hx hb dX12_met_5 (by decide) (fun c_2 => absurd (by decide) c_2) (fun c_2 => ?_)
  refine lv_iconst (v := (-1)) hx hb dX12_met_8 (by decide) ?_
  subst hQ
  exact W.iret (v := (-1)) hx hb hr (fun t ht hW => ⟨_, rfl, rfl, ht⟩) (fun q hq => absurd hq List.not_mem_nil) dX12_met_9
set_option maxHeartbeats 4000000 in
set_option maxRecDepth 100000 in
theorem c_X12_kin (l : Launch) (D : va_G) (cy : Nat → ClassId) (a : Nat → Nat) (i : Nat → Int32) (r : Nat → Nat → Int32) (rl : Nat → Int64) (p0 p1 p2 : Int32) (hf : mZ i) : Met l yX12_kin (Cond.code yX12_kin cX12_kin 4 (some .boolean) :: gT) { frames := 2, cells := 0, slots := 0, locals := 45 } (va_Pc [.ref (a 0), .int p0, .int p1, .int p2] (rP D cy (mW cy a i r rl))) (vp_Si (fun z => z = 0)) 0 0 (fun _ => False) := by
  refine Met.ofQ (cc := cX12_kin) (maxL := 4) (ret := (some .boolean)) (by decide) rfl ?_
  intro p e s m args below meth c s₁ B hml hv Q hQ
  obtain ⟨rfl, hP, hK⟩ := hv
  have hx := B.exec
  have hb := B.bytes
  have hr := B.returns
  have hlocks := B.notSynchronized
  have hT : ∀ w ∈ gT, w.before _ s = true := fun w h => atoms_spec (ws := (Cond.code yX12_kin cX12_kin 4 (some .boolean) :: gT)) B.pre w (List.mem_cons_of_mem _ h)
  have hown : s.vm.findClass RX12 = some m.cls := findClass_of_methodNamed B.named
  have hl := lv_entry ([.ref (a 0), .int p0, .int p1, .int p2]) (n := 4) (Nat.le_of_ble_eq_true rfl)
  rw [lg_entry_eq]
  generalize (lg_sl ([.ref (a 0), .int p0, .int p1, .int p2]) ++ List.replicate (4 - (lg_sl ([.ref (a 0), .int p0, .int p1, .int p2])).length) Slot.unset).toArray = ls at hl ⊢
  have hl : lv_has ls 4 [(0, .ref (a 0)), (1, .int p0), (2, .int p1), (3, .int p2)] := hl
  refine lv_iload_n hx hb dX12_kin_0 rfl (lv_at hl 1 rfl) ?_
  refine vp_callSi (W.runS (As := [.int p0]) (rest := []) ⟨hx, hb, hml, hown, hT⟩ (c_X12_isJudge l p0) (va_cwS 1 hT (gS t_24 t_25 t_26 t_8) rfl rfl rfl (by decide +kernel) ⟨Nat.le_of_ble_eq_true rfl, Nat.le_of_ble_eq_true rfl⟩) preT rfl rfl hl.1 rfl (lv_room (Nat.le_of_ble_eq_true rfl)) dX12_kin_1 ⟨Nat.le_of_ble_eq_true rfl, Nat.le_of_ble_eq_true rfl⟩) (fun r_1 hr_1 => ?_)
  have hr_1 : BR r_1 (0 ≤ p0.toInt ∧ p0.toInt ≤ 5) 1 0 := hr_1
  rcases hr_1 with ⟨rfl, h_2⟩ | ⟨rfl, h_2⟩
  · skip
    refine lv_if_eq (tgt := 30) hx hb dX12_kin_4 (by decide) (fun c_3 => absurd c_3 (by decide)) (fun c_3 => ?_)
    refine lv_aload_n hx hb dX12_kin_7 rfl (lv_at hl 0 rfl) ?_
    refine lv_iload_n hx hb dX12_kin_8 rfl (lv_at hl 2 rfl) ?_
    refine vp_callSi (W.runV (As := [.int p1]) (rest := []) ⟨hx, hb, hml, hown, hT⟩ (c_X12_isHome l D cy a i r rl p1 hf) (cwV 1 hT (gV t_7 t_9 t_10 t_11 t_8) rfl rfl rfl (by decide +kernel) ⟨Nat.le_of_ble_eq_true rfl, Nat.le_of_ble_eq_true rfl⟩) (rP_v hP hK (va_recv hK hP (ci := 12) (q0 := 0) rfl rfl)) rfl rfl hl.1 rfl (lv_room (Nat.le_of_ble_eq_true rfl)) dX12_kin_9 ⟨Nat.le_of_ble_eq_true rfl, Nat.le_of_ble_eq_true rfl⟩) (fun r_4 hr_4 => ?_)
    subst hr_4
    refine lv_if_eq (tgt := 30) hx hb dX12_kin_12 (by decide) (fun c_5 => ?_) (fun c_5 => absurd (by decide) c_5)
    refine lv_iconst (v := 0) hx hb dX12_kin_30 (by decide) ?_
    subst hQ
    exact W.zret hx hb hr rfl (fun t ht hW => ⟨_, rfl, rfl, ht⟩) (fun q hq => absurd hq List.not_mem_nil) dX12_kin_31
  · skip
    refine lv_if_eq (tgt := 30) hx hb dX12_kin_4 (by decide) (fun c_6 => ?_) (fun c_6 => absurd (by decide) c_6)
    refine lv_iconst (v := 0) hx hb dX12_kin_30 (by decide) ?_
    subst hQ
    exact W.zret hx hb hr rfl (fun t ht hW => ⟨_, rfl, rfl, ht⟩) (fun q hq => absurd hq List.not_mem_nil) dX12_kin_31
set_option maxHeartbeats 4000000 in
set_option maxRecDepth 100000 in
theorem c_X12_draw (l : Launch) (D : va_G) (cy : Nat → ClassId) (a : Nat → Nat) (i : Nat → Int32) (r : Nat → Nat → Int32) (rl : Nat → Int64) (p0 : Int32) (hf : mZ i) : Met l yX12_draw (Cond.code yX12_draw cX12_draw 4 (some .int) :: gT) { frames := 2, cells := 0, slots := 0, locals := 45 } (va_Pc [.ref (a 0), .int p0] (rP D cy (mW cy a i r rl))) (vp_Si (fun z => z = (-1))) 0 0 (fun _ => False) := by
  refine Met.ofQ (cc := cX12_draw) (maxL := 4) (ret := (some .int)) (by decide) rfl ?_
  intro p e s m args below meth c s₁ B hml hv Q hQ
  obtain ⟨rfl, hP, hK⟩ := hv
  have hx := B.exec
  have hb := B.bytes
  have hr := B.returns
  have hlocks := B.notSynchronized
  have hT : ∀ w ∈ gT, w.before _ s = true := fun w h => atoms_spec (ws := (Cond.code yX12_draw cX12_draw 4 (some .int) :: gT)) B.pre w (List.mem_cons_of_mem _ h)
  have hown : s.vm.findClass RX12 = some m.cls := findClass_of_methodNamed B.named
  have hl := lv_entry ([.ref (a 0), .int p0]) (n := 4) (Nat.le_of_ble_eq_true rfl)
  rw [lg_entry_eq]
  generalize (lg_sl ([.ref (a 0), .int p0]) ++ List.replicate (4 - (lg_sl ([.ref (a 0), .int p0])).length) Slot.unset).toArray = ls at hl ⊢
  have hl : lv_has ls 4 [(0, .ref (a 0)), (1, .int p0)] := hl
  refine lv_aload_n hx hb dX12_draw_0 rfl (lv_at hl 0 rfl) ?_
  refine lv_iload_n hx hb dX12_draw_1 rfl (lv_at hl 1 rfl) ?_
  refine vp_callSi (W.runV (As := [.int p0]) (rest := []) ⟨hx, hb, hml, hown, hT⟩ (c_X12_isHome l D cy a i r rl p0 hf) (cwV 1 hT (gV t_7 t_9 t_10 t_11 t_8) rfl rfl rfl (by decide +kernel) ⟨Nat.le_of_ble_eq_true rfl, Nat.le_of_ble_eq_true rfl⟩) (rP_v hP hK (va_recv hK hP (ci := 12) (q0 := 0) rfl rfl)) rfl rfl hl.1 rfl (lv_room (Nat.le_of_ble_eq_true rfl)) dX12_draw_2 ⟨Nat.le_of_ble_eq_true rfl, Nat.le_of_ble_eq_true rfl⟩) (fun r_1 hr_1 => ?_)
  subst hr_1
  refine lv_if_ne (tgt := 10) hx hb dX12_draw_5 (by decide) (fun c_2 => absurd (by decide) c_2) (fun c_2 => ?_)
  refine lv_iconst (v := (-1)) hx hb dX12_draw_8 (by decide) ?_
  subst hQ
  exact W.iret (v := (-1)) hx hb hr (fun t ht hW => ⟨_, rfl, rfl, ht⟩) (fun q hq => absurd hq List.not_mem_nil) dX12_draw_9
set_option maxHeartbeats 4000000 in
set_option maxRecDepth 100000 in
theorem c_X12_spread (l : Launch) (D : va_G) (cy : Nat → ClassId) (a : Nat → Nat) (i : Nat → Int32) (r : Nat → Nat → Int32) (rl : Nat → Int64) (p0 p1 : Int32) (hf : mZ i) : Met l yX12_spread (Cond.code yX12_spread cX12_spread 8 (some .int) :: gT) { frames := 2, cells := 0, slots := 0, locals := 46 } (va_Pc [.ref (a 0), .int p0, .int p1] (rP D cy (mW cy a i r rl))) (vp_Si (fun z => z = (-1000000))) 0 0 (fun _ => False) := by
  refine Met.ofQ (cc := cX12_spread) (maxL := 8) (ret := (some .int)) (by decide) rfl ?_
  intro p e s m args below meth c s₁ B hml hv Q hQ
  obtain ⟨rfl, hP, hK⟩ := hv
  have hx := B.exec
  have hb := B.bytes
  have hr := B.returns
  have hlocks := B.notSynchronized
  have hT : ∀ w ∈ gT, w.before _ s = true := fun w h => atoms_spec (ws := (Cond.code yX12_spread cX12_spread 8 (some .int) :: gT)) B.pre w (List.mem_cons_of_mem _ h)
  have hown : s.vm.findClass RX12 = some m.cls := findClass_of_methodNamed B.named
  have hl := lv_entry ([.ref (a 0), .int p0, .int p1]) (n := 8) (Nat.le_of_ble_eq_true rfl)
  rw [lg_entry_eq]
  generalize (lg_sl ([.ref (a 0), .int p0, .int p1]) ++ List.replicate (8 - (lg_sl ([.ref (a 0), .int p0, .int p1])).length) Slot.unset).toArray = ls at hl ⊢
  have hl : lv_has ls 8 [(0, .ref (a 0)), (1, .int p0), (2, .int p1)] := hl
  refine lv_iload_n hx hb dX12_spread_0 rfl (lv_at hl 1 rfl) ?_
  refine vp_callSi (W.runS (As := [.int p0]) (rest := []) ⟨hx, hb, hml, hown, hT⟩ (c_X12_isJudge l p0) (va_cwS 1 hT (gS t_24 t_25 t_26 t_8) rfl rfl rfl (by decide +kernel) ⟨Nat.le_of_ble_eq_true rfl, Nat.le_of_ble_eq_true rfl⟩) preT rfl rfl hl.1 rfl (lv_room (Nat.le_of_ble_eq_true rfl)) dX12_spread_1 ⟨Nat.le_of_ble_eq_true rfl, Nat.le_of_ble_eq_true rfl⟩) (fun r_1 hr_1 => ?_)
  have hr_1 : BR r_1 (0 ≤ p0.toInt ∧ p0.toInt ≤ 5) 1 0 := hr_1
  rcases hr_1 with ⟨rfl, h_2⟩ | ⟨rfl, h_2⟩
  · skip
    refine lv_if_eq (tgt := 16) hx hb dX12_spread_4 (by decide) (fun c_3 => absurd c_3 (by decide)) (fun c_3 => ?_)
    refine lv_iload_n hx hb dX12_spread_7 rfl (lv_at hl 2 rfl) ?_
    refine lv_iconst (v := 0) hx hb dX12_spread_8 (by decide) ?_
    refine lv_iconst (v := 3) hx hb dX12_spread_9 (by decide) ?_
    refine vp_callSi (W.runS (As := [.int p1, .int 0, .int 3]) (rest := []) ⟨hx, hb, hml, hown, hT⟩ (c_X12_in l p1 0 3) (va_cwS 3 hT (gS t_12 t_13 t_14 t_8) rfl rfl rfl (by decide +kernel) ⟨Nat.le_of_ble_eq_true rfl, Nat.le_of_ble_eq_true rfl⟩) preT rfl rfl hl.1 rfl (lv_room (Nat.le_of_ble_eq_true rfl)) dX12_spread_10 ⟨Nat.le_of_ble_eq_true rfl, Nat.le_of_ble_eq_true rfl⟩) (fun r_4 hr_4 => ?_)
    have hr_4 : BR r_4 (0 ≤ p1.toInt ∧ p1.toInt ≤ 3) 1 0 := hr_4
    rcases hr_4 with ⟨rfl, h_5⟩ | ⟨rfl, h_5⟩
    · skip
      refine lv_if_ne (tgt := 20) hx hb dX12_spread_13 (by decide) (fun c_6 => ?_) (fun c_6 => absurd c_6 (by decide))
      refine lv_iconst (v := 0) hx hb dX12_spread_20 (by decide) ?_
      refine lv_istore_n (lv' := [(3, .int 0), (0, .ref (a 0)), (1, .int p0), (2, .int p1)]) hx hb dX12_spread_21 rfl hl (by decide) rfl (fun ls hl => ?_)
      refine lv_iconst (v := 0) hx hb dX12_spread_22 (by decide) ?_
      refine lv_istore (lv' := [(4, .int 0), (3, .int 0), (0, .ref (a 0)), (1, .int p0), (2, .int p1)]) hx hb dX12_spread_23 hl (by decide) rfl (fun ls hl => ?_)
      refine lv_iconst (v := 0) hx hb dX12_spread_25 (by decide) ?_
      refine lv_istore (lv' := [(5, .int 0), (4, .int 0), (3, .int 0), (0, .ref (a 0)), (1, .int p0), (2, .int p1)]) hx hb dX12_spread_26 hl (by decide) rfl (fun ls hl => ?_)
      refine lv_iconst (v := 0) hx hb dX12_spread_28 (by decide) ?_
      refine lv_istore (lv' := [(6, .int 0), (5, .int 0), (4, .int 0), (3, .int 0), (0, .ref (a 0)), (1, .int p0), (2, .int p1)]) hx hb dX12_spread_29 hl (by decide) rfl (fun ls hl => ?_)
      refine lv_iload hx hb dX12_spread_31 (lv_at hl 0 rfl) ?_
      refine lv_aload_n hx hb dX12_spread_33 rfl (lv_at hl 4 rfl) ?_
      refine va_get (D := D) (ci := 12) (v := .int 0) (C := RX12) (T := TX12) (N := 91) hx hb hT iX12 hown hK hP 0 rfl rfl 63 (by decide) (hT _ t_27) (fun _ h9 => h9) (congrArg (fun z => some (Value.int z)) (hf.1 63 (by decide))) dX12_spread_34 ?_
      refine lv_icmp_ge (tgt := 138) hx hb dX12_spread_37 (by decide) (fun c_7 => ?_) (fun c_7 => absurd (by decide) c_7)
      refine lv_iload_n hx hb dX12_spread_138 rfl (lv_at hl 3 rfl) ?_
      refine lv_if_ne (tgt := 146) hx hb dX12_spread_139 (by decide) (fun c_8 => absurd (by decide) c_8) (fun c_8 => ?_)
      refine lv_ldcw (v := (-1000000)) hx hb hown (hT _ t_28) dX12_spread_142 ?_
      subst hQ
      exact W.iret (v := (-1000000)) hx hb hr (fun t ht hW => ⟨_, rfl, rfl, ht⟩) (fun q hq => absurd hq List.not_mem_nil) dX12_spread_145
    · skip
      refine lv_if_ne (tgt := 20) hx hb dX12_spread_13 (by decide) (fun c_9 => absurd (by decide) c_9) (fun c_9 => ?_)
      refine lv_ldcw (v := (-1000000)) hx hb hown (hT _ t_28) dX12_spread_16 ?_
      subst hQ
      exact W.iret (v := (-1000000)) hx hb hr (fun t ht hW => ⟨_, rfl, rfl, ht⟩) (fun q hq => absurd hq List.not_mem_nil) dX12_spread_19
  · skip
    refine lv_if_eq (tgt := 16) hx hb dX12_spread_4 (by decide) (fun c_10 => ?_) (fun c_10 => absurd (by decide) c_10)
    refine lv_ldcw (v := (-1000000)) hx hb hown (hT _ t_28) dX12_spread_16 ?_
    subst hQ
    exact W.iret (v := (-1000000)) hx hb hr (fun t ht hW => ⟨_, rfl, rfl, ht⟩) (fun q hq => absurd hq List.not_mem_nil) dX12_spread_19
set_option maxHeartbeats 4000000 in
set_option maxRecDepth 100000 in
theorem c_X12_like (l : Launch) (D : va_G) (cy : Nat → ClassId) (a : Nat → Nat) (i : Nat → Int32) (r : Nat → Nat → Int32) (rl : Nat → Int64) (p0 p1 : Int32) (hf : mZ i) : Met l yX12_like (Cond.code yX12_like cX12_like 5 (some .int) :: gT) { frames := 2, cells := 0, slots := 0, locals := 45 } (va_Pc [.ref (a 0), .int p0, .int p1] (rP D cy (mW cy a i r rl))) (vp_Si (fun z => z = (-1))) 0 0 (fun _ => False) := by
  refine Met.ofQ (cc := cX12_like) (maxL := 5) (ret := (some .int)) (by decide) rfl ?_
  intro p e s m args below meth c s₁ B hml hv Q hQ
  obtain ⟨rfl, hP, hK⟩ := hv
  have hx := B.exec
  have hb := B.bytes
  have hr := B.returns
  have hlocks := B.notSynchronized
  have hT : ∀ w ∈ gT, w.before _ s = true := fun w h => atoms_spec (ws := (Cond.code yX12_like cX12_like 5 (some .int) :: gT)) B.pre w (List.mem_cons_of_mem _ h)
  have hown : s.vm.findClass RX12 = some m.cls := findClass_of_methodNamed B.named
  have hl := lv_entry ([.ref (a 0), .int p0, .int p1]) (n := 5) (Nat.le_of_ble_eq_true rfl)
  rw [lg_entry_eq]
  generalize (lg_sl ([.ref (a 0), .int p0, .int p1]) ++ List.replicate (5 - (lg_sl ([.ref (a 0), .int p0, .int p1])).length) Slot.unset).toArray = ls at hl ⊢
  have hl : lv_has ls 5 [(0, .ref (a 0)), (1, .int p0), (2, .int p1)] := hl
  refine lv_aload_n hx hb dX12_like_0 rfl (lv_at hl 0 rfl) ?_
  refine lv_iload_n hx hb dX12_like_1 rfl (lv_at hl 1 rfl) ?_
  refine vp_callSi (W.runV (As := [.int p0]) (rest := []) ⟨hx, hb, hml, hown, hT⟩ (c_X12_isHome l D cy a i r rl p0 hf) (cwV 1 hT (gV t_7 t_9 t_10 t_11 t_8) rfl rfl rfl (by decide +kernel) ⟨Nat.le_of_ble_eq_true rfl, Nat.le_of_ble_eq_true rfl⟩) (rP_v hP hK (va_recv hK hP (ci := 12) (q0 := 0) rfl rfl)) rfl rfl hl.1 rfl (lv_room (Nat.le_of_ble_eq_true rfl)) dX12_like_2 ⟨Nat.le_of_ble_eq_true rfl, Nat.le_of_ble_eq_true rfl⟩) (fun r_1 hr_1 => ?_)
  subst hr_1
  refine lv_if_eq (tgt := 17) hx hb dX12_like_5 (by decide) (fun c_2 => ?_) (fun c_2 => absurd (by decide) c_2)
  refine lv_iconst (v := (-1)) hx hb dX12_like_17 (by decide) ?_
  subst hQ
  exact W.iret (v := (-1)) hx hb hr (fun t ht hW => ⟨_, rfl, rfl, ht⟩) (fun q hq => absurd hq List.not_mem_nil) dX12_like_18
set_option maxHeartbeats 4000000 in
set_option maxRecDepth 100000 in
theorem c_X12_undo (l : Launch) (D : va_G) (cy : Nat → ClassId) (a : Nat → Nat) (i : Nat → Int32) (r : Nat → Nat → Int32) (rl : Nat → Int64) (hf : mZ i) : Met l yX12_undo (Cond.code yX12_undo cX12_undo 2 (some .boolean) :: gT) { frames := 1, cells := 0, slots := 0, locals := 24 } (va_Pc [.ref (a 0)] (rP D cy (mW cy a i r rl))) (vp_Si (fun z => z = 0)) 0 0 (fun _ => False) := by
  refine Met.ofQ (cc := cX12_undo) (maxL := 2) (ret := (some .boolean)) (by decide) rfl ?_
  intro p e s m args below meth c s₁ B hml hv Q hQ
  obtain ⟨rfl, hP, hK⟩ := hv
  have hx := B.exec
  have hb := B.bytes
  have hr := B.returns
  have hlocks := B.notSynchronized
  have hT : ∀ w ∈ gT, w.before _ s = true := fun w h => atoms_spec (ws := (Cond.code yX12_undo cX12_undo 2 (some .boolean) :: gT)) B.pre w (List.mem_cons_of_mem _ h)
  have hown : s.vm.findClass RX12 = some m.cls := findClass_of_methodNamed B.named
  have hl := lv_entry ([.ref (a 0)]) (n := 2) (Nat.le_of_ble_eq_true rfl)
  rw [lg_entry_eq]
  generalize (lg_sl ([.ref (a 0)]) ++ List.replicate (2 - (lg_sl ([.ref (a 0)])).length) Slot.unset).toArray = ls at hl ⊢
  have hl : lv_has ls 2 [(0, .ref (a 0))] := hl
  refine lv_aload_n hx hb dX12_undo_0 rfl (lv_at hl 0 rfl) ?_
  refine va_get (D := D) (ci := 12) (v := .int 0) (C := RX12) (T := TX12) (N := 91) hx hb hT iX12 hown hK hP 0 rfl rfl 78 (by decide) (hT _ t_29) (fun _ h9 => h9) (congrArg (fun z => some (Value.int z)) (hf.1 78 (by decide))) dX12_undo_1 ?_
  refine lv_if_ne (tgt := 9) hx hb dX12_undo_4 (by decide) (fun c_1 => absurd (by decide) c_1) (fun c_1 => ?_)
  refine lv_iconst (v := 0) hx hb dX12_undo_7 (by decide) ?_
  subst hQ
  exact W.zret hx hb hr rfl (fun t ht hW => ⟨_, rfl, rfl, ht⟩) (fun q hq => absurd hq List.not_mem_nil) dX12_undo_8
set_option maxHeartbeats 4000000 in
set_option maxRecDepth 100000 in
theorem c_X12_check (l : Launch) (D : va_G) (cy : Nat → ClassId) (a : Nat → Nat) (i : Nat → Int32) (r : Nat → Nat → Int32) (rl : Nat → Int64) (p0 p1 p2 : Int32) (hf : mZ i) : Met l yX12_check (Cond.code yX12_check cX12_check 5 (some .int) :: gT) { frames := 2, cells := 0, slots := 0, locals := 45 } (va_Pc [.ref (a 0), .int p0, .int p1, .int p2] (rP D cy (mW cy a i r rl))) (vp_Si (fun z => z = (-2))) 0 0 (fun _ => False) := by
  refine Met.ofQ (cc := cX12_check) (maxL := 5) (ret := (some .int)) (by decide) rfl ?_
  intro p e s m args below meth c s₁ B hml hv Q hQ
  obtain ⟨rfl, hP, hK⟩ := hv
  have hx := B.exec
  have hb := B.bytes
  have hr := B.returns
  have hlocks := B.notSynchronized
  have hT : ∀ w ∈ gT, w.before _ s = true := fun w h => atoms_spec (ws := (Cond.code yX12_check cX12_check 5 (some .int) :: gT)) B.pre w (List.mem_cons_of_mem _ h)
  have hown : s.vm.findClass RX12 = some m.cls := findClass_of_methodNamed B.named
  have hl := lv_entry ([.ref (a 0), .int p0, .int p1, .int p2]) (n := 5) (Nat.le_of_ble_eq_true rfl)
  rw [lg_entry_eq]
  generalize (lg_sl ([.ref (a 0), .int p0, .int p1, .int p2]) ++ List.replicate (5 - (lg_sl ([.ref (a 0), .int p0, .int p1, .int p2])).length) Slot.unset).toArray = ls at hl ⊢
  have hl : lv_has ls 5 [(0, .ref (a 0)), (1, .int p0), (2, .int p1), (3, .int p2)] := hl
  refine lv_aload_n hx hb dX12_check_0 rfl (lv_at hl 0 rfl) ?_
  refine lv_iload_n hx hb dX12_check_1 rfl (lv_at hl 1 rfl) ?_
  refine vp_callSi (W.runV (As := [.int p0]) (rest := []) ⟨hx, hb, hml, hown, hT⟩ (c_X12_isHome l D cy a i r rl p0 hf) (cwV 1 hT (gV t_7 t_9 t_10 t_11 t_8) rfl rfl rfl (by decide +kernel) ⟨Nat.le_of_ble_eq_true rfl, Nat.le_of_ble_eq_true rfl⟩) (rP_v hP hK (va_recv hK hP (ci := 12) (q0 := 0) rfl rfl)) rfl rfl hl.1 rfl (lv_room (Nat.le_of_ble_eq_true rfl)) dX12_check_2 ⟨Nat.le_of_ble_eq_true rfl, Nat.le_of_ble_eq_true rfl⟩) (fun r_1 hr_1 => ?_)
  subst hr_1
  refine lv_if_eq (tgt := 34) hx hb dX12_check_5 (by decide) (fun c_2 => ?_) (fun c_2 => absurd (by decide) c_2)
  refine lv_bipush (v := (-2)) hx hb dX12_check_34 (by decide) ?_
  subst hQ
  exact W.iret (v := (-2)) hx hb hr (fun t ht hW => ⟨_, rfl, rfl, ht⟩) (fun q hq => absurd hq List.not_mem_nil) dX12_check_36
set_option maxHeartbeats 4000000 in
set_option maxRecDepth 100000 in
theorem c_X12_byKind (l : Launch) (D : va_G) (cy : Nat → ClassId) (a : Nat → Nat) (i : Nat → Int32) (r : Nat → Nat → Int32) (rl : Nat → Int64) (p0 p1 : Int32) (hf : mZ i) : Met l yX12_byKind (Cond.code yX12_byKind cX12_byKind 5 (some .int) :: gT) { frames := 2, cells := 0, slots := 0, locals := 44 } (va_Pc [.ref (a 0), .int p0, .int p1] (rP D cy (mW cy a i r rl))) (vp_Si (fun z => BR z ((0 ≤ p0.toInt ∧ p0.toInt ≤ 7) ∧ 0 ≤ p1.toInt ∧ p1.toInt ≤ 9999) 0 (-1))) 0 0 (fun _ => False) := by
  refine Met.ofQ (cc := cX12_byKind) (maxL := 5) (ret := (some .int)) (by decide) rfl ?_
  intro p e s m args below meth c s₁ B hml hv Q hQ
  obtain ⟨rfl, hP, hK⟩ := hv
  have hx := B.exec
  have hb := B.bytes
  have hr := B.returns
  have hlocks := B.notSynchronized
  have hT : ∀ w ∈ gT, w.before _ s = true := fun w h => atoms_spec (ws := (Cond.code yX12_byKind cX12_byKind 5 (some .int) :: gT)) B.pre w (List.mem_cons_of_mem _ h)
  have hown : s.vm.findClass RX12 = some m.cls := findClass_of_methodNamed B.named
  have hl := lv_entry ([.ref (a 0), .int p0, .int p1]) (n := 5) (Nat.le_of_ble_eq_true rfl)
  rw [lg_entry_eq]
  generalize (lg_sl ([.ref (a 0), .int p0, .int p1]) ++ List.replicate (5 - (lg_sl ([.ref (a 0), .int p0, .int p1])).length) Slot.unset).toArray = ls at hl ⊢
  have hl : lv_has ls 5 [(0, .ref (a 0)), (1, .int p0), (2, .int p1)] := hl
  refine lv_iload_n hx hb dX12_byKind_0 rfl (lv_at hl 1 rfl) ?_
  refine vp_callSi (W.runS (As := [.int p0]) (rest := []) ⟨hx, hb, hml, hown, hT⟩ (c_X12_isKind l p0) (va_cwS 1 hT (gS t_30 t_31 t_32 t_8) rfl rfl rfl (by decide +kernel) ⟨Nat.le_of_ble_eq_true rfl, Nat.le_of_ble_eq_true rfl⟩) preT rfl rfl hl.1 rfl (lv_room (Nat.le_of_ble_eq_true rfl)) dX12_byKind_1 ⟨Nat.le_of_ble_eq_true rfl, Nat.le_of_ble_eq_true rfl⟩) (fun r_1 hr_1 => ?_)
  have hr_1 : BR r_1 (0 ≤ p0.toInt ∧ p0.toInt ≤ 7) 1 0 := hr_1
  rcases hr_1 with ⟨rfl, h_2⟩ | ⟨rfl, h_2⟩
  · skip
    refine lv_if_eq (tgt := 14) hx hb dX12_byKind_4 (by decide) (fun c_3 => absurd c_3 (by decide)) (fun c_3 => ?_)
    refine lv_iload_n hx hb dX12_byKind_7 rfl (lv_at hl 2 rfl) ?_
    refine vp_callSi (W.runS (As := [.int p1]) (rest := []) ⟨hx, hb, hml, hown, hT⟩ (c_X12_isDay l p1) (va_cwS 1 hT (gS t_33 t_34 t_35 t_8) rfl rfl rfl (by decide +kernel) ⟨Nat.le_of_ble_eq_true rfl, Nat.le_of_ble_eq_true rfl⟩) preT rfl rfl hl.1 rfl (lv_room (Nat.le_of_ble_eq_true rfl)) dX12_byKind_8 ⟨Nat.le_of_ble_eq_true rfl, Nat.le_of_ble_eq_true rfl⟩) (fun r_4 hr_4 => ?_)
    have hr_4 : BR r_4 (0 ≤ p1.toInt ∧ p1.toInt ≤ 9999) 1 0 := hr_4
    rcases hr_4 with ⟨rfl, h_5⟩ | ⟨rfl, h_5⟩
    · skip
      refine lv_if_ne (tgt := 16) hx hb dX12_byKind_11 (by decide) (fun c_6 => ?_) (fun c_6 => absurd c_6 (by decide))
      refine lv_iconst (v := 0) hx hb dX12_byKind_16 (by decide) ?_
      refine lv_istore_n (lv' := [(3, .int 0), (0, .ref (a 0)), (1, .int p0), (2, .int p1)]) hx hb dX12_byKind_17 rfl hl (by decide) rfl (fun ls hl => ?_)
      refine lv_iconst (v := 0) hx hb dX12_byKind_18 (by decide) ?_
      refine lv_istore (lv' := [(4, .int 0), (3, .int 0), (0, .ref (a 0)), (1, .int p0), (2, .int p1)]) hx hb dX12_byKind_19 hl (by decide) rfl (fun ls hl => ?_)
      refine lv_iload hx hb dX12_byKind_21 (lv_at hl 0 rfl) ?_
      refine lv_aload_n hx hb dX12_byKind_23 rfl (lv_at hl 2 rfl) ?_
      refine va_get (D := D) (ci := 12) (v := .int 0) (C := RX12) (T := TX12) (N := 91) hx hb hT iX12 hown hK hP 0 rfl rfl 51 (by decide) (hT _ t_6) (fun _ h9 => h9) (congrArg (fun z => some (Value.int z)) (hf.1 51 (by decide))) dX12_byKind_24 ?_
      refine lv_icmp_ge (tgt := 88) hx hb dX12_byKind_27 (by decide) (fun c_7 => ?_) (fun c_7 => absurd (by decide) c_7)
      refine lv_iload_n hx hb dX12_byKind_88 rfl (lv_at hl 1 rfl) ?_
      subst hQ
      exact W.iret (v := 0) hx hb hr (fun t ht hW => ⟨_, rfl, Or.inl ⟨rfl, by omega⟩, ht⟩) (fun q hq => absurd hq List.not_mem_nil) dX12_byKind_89
    · skip
      refine lv_if_ne (tgt := 16) hx hb dX12_byKind_11 (by decide) (fun c_8 => absurd (by decide) c_8) (fun c_8 => ?_)
      refine lv_iconst (v := (-1)) hx hb dX12_byKind_14 (by decide) ?_
      subst hQ
      exact W.iret (v := (-1)) hx hb hr (fun t ht hW => ⟨_, rfl, Or.inr ⟨rfl, by omega⟩, ht⟩) (fun q hq => absurd hq List.not_mem_nil) dX12_byKind_15
  · skip
    refine lv_if_eq (tgt := 14) hx hb dX12_byKind_4 (by decide) (fun c_9 => ?_) (fun c_9 => absurd (by decide) c_9)
    refine lv_iconst (v := (-1)) hx hb dX12_byKind_14 (by decide) ?_
    subst hQ
    exact W.iret (v := (-1)) hx hb hr (fun t ht hW => ⟨_, rfl, Or.inr ⟨rfl, by omega⟩, ht⟩) (fun q hq => absurd hq List.not_mem_nil) dX12_byKind_15
set_option maxHeartbeats 4000000 in
set_option maxRecDepth 100000 in
theorem c_X12_count (l : Launch) (D : va_G) (cy : Nat → ClassId) (a : Nat → Nat) (i : Nat → Int32) (r : Nat → Nat → Int32) (rl : Nat → Int64) (p0 : Int32) (hf : mZ i) : Met l yX12_count (Cond.code yX12_count cX12_count 2 (some .int) :: gT) { frames := 2, cells := 0, slots := 0, locals := 46 } (va_Pc [.ref (a 0), .int p0] (rP D cy (mW cy a i r rl))) (vp_Si (fun z => (p0.toInt = 6 → z = 1) ∧ (0 ≤ p0.toInt → p0.toInt ≤ 5 → z = 0) ∧ (p0.toInt < 0 ∨ 6 < p0.toInt → z = -1))) 0 0 (fun _ => False) := by
  refine Met.ofQ (cc := cX12_count) (maxL := 2) (ret := (some .int)) (by decide) rfl ?_
  intro p e s m args below meth c s₁ B hml hv Q hQ
  obtain ⟨rfl, hP, hK⟩ := hv
  have hx := B.exec
  have hb := B.bytes
  have hr := B.returns
  have hlocks := B.notSynchronized
  have hT : ∀ w ∈ gT, w.before _ s = true := fun w h => atoms_spec (ws := (Cond.code yX12_count cX12_count 2 (some .int) :: gT)) B.pre w (List.mem_cons_of_mem _ h)
  have hown : s.vm.findClass RX12 = some m.cls := findClass_of_methodNamed B.named
  have hl := lv_entry ([.ref (a 0), .int p0]) (n := 2) (Nat.le_of_ble_eq_true rfl)
  rw [lg_entry_eq]
  generalize (lg_sl ([.ref (a 0), .int p0]) ++ List.replicate (2 - (lg_sl ([.ref (a 0), .int p0])).length) Slot.unset).toArray = ls at hl ⊢
  have hl : lv_has ls 2 [(0, .ref (a 0)), (1, .int p0)] := hl
  refine lv_iload_n hx hb dX12_count_0 rfl (lv_at hl 1 rfl) ?_
  rcases (show (p0.toInt < 0 ∨ 6 < p0.toInt) ∨ p0.toInt = 0 ∨ p0.toInt = 1 ∨ p0.toInt = 2 ∨ p0.toInt = 3 ∨ p0.toInt = 4 ∨ p0.toInt = 5 ∨ p0.toInt = 6 by omega) with h_1 | h_1 | h_1 | h_1 | h_1 | h_1 | h_1 | h_1
  · refine lv_tableOut (tgt := 79) hx hb dX12_count_1 h_1 (by decide) ?_
    refine lv_iload_n hx hb dX12_count_79 rfl (lv_at hl 1 rfl) ?_
    refine lv_bipush (v := 10) hx hb dX12_count_80 (by decide) ?_
    refine lv_bipush (v := 9) hx hb dX12_count_82 (by decide) ?_
    refine lv_aload_n hx hb dX12_count_84 rfl (lv_at hl 0 rfl) ?_
    refine va_get (D := D) (ci := 12) (v := .int 0) (C := RX12) (T := TX12) (N := 91) hx hb hT iX12 hown hK hP 0 rfl rfl 0 (by decide) (hT _ t_5) (fun _ h9 => h9) (congrArg (fun z => some (Value.int z)) (hf.1 0 (by decide))) dX12_count_85 ?_
    refine lv_iadd hx hb dX12_count_88 ?_
    refine lv_topi (fun v_2 ev_2 => ?_)
    obtain rfl : v_2 = 9 := ev_2.trans (by decide)
    refine vp_callSi (W.runS (As := [.int p0, .int 10, .int 9]) (rest := []) ⟨hx, hb, hml, hown, hT⟩ (c_X12_in l p0 10 9) (va_cwS 3 hT (gS t_12 t_13 t_14 t_8) rfl rfl rfl (by decide +kernel) ⟨Nat.le_of_ble_eq_true rfl, Nat.le_of_ble_eq_true rfl⟩) preT rfl rfl hl.1 rfl (lv_room (Nat.le_of_ble_eq_true rfl)) dX12_count_89 ⟨Nat.le_of_ble_eq_true rfl, Nat.le_of_ble_eq_true rfl⟩) (fun r_3 hr_3 => ?_)
    have hr_3 : BR r_3 (10 ≤ p0.toInt ∧ p0.toInt ≤ 9) 1 0 := hr_3
    rcases hr_3 with ⟨rfl, h_4⟩ | ⟨rfl, h_4⟩
    · exact absurd h_4 (by omega)
    · skip
      refine lv_if_eq (tgt := 105) hx hb dX12_count_92 (by decide) (fun c_5 => ?_) (fun c_5 => absurd (by decide) c_5)
      refine lv_iload_n hx hb dX12_count_105 rfl (lv_at hl 1 rfl) ?_
      refine lv_bipush (v := 20) hx hb dX12_count_106 (by decide) ?_
      refine lv_bipush (v := 19) hx hb dX12_count_108 (by decide) ?_
      refine lv_aload_n hx hb dX12_count_110 rfl (lv_at hl 0 rfl) ?_
      refine va_get (D := D) (ci := 12) (v := .int 0) (C := RX12) (T := TX12) (N := 91) hx hb hT iX12 hown hK hP 0 rfl rfl 0 (by decide) (hT _ t_5) (fun _ h9 => h9) (congrArg (fun z => some (Value.int z)) (hf.1 0 (by decide))) dX12_count_111 ?_
      refine lv_iadd hx hb dX12_count_114 ?_
      refine lv_topi (fun v_6 ev_6 => ?_)
      obtain rfl : v_6 = 19 := ev_6.trans (by decide)
      refine vp_callSi (W.runS (As := [.int p0, .int 20, .int 19]) (rest := []) ⟨hx, hb, hml, hown, hT⟩ (c_X12_in l p0 20 19) (va_cwS 3 hT (gS t_12 t_13 t_14 t_8) rfl rfl rfl (by decide +kernel) ⟨Nat.le_of_ble_eq_true rfl, Nat.le_of_ble_eq_true rfl⟩) preT rfl rfl hl.1 rfl (lv_room (Nat.le_of_ble_eq_true rfl)) dX12_count_115 ⟨Nat.le_of_ble_eq_true rfl, Nat.le_of_ble_eq_true rfl⟩) (fun r_7 hr_7 => ?_)
      have hr_7 : BR r_7 (20 ≤ p0.toInt ∧ p0.toInt ≤ 19) 1 0 := hr_7
      rcases hr_7 with ⟨rfl, h_8⟩ | ⟨rfl, h_8⟩
      · exact absurd h_8 (by omega)
      · skip
        refine lv_if_eq (tgt := 131) hx hb dX12_count_118 (by decide) (fun c_9 => ?_) (fun c_9 => absurd (by decide) c_9)
        refine lv_iload_n hx hb dX12_count_131 rfl (lv_at hl 1 rfl) ?_
        refine lv_bipush (v := 30) hx hb dX12_count_132 (by decide) ?_
        refine lv_bipush (v := 29) hx hb dX12_count_134 (by decide) ?_
        refine lv_aload_n hx hb dX12_count_136 rfl (lv_at hl 0 rfl) ?_
        refine va_get (D := D) (ci := 12) (v := .int 0) (C := RX12) (T := TX12) (N := 91) hx hb hT iX12 hown hK hP 0 rfl rfl 51 (by decide) (hT _ t_6) (fun _ h9 => h9) (congrArg (fun z => some (Value.int z)) (hf.1 51 (by decide))) dX12_count_137 ?_
        refine lv_iadd hx hb dX12_count_140 ?_
        refine lv_topi (fun v_10 ev_10 => ?_)
        obtain rfl : v_10 = 29 := ev_10.trans (by decide)
        refine vp_callSi (W.runS (As := [.int p0, .int 30, .int 29]) (rest := []) ⟨hx, hb, hml, hown, hT⟩ (c_X12_in l p0 30 29) (va_cwS 3 hT (gS t_12 t_13 t_14 t_8) rfl rfl rfl (by decide +kernel) ⟨Nat.le_of_ble_eq_true rfl, Nat.le_of_ble_eq_true rfl⟩) preT rfl rfl hl.1 rfl (lv_room (Nat.le_of_ble_eq_true rfl)) dX12_count_141 ⟨Nat.le_of_ble_eq_true rfl, Nat.le_of_ble_eq_true rfl⟩) (fun r_11 hr_11 => ?_)
        have hr_11 : BR r_11 (30 ≤ p0.toInt ∧ p0.toInt ≤ 29) 1 0 := hr_11
        rcases hr_11 with ⟨rfl, h_12⟩ | ⟨rfl, h_12⟩
        · exact absurd h_12 (by omega)
        · skip
          refine lv_if_eq (tgt := 159) hx hb dX12_count_144 (by decide) (fun c_13 => ?_) (fun c_13 => absurd (by decide) c_13)
          refine lv_iconst (v := (-1)) hx hb dX12_count_159 (by decide) ?_
          subst hQ
          exact W.iret (v := (-1)) hx hb hr (fun t ht hW => ⟨_, rfl, ⟨fun _ => by first | rfl | omega, fun _ _ => by first | rfl | omega, fun _ => by first | rfl | omega⟩, ht⟩) (fun q hq => absurd hq List.not_mem_nil) dX12_count_160
  · refine lv_tableIn (off := 43) (tgt := 44) hx hb dX12_count_1 (by omega) (by omega) (by rw [h_1]; rfl) (by decide) ?_
    refine lv_aload_n hx hb dX12_count_44 rfl (lv_at hl 0 rfl) ?_
    refine va_get (D := D) (ci := 12) (v := .int 0) (C := RX12) (T := TX12) (N := 91) hx hb hT iX12 hown hK hP 0 rfl rfl 0 (by decide) (hT _ t_5) (fun _ h9 => h9) (congrArg (fun z => some (Value.int z)) (hf.1 0 (by decide))) dX12_count_45 ?_
    subst hQ
    exact W.iret (v := 0) hx hb hr (fun t ht hW => ⟨_, rfl, ⟨fun _ => by first | rfl | omega, fun _ _ => by first | rfl | omega, fun _ => by first | rfl | omega⟩, ht⟩) (fun q hq => absurd hq List.not_mem_nil) dX12_count_48
  · refine lv_tableIn (off := 48) (tgt := 49) hx hb dX12_count_1 (by omega) (by omega) (by rw [h_1]; rfl) (by decide) ?_
    refine lv_aload_n hx hb dX12_count_49 rfl (lv_at hl 0 rfl) ?_
    refine va_get (D := D) (ci := 12) (v := .int 0) (C := RX12) (T := TX12) (N := 91) hx hb hT iX12 hown hK hP 0 rfl rfl 51 (by decide) (hT _ t_6) (fun _ h9 => h9) (congrArg (fun z => some (Value.int z)) (hf.1 51 (by decide))) dX12_count_50 ?_
    subst hQ
    exact W.iret (v := 0) hx hb hr (fun t ht hW => ⟨_, rfl, ⟨fun _ => by first | rfl | omega, fun _ _ => by first | rfl | omega, fun _ => by first | rfl | omega⟩, ht⟩) (fun q hq => absurd hq List.not_mem_nil) dX12_count_53
  · refine lv_tableIn (off := 53) (tgt := 54) hx hb dX12_count_1 (by omega) (by omega) (by rw [h_1]; rfl) (by decide) ?_
    refine lv_aload_n hx hb dX12_count_54 rfl (lv_at hl 0 rfl) ?_
    refine va_get (D := D) (ci := 12) (v := .int 0) (C := RX12) (T := TX12) (N := 91) hx hb hT iX12 hown hK hP 0 rfl rfl 31 (by decide) (hT _ t_36) (fun _ h9 => h9) (congrArg (fun z => some (Value.int z)) (hf.1 31 (by decide))) dX12_count_55 ?_
    subst hQ
    exact W.iret (v := 0) hx hb hr (fun t ht hW => ⟨_, rfl, ⟨fun _ => by first | rfl | omega, fun _ _ => by first | rfl | omega, fun _ => by first | rfl | omega⟩, ht⟩) (fun q hq => absurd hq List.not_mem_nil) dX12_count_58
  · refine lv_tableIn (off := 58) (tgt := 59) hx hb dX12_count_1 (by omega) (by omega) (by rw [h_1]; rfl) (by decide) ?_
    refine lv_aload_n hx hb dX12_count_59 rfl (lv_at hl 0 rfl) ?_
    refine va_get (D := D) (ci := 12) (v := .int 0) (C := RX12) (T := TX12) (N := 91) hx hb hT iX12 hown hK hP 0 rfl rfl 22 (by decide) (hT _ t_15) (fun _ h9 => h9) (congrArg (fun z => some (Value.int z)) (hf.1 22 (by decide))) dX12_count_60 ?_
    subst hQ
    exact W.iret (v := 0) hx hb hr (fun t ht hW => ⟨_, rfl, ⟨fun _ => by first | rfl | omega, fun _ _ => by first | rfl | omega, fun _ => by first | rfl | omega⟩, ht⟩) (fun q hq => absurd hq List.not_mem_nil) dX12_count_63
  · refine lv_tableIn (off := 63) (tgt := 64) hx hb dX12_count_1 (by omega) (by omega) (by rw [h_1]; rfl) (by decide) ?_
    refine lv_aload_n hx hb dX12_count_64 rfl (lv_at hl 0 rfl) ?_
    refine va_get (D := D) (ci := 12) (v := .int 0) (C := RX12) (T := TX12) (N := 91) hx hb hT iX12 hown hK hP 0 rfl rfl 63 (by decide) (hT _ t_27) (fun _ h9 => h9) (congrArg (fun z => some (Value.int z)) (hf.1 63 (by decide))) dX12_count_65 ?_
    subst hQ
    exact W.iret (v := 0) hx hb hr (fun t ht hW => ⟨_, rfl, ⟨fun _ => by first | rfl | omega, fun _ _ => by first | rfl | omega, fun _ => by first | rfl | omega⟩, ht⟩) (fun q hq => absurd hq List.not_mem_nil) dX12_count_68
  · refine lv_tableIn (off := 68) (tgt := 69) hx hb dX12_count_1 (by omega) (by omega) (by rw [h_1]; rfl) (by decide) ?_
    refine lv_aload_n hx hb dX12_count_69 rfl (lv_at hl 0 rfl) ?_
    refine va_get (D := D) (ci := 12) (v := .int 0) (C := RX12) (T := TX12) (N := 91) hx hb hT iX12 hown hK hP 0 rfl rfl 72 (by decide) (hT _ t_37) (fun _ h9 => h9) (congrArg (fun z => some (Value.int z)) (hf.1 72 (by decide))) dX12_count_70 ?_
    subst hQ
    exact W.iret (v := 0) hx hb hr (fun t ht hW => ⟨_, rfl, ⟨fun _ => by first | rfl | omega, fun _ _ => by first | rfl | omega, fun _ => by first | rfl | omega⟩, ht⟩) (fun q hq => absurd hq List.not_mem_nil) dX12_count_73
  · refine lv_tableIn (off := 73) (tgt := 74) hx hb dX12_count_1 (by omega) (by omega) (by rw [h_1]; rfl) (by decide) ?_
    refine lv_aload_n hx hb dX12_count_74 rfl (lv_at hl 0 rfl) ?_
    refine va_get (D := D) (ci := 12) (v := .int 1) (C := RX12) (T := TX12) (N := 91) hx hb hT iX12 hown hK hP 0 rfl rfl 1 (by decide) (hT _ t_38) (fun _ h9 => h9) (congrArg (fun z => some (Value.int z)) hf.2) dX12_count_75 ?_
    subst hQ
    exact W.iret (v := 1) hx hb hr (fun t ht hW => ⟨_, rfl, ⟨fun _ => by first | rfl | omega, fun _ _ => by first | rfl | omega, fun _ => by first | rfl | omega⟩, ht⟩) (fun q hq => absurd hq List.not_mem_nil) dX12_count_78
