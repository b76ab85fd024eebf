theorem t_39 : Cond.fieldLink RX11 22 "DepositJudge" "homeCount" "I" ∈ gT := tm (List.mem_of_getElem? (i := 253) (by decide +kernel)) (by decide +kernel)
theorem t_40 : Cond.fieldLink RX11 61 "DepositJudge" "docket" "LDepositJudge$Docket;" ∈ gT := tm (List.mem_of_getElem? (i := 259) (by decide +kernel)) (by decide +kernel)
theorem t_41 : Cond.fieldLink RX11 320 "DepositJudge$Docket" "claims" "I" ∈ gT := tm (List.mem_of_getElem? (i := 143) (by decide +kernel)) (by decide +kernel)
theorem t_42 : Cond.code yX11_homeAt cX11_homeAt 2 (some (.object "DepositJudge$Home")) ∈ gT := tm (List.mem_of_getElem? (i := 409) (by decide +kernel)) (by decide +kernel)
theorem t_43 : Cond.methodLink RX11 108 yX11_homeAt ∈ gT := tm (List.mem_of_getElem? (i := 406) (by decide +kernel)) (by decide +kernel)
theorem t_44 : Cond.instanceMethod yX11_homeAt ∈ gT := tm (List.mem_of_getElem? (i := 408) (by decide +kernel)) (by decide +kernel)
theorem t_45 : Cond.selects RX11 yX11_homeAt yX11_homeAt ∈ gT := tmp (List.mem_of_getElem? (i := 0) (by decide +kernel)) (by decide +kernel)
theorem t_46 : Cond.fieldLink RX11 36 "DepositJudge" "tape" "LDepositJudge$Tape;" ∈ gT := tm (List.mem_of_getElem? (i := 255) (by decide +kernel)) (by decide +kernel)
theorem t_47 : Cond.fieldLink RX11 141 "DepositJudge$Tape" "length" "I" ∈ gT := tm (List.mem_of_getElem? (i := 69) (by decide +kernel)) (by decide +kernel)
theorem t_48 : Cond.code yX11_isClaim cX11_isClaim 2 (some .boolean) ∈ gT := tm (List.mem_of_getElem? (i := 728) (by decide +kernel)) (by decide +kernel)
theorem t_49 : Cond.methodLink RX11 196 yX11_isClaim ∈ gT := tm (List.mem_of_getElem? (i := 725) (by decide +kernel)) (by decide +kernel)
theorem t_50 : Cond.instanceMethod yX11_isClaim ∈ gT := tm (List.mem_of_getElem? (i := 727) (by decide +kernel)) (by decide +kernel)
theorem t_51 : Cond.selects RX11 yX11_isClaim yX11_isClaim ∈ gT := tmp (List.mem_of_getElem? (i := 23) (by decide +kernel)) (by decide +kernel)
theorem t_52 : Cond.fieldLink RX11 68 "DepositJudge" "wasKept" "Z" ∈ gT := tm (List.mem_of_getElem? (i := 261) (by decide +kernel)) (by decide +kernel)
theorem t_53 : Cond.code yX11_isDay cX11_isDay 1 (some .boolean) ∈ gT := tm (List.mem_of_getElem? (i := 712) (by decide +kernel)) (by decide +kernel)
theorem t_54 : Cond.methodLink RX11 186 yX11_isDay ∈ gT := tm (List.mem_of_getElem? (i := 710) (by decide +kernel)) (by decide +kernel)
theorem t_55 : Cond.static yX11_isDay ∈ gT := tm (List.mem_of_getElem? (i := 711) (by decide +kernel)) (by decide +kernel)
theorem t_56 : Cond.fieldLink RX11 89 "DepositJudge" "pictures" "LDepositJudge$Pictures;" ∈ gT := tm (List.mem_of_getElem? (i := 264) (by decide +kernel)) (by decide +kernel)
theorem t_57 : Cond.fieldLink RX11 314 "DepositJudge$Pictures" "wrongCount" "I" ∈ gT := tm (List.mem_of_getElem? (i := 238) (by decide +kernel)) (by decide +kernel)
theorem t_58 : Cond.fieldLink RX11 82 "DepositJudge" "doubles" "LDepositJudge$Doubles;" ∈ gT := tm (List.mem_of_getElem? (i := 263) (by decide +kernel)) (by decide +kernel)
theorem t_59 : Cond.fieldLink RX11 286 "DepositJudge$Doubles" "times" "[I" ∈ gT := tm (List.mem_of_getElem? (i := 214) (by decide +kernel)) (by decide +kernel)
theorem t_60 : Cond.constant RX11 289 (-1000000) ∈ gT := tm (List.mem_of_getElem? (i := 836) (by decide +kernel)) (by decide +kernel)
theorem t_61 : Cond.fieldLink RX11 50 "DepositJudge" "lawInForce" "LDepositJudge$Law;" ∈ gT := tm (List.mem_of_getElem? (i := 257) (by decide +kernel)) (by decide +kernel)
theorem t_62 : Cond.fieldLink RX11 154 "DepositJudge$Law" "clauses" "I" ∈ gT := tm (List.mem_of_getElem? (i := 89) (by decide +kernel)) (by decide +kernel)
theorem t_63 : Cond.fieldLink RX11 282 "DepositJudge$Doubles" "count" "I" ∈ gT := tm (List.mem_of_getElem? (i := 212) (by decide +kernel)) (by decide +kernel)
theorem t_64 : Cond.fieldLink RX11 342 "DepositJudge$Pictures" "facts" "I" ∈ gT := tm (List.mem_of_getElem? (i := 236) (by decide +kernel)) (by decide +kernel)
theorem t_65 : Cond.fieldLink RX11 274 "DepositJudge$Docket" "x" "I" ∈ gT := tm (List.mem_of_getElem? (i := 165) (by decide +kernel)) (by decide +kernel)
theorem t_66 : Cond.fieldLink RX7 22 "DepositJudge$Pictures" "gaps" "[I" ∈ gT := tm (List.mem_of_getElem? (i := 241) (by decide +kernel)) (by decide +kernel)
theorem t_67 : Cond.code yX7_gap cX7_gap 3 (some .int) ∈ gT := tm (List.mem_of_getElem? (i := 863) (by decide +kernel)) (by decide +kernel)
theorem t_68 : Cond.initialized RX7 ∈ gT := tm (List.mem_of_getElem? (i := 10) (by decide +kernel)) (by decide +kernel)
theorem t_69 : Cond.methodLink RX11 311 yX7_gap ∈ gT := tm (List.mem_of_getElem? (i := 874) (by decide +kernel)) (by decide +kernel)
theorem t_70 : Cond.instanceMethod yX7_gap ∈ gT := tm (List.mem_of_getElem? (i := 861) (by decide +kernel)) (by decide +kernel)
theorem t_71 : Cond.selects RX7 yX7_gap yX7_gap ∈ gT := tm (List.mem_of_getElem? (i := 862) (by decide +kernel)) (by decide +kernel)
theorem t_72 : Cond.constant RX11 310 (-100000) ∈ gT := tm (List.mem_of_getElem? (i := 873) (by decide +kernel)) (by decide +kernel)
theorem dX11_agree_0 : decode cX11_agree 0 = .ok (.aload_n 0, 1) := by decide +kernel
theorem dX11_agree_1 : decode cX11_agree 1 = .ok (.iload_n 1, 1) := by decide +kernel
theorem dX11_agree_2 : decode cX11_agree 2 = .ok (.invokevirtual 196, 3) := by decide +kernel
theorem dX11_agree_5 : decode cX11_agree 5 = .ok (.ifCond .eq 13, 3) := by decide +kernel
theorem dX11_agree_18 : decode cX11_agree 18 = .ok (.iconst 0, 1) := by decide +kernel
theorem dX11_agree_19 : decode cX11_agree 19 = .ok (.ireturn, 1) := by decide +kernel
theorem dX11_answer_0 : decode cX11_answer 0 = .ok (.aload_n 0, 1) := by decide +kernel
theorem dX11_answer_1 : decode cX11_answer 1 = .ok (.iload_n 1, 1) := by decide +kernel
theorem dX11_answer_2 : decode cX11_answer 2 = .ok (.invokevirtual 196, 3) := by decide +kernel
theorem dX11_answer_5 : decode cX11_answer 5 = .ok (.ifCond .eq 23, 3) := by decide +kernel
theorem dX11_answer_28 : decode cX11_answer 28 = .ok (.iconst 0, 1) := by decide +kernel
theorem dX11_answer_29 : decode cX11_answer 29 = .ok (.ireturn, 1) := by decide +kernel
theorem dX11_award_0 : decode cX11_award 0 = .ok (.aload_n 0, 1) := by decide +kernel
theorem dX11_award_1 : decode cX11_award 1 = .ok (.iload_n 1, 1) := by decide +kernel
theorem dX11_award_2 : decode cX11_award 2 = .ok (.invokevirtual 196, 3) := by decide +kernel
theorem dX11_award_5 : decode cX11_award 5 = .ok (.ifCond .eq 19, 3) := by decide +kernel
theorem dX11_award_24 : decode cX11_award 24 = .ok (.aconst_null, 1) := by decide +kernel
theorem dX11_award_25 : decode cX11_award 25 = .ok (.astore 4, 2) := by decide +kernel
theorem dX11_award_27 : decode cX11_award 27 = .ok (.aload 4, 2) := by decide +kernel
theorem dX11_award_29 : decode cX11_award 29 = .ok (.ifnull 19, 3) := by decide +kernel
theorem dX11_award_48 : decode cX11_award 48 = .ok (.iconst (-1), 1) := by decide +kernel
theorem dX11_award_49 : decode cX11_award 49 = .ok (.ireturn, 1) := by decide +kernel
theorem dX11_byKind_0 : decode cX11_byKind 0 = .ok (.iload_n 1, 1) := by decide +kernel
theorem dX11_byKind_1 : decode cX11_byKind 1 = .ok (.iconst 0, 1) := by decide +kernel
theorem dX11_byKind_2 : decode cX11_byKind 2 = .ok (.bipush 7, 2) := by decide +kernel
theorem dX11_byKind_4 : decode cX11_byKind 4 = .ok (.invokestatic 93, 3) := by decide +kernel
theorem dX11_byKind_7 : decode cX11_byKind 7 = .ok (.ifCond .eq 10, 3) := by decide +kernel
theorem dX11_byKind_10 : decode cX11_byKind 10 = .ok (.iload_n 2, 1) := by decide +kernel
theorem dX11_byKind_11 : decode cX11_byKind 11 = .ok (.invokestatic 186, 3) := by decide +kernel
theorem dX11_byKind_14 : decode cX11_byKind 14 = .ok (.ifCond .ne 5, 3) := by decide +kernel
theorem dX11_byKind_17 : decode cX11_byKind 17 = .ok (.iconst (-1), 1) := by decide +kernel
theorem dX11_byKind_18 : decode cX11_byKind 18 = .ok (.ireturn, 1) := by decide +kernel
theorem dX11_byKind_19 : decode cX11_byKind 19 = .ok (.iconst 0, 1) := by decide +kernel
theorem dX11_byKind_20 : decode cX11_byKind 20 = .ok (.istore_n 3, 1) := by decide +kernel
theorem dX11_byKind_21 : decode cX11_byKind 21 = .ok (.iconst 0, 1) := by decide +kernel
theorem dX11_byKind_22 : decode cX11_byKind 22 = .ok (.istore 4, 2) := by decide +kernel
theorem dX11_byKind_24 : decode cX11_byKind 24 = .ok (.iload 4, 2) := by decide +kernel
theorem dX11_byKind_26 : decode cX11_byKind 26 = .ok (.aload_n 0, 1) := by decide +kernel
theorem dX11_byKind_27 : decode cX11_byKind 27 = .ok (.getfield 61, 3) := by decide +kernel
theorem dX11_byKind_30 : decode cX11_byKind 30 = .ok (.getfield 320, 3) := by decide +kernel
theorem dX11_byKind_33 : decode cX11_byKind 33 = .ok (.if_icmp .ge 68, 3) := by decide +kernel
theorem dX11_byKind_101 : decode cX11_byKind 101 = .ok (.iload_n 3, 1) := by decide +kernel
theorem dX11_byKind_102 : decode cX11_byKind 102 = .ok (.ireturn, 1) := by decide +kernel
theorem dX11_check_0 : decode cX11_check 0 = .ok (.aload_n 0, 1) := by decide +kernel
theorem dX11_check_1 : decode cX11_check 1 = .ok (.iload_n 1, 1) := by decide +kernel
theorem dX11_check_2 : decode cX11_check 2 = .ok (.invokevirtual 108, 3) := by decide +kernel
theorem dX11_check_5 : decode cX11_check 5 = .ok (.astore 4, 2) := by decide +kernel
theorem dX11_check_7 : decode cX11_check 7 = .ok (.aload 4, 2) := by decide +kernel
theorem dX11_check_9 : decode cX11_check 9 = .ok (.ifnull 32, 3) := by decide +kernel
theorem dX11_check_41 : decode cX11_check 41 = .ok (.bipush (-2), 2) := by decide +kernel
theorem dX11_check_43 : decode cX11_check 43 = .ok (.ireturn, 1) := by decide +kernel
theorem dX11_claim_0 : decode cX11_claim 0 = .ok (.aload_n 0, 1) := by decide +kernel
theorem dX11_claim_1 : decode cX11_claim 1 = .ok (.iload_n 1, 1) := by decide +kernel
theorem dX11_claim_2 : decode cX11_claim 2 = .ok (.invokevirtual 108, 3) := by decide +kernel
theorem dX11_claim_5 : decode cX11_claim 5 = .ok (.astore 6, 2) := by decide +kernel
theorem dX11_claim_7 : decode cX11_claim 7 = .ok (.aload 6, 2) := by decide +kernel
theorem dX11_claim_9 : decode cX11_claim 9 = .ok (.ifnull 50, 3) := by decide +kernel
theorem dX11_claim_59 : decode cX11_claim 59 = .ok (.iconst (-1), 1) := by decide +kernel
theorem dX11_claim_60 : decode cX11_claim 60 = .ok (.ireturn, 1) := by decide +kernel
theorem dX11_count_0 : decode cX11_count 0 = .ok (.iload_n 1, 1) := by decide +kernel
theorem dX11_count_1 : decode cX11_count 1 = .ok (.bipush 30, 2) := by decide +kernel
theorem dX11_count_3 : decode cX11_count 3 = .ok (.if_icmp .lt 31, 3) := by decide +kernel
theorem dX11_count_6 : decode cX11_count 6 = .ok (.aload_n 0, 1) := by decide +kernel
theorem dX11_count_7 : decode cX11_count 7 = .ok (.iload_n 1, 1) := by decide +kernel
theorem dX11_count_8 : decode cX11_count 8 = .ok (.bipush 30, 2) := by decide +kernel
theorem dX11_count_10 : decode cX11_count 10 = .ok (.isub, 1) := by decide +kernel
theorem dX11_count_11 : decode cX11_count 11 = .ok (.invokevirtual 196, 3) := by decide +kernel
theorem dX11_count_14 : decode cX11_count 14 = .ok (.ifCond .eq 18, 3) := by decide +kernel
theorem dX11_count_32 : decode cX11_count 32 = .ok (.iconst (-1), 1) := by decide +kernel
theorem dX11_count_33 : decode cX11_count 33 = .ok (.ireturn, 1) := by decide +kernel
theorem dX11_count_34 : decode cX11_count 34 = .ok (.iload_n 1, 1) := by decide +kernel
theorem dX11_count_35 : decode cX11_count 35 = .ok (.bipush 10, 2) := by decide +kernel
theorem dX11_count_37 : decode cX11_count 37 = .ok (.if_icmp .lt 42, 3) := by decide +kernel
theorem dX11_count_40 : decode cX11_count 40 = .ok (.aload_n 0, 1) := by decide +kernel
theorem dX11_count_41 : decode cX11_count 41 = .ok (.iload_n 1, 1) := by decide +kernel
theorem dX11_count_42 : decode cX11_count 42 = .ok (.bipush 10, 2) := by decide +kernel
theorem dX11_count_44 : decode cX11_count 44 = .ok (.irem, 1) := by decide +kernel
theorem dX11_count_45 : decode cX11_count 45 = .ok (.invokevirtual 108, 3) := by decide +kernel
theorem dX11_count_48 : decode cX11_count 48 = .ok (.astore_n 2, 1) := by decide +kernel
theorem dX11_count_49 : decode cX11_count 49 = .ok (.aload_n 2, 1) := by decide +kernel
theorem dX11_count_50 : decode cX11_count 50 = .ok (.ifnonnull 5, 3) := by decide +kernel
theorem dX11_count_53 : decode cX11_count 53 = .ok (.iconst (-1), 1) := by decide +kernel
theorem dX11_count_54 : decode cX11_count 54 = .ok (.ireturn, 1) := by decide +kernel
theorem dX11_count_79 : decode cX11_count 79 = .ok (.iload_n 1, 1) := by decide +kernel
theorem dX11_count_80 : decode cX11_count 80 = .ok (.tableswitch 97 0 6 #[44, 49, 57, 65, 73, 81, 89], 44) := by decide +kernel
theorem dX11_count_124 : decode cX11_count 124 = .ok (.aload_n 0, 1) := by decide +kernel
theorem dX11_count_125 : decode cX11_count 125 = .ok (.getfield 22, 3) := by decide +kernel
theorem dX11_count_128 : decode cX11_count 128 = .ok (.ireturn, 1) := by decide +kernel
theorem dX11_count_129 : decode cX11_count 129 = .ok (.aload_n 0, 1) := by decide +kernel
theorem dX11_count_130 : decode cX11_count 130 = .ok (.getfield 61, 3) := by decide +kernel
theorem dX11_count_133 : decode cX11_count 133 = .ok (.getfield 320, 3) := by decide +kernel
theorem dX11_count_136 : decode cX11_count 136 = .ok (.ireturn, 1) := by decide +kernel
theorem dX11_count_137 : decode cX11_count 137 = .ok (.aload_n 0, 1) := by decide +kernel
theorem dX11_count_138 : decode cX11_count 138 = .ok (.getfield 50, 3) := by decide +kernel
theorem dX11_count_141 : decode cX11_count 141 = .ok (.getfield 154, 3) := by decide +kernel
theorem dX11_count_144 : decode cX11_count 144 = .ok (.ireturn, 1) := by decide +kernel
theorem dX11_count_145 : decode cX11_count 145 = .ok (.aload_n 0, 1) := by decide +kernel
theorem dX11_count_146 : decode cX11_count 146 = .ok (.getfield 36, 3) := by decide +kernel
theorem dX11_count_149 : decode cX11_count 149 = .ok (.getfield 141, 3) := by decide +kernel
theorem dX11_count_152 : decode cX11_count 152 = .ok (.ireturn, 1) := by decide +kernel
theorem dX11_count_153 : decode cX11_count 153 = .ok (.aload_n 0, 1) := by decide +kernel
theorem dX11_count_154 : decode cX11_count 154 = .ok (.getfield 82, 3) := by decide +kernel
theorem dX11_count_157 : decode cX11_count 157 = .ok (.getfield 282, 3) := by decide +kernel
theorem dX11_count_160 : decode cX11_count 160 = .ok (.ireturn, 1) := by decide +kernel
theorem dX11_count_161 : decode cX11_count 161 = .ok (.aload_n 0, 1) := by decide +kernel
theorem dX11_count_162 : decode cX11_count 162 = .ok (.getfield 89, 3) := by decide +kernel
theorem dX11_count_165 : decode cX11_count 165 = .ok (.getfield 342, 3) := by decide +kernel
theorem dX11_count_168 : decode cX11_count 168 = .ok (.ireturn, 1) := by decide +kernel
theorem dX11_count_169 : decode cX11_count 169 = .ok (.aload_n 0, 1) := by decide +kernel
theorem dX11_count_170 : decode cX11_count 170 = .ok (.getfield 61, 3) := by decide +kernel
theorem dX11_count_173 : decode cX11_count 173 = .ok (.getfield 274, 3) := by decide +kernel
theorem dX11_count_176 : decode cX11_count 176 = .ok (.ireturn, 1) := by decide +kernel
theorem dX11_count_177 : decode cX11_count 177 = .ok (.iconst (-1), 1) := by decide +kernel
theorem dX11_count_178 : decode cX11_count 178 = .ok (.ireturn, 1) := by decide +kernel
theorem dX11_dated_0 : decode cX11_dated 0 = .ok (.iload_n 1, 1) := by decide +kernel
theorem dX11_dated_1 : decode cX11_dated 1 = .ok (.iconst 0, 1) := by decide +kernel
theorem dX11_dated_2 : decode cX11_dated 2 = .ok (.bipush 9, 2) := by decide +kernel
theorem dX11_dated_4 : decode cX11_dated 4 = .ok (.invokestatic 93, 3) := by decide +kernel
theorem dX11_dated_7 : decode cX11_dated 7 = .ok (.ifCond .eq 12, 3) := by decide +kernel
theorem dX11_dated_10 : decode cX11_dated 10 = .ok (.iload_n 2, 1) := by decide +kernel
theorem dX11_dated_11 : decode cX11_dated 11 = .ok (.iconst 0, 1) := by decide +kernel
theorem dX11_dated_12 : decode cX11_dated 12 = .ok (.iconst 1, 1) := by decide +kernel
theorem dX11_dated_13 : decode cX11_dated 13 = .ok (.invokestatic 93, 3) := by decide +kernel
theorem dX11_dated_16 : decode cX11_dated 16 = .ok (.ifCond .ne 7, 3) := by decide +kernel
theorem dX11_dated_19 : decode cX11_dated 19 = .ok (.ldc_w 310, 3) := by decide +kernel
theorem dX11_dated_22 : decode cX11_dated 22 = .ok (.ireturn, 1) := by decide +kernel
theorem dX11_dated_23 : decode cX11_dated 23 = .ok (.iload_n 2, 1) := by decide +kernel
theorem dX11_dated_24 : decode cX11_dated 24 = .ok (.ifCond .ne 16, 3) := by decide +kernel
theorem dX11_dated_27 : decode cX11_dated 27 = .ok (.aload_n 0, 1) := by decide +kernel
theorem dX11_dated_28 : decode cX11_dated 28 = .ok (.getfield 89, 3) := by decide +kernel
theorem dX11_dated_31 : decode cX11_dated 31 = .ok (.bipush 10, 2) := by decide +kernel
theorem dX11_dated_33 : decode cX11_dated 33 = .ok (.iload_n 1, 1) := by decide +kernel
theorem dX11_dated_34 : decode cX11_dated 34 = .ok (.invokevirtual 311, 3) := by decide +kernel
theorem dX11_dated_37 : decode cX11_dated 37 = .ok (.goto 13, 3) := by decide +kernel
theorem dX11_dated_40 : decode cX11_dated 40 = .ok (.aload_n 0, 1) := by decide +kernel
theorem dX11_dated_41 : decode cX11_dated 41 = .ok (.getfield 89, 3) := by decide +kernel
theorem dX11_dated_44 : decode cX11_dated 44 = .ok (.iload_n 1, 1) := by decide +kernel
theorem dX11_dated_45 : decode cX11_dated 45 = .ok (.bipush 10, 2) := by decide +kernel
theorem dX11_dated_47 : decode cX11_dated 47 = .ok (.invokevirtual 311, 3) := by decide +kernel
theorem dX11_dated_50 : decode cX11_dated 50 = .ok (.istore_n 3, 1) := by decide +kernel
theorem dX11_dated_51 : decode cX11_dated 51 = .ok (.iload_n 3, 1) := by decide +kernel
theorem dX11_dated_52 : decode cX11_dated 52 = .ok (.ldc_w 289, 3) := by decide +kernel
theorem dX11_dated_55 : decode cX11_dated 55 = .ok (.if_icmp .ne 7, 3) := by decide +kernel
theorem dX11_dated_58 : decode cX11_dated 58 = .ok (.ldc_w 310, 3) := by decide +kernel
theorem dX11_dated_61 : decode cX11_dated 61 = .ok (.ireturn, 1) := by decide +kernel
theorem dX11_draw_0 : decode cX11_draw 0 = .ok (.aload_n 0, 1) := by decide +kernel
theorem dX11_draw_1 : decode cX11_draw 1 = .ok (.iload_n 1, 1) := by decide +kernel
theorem dX11_draw_2 : decode cX11_draw 2 = .ok (.invokevirtual 108, 3) := by decide +kernel
theorem dX11_draw_5 : decode cX11_draw 5 = .ok (.astore_n 2, 1) := by decide +kernel
theorem dX11_draw_6 : decode cX11_draw 6 = .ok (.aload_n 2, 1) := by decide +kernel
theorem dX11_draw_7 : decode cX11_draw 7 = .ok (.ifnonnull 5, 3) := by decide +kernel
theorem dX11_draw_10 : decode cX11_draw 10 = .ok (.iconst (-1), 1) := by decide +kernel
theorem dX11_draw_11 : decode cX11_draw 11 = .ok (.ireturn, 1) := by decide +kernel
theorem dX11_first_0 : decode cX11_first 0 = .ok (.aload_n 0, 1) := by decide +kernel
theorem dX11_first_1 : decode cX11_first 1 = .ok (.iload_n 1, 1) := by decide +kernel
theorem dX11_first_2 : decode cX11_first 2 = .ok (.invokevirtual 108, 3) := by decide +kernel
theorem dX11_first_5 : decode cX11_first 5 = .ok (.astore 6, 2) := by decide +kernel
theorem dX11_first_7 : decode cX11_first 7 = .ok (.aload 6, 2) := by decide +kernel
theorem dX11_first_9 : decode cX11_first 9 = .ok (.ifnull 25, 3) := by decide +kernel
theorem dX11_first_34 : decode cX11_first 34 = .ok (.iconst (-1), 1) := by decide +kernel
theorem dX11_first_35 : decode cX11_first 35 = .ok (.ireturn, 1) := by decide +kernel
theorem dX11_homeAt_0 : decode cX11_homeAt 0 = .ok (.iload_n 1, 1) := by decide +kernel
theorem dX11_homeAt_1 : decode cX11_homeAt 1 = .ok (.iconst 0, 1) := by decide +kernel
theorem dX11_homeAt_2 : decode cX11_homeAt 2 = .ok (.aload_n 0, 1) := by decide +kernel
theorem dX11_homeAt_3 : decode cX11_homeAt 3 = .ok (.getfield 22, 3) := by decide +kernel
theorem dX11_homeAt_6 : decode cX11_homeAt 6 = .ok (.iconst 1, 1) := by decide +kernel
theorem dX11_homeAt_7 : decode cX11_homeAt 7 = .ok (.isub, 1) := by decide +kernel
theorem dX11_homeAt_8 : decode cX11_homeAt 8 = .ok (.invokestatic 93, 3) := by decide +kernel
theorem dX11_homeAt_11 : decode cX11_homeAt 11 = .ok (.ifCond .eq 12, 3) := by decide +kernel
theorem dX11_homeAt_23 : decode cX11_homeAt 23 = .ok (.aconst_null, 1) := by decide +kernel
theorem dX11_homeAt_24 : decode cX11_homeAt 24 = .ok (.areturn, 1) := by decide +kernel
theorem dX11_isClaim_0 : decode cX11_isClaim 0 = .ok (.iload_n 1, 1) := by decide +kernel
theorem dX11_isClaim_1 : decode cX11_isClaim 1 = .ok (.iconst 0, 1) := by decide +kernel
theorem dX11_isClaim_2 : decode cX11_isClaim 2 = .ok (.aload_n 0, 1) := by decide +kernel
theorem dX11_isClaim_3 : decode cX11_isClaim 3 = .ok (.getfield 61, 3) := by decide +kernel
theorem dX11_isClaim_6 : decode cX11_isClaim 6 = .ok (.getfield 320, 3) := by decide +kernel
theorem dX11_isClaim_9 : decode cX11_isClaim 9 = .ok (.iconst 1, 1) := by decide +kernel
theorem dX11_isClaim_10 : decode cX11_isClaim 10 = .ok (.isub, 1) := by decide +kernel
theorem dX11_isClaim_11 : decode cX11_isClaim 11 = .ok (.invokestatic 93, 3) := by decide +kernel
theorem dX11_isClaim_14 : decode cX11_isClaim 14 = .ok (.ireturn, 1) := by decide +kernel
theorem dX11_isNew_0 : decode cX11_isNew 0 = .ok (.aload_n 0, 1) := by decide +kernel
theorem dX11_isNew_1 : decode cX11_isNew 1 = .ok (.iload_n 1, 1) := by decide +kernel
theorem dX11_isNew_2 : decode cX11_isNew 2 = .ok (.invokevirtual 108, 3) := by decide +kernel
theorem dX11_isNew_5 : decode cX11_isNew 5 = .ok (.astore_n 3, 1) := by decide +kernel
theorem dX11_isNew_6 : decode cX11_isNew 6 = .ok (.aload_n 3, 1) := by decide +kernel
theorem dX11_isNew_7 : decode cX11_isNew 7 = .ok (.ifnull 20, 3) := by decide +kernel
theorem dX11_isNew_27 : decode cX11_isNew 27 = .ok (.iconst (-1), 1) := by decide +kernel
theorem dX11_isNew_28 : decode cX11_isNew 28 = .ok (.ireturn, 1) := by decide +kernel
theorem dX11_judged_0 : decode cX11_judged 0 = .ok (.aload_n 0, 1) := by decide +kernel
theorem dX11_judged_1 : decode cX11_judged 1 = .ok (.iload_n 1, 1) := by decide +kernel
theorem dX11_judged_2 : decode cX11_judged 2 = .ok (.invokevirtual 108, 3) := by decide +kernel
theorem dX11_judged_5 : decode cX11_judged 5 = .ok (.astore 4, 2) := by decide +kernel
theorem dX11_judged_7 : decode cX11_judged 7 = .ok (.aload 4, 2) := by decide +kernel
theorem dX11_judged_9 : decode cX11_judged 9 = .ok (.ifnull 10, 3) := by decide +kernel
theorem dX11_judged_19 : decode cX11_judged 19 = .ok (.iconst (-1), 1) := by decide +kernel
theorem dX11_judged_20 : decode cX11_judged 20 = .ok (.ireturn, 1) := by decide +kernel
theorem dX11_kin_0 : decode cX11_kin 0 = .ok (.aload_n 0, 1) := by decide +kernel
theorem dX11_kin_1 : decode cX11_kin 1 = .ok (.iload_n 2, 1) := by decide +kernel
theorem dX11_kin_2 : decode cX11_kin 2 = .ok (.invokevirtual 108, 3) := by decide +kernel
theorem dX11_kin_5 : decode cX11_kin 5 = .ok (.astore 4, 2) := by decide +kernel
theorem dX11_kin_7 : decode cX11_kin 7 = .ok (.aload 4, 2) := by decide +kernel
theorem dX11_kin_9 : decode cX11_kin 9 = .ok (.ifnull 23, 3) := by decide +kernel
theorem dX11_kin_32 : decode cX11_kin 32 = .ok (.iconst 0, 1) := by decide +kernel
theorem dX11_kin_33 : decode cX11_kin 33 = .ok (.ireturn, 1) := by decide +kernel
theorem dX11_last_0 : decode cX11_last 0 = .ok (.aload_n 0, 1) := by decide +kernel
theorem dX11_last_1 : decode cX11_last 1 = .ok (.iload_n 1, 1) := by decide +kernel
theorem dX11_last_2 : decode cX11_last 2 = .ok (.invokevirtual 108, 3) := by decide +kernel
theorem dX11_last_5 : decode cX11_last 5 = .ok (.astore 5, 2) := by decide +kernel
theorem dX11_last_7 : decode cX11_last 7 = .ok (.aload 5, 2) := by decide +kernel
theorem dX11_last_9 : decode cX11_last 9 = .ok (.ifnull 13, 3) := by decide +kernel
theorem dX11_last_22 : decode cX11_last 22 = .ok (.iconst (-1), 1) := by decide +kernel
theorem dX11_last_23 : decode cX11_last 23 = .ok (.ireturn, 1) := by decide +kernel
theorem dX11_law_0 : decode cX11_law 0 = .ok (.iload_n 1, 1) := by decide +kernel
theorem dX11_law_1 : decode cX11_law 1 = .ok (.iconst 1, 1) := by decide +kernel
theorem dX11_law_2 : decode cX11_law 2 = .ok (.sipush 200, 3) := by decide +kernel
theorem dX11_law_5 : decode cX11_law 5 = .ok (.invokestatic 93, 3) := by decide +kernel
theorem dX11_law_8 : decode cX11_law 8 = .ok (.ifCond .eq 14, 3) := by decide +kernel
theorem dX11_law_11 : decode cX11_law 11 = .ok (.iload_n 1, 1) := by decide +kernel
theorem dX11_law_12 : decode cX11_law 12 = .ok (.aload_n 0, 1) := by decide +kernel
theorem dX11_law_13 : decode cX11_law 13 = .ok (.getfield 36, 3) := by decide +kernel
theorem dX11_law_16 : decode cX11_law 16 = .ok (.getfield 141, 3) := by decide +kernel
theorem dX11_law_19 : decode cX11_law 19 = .ok (.if_icmp .le 5, 3) := by decide +kernel
theorem dX11_law_22 : decode cX11_law 22 = .ok (.iconst (-1), 1) := by decide +kernel
theorem dX11_law_23 : decode cX11_law 23 = .ok (.ireturn, 1) := by decide +kernel
theorem dX11_led_0 : decode cX11_led 0 = .ok (.aload_n 0, 1) := by decide +kernel
theorem dX11_led_1 : decode cX11_led 1 = .ok (.iload_n 1, 1) := by decide +kernel
theorem dX11_led_2 : decode cX11_led 2 = .ok (.invokevirtual 108, 3) := by decide +kernel
theorem dX11_led_5 : decode cX11_led 5 = .ok (.astore 4, 2) := by decide +kernel
theorem dX11_led_7 : decode cX11_led 7 = .ok (.aload 4, 2) := by decide +kernel
theorem dX11_led_9 : decode cX11_led 9 = .ok (.ifnull 31, 3) := by decide +kernel
theorem dX11_led_40 : decode cX11_led 40 = .ok (.iconst (-1), 1) := by decide +kernel
theorem dX11_led_41 : decode cX11_led 41 = .ok (.ireturn, 1) := by decide +kernel
theorem dX11_like_0 : decode cX11_like 0 = .ok (.aload_n 0, 1) := by decide +kernel
theorem dX11_like_1 : decode cX11_like 1 = .ok (.iload_n 1, 1) := by decide +kernel
theorem dX11_like_2 : decode cX11_like 2 = .ok (.invokevirtual 108, 3) := by decide +kernel
theorem dX11_like_5 : decode cX11_like 5 = .ok (.astore_n 3, 1) := by decide +kernel
theorem dX11_like_6 : decode cX11_like 6 = .ok (.aload_n 3, 1) := by decide +kernel
theorem dX11_like_7 : decode cX11_like 7 = .ok (.ifnull 12, 3) := by decide +kernel
theorem dX11_like_19 : decode cX11_like 19 = .ok (.iconst (-1), 1) := by decide +kernel
theorem dX11_like_20 : decode cX11_like 20 = .ok (.ireturn, 1) := by decide +kernel
theorem dX11_met_0 : decode cX11_met 0 = .ok (.aload_n 0, 1) := by decide +kernel
theorem dX11_met_1 : decode cX11_met 1 = .ok (.iload_n 1, 1) := by decide +kernel
theorem dX11_met_2 : decode cX11_met 2 = .ok (.invokevirtual 108, 3) := by decide +kernel
theorem dX11_met_5 : decode cX11_met 5 = .ok (.ifnonnull 5, 3) := by decide +kernel
theorem dX11_met_8 : decode cX11_met 8 = .ok (.iconst (-1), 1) := by decide +kernel
theorem dX11_met_9 : decode cX11_met 9 = .ok (.ireturn, 1) := by decide +kernel
theorem dX11_offer_0 : decode cX11_offer 0 = .ok (.aload_n 0, 1) := by decide +kernel
theorem dX11_offer_1 : decode cX11_offer 1 = .ok (.iload_n 1, 1) := by decide +kernel
theorem dX11_offer_2 : decode cX11_offer 2 = .ok (.invokevirtual 108, 3) := by decide +kernel
theorem dX11_offer_5 : decode cX11_offer 5 = .ok (.ifnull 13, 3) := by decide +kernel
theorem dX11_offer_18 : decode cX11_offer 18 = .ok (.iconst (-1), 1) := by decide +kernel
theorem dX11_offer_19 : decode cX11_offer 19 = .ok (.ireturn, 1) := by decide +kernel
theorem dX11_owes_0 : decode cX11_owes 0 = .ok (.aload_n 0, 1) := by decide +kernel
theorem dX11_owes_1 : decode cX11_owes 1 = .ok (.iload_n 1, 1) := by decide +kernel
theorem dX11_owes_2 : decode cX11_owes 2 = .ok (.invokevirtual 108, 3) := by decide +kernel
theorem dX11_owes_5 : decode cX11_owes 5 = .ok (.astore 4, 2) := by decide +kernel
theorem dX11_owes_7 : decode cX11_owes 7 = .ok (.aload 4, 2) := by decide +kernel
theorem dX11_owes_9 : decode cX11_owes 9 = .ok (.ifnull 22, 3) := by decide +kernel
theorem dX11_owes_31 : decode cX11_owes 31 = .ok (.iconst 0, 1) := by decide +kernel
theorem dX11_owes_32 : decode cX11_owes 32 = .ok (.ireturn, 1) := by decide +kernel
theorem dX11_part_0 : decode cX11_part 0 = .ok (.aload_n 0, 1) := by decide +kernel
theorem dX11_part_1 : decode cX11_part 1 = .ok (.iload_n 1, 1) := by decide +kernel
theorem dX11_part_2 : decode cX11_part 2 = .ok (.invokevirtual 108, 3) := by decide +kernel
theorem dX11_part_5 : decode cX11_part 5 = .ok (.astore 4, 2) := by decide +kernel
theorem dX11_part_7 : decode cX11_part 7 = .ok (.aload 4, 2) := by decide +kernel
theorem dX11_part_9 : decode cX11_part 9 = .ok (.ifnull 28, 3) := by decide +kernel
theorem dX11_part_37 : decode cX11_part 37 = .ok (.iconst 0, 1) := by decide +kernel
theorem dX11_part_38 : decode cX11_part 38 = .ok (.ireturn, 1) := by decide +kernel
theorem dX11_spread_0 : decode cX11_spread 0 = .ok (.iload_n 1, 1) := by decide +kernel
theorem dX11_spread_1 : decode cX11_spread 1 = .ok (.iconst 0, 1) := by decide +kernel
theorem dX11_spread_2 : decode cX11_spread 2 = .ok (.iconst 5, 1) := by decide +kernel
theorem dX11_spread_3 : decode cX11_spread 3 = .ok (.invokestatic 93, 3) := by decide +kernel
theorem dX11_spread_6 : decode cX11_spread 6 = .ok (.ifCond .eq 24, 3) := by decide +kernel
theorem dX11_spread_9 : decode cX11_spread 9 = .ok (.iload_n 2, 1) := by decide +kernel
theorem dX11_spread_10 : decode cX11_spread 10 = .ok (.iconst 0, 1) := by decide +kernel
theorem dX11_spread_11 : decode cX11_spread 11 = .ok (.iconst 3, 1) := by decide +kernel
theorem dX11_spread_12 : decode cX11_spread 12 = .ok (.invokestatic 93, 3) := by decide +kernel
theorem dX11_spread_15 : decode cX11_spread 15 = .ok (.ifCond .eq 15, 3) := by decide +kernel
theorem dX11_spread_18 : decode cX11_spread 18 = .ok (.aload_n 0, 1) := by decide +kernel
theorem dX11_spread_19 : decode cX11_spread 19 = .ok (.getfield 82, 3) := by decide +kernel
theorem dX11_spread_22 : decode cX11_spread 22 = .ok (.getfield 286, 3) := by decide +kernel
theorem dX11_spread_25 : decode cX11_spread 25 = .ok (.iload_n 1, 1) := by decide +kernel
theorem dX11_spread_26 : decode cX11_spread 26 = .ok (.iaload, 1) := by decide +kernel
theorem dX11_spread_27 : decode cX11_spread 27 = .ok (.ifCond .ne 7, 3) := by decide +kernel
theorem dX11_spread_30 : decode cX11_spread 30 = .ok (.ldc_w 289, 3) := by decide +kernel
theorem dX11_spread_33 : decode cX11_spread 33 = .ok (.ireturn, 1) := by decide +kernel
theorem dX11_thing_0 : decode cX11_thing 0 = .ok (.aload_n 0, 1) := by decide +kernel
theorem dX11_thing_1 : decode cX11_thing 1 = .ok (.iload_n 1, 1) := by decide +kernel
theorem dX11_thing_2 : decode cX11_thing 2 = .ok (.invokevirtual 108, 3) := by decide +kernel
theorem dX11_thing_5 : decode cX11_thing 5 = .ok (.astore 4, 2) := by decide +kernel
theorem dX11_thing_7 : decode cX11_thing 7 = .ok (.aload 4, 2) := by decide +kernel
theorem dX11_thing_9 : decode cX11_thing 9 = .ok (.ifnull 21, 3) := by decide +kernel
theorem dX11_thing_30 : decode cX11_thing 30 = .ok (.iconst (-1), 1) := by decide +kernel
theorem dX11_thing_31 : decode cX11_thing 31 = .ok (.ireturn, 1) := by decide +kernel
theorem dX11_undo_0 : decode cX11_undo 0 = .ok (.aload_n 0, 1) := by decide +kernel
theorem dX11_undo_1 : decode cX11_undo 1 = .ok (.getfield 68, 3) := by decide +kernel
theorem dX11_undo_4 : decode cX11_undo 4 = .ok (.ifCond .ne 5, 3) := by decide +kernel
theorem dX11_undo_7 : decode cX11_undo 7 = .ok (.iconst 0, 1) := by decide +kernel
theorem dX11_undo_8 : decode cX11_undo 8 = .ok (.ireturn, 1) := by decide +kernel
theorem dX11_wrong_0 : decode cX11_wrong 0 = .ok (.iload_n 1, 1) := by decide +kernel
theorem dX11_wrong_1 : decode cX11_wrong 1 = .ok (.iconst (-1), 1) := by decide +kernel
theorem dX11_wrong_2 : decode cX11_wrong 2 = .ok (.if_icmp .ne 11, 3) := by decide +kernel
theorem dX11_wrong_5 : decode cX11_wrong 5 = .ok (.aload_n 0, 1) := by decide +kernel
theorem dX11_wrong_6 : decode cX11_wrong 6 = .ok (.getfield 89, 3) := by decide +kernel
theorem dX11_wrong_9 : decode cX11_wrong 9 = .ok (.getfield 314, 3) := by decide +kernel
theorem dX11_wrong_12 : decode cX11_wrong 12 = .ok (.ireturn, 1) := by decide +kernel
theorem dX11_wrong_13 : decode cX11_wrong 13 = .ok (.iload_n 1, 1) := by decide +kernel
theorem dX11_wrong_14 : decode cX11_wrong 14 = .ok (.iconst 0, 1) := by decide +kernel
theorem dX11_wrong_15 : decode cX11_wrong 15 = .ok (.aload_n 0, 1) := by decide +kernel
theorem dX11_wrong_16 : decode cX11_wrong 16 = .ok (.getfield 89, 3) := by decide +kernel
theorem dX11_wrong_19 : decode cX11_wrong 19 = .ok (.getfield 314, 3) := by decide +kernel
theorem dX11_wrong_22 : decode cX11_wrong 22 = .ok (.iconst 1, 1) := by decide +kernel
theorem dX11_wrong_23 : decode cX11_wrong 23 = .ok (.isub, 1) := by decide +kernel
theorem dX11_wrong_24 : decode cX11_wrong 24 = .ok (.invokestatic 93, 3) := by decide +kernel
theorem dX11_wrong_27 : decode cX11_wrong 27 = .ok (.ifCond .eq 15, 3) := by decide +kernel
theorem dX11_wrong_42 : decode cX11_wrong 42 = .ok (.iconst (-1), 1) := by decide +kernel
theorem dX11_wrong_43 : decode cX11_wrong 43 = .ok (.ireturn, 1) := by decide +kernel
theorem dX7_gap_0 : decode cX7_gap 0 = .ok (.aload_n 0, 1) := by decide +kernel
theorem dX7_gap_1 : decode cX7_gap 1 = .ok (.getfield 22, 3) := by decide +kernel
theorem dX7_gap_4 : decode cX7_gap 4 = .ok (.iload_n 1, 1) := by decide +kernel
theorem dX7_gap_5 : decode cX7_gap 5 = .ok (.bipush 11, 2) := by decide +kernel
theorem dX7_gap_7 : decode cX7_gap 7 = .ok (.imul, 1) := by decide +kernel
theorem dX7_gap_8 : decode cX7_gap 8 = .ok (.iload_n 2, 1) := by decide +kernel
theorem dX7_gap_9 : decode cX7_gap 9 = .ok (.iadd, 1) := by decide +kernel
theorem dX7_gap_10 : decode cX7_gap 10 = .ok (.iaload, 1) := by decide +kernel
theorem dX7_gap_11 : decode cX7_gap 11 = .ok (.ireturn, 1) := by decide +kernel
set_option maxHeartbeats 4000000 in
set_option maxRecDepth 100000 in
theorem c_X11_homeAt (l : Launch) (D : va_G) (cy : Nat → ClassId) (a : Nat → Nat) (i : Nat → Int32) (r : Nat → Nat → Int32) (q : Nat → Option Nat) (p0 : Int32) (hf : xZ i) (hg : xZr r) : Met l yX11_homeAt (Cond.code yX11_homeAt cX11_homeAt 2 (some (.object "DepositJudge$Home")) :: gT) { frames := 2, cells := 0, slots := 0, locals := 46 } (va_Pc [.ref (a 0), .int p0] (rP D cy (xW cy a i r q (a 20) (a 12)))) (va_Sq (fun r => r = none)) 0 0 (fun _ => False) := by
  refine Met.ofQ (cc := cX11_homeAt) (maxL := 2) (ret := (some (.object "DepositJudge$Home"))) (by decide) rfl ?_
  intro p e s m args below meth c s₁ B hml hv Q hQ
  obtain ⟨rfl, hP, hK⟩ := hv
  have hx := B.exec
  have hb := B.bytes
  have hr := B.returns
  have hlocks := B.notSynchronized
  have hT : ∀ w ∈ gT, w.before _ s = true := fun w h => atoms_spec (ws := (Cond.code yX11_homeAt cX11_homeAt 2 (some (.object "DepositJudge$Home")) :: gT)) B.pre w (List.mem_cons_of_mem _ h)
  have hown : s.vm.findClass RX11 = some m.cls := findClass_of_methodNamed B.named
  have hl := lv_entry ([.ref (a 0), .int p0]) (n := 2) (Nat.le_of_ble_eq_true rfl)
  rw [lg_entry_eq]
  generalize (lg_sl ([.ref (a 0), .int p0]) ++ List.replicate (2 - (lg_sl ([.ref (a 0), .int p0])).length) Slot.unset).toArray = ls at hl ⊢
  have hl : lv_has ls 2 [(0, .ref (a 0)), (1, .int p0)] := hl
  refine lv_iload_n hx hb dX11_homeAt_0 rfl (lv_at hl 1 rfl) ?_
  refine lv_iconst (v := 0) hx hb dX11_homeAt_1 (by decide) ?_
  refine lv_aload_n hx hb dX11_homeAt_2 rfl (lv_at hl 0 rfl) ?_
  refine va_get (D := D) (ci := 11) (v := .int 0) (C := RX11) (T := TX11) (N := 14) hx hb hT iX11 hown hK hP 0 rfl rfl 2 (by decide) (hT _ t_39) (fun _ h9 => h9) (congrArg (fun z => some (Value.int z)) (hf.1 0 (by decide) (by decide))) dX11_homeAt_3 ?_
  refine lv_iconst (v := 1) hx hb dX11_homeAt_6 (by decide) ?_
  refine lv_isub hx hb dX11_homeAt_7 ?_
  refine lv_topi (fun v_1 ev_1 => ?_)
  obtain rfl : v_1 = (-1) := ev_1.trans (by decide)
  refine vp_callSi (W.runS (As := [.int p0, .int 0, .int (-1)]) (rest := []) ⟨hx, hb, hml, hown, hT⟩ (c_X11_within l p0 0 (-1)) (va_cwS 3 hT (gS t_1 t_3 t_4 t_2) rfl rfl rfl (by decide +kernel) ⟨Nat.le_of_ble_eq_true rfl, Nat.le_of_ble_eq_true rfl⟩) preT rfl rfl hl.1 rfl (lv_room (Nat.le_of_ble_eq_true rfl)) dX11_homeAt_8 ⟨Nat.le_of_ble_eq_true rfl, Nat.le_of_ble_eq_true rfl⟩) (fun r_2 hr_2 => ?_)
  have hr_2 : BR r_2 (0 ≤ p0.toInt ∧ p0.toInt ≤ (-1)) 1 0 := hr_2
  rcases hr_2 with ⟨rfl, h_3⟩ | ⟨rfl, h_3⟩
  · exact absurd h_3 (by omega)
  · skip
    refine lv_if_eq (tgt := 23) hx hb dX11_homeAt_11 (by decide) (fun c_4 => ?_) (fun c_4 => absurd (by decide) c_4)
    refine lv_null hx hb dX11_homeAt_23 ?_
    subst hQ
    exact W.aret (v := .null) (rt := .object "DepositJudge$Home") hx hb hr (Or.inl ⟨_, rfl⟩) (Or.inl rfl) (fun t ht hW => ⟨none, rfl, rfl, ht⟩) (fun q hq => absurd hq List.not_mem_nil) dX11_homeAt_24
set_option maxHeartbeats 4000000 in
set_option maxRecDepth 100000 in
theorem c_X11_isClaim (l : Launch) (D : va_G) (cy : Nat → ClassId) (a : Nat → Nat) (i : Nat → Int32) (r : Nat → Nat → Int32) (q : Nat → Option Nat) (p0 : Int32) (hf : xZ i) (hg : xZr r) : Met l yX11_isClaim (Cond.code yX11_isClaim cX11_isClaim 2 (some .boolean) :: gT) { frames := 2, cells := 0, slots := 0, locals := 46 } (va_Pc [.ref (a 0), .int p0] (rP D cy (xW cy a i r q (a 20) (a 12)))) (vp_Si (fun z => z = 0)) 0 0 (fun _ => False) := by
  refine Met.ofQ (cc := cX11_isClaim) (maxL := 2) (ret := (some .boolean)) (by decide) rfl ?_
  intro p e s m args below meth c s₁ B hml hv Q hQ
  obtain ⟨rfl, hP, hK⟩ := hv
  have hx := B.exec
  have hb := B.bytes
  have hr := B.returns
  have hlocks := B.notSynchronized
  have hT : ∀ w ∈ gT, w.before _ s = true := fun w h => atoms_spec (ws := (Cond.code yX11_isClaim cX11_isClaim 2 (some .boolean) :: gT)) B.pre w (List.mem_cons_of_mem _ h)
  have hown : s.vm.findClass RX11 = some m.cls := findClass_of_methodNamed B.named
  have hl := lv_entry ([.ref (a 0), .int p0]) (n := 2) (Nat.le_of_ble_eq_true rfl)
  rw [lg_entry_eq]
  generalize (lg_sl ([.ref (a 0), .int p0]) ++ List.replicate (2 - (lg_sl ([.ref (a 0), .int p0])).length) Slot.unset).toArray = ls at hl ⊢
  have hl : lv_has ls 2 [(0, .ref (a 0)), (1, .int p0)] := hl
  refine lv_iload_n hx hb dX11_isClaim_0 rfl (lv_at hl 1 rfl) ?_
  refine lv_iconst (v := 0) hx hb dX11_isClaim_1 (by decide) ?_
  refine lv_aload_n hx hb dX11_isClaim_2 rfl (lv_at hl 0 rfl) ?_
  refine va_get (D := D) (ci := 11) (v := .ref (a 29)) (C := RX11) (T := TX11) (N := 14) hx hb hT iX11 hown hK hP 0 rfl rfl 8 (by decide) (hT _ t_40) (fun _ h9 => h9) rfl dX11_isClaim_3 ?_
  refine va_get (D := D) (ci := 1) (v := .int 0) (C := RX1) (T := TX1) (N := 12) hx hb hT iX1 hown hK hP 29 rfl rfl 0 (by decide) (hT _ t_41) (fun _ h9 => h9) (congrArg (fun z => some (Value.int z)) (hf.1 10 (by decide) (by decide))) dX11_isClaim_6 ?_
  refine lv_iconst (v := 1) hx hb dX11_isClaim_9 (by decide) ?_
  refine lv_isub hx hb dX11_isClaim_10 ?_
  refine lv_topi (fun v_1 ev_1 => ?_)
  obtain rfl : v_1 = (-1) := ev_1.trans (by decide)
  refine vp_callSi (W.runS (As := [.int p0, .int 0, .int (-1)]) (rest := []) ⟨hx, hb, hml, hown, hT⟩ (c_X11_within l p0 0 (-1)) (va_cwS 3 hT (gS t_1 t_3 t_4 t_2) rfl rfl rfl (by decide +kernel) ⟨Nat.le_of_ble_eq_true rfl, Nat.le_of_ble_eq_true rfl⟩) preT rfl rfl hl.1 rfl (lv_room (Nat.le_of_ble_eq_true rfl)) dX11_isClaim_11 ⟨Nat.le_of_ble_eq_true rfl, Nat.le_of_ble_eq_true rfl⟩) (fun r_2 hr_2 => ?_)
  have hr_2 : BR r_2 (0 ≤ p0.toInt ∧ p0.toInt ≤ (-1)) 1 0 := hr_2
  rcases hr_2 with ⟨rfl, h_3⟩ | ⟨rfl, h_3⟩
  · exact absurd h_3 (by omega)
  · skip
    subst hQ
    exact W.zret hx hb hr rfl (fun t ht hW => ⟨_, rfl, rfl, ht⟩) (fun q hq => absurd hq List.not_mem_nil) dX11_isClaim_14
set_option maxHeartbeats 4000000 in
set_option maxRecDepth 100000 in
theorem c_X11_part (l : Launch) (D : va_G) (cy : Nat → ClassId) (a : Nat → Nat) (i : Nat → Int32) (r : Nat → Nat → Int32) (q : Nat → Option Nat) (p0 p1 p2 : Int32) (hf : xZ i) (hg : xZr r) : Met l yX11_part (Cond.code yX11_part cX11_part 5 (some .boolean) :: gT) { frames := 3, cells := 0, slots := 0, locals := 67 } (va_Pc [.ref (a 0), .int p0, .int p1, .int p2] (rP D cy (xW cy a i r q (a 20) (a 12)))) (vp_Si (fun z => z = 0)) 0 0 (fun _ => False) := by
  refine Met.ofQ (cc := cX11_part) (maxL := 5) (ret := (some .boolean)) (by decide) rfl ?_
  intro p e s m args below meth c s₁ B hml hv Q hQ
  obtain ⟨rfl, hP, hK⟩ := hv
  have hx := B.exec
  have hb := B.bytes
  have hr := B.returns
  have hlocks := B.notSynchronized
  have hT : ∀ w ∈ gT, w.before _ s = true := fun w h => atoms_spec (ws := (Cond.code yX11_part cX11_part 5 (some .boolean) :: gT)) B.pre w (List.mem_cons_of_mem _ h)
  have hown : s.vm.findClass RX11 = some m.cls := findClass_of_methodNamed B.named
  have hl := lv_entry ([.ref (a 0), .int p0, .int p1, .int p2]) (n := 5) (Nat.le_of_ble_eq_true rfl)
  rw [lg_entry_eq]
  generalize (lg_sl ([.ref (a 0), .int p0, .int p1, .int p2]) ++ List.replicate (5 - (lg_sl ([.ref (a 0), .int p0, .int p1, .int p2])).length) Slot.unset).toArray = ls at hl ⊢
  have hl : lv_has ls 5 [(0, .ref (a 0)), (1, .int p0), (2, .int p1), (3, .int p2)] := hl
  refine lv_aload_n hx hb dX11_part_0 rfl (lv_at hl 0 rfl) ?_
  refine lv_iload_n hx hb dX11_part_1 rfl (lv_at hl 1 rfl) ?_
  refine va_csq (W.runV (As := [.int p0]) (rest := []) ⟨hx, hb, hml, hown, hT⟩ (c_X11_homeAt l D cy a i r q p0 hf hg) (cwV 1 hT (gV t_42 t_43 t_44 t_45 t_2) rfl rfl rfl (by decide +kernel) ⟨Nat.le_of_ble_eq_true rfl, Nat.le_of_ble_eq_true rfl⟩) (rP_v hP hK (va_recv hK hP (ci := 11) (q0 := 0) rfl rfl)) rfl rfl hl.1 rfl (lv_room (Nat.le_of_ble_eq_true rfl)) dX11_part_2 ⟨Nat.le_of_ble_eq_true rfl, Nat.le_of_ble_eq_true rfl⟩) (fun r_1 hr_1 => ?_)
  subst hr_1
  refine W.eq (g2 := F0 m 5 ls [.null]) rfl ?_
  refine lv_astoreN (lv' := [(4, .null), (0, .ref (a 0)), (1, .int p0), (2, .int p1), (3, .int p2)]) hx hb dX11_part_5 hl (by decide) rfl (fun ls hl => ?_)
  refine lv_aloadN hx hb dX11_part_7 (lv_at hl 0 rfl) ?_
  refine lv_ifnullN (tgt := 37) hx hb dX11_part_9 (by decide) ?_
  refine lv_iconst (v := 0) hx hb dX11_part_37 (by decide) ?_
  subst hQ
  exact W.zret hx hb hr rfl (fun t ht hW => ⟨_, rfl, rfl, ht⟩) (fun q hq => absurd hq List.not_mem_nil) dX11_part_38
set_option maxHeartbeats 4000000 in
set_option maxRecDepth 100000 in
theorem c_X11_owes (l : Launch) (D : va_G) (cy : Nat → ClassId) (a : Nat → Nat) (i : Nat → Int32) (r : Nat → Nat → Int32) (q : Nat → Option Nat) (p0 p1 p2 : Int32) (hf : xZ i) (hg : xZr r) : Met l yX11_owes (Cond.code yX11_owes cX11_owes 5 (some .boolean) :: gT) { frames := 3, cells := 0, slots := 0, locals := 67 } (va_Pc [.ref (a 0), .int p0, .int p1, .int p2] (rP D cy (xW cy a i r q (a 20) (a 12)))) (vp_Si (fun z => z = 0)) 0 0 (fun _ => False) := by
  refine Met.ofQ (cc := cX11_owes) (maxL := 5) (ret := (some .boolean)) (by decide) rfl ?_
  intro p e s m args below meth c s₁ B hml hv Q hQ
  obtain ⟨rfl, hP, hK⟩ := hv
  have hx := B.exec
  have hb := B.bytes
  have hr := B.returns
  have hlocks := B.notSynchronized
  have hT : ∀ w ∈ gT, w.before _ s = true := fun w h => atoms_spec (ws := (Cond.code yX11_owes cX11_owes 5 (some .boolean) :: gT)) B.pre w (List.mem_cons_of_mem _ h)
  have hown : s.vm.findClass RX11 = some m.cls := findClass_of_methodNamed B.named
  have hl := lv_entry ([.ref (a 0), .int p0, .int p1, .int p2]) (n := 5) (Nat.le_of_ble_eq_true rfl)
  rw [lg_entry_eq]
  generalize (lg_sl ([.ref (a 0), .int p0, .int p1, .int p2]) ++ List.replicate (5 - (lg_sl ([.ref (a 0), .int p0, .int p1, .int p2])).length) Slot.unset).toArray = ls at hl ⊢
  have hl : lv_has ls 5 [(0, .ref (a 0)), (1, .int p0), (2, .int p1), (3, .int p2)] := hl
  refine lv_aload_n hx hb dX11_owes_0 rfl (lv_at hl 0 rfl) ?_
  refine lv_iload_n hx hb dX11_owes_1 rfl (lv_at hl 1 rfl) ?_
  refine va_csq (W.runV (As := [.int p0]) (rest := []) ⟨hx, hb, hml, hown, hT⟩ (c_X11_homeAt l D cy a i r q p0 hf hg) (cwV 1 hT (gV t_42 t_43 t_44 t_45 t_2) rfl rfl rfl (by decide +kernel) ⟨Nat.le_of_ble_eq_true rfl, Nat.le_of_ble_eq_true rfl⟩) (rP_v hP hK (va_recv hK hP (ci := 11) (q0 := 0) rfl rfl)) rfl rfl hl.1 rfl (lv_room (Nat.le_of_ble_eq_true rfl)) dX11_owes_2 ⟨Nat.le_of_ble_eq_true rfl, Nat.le_of_ble_eq_true rfl⟩) (fun r_1 hr_1 => ?_)
  subst hr_1
  refine W.eq (g2 := F0 m 5 ls [.null]) rfl ?_
  refine lv_astoreN (lv' := [(4, .null), (0, .ref (a 0)), (1, .int p0), (2, .int p1), (3, .int p2)]) hx hb dX11_owes_5 hl (by decide) rfl (fun ls hl => ?_)
  refine lv_aloadN hx hb dX11_owes_7 (lv_at hl 0 rfl) ?_
  refine lv_ifnullN (tgt := 31) hx hb dX11_owes_9 (by decide) ?_
  refine lv_iconst (v := 0) hx hb dX11_owes_31 (by decide) ?_
  subst hQ
  exact W.zret hx hb hr rfl (fun t ht hW => ⟨_, rfl, rfl, ht⟩) (fun q hq => absurd hq List.not_mem_nil) dX11_owes_32
set_option maxHeartbeats 4000000 in
set_option maxRecDepth 100000 in
theorem c_X11_first (l : Launch) (D : va_G) (cy : Nat → ClassId) (a : Nat → Nat) (i : Nat → Int32) (r : Nat → Nat → Int32) (q : Nat → Option Nat) (p0 p1 p2 p3 p4 : Int32) (hf : xZ i) (hg : xZr r) : Met l yX11_first (Cond.code yX11_first cX11_first 7 (some .int) :: gT) { frames := 3, cells := 0, slots := 0, locals := 67 } (va_Pc [.ref (a 0), .int p0, .int p1, .int p2, .int p3, .int p4] (rP D cy (xW cy a i r q (a 20) (a 12)))) (vp_Si (fun z => z = (-1))) 0 0 (fun _ => False) := by
  refine Met.ofQ (cc := cX11_first) (maxL := 7) (ret := (some .int)) (by decide) rfl ?_
  intro p e s m args below meth c s₁ B hml hv Q hQ
  obtain ⟨rfl, hP, hK⟩ := hv
  have hx := B.exec
  have hb := B.bytes
  have hr := B.returns
  have hlocks := B.notSynchronized
  have hT : ∀ w ∈ gT, w.before _ s = true := fun w h => atoms_spec (ws := (Cond.code yX11_first cX11_first 7 (some .int) :: gT)) B.pre w (List.mem_cons_of_mem _ h)
  have hown : s.vm.findClass RX11 = some m.cls := findClass_of_methodNamed B.named
  have hl := lv_entry ([.ref (a 0), .int p0, .int p1, .int p2, .int p3, .int p4]) (n := 7) (Nat.le_of_ble_eq_true rfl)
  rw [lg_entry_eq]
  generalize (lg_sl ([.ref (a 0), .int p0, .int p1, .int p2, .int p3, .int p4]) ++ List.replicate (7 - (lg_sl ([.ref (a 0), .int p0, .int p1, .int p2, .int p3, .int p4])).length) Slot.unset).toArray = ls at hl ⊢
  have hl : lv_has ls 7 [(0, .ref (a 0)), (1, .int p0), (2, .int p1), (3, .int p2), (4, .int p3), (5, .int p4)] := hl
  refine lv_aload_n hx hb dX11_first_0 rfl (lv_at hl 0 rfl) ?_
  refine lv_iload_n hx hb dX11_first_1 rfl (lv_at hl 1 rfl) ?_
  refine va_csq (W.runV (As := [.int p0]) (rest := []) ⟨hx, hb, hml, hown, hT⟩ (c_X11_homeAt l D cy a i r q p0 hf hg) (cwV 1 hT (gV t_42 t_43 t_44 t_45 t_2) rfl rfl rfl (by decide +kernel) ⟨Nat.le_of_ble_eq_true rfl, Nat.le_of_ble_eq_true rfl⟩) (rP_v hP hK (va_recv hK hP (ci := 11) (q0 := 0) rfl rfl)) rfl rfl hl.1 rfl (lv_room (Nat.le_of_ble_eq_true rfl)) dX11_first_2 ⟨Nat.le_of_ble_eq_true rfl, Nat.le_of_ble_eq_true rfl⟩) (fun r_1 hr_1 => ?_)
  subst hr_1
  refine W.eq (g2 := F0 m 5 ls [.null]) rfl ?_
  refine lv_astoreN (lv' := [(6, .null), (0, .ref (a 0)), (1, .int p0), (2, .int p1), (3, .int p2), (4, .int p3), (5, .int p4)]) hx hb dX11_first_5 hl (by decide) rfl (fun ls hl => ?_)
  refine lv_aloadN hx hb dX11_first_7 (lv_at hl 0 rfl) ?_
  refine lv_ifnullN (tgt := 34) hx hb dX11_first_9 (by decide) ?_
  refine lv_iconst (v := (-1)) hx hb dX11_first_34 (by decide) ?_
  subst hQ
  exact W.iret (v := (-1)) hx hb hr (fun t ht hW => ⟨_, rfl, rfl, ht⟩) (fun q hq => absurd hq List.not_mem_nil) dX11_first_35
set_option maxHeartbeats 4000000 in
set_option maxRecDepth 100000 in
theorem c_X11_last (l : Launch) (D : va_G) (cy : Nat → ClassId) (a : Nat → Nat) (i : Nat → Int32) (r : Nat → Nat → Int32) (q : Nat → Option Nat) (p0 p1 p2 p3 : Int32) (hf : xZ i) (hg : xZr r) : Met l yX11_last (Cond.code yX11_last cX11_last 6 (some .int) :: gT) { frames := 3, cells := 0, slots := 0, locals := 67 } (va_Pc [.ref (a 0), .int p0, .int p1, .int p2, .int p3] (rP D cy (xW cy a i r q (a 20) (a 12)))) (vp_Si (fun z => z = (-1))) 0 0 (fun _ => False) := by
  refine Met.ofQ (cc := cX11_last) (maxL := 6) (ret := (some .int)) (by decide) rfl ?_
  intro p e s m args below meth c s₁ B hml hv Q hQ
  obtain ⟨rfl, hP, hK⟩ := hv
  have hx := B.exec
  have hb := B.bytes
  have hr := B.returns
  have hlocks := B.notSynchronized
  have hT : ∀ w ∈ gT, w.before _ s = true := fun w h => atoms_spec (ws := (Cond.code yX11_last cX11_last 6 (some .int) :: gT)) B.pre w (List.mem_cons_of_mem _ h)
  have hown : s.vm.findClass RX11 = some m.cls := findClass_of_methodNamed B.named
  have hl := lv_entry ([.ref (a 0), .int p0, .int p1, .int p2, .int p3]) (n := 6) (Nat.le_of_ble_eq_true rfl)
  rw [lg_entry_eq]
  generalize (lg_sl ([.ref (a 0), .int p0, .int p1, .int p2, .int p3]) ++ List.replicate (6 - (lg_sl ([.ref (a 0), .int p0, .int p1, .int p2, .int p3])).length) Slot.unset).toArray = ls at hl ⊢
  have hl : lv_has ls 6 [(0, .ref (a 0)), (1, .int p0), (2, .int p1), (3, .int p2), (4, .int p3)] := hl
  refine lv_aload_n hx hb dX11_last_0 rfl (lv_at hl 0 rfl) ?_
  refine lv_iload_n hx hb dX11_last_1 rfl (lv_at hl 1 rfl) ?_
  refine va_csq (W.runV (As := [.int p0]) (rest := []) ⟨hx, hb, hml, hown, hT⟩ (c_X11_homeAt l D cy a i r q p0 hf hg) (cwV 1 hT (gV t_42 t_43 t_44 t_45 t_2) rfl rfl rfl (by decide +kernel) ⟨Nat.le_of_ble_eq_true rfl, Nat.le_of_ble_eq_true rfl⟩) (rP_v hP hK (va_recv hK hP (ci := 11) (q0 := 0) rfl rfl)) rfl rfl hl.1 rfl (lv_room (Nat.le_of_ble_eq_true rfl)) dX11_last_2 ⟨Nat.le_of_ble_eq_true rfl, Nat.le_of_ble_eq_true rfl⟩) (fun r_1 hr_1 => ?_)
  subst hr_1
  refine W.eq (g2 := F0 m 5 ls [.null]) rfl ?_
  refine lv_astoreN (lv' := [(5, .null), (0, .ref (a 0)), (1, .int p0), (2, .int p1), (3, .int p2), (4, .int p3)]) hx hb dX11_last_5 hl (by decide) rfl (fun ls hl => ?_)
  refine lv_aloadN hx hb dX11_last_7 (lv_at hl 0 rfl) ?_
  refine lv_ifnullN (tgt := 22) hx hb dX11_last_9 (by decide) ?_
  refine lv_iconst (v := (-1)) hx hb dX11_last_22 (by decide) ?_
  subst hQ
  exact W.iret (v := (-1)) hx hb hr (fun t ht hW => ⟨_, rfl, rfl, ht⟩) (fun q hq => absurd hq List.not_mem_nil) dX11_last_23
set_option maxHeartbeats 4000000 in
set_option maxRecDepth 100000 in
theorem c_X11_law (l : Launch) (D : va_G) (cy : Nat → ClassId) (a : Nat → Nat) (i : Nat → Int32) (r : Nat → Nat → Int32) (q : Nat → Option Nat) (p0 : Int32) (hf : xZ i) (hg : xZr r) : Met l yX11_law (Cond.code yX11_law cX11_law 4 (some .int) :: gT) { frames := 2, cells := 0, slots := 0, locals := 46 } (va_Pc [.ref (a 0), .int p0] (rP D cy (xW cy a i r q (a 20) (a 12)))) (vp_Si (fun z => z = (-1))) 0 0 (fun _ => False) := by
  refine Met.ofQ (cc := cX11_law) (maxL := 4) (ret := (some .int)) (by decide) rfl ?_
  intro p e s m args below meth c s₁ B hml hv Q hQ
  obtain ⟨rfl, hP, hK⟩ := hv
  have hx := B.exec
  have hb := B.bytes
  have hr := B.returns
  have hlocks := B.notSynchronized
  have hT : ∀ w ∈ gT, w.before _ s = true := fun w h => atoms_spec (ws := (Cond.code yX11_law cX11_law 4 (some .int) :: gT)) B.pre w (List.mem_cons_of_mem _ h)
  have hown : s.vm.findClass RX11 = some m.cls := findClass_of_methodNamed B.named
  have hl := lv_entry ([.ref (a 0), .int p0]) (n := 4) (Nat.le_of_ble_eq_true rfl)
  rw [lg_entry_eq]
  generalize (lg_sl ([.ref (a 0), .int p0]) ++ List.replicate (4 - (lg_sl ([.ref (a 0), .int p0])).length) Slot.unset).toArray = ls at hl ⊢
  have hl : lv_has ls 4 [(0, .ref (a 0)), (1, .int p0)] := hl
  refine lv_iload_n hx hb dX11_law_0 rfl (lv_at hl 1 rfl) ?_
  refine lv_iconst (v := 1) hx hb dX11_law_1 (by decide) ?_
  refine lv_sipush (v := 200) hx hb dX11_law_2 (by decide) ?_
  refine vp_callSi (W.runS (As := [.int p0, .int 1, .int 200]) (rest := []) ⟨hx, hb, hml, hown, hT⟩ (c_X11_within l p0 1 200) (va_cwS 3 hT (gS t_1 t_3 t_4 t_2) rfl rfl rfl (by decide +kernel) ⟨Nat.le_of_ble_eq_true rfl, Nat.le_of_ble_eq_true rfl⟩) preT rfl rfl hl.1 rfl (lv_room (Nat.le_of_ble_eq_true rfl)) dX11_law_5 ⟨Nat.le_of_ble_eq_true rfl, Nat.le_of_ble_eq_true rfl⟩) (fun r_1 hr_1 => ?_)
  have hr_1 : BR r_1 (1 ≤ p0.toInt ∧ p0.toInt ≤ 200) 1 0 := hr_1
  rcases hr_1 with ⟨rfl, h_2⟩ | ⟨rfl, h_2⟩
  · skip
    refine lv_if_eq (tgt := 22) hx hb dX11_law_8 (by decide) (fun c_3 => absurd c_3 (by decide)) (fun c_3 => ?_)
    refine lv_iload_n hx hb dX11_law_11 rfl (lv_at hl 1 rfl) ?_
    refine lv_aload_n hx hb dX11_law_12 rfl (lv_at hl 0 rfl) ?_
    refine va_get (D := D) (ci := 11) (v := .ref (a 8)) (C := RX11) (T := TX11) (N := 14) hx hb hT iX11 hown hK hP 0 rfl rfl 4 (by decide) (hT _ t_46) (fun _ h9 => h9) rfl dX11_law_13 ?_
    refine va_get (D := D) (ci := 9) (v := .int 0) (C := RX9) (T := TX9) (N := 2) hx hb hT iX9 hown hK hP 8 rfl rfl 1 (by decide) (hT _ t_47) (fun _ h9 => h9) (congrArg (fun z => some (Value.int z)) (hf.1 2 (by decide) (by decide))) dX11_law_16 ?_
    refine lv_icmp_le (tgt := 24) hx hb dX11_law_19 (by decide) (fun c_4 => by have c_4 : p0.toInt ≤ 0 := b_le c_4; omega) (fun c_4 => ?_)
    have c_4 : 0 < p0.toInt := b_nle c_4
    refine lv_iconst (v := (-1)) hx hb dX11_law_22 (by decide) ?_
    subst hQ
    exact W.iret (v := (-1)) hx hb hr (fun t ht hW => ⟨_, rfl, rfl, ht⟩) (fun q hq => absurd hq List.not_mem_nil) dX11_law_23
  · skip
    refine lv_if_eq (tgt := 22) hx hb dX11_law_8 (by decide) (fun c_5 => ?_) (fun c_5 => absurd (by decide) c_5)
    refine lv_iconst (v := (-1)) hx hb dX11_law_22 (by decide) ?_
    subst hQ
    exact W.iret (v := (-1)) hx hb hr (fun t ht hW => ⟨_, rfl, rfl, ht⟩) (fun q hq => absurd hq List.not_mem_nil) dX11_law_23
set_option maxHeartbeats 4000000 in
set_option maxRecDepth 100000 in
theorem c_X11_thing (l : Launch) (D : va_G) (cy : Nat → ClassId) (a : Nat → Nat) (i : Nat → Int32) (r : Nat → Nat → Int32) (q : Nat → Option Nat) (p0 p1 p2 : Int32) (hf : xZ i) (hg : xZr r) : Met l yX11_thing (Cond.code yX11_thing cX11_thing 5 (some .int) :: gT) { frames := 3, cells := 0, slots := 0, locals := 67 } (va_Pc [.ref (a 0), .int p0, .int p1, .int p2] (rP D cy (xW cy a i r q (a 20) (a 12)))) (vp_Si (fun z => z = (-1))) 0 0 (fun _ => False) := by
  refine Met.ofQ (cc := cX11_thing) (maxL := 5) (ret := (some .int)) (by decide) rfl ?_
  intro p e s m args below meth c s₁ B hml hv Q hQ
  obtain ⟨rfl, hP, hK⟩ := hv
  have hx := B.exec
  have hb := B.bytes
  have hr := B.returns
  have hlocks := B.notSynchronized
  have hT : ∀ w ∈ gT, w.before _ s = true := fun w h => atoms_spec (ws := (Cond.code yX11_thing cX11_thing 5 (some .int) :: gT)) B.pre w (List.mem_cons_of_mem _ h)
  have hown : s.vm.findClass RX11 = some m.cls := findClass_of_methodNamed B.named
  have hl := lv_entry ([.ref (a 0), .int p0, .int p1, .int p2]) (n := 5) (Nat.le_of_ble_eq_true rfl)
  rw [lg_entry_eq]
  generalize (lg_sl ([.ref (a 0), .int p0, .int p1, .int p2]) ++ List.replicate (5 - (lg_sl ([.ref (a 0), .int p0, .int p1, .int p2])).length) Slot.unset).toArray = ls at hl ⊢
  have hl : lv_has ls 5 [(0, .ref (a 0)), (1, .int p0), (2, .int p1), (3, .int p2)] := hl
  refine lv_aload_n hx hb dX11_thing_0 rfl (lv_at hl 0 rfl) ?_
  refine lv_iload_n hx hb dX11_thing_1 rfl (lv_at hl 1 rfl) ?_
  refine va_csq (W.runV (As := [.int p0]) (rest := []) ⟨hx, hb, hml, hown, hT⟩ (c_X11_homeAt l D cy a i r q p0 hf hg) (cwV 1 hT (gV t_42 t_43 t_44 t_45 t_2) rfl rfl rfl (by decide +kernel) ⟨Nat.le_of_ble_eq_true rfl, Nat.le_of_ble_eq_true rfl⟩) (rP_v hP hK (va_recv hK hP (ci := 11) (q0 := 0) rfl rfl)) rfl rfl hl.1 rfl (lv_room (Nat.le_of_ble_eq_true rfl)) dX11_thing_2 ⟨Nat.le_of_ble_eq_true rfl, Nat.le_of_ble_eq_true rfl⟩) (fun r_1 hr_1 => ?_)
  subst hr_1
  refine W.eq (g2 := F0 m 5 ls [.null]) rfl ?_
  refine lv_astoreN (lv' := [(4, .null), (0, .ref (a 0)), (1, .int p0), (2, .int p1), (3, .int p2)]) hx hb dX11_thing_5 hl (by decide) rfl (fun ls hl => ?_)
  refine lv_aloadN hx hb dX11_thing_7 (lv_at hl 0 rfl) ?_
  refine lv_ifnullN (tgt := 30) hx hb dX11_thing_9 (by decide) ?_
  refine lv_iconst (v := (-1)) hx hb dX11_thing_30 (by decide) ?_
  subst hQ
  exact W.iret (v := (-1)) hx hb hr (fun t ht hW => ⟨_, rfl, rfl, ht⟩) (fun q hq => absurd hq List.not_mem_nil) dX11_thing_31
set_option maxHeartbeats 4000000 in
set_option maxRecDepth 100000 in
theorem c_X11_isNew (l : Launch) (D : va_G) (cy : Nat → ClassId) (a : Nat → Nat) (i : Nat → Int32) (r : Nat → Nat → Int32) (q : Nat → Option Nat) (p0 p1 : Int32) (hf : xZ i) (hg : xZr r) : Met l yX11_isNew (Cond.code yX11_isNew cX11_isNew 4 (some .int) :: gT) { frames := 3, cells := 0, slots := 0, locals := 67 } (va_Pc [.ref (a 0), .int p0, .int p1] (rP D cy (xW cy a i r q (a 20) (a 12)))) (vp_Si (fun z => z = (-1))) 0 0 (fun _ => False) := by
  refine Met.ofQ (cc := cX11_isNew) (maxL := 4) (ret := (some .int)) (by decide) rfl ?_
  intro p e s m args below meth c s₁ B hml hv Q hQ
  obtain ⟨rfl, hP, hK⟩ := hv
  have hx := B.exec
  have hb := B.bytes
  have hr := B.returns
  have hlocks := B.notSynchronized
  have hT : ∀ w ∈ gT, w.before _ s = true := fun w h => atoms_spec (ws := (Cond.code yX11_isNew cX11_isNew 4 (some .int) :: gT)) B.pre w (List.mem_cons_of_mem _ h)
  have hown : s.vm.findClass RX11 = some m.cls := findClass_of_methodNamed B.named
  have hl := lv_entry ([.ref (a 0), .int p0, .int p1]) (n := 4) (Nat.le_of_ble_eq_true rfl)
  rw [lg_entry_eq]
  generalize (lg_sl ([.ref (a 0), .int p0, .int p1]) ++ List.replicate (4 - (lg_sl ([.ref (a 0), .int p0, .int p1])).length) Slot.unset).toArray = ls at hl ⊢
  have hl : lv_has ls 4 [(0, .ref (a 0)), (1, .int p0), (2, .int p1)] := hl
  refine lv_aload_n hx hb dX11_isNew_0 rfl (lv_at hl 0 rfl) ?_
  refine lv_iload_n hx hb dX11_isNew_1 rfl (lv_at hl 1 rfl) ?_
  refine va_csq (W.runV (As := [.int p0]) (rest := []) ⟨hx, hb, hml, hown, hT⟩ (c_X11_homeAt l D cy a i r q p0 hf hg) (cwV 1 hT (gV t_42 t_43 t_44 t_45 t_2) rfl rfl rfl (by decide +kernel) ⟨Nat.le_of_ble_eq_true rfl, Nat.le_of_ble_eq_true rfl⟩) (rP_v hP hK (va_recv hK hP (ci := 11) (q0 := 0) rfl rfl)) rfl rfl hl.1 rfl (lv_room (Nat.le_of_ble_eq_true rfl)) dX11_isNew_2 ⟨Nat.le_of_ble_eq_true rfl, Nat.le_of_ble_eq_true rfl⟩) (fun r_1 hr_1 => ?_)
  subst hr_1
  refine W.eq (g2 := F0 m 5 ls [.null]) rfl ?_
  refine lv_astore_nN (lv' := [(3, .null), (0, .ref (a 0)), (1, .int p0), (2, .int p1)]) hx hb dX11_isNew_5 rfl hl (by decide) rfl (fun ls hl => ?_)
  refine lv_aload_nN hx hb dX11_isNew_6 rfl (lv_at hl 0 rfl) ?_
  refine lv_ifnullN (tgt := 27) hx hb dX11_isNew_7 (by decide) ?_
  refine lv_iconst (v := (-1)) hx hb dX11_isNew_27 (by decide) ?_
  subst hQ
  exact W.iret (v := (-1)) hx hb hr (fun t ht hW => ⟨_, rfl, rfl, ht⟩) (fun q hq => absurd hq List.not_mem_nil) dX11_isNew_28
set_option maxHeartbeats 4000000 in
set_option maxRecDepth 100000 in
theorem c_X11_led (l : Launch) (D : va_G) (cy : Nat → ClassId) (a : Nat → Nat) (i : Nat → Int32) (r : Nat → Nat → Int32) (q : Nat → Option Nat) (p0 p1 p2 : Int32) (hf : xZ i) (hg : xZr r) : Met l yX11_led (Cond.code yX11_led cX11_led 5 (some .int) :: gT) { frames := 3, cells := 0, slots := 0, locals := 67 } (va_Pc [.ref (a 0), .int p0, .int p1, .int p2] (rP D cy (xW cy a i r q (a 20) (a 12)))) (vp_Si (fun z => z = (-1))) 0 0 (fun _ => False) := by
  refine Met.ofQ (cc := cX11_led) (maxL := 5) (ret := (some .int)) (by decide) rfl ?_
  intro p e s m args below meth c s₁ B hml hv Q hQ
  obtain ⟨rfl, hP, hK⟩ := hv
  have hx := B.exec
  have hb := B.bytes
  have hr := B.returns
  have hlocks := B.notSynchronized
  have hT : ∀ w ∈ gT, w.before _ s = true := fun w h => atoms_spec (ws := (Cond.code yX11_led cX11_led 5 (some .int) :: gT)) B.pre w (List.mem_cons_of_mem _ h)
  have hown : s.vm.findClass RX11 = some m.cls := findClass_of_methodNamed B.named
  have hl := lv_entry ([.ref (a 0), .int p0, .int p1, .int p2]) (n := 5) (Nat.le_of_ble_eq_true rfl)
  rw [lg_entry_eq]
  generalize (lg_sl ([.ref (a 0), .int p0, .int p1, .int p2]) ++ List.replicate (5 - (lg_sl ([.ref (a 0), .int p0, .int p1, .int p2])).length) Slot.unset).toArray = ls at hl ⊢
  have hl : lv_has ls 5 [(0, .ref (a 0)), (1, .int p0), (2, .int p1), (3, .int p2)] := hl
  refine lv_aload_n hx hb dX11_led_0 rfl (lv_at hl 0 rfl) ?_
  refine lv_iload_n hx hb dX11_led_1 rfl (lv_at hl 1 rfl) ?_
  refine va_csq (W.runV (As := [.int p0]) (rest := []) ⟨hx, hb, hml, hown, hT⟩ (c_X11_homeAt l D cy a i r q p0 hf hg) (cwV 1 hT (gV t_42 t_43 t_44 t_45 t_2) rfl rfl rfl (by decide +kernel) ⟨Nat.le_of_ble_eq_true rfl, Nat.le_of_ble_eq_true rfl⟩) (rP_v hP hK (va_recv hK hP (ci := 11) (q0 := 0) rfl rfl)) rfl rfl hl.1 rfl (lv_room (Nat.le_of_ble_eq_true rfl)) dX11_led_2 ⟨Nat.le_of_ble_eq_true rfl, Nat.le_of_ble_eq_true rfl⟩) (fun r_1 hr_1 => ?_)
  subst hr_1
  refine W.eq (g2 := F0 m 5 ls [.null]) rfl ?_
  refine lv_astoreN (lv' := [(4, .null), (0, .ref (a 0)), (1, .int p0), (2, .int p1), (3, .int p2)]) hx hb dX11_led_5 hl (by decide) rfl (fun ls hl => ?_)
  refine lv_aloadN hx hb dX11_led_7 (lv_at hl 0 rfl) ?_
  refine lv_ifnullN (tgt := 40) hx hb dX11_led_9 (by decide) ?_
  refine lv_iconst (v := (-1)) hx hb dX11_led_40 (by decide) ?_
  subst hQ
  exact W.iret (v := (-1)) hx hb hr (fun t ht hW => ⟨_, rfl, rfl, ht⟩) (fun q hq => absurd hq List.not_mem_nil) dX11_led_41
set_option maxHeartbeats 4000000 in
set_option maxRecDepth 100000 in
theorem c_X11_claim (l : Launch) (D : va_G) (cy : Nat → ClassId) (a : Nat → Nat) (i : Nat → Int32) (r : Nat → Nat → Int32) (q : Nat → Option Nat) (p0 p1 p2 p3 p4 : Int32) (hf : xZ i) (hg : xZr r) : Met l yX11_claim (Cond.code yX11_claim cX11_claim 7 (some .int) :: gT) { frames := 3, cells := 0, slots := 0, locals := 67 } (va_Pc [.ref (a 0), .int p0, .int p1, .int p2, .int p3, .int p4] (rP D cy (xW cy a i r q (a 20) (a 12)))) (vp_Si (fun z => z = (-1))) 0 0 (fun _ => False) := by
  refine Met.ofQ (cc := cX11_claim) (maxL := 7) (ret := (some .int)) (by decide) rfl ?_
  intro p e s m args below meth c s₁ B hml hv Q hQ
  obtain ⟨rfl, hP, hK⟩ := hv
  have hx := B.exec
  have hb := B.bytes
  have hr := B.returns
  have hlocks := B.notSynchronized
  have hT : ∀ w ∈ gT, w.before _ s = true := fun w h => atoms_spec (ws := (Cond.code yX11_claim cX11_claim 7 (some .int) :: gT)) B.pre w (List.mem_cons_of_mem _ h)
  have hown : s.vm.findClass RX11 = some m.cls := findClass_of_methodNamed B.named
  have hl := lv_entry ([.ref (a 0), .int p0, .int p1, .int p2, .int p3, .int p4]) (n := 7) (Nat.le_of_ble_eq_true rfl)
  rw [lg_entry_eq]
  generalize (lg_sl ([.ref (a 0), .int p0, .int p1, .int p2, .int p3, .int p4]) ++ List.replicate (7 - (lg_sl ([.ref (a 0), .int p0, .int p1, .int p2, .int p3, .int p4])).length) Slot.unset).toArray = ls at hl ⊢
  have hl : lv_has ls 7 [(0, .ref (a 0)), (1, .int p0), (2, .int p1), (3, .int p2), (4, .int p3), (5, .int p4)] := hl
  refine lv_aload_n hx hb dX11_claim_0 rfl (lv_at hl 0 rfl) ?_
  refine lv_iload_n hx hb dX11_claim_1 rfl (lv_at hl 1 rfl) ?_
  refine va_csq (W.runV (As := [.int p0]) (rest := []) ⟨hx, hb, hml, hown, hT⟩ (c_X11_homeAt l D cy a i r q p0 hf hg) (cwV 1 hT (gV t_42 t_43 t_44 t_45 t_2) rfl rfl rfl (by decide +kernel) ⟨Nat.le_of_ble_eq_true rfl, Nat.le_of_ble_eq_true rfl⟩) (rP_v hP hK (va_recv hK hP (ci := 11) (q0 := 0) rfl rfl)) rfl rfl hl.1 rfl (lv_room (Nat.le_of_ble_eq_true rfl)) dX11_claim_2 ⟨Nat.le_of_ble_eq_true rfl, Nat.le_of_ble_eq_true rfl⟩) (fun r_1 hr_1 => ?_)
  subst hr_1
  refine W.eq (g2 := F0 m 5 ls [.null]) rfl ?_
  refine lv_astoreN (lv' := [(6, .null), (0, .ref (a 0)), (1, .int p0), (2, .int p1), (3, .int p2), (4, .int p3), (5, .int p4)]) hx hb dX11_claim_5 hl (by decide) rfl (fun ls hl => ?_)
  refine lv_aloadN hx hb dX11_claim_7 (lv_at hl 0 rfl) ?_
  refine lv_ifnullN (tgt := 59) hx hb dX11_claim_9 (by decide) ?_
  refine lv_iconst (v := (-1)) hx hb dX11_claim_59 (by decide) ?_
  subst hQ
  exact W.iret (v := (-1)) hx hb hr (fun t ht hW => ⟨_, rfl, rfl, ht⟩) (fun q hq => absurd hq List.not_mem_nil) dX11_claim_60
set_option maxHeartbeats 4000000 in
set_option maxRecDepth 100000 in
theorem c_X11_agree (l : Launch) (D : va_G) (cy : Nat → ClassId) (a : Nat → Nat) (i : Nat → Int32) (r : Nat → Nat → Int32) (q : Nat → Option Nat) (p0 p1 : Int32) (hf : xZ i) (hg : xZr r) : Met l yX11_agree (Cond.code yX11_agree cX11_agree 3 (some .boolean) :: gT) { frames := 3, cells := 0, slots := 0, locals := 67 } (va_Pc [.ref (a 0), .int p0, .int p1] (rP D cy (xW cy a i r q (a 20) (a 12)))) (vp_Si (fun z => z = 0)) 0 0 (fun _ => False) := by
  refine Met.ofQ (cc := cX11_agree) (maxL := 3) (ret := (some .boolean)) (by decide) rfl ?_
  intro p e s m args below meth c s₁ B hml hv Q hQ
  obtain ⟨rfl, hP, hK⟩ := hv
  have hx := B.exec
  have hb := B.bytes
  have hr := B.returns
  have hlocks := B.notSynchronized
  have hT : ∀ w ∈ gT, w.before _ s = true := fun w h => atoms_spec (ws := (Cond.code yX11_agree cX11_agree 3 (some .boolean) :: gT)) B.pre w (List.mem_cons_of_mem _ h)
  have hown : s.vm.findClass RX11 = some m.cls := findClass_of_methodNamed B.named
  have hl := lv_entry ([.ref (a 0), .int p0, .int p1]) (n := 3) (Nat.le_of_ble_eq_true rfl)
  rw [lg_entry_eq]
  generalize (lg_sl ([.ref (a 0), .int p0, .int p1]) ++ List.replicate (3 - (lg_sl ([.ref (a 0), .int p0, .int p1])).length) Slot.unset).toArray = ls at hl ⊢
  have hl : lv_has ls 3 [(0, .ref (a 0)), (1, .int p0), (2, .int p1)] := hl
  refine lv_aload_n hx hb dX11_agree_0 rfl (lv_at hl 0 rfl) ?_
  refine lv_iload_n hx hb dX11_agree_1 rfl (lv_at hl 1 rfl) ?_
  refine vp_callSi (W.runV (As := [.int p0]) (rest := []) ⟨hx, hb, hml, hown, hT⟩ (c_X11_isClaim l D cy a i r q p0 hf hg) (cwV 1 hT (gV t_48 t_49 t_50 t_51 t_2) rfl rfl rfl (by decide +kernel) ⟨Nat.le_of_ble_eq_true rfl, Nat.le_of_ble_eq_true rfl⟩) (rP_v hP hK (va_recv hK hP (ci := 11) (q0 := 0) rfl rfl)) rfl rfl hl.1 rfl (lv_room (Nat.le_of_ble_eq_true rfl)) dX11_agree_2 ⟨Nat.le_of_ble_eq_true rfl, Nat.le_of_ble_eq_true rfl⟩) (fun r_1 hr_1 => ?_)
  subst hr_1
  refine lv_if_eq (tgt := 18) hx hb dX11_agree_5 (by decide) (fun c_2 => ?_) (fun c_2 => absurd (by decide) c_2)
  refine lv_iconst (v := 0) hx hb dX11_agree_18 (by decide) ?_
  subst hQ
  exact W.zret hx hb hr rfl (fun t ht hW => ⟨_, rfl, rfl, ht⟩) (fun q hq => absurd hq List.not_mem_nil) dX11_agree_19
set_option maxHeartbeats 4000000 in
set_option maxRecDepth 100000 in
theorem c_X11_answer (l : Launch) (D : va_G) (cy : Nat → ClassId) (a : Nat → Nat) (i : Nat → Int32) (r : Nat → Nat → Int32) (q : Nat → Option Nat) (p0 p1 p2 : Int32) (hf : xZ i) (hg : xZr r) : Met l yX11_answer (Cond.code yX11_answer cX11_answer 4 (some .boolean) :: gT) { frames := 3, cells := 0, slots := 0, locals := 67 } (va_Pc [.ref (a 0), .int p0, .int p1, .int p2] (rP D cy (xW cy a i r q (a 20) (a 12)))) (vp_Si (fun z => z = 0)) 0 0 (fun _ => False) := by
  refine Met.ofQ (cc := cX11_answer) (maxL := 4) (ret := (some .boolean)) (by decide) rfl ?_
  intro p e s m args below meth c s₁ B hml hv Q hQ
  obtain ⟨rfl, hP, hK⟩ := hv
  have hx := B.exec
  have hb := B.bytes
  have hr := B.returns
  have hlocks := B.notSynchronized
  have hT : ∀ w ∈ gT, w.before _ s = true := fun w h => atoms_spec (ws := (Cond.code yX11_answer cX11_answer 4 (some .boolean) :: gT)) B.pre w (List.mem_cons_of_mem _ h)
  have hown : s.vm.findClass RX11 = some m.cls := findClass_of_methodNamed B.named
  have hl := lv_entry ([.ref (a 0), .int p0, .int p1, .int p2]) (n := 4) (Nat.le_of_ble_eq_true rfl)
  rw [lg_entry_eq]
  generalize (lg_sl ([.ref (a 0), .int p0, .int p1, .int p2]) ++ List.replicate (4 - (lg_sl ([.ref (a 0), .int p0, .int p1, .int p2])).length) Slot.unset).toArray = ls at hl ⊢
  have hl : lv_has ls 4 [(0, .ref (a 0)), (1, .int p0), (2, .int p1), (3, .int p2)] := hl
  refine lv_aload_n hx hb dX11_answer_0 rfl (lv_at hl 0 rfl) ?_
  refine lv_iload_n hx hb dX11_answer_1 rfl (lv_at hl 1 rfl) ?_
  refine vp_callSi (W.runV (As := [.int p0]) (rest := []) ⟨hx, hb, hml, hown, hT⟩ (c_X11_isClaim l D cy a i r q p0 hf hg) (cwV 1 hT (gV t_48 t_49 t_50 t_51 t_2) rfl rfl rfl (by decide +kernel) ⟨Nat.le_of_ble_eq_true rfl, Nat.le_of_ble_eq_true rfl⟩) (rP_v hP hK (va_recv hK hP (ci := 11) (q0 := 0) rfl rfl)) rfl rfl hl.1 rfl (lv_room (Nat.le_of_ble_eq_true rfl)) dX11_answer_2 ⟨Nat.le_of_ble_eq_true rfl, Nat.le_of_ble_eq_true rfl⟩) (fun r_1 hr_1 => ?_)
  subst hr_1
  refine lv_if_eq (tgt := 28) hx hb dX11_answer_5 (by decide) (fun c_2 => ?_) (fun c_2 => absurd (by decide) c_2)
  refine lv_iconst (v := 0) hx hb dX11_answer_28 (by decide) ?_
  subst hQ
  exact W.zret hx hb hr rfl (fun t ht hW => ⟨_, rfl, rfl, ht⟩) (fun q hq => absurd hq List.not_mem_nil) dX11_answer_29
set_option maxHeartbeats 4000000 in
set_option maxRecDepth 100000 in
theorem c_X11_award (l : Launch) (D : va_G) (cy : Nat → ClassId) (a : Nat → Nat) (i : Nat → Int32) (r : Nat → Nat → Int32) (q : Nat → Option Nat) (p0 p1 p2 : Int32) (hf : xZ i) (hg : xZr r) : Met l yX11_award (Cond.code yX11_award cX11_award 8 (some .int) :: gT) { frames := 3, cells := 0, slots := 0, locals := 67 } (va_Pc [.ref (a 0), .int p0, .int p1, .int p2] (rP D cy (xW cy a i r q (a 20) (a 12)))) (vp_Si (fun z => z = (-1))) 0 0 (fun _ => False) := by
  refine Met.ofQ (cc := cX11_award) (maxL := 8) (ret := (some .int)) (by decide) rfl ?_
  intro p e s m args below meth c s₁ B hml hv Q hQ
  obtain ⟨rfl, hP, hK⟩ := hv
  have hx := B.exec
  have hb := B.bytes
  have hr := B.returns
  have hlocks := B.notSynchronized
  have hT : ∀ w ∈ gT, w.before _ s = true := fun w h => atoms_spec (ws := (Cond.code yX11_award cX11_award 8 (some .int) :: gT)) B.pre w (List.mem_cons_of_mem _ h)
  have hown : s.vm.findClass RX11 = some m.cls := findClass_of_methodNamed B.named
  have hl := lv_entry ([.ref (a 0), .int p0, .int p1, .int p2]) (n := 8) (Nat.le_of_ble_eq_true rfl)
  rw [lg_entry_eq]
  generalize (lg_sl ([.ref (a 0), .int p0, .int p1, .int p2]) ++ List.replicate (8 - (lg_sl ([.ref (a 0), .int p0, .int p1, .int p2])).length) Slot.unset).toArray = ls at hl ⊢
  have hl : lv_has ls 8 [(0, .ref (a 0)), (1, .int p0), (2, .int p1), (3, .int p2)] := hl
  refine lv_aload_n hx hb dX11_award_0 rfl (lv_at hl 0 rfl) ?_
  refine lv_iload_n hx hb dX11_award_1 rfl (lv_at hl 1 rfl) ?_
  refine vp_callSi (W.runV (As := [.int p0]) (rest := []) ⟨hx, hb, hml, hown, hT⟩ (c_X11_isClaim l D cy a i r q p0 hf hg) (cwV 1 hT (gV t_48 t_49 t_50 t_51 t_2) rfl rfl rfl (by decide +kernel) ⟨Nat.le_of_ble_eq_true rfl, Nat.le_of_ble_eq_true rfl⟩) (rP_v hP hK (va_recv hK hP (ci := 11) (q0 := 0) rfl rfl)) rfl rfl hl.1 rfl (lv_room (Nat.le_of_ble_eq_true rfl)) dX11_award_2 ⟨Nat.le_of_ble_eq_true rfl, Nat.le_of_ble_eq_true rfl⟩) (fun r_1 hr_1 => ?_)
  subst hr_1
  refine lv_if_eq (tgt := 24) hx hb dX11_award_5 (by decide) (fun c_2 => ?_) (fun c_2 => absurd (by decide) c_2)
  refine lv_null hx hb dX11_award_24 ?_
  refine lv_astoreN (lv' := [(4, .null), (0, .ref (a 0)), (1, .int p0), (2, .int p1), (3, .int p2)]) hx hb dX11_award_25 hl (by decide) rfl (fun ls hl => ?_)
  refine lv_aloadN hx hb dX11_award_27 (lv_at hl 0 rfl) ?_
  refine lv_ifnullN (tgt := 48) hx hb dX11_award_29 (by decide) ?_
  refine lv_iconst (v := (-1)) hx hb dX11_award_48 (by decide) ?_
  subst hQ
  exact W.iret (v := (-1)) hx hb hr (fun t ht hW => ⟨_, rfl, rfl, ht⟩) (fun q hq => absurd hq List.not_mem_nil) dX11_award_49
set_option maxHeartbeats 4000000 in
set_option maxRecDepth 100000 in
theorem c_X11_judged (l : Launch) (D : va_G) (cy : Nat → ClassId) (a : Nat → Nat) (i : Nat → Int32) (r : Nat → Nat → Int32) (q : Nat → Option Nat) (p0 p1 p2 : Int32) (hf : xZ i) (hg : xZr r) : Met l yX11_judged (Cond.code yX11_judged cX11_judged 5 (some .int) :: gT) { frames := 3, cells := 0, slots := 0, locals := 67 } (va_Pc [.ref (a 0), .int p0, .int p1, .int p2] (rP D cy (xW cy a i r q (a 20) (a 12)))) (vp_Si (fun z => z = (-1))) 0 0 (fun _ => False) := by
  refine Met.ofQ (cc := cX11_judged) (maxL := 5) (ret := (some .int)) (by decide) rfl ?_
  intro p e s m args below meth c s₁ B hml hv Q hQ
  obtain ⟨rfl, hP, hK⟩ := hv
  have hx := B.exec
  have hb := B.bytes
  have hr := B.returns
  have hlocks := B.notSynchronized
  have hT : ∀ w ∈ gT, w.before _ s = true := fun w h => atoms_spec (ws := (Cond.code yX11_judged cX11_judged 5 (some .int) :: gT)) B.pre w (List.mem_cons_of_mem _ h)
  have hown : s.vm.findClass RX11 = some m.cls := findClass_of_methodNamed B.named
  have hl := lv_entry ([.ref (a 0), .int p0, .int p1, .int p2]) (n := 5) (Nat.le_of_ble_eq_true rfl)
  rw [lg_entry_eq]
  generalize (lg_sl ([.ref (a 0), .int p0, .int p1, .int p2]) ++ List.replicate (5 - (lg_sl ([.ref (a 0), .int p0, .int p1, .int p2])).length) Slot.unset).toArray = ls at hl ⊢
  have hl : lv_has ls 5 [(0, .ref (a 0)), (1, .int p0), (2, .int p1), (3, .int p2)] := hl
  refine lv_aload_n hx hb dX11_judged_0 rfl (lv_at hl 0 rfl) ?_
  refine lv_iload_n hx hb dX11_judged_1 rfl (lv_at hl 1 rfl) ?_
  refine va_csq (W.runV (As := [.int p0]) (rest := []) ⟨hx, hb, hml, hown, hT⟩ (c_X11_homeAt l D cy a i r q p0 hf hg) (cwV 1 hT (gV t_42 t_43 t_44 t_45 t_2) rfl rfl rfl (by decide +kernel) ⟨Nat.le_of_ble_eq_true rfl, Nat.le_of_ble_eq_true rfl⟩) (rP_v hP hK (va_recv hK hP (ci := 11) (q0 := 0) rfl rfl)) rfl rfl hl.1 rfl (lv_room (Nat.le_of_ble_eq_true rfl)) dX11_judged_2 ⟨Nat.le_of_ble_eq_true rfl, Nat.le_of_ble_eq_true rfl⟩) (fun r_1 hr_1 => ?_)
  subst hr_1
  refine W.eq (g2 := F0 m 5 ls [.null]) rfl ?_
  refine lv_astoreN (lv' := [(4, .null), (0, .ref (a 0)), (1, .int p0), (2, .int p1), (3, .int p2)]) hx hb dX11_judged_5 hl (by decide) rfl (fun ls hl => ?_)
  refine lv_aloadN hx hb dX11_judged_7 (lv_at hl 0 rfl) ?_
  refine lv_ifnullN (tgt := 19) hx hb dX11_judged_9 (by decide) ?_
  refine lv_iconst (v := (-1)) hx hb dX11_judged_19 (by decide) ?_
  subst hQ
  exact W.iret (v := (-1)) hx hb hr (fun t ht hW => ⟨_, rfl, rfl, ht⟩) (fun q hq => absurd hq List.not_mem_nil) dX11_judged_20
set_option maxHeartbeats 4000000 in
set_option maxRecDepth 100000 in
theorem c_X11_offer (l : Launch) (D : va_G) (cy : Nat → ClassId) (a : Nat → Nat) (i : Nat → Int32) (r : Nat → Nat → Int32) (q : Nat → Option Nat) (p0 p1 p2 : Int32) (hf : xZ i) (hg : xZr r) : Met l yX11_offer (Cond.code yX11_offer cX11_offer 4 (some .int) :: gT) { frames := 3, cells := 0, slots := 0, locals := 67 } (va_Pc [.ref (a 0), .int p0, .int p1, .int p2] (rP D cy (xW cy a i r q (a 20) (a 12)))) (vp_Si (fun z => z = (-1))) 0 0 (fun _ => False) := by
  refine Met.ofQ (cc := cX11_offer) (maxL := 4) (ret := (some .int)) (by decide) rfl ?_
  intro p e s m args below meth c s₁ B hml hv Q hQ
  obtain ⟨rfl, hP, hK⟩ := hv
  have hx := B.exec
  have hb := B.bytes
  have hr := B.returns
  have hlocks := B.notSynchronized
  have hT : ∀ w ∈ gT, w.before _ s = true := fun w h => atoms_spec (ws := (Cond.code yX11_offer cX11_offer 4 (some .int) :: gT)) B.pre w (List.mem_cons_of_mem _ h)
  have hown : s.vm.findClass RX11 = some m.cls := findClass_of_methodNamed B.named
  have hl := lv_entry ([.ref (a 0), .int p0, .int p1, .int p2]) (n := 4) (Nat.le_of_ble_eq_true rfl)
  rw [lg_entry_eq]
  generalize (lg_sl ([.ref (a 0), .int p0, .int p1, .int p2]) ++ List.replicate (4 - (lg_sl ([.ref (a 0), .int p0, .int p1, .int p2])).length) Slot.unset).toArray = ls at hl ⊢
  have hl : lv_has ls 4 [(0, .ref (a 0)), (1, .int p0), (2, .int p1), (3, .int p2)] := hl
  refine lv_aload_n hx hb dX11_offer_0 rfl (lv_at hl 0 rfl) ?_
  refine lv_iload_n hx hb dX11_offer_1 rfl (lv_at hl 1 rfl) ?_
  refine va_csq (W.runV (As := [.int p0]) (rest := []) ⟨hx, hb, hml, hown, hT⟩ (c_X11_homeAt l D cy a i r q p0 hf hg) (cwV 1 hT (gV t_42 t_43 t_44 t_45 t_2) rfl rfl rfl (by decide +kernel) ⟨Nat.le_of_ble_eq_true rfl, Nat.le_of_ble_eq_true rfl⟩) (rP_v hP hK (va_recv hK hP (ci := 11) (q0 := 0) rfl rfl)) rfl rfl hl.1 rfl (lv_room (Nat.le_of_ble_eq_true rfl)) dX11_offer_2 ⟨Nat.le_of_ble_eq_true rfl, Nat.le_of_ble_eq_true rfl⟩) (fun r_1 hr_1 => ?_)
  subst hr_1
  refine W.eq (g2 := F0 m 5 ls [.null]) rfl ?_
  refine lv_ifnullN (tgt := 18) hx hb dX11_offer_5 (by decide) ?_
  refine lv_iconst (v := (-1)) hx hb dX11_offer_18 (by decide) ?_
  subst hQ
  exact W.iret (v := (-1)) hx hb hr (fun t ht hW => ⟨_, rfl, rfl, ht⟩) (fun q hq => absurd hq List.not_mem_nil) dX11_offer_19
set_option maxHeartbeats 4000000 in
set_option maxRecDepth 100000 in
theorem c_X11_met (l : Launch) (D : va_G) (cy : Nat → ClassId) (a : Nat → Nat) (i : Nat → Int32) (r : Nat → Nat → Int32) (q : Nat → Option Nat) (p0 : Int32) (hf : xZ i) (hg : xZr r) : Met l yX11_met (Cond.code yX11_met cX11_met 4 (some .int) :: gT) { frames := 3, cells := 0, slots := 0, locals := 67 } (va_Pc [.ref (a 0), .int p0] (rP D cy (xW cy a i r q (a 20) (a 12)))) (vp_Si (fun z => z = (-1))) 0 0 (fun _ => False) := by
  refine Met.ofQ (cc := cX11_met) (maxL := 4) (ret := (some .int)) (by decide) rfl ?_
  intro p e s m args below meth c s₁ B hml hv Q hQ
  obtain ⟨rfl, hP, hK⟩ := hv
  have hx := B.exec
  have hb := B.bytes
  have hr := B.returns
  have hlocks := B.notSynchronized
  have hT : ∀ w ∈ gT, w.before _ s = true := fun w h => atoms_spec (ws := (Cond.code yX11_met cX11_met 4 (some .int) :: gT)) B.pre w (List.mem_cons_of_mem _ h)
  have hown : s.vm.findClass RX11 = some m.cls := findClass_of_methodNamed B.named
  have hl := lv_entry ([.ref (a 0), .int p0]) (n := 4) (Nat.le_of_ble_eq_true rfl)
  rw [lg_entry_eq]
  generalize (lg_sl ([.ref (a 0), .int p0]) ++ List.replicate (4 - (lg_sl ([.ref (a 0), .int p0])).length) Slot.unset).toArray = ls at hl ⊢
  have hl : lv_has ls 4 [(0, .ref (a 0)), (1, .int p0)] := hl
  refine lv_aload_n hx hb dX11_met_0 rfl (lv_at hl 0 rfl) ?_
  refine lv_iload_n hx hb dX11_met_1 rfl (lv_at hl 1 rfl) ?_
  refine va_csq (W.runV (As := [.int p0]) (rest := []) ⟨hx, hb, hml, hown, hT⟩ (c_X11_homeAt l D cy a i r q p0 hf hg) (cwV 1 hT (gV t_42 t_43 t_44 t_45 t_2) rfl rfl rfl (by decide +kernel) ⟨Nat.le_of_ble_eq_true rfl, Nat.le_of_ble_eq_true rfl⟩) (rP_v hP hK (va_recv hK hP (ci := 11) (q0 := 0) rfl rfl)) rfl rfl hl.1 rfl (lv_room (Nat.le_of_ble_eq_true rfl)) dX11_met_2 ⟨Nat.le_of_ble_eq_true rfl, Nat.le_of_ble_eq_true rfl⟩) (fun r_1 hr_1 => ?_)
  subst hr_1
  refine W.eq (g2 := F0 m 5 ls [.null]) rfl ?_
  refine lv_ifnonnullN hx hb dX11_met_5 ?_
  refine lv_iconst (v := (-1)) hx hb dX11_met_8 (by decide) ?_
  subst hQ
  exact W.iret (v := (-1)) hx hb hr (fun t ht hW => ⟨_, rfl, rfl, ht⟩) (fun q hq => absurd hq List.not_mem_nil) dX11_met_9
set_option maxHeartbeats 4000000 in
set_option maxRecDepth 100000 in
theorem c_X11_kin (l : Launch) (D : va_G) (cy : Nat → ClassId) (a : Nat → Nat) (i : Nat → Int32) (r : Nat → Nat → Int32) (q : Nat → Option Nat) (p0 p1 p2 : Int32) (hf : xZ i) (hg : xZr r) : Met l yX11_kin (Cond.code yX11_kin cX11_kin 5 (some .boolean) :: gT) { frames := 3, cells := 0, slots := 0, locals := 67 } (va_Pc [.ref (a 0), .int p0, .int p1, .int p2] (rP D cy (xW cy a i r q (a 20) (a 12)))) (vp_Si (fun z => z = 0)) 0 0 (fun _ => False) := by
  refine Met.ofQ (cc := cX11_kin) (maxL := 5) (ret := (some .boolean)) (by decide) rfl ?_
  intro p e s m args below meth c s₁ B hml hv Q hQ
  obtain ⟨rfl, hP, hK⟩ := hv
  have hx := B.exec
  have hb := B.bytes
  have hr := B.returns
  have hlocks := B.notSynchronized
  have hT : ∀ w ∈ gT, w.before _ s = true := fun w h => atoms_spec (ws := (Cond.code yX11_kin cX11_kin 5 (some .boolean) :: gT)) B.pre w (List.mem_cons_of_mem _ h)
  have hown : s.vm.findClass RX11 = some m.cls := findClass_of_methodNamed B.named
  have hl := lv_entry ([.ref (a 0), .int p0, .int p1, .int p2]) (n := 5) (Nat.le_of_ble_eq_true rfl)
  rw [lg_entry_eq]
  generalize (lg_sl ([.ref (a 0), .int p0, .int p1, .int p2]) ++ List.replicate (5 - (lg_sl ([.ref (a 0), .int p0, .int p1, .int p2])).length) Slot.unset).toArray = ls at hl ⊢
  have hl : lv_has ls 5 [(0, .ref (a 0)), (1, .int p0), (2, .int p1), (3, .int p2)] := hl
  refine lv_aload_n hx hb dX11_kin_0 rfl (lv_at hl 0 rfl) ?_
  refine lv_iload_n hx hb dX11_kin_1 rfl (lv_at hl 2 rfl) ?_
  refine va_csq (W.runV (As := [.int p1]) (rest := []) ⟨hx, hb, hml, hown, hT⟩ (c_X11_homeAt l D cy a i r q p1 hf hg) (cwV 1 hT (gV t_42 t_43 t_44 t_45 t_2) rfl rfl rfl (by decide +kernel) ⟨Nat.le_of_ble_eq_true rfl, Nat.le_of_ble_eq_true rfl⟩) (rP_v hP hK (va_recv hK hP (ci := 11) (q0 := 0) rfl rfl)) rfl rfl hl.1 rfl (lv_room (Nat.le_of_ble_eq_true rfl)) dX11_kin_2 ⟨Nat.le_of_ble_eq_true rfl, Nat.le_of_ble_eq_true rfl⟩) (fun r_1 hr_1 => ?_)
  subst hr_1
  refine W.eq (g2 := F0 m 5 ls [.null]) rfl ?_
  refine lv_astoreN (lv' := [(4, .null), (0, .ref (a 0)), (1, .int p0), (2, .int p1), (3, .int p2)]) hx hb dX11_kin_5 hl (by decide) rfl (fun ls hl => ?_)
  refine lv_aloadN hx hb dX11_kin_7 (lv_at hl 0 rfl) ?_
  refine lv_ifnullN (tgt := 32) hx hb dX11_kin_9 (by decide) ?_
  refine lv_iconst (v := 0) hx hb dX11_kin_32 (by decide) ?_
  subst hQ
  exact W.zret hx hb hr rfl (fun t ht hW => ⟨_, rfl, rfl, ht⟩) (fun q hq => absurd hq List.not_mem_nil) dX11_kin_33
set_option maxHeartbeats 4000000 in
set_option maxRecDepth 100000 in
theorem c_X11_draw (l : Launch) (D : va_G) (cy : Nat → ClassId) (a : Nat → Nat) (i : Nat → Int32) (r : Nat → Nat → Int32) (q : Nat → Option Nat) (p0 : Int32) (hf : xZ i) (hg : xZr r) : Met l yX11_draw (Cond.code yX11_draw cX11_draw 5 (some .int) :: gT) { frames := 3, cells := 0, slots := 0, locals := 67 } (va_Pc [.ref (a 0), .int p0] (rP D cy (xW cy a i r q (a 20) (a 12)))) (vp_Si (fun z => z = (-1))) 0 0 (fun _ => False) := by
  refine Met.ofQ (cc := cX11_draw) (maxL := 5) (ret := (some .int)) (by decide) rfl ?_
  intro p e s m args below meth c s₁ B hml hv Q hQ
  obtain ⟨rfl, hP, hK⟩ := hv
  have hx := B.exec
  have hb := B.bytes
  have hr := B.returns
  have hlocks := B.notSynchronized
  have hT : ∀ w ∈ gT, w.before _ s = true := fun w h => atoms_spec (ws := (Cond.code yX11_draw cX11_draw 5 (some .int) :: gT)) B.pre w (List.mem_cons_of_mem _ h)
  have hown : s.vm.findClass RX11 = some m.cls := findClass_of_methodNamed B.named
  have hl := lv_entry ([.ref (a 0), .int p0]) (n := 5) (Nat.le_of_ble_eq_true rfl)
  rw [lg_entry_eq]
  generalize (lg_sl ([.ref (a 0), .int p0]) ++ List.replicate (5 - (lg_sl ([.ref (a 0), .int p0])).length) Slot.unset).toArray = ls at hl ⊢
  have hl : lv_has ls 5 [(0, .ref (a 0)), (1, .int p0)] := hl
  refine lv_aload_n hx hb dX11_draw_0 rfl (lv_at hl 0 rfl) ?_
  refine lv_iload_n hx hb dX11_draw_1 rfl (lv_at hl 1 rfl) ?_
  refine va_csq (W.runV (As := [.int p0]) (rest := []) ⟨hx, hb, hml, hown, hT⟩ (c_X11_homeAt l D cy a i r q p0 hf hg) (cwV 1 hT (gV t_42 t_43 t_44 t_45 t_2) rfl rfl rfl (by decide +kernel) ⟨Nat.le_of_ble_eq_true rfl, Nat.le_of_ble_eq_true rfl⟩) (rP_v hP hK (va_recv hK hP (ci := 11) (q0 := 0) rfl rfl)) rfl rfl hl.1 rfl (lv_room (Nat.le_of_ble_eq_true rfl)) dX11_draw_2 ⟨Nat.le_of_ble_eq_true rfl, Nat.le_of_ble_eq_true rfl⟩) (fun r_1 hr_1 => ?_)
  subst hr_1
  refine W.eq (g2 := F0 m 5 ls [.null]) rfl ?_
  refine lv_astore_nN (lv' := [(2, .null), (0, .ref (a 0)), (1, .int p0)]) hx hb dX11_draw_5 rfl hl (by decide) rfl (fun ls hl => ?_)
  refine lv_aload_nN hx hb dX11_draw_6 rfl (lv_at hl 0 rfl) ?_
  refine lv_ifnonnullN hx hb dX11_draw_7 ?_
  refine lv_iconst (v := (-1)) hx hb dX11_draw_10 (by decide) ?_
  subst hQ
  exact W.iret (v := (-1)) hx hb hr (fun t ht hW => ⟨_, rfl, rfl, ht⟩) (fun q hq => absurd hq List.not_mem_nil) dX11_draw_11
set_option maxHeartbeats 4000000 in
set_option maxRecDepth 100000 in
theorem c_X11_like (l : Launch) (D : va_G) (cy : Nat → ClassId) (a : Nat → Nat) (i : Nat → Int32) (r : Nat → Nat → Int32) (q : Nat → Option Nat) (p0 p1 : Int32) (hf : xZ i) (hg : xZr r) : Met l yX11_like (Cond.code yX11_like cX11_like 9 (some .int) :: gT) { frames := 3, cells := 0, slots := 0, locals := 67 } (va_Pc [.ref (a 0), .int p0, .int p1] (rP D cy (xW cy a i r q (a 20) (a 12)))) (vp_Si (fun z => z = (-1))) 0 0 (fun _ => False) := by
  refine Met.ofQ (cc := cX11_like) (maxL := 9) (ret := (some .int)) (by decide) rfl ?_
  intro p e s m args below meth c s₁ B hml hv Q hQ
  obtain ⟨rfl, hP, hK⟩ := hv
  have hx := B.exec
  have hb := B.bytes
  have hr := B.returns
  have hlocks := B.notSynchronized
  have hT : ∀ w ∈ gT, w.before _ s = true := fun w h => atoms_spec (ws := (Cond.code yX11_like cX11_like 9 (some .int) :: gT)) B.pre w (List.mem_cons_of_mem _ h)
  have hown : s.vm.findClass RX11 = some m.cls := findClass_of_methodNamed B.named
  have hl := lv_entry ([.ref (a 0), .int p0, .int p1]) (n := 9) (Nat.le_of_ble_eq_true rfl)
  rw [lg_entry_eq]
  generalize (lg_sl ([.ref (a 0), .int p0, .int p1]) ++ List.replicate (9 - (lg_sl ([.ref (a 0), .int p0, .int p1])).length) Slot.unset).toArray = ls at hl ⊢
  have hl : lv_has ls 9 [(0, .ref (a 0)), (1, .int p0), (2, .int p1)] := hl
  refine lv_aload_n hx hb dX11_like_0 rfl (lv_at hl 0 rfl) ?_
  refine lv_iload_n hx hb dX11_like_1 rfl (lv_at hl 1 rfl) ?_
  refine va_csq (W.runV (As := [.int p0]) (rest := []) ⟨hx, hb, hml, hown, hT⟩ (c_X11_homeAt l D cy a i r q p0 hf hg) (cwV 1 hT (gV t_42 t_43 t_44 t_45 t_2) rfl rfl rfl (by decide +kernel) ⟨Nat.le_of_ble_eq_true rfl, Nat.le_of_ble_eq_true rfl⟩) (rP_v hP hK (va_recv hK hP (ci := 11) (q0 := 0) rfl rfl)) rfl rfl hl.1 rfl (lv_room (Nat.le_of_ble_eq_true rfl)) dX11_like_2 ⟨Nat.le_of_ble_eq_true rfl, Nat.le_of_ble_eq_true rfl⟩) (fun r_1 hr_1 => ?_)
  subst hr_1
  refine W.eq (g2 := F0 m 5 ls [.null]) rfl ?_
  refine lv_astore_nN (lv' := [(3, .null), (0, .ref (a 0)), (1, .int p0), (2, .int p1)]) hx hb dX11_like_5 rfl hl (by decide) rfl (fun ls hl => ?_)
  refine lv_aload_nN hx hb dX11_like_6 rfl (lv_at hl 0 rfl) ?_
  refine lv_ifnullN (tgt := 19) hx hb dX11_like_7 (by decide) ?_
  refine lv_iconst (v := (-1)) hx hb dX11_like_19 (by decide) ?_
  subst hQ
  exact W.iret (v := (-1)) hx hb hr (fun t ht hW => ⟨_, rfl, rfl, ht⟩) (fun q hq => absurd hq List.not_mem_nil) dX11_like_20
set_option maxHeartbeats 4000000 in
set_option maxRecDepth 100000 in
theorem c_X11_undo (l : Launch) (D : va_G) (cy : Nat → ClassId) (a : Nat → Nat) (i : Nat → Int32) (r : Nat → Nat → Int32) (q : Nat → Option Nat) (hf : xZ i) (hg : xZr r) : Met l yX11_undo (Cond.code yX11_undo cX11_undo 1 (some .boolean) :: gT) { frames := 1, cells := 0, slots := 0, locals := 24 } (va_Pc [.ref (a 0)] (rP D cy (xW cy a i r q (a 20) (a 12)))) (vp_Si (fun z => z = 0)) 0 0 (fun _ => False) := by
  refine Met.ofQ (cc := cX11_undo) (maxL := 1) (ret := (some .boolean)) (by decide) rfl ?_
  intro p e s m args below meth c s₁ B hml hv Q hQ
  obtain ⟨rfl, hP, hK⟩ := hv
  have hx := B.exec
  have hb := B.bytes
  have hr := B.returns
  have hlocks := B.notSynchronized
  have hT : ∀ w ∈ gT, w.before _ s = true := fun w h => atoms_spec (ws := (Cond.code yX11_undo cX11_undo 1 (some .boolean) :: gT)) B.pre w (List.mem_cons_of_mem _ h)
  have hown : s.vm.findClass RX11 = some m.cls := findClass_of_methodNamed B.named
  have hl := lv_entry ([.ref (a 0)]) (n := 1) (Nat.le_of_ble_eq_true rfl)
  rw [lg_entry_eq]
  generalize (lg_sl ([.ref (a 0)]) ++ List.replicate (1 - (lg_sl ([.ref (a 0)])).length) Slot.unset).toArray = ls at hl ⊢
  have hl : lv_has ls 1 [(0, .ref (a 0))] := hl
  refine lv_aload_n hx hb dX11_undo_0 rfl (lv_at hl 0 rfl) ?_
  refine va_get (D := D) (ci := 11) (v := .int 0) (C := RX11) (T := TX11) (N := 14) hx hb hT iX11 hown hK hP 0 rfl rfl 10 (by decide) (hT _ t_52) (fun _ h9 => h9) (congrArg (fun z => some (Value.int z)) (hf.1 1 (by decide) (by decide))) dX11_undo_1 ?_
  refine lv_if_ne (tgt := 9) hx hb dX11_undo_4 (by decide) (fun c_1 => absurd (by decide) c_1) (fun c_1 => ?_)
  refine lv_iconst (v := 0) hx hb dX11_undo_7 (by decide) ?_
  subst hQ
  exact W.zret hx hb hr rfl (fun t ht hW => ⟨_, rfl, rfl, ht⟩) (fun q hq => absurd hq List.not_mem_nil) dX11_undo_8
set_option maxHeartbeats 4000000 in
set_option maxRecDepth 100000 in
theorem c_X11_check (l : Launch) (D : va_G) (cy : Nat → ClassId) (a : Nat → Nat) (i : Nat → Int32) (r : Nat → Nat → Int32) (q : Nat → Option Nat) (p0 p1 p2 : Int32) (hf : xZ i) (hg : xZr r) : Met l yX11_check (Cond.code yX11_check cX11_check 6 (some .int) :: gT) { frames := 3, cells := 0, slots := 0, locals := 67 } (va_Pc [.ref (a 0), .int p0, .int p1, .int p2] (rP D cy (xW cy a i r q (a 20) (a 12)))) (vp_Si (fun z => z = (-2))) 0 0 (fun _ => False) := by
  refine Met.ofQ (cc := cX11_check) (maxL := 6) (ret := (some .int)) (by decide) rfl ?_
  intro p e s m args below meth c s₁ B hml hv Q hQ
  obtain ⟨rfl, hP, hK⟩ := hv
  have hx := B.exec
  have hb := B.bytes
  have hr := B.returns
  have hlocks := B.notSynchronized
  have hT : ∀ w ∈ gT, w.before _ s = true := fun w h => atoms_spec (ws := (Cond.code yX11_check cX11_check 6 (some .int) :: gT)) B.pre w (List.mem_cons_of_mem _ h)
  have hown : s.vm.findClass RX11 = some m.cls := findClass_of_methodNamed B.named
  have hl := lv_entry ([.ref (a 0), .int p0, .int p1, .int p2]) (n := 6) (Nat.le_of_ble_eq_true rfl)
  rw [lg_entry_eq]
  generalize (lg_sl ([.ref (a 0), .int p0, .int p1, .int p2]) ++ List.replicate (6 - (lg_sl ([.ref (a 0), .int p0, .int p1, .int p2])).length) Slot.unset).toArray = ls at hl ⊢
  have hl : lv_has ls 6 [(0, .ref (a 0)), (1, .int p0), (2, .int p1), (3, .int p2)] := hl
  refine lv_aload_n hx hb dX11_check_0 rfl (lv_at hl 0 rfl) ?_
  refine lv_iload_n hx hb dX11_check_1 rfl (lv_at hl 1 rfl) ?_
  refine va_csq (W.runV (As := [.int p0]) (rest := []) ⟨hx, hb, hml, hown, hT⟩ (c_X11_homeAt l D cy a i r q p0 hf hg) (cwV 1 hT (gV t_42 t_43 t_44 t_45 t_2) rfl rfl rfl (by decide +kernel) ⟨Nat.le_of_ble_eq_true rfl, Nat.le_of_ble_eq_true rfl⟩) (rP_v hP hK (va_recv hK hP (ci := 11) (q0 := 0) rfl rfl)) rfl rfl hl.1 rfl (lv_room (Nat.le_of_ble_eq_true rfl)) dX11_check_2 ⟨Nat.le_of_ble_eq_true rfl, Nat.le_of_ble_eq_true rfl⟩) (fun r_1 hr_1 => ?_)
  subst hr_1
  refine W.eq (g2 := F0 m 5 ls [.null]) rfl ?_
  refine lv_astoreN (lv' := [(4, .null), (0, .ref (a 0)), (1, .int p0), (2, .int p1), (3, .int p2)]) hx hb dX11_check_5 hl (by decide) rfl (fun ls hl => ?_)
  refine lv_aloadN hx hb dX11_check_7 (lv_at hl 0 rfl) ?_
  refine lv_ifnullN (tgt := 41) hx hb dX11_check_9 (by decide) ?_
  refine lv_bipush (v := (-2)) hx hb dX11_check_41 (by decide) ?_
  subst hQ
  exact W.iret (v := (-2)) hx hb hr (fun t ht hW => ⟨_, rfl, rfl, ht⟩) (fun q hq => absurd hq List.not_mem_nil) dX11_check_43
set_option maxHeartbeats 4000000 in
set_option maxRecDepth 100000 in
theorem c_X11_byKind (l : Launch) (D : va_G) (cy : Nat → ClassId) (a : Nat → Nat) (i : Nat → Int32) (r : Nat → Nat → Int32) (q : Nat → Option Nat) (p0 p1 : Int32) (hf : xZ i) (hg : xZr r) : Met l yX11_byKind (Cond.code yX11_byKind cX11_byKind 6 (some .int) :: gT) { frames := 3, cells := 0, slots := 0, locals := 66 } (va_Pc [.ref (a 0), .int p0, .int p1] (rP D cy (xW cy a i r q (a 20) (a 12)))) (vp_Si (fun z => BR z ((0 ≤ p0.toInt ∧ p0.toInt ≤ 7) ∧ 0 ≤ p1.toInt ∧ p1.toInt ≤ 9999) 0 (-1))) 0 0 (fun _ => False) := by
  refine Met.ofQ (cc := cX11_byKind) (maxL := 6) (ret := (some .int)) (by decide) rfl ?_
  intro p e s m args below meth c s₁ B hml hv Q hQ
  obtain ⟨rfl, hP, hK⟩ := hv
  have hx := B.exec
  have hb := B.bytes
  have hr := B.returns
  have hlocks := B.notSynchronized
  have hT : ∀ w ∈ gT, w.before _ s = true := fun w h => atoms_spec (ws := (Cond.code yX11_byKind cX11_byKind 6 (some .int) :: gT)) B.pre w (List.mem_cons_of_mem _ h)
  have hown : s.vm.findClass RX11 = some m.cls := findClass_of_methodNamed B.named
  have hl := lv_entry ([.ref (a 0), .int p0, .int p1]) (n := 6) (Nat.le_of_ble_eq_true rfl)
  rw [lg_entry_eq]
  generalize (lg_sl ([.ref (a 0), .int p0, .int p1]) ++ List.replicate (6 - (lg_sl ([.ref (a 0), .int p0, .int p1])).length) Slot.unset).toArray = ls at hl ⊢
  have hl : lv_has ls 6 [(0, .ref (a 0)), (1, .int p0), (2, .int p1)] := hl
  refine lv_iload_n hx hb dX11_byKind_0 rfl (lv_at hl 1 rfl) ?_
  refine lv_iconst (v := 0) hx hb dX11_byKind_1 (by decide) ?_
  refine lv_bipush (v := 7) hx hb dX11_byKind_2 (by decide) ?_
  refine vp_callSi (W.runS (As := [.int p0, .int 0, .int 7]) (rest := []) ⟨hx, hb, hml, hown, hT⟩ (c_X11_within l p0 0 7) (va_cwS 3 hT (gS t_1 t_3 t_4 t_2) rfl rfl rfl (by decide +kernel) ⟨Nat.le_of_ble_eq_true rfl, Nat.le_of_ble_eq_true rfl⟩) preT rfl rfl hl.1 rfl (lv_room (Nat.le_of_ble_eq_true rfl)) dX11_byKind_4 ⟨Nat.le_of_ble_eq_true rfl, Nat.le_of_ble_eq_true rfl⟩) (fun r_1 hr_1 => ?_)
  have hr_1 : BR r_1 (0 ≤ p0.toInt ∧ p0.toInt ≤ 7) 1 0 := hr_1
  rcases hr_1 with ⟨rfl, h_2⟩ | ⟨rfl, h_2⟩
  · skip
    refine lv_if_eq (tgt := 17) hx hb dX11_byKind_7 (by decide) (fun c_3 => absurd c_3 (by decide)) (fun c_3 => ?_)
    refine lv_iload_n hx hb dX11_byKind_10 rfl (lv_at hl 2 rfl) ?_
    refine vp_callSi (W.runS (As := [.int p1]) (rest := []) ⟨hx, hb, hml, hown, hT⟩ (c_X11_isDay l p1) (va_cwS 1 hT (gS t_53 t_54 t_55 t_2) rfl rfl rfl (by decide +kernel) ⟨Nat.le_of_ble_eq_true rfl, Nat.le_of_ble_eq_true rfl⟩) preT rfl rfl hl.1 rfl (lv_room (Nat.le_of_ble_eq_true rfl)) dX11_byKind_11 ⟨Nat.le_of_ble_eq_true rfl, Nat.le_of_ble_eq_true rfl⟩) (fun r_4 hr_4 => ?_)
    have hr_4 : BR r_4 (0 ≤ p1.toInt ∧ p1.toInt ≤ 9999) 1 0 := hr_4
    rcases hr_4 with ⟨rfl, h_5⟩ | ⟨rfl, h_5⟩
    · skip
      refine lv_if_ne (tgt := 19) hx hb dX11_byKind_14 (by decide) (fun c_6 => ?_) (fun c_6 => absurd c_6 (by decide))
      refine lv_iconst (v := 0) hx hb dX11_byKind_19 (by decide) ?_
      refine lv_istore_n (lv' := [(3, .int 0), (0, .ref (a 0)), (1, .int p0), (2, .int p1)]) hx hb dX11_byKind_20 rfl hl (by decide) rfl (fun ls hl => ?_)
      refine lv_iconst (v := 0) hx hb dX11_byKind_21 (by decide) ?_
      refine lv_istore (lv' := [(4, .int 0), (3, .int 0), (0, .ref (a 0)), (1, .int p0), (2, .int p1)]) hx hb dX11_byKind_22 hl (by decide) rfl (fun ls hl => ?_)
      refine lv_iload hx hb dX11_byKind_24 (lv_at hl 0 rfl) ?_
      refine lv_aload_n hx hb dX11_byKind_26 rfl (lv_at hl 2 rfl) ?_
      refine va_get (D := D) (ci := 11) (v := .ref (a 29)) (C := RX11) (T := TX11) (N := 14) hx hb hT iX11 hown hK hP 0 rfl rfl 8 (by decide) (hT _ t_40) (fun _ h9 => h9) rfl dX11_byKind_27 ?_
      refine va_get (D := D) (ci := 1) (v := .int 0) (C := RX1) (T := TX1) (N := 12) hx hb hT iX1 hown hK hP 29 rfl rfl 0 (by decide) (hT _ t_41) (fun _ h9 => h9) (congrArg (fun z => some (Value.int z)) (hf.1 10 (by decide) (by decide))) dX11_byKind_30 ?_
      refine lv_icmp_ge (tgt := 101) hx hb dX11_byKind_33 (by decide) (fun c_7 => ?_) (fun c_7 => absurd (by decide) c_7)
      refine lv_iload_n hx hb dX11_byKind_101 rfl (lv_at hl 1 rfl) ?_
      subst hQ
      exact W.iret (v := 0) hx hb hr (fun t ht hW => ⟨_, rfl, Or.inl ⟨rfl, by omega⟩, ht⟩) (fun q hq => absurd hq List.not_mem_nil) dX11_byKind_102
    · skip
      refine lv_if_ne (tgt := 19) hx hb dX11_byKind_14 (by decide) (fun c_8 => absurd (by decide) c_8) (fun c_8 => ?_)
      refine lv_iconst (v := (-1)) hx hb dX11_byKind_17 (by decide) ?_
      subst hQ
      exact W.iret (v := (-1)) hx hb hr (fun t ht hW => ⟨_, rfl, Or.inr ⟨rfl, by omega⟩, ht⟩) (fun q hq => absurd hq List.not_mem_nil) dX11_byKind_18
  · skip
    refine lv_if_eq (tgt := 17) hx hb dX11_byKind_7 (by decide) (fun c_9 => ?_) (fun c_9 => absurd (by decide) c_9)
    refine lv_iconst (v := (-1)) hx hb dX11_byKind_17 (by decide) ?_
    subst hQ
    exact W.iret (v := (-1)) hx hb hr (fun t ht hW => ⟨_, rfl, Or.inr ⟨rfl, by omega⟩, ht⟩) (fun q hq => absurd hq List.not_mem_nil) dX11_byKind_18
set_option maxHeartbeats 4000000 in
set_option maxRecDepth 100000 in
theorem c_X11_wrong (l : Launch) (D : va_G) (cy : Nat → ClassId) (a : Nat → Nat) (i : Nat → Int32) (r : Nat → Nat → Int32) (q : Nat → Option Nat) (p0 : Int32) (hf : xZ i) (hg : xZr r) : Met l yX11_wrong (Cond.code yX11_wrong cX11_wrong 2 (some .int) :: gT) { frames := 2, cells := 0, slots := 0, locals := 46 } (va_Pc [.ref (a 0), .int p0] (rP D cy (xW cy a i r q (a 20) (a 12)))) (vp_Si (fun z => BR z (p0.toInt = -1) 0 (-1))) 0 0 (fun _ => False) := by
  refine Met.ofQ (cc := cX11_wrong) (maxL := 2) (ret := (some .int)) (by decide) rfl ?_
  intro p e s m args below meth c s₁ B hml hv Q hQ
  obtain ⟨rfl, hP, hK⟩ := hv
  have hx := B.exec
  have hb := B.bytes
  have hr := B.returns
  have hlocks := B.notSynchronized
  have hT : ∀ w ∈ gT, w.before _ s = true := fun w h => atoms_spec (ws := (Cond.code yX11_wrong cX11_wrong 2 (some .int) :: gT)) B.pre w (List.mem_cons_of_mem _ h)
  have hown : s.vm.findClass RX11 = some m.cls := findClass_of_methodNamed B.named
  have hl := lv_entry ([.ref (a 0), .int p0]) (n := 2) (Nat.le_of_ble_eq_true rfl)
  rw [lg_entry_eq]
  generalize (lg_sl ([.ref (a 0), .int p0]) ++ List.replicate (2 - (lg_sl ([.ref (a 0), .int p0])).length) Slot.unset).toArray = ls at hl ⊢
  have hl : lv_has ls 2 [(0, .ref (a 0)), (1, .int p0)] := hl
  refine lv_iload_n hx hb dX11_wrong_0 rfl (lv_at hl 1 rfl) ?_
  refine lv_iconst (v := (-1)) hx hb dX11_wrong_1 (by decide) ?_
  refine lv_icmp_ne (tgt := 13) hx hb dX11_wrong_2 (by decide) (fun c_1 => ?_) (fun c_1 => ?_)
  · have c_1 : p0.toInt ≠ (-1) := b_ne c_1
    refine lv_iload_n hx hb dX11_wrong_13 rfl (lv_at hl 1 rfl) ?_
    refine lv_iconst (v := 0) hx hb dX11_wrong_14 (by decide) ?_
    refine lv_aload_n hx hb dX11_wrong_15 rfl (lv_at hl 0 rfl) ?_
    refine va_get (D := D) (ci := 11) (v := .ref (a 58)) (C := RX11) (T := TX11) (N := 14) hx hb hT iX11 hown hK hP 0 rfl rfl 13 (by decide) (hT _ t_56) (fun _ h9 => h9) rfl dX11_wrong_16 ?_
    refine va_get (D := D) (ci := 7) (v := .int 0) (C := RX7) (T := TX7) (N := 4) hx hb hT iX7 hown hK hP 58 rfl rfl 1 (by decide) (hT _ t_57) (fun _ h9 => h9) (congrArg (fun z => some (Value.int z)) (hf.1 16 (by decide) (by decide))) dX11_wrong_19 ?_
    refine lv_iconst (v := 1) hx hb dX11_wrong_22 (by decide) ?_
    refine lv_isub hx hb dX11_wrong_23 ?_
    refine lv_topi (fun v_2 ev_2 => ?_)
    obtain rfl : v_2 = (-1) := ev_2.trans (by decide)
    refine vp_callSi (W.runS (As := [.int p0, .int 0, .int (-1)]) (rest := []) ⟨hx, hb, hml, hown, hT⟩ (c_X11_within l p0 0 (-1)) (va_cwS 3 hT (gS t_1 t_3 t_4 t_2) rfl rfl rfl (by decide +kernel) ⟨Nat.le_of_ble_eq_true rfl, Nat.le_of_ble_eq_true rfl⟩) preT rfl rfl hl.1 rfl (lv_room (Nat.le_of_ble_eq_true rfl)) dX11_wrong_24 ⟨Nat.le_of_ble_eq_true rfl, Nat.le_of_ble_eq_true rfl⟩) (fun r_3 hr_3 => ?_)
    have hr_3 : BR r_3 (0 ≤ p0.toInt ∧ p0.toInt ≤ (-1)) 1 0 := hr_3
    rcases hr_3 with ⟨rfl, h_4⟩ | ⟨rfl, h_4⟩
    · exact absurd h_4 (by omega)
    · skip
      refine lv_if_eq (tgt := 42) hx hb dX11_wrong_27 (by decide) (fun c_5 => ?_) (fun c_5 => absurd (by decide) c_5)
      refine lv_iconst (v := (-1)) hx hb dX11_wrong_42 (by decide) ?_
      subst hQ
      exact W.iret (v := (-1)) hx hb hr (fun t ht hW => ⟨_, rfl, Or.inr ⟨rfl, by omega⟩, ht⟩) (fun q hq => absurd hq List.not_mem_nil) dX11_wrong_43
  · have c_1 : p0.toInt = (-1) := b_nne c_1
    refine lv_aload_n hx hb dX11_wrong_5 rfl (lv_at hl 0 rfl) ?_
    refine va_get (D := D) (ci := 11) (v := .ref (a 58)) (C := RX11) (T := TX11) (N := 14) hx hb hT iX11 hown hK hP 0 rfl rfl 13 (by decide) (hT _ t_56) (fun _ h9 => h9) rfl dX11_wrong_6 ?_
    refine va_get (D := D) (ci := 7) (v := .int 0) (C := RX7) (T := TX7) (N := 4) hx hb hT iX7 hown hK hP 58 rfl rfl 1 (by decide) (hT _ t_57) (fun _ h9 => h9) (congrArg (fun z => some (Value.int z)) (hf.1 16 (by decide) (by decide))) dX11_wrong_9 ?_
    subst hQ
    exact W.iret (v := 0) hx hb hr (fun t ht hW => ⟨_, rfl, Or.inl ⟨rfl, by omega⟩, ht⟩) (fun q hq => absurd hq List.not_mem_nil) dX11_wrong_12
set_option maxHeartbeats 4000000 in
set_option maxRecDepth 100000 in
theorem c_X11_spread (l : Launch) (D : va_G) (cy : Nat → ClassId) (a : Nat → Nat) (i : Nat → Int32) (r : Nat → Nat → Int32) (q : Nat → Option Nat) (p0 p1 : Int32) (hf : xZ i) (hg : xZr r) : Met l yX11_spread (Cond.code yX11_spread cX11_spread 6 (some .int) :: gT) { frames := 2, cells := 0, slots := 0, locals := 46 } (va_Pc [.ref (a 0), .int p0, .int p1] (rP D cy (xW cy a i r q (a 20) (a 12)))) (vp_Si (fun z => z = (-1000000))) 0 0 (fun _ => False) := by
  refine Met.ofQ (cc := cX11_spread) (maxL := 6) (ret := (some .int)) (by decide) rfl ?_
  intro p e s m args below meth c s₁ B hml hv Q hQ
  obtain ⟨rfl, hP, hK⟩ := hv
  have hx := B.exec
  have hb := B.bytes
  have hr := B.returns
  have hlocks := B.notSynchronized
  have hT : ∀ w ∈ gT, w.before _ s = true := fun w h => atoms_spec (ws := (Cond.code yX11_spread cX11_spread 6 (some .int) :: gT)) B.pre w (List.mem_cons_of_mem _ h)
  have hown : s.vm.findClass RX11 = some m.cls := findClass_of_methodNamed B.named
  have hl := lv_entry ([.ref (a 0), .int p0, .int p1]) (n := 6) (Nat.le_of_ble_eq_true rfl)
  rw [lg_entry_eq]
  generalize (lg_sl ([.ref (a 0), .int p0, .int p1]) ++ List.replicate (6 - (lg_sl ([.ref (a 0), .int p0, .int p1])).length) Slot.unset).toArray = ls at hl ⊢
  have hl : lv_has ls 6 [(0, .ref (a 0)), (1, .int p0), (2, .int p1)] := hl
  refine lv_iload_n hx hb dX11_spread_0 rfl (lv_at hl 1 rfl) ?_
  refine lv_iconst (v := 0) hx hb dX11_spread_1 (by decide) ?_
  refine lv_iconst (v := 5) hx hb dX11_spread_2 (by decide) ?_
  refine vp_callSi (W.runS (As := [.int p0, .int 0, .int 5]) (rest := []) ⟨hx, hb, hml, hown, hT⟩ (c_X11_within l p0 0 5) (va_cwS 3 hT (gS t_1 t_3 t_4 t_2) rfl rfl rfl (by decide +kernel) ⟨Nat.le_of_ble_eq_true rfl, Nat.le_of_ble_eq_true rfl⟩) preT rfl rfl hl.1 rfl (lv_room (Nat.le_of_ble_eq_true rfl)) dX11_spread_3 ⟨Nat.le_of_ble_eq_true rfl, Nat.le_of_ble_eq_true rfl⟩) (fun r_1 hr_1 => ?_)
  have hr_1 : BR r_1 (0 ≤ p0.toInt ∧ p0.toInt ≤ 5) 1 0 := hr_1
  rcases hr_1 with ⟨rfl, h_2⟩ | ⟨rfl, h_2⟩
  · skip
    refine lv_if_eq (tgt := 30) hx hb dX11_spread_6 (by decide) (fun c_3 => absurd c_3 (by decide)) (fun c_3 => ?_)
    refine lv_iload_n hx hb dX11_spread_9 rfl (lv_at hl 2 rfl) ?_
    refine lv_iconst (v := 0) hx hb dX11_spread_10 (by decide) ?_
    refine lv_iconst (v := 3) hx hb dX11_spread_11 (by decide) ?_
    refine vp_callSi (W.runS (As := [.int p1, .int 0, .int 3]) (rest := []) ⟨hx, hb, hml, hown, hT⟩ (c_X11_within l p1 0 3) (va_cwS 3 hT (gS t_1 t_3 t_4 t_2) rfl rfl rfl (by decide +kernel) ⟨Nat.le_of_ble_eq_true rfl, Nat.le_of_ble_eq_true rfl⟩) preT rfl rfl hl.1 rfl (lv_room (Nat.le_of_ble_eq_true rfl)) dX11_spread_12 ⟨Nat.le_of_ble_eq_true rfl, Nat.le_of_ble_eq_true rfl⟩) (fun r_4 hr_4 => ?_)
    have hr_4 : BR r_4 (0 ≤ p1.toInt ∧ p1.toInt ≤ 3) 1 0 := hr_4
    rcases hr_4 with ⟨rfl, h_5⟩ | ⟨rfl, h_5⟩
    · skip
      refine lv_if_eq (tgt := 30) hx hb dX11_spread_15 (by decide) (fun c_6 => absurd c_6 (by decide)) (fun c_6 => ?_)
      refine lv_aload_n hx hb dX11_spread_18 rfl (lv_at hl 0 rfl) ?_
      refine va_get (D := D) (ci := 11) (v := .ref (a 54)) (C := RX11) (T := TX11) (N := 14) hx hb hT iX11 hown hK hP 0 rfl rfl 12 (by decide) (hT _ t_58) (fun _ h9 => h9) rfl dX11_spread_19 ?_
      refine va_get (D := D) (ci := 2) (v := .ref (a 55)) (C := RX2) (T := TX2) (N := 4) hx hb hT iX2 hown hK hP 54 rfl rfl 1 (by decide) (hT _ t_59) (fun _ h9 => h9) rfl dX11_spread_22 ?_
      refine lv_iload_n hx hb dX11_spread_25 rfl (lv_at hl 1 rfl) ?_
      refine va_iald hx hb hK hP 55 0 rfl rfl (vp_inI (by omega) (by omega)) dX11_spread_26 ?_
      refine lv_topi (fun v_7 ev_7 => ?_)
      obtain rfl : v_7 = 0 := ev_7.trans (hg.1 _)
      refine lv_if_ne (tgt := 34) hx hb dX11_spread_27 (by decide) (fun c_8 => absurd (by decide) c_8) (fun c_8 => ?_)
      refine lv_ldcw (v := (-1000000)) hx hb hown (hT _ t_60) dX11_spread_30 ?_
      subst hQ
      exact W.iret (v := (-1000000)) hx hb hr (fun t ht hW => ⟨_, rfl, rfl, ht⟩) (fun q hq => absurd hq List.not_mem_nil) dX11_spread_33
    · skip
      refine lv_if_eq (tgt := 30) hx hb dX11_spread_15 (by decide) (fun c_9 => ?_) (fun c_9 => absurd (by decide) c_9)
      refine lv_ldcw (v := (-1000000)) hx hb hown (hT _ t_60) dX11_spread_30 ?_
      subst hQ
      exact W.iret (v := (-1000000)) hx hb hr (fun t ht hW => ⟨_, rfl, rfl, ht⟩) (fun q hq => absurd hq List.not_mem_nil) dX11_spread_33
  · skip
    refine lv_if_eq (tgt := 30) hx hb dX11_spread_6 (by decide) (fun c_10 => ?_) (fun c_10 => absurd (by decide) c_10)
    refine lv_ldcw (v := (-1000000)) hx hb hown (hT _ t_60) dX11_spread_30 ?_
    subst hQ
    exact W.iret (v := (-1000000)) hx hb hr (fun t ht hW => ⟨_, rfl, rfl, ht⟩) (fun q hq => absurd hq List.not_mem_nil) dX11_spread_33
set_option maxHeartbeats 4000000 in
set_option maxRecDepth 100000 in
theorem c_X11_count (l : Launch) (D : va_G) (cy : Nat → ClassId) (a : Nat → Nat) (i : Nat → Int32) (r : Nat → Nat → Int32) (q : Nat → Option Nat) (p0 : Int32) (hf : xZ i) (hg : xZr r) : Met l yX11_count (Cond.code yX11_count cX11_count 3 (some .int) :: gT) { frames := 3, cells := 0, slots := 0, locals := 67 } (va_Pc [.ref (a 0), .int p0] (rP D cy (xW cy a i r q (a 20) (a 12)))) (vp_Si (fun z => (p0.toInt = 6 → z = 1) ∧ (0 ≤ p0.toInt → p0.toInt ≤ 5 → z = 0) ∧ (p0.toInt < 0 ∨ 6 < p0.toInt → z = -1))) 0 0 (fun _ => False) := by
  refine Met.ofQ (cc := cX11_count) (maxL := 3) (ret := (some .int)) (by decide) rfl ?_
  intro p e s m args below meth c s₁ B hml hv Q hQ
  obtain ⟨rfl, hP, hK⟩ := hv
  have hx := B.exec
  have hb := B.bytes
  have hr := B.returns
  have hlocks := B.notSynchronized
  have hT : ∀ w ∈ gT, w.before _ s = true := fun w h => atoms_spec (ws := (Cond.code yX11_count cX11_count 3 (some .int) :: gT)) B.pre w (List.mem_cons_of_mem _ h)
  have hown : s.vm.findClass RX11 = some m.cls := findClass_of_methodNamed B.named
  have hl := lv_entry ([.ref (a 0), .int p0]) (n := 3) (Nat.le_of_ble_eq_true rfl)
  rw [lg_entry_eq]
  generalize (lg_sl ([.ref (a 0), .int p0]) ++ List.replicate (3 - (lg_sl ([.ref (a 0), .int p0])).length) Slot.unset).toArray = ls at hl ⊢
  have hl : lv_has ls 3 [(0, .ref (a 0)), (1, .int p0)] := hl
  refine lv_iload_n hx hb dX11_count_0 rfl (lv_at hl 1 rfl) ?_
  refine lv_bipush (v := 30) hx hb dX11_count_1 (by decide) ?_
  refine lv_icmp_lt (tgt := 34) hx hb dX11_count_3 (by decide) (fun c_1 => ?_) (fun c_1 => ?_)
  · have c_1 : p0.toInt < 30 := b_lt c_1
    refine lv_iload_n hx hb dX11_count_34 rfl (lv_at hl 1 rfl) ?_
    refine lv_bipush (v := 10) hx hb dX11_count_35 (by decide) ?_
    refine lv_icmp_lt (tgt := 79) hx hb dX11_count_37 (by decide) (fun c_2 => ?_) (fun c_2 => ?_)
    · have c_2 : p0.toInt < 10 := b_lt c_2
      refine lv_iload_n hx hb dX11_count_79 rfl (lv_at hl 1 rfl) ?_
      rcases (show (p0.toInt < 0 ∨ 6 < p0.toInt) ∨ p0.toInt = 0 ∨ p0.toInt = 1 ∨ p0.toInt = 2 ∨ p0.toInt = 3 ∨ p0.toInt = 4 ∨ p0.toInt = 5 ∨ p0.toInt = 6 by omega) with h_3 | h_3 | h_3 | h_3 | h_3 | h_3 | h_3 | h_3
      · refine lv_tableOut (tgt := 177) hx hb dX11_count_80 h_3 (by decide) ?_
        refine lv_iconst (v := (-1)) hx hb dX11_count_177 (by decide) ?_
        subst hQ
        exact W.iret (v := (-1)) hx hb hr (fun t ht hW => ⟨_, rfl, ⟨fun _ => by first | rfl | omega, fun _ _ => by first | rfl | omega, fun _ => by first | rfl | omega⟩, ht⟩) (fun q hq => absurd hq List.not_mem_nil) dX11_count_178
      · refine lv_tableIn (off := 44) (tgt := 124) hx hb dX11_count_80 (by omega) (by omega) (by rw [h_3]; rfl) (by decide) ?_
        refine lv_aload_n hx hb dX11_count_124 rfl (lv_at hl 0 rfl) ?_
        refine va_get (D := D) (ci := 11) (v := .int 0) (C := RX11) (T := TX11) (N := 14) hx hb hT iX11 hown hK hP 0 rfl rfl 2 (by decide) (hT _ t_39) (fun _ h9 => h9) (congrArg (fun z => some (Value.int z)) (hf.1 0 (by decide) (by decide))) dX11_count_125 ?_
        subst hQ
        exact W.iret (v := 0) hx hb hr (fun t ht hW => ⟨_, rfl, ⟨fun _ => by first | rfl | omega, fun _ _ => by first | rfl | omega, fun _ => by first | rfl | omega⟩, ht⟩) (fun q hq => absurd hq List.not_mem_nil) dX11_count_128
      · refine lv_tableIn (off := 49) (tgt := 129) hx hb dX11_count_80 (by omega) (by omega) (by rw [h_3]; rfl) (by decide) ?_
        refine lv_aload_n hx hb dX11_count_129 rfl (lv_at hl 0 rfl) ?_
        refine va_get (D := D) (ci := 11) (v := .ref (a 29)) (C := RX11) (T := TX11) (N := 14) hx hb hT iX11 hown hK hP 0 rfl rfl 8 (by decide) (hT _ t_40) (fun _ h9 => h9) rfl dX11_count_130 ?_
        refine va_get (D := D) (ci := 1) (v := .int 0) (C := RX1) (T := TX1) (N := 12) hx hb hT iX1 hown hK hP 29 rfl rfl 0 (by decide) (hT _ t_41) (fun _ h9 => h9) (congrArg (fun z => some (Value.int z)) (hf.1 10 (by decide) (by decide))) dX11_count_133 ?_
        subst hQ
        exact W.iret (v := 0) hx hb hr (fun t ht hW => ⟨_, rfl, ⟨fun _ => by first | rfl | omega, fun _ _ => by first | rfl | omega, fun _ => by first | rfl | omega⟩, ht⟩) (fun q hq => absurd hq List.not_mem_nil) dX11_count_136
      · refine lv_tableIn (off := 57) (tgt := 137) hx hb dX11_count_80 (by omega) (by omega) (by rw [h_3]; rfl) (by decide) ?_
        refine lv_aload_n hx hb dX11_count_137 rfl (lv_at hl 0 rfl) ?_
        refine va_get (D := D) (ci := 11) (v := .ref (a 20)) (C := RX11) (T := TX11) (N := 14) hx hb hT iX11 hown hK hP 0 rfl rfl 6 (by decide) (hT _ t_61) (fun _ h9 => h9) rfl dX11_count_138 ?_
        refine va_get (D := D) (ci := 5) (v := .int 0) (C := RX5) (T := TX5) (N := 9) hx hb hT iX5 hown hK hP 20 rfl rfl 0 (by decide) (hT _ t_62) (fun _ h9 => h9) (congrArg (fun z => some (Value.int z)) (hf.1 8 (by decide) (by decide))) dX11_count_141 ?_
        subst hQ
        exact W.iret (v := 0) hx hb hr (fun t ht hW => ⟨_, rfl, ⟨fun _ => by first | rfl | omega, fun _ _ => by first | rfl | omega, fun _ => by first | rfl | omega⟩, ht⟩) (fun q hq => absurd hq List.not_mem_nil) dX11_count_144
      · refine lv_tableIn (off := 65) (tgt := 145) hx hb dX11_count_80 (by omega) (by omega) (by rw [h_3]; rfl) (by decide) ?_
        refine lv_aload_n hx hb dX11_count_145 rfl (lv_at hl 0 rfl) ?_
        refine va_get (D := D) (ci := 11) (v := .ref (a 8)) (C := RX11) (T := TX11) (N := 14) hx hb hT iX11 hown hK hP 0 rfl rfl 4 (by decide) (hT _ t_46) (fun _ h9 => h9) rfl dX11_count_146 ?_
        refine va_get (D := D) (ci := 9) (v := .int 0) (C := RX9) (T := TX9) (N := 2) hx hb hT iX9 hown hK hP 8 rfl rfl 1 (by decide) (hT _ t_47) (fun _ h9 => h9) (congrArg (fun z => some (Value.int z)) (hf.1 2 (by decide) (by decide))) dX11_count_149 ?_
        subst hQ
        exact W.iret (v := 0) hx hb hr (fun t ht hW => ⟨_, rfl, ⟨fun _ => by first | rfl | omega, fun _ _ => by first | rfl | omega, fun _ => by first | rfl | omega⟩, ht⟩) (fun q hq => absurd hq List.not_mem_nil) dX11_count_152
      · refine lv_tableIn (off := 73) (tgt := 153) hx hb dX11_count_80 (by omega) (by omega) (by rw [h_3]; rfl) (by decide) ?_
        refine lv_aload_n hx hb dX11_count_153 rfl (lv_at hl 0 rfl) ?_
        refine va_get (D := D) (ci := 11) (v := .ref (a 54)) (C := RX11) (T := TX11) (N := 14) hx hb hT iX11 hown hK hP 0 rfl rfl 12 (by decide) (hT _ t_58) (fun _ h9 => h9) rfl dX11_count_154 ?_
        refine va_get (D := D) (ci := 2) (v := .int 0) (C := RX2) (T := TX2) (N := 4) hx hb hT iX2 hown hK hP 54 rfl rfl 0 (by decide) (hT _ t_63) (fun _ h9 => h9) (congrArg (fun z => some (Value.int z)) (hf.1 14 (by decide) (by decide))) dX11_count_157 ?_
        subst hQ
        exact W.iret (v := 0) hx hb hr (fun t ht hW => ⟨_, rfl, ⟨fun _ => by first | rfl | omega, fun _ _ => by first | rfl | omega, fun _ => by first | rfl | omega⟩, ht⟩) (fun q hq => absurd hq List.not_mem_nil) dX11_count_160
      · refine lv_tableIn (off := 81) (tgt := 161) hx hb dX11_count_80 (by omega) (by omega) (by rw [h_3]; rfl) (by decide) ?_
        refine lv_aload_n hx hb dX11_count_161 rfl (lv_at hl 0 rfl) ?_
        refine va_get (D := D) (ci := 11) (v := .ref (a 58)) (C := RX11) (T := TX11) (N := 14) hx hb hT iX11 hown hK hP 0 rfl rfl 13 (by decide) (hT _ t_56) (fun _ h9 => h9) rfl dX11_count_162 ?_
        refine va_get (D := D) (ci := 7) (v := .int 0) (C := RX7) (T := TX7) (N := 4) hx hb hT iX7 hown hK hP 58 rfl rfl 0 (by decide) (hT _ t_64) (fun _ h9 => h9) (congrArg (fun z => some (Value.int z)) (hf.1 15 (by decide) (by decide))) dX11_count_165 ?_
        subst hQ
        exact W.iret (v := 0) hx hb hr (fun t ht hW => ⟨_, rfl, ⟨fun _ => by first | rfl | omega, fun _ _ => by first | rfl | omega, fun _ => by first | rfl | omega⟩, ht⟩) (fun q hq => absurd hq List.not_mem_nil) dX11_count_168
      · refine lv_tableIn (off := 89) (tgt := 169) hx hb dX11_count_80 (by omega) (by omega) (by rw [h_3]; rfl) (by decide) ?_
        refine lv_aload_n hx hb dX11_count_169 rfl (lv_at hl 0 rfl) ?_
        refine va_get (D := D) (ci := 11) (v := .ref (a 29)) (C := RX11) (T := TX11) (N := 14) hx hb hT iX11 hown hK hP 0 rfl rfl 8 (by decide) (hT _ t_40) (fun _ h9 => h9) rfl dX11_count_170 ?_
        refine va_get (D := D) (ci := 1) (v := .int 1) (C := RX1) (T := TX1) (N := 12) hx hb hT iX1 hown hK hP 29 rfl rfl 11 (by decide) (hT _ t_65) (fun _ h9 => h9) (congrArg (fun z => some (Value.int z)) (hf.2.1)) dX11_count_173 ?_
        subst hQ
        exact W.iret (v := 1) hx hb hr (fun t ht hW => ⟨_, rfl, ⟨fun _ => by first | rfl | omega, fun _ _ => by first | rfl | omega, fun _ => by first | rfl | omega⟩, ht⟩) (fun q hq => absurd hq List.not_mem_nil) dX11_count_176
    · have c_2 : 10 ≤ p0.toInt := b_nlt c_2
      refine lv_aload_n hx hb dX11_count_40 rfl (lv_at hl 0 rfl) ?_
      refine lv_iload_n hx hb dX11_count_41 rfl (lv_at hl 1 rfl) ?_
      refine lv_bipush (v := 10) hx hb dX11_count_42 (by decide) ?_
      refine lv_irem hx hb dX11_count_44 (by decide) ?_
      refine lv_topi (fun v_4 ev_4 => ?_)
      refine va_csq (W.runV (As := [.int v_4]) (rest := []) ⟨hx, hb, hml, hown, hT⟩ (c_X11_homeAt l D cy a i r q v_4 hf hg) (cwV 1 hT (gV t_42 t_43 t_44 t_45 t_2) rfl rfl rfl (by decide +kernel) ⟨Nat.le_of_ble_eq_true rfl, Nat.le_of_ble_eq_true rfl⟩) (rP_v hP hK (va_recv hK hP (ci := 11) (q0 := 0) rfl rfl)) rfl rfl hl.1 rfl (lv_room (Nat.le_of_ble_eq_true rfl)) dX11_count_45 ⟨Nat.le_of_ble_eq_true rfl, Nat.le_of_ble_eq_true rfl⟩) (fun r_5 hr_5 => ?_)
      subst hr_5
      refine W.eq (g2 := F0 m 48 ls [.null]) rfl ?_
      refine lv_astore_nN (lv' := [(2, .null), (0, .ref (a 0)), (1, .int p0)]) hx hb dX11_count_48 rfl hl (by decide) rfl (fun ls hl => ?_)
      refine lv_aload_nN hx hb dX11_count_49 rfl (lv_at hl 0 rfl) ?_
      refine lv_ifnonnullN hx hb dX11_count_50 ?_
      refine lv_iconst (v := (-1)) hx hb dX11_count_53 (by decide) ?_
      subst hQ
      exact W.iret (v := (-1)) hx hb hr (fun t ht hW => ⟨_, rfl, ⟨fun _ => by first | rfl | omega, fun _ _ => by first | rfl | omega, fun _ => by first | rfl | omega⟩, ht⟩) (fun q hq => absurd hq List.not_mem_nil) dX11_count_54
  · have c_1 : 30 ≤ p0.toInt := b_nlt c_1
    refine lv_aload_n hx hb dX11_count_6 rfl (lv_at hl 0 rfl) ?_
    refine lv_iload_n hx hb dX11_count_7 rfl (lv_at hl 1 rfl) ?_
    refine lv_bipush (v := 30) hx hb dX11_count_8 (by decide) ?_
    refine lv_isub hx hb dX11_count_10 ?_
    refine lv_topi (fun v_6 ev_6 => ?_)
    have hv_6 : v_6.toInt = p0.toInt - 30 := by rw [ev_6]; have := b_rg p0; exact i_sub (a := p0.toInt) (b := 30) rfl rfl (by omega) (by omega)
    refine vp_callSi (W.runV (As := [.int v_6]) (rest := []) ⟨hx, hb, hml, hown, hT⟩ (c_X11_isClaim l D cy a i r q v_6 hf hg) (cwV 1 hT (gV t_48 t_49 t_50 t_51 t_2) rfl rfl rfl (by decide +kernel) ⟨Nat.le_of_ble_eq_true rfl, Nat.le_of_ble_eq_true rfl⟩) (rP_v hP hK (va_recv hK hP (ci := 11) (q0 := 0) rfl rfl)) rfl rfl hl.1 rfl (lv_room (Nat.le_of_ble_eq_true rfl)) dX11_count_11 ⟨Nat.le_of_ble_eq_true rfl, Nat.le_of_ble_eq_true rfl⟩) (fun r_7 hr_7 => ?_)
    subst hr_7
    refine lv_if_eq (tgt := 32) hx hb dX11_count_14 (by decide) (fun c_8 => ?_) (fun c_8 => absurd (by decide) c_8)
    refine lv_iconst (v := (-1)) hx hb dX11_count_32 (by decide) ?_
    subst hQ
    exact W.iret (v := (-1)) hx hb hr (fun t ht hW => ⟨_, rfl, ⟨fun _ => by first | rfl | omega, fun _ _ => by first | rfl | omega, fun _ => by first | rfl | omega⟩, ht⟩) (fun q hq => absurd hq List.not_mem_nil) dX11_count_33
set_option maxHeartbeats 4000000 in
set_option maxRecDepth 100000 in
theorem c_X7_gap (l : Launch) (D : va_G) (cy : Nat → ClassId) (h0 h1 h2 : Nat) (f0 f1 : Int32) (g : Nat → Int32) (p0 p1 : Int32) (q0 : 0 ≤ p0.toInt ∧ p0.toInt ≤ 10) (q1 : 0 ≤ p1.toInt ∧ p1.toInt ≤ 10) : Met l yX7_gap (Cond.code yX7_gap cX7_gap 3 (some .int) :: gT) { frames := 1, cells := 0, slots := 0, locals := 24 } (va_Pc [.ref h0, .int p0, .int p1] (rP D cy [(h0, .inr (7, [.int f0, .int f1, .ref h1, .ref h2])), (h2, .inl (cy 0, 121, .inl g))])) (vp_Si (fun z => z = g ((p0.toInt * 11 + p1.toInt).toNat))) 0 0 (fun _ => False) := by
  refine Met.ofQ (cc := cX7_gap) (maxL := 3) (ret := (some .int)) (by decide) rfl ?_
  intro p e s m args below meth c s₁ B hml hv Q hQ
  obtain ⟨rfl, hP, hK⟩ := hv
  have hx := B.exec
  have hb := B.bytes
  have hr := B.returns
  have hlocks := B.notSynchronized
  have hT : ∀ w ∈ gT, w.before _ s = true := fun w h => atoms_spec (ws := (Cond.code yX7_gap cX7_gap 3 (some .int) :: gT)) B.pre w (List.mem_cons_of_mem _ h)
  have hown : s.vm.findClass RX7 = some m.cls := findClass_of_methodNamed B.named
  have hl := lv_entry ([.ref h0, .int p0, .int p1]) (n := 3) (Nat.le_of_ble_eq_true rfl)
  rw [lg_entry_eq]
  generalize (lg_sl ([.ref h0, .int p0, .int p1]) ++ List.replicate (3 - (lg_sl ([.ref h0, .int p0, .int p1])).length) Slot.unset).toArray = ls at hl ⊢
  have hl : lv_has ls 3 [(0, .ref h0), (1, .int p0), (2, .int p1)] := hl
  refine lv_aload_n hx hb dX7_gap_0 rfl (lv_at hl 0 rfl) ?_
  refine va_get (D := D) (ci := 7) (v := .ref h2) (C := RX7) (T := TX7) (N := 4) hx hb hT iX7 hown hK hP 0 rfl rfl 3 (by decide) (hT _ t_66) (fun _ h9 => h9) rfl dX7_gap_1 ?_
  refine lv_iload_n hx hb dX7_gap_4 rfl (lv_at hl 1 rfl) ?_
  refine lv_bipush (v := 11) hx hb dX7_gap_5 (by decide) ?_
  refine lv_imul hx hb dX7_gap_7 ?_
  refine lv_topi (fun v_1 ev_1 => ?_)
  have hv_1 : v_1.toInt = p0.toInt * 11 := by rw [ev_1]; have := b_rg p0; exact i_mul (a := p0.toInt) (b := 11) rfl rfl (by omega) (by omega)
  refine lv_iload_n hx hb dX7_gap_8 rfl (lv_at hl 2 rfl) ?_
  refine lv_iadd hx hb dX7_gap_9 ?_
  refine lv_topi (fun v_2 ev_2 => ?_)
  have hv_2 : v_2.toInt = v_1.toInt + p1.toInt := by rw [ev_2]; have := b_rg v_1; have := b_rg p1; exact i_add (a := v_1.toInt) (b := p1.toInt) rfl rfl (by omega) (by omega)
  refine va_iald hx hb hK hP 1 0 rfl rfl (vp_inI (by omega) (by omega)) dX7_gap_10 ?_
  refine lv_topi (fun v_3 ev_3 => ?_)
  subst hQ
  exact W.iret (v := v_3) hx hb hr (fun t ht hW => ⟨_, rfl, by rw [ev_3]; exact congrArg g (by show v_2.toInt.toNat = _; rw [hv_2, hv_1]), ht⟩) (fun q hq => absurd hq List.not_mem_nil) dX7_gap_11
set_option maxHeartbeats 4000000 in
set_option maxRecDepth 100000 in
theorem c_X11_dated (l : Launch) (D : va_G) (cy : Nat → ClassId) (a : Nat → Nat) (i : Nat → Int32) (r : Nat → Nat → Int32) (q : Nat → Option Nat) (p0 p1 : Int32) (hf : xZ i) (hg : xZr r) : Met l yX11_dated (Cond.code yX11_dated cX11_dated 4 (some .int) :: gT) { frames := 2, cells := 0, slots := 0, locals := 46 } (va_Pc [.ref (a 0), .int p0, .int p1] (rP D cy (xW cy a i r q (a 20) (a 12)))) (vp_Si (fun z => z = (-100000))) 0 0 (fun _ => False) := by
  refine Met.ofQ (cc := cX11_dated) (maxL := 4) (ret := (some .int)) (by decide) rfl ?_
  intro p e s m args below meth c s₁ B hml hv Q hQ
  obtain ⟨rfl, hP, hK⟩ := hv
  have hx := B.exec
  have hb := B.bytes
  have hr := B.returns
  have hlocks := B.notSynchronized
  have hT : ∀ w ∈ gT, w.before _ s = true := fun w h => atoms_spec (ws := (Cond.code yX11_dated cX11_dated 4 (some .int) :: gT)) B.pre w (List.mem_cons_of_mem _ h)
  have hown : s.vm.findClass RX11 = some m.cls := findClass_of_methodNamed B.named
  have hl := lv_entry ([.ref (a 0), .int p0, .int p1]) (n := 4) (Nat.le_of_ble_eq_true rfl)
  rw [lg_entry_eq]
  generalize (lg_sl ([.ref (a 0), .int p0, .int p1]) ++ List.replicate (4 - (lg_sl ([.ref (a 0), .int p0, .int p1])).length) Slot.unset).toArray = ls at hl ⊢
  have hl : lv_has ls 4 [(0, .ref (a 0)), (1, .int p0), (2, .int p1)] := hl
  refine lv_iload_n hx hb dX11_dated_0 rfl (lv_at hl 1 rfl) ?_
  refine lv_iconst (v := 0) hx hb dX11_dated_1 (by decide) ?_
  refine lv_bipush (v := 9) hx hb dX11_dated_2 (by decide) ?_
  refine vp_callSi (W.runS (As := [.int p0, .int 0, .int 9]) (rest := []) ⟨hx, hb, hml, hown, hT⟩ (c_X11_within l p0 0 9) (va_cwS 3 hT (gS t_1 t_3 t_4 t_2) rfl rfl rfl (by decide +kernel) ⟨Nat.le_of_ble_eq_true rfl, Nat.le_of_ble_eq_true rfl⟩) preT rfl rfl hl.1 rfl (lv_room (Nat.le_of_ble_eq_true rfl)) dX11_dated_4 ⟨Nat.le_of_ble_eq_true rfl, Nat.le_of_ble_eq_true rfl⟩) (fun r_1 hr_1 => ?_)
  have hr_1 : BR r_1 (0 ≤ p0.toInt ∧ p0.toInt ≤ 9) 1 0 := hr_1
  rcases hr_1 with ⟨rfl, h_2⟩ | ⟨rfl, h_2⟩
  · skip
    refine lv_if_eq (tgt := 19) hx hb dX11_dated_7 (by decide) (fun c_3 => absurd c_3 (by decide)) (fun c_3 => ?_)
    refine lv_iload_n hx hb dX11_dated_10 rfl (lv_at hl 2 rfl) ?_
    refine lv_iconst (v := 0) hx hb dX11_dated_11 (by decide) ?_
    refine lv_iconst (v := 1) hx hb dX11_dated_12 (by decide) ?_
    refine vp_callSi (W.runS (As := [.int p1, .int 0, .int 1]) (rest := []) ⟨hx, hb, hml, hown, hT⟩ (c_X11_within l p1 0 1) (va_cwS 3 hT (gS t_1 t_3 t_4 t_2) rfl rfl rfl (by decide +kernel) ⟨Nat.le_of_ble_eq_true rfl, Nat.le_of_ble_eq_true rfl⟩) preT rfl rfl hl.1 rfl (lv_room (Nat.le_of_ble_eq_true rfl)) dX11_dated_13 ⟨Nat.le_of_ble_eq_true rfl, Nat.le_of_ble_eq_true rfl⟩) (fun r_4 hr_4 => ?_)
    have hr_4 : BR r_4 (0 ≤ p1.toInt ∧ p1.toInt ≤ 1) 1 0 := hr_4
    rcases hr_4 with ⟨rfl, h_5⟩ | ⟨rfl, h_5⟩
    · skip
      refine lv_if_ne (tgt := 23) hx hb dX11_dated_16 (by decide) (fun c_6 => ?_) (fun c_6 => absurd c_6 (by decide))
      refine lv_iload_n hx hb dX11_dated_23 rfl (lv_at hl 2 rfl) ?_
      refine lv_if_ne (tgt := 40) hx hb dX11_dated_24 (by decide) (fun c_7 => ?_) (fun c_7 => ?_)
      · have c_7 : p1.toInt ≠ 0 := b_ne c_7
        refine lv_aload_n hx hb dX11_dated_40 rfl (lv_at hl 0 rfl) ?_
        refine va_get (D := D) (ci := 11) (v := .ref (a 58)) (C := RX11) (T := TX11) (N := 14) hx hb hT iX11 hown hK hP 0 rfl rfl 13 (by decide) (hT _ t_56) (fun _ h9 => h9) rfl dX11_dated_41 ?_
        refine lv_iload_n hx hb dX11_dated_44 rfl (lv_at hl 1 rfl) ?_
        refine lv_bipush (v := 10) hx hb dX11_dated_45 (by decide) ?_
        have hP_8 := hP.sub (ws' := [(a 58, .inr (7, [.int (i 15), .int (i 16), .ref (a 59), .ref (a 60)])), (a 60, .inl (cy 0, 121, .inl (r 60)))]) [58, 60] rfl
        refine vp_callSi (W.runV (As := [.int p0, .int 10]) (rest := []) ⟨hx, hb, hml, hown, hT⟩ (c_X7_gap l D cy (a 58) (a 59) (a 60) (i 15) (i 16) (r 60) p0 10 (by first | omega | decide) (by first | omega | decide)) (cwV 2 hT (gV t_67 t_69 t_70 t_71 t_68) rfl rfl rfl (by decide +kernel) ⟨Nat.le_of_ble_eq_true rfl, Nat.le_of_ble_eq_true rfl⟩) (rP_v hP_8 hK (va_recv hK hP_8 (ci := 7) (q0 := 0) rfl rfl)) rfl rfl hl.1 rfl (lv_room (Nat.le_of_ble_eq_true rfl)) dX11_dated_47 ⟨Nat.le_of_ble_eq_true rfl, Nat.le_of_ble_eq_true rfl⟩) (fun r_9 hr_9 => ?_)
        obtain rfl : r_9 = (-1000000) := by rw [hr_9]; exact (hg.2 _ (by show (p0.toInt * 11 + (10 : Int32).toInt).toNat < 121; have : (10 : Int32).toInt = 10 := rfl; omega)).trans (if_neg (by have : (10 : Int32).toInt = 10 := rfl; omega))
        refine lv_istore_n (lv' := [(3, .int (-1000000)), (0, .ref (a 0)), (1, .int p0), (2, .int p1)]) hx hb dX11_dated_50 rfl hl (by decide) rfl (fun ls hl => ?_)
        refine lv_iload_n hx hb dX11_dated_51 rfl (lv_at hl 0 rfl) ?_
        refine lv_ldcw (v := (-1000000)) hx hb hown (hT _ t_60) dX11_dated_52 ?_
        refine lv_icmp_ne (tgt := 62) hx hb dX11_dated_55 (by decide) (fun c_10 => absurd (by decide) c_10) (fun c_10 => ?_)
        refine lv_ldcw (v := (-100000)) hx hb hown (hT _ t_72) dX11_dated_58 ?_
        subst hQ
        exact W.iret (v := (-100000)) hx hb hr (fun t ht hW => ⟨_, rfl, rfl, ht⟩) (fun q hq => absurd hq List.not_mem_nil) dX11_dated_61
      · have c_7 : p1.toInt = 0 := b_nne c_7
        refine lv_aload_n hx hb dX11_dated_27 rfl (lv_at hl 0 rfl) ?_
        refine va_get (D := D) (ci := 11) (v := .ref (a 58)) (C := RX11) (T := TX11) (N := 14) hx hb hT iX11 hown hK hP 0 rfl rfl 13 (by decide) (hT _ t_56) (fun _ h9 => h9) rfl dX11_dated_28 ?_
        refine lv_bipush (v := 10) hx hb dX11_dated_31 (by decide) ?_
        refine lv_iload_n hx hb dX11_dated_33 rfl (lv_at hl 1 rfl) ?_
        have hP_11 := hP.sub (ws' := [(a 58, .inr (7, [.int (i 15), .int (i 16), .ref (a 59), .ref (a 60)])), (a 60, .inl (cy 0, 121, .inl (r 60)))]) [58, 60] rfl
        refine vp_callSi (W.runV (As := [.int 10, .int p0]) (rest := []) ⟨hx, hb, hml, hown, hT⟩ (c_X7_gap l D cy (a 58) (a 59) (a 60) (i 15) (i 16) (r 60) 10 p0 (by first | omega | decide) (by first | omega | decide)) (cwV 2 hT (gV t_67 t_69 t_70 t_71 t_68) rfl rfl rfl (by decide +kernel) ⟨Nat.le_of_ble_eq_true rfl, Nat.le_of_ble_eq_true rfl⟩) (rP_v hP_11 hK (va_recv hK hP_11 (ci := 7) (q0 := 0) rfl rfl)) rfl rfl hl.1 rfl (lv_room (Nat.le_of_ble_eq_true rfl)) dX11_dated_34 ⟨Nat.le_of_ble_eq_true rfl, Nat.le_of_ble_eq_true rfl⟩) (fun r_12 hr_12 => ?_)
        obtain rfl : r_12 = (-1000000) := by rw [hr_12]; exact (hg.2 _ (by show ((10 : Int32).toInt * 11 + p0.toInt).toNat < 121; have : (10 : Int32).toInt = 10 := rfl; omega)).trans (if_neg (by have : (10 : Int32).toInt = 10 := rfl; omega))
        refine lv_goto (tgt := 50) hx hb dX11_dated_37 (by decide) ?_
        refine lv_istore_n (lv' := [(3, .int (-1000000)), (0, .ref (a 0)), (1, .int p0), (2, .int p1)]) hx hb dX11_dated_50 rfl hl (by decide) rfl (fun ls hl => ?_)
        refine lv_iload_n hx hb dX11_dated_51 rfl (lv_at hl 0 rfl) ?_
        refine lv_ldcw (v := (-1000000)) hx hb hown (hT _ t_60) dX11_dated_52 ?_
        refine lv_icmp_ne (tgt := 62) hx hb dX11_dated_55 (by decide) (fun c_13 => absurd (by decide) c_13) (fun c_13 => ?_)
        refine lv_ldcw (v := (-100000)) hx hb hown (hT _ t_72) dX11_dated_58 ?_
        subst hQ
        exact W.iret (v := (-100000)) hx hb hr (fun t ht hW => ⟨_, rfl, rfl, ht⟩) (fun q hq => absurd hq List.not_mem_nil) dX11_dated_61
    · skip
      refine lv_if_ne (tgt := 23) hx hb dX11_dated_16 (by decide) (fun c_14 => absurd (by decide) c_14) (fun c_14 => ?_)
      refine lv_ldcw (v := (-100000)) hx hb hown (hT _ t_72) dX11_dated_19 ?_
      subst hQ
      exact W.iret (v := (-100000)) hx hb hr (fun t ht hW => ⟨_, rfl, rfl, ht⟩) (fun q hq => absurd hq List.not_mem_nil) dX11_dated_22
  · skip
    refine lv_if_eq (tgt := 19) hx hb dX11_dated_7 (by decide) (fun c_15 => ?_) (fun c_15 => absurd (by decide) c_15)
    refine lv_ldcw (v := (-100000)) hx hb hown (hT _ t_72) dX11_dated_19 ?_
    subst hQ
    exact W.iret (v := (-100000)) hx hb hr (fun t ht hW => ⟨_, rfl, rfl, ht⟩) (fun q hq => absurd hq List.not_mem_nil) dX11_dated_22
