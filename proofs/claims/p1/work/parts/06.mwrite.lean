theorem t_73 : Cond.fieldLink RX12 7 "DepositJudgeModel" "lifeOf" "[I" ∈ gT := tm (List.mem_of_getElem? (i := 919) (by decide +kernel)) (by decide +kernel)
theorem t_74 : Cond.constant RX12 245 (99999) ∈ gT := tm (List.mem_of_getElem? (i := 1206) (by decide +kernel)) (by decide +kernel)
theorem t_75 : Cond.fieldLink RX12 13 "DepositJudgeModel" "priceOf" "[I" ∈ gT := tm (List.mem_of_getElem? (i := 920) (by decide +kernel)) (by decide +kernel)
theorem t_76 : Cond.code yX12_isPence cX12_isPence 1 (some .boolean) ∈ gT := tm (List.mem_of_getElem? (i := 1213) (by decide +kernel)) (by decide +kernel)
theorem t_77 : Cond.methodLink RX12 246 yX12_isPence ∈ gT := tm (List.mem_of_getElem? (i := 1211) (by decide +kernel)) (by decide +kernel)
theorem t_78 : Cond.static yX12_isPence ∈ gT := tm (List.mem_of_getElem? (i := 1212) (by decide +kernel)) (by decide +kernel)
theorem t_79 : Cond.fieldLink RX12 16 "DepositJudgeModel" "regionOf" "[I" ∈ gT := tm (List.mem_of_getElem? (i := 921) (by decide +kernel)) (by decide +kernel)
theorem t_80 : Cond.fieldLink RX12 19 "DepositJudgeModel" "tenantsOf" "[I" ∈ gT := tm (List.mem_of_getElem? (i := 922) (by decide +kernel)) (by decide +kernel)
theorem t_81 : Cond.fieldLink RX12 22 "DepositJudgeModel" "depositOf" "[I" ∈ gT := tm (List.mem_of_getElem? (i := 923) (by decide +kernel)) (by decide +kernel)
theorem t_82 : Cond.fieldLink RX12 25 "DepositJudgeModel" "fromOf" "[I" ∈ gT := tm (List.mem_of_getElem? (i := 924) (by decide +kernel)) (by decide +kernel)
theorem t_83 : Cond.fieldLink RX12 28 "DepositJudgeModel" "toOf" "[I" ∈ gT := tm (List.mem_of_getElem? (i := 925) (by decide +kernel)) (by decide +kernel)
theorem t_84 : Cond.fieldLink RX12 64 "DepositJudgeModel" "wasKept" "[Z" ∈ gT := tm (List.mem_of_getElem? (i := 937) (by decide +kernel)) (by decide +kernel)
theorem t_85 : Cond.fieldLink RX12 31 "DepositJudgeModel" "partOf" "[I" ∈ gT := tm (List.mem_of_getElem? (i := 926) (by decide +kernel)) (by decide +kernel)
theorem t_86 : Cond.constant RX12 468 (65535) ∈ gT := tm (List.mem_of_getElem? (i := 1507) (by decide +kernel)) (by decide +kernel)
theorem t_87 : Cond.fieldLink RX12 166 "DepositJudgeModel" "doubleA" "[I" ∈ gT := tm (List.mem_of_getElem? (i := 983) (by decide +kernel)) (by decide +kernel)
theorem t_88 : Cond.fieldLink RX12 169 "DepositJudgeModel" "doubleB" "[I" ∈ gT := tm (List.mem_of_getElem? (i := 984) (by decide +kernel)) (by decide +kernel)
theorem t_89 : Cond.fieldLink RX12 172 "DepositJudgeModel" "doubleByA" "[I" ∈ gT := tm (List.mem_of_getElem? (i := 985) (by decide +kernel)) (by decide +kernel)
theorem t_90 : Cond.fieldLink RX12 175 "DepositJudgeModel" "doubleByB" "[I" ∈ gT := tm (List.mem_of_getElem? (i := 986) (by decide +kernel)) (by decide +kernel)
theorem t_91 : Cond.fieldLink RX12 184 "DepositJudgeModel" "factA" "[I" ∈ gT := tm (List.mem_of_getElem? (i := 990) (by decide +kernel)) (by decide +kernel)
theorem t_92 : Cond.fieldLink RX12 187 "DepositJudgeModel" "factB" "[I" ∈ gT := tm (List.mem_of_getElem? (i := 991) (by decide +kernel)) (by decide +kernel)
theorem t_93 : Cond.fieldLink RX12 190 "DepositJudgeModel" "factDays" "[I" ∈ gT := tm (List.mem_of_getElem? (i := 992) (by decide +kernel)) (by decide +kernel)
theorem t_94 : Cond.fieldLink RX12 68 "DepositJudgeModel" "tape" "[B" ∈ gT := tm (List.mem_of_getElem? (i := 938) (by decide +kernel)) (by decide +kernel)
theorem t_95 : Cond.code yX12_types cX12_types 3 none ∈ gT := tm (List.mem_of_getElem? (i := 1245) (by decide +kernel)) (by decide +kernel)
theorem t_96 : Cond.methodLink RX12 258 yX12_types ∈ gT := tm (List.mem_of_getElem? (i := 1242) (by decide +kernel)) (by decide +kernel)
theorem t_97 : Cond.instanceMethod yX12_types ∈ gT := tm (List.mem_of_getElem? (i := 1244) (by decide +kernel)) (by decide +kernel)
theorem t_98 : Cond.selects RX12 yX12_types yX12_types ∈ gT := tmp (List.mem_of_getElem? (i := 33) (by decide +kernel)) (by decide +kernel)
theorem t_99 : Cond.fieldLink RX12 193 "DepositJudgeModel" "behind" "[I" ∈ gT := tm (List.mem_of_getElem? (i := 993) (by decide +kernel)) (by decide +kernel)
theorem t_100 : Cond.constant RX12 489 (-1000000000) ∈ gT := tm (List.mem_of_getElem? (i := 1553) (by decide +kernel)) (by decide +kernel)
theorem t_101 : Cond.code yX12_laysFacts cX12_laysFacts 2 none ∈ gT := tm (List.mem_of_getElem? (i := 1552) (by decide +kernel)) (by decide +kernel)
theorem t_102 : Cond.methodLink RX12 497 yX12_laysFacts ∈ gT := tm (List.mem_of_getElem? (i := 1549) (by decide +kernel)) (by decide +kernel)
theorem t_103 : Cond.instanceMethod yX12_laysFacts ∈ gT := tm (List.mem_of_getElem? (i := 1551) (by decide +kernel)) (by decide +kernel)
theorem t_104 : Cond.selects RX12 yX12_laysFacts yX12_laysFacts ∈ gT := tmp (List.mem_of_getElem? (i := 84) (by decide +kernel)) (by decide +kernel)
theorem t_105 : Cond.constant RX12 496 (-100000) ∈ gT := tm (List.mem_of_getElem? (i := 1548) (by decide +kernel)) (by decide +kernel)
theorem t_106 : Cond.fieldLink RX12 504 "DepositJudgeModel" "keptClaims" "I" ∈ gT := tm (List.mem_of_getElem? (i := 996) (by decide +kernel)) (by decide +kernel)
theorem t_107 : Cond.fieldLink RX12 507 "DepositJudgeModel" "keptX" "I" ∈ gT := tm (List.mem_of_getElem? (i := 997) (by decide +kernel)) (by decide +kernel)
theorem t_108 : Cond.fieldLink RX12 129 "DepositJudgeModel" "claimHome" "[I" ∈ gT := tm (List.mem_of_getElem? (i := 969) (by decide +kernel)) (by decide +kernel)
theorem t_109 : Cond.fieldLink RX12 199 "DepositJudgeModel" "keptHome" "[I" ∈ gT := tm (List.mem_of_getElem? (i := 998) (by decide +kernel)) (by decide +kernel)
theorem t_110 : Cond.code yX12_copies cX12_copies 4 none ∈ gT := tm (List.mem_of_getElem? (i := 1575) (by decide +kernel)) (by decide +kernel)
theorem t_111 : Cond.methodLink RX12 510 yX12_copies ∈ gT := tm (List.mem_of_getElem? (i := 1573) (by decide +kernel)) (by decide +kernel)
theorem t_112 : Cond.static yX12_copies ∈ gT := tm (List.mem_of_getElem? (i := 1574) (by decide +kernel)) (by decide +kernel)
theorem t_113 : Cond.fieldLink RX12 132 "DepositJudgeModel" "claimThing" "[I" ∈ gT := tm (List.mem_of_getElem? (i := 970) (by decide +kernel)) (by decide +kernel)
theorem t_114 : Cond.fieldLink RX12 202 "DepositJudgeModel" "keptThing" "[I" ∈ gT := tm (List.mem_of_getElem? (i := 999) (by decide +kernel)) (by decide +kernel)
theorem t_115 : Cond.fieldLink RX12 135 "DepositJudgeModel" "causeOf" "[I" ∈ gT := tm (List.mem_of_getElem? (i := 971) (by decide +kernel)) (by decide +kernel)
theorem t_116 : Cond.fieldLink RX12 205 "DepositJudgeModel" "keptCause" "[I" ∈ gT := tm (List.mem_of_getElem? (i := 1000) (by decide +kernel)) (by decide +kernel)
theorem t_117 : Cond.fieldLink RX12 138 "DepositJudgeModel" "evidenceOf" "[I" ∈ gT := tm (List.mem_of_getElem? (i := 972) (by decide +kernel)) (by decide +kernel)
theorem t_118 : Cond.fieldLink RX12 208 "DepositJudgeModel" "keptEvidence" "[I" ∈ gT := tm (List.mem_of_getElem? (i := 1001) (by decide +kernel)) (by decide +kernel)
theorem t_119 : Cond.fieldLink RX12 141 "DepositJudgeModel" "claimDay" "[I" ∈ gT := tm (List.mem_of_getElem? (i := 973) (by decide +kernel)) (by decide +kernel)
theorem t_120 : Cond.fieldLink RX12 211 "DepositJudgeModel" "keptDay" "[I" ∈ gT := tm (List.mem_of_getElem? (i := 1002) (by decide +kernel)) (by decide +kernel)
theorem t_121 : Cond.fieldLink RX12 144 "DepositJudgeModel" "agreedOf" "[I" ∈ gT := tm (List.mem_of_getElem? (i := 974) (by decide +kernel)) (by decide +kernel)
theorem t_122 : Cond.fieldLink RX12 214 "DepositJudgeModel" "keptAgreed" "[I" ∈ gT := tm (List.mem_of_getElem? (i := 1003) (by decide +kernel)) (by decide +kernel)
theorem t_123 : Cond.fieldLink RX12 147 "DepositJudgeModel" "answerDay" "[I" ∈ gT := tm (List.mem_of_getElem? (i := 975) (by decide +kernel)) (by decide +kernel)
theorem t_124 : Cond.fieldLink RX12 217 "DepositJudgeModel" "keptAnswer" "[I" ∈ gT := tm (List.mem_of_getElem? (i := 1004) (by decide +kernel)) (by decide +kernel)
theorem t_125 : Cond.fieldLink RX12 160 "DepositJudgeModel" "ownerOffer" "[I" ∈ gT := tm (List.mem_of_getElem? (i := 981) (by decide +kernel)) (by decide +kernel)
theorem t_126 : Cond.fieldLink RX12 220 "DepositJudgeModel" "keptOwner" "[I" ∈ gT := tm (List.mem_of_getElem? (i := 1005) (by decide +kernel)) (by decide +kernel)
theorem t_127 : Cond.fieldLink RX12 163 "DepositJudgeModel" "tenantOffer" "[I" ∈ gT := tm (List.mem_of_getElem? (i := 982) (by decide +kernel)) (by decide +kernel)
theorem t_128 : Cond.fieldLink RX12 223 "DepositJudgeModel" "keptTenant" "[I" ∈ gT := tm (List.mem_of_getElem? (i := 1006) (by decide +kernel)) (by decide +kernel)
theorem t_129 : Cond.fieldLink RX12 226 "DepositJudgeModel" "keptProof" "[Z" ∈ gT := tm (List.mem_of_getElem? (i := 1007) (by decide +kernel)) (by decide +kernel)
theorem t_130 : Cond.fieldLink RX12 150 "DepositJudgeModel" "isProof" "[Z" ∈ gT := tm (List.mem_of_getElem? (i := 976) (by decide +kernel)) (by decide +kernel)
theorem dX12_copies_0 : decode cX12_copies 0 = .ok (.iconst 0, 1) := by decide +kernel
theorem dX12_copies_1 : decode cX12_copies 1 = .ok (.istore_n 3, 1) := by decide +kernel
theorem dX12_copies_2 : decode cX12_copies 2 = .ok (.iload_n 3, 1) := by decide +kernel
theorem dX12_copies_3 : decode cX12_copies 3 = .ok (.iload_n 2, 1) := by decide +kernel
theorem dX12_copies_4 : decode cX12_copies 4 = .ok (.if_icmp .ge 15, 3) := by decide +kernel
theorem dX12_copies_7 : decode cX12_copies 7 = .ok (.aload_n 1, 1) := by decide +kernel
theorem dX12_copies_8 : decode cX12_copies 8 = .ok (.iload_n 3, 1) := by decide +kernel
theorem dX12_copies_9 : decode cX12_copies 9 = .ok (.aload_n 0, 1) := by decide +kernel
theorem dX12_copies_10 : decode cX12_copies 10 = .ok (.iload_n 3, 1) := by decide +kernel
theorem dX12_copies_11 : decode cX12_copies 11 = .ok (.iaload, 1) := by decide +kernel
theorem dX12_copies_12 : decode cX12_copies 12 = .ok (.iastore, 1) := by decide +kernel
theorem dX12_copies_13 : decode cX12_copies 13 = .ok (.iinc 3 1, 3) := by decide +kernel
theorem dX12_copies_16 : decode cX12_copies 16 = .ok (.goto (-14), 3) := by decide +kernel
theorem dX12_copies_19 : decode cX12_copies 19 = .ok (.return_, 1) := by decide +kernel
theorem dX12_dated_0 : decode cX12_dated 0 = .ok (.iload_n 1, 1) := by decide +kernel
theorem dX12_dated_1 : decode cX12_dated 1 = .ok (.iconst 0, 1) := by decide +kernel
theorem dX12_dated_2 : decode cX12_dated 2 = .ok (.bipush 9, 2) := by decide +kernel
theorem dX12_dated_4 : decode cX12_dated 4 = .ok (.invokestatic 241, 3) := by decide +kernel
theorem dX12_dated_7 : decode cX12_dated 7 = .ok (.ifCond .eq 12, 3) := by decide +kernel
theorem dX12_dated_10 : decode cX12_dated 10 = .ok (.iload_n 2, 1) := by decide +kernel
theorem dX12_dated_11 : decode cX12_dated 11 = .ok (.iconst 0, 1) := by decide +kernel
theorem dX12_dated_12 : decode cX12_dated 12 = .ok (.iconst 1, 1) := by decide +kernel
theorem dX12_dated_13 : decode cX12_dated 13 = .ok (.invokestatic 241, 3) := by decide +kernel
theorem dX12_dated_16 : decode cX12_dated 16 = .ok (.ifCond .ne 7, 3) := by decide +kernel
theorem dX12_dated_19 : decode cX12_dated 19 = .ok (.ldc_w 496, 3) := by decide +kernel
theorem dX12_dated_22 : decode cX12_dated 22 = .ok (.ireturn, 1) := by decide +kernel
theorem dX12_dated_23 : decode cX12_dated 23 = .ok (.aload_n 0, 1) := by decide +kernel
theorem dX12_dated_24 : decode cX12_dated 24 = .ok (.invokevirtual 497, 3) := by decide +kernel
theorem dX12_dated_27 : decode cX12_dated 27 = .ok (.iload_n 2, 1) := by decide +kernel
theorem dX12_dated_28 : decode cX12_dated 28 = .ok (.ifCond .ne 15, 3) := by decide +kernel
theorem dX12_dated_31 : decode cX12_dated 31 = .ok (.aload_n 0, 1) := by decide +kernel
theorem dX12_dated_32 : decode cX12_dated 32 = .ok (.getfield 193, 3) := by decide +kernel
theorem dX12_dated_35 : decode cX12_dated 35 = .ok (.bipush 110, 2) := by decide +kernel
theorem dX12_dated_37 : decode cX12_dated 37 = .ok (.iload_n 1, 1) := by decide +kernel
theorem dX12_dated_38 : decode cX12_dated 38 = .ok (.iadd, 1) := by decide +kernel
theorem dX12_dated_39 : decode cX12_dated 39 = .ok (.iaload, 1) := by decide +kernel
theorem dX12_dated_40 : decode cX12_dated 40 = .ok (.goto 15, 3) := by decide +kernel
theorem dX12_dated_43 : decode cX12_dated 43 = .ok (.aload_n 0, 1) := by decide +kernel
theorem dX12_dated_44 : decode cX12_dated 44 = .ok (.getfield 193, 3) := by decide +kernel
theorem dX12_dated_47 : decode cX12_dated 47 = .ok (.bipush 11, 2) := by decide +kernel
theorem dX12_dated_49 : decode cX12_dated 49 = .ok (.iload_n 1, 1) := by decide +kernel
theorem dX12_dated_50 : decode cX12_dated 50 = .ok (.imul, 1) := by decide +kernel
theorem dX12_dated_51 : decode cX12_dated 51 = .ok (.bipush 10, 2) := by decide +kernel
theorem dX12_dated_53 : decode cX12_dated 53 = .ok (.iadd, 1) := by decide +kernel
theorem dX12_dated_54 : decode cX12_dated 54 = .ok (.iaload, 1) := by decide +kernel
theorem dX12_dated_55 : decode cX12_dated 55 = .ok (.istore_n 3, 1) := by decide +kernel
theorem dX12_dated_56 : decode cX12_dated 56 = .ok (.iload_n 3, 1) := by decide +kernel
theorem dX12_dated_57 : decode cX12_dated 57 = .ok (.ldc_w 489, 3) := by decide +kernel
theorem dX12_dated_60 : decode cX12_dated 60 = .ok (.if_icmp .ne 9, 3) := by decide +kernel
theorem dX12_dated_63 : decode cX12_dated 63 = .ok (.ldc_w 496, 3) := by decide +kernel
theorem dX12_dated_66 : decode cX12_dated 66 = .ok (.goto 13, 3) := by decide +kernel
theorem dX12_dated_79 : decode cX12_dated 79 = .ok (.ireturn, 1) := by decide +kernel
theorem dX12_fact_0 : decode cX12_fact 0 = .ok (.iload_n 1, 1) := by decide +kernel
theorem dX12_fact_1 : decode cX12_fact 1 = .ok (.iconst 0, 1) := by decide +kernel
theorem dX12_fact_2 : decode cX12_fact 2 = .ok (.bipush 10, 2) := by decide +kernel
theorem dX12_fact_4 : decode cX12_fact 4 = .ok (.invokestatic 241, 3) := by decide +kernel
theorem dX12_fact_7 : decode cX12_fact 7 = .ok (.ifCond .eq 40, 3) := by decide +kernel
theorem dX12_fact_10 : decode cX12_fact 10 = .ok (.iload_n 2, 1) := by decide +kernel
theorem dX12_fact_11 : decode cX12_fact 11 = .ok (.iconst 0, 1) := by decide +kernel
theorem dX12_fact_12 : decode cX12_fact 12 = .ok (.bipush 10, 2) := by decide +kernel
theorem dX12_fact_14 : decode cX12_fact 14 = .ok (.invokestatic 241, 3) := by decide +kernel
theorem dX12_fact_17 : decode cX12_fact 17 = .ok (.ifCond .eq 30, 3) := by decide +kernel
theorem dX12_fact_20 : decode cX12_fact 20 = .ok (.iload_n 1, 1) := by decide +kernel
theorem dX12_fact_21 : decode cX12_fact 21 = .ok (.iload_n 2, 1) := by decide +kernel
theorem dX12_fact_22 : decode cX12_fact 22 = .ok (.if_icmp .eq 25, 3) := by decide +kernel
theorem dX12_fact_25 : decode cX12_fact 25 = .ok (.iload_n 3, 1) := by decide +kernel
theorem dX12_fact_26 : decode cX12_fact 26 = .ok (.sipush (-999), 3) := by decide +kernel
theorem dX12_fact_29 : decode cX12_fact 29 = .ok (.sipush 999, 3) := by decide +kernel
theorem dX12_fact_32 : decode cX12_fact 32 = .ok (.invokestatic 241, 3) := by decide +kernel
theorem dX12_fact_35 : decode cX12_fact 35 = .ok (.ifCond .eq 12, 3) := by decide +kernel
theorem dX12_fact_38 : decode cX12_fact 38 = .ok (.aload_n 0, 1) := by decide +kernel
theorem dX12_fact_39 : decode cX12_fact 39 = .ok (.getfield 486, 3) := by decide +kernel
theorem dX12_fact_42 : decode cX12_fact 42 = .ok (.bipush 30, 2) := by decide +kernel
theorem dX12_fact_44 : decode cX12_fact 44 = .ok (.if_icmp .ne 5, 3) := by decide +kernel
theorem dX12_fact_47 : decode cX12_fact 47 = .ok (.iconst (-1), 1) := by decide +kernel
theorem dX12_fact_48 : decode cX12_fact 48 = .ok (.ireturn, 1) := by decide +kernel
theorem dX12_fact_49 : decode cX12_fact 49 = .ok (.aload_n 0, 1) := by decide +kernel
theorem dX12_fact_50 : decode cX12_fact 50 = .ok (.getfield 184, 3) := by decide +kernel
theorem dX12_fact_53 : decode cX12_fact 53 = .ok (.aload_n 0, 1) := by decide +kernel
theorem dX12_fact_54 : decode cX12_fact 54 = .ok (.getfield 486, 3) := by decide +kernel
theorem dX12_fact_57 : decode cX12_fact 57 = .ok (.iload_n 1, 1) := by decide +kernel
theorem dX12_fact_58 : decode cX12_fact 58 = .ok (.iastore, 1) := by decide +kernel
theorem dX12_fact_59 : decode cX12_fact 59 = .ok (.aload_n 0, 1) := by decide +kernel
theorem dX12_fact_60 : decode cX12_fact 60 = .ok (.getfield 187, 3) := by decide +kernel
theorem dX12_fact_63 : decode cX12_fact 63 = .ok (.aload_n 0, 1) := by decide +kernel
theorem dX12_fact_64 : decode cX12_fact 64 = .ok (.getfield 486, 3) := by decide +kernel
theorem dX12_fact_67 : decode cX12_fact 67 = .ok (.iload_n 2, 1) := by decide +kernel
theorem dX12_fact_68 : decode cX12_fact 68 = .ok (.iastore, 1) := by decide +kernel
theorem dX12_fact_69 : decode cX12_fact 69 = .ok (.aload_n 0, 1) := by decide +kernel
theorem dX12_fact_70 : decode cX12_fact 70 = .ok (.getfield 190, 3) := by decide +kernel
theorem dX12_fact_73 : decode cX12_fact 73 = .ok (.aload_n 0, 1) := by decide +kernel
theorem dX12_fact_74 : decode cX12_fact 74 = .ok (.getfield 486, 3) := by decide +kernel
theorem dX12_fact_77 : decode cX12_fact 77 = .ok (.iload_n 3, 1) := by decide +kernel
theorem dX12_fact_78 : decode cX12_fact 78 = .ok (.iastore, 1) := by decide +kernel
theorem dX12_fact_79 : decode cX12_fact 79 = .ok (.aload_n 0, 1) := by decide +kernel
theorem dX12_fact_80 : decode cX12_fact 80 = .ok (.aload_n 0, 1) := by decide +kernel
theorem dX12_fact_81 : decode cX12_fact 81 = .ok (.getfield 486, 3) := by decide +kernel
theorem dX12_fact_84 : decode cX12_fact 84 = .ok (.iconst 1, 1) := by decide +kernel
theorem dX12_fact_85 : decode cX12_fact 85 = .ok (.iadd, 1) := by decide +kernel
theorem dX12_fact_86 : decode cX12_fact 86 = .ok (.putfield 486, 3) := by decide +kernel
theorem dX12_fact_89 : decode cX12_fact 89 = .ok (.aload_n 0, 1) := by decide +kernel
theorem dX12_fact_90 : decode cX12_fact 90 = .ok (.getfield 486, 3) := by decide +kernel
theorem dX12_fact_93 : decode cX12_fact 93 = .ok (.ireturn, 1) := by decide +kernel
theorem dX12_feed_0 : decode cX12_feed 0 = .ok (.aload_n 0, 1) := by decide +kernel
theorem dX12_feed_1 : decode cX12_feed 1 = .ok (.getfield 255, 3) := by decide +kernel
theorem dX12_feed_4 : decode cX12_feed 4 = .ok (.bipush 20, 2) := by decide +kernel
theorem dX12_feed_6 : decode cX12_feed 6 = .ok (.iadd, 1) := by decide +kernel
theorem dX12_feed_7 : decode cX12_feed 7 = .ok (.sipush 220, 3) := by decide +kernel
theorem dX12_feed_10 : decode cX12_feed 10 = .ok (.if_icmp .le 5, 3) := by decide +kernel
theorem dX12_feed_15 : decode cX12_feed 15 = .ok (.aload_n 0, 1) := by decide +kernel
theorem dX12_feed_16 : decode cX12_feed 16 = .ok (.iload_n 1, 1) := by decide +kernel
theorem dX12_feed_17 : decode cX12_feed 17 = .ok (.invokevirtual 258, 3) := by decide +kernel
theorem dX12_feed_20 : decode cX12_feed 20 = .ok (.aload_n 0, 1) := by decide +kernel
theorem dX12_feed_21 : decode cX12_feed 21 = .ok (.iload_n 2, 1) := by decide +kernel
theorem dX12_feed_22 : decode cX12_feed 22 = .ok (.invokevirtual 258, 3) := by decide +kernel
theorem dX12_feed_25 : decode cX12_feed 25 = .ok (.aload_n 0, 1) := by decide +kernel
theorem dX12_feed_26 : decode cX12_feed 26 = .ok (.iload_n 3, 1) := by decide +kernel
theorem dX12_feed_27 : decode cX12_feed 27 = .ok (.invokevirtual 258, 3) := by decide +kernel
theorem dX12_feed_30 : decode cX12_feed 30 = .ok (.aload_n 0, 1) := by decide +kernel
theorem dX12_feed_31 : decode cX12_feed 31 = .ok (.iload 4, 2) := by decide +kernel
theorem dX12_feed_33 : decode cX12_feed 33 = .ok (.invokevirtual 258, 3) := by decide +kernel
theorem dX12_feed_36 : decode cX12_feed 36 = .ok (.aload_n 0, 1) := by decide +kernel
theorem dX12_feed_37 : decode cX12_feed 37 = .ok (.iload 5, 2) := by decide +kernel
theorem dX12_feed_39 : decode cX12_feed 39 = .ok (.invokevirtual 258, 3) := by decide +kernel
theorem dX12_feed_42 : decode cX12_feed 42 = .ok (.aload_n 0, 1) := by decide +kernel
theorem dX12_feed_43 : decode cX12_feed 43 = .ok (.getfield 255, 3) := by decide +kernel
theorem dX12_feed_46 : decode cX12_feed 46 = .ok (.ireturn, 1) := by decide +kernel
theorem dX12_home_0 : decode cX12_home 0 = .ok (.iload_n 1, 1) := by decide +kernel
theorem dX12_home_1 : decode cX12_home 1 = .ok (.iconst 0, 1) := by decide +kernel
theorem dX12_home_2 : decode cX12_home 2 = .ok (.iconst 3, 1) := by decide +kernel
theorem dX12_home_3 : decode cX12_home 3 = .ok (.invokestatic 241, 3) := by decide +kernel
theorem dX12_home_6 : decode cX12_home 6 = .ok (.ifCond .eq 53, 3) := by decide +kernel
theorem dX12_home_9 : decode cX12_home 9 = .ok (.iload_n 2, 1) := by decide +kernel
theorem dX12_home_10 : decode cX12_home 10 = .ok (.iconst 1, 1) := by decide +kernel
theorem dX12_home_11 : decode cX12_home 11 = .ok (.iconst 4, 1) := by decide +kernel
theorem dX12_home_12 : decode cX12_home 12 = .ok (.invokestatic 241, 3) := by decide +kernel
theorem dX12_home_15 : decode cX12_home 15 = .ok (.ifCond .eq 44, 3) := by decide +kernel
theorem dX12_home_18 : decode cX12_home 18 = .ok (.iload_n 3, 1) := by decide +kernel
theorem dX12_home_19 : decode cX12_home 19 = .ok (.invokestatic 246, 3) := by decide +kernel
theorem dX12_home_22 : decode cX12_home 22 = .ok (.ifCond .eq 37, 3) := by decide +kernel
theorem dX12_home_25 : decode cX12_home 25 = .ok (.iload 4, 2) := by decide +kernel
theorem dX12_home_27 : decode cX12_home 27 = .ok (.iconst 0, 1) := by decide +kernel
theorem dX12_home_28 : decode cX12_home 28 = .ok (.sipush 999, 3) := by decide +kernel
theorem dX12_home_31 : decode cX12_home 31 = .ok (.invokestatic 241, 3) := by decide +kernel
theorem dX12_home_34 : decode cX12_home 34 = .ok (.ifCond .eq 25, 3) := by decide +kernel
theorem dX12_home_37 : decode cX12_home 37 = .ok (.iload 5, 2) := by decide +kernel
theorem dX12_home_39 : decode cX12_home 39 = .ok (.iload 4, 2) := by decide +kernel
theorem dX12_home_41 : decode cX12_home 41 = .ok (.sipush 999, 3) := by decide +kernel
theorem dX12_home_44 : decode cX12_home 44 = .ok (.invokestatic 241, 3) := by decide +kernel
theorem dX12_home_47 : decode cX12_home 47 = .ok (.ifCond .eq 12, 3) := by decide +kernel
theorem dX12_home_50 : decode cX12_home 50 = .ok (.aload_n 0, 1) := by decide +kernel
theorem dX12_home_51 : decode cX12_home 51 = .ok (.getfield 234, 3) := by decide +kernel
theorem dX12_home_54 : decode cX12_home 54 = .ok (.bipush 6, 2) := by decide +kernel
theorem dX12_home_56 : decode cX12_home 56 = .ok (.if_icmp .ne 5, 3) := by decide +kernel
theorem dX12_home_59 : decode cX12_home 59 = .ok (.iconst (-1), 1) := by decide +kernel
theorem dX12_home_60 : decode cX12_home 60 = .ok (.ireturn, 1) := by decide +kernel
theorem dX12_home_61 : decode cX12_home 61 = .ok (.aload_n 0, 1) := by decide +kernel
theorem dX12_home_62 : decode cX12_home 62 = .ok (.getfield 16, 3) := by decide +kernel
theorem dX12_home_65 : decode cX12_home 65 = .ok (.aload_n 0, 1) := by decide +kernel
theorem dX12_home_66 : decode cX12_home 66 = .ok (.getfield 234, 3) := by decide +kernel
theorem dX12_home_69 : decode cX12_home 69 = .ok (.iload_n 1, 1) := by decide +kernel
theorem dX12_home_70 : decode cX12_home 70 = .ok (.iastore, 1) := by decide +kernel
theorem dX12_home_71 : decode cX12_home 71 = .ok (.aload_n 0, 1) := by decide +kernel
theorem dX12_home_72 : decode cX12_home 72 = .ok (.getfield 19, 3) := by decide +kernel
theorem dX12_home_75 : decode cX12_home 75 = .ok (.aload_n 0, 1) := by decide +kernel
theorem dX12_home_76 : decode cX12_home 76 = .ok (.getfield 234, 3) := by decide +kernel
theorem dX12_home_79 : decode cX12_home 79 = .ok (.iload_n 2, 1) := by decide +kernel
theorem dX12_home_80 : decode cX12_home 80 = .ok (.iastore, 1) := by decide +kernel
theorem dX12_home_81 : decode cX12_home 81 = .ok (.aload_n 0, 1) := by decide +kernel
theorem dX12_home_82 : decode cX12_home 82 = .ok (.getfield 22, 3) := by decide +kernel
theorem dX12_home_85 : decode cX12_home 85 = .ok (.aload_n 0, 1) := by decide +kernel
theorem dX12_home_86 : decode cX12_home 86 = .ok (.getfield 234, 3) := by decide +kernel
theorem dX12_home_89 : decode cX12_home 89 = .ok (.iload_n 3, 1) := by decide +kernel
theorem dX12_home_90 : decode cX12_home 90 = .ok (.iastore, 1) := by decide +kernel
theorem dX12_home_91 : decode cX12_home 91 = .ok (.aload_n 0, 1) := by decide +kernel
theorem dX12_home_92 : decode cX12_home 92 = .ok (.getfield 25, 3) := by decide +kernel
theorem dX12_home_95 : decode cX12_home 95 = .ok (.aload_n 0, 1) := by decide +kernel
theorem dX12_home_96 : decode cX12_home 96 = .ok (.getfield 234, 3) := by decide +kernel
theorem dX12_home_99 : decode cX12_home 99 = .ok (.iload 4, 2) := by decide +kernel
theorem dX12_home_101 : decode cX12_home 101 = .ok (.iastore, 1) := by decide +kernel
theorem dX12_home_102 : decode cX12_home 102 = .ok (.aload_n 0, 1) := by decide +kernel
theorem dX12_home_103 : decode cX12_home 103 = .ok (.getfield 28, 3) := by decide +kernel
theorem dX12_home_106 : decode cX12_home 106 = .ok (.aload_n 0, 1) := by decide +kernel
theorem dX12_home_107 : decode cX12_home 107 = .ok (.getfield 234, 3) := by decide +kernel
theorem dX12_home_110 : decode cX12_home 110 = .ok (.iload 5, 2) := by decide +kernel
theorem dX12_home_112 : decode cX12_home 112 = .ok (.iastore, 1) := by decide +kernel
theorem dX12_home_113 : decode cX12_home 113 = .ok (.aload_n 0, 1) := by decide +kernel
theorem dX12_home_114 : decode cX12_home 114 = .ok (.getfield 64, 3) := by decide +kernel
theorem dX12_home_117 : decode cX12_home 117 = .ok (.aload_n 0, 1) := by decide +kernel
theorem dX12_home_118 : decode cX12_home 118 = .ok (.getfield 234, 3) := by decide +kernel
theorem dX12_home_121 : decode cX12_home 121 = .ok (.iload 6, 2) := by decide +kernel
theorem dX12_home_123 : decode cX12_home 123 = .ok (.bastore, 1) := by decide +kernel
theorem dX12_home_124 : decode cX12_home 124 = .ok (.iconst 0, 1) := by decide +kernel
theorem dX12_home_125 : decode cX12_home 125 = .ok (.istore 7, 2) := by decide +kernel
theorem dX12_home_127 : decode cX12_home 127 = .ok (.iload 7, 2) := by decide +kernel
theorem dX12_home_129 : decode cX12_home 129 = .ok (.iconst 4, 1) := by decide +kernel
theorem dX12_home_130 : decode cX12_home 130 = .ok (.if_icmp .ge 24, 3) := by decide +kernel
theorem dX12_home_133 : decode cX12_home 133 = .ok (.aload_n 0, 1) := by decide +kernel
theorem dX12_home_134 : decode cX12_home 134 = .ok (.getfield 31, 3) := by decide +kernel
theorem dX12_home_137 : decode cX12_home 137 = .ok (.iconst 4, 1) := by decide +kernel
theorem dX12_home_138 : decode cX12_home 138 = .ok (.aload_n 0, 1) := by decide +kernel
theorem dX12_home_139 : decode cX12_home 139 = .ok (.getfield 234, 3) := by decide +kernel
theorem dX12_home_142 : decode cX12_home 142 = .ok (.imul, 1) := by decide +kernel
theorem dX12_home_143 : decode cX12_home 143 = .ok (.iload 7, 2) := by decide +kernel
theorem dX12_home_145 : decode cX12_home 145 = .ok (.iadd, 1) := by decide +kernel
theorem dX12_home_146 : decode cX12_home 146 = .ok (.iconst 1, 1) := by decide +kernel
theorem dX12_home_147 : decode cX12_home 147 = .ok (.iastore, 1) := by decide +kernel
theorem dX12_home_148 : decode cX12_home 148 = .ok (.iinc 7 1, 3) := by decide +kernel
theorem dX12_home_151 : decode cX12_home 151 = .ok (.goto (-24), 3) := by decide +kernel
theorem dX12_home_154 : decode cX12_home 154 = .ok (.aload_n 0, 1) := by decide +kernel
theorem dX12_home_155 : decode cX12_home 155 = .ok (.aload_n 0, 1) := by decide +kernel
theorem dX12_home_156 : decode cX12_home 156 = .ok (.getfield 234, 3) := by decide +kernel
theorem dX12_home_159 : decode cX12_home 159 = .ok (.iconst 1, 1) := by decide +kernel
theorem dX12_home_160 : decode cX12_home 160 = .ok (.iadd, 1) := by decide +kernel
theorem dX12_home_161 : decode cX12_home 161 = .ok (.putfield 234, 3) := by decide +kernel
theorem dX12_home_164 : decode cX12_home 164 = .ok (.aload_n 0, 1) := by decide +kernel
theorem dX12_home_165 : decode cX12_home 165 = .ok (.getfield 234, 3) := by decide +kernel
theorem dX12_home_168 : decode cX12_home 168 = .ok (.iconst 1, 1) := by decide +kernel
theorem dX12_home_169 : decode cX12_home 169 = .ok (.isub, 1) := by decide +kernel
theorem dX12_home_170 : decode cX12_home 170 = .ok (.ireturn, 1) := by decide +kernel
theorem dX12_keep_0 : decode cX12_keep 0 = .ok (.aload_n 0, 1) := by decide +kernel
theorem dX12_keep_1 : decode cX12_keep 1 = .ok (.iconst 1, 1) := by decide +kernel
theorem dX12_keep_2 : decode cX12_keep 2 = .ok (.putfield 500, 3) := by decide +kernel
theorem dX12_keep_5 : decode cX12_keep 5 = .ok (.aload_n 0, 1) := by decide +kernel
theorem dX12_keep_6 : decode cX12_keep 6 = .ok (.aload_n 0, 1) := by decide +kernel
theorem dX12_keep_7 : decode cX12_keep 7 = .ok (.getfield 417, 3) := by decide +kernel
theorem dX12_keep_10 : decode cX12_keep 10 = .ok (.putfield 504, 3) := by decide +kernel
theorem dX12_keep_13 : decode cX12_keep 13 = .ok (.aload_n 0, 1) := by decide +kernel
theorem dX12_keep_14 : decode cX12_keep 14 = .ok (.aload_n 0, 1) := by decide +kernel
theorem dX12_keep_15 : decode cX12_keep 15 = .ok (.getfield 229, 3) := by decide +kernel
theorem dX12_keep_18 : decode cX12_keep 18 = .ok (.putfield 507, 3) := by decide +kernel
theorem dX12_keep_21 : decode cX12_keep 21 = .ok (.aload_n 0, 1) := by decide +kernel
theorem dX12_keep_22 : decode cX12_keep 22 = .ok (.getfield 129, 3) := by decide +kernel
theorem dX12_keep_25 : decode cX12_keep 25 = .ok (.aload_n 0, 1) := by decide +kernel
theorem dX12_keep_26 : decode cX12_keep 26 = .ok (.getfield 199, 3) := by decide +kernel
theorem dX12_keep_29 : decode cX12_keep 29 = .ok (.bipush 30, 2) := by decide +kernel
theorem dX12_keep_31 : decode cX12_keep 31 = .ok (.invokestatic 510, 3) := by decide +kernel
theorem dX12_keep_34 : decode cX12_keep 34 = .ok (.aload_n 0, 1) := by decide +kernel
theorem dX12_keep_35 : decode cX12_keep 35 = .ok (.getfield 132, 3) := by decide +kernel
theorem dX12_keep_38 : decode cX12_keep 38 = .ok (.aload_n 0, 1) := by decide +kernel
theorem dX12_keep_39 : decode cX12_keep 39 = .ok (.getfield 202, 3) := by decide +kernel
theorem dX12_keep_42 : decode cX12_keep 42 = .ok (.bipush 30, 2) := by decide +kernel
theorem dX12_keep_44 : decode cX12_keep 44 = .ok (.invokestatic 510, 3) := by decide +kernel
theorem dX12_keep_47 : decode cX12_keep 47 = .ok (.aload_n 0, 1) := by decide +kernel
theorem dX12_keep_48 : decode cX12_keep 48 = .ok (.getfield 135, 3) := by decide +kernel
theorem dX12_keep_51 : decode cX12_keep 51 = .ok (.aload_n 0, 1) := by decide +kernel
theorem dX12_keep_52 : decode cX12_keep 52 = .ok (.getfield 205, 3) := by decide +kernel
theorem dX12_keep_55 : decode cX12_keep 55 = .ok (.bipush 30, 2) := by decide +kernel
theorem dX12_keep_57 : decode cX12_keep 57 = .ok (.invokestatic 510, 3) := by decide +kernel
theorem dX12_keep_60 : decode cX12_keep 60 = .ok (.aload_n 0, 1) := by decide +kernel
theorem dX12_keep_61 : decode cX12_keep 61 = .ok (.getfield 138, 3) := by decide +kernel
theorem dX12_keep_64 : decode cX12_keep 64 = .ok (.aload_n 0, 1) := by decide +kernel
theorem dX12_keep_65 : decode cX12_keep 65 = .ok (.getfield 208, 3) := by decide +kernel
theorem dX12_keep_68 : decode cX12_keep 68 = .ok (.bipush 30, 2) := by decide +kernel
theorem dX12_keep_70 : decode cX12_keep 70 = .ok (.invokestatic 510, 3) := by decide +kernel
theorem dX12_keep_73 : decode cX12_keep 73 = .ok (.aload_n 0, 1) := by decide +kernel
theorem dX12_keep_74 : decode cX12_keep 74 = .ok (.getfield 141, 3) := by decide +kernel
theorem dX12_keep_77 : decode cX12_keep 77 = .ok (.aload_n 0, 1) := by decide +kernel
theorem dX12_keep_78 : decode cX12_keep 78 = .ok (.getfield 211, 3) := by decide +kernel
theorem dX12_keep_81 : decode cX12_keep 81 = .ok (.bipush 30, 2) := by decide +kernel
theorem dX12_keep_83 : decode cX12_keep 83 = .ok (.invokestatic 510, 3) := by decide +kernel
theorem dX12_keep_86 : decode cX12_keep 86 = .ok (.aload_n 0, 1) := by decide +kernel
theorem dX12_keep_87 : decode cX12_keep 87 = .ok (.getfield 144, 3) := by decide +kernel
theorem dX12_keep_90 : decode cX12_keep 90 = .ok (.aload_n 0, 1) := by decide +kernel
theorem dX12_keep_91 : decode cX12_keep 91 = .ok (.getfield 214, 3) := by decide +kernel
theorem dX12_keep_94 : decode cX12_keep 94 = .ok (.bipush 30, 2) := by decide +kernel
theorem dX12_keep_96 : decode cX12_keep 96 = .ok (.invokestatic 510, 3) := by decide +kernel
theorem dX12_keep_99 : decode cX12_keep 99 = .ok (.aload_n 0, 1) := by decide +kernel
theorem dX12_keep_100 : decode cX12_keep 100 = .ok (.getfield 147, 3) := by decide +kernel
theorem dX12_keep_103 : decode cX12_keep 103 = .ok (.aload_n 0, 1) := by decide +kernel
theorem dX12_keep_104 : decode cX12_keep 104 = .ok (.getfield 217, 3) := by decide +kernel
theorem dX12_keep_107 : decode cX12_keep 107 = .ok (.bipush 30, 2) := by decide +kernel
theorem dX12_keep_109 : decode cX12_keep 109 = .ok (.invokestatic 510, 3) := by decide +kernel
theorem dX12_keep_112 : decode cX12_keep 112 = .ok (.aload_n 0, 1) := by decide +kernel
theorem dX12_keep_113 : decode cX12_keep 113 = .ok (.getfield 160, 3) := by decide +kernel
theorem dX12_keep_116 : decode cX12_keep 116 = .ok (.aload_n 0, 1) := by decide +kernel
theorem dX12_keep_117 : decode cX12_keep 117 = .ok (.getfield 220, 3) := by decide +kernel
theorem dX12_keep_120 : decode cX12_keep 120 = .ok (.bipush 6, 2) := by decide +kernel
theorem dX12_keep_122 : decode cX12_keep 122 = .ok (.invokestatic 510, 3) := by decide +kernel
theorem dX12_keep_125 : decode cX12_keep 125 = .ok (.aload_n 0, 1) := by decide +kernel
theorem dX12_keep_126 : decode cX12_keep 126 = .ok (.getfield 163, 3) := by decide +kernel
theorem dX12_keep_129 : decode cX12_keep 129 = .ok (.aload_n 0, 1) := by decide +kernel
theorem dX12_keep_130 : decode cX12_keep 130 = .ok (.getfield 223, 3) := by decide +kernel
theorem dX12_keep_133 : decode cX12_keep 133 = .ok (.bipush 6, 2) := by decide +kernel
theorem dX12_keep_135 : decode cX12_keep 135 = .ok (.invokestatic 510, 3) := by decide +kernel
theorem dX12_keep_138 : decode cX12_keep 138 = .ok (.iconst 0, 1) := by decide +kernel
theorem dX12_keep_139 : decode cX12_keep 139 = .ok (.istore_n 1, 1) := by decide +kernel
theorem dX12_keep_140 : decode cX12_keep 140 = .ok (.iload_n 1, 1) := by decide +kernel
theorem dX12_keep_141 : decode cX12_keep 141 = .ok (.bipush 30, 2) := by decide +kernel
theorem dX12_keep_143 : decode cX12_keep 143 = .ok (.if_icmp .ge 21, 3) := by decide +kernel
theorem dX12_keep_146 : decode cX12_keep 146 = .ok (.aload_n 0, 1) := by decide +kernel
theorem dX12_keep_147 : decode cX12_keep 147 = .ok (.getfield 226, 3) := by decide +kernel
theorem dX12_keep_150 : decode cX12_keep 150 = .ok (.iload_n 1, 1) := by decide +kernel
theorem dX12_keep_151 : decode cX12_keep 151 = .ok (.aload_n 0, 1) := by decide +kernel
theorem dX12_keep_152 : decode cX12_keep 152 = .ok (.getfield 150, 3) := by decide +kernel
theorem dX12_keep_155 : decode cX12_keep 155 = .ok (.iload_n 1, 1) := by decide +kernel
theorem dX12_keep_156 : decode cX12_keep 156 = .ok (.baload, 1) := by decide +kernel
theorem dX12_keep_157 : decode cX12_keep 157 = .ok (.bastore, 1) := by decide +kernel
theorem dX12_keep_158 : decode cX12_keep 158 = .ok (.iinc 1 1, 3) := by decide +kernel
theorem dX12_keep_161 : decode cX12_keep 161 = .ok (.goto (-21), 3) := by decide +kernel
theorem dX12_keep_164 : decode cX12_keep 164 = .ok (.aload_n 0, 1) := by decide +kernel
theorem dX12_keep_165 : decode cX12_keep 165 = .ok (.getfield 417, 3) := by decide +kernel
theorem dX12_keep_168 : decode cX12_keep 168 = .ok (.ireturn, 1) := by decide +kernel
theorem dX12_laysFacts_0 : decode cX12_laysFacts 0 = .ok (.iconst 0, 1) := by decide +kernel
theorem dX12_laysFacts_1 : decode cX12_laysFacts 1 = .ok (.istore_n 1, 1) := by decide +kernel
theorem dX12_laysFacts_2 : decode cX12_laysFacts 2 = .ok (.iload_n 1, 1) := by decide +kernel
theorem dX12_laysFacts_3 : decode cX12_laysFacts 3 = .ok (.bipush 121, 2) := by decide +kernel
theorem dX12_laysFacts_5 : decode cX12_laysFacts 5 = .ok (.if_icmp .ge 33, 3) := by decide +kernel
theorem dX12_laysFacts_8 : decode cX12_laysFacts 8 = .ok (.aload_n 0, 1) := by decide +kernel
theorem dX12_laysFacts_9 : decode cX12_laysFacts 9 = .ok (.getfield 193, 3) := by decide +kernel
theorem dX12_laysFacts_12 : decode cX12_laysFacts 12 = .ok (.iload_n 1, 1) := by decide +kernel
theorem dX12_laysFacts_13 : decode cX12_laysFacts 13 = .ok (.iload_n 1, 1) := by decide +kernel
theorem dX12_laysFacts_14 : decode cX12_laysFacts 14 = .ok (.bipush 11, 2) := by decide +kernel
theorem dX12_laysFacts_16 : decode cX12_laysFacts 16 = .ok (.idiv, 1) := by decide +kernel
theorem dX12_laysFacts_17 : decode cX12_laysFacts 17 = .ok (.iload_n 1, 1) := by decide +kernel
theorem dX12_laysFacts_18 : decode cX12_laysFacts 18 = .ok (.bipush 11, 2) := by decide +kernel
theorem dX12_laysFacts_20 : decode cX12_laysFacts 20 = .ok (.irem, 1) := by decide +kernel
theorem dX12_laysFacts_21 : decode cX12_laysFacts 21 = .ok (.if_icmp .ne 7, 3) := by decide +kernel
theorem dX12_laysFacts_24 : decode cX12_laysFacts 24 = .ok (.iconst 0, 1) := by decide +kernel
theorem dX12_laysFacts_25 : decode cX12_laysFacts 25 = .ok (.goto 6, 3) := by decide +kernel
theorem dX12_laysFacts_28 : decode cX12_laysFacts 28 = .ok (.ldc_w 489, 3) := by decide +kernel
theorem dX12_laysFacts_31 : decode cX12_laysFacts 31 = .ok (.iastore, 1) := by decide +kernel
theorem dX12_laysFacts_32 : decode cX12_laysFacts 32 = .ok (.iinc 1 1, 3) := by decide +kernel
theorem dX12_laysFacts_35 : decode cX12_laysFacts 35 = .ok (.goto (-33), 3) := by decide +kernel
theorem dX12_laysFacts_38 : decode cX12_laysFacts 38 = .ok (.iconst 0, 1) := by decide +kernel
theorem dX12_laysFacts_39 : decode cX12_laysFacts 39 = .ok (.istore_n 1, 1) := by decide +kernel
theorem dX12_laysFacts_40 : decode cX12_laysFacts 40 = .ok (.iload_n 1, 1) := by decide +kernel
theorem dX12_laysFacts_41 : decode cX12_laysFacts 41 = .ok (.aload_n 0, 1) := by decide +kernel
theorem dX12_laysFacts_42 : decode cX12_laysFacts 42 = .ok (.getfield 486, 3) := by decide +kernel
theorem dX12_laysFacts_45 : decode cX12_laysFacts 45 = .ok (.if_icmp .ge 14, 3) := by decide +kernel
theorem dX12_laysFacts_59 : decode cX12_laysFacts 59 = .ok (.return_, 1) := by decide +kernel
theorem dX12_life_0 : decode cX12_life 0 = .ok (.iload_n 1, 1) := by decide +kernel
theorem dX12_life_1 : decode cX12_life 1 = .ok (.invokestatic 237, 3) := by decide +kernel
theorem dX12_life_4 : decode cX12_life 4 = .ok (.ifCond .eq 14, 3) := by decide +kernel
theorem dX12_life_7 : decode cX12_life 7 = .ok (.iload_n 2, 1) := by decide +kernel
theorem dX12_life_8 : decode cX12_life 8 = .ok (.iconst 1, 1) := by decide +kernel
theorem dX12_life_9 : decode cX12_life 9 = .ok (.sipush 360, 3) := by decide +kernel
theorem dX12_life_12 : decode cX12_life 12 = .ok (.invokestatic 241, 3) := by decide +kernel
theorem dX12_life_15 : decode cX12_life 15 = .ok (.ifCond .ne 5, 3) := by decide +kernel
theorem dX12_life_18 : decode cX12_life 18 = .ok (.iconst 0, 1) := by decide +kernel
theorem dX12_life_19 : decode cX12_life 19 = .ok (.ireturn, 1) := by decide +kernel
theorem dX12_life_20 : decode cX12_life 20 = .ok (.aload_n 0, 1) := by decide +kernel
theorem dX12_life_21 : decode cX12_life 21 = .ok (.getfield 7, 3) := by decide +kernel
theorem dX12_life_24 : decode cX12_life 24 = .ok (.iload_n 1, 1) := by decide +kernel
theorem dX12_life_25 : decode cX12_life 25 = .ok (.iload_n 2, 1) := by decide +kernel
theorem dX12_life_26 : decode cX12_life 26 = .ok (.iastore, 1) := by decide +kernel
theorem dX12_life_27 : decode cX12_life 27 = .ok (.iconst 1, 1) := by decide +kernel
theorem dX12_life_28 : decode cX12_life 28 = .ok (.ireturn, 1) := by decide +kernel
theorem dX12_price_0 : decode cX12_price 0 = .ok (.iload_n 1, 1) := by decide +kernel
theorem dX12_price_1 : decode cX12_price 1 = .ok (.invokestatic 237, 3) := by decide +kernel
theorem dX12_price_4 : decode cX12_price 4 = .ok (.ifCond .eq 22, 3) := by decide +kernel
theorem dX12_price_7 : decode cX12_price 7 = .ok (.iload_n 2, 1) := by decide +kernel
theorem dX12_price_8 : decode cX12_price 8 = .ok (.iconst 0, 1) := by decide +kernel
theorem dX12_price_9 : decode cX12_price 9 = .ok (.iconst 3, 1) := by decide +kernel
theorem dX12_price_10 : decode cX12_price 10 = .ok (.invokestatic 241, 3) := by decide +kernel
theorem dX12_price_13 : decode cX12_price 13 = .ok (.ifCond .eq 13, 3) := by decide +kernel
theorem dX12_price_16 : decode cX12_price 16 = .ok (.iload_n 3, 1) := by decide +kernel
theorem dX12_price_17 : decode cX12_price 17 = .ok (.iconst 0, 1) := by decide +kernel
theorem dX12_price_18 : decode cX12_price 18 = .ok (.ldc 245, 2) := by decide +kernel
theorem dX12_price_20 : decode cX12_price 20 = .ok (.invokestatic 241, 3) := by decide +kernel
theorem dX12_price_23 : decode cX12_price 23 = .ok (.ifCond .ne 5, 3) := by decide +kernel
theorem dX12_price_26 : decode cX12_price 26 = .ok (.iconst 0, 1) := by decide +kernel
theorem dX12_price_27 : decode cX12_price 27 = .ok (.ireturn, 1) := by decide +kernel
theorem dX12_price_28 : decode cX12_price 28 = .ok (.aload_n 0, 1) := by decide +kernel
theorem dX12_price_29 : decode cX12_price 29 = .ok (.getfield 13, 3) := by decide +kernel
theorem dX12_price_32 : decode cX12_price 32 = .ok (.iconst 4, 1) := by decide +kernel
theorem dX12_price_33 : decode cX12_price 33 = .ok (.iload_n 1, 1) := by decide +kernel
theorem dX12_price_34 : decode cX12_price 34 = .ok (.imul, 1) := by decide +kernel
theorem dX12_price_35 : decode cX12_price 35 = .ok (.iload_n 2, 1) := by decide +kernel
theorem dX12_price_36 : decode cX12_price 36 = .ok (.iadd, 1) := by decide +kernel
theorem dX12_price_37 : decode cX12_price 37 = .ok (.iload_n 3, 1) := by decide +kernel
theorem dX12_price_38 : decode cX12_price 38 = .ok (.iastore, 1) := by decide +kernel
theorem dX12_price_39 : decode cX12_price 39 = .ok (.iconst 1, 1) := by decide +kernel
theorem dX12_price_40 : decode cX12_price 40 = .ok (.ireturn, 1) := by decide +kernel
theorem dX12_seed_0 : decode cX12_seed 0 = .ok (.iload_n 1, 1) := by decide +kernel
theorem dX12_seed_1 : decode cX12_seed 1 = .ok (.iconst 0, 1) := by decide +kernel
theorem dX12_seed_2 : decode cX12_seed 2 = .ok (.ldc_w 468, 3) := by decide +kernel
theorem dX12_seed_5 : decode cX12_seed 5 = .ok (.invokestatic 241, 3) := by decide +kernel
theorem dX12_seed_8 : decode cX12_seed 8 = .ok (.ifCond .ne 5, 3) := by decide +kernel
theorem dX12_seed_11 : decode cX12_seed 11 = .ok (.iconst 0, 1) := by decide +kernel
theorem dX12_seed_12 : decode cX12_seed 12 = .ok (.ireturn, 1) := by decide +kernel
theorem dX12_seed_13 : decode cX12_seed 13 = .ok (.aload_n 0, 1) := by decide +kernel
theorem dX12_seed_14 : decode cX12_seed 14 = .ok (.iload_n 1, 1) := by decide +kernel
theorem dX12_seed_15 : decode cX12_seed 15 = .ok (.putfield 229, 3) := by decide +kernel
theorem dX12_seed_18 : decode cX12_seed 18 = .ok (.iconst 1, 1) := by decide +kernel
theorem dX12_seed_19 : decode cX12_seed 19 = .ok (.ireturn, 1) := by decide +kernel
theorem dX12_twice_0 : decode cX12_twice 0 = .ok (.iload_n 1, 1) := by decide +kernel
theorem dX12_twice_1 : decode cX12_twice 1 = .ok (.invokestatic 465, 3) := by decide +kernel
theorem dX12_twice_4 : decode cX12_twice 4 = .ok (.ifCond .eq 47, 3) := by decide +kernel
theorem dX12_twice_7 : decode cX12_twice 7 = .ok (.iload_n 2, 1) := by decide +kernel
theorem dX12_twice_8 : decode cX12_twice 8 = .ok (.invokestatic 465, 3) := by decide +kernel
theorem dX12_twice_11 : decode cX12_twice 11 = .ok (.ifCond .eq 40, 3) := by decide +kernel
theorem dX12_twice_14 : decode cX12_twice 14 = .ok (.iload_n 1, 1) := by decide +kernel
theorem dX12_twice_15 : decode cX12_twice 15 = .ok (.iload_n 2, 1) := by decide +kernel
theorem dX12_twice_16 : decode cX12_twice 16 = .ok (.if_icmp .eq 35, 3) := by decide +kernel
theorem dX12_twice_19 : decode cX12_twice 19 = .ok (.iload_n 3, 1) := by decide +kernel
theorem dX12_twice_20 : decode cX12_twice 20 = .ok (.iconst 0, 1) := by decide +kernel
theorem dX12_twice_21 : decode cX12_twice 21 = .ok (.sipush 9999, 3) := by decide +kernel
theorem dX12_twice_24 : decode cX12_twice 24 = .ok (.invokestatic 241, 3) := by decide +kernel
theorem dX12_twice_27 : decode cX12_twice 27 = .ok (.ifCond .eq 24, 3) := by decide +kernel
theorem dX12_twice_30 : decode cX12_twice 30 = .ok (.iload 4, 2) := by decide +kernel
theorem dX12_twice_32 : decode cX12_twice 32 = .ok (.iconst 0, 1) := by decide +kernel
theorem dX12_twice_33 : decode cX12_twice 33 = .ok (.sipush 9999, 3) := by decide +kernel
theorem dX12_twice_36 : decode cX12_twice 36 = .ok (.invokestatic 241, 3) := by decide +kernel
theorem dX12_twice_39 : decode cX12_twice 39 = .ok (.ifCond .eq 12, 3) := by decide +kernel
theorem dX12_twice_42 : decode cX12_twice 42 = .ok (.aload_n 0, 1) := by decide +kernel
theorem dX12_twice_43 : decode cX12_twice 43 = .ok (.getfield 470, 3) := by decide +kernel
theorem dX12_twice_46 : decode cX12_twice 46 = .ok (.bipush 40, 2) := by decide +kernel
theorem dX12_twice_48 : decode cX12_twice 48 = .ok (.if_icmp .ne 5, 3) := by decide +kernel
theorem dX12_twice_51 : decode cX12_twice 51 = .ok (.iconst (-1), 1) := by decide +kernel
theorem dX12_twice_52 : decode cX12_twice 52 = .ok (.ireturn, 1) := by decide +kernel
theorem dX12_twice_53 : decode cX12_twice 53 = .ok (.aload_n 0, 1) := by decide +kernel
theorem dX12_twice_54 : decode cX12_twice 54 = .ok (.getfield 166, 3) := by decide +kernel
theorem dX12_twice_57 : decode cX12_twice 57 = .ok (.aload_n 0, 1) := by decide +kernel
theorem dX12_twice_58 : decode cX12_twice 58 = .ok (.getfield 470, 3) := by decide +kernel
theorem dX12_twice_61 : decode cX12_twice 61 = .ok (.iload_n 1, 1) := by decide +kernel
theorem dX12_twice_62 : decode cX12_twice 62 = .ok (.iastore, 1) := by decide +kernel
theorem dX12_twice_63 : decode cX12_twice 63 = .ok (.aload_n 0, 1) := by decide +kernel
theorem dX12_twice_64 : decode cX12_twice 64 = .ok (.getfield 169, 3) := by decide +kernel
theorem dX12_twice_67 : decode cX12_twice 67 = .ok (.aload_n 0, 1) := by decide +kernel
theorem dX12_twice_68 : decode cX12_twice 68 = .ok (.getfield 470, 3) := by decide +kernel
theorem dX12_twice_71 : decode cX12_twice 71 = .ok (.iload_n 2, 1) := by decide +kernel
theorem dX12_twice_72 : decode cX12_twice 72 = .ok (.iastore, 1) := by decide +kernel
theorem dX12_twice_73 : decode cX12_twice 73 = .ok (.aload_n 0, 1) := by decide +kernel
theorem dX12_twice_74 : decode cX12_twice 74 = .ok (.getfield 172, 3) := by decide +kernel
theorem dX12_twice_77 : decode cX12_twice 77 = .ok (.aload_n 0, 1) := by decide +kernel
theorem dX12_twice_78 : decode cX12_twice 78 = .ok (.getfield 470, 3) := by decide +kernel
theorem dX12_twice_81 : decode cX12_twice 81 = .ok (.iload_n 3, 1) := by decide +kernel
theorem dX12_twice_82 : decode cX12_twice 82 = .ok (.iastore, 1) := by decide +kernel
theorem dX12_twice_83 : decode cX12_twice 83 = .ok (.aload_n 0, 1) := by decide +kernel
theorem dX12_twice_84 : decode cX12_twice 84 = .ok (.getfield 175, 3) := by decide +kernel
theorem dX12_twice_87 : decode cX12_twice 87 = .ok (.aload_n 0, 1) := by decide +kernel
theorem dX12_twice_88 : decode cX12_twice 88 = .ok (.getfield 470, 3) := by decide +kernel
theorem dX12_twice_91 : decode cX12_twice 91 = .ok (.iload 4, 2) := by decide +kernel
theorem dX12_twice_93 : decode cX12_twice 93 = .ok (.iastore, 1) := by decide +kernel
theorem dX12_twice_94 : decode cX12_twice 94 = .ok (.aload_n 0, 1) := by decide +kernel
theorem dX12_twice_95 : decode cX12_twice 95 = .ok (.aload_n 0, 1) := by decide +kernel
theorem dX12_twice_96 : decode cX12_twice 96 = .ok (.getfield 470, 3) := by decide +kernel
theorem dX12_twice_99 : decode cX12_twice 99 = .ok (.iconst 1, 1) := by decide +kernel
theorem dX12_twice_100 : decode cX12_twice 100 = .ok (.iadd, 1) := by decide +kernel
theorem dX12_twice_101 : decode cX12_twice 101 = .ok (.putfield 470, 3) := by decide +kernel
theorem dX12_twice_104 : decode cX12_twice 104 = .ok (.aload_n 0, 1) := by decide +kernel
theorem dX12_twice_105 : decode cX12_twice 105 = .ok (.getfield 470, 3) := by decide +kernel
theorem dX12_twice_108 : decode cX12_twice 108 = .ok (.ireturn, 1) := by decide +kernel
theorem dX12_types_0 : decode cX12_types 0 = .ok (.iconst 3, 1) := by decide +kernel
theorem dX12_types_1 : decode cX12_types 1 = .ok (.istore_n 2, 1) := by decide +kernel
theorem dX12_types_2 : decode cX12_types 2 = .ok (.iload_n 2, 1) := by decide +kernel
theorem dX12_types_3 : decode cX12_types 3 = .ok (.ifCond .lt 35, 3) := by decide +kernel
theorem dX12_types_6 : decode cX12_types 6 = .ok (.aload_n 0, 1) := by decide +kernel
theorem dX12_types_7 : decode cX12_types 7 = .ok (.getfield 68, 3) := by decide +kernel
theorem dX12_types_10 : decode cX12_types 10 = .ok (.aload_n 0, 1) := by decide +kernel
theorem dX12_types_11 : decode cX12_types 11 = .ok (.getfield 255, 3) := by decide +kernel
theorem dX12_types_14 : decode cX12_types 14 = .ok (.iload_n 1, 1) := by decide +kernel
theorem dX12_types_15 : decode cX12_types 15 = .ok (.bipush 8, 2) := by decide +kernel
theorem dX12_types_17 : decode cX12_types 17 = .ok (.iload_n 2, 1) := by decide +kernel
theorem dX12_types_18 : decode cX12_types 18 = .ok (.imul, 1) := by decide +kernel
theorem dX12_types_19 : decode cX12_types 19 = .ok (.ishr, 1) := by decide +kernel
theorem dX12_types_20 : decode cX12_types 20 = .ok (.i2b, 1) := by decide +kernel
theorem dX12_types_21 : decode cX12_types 21 = .ok (.bastore, 1) := by decide +kernel
theorem dX12_types_22 : decode cX12_types 22 = .ok (.aload_n 0, 1) := by decide +kernel
theorem dX12_types_23 : decode cX12_types 23 = .ok (.aload_n 0, 1) := by decide +kernel
theorem dX12_types_24 : decode cX12_types 24 = .ok (.getfield 255, 3) := by decide +kernel
theorem dX12_types_27 : decode cX12_types 27 = .ok (.iconst 1, 1) := by decide +kernel
theorem dX12_types_28 : decode cX12_types 28 = .ok (.iadd, 1) := by decide +kernel
theorem dX12_types_29 : decode cX12_types 29 = .ok (.putfield 255, 3) := by decide +kernel
theorem dX12_types_32 : decode cX12_types 32 = .ok (.iinc 2 (-1), 3) := by decide +kernel
theorem dX12_types_35 : decode cX12_types 35 = .ok (.goto (-33), 3) := by decide +kernel
theorem dX12_types_38 : decode cX12_types 38 = .ok (.return_, 1) := by decide +kernel
theorem dX12_wrong_0 : decode cX12_wrong 0 = .ok (.iload_n 1, 1) := by decide +kernel
theorem dX12_wrong_1 : decode cX12_wrong 1 = .ok (.iconst (-1), 1) := by decide +kernel
theorem dX12_wrong_2 : decode cX12_wrong 2 = .ok (.if_icmp .ge 5, 3) := by decide +kernel
theorem dX12_wrong_5 : decode cX12_wrong 5 = .ok (.iconst (-1), 1) := by decide +kernel
theorem dX12_wrong_6 : decode cX12_wrong 6 = .ok (.ireturn, 1) := by decide +kernel
theorem dX12_wrong_7 : decode cX12_wrong 7 = .ok (.aload_n 0, 1) := by decide +kernel
theorem dX12_wrong_8 : decode cX12_wrong 8 = .ok (.invokevirtual 497, 3) := by decide +kernel
theorem dX12_wrong_11 : decode cX12_wrong 11 = .ok (.iconst 0, 1) := by decide +kernel
theorem dX12_wrong_12 : decode cX12_wrong 12 = .ok (.istore_n 2, 1) := by decide +kernel
theorem dX12_wrong_13 : decode cX12_wrong 13 = .ok (.iconst 0, 1) := by decide +kernel
theorem dX12_wrong_14 : decode cX12_wrong 14 = .ok (.istore_n 3, 1) := by decide +kernel
theorem dX12_wrong_15 : decode cX12_wrong 15 = .ok (.iload_n 3, 1) := by decide +kernel
theorem dX12_wrong_16 : decode cX12_wrong 16 = .ok (.aload_n 0, 1) := by decide +kernel
theorem dX12_wrong_17 : decode cX12_wrong 17 = .ok (.getfield 486, 3) := by decide +kernel
theorem dX12_wrong_20 : decode cX12_wrong 20 = .ok (.if_icmp .ge 32, 3) := by decide +kernel
theorem dX12_wrong_52 : decode cX12_wrong 52 = .ok (.iload_n 1, 1) := by decide +kernel
theorem dX12_wrong_53 : decode cX12_wrong 53 = .ok (.iconst (-1), 1) := by decide +kernel
theorem dX12_wrong_54 : decode cX12_wrong 54 = .ok (.if_icmp .ne 7, 3) := by decide +kernel
theorem dX12_wrong_57 : decode cX12_wrong 57 = .ok (.iload_n 2, 1) := by decide +kernel
theorem dX12_wrong_58 : decode cX12_wrong 58 = .ok (.goto 4, 3) := by decide +kernel
theorem dX12_wrong_61 : decode cX12_wrong 61 = .ok (.iconst (-1), 1) := by decide +kernel
theorem dX12_wrong_62 : decode cX12_wrong 62 = .ok (.ireturn, 1) := by decide +kernel
set_option maxHeartbeats 4000000 in
set_option maxRecDepth 100000 in
theorem c_X12_life (l : Launch) (D : va_G) (cy : Nat → ClassId) (a : Nat → Nat) (i : Nat → Int32) (r : Nat → Nat → Int32) (rl : Nat → Int64) (p0 p1 : Int32) (sz : Nat) (hf : mZ i) : Met l yX12_life (Cond.code yX12_life cX12_life 3 (some .boolean) :: gT) { frames := 2, cells := 0, slots := 0, locals := 46 } (va_Pc [.ref (a 0), .int p0, .int p1] (rQ D cy (mW cy a i r rl) sz)) (va_Qi (fun (z : Int32) (u : Unit) => BR z ((0 ≤ p0.toInt ∧ p0.toInt ≤ 7) ∧ (1 ≤ p1.toInt ∧ p1.toInt ≤ 360)) 1 0) (fun _ _ => True) (va_A (mW cy a i r rl) sz)) 0 0 (va_A (mW cy a i r rl) sz) := by
  refine Met.ofQ (cc := cX12_life) (maxL := 3) (ret := (some .boolean)) (by decide) rfl ?_
  intro p e s m args below meth c s₁ B hml hv Q hQ
  obtain ⟨rfl, hsz, hP, hK, hD0⟩ := hv
  have hx := B.exec
  have hb := B.bytes
  have hr := B.returns
  have hlocks := B.notSynchronized
  have hT : ∀ w ∈ gT, w.before _ s = true := fun w h => atoms_spec (ws := (Cond.code yX12_life cX12_life 3 (some .boolean) :: gT)) B.pre w (List.mem_cons_of_mem _ h)
  have hown : s.vm.findClass RX12 = some m.cls := findClass_of_methodNamed B.named
  subst hsz
  have hD := hD0.self (sz := s.heap.size)
  generalize hAe : va_A (mW cy a i r rl) s.heap.size = A at hD hQ
  have hA : ∀ q : Nat, s.heap.size ≤ q → A q := fun q h => by rw [← hAe]; exact Or.inr h
  have hS : va_S A s.heap s.heap [] := va_S.rf
  have hl := lv_entry ([.ref (a 0), .int p0, .int p1]) (n := 3) (Nat.le_of_ble_eq_true rfl)
  rw [lg_entry_eq]
  generalize (lg_sl ([.ref (a 0), .int p0, .int p1]) ++ List.replicate (3 - (lg_sl ([.ref (a 0), .int p0, .int p1])).length) Slot.unset).toArray = ls at hl ⊢
  have hl : lv_has ls 3 [(0, .ref (a 0)), (1, .int p0), (2, .int p1)] := hl
  refine lv_iload_n hx hb dX12_life_0 rfl (lv_at hl 1 rfl) ?_
  refine vp_callSi (W.runS (As := [.int p0]) (rest := []) ⟨hx, hb, hml, hown, hT⟩ (c_X12_isKind l p0) (va_cwS 1 hT (gS t_30 t_31 t_32 t_8) rfl rfl rfl (by decide +kernel) ⟨Nat.le_of_ble_eq_true rfl, Nat.le_of_ble_eq_true rfl⟩) preT rfl rfl hl.1 rfl (lv_room (Nat.le_of_ble_eq_true rfl)) dX12_life_1 ⟨Nat.le_of_ble_eq_true rfl, Nat.le_of_ble_eq_true rfl⟩) (fun r_1 hr_1 => ?_)
  have hr_1 : BR r_1 (0 ≤ p0.toInt ∧ p0.toInt ≤ 7) 1 0 := hr_1
  rcases hr_1 with ⟨rfl, h_2⟩ | ⟨rfl, h_2⟩
  · skip
    refine lv_if_eq (tgt := 18) hx hb dX12_life_4 (by decide) (fun c_3 => absurd c_3 (by decide)) (fun c_3 => ?_)
    refine lv_iload_n hx hb dX12_life_7 rfl (lv_at hl 2 rfl) ?_
    refine lv_iconst (v := 1) hx hb dX12_life_8 (by decide) ?_
    refine lv_sipush (v := 360) hx hb dX12_life_9 (by decide) ?_
    refine vp_callSi (W.runS (As := [.int p1, .int 1, .int 360]) (rest := []) ⟨hx, hb, hml, hown, hT⟩ (c_X12_in l p1 1 360) (va_cwS 3 hT (gS t_12 t_13 t_14 t_8) rfl rfl rfl (by decide +kernel) ⟨Nat.le_of_ble_eq_true rfl, Nat.le_of_ble_eq_true rfl⟩) preT rfl rfl hl.1 rfl (lv_room (Nat.le_of_ble_eq_true rfl)) dX12_life_12 ⟨Nat.le_of_ble_eq_true rfl, Nat.le_of_ble_eq_true rfl⟩) (fun r_4 hr_4 => ?_)
    have hr_4 : BR r_4 (1 ≤ p1.toInt ∧ p1.toInt ≤ 360) 1 0 := hr_4
    rcases hr_4 with ⟨rfl, h_5⟩ | ⟨rfl, h_5⟩
    · skip
      refine lv_if_ne (tgt := 20) hx hb dX12_life_15 (by decide) (fun c_6 => ?_) (fun c_6 => absurd c_6 (by decide))
      refine lv_aload_n hx hb dX12_life_20 rfl (lv_at hl 0 rfl) ?_
      refine va_get (D := D) (ci := 12) (v := .ref (a 1)) (C := RX12) (T := TX12) (N := 91) hx hb hT iX12 hown hK hP 0 rfl rfl 2 (by decide) (hT _ t_73) (fun _ h9 => h9) rfl dX12_life_21 ?_
      refine lv_iload_n hx hb dX12_life_24 rfl (lv_at hl 1 rfl) ?_
      refine lv_iload_n hx hb dX12_life_25 rfl (lv_at hl 2 rfl) ?_
      refine va_iast hx hb hK hP hD hS 1 0 rfl rfl (vp_inI (by omega) (by omega)) dX12_life_26 (fun H locs hP hD hS => ?_)
      rw [mS1] at hP hD
      refine lv_iconst (v := 1) hx hb dX12_life_27 (by decide) ?_
      subst hQ
      exact W.zret hx hb hr rfl (fun t ht hW => ⟨⟨_, (), rfl, Or.inl ⟨rfl, by omega⟩, trivial⟩, hS.F ht⟩) hS.2.2 dX12_life_28
    · skip
      refine lv_if_ne (tgt := 20) hx hb dX12_life_15 (by decide) (fun c_7 => absurd (by decide) c_7) (fun c_7 => ?_)
      refine lv_iconst (v := 0) hx hb dX12_life_18 (by decide) ?_
      subst hQ
      exact W.zret hx hb hr rfl (fun t ht hW => ⟨⟨_, (), rfl, Or.inr ⟨rfl, by omega⟩, trivial⟩, hS.F ht⟩) hS.2.2 dX12_life_19
  · skip
    refine lv_if_eq (tgt := 18) hx hb dX12_life_4 (by decide) (fun c_8 => ?_) (fun c_8 => absurd (by decide) c_8)
    refine lv_iconst (v := 0) hx hb dX12_life_18 (by decide) ?_
    subst hQ
    exact W.zret hx hb hr rfl (fun t ht hW => ⟨⟨_, (), rfl, Or.inr ⟨rfl, by omega⟩, trivial⟩, hS.F ht⟩) hS.2.2 dX12_life_19
set_option maxHeartbeats 4000000 in
set_option maxRecDepth 100000 in
theorem c_X12_price (l : Launch) (D : va_G) (cy : Nat → ClassId) (a : Nat → Nat) (i : Nat → Int32) (r : Nat → Nat → Int32) (rl : Nat → Int64) (p0 p1 p2 : Int32) (sz : Nat) (hf : mZ i) : Met l yX12_price (Cond.code yX12_price cX12_price 4 (some .boolean) :: gT) { frames := 2, cells := 0, slots := 0, locals := 46 } (va_Pc [.ref (a 0), .int p0, .int p1, .int p2] (rQ D cy (mW cy a i r rl) sz)) (va_Qi (fun (z : Int32) (u : Unit) => BR z ((0 ≤ p0.toInt ∧ p0.toInt ≤ 7) ∧ (0 ≤ p1.toInt ∧ p1.toInt ≤ 3) ∧ (0 ≤ p2.toInt ∧ p2.toInt ≤ 99999)) 1 0) (fun _ _ => True) (va_A (mW cy a i r rl) sz)) 0 0 (va_A (mW cy a i r rl) sz) := by
  refine Met.ofQ (cc := cX12_price) (maxL := 4) (ret := (some .boolean)) (by decide) rfl ?_
  intro p e s m args below meth c s₁ B hml hv Q hQ
  obtain ⟨rfl, hsz, hP, hK, hD0⟩ := hv
  have hx := B.exec
  have hb := B.bytes
  have hr := B.returns
  have hlocks := B.notSynchronized
  have hT : ∀ w ∈ gT, w.before _ s = true := fun w h => atoms_spec (ws := (Cond.code yX12_price cX12_price 4 (some .boolean) :: gT)) B.pre w (List.mem_cons_of_mem _ h)
  have hown : s.vm.findClass RX12 = some m.cls := findClass_of_methodNamed B.named
  subst hsz
  have hD := hD0.self (sz := s.heap.size)
  generalize hAe : va_A (mW cy a i r rl) s.heap.size = A at hD hQ
  have hA : ∀ q : Nat, s.heap.size ≤ q → A q := fun q h => by rw [← hAe]; exact Or.inr h
  have hS : va_S A s.heap s.heap [] := va_S.rf
  have hl := lv_entry ([.ref (a 0), .int p0, .int p1, .int p2]) (n := 4) (Nat.le_of_ble_eq_true rfl)
  rw [lg_entry_eq]
  generalize (lg_sl ([.ref (a 0), .int p0, .int p1, .int p2]) ++ List.replicate (4 - (lg_sl ([.ref (a 0), .int p0, .int p1, .int p2])).length) Slot.unset).toArray = ls at hl ⊢
  have hl : lv_has ls 4 [(0, .ref (a 0)), (1, .int p0), (2, .int p1), (3, .int p2)] := hl
  refine lv_iload_n hx hb dX12_price_0 rfl (lv_at hl 1 rfl) ?_
  refine vp_callSi (W.runS (As := [.int p0]) (rest := []) ⟨hx, hb, hml, hown, hT⟩ (c_X12_isKind l p0) (va_cwS 1 hT (gS t_30 t_31 t_32 t_8) rfl rfl rfl (by decide +kernel) ⟨Nat.le_of_ble_eq_true rfl, Nat.le_of_ble_eq_true rfl⟩) preT rfl rfl hl.1 rfl (lv_room (Nat.le_of_ble_eq_true rfl)) dX12_price_1 ⟨Nat.le_of_ble_eq_true rfl, Nat.le_of_ble_eq_true rfl⟩) (fun r_1 hr_1 => ?_)
  have hr_1 : BR r_1 (0 ≤ p0.toInt ∧ p0.toInt ≤ 7) 1 0 := hr_1
  rcases hr_1 with ⟨rfl, h_2⟩ | ⟨rfl, h_2⟩
  · skip
    refine lv_if_eq (tgt := 26) hx hb dX12_price_4 (by decide) (fun c_3 => absurd c_3 (by decide)) (fun c_3 => ?_)
    refine lv_iload_n hx hb dX12_price_7 rfl (lv_at hl 2 rfl) ?_
    refine lv_iconst (v := 0) hx hb dX12_price_8 (by decide) ?_
    refine lv_iconst (v := 3) hx hb dX12_price_9 (by decide) ?_
    refine vp_callSi (W.runS (As := [.int p1, .int 0, .int 3]) (rest := []) ⟨hx, hb, hml, hown, hT⟩ (c_X12_in l p1 0 3) (va_cwS 3 hT (gS t_12 t_13 t_14 t_8) rfl rfl rfl (by decide +kernel) ⟨Nat.le_of_ble_eq_true rfl, Nat.le_of_ble_eq_true rfl⟩) preT rfl rfl hl.1 rfl (lv_room (Nat.le_of_ble_eq_true rfl)) dX12_price_10 ⟨Nat.le_of_ble_eq_true rfl, Nat.le_of_ble_eq_true rfl⟩) (fun r_4 hr_4 => ?_)
    have hr_4 : BR r_4 (0 ≤ p1.toInt ∧ p1.toInt ≤ 3) 1 0 := hr_4
    rcases hr_4 with ⟨rfl, h_5⟩ | ⟨rfl, h_5⟩
    · skip
      refine lv_if_eq (tgt := 26) hx hb dX12_price_13 (by decide) (fun c_6 => absurd c_6 (by decide)) (fun c_6 => ?_)
      refine lv_iload_n hx hb dX12_price_16 rfl (lv_at hl 3 rfl) ?_
      refine lv_iconst (v := 0) hx hb dX12_price_17 (by decide) ?_
      refine lv_ldc (v := 99999) hx hb hown (hT _ t_74) dX12_price_18 ?_
      refine vp_callSi (W.runS (As := [.int p2, .int 0, .int 99999]) (rest := []) ⟨hx, hb, hml, hown, hT⟩ (c_X12_in l p2 0 99999) (va_cwS 3 hT (gS t_12 t_13 t_14 t_8) rfl rfl rfl (by decide +kernel) ⟨Nat.le_of_ble_eq_true rfl, Nat.le_of_ble_eq_true rfl⟩) preT rfl rfl hl.1 rfl (lv_room (Nat.le_of_ble_eq_true rfl)) dX12_price_20 ⟨Nat.le_of_ble_eq_true rfl, Nat.le_of_ble_eq_true rfl⟩) (fun r_7 hr_7 => ?_)
      have hr_7 : BR r_7 (0 ≤ p2.toInt ∧ p2.toInt ≤ 99999) 1 0 := hr_7
      rcases hr_7 with ⟨rfl, h_8⟩ | ⟨rfl, h_8⟩
      · skip
        refine lv_if_ne (tgt := 28) hx hb dX12_price_23 (by decide) (fun c_9 => ?_) (fun c_9 => absurd c_9 (by decide))
        refine lv_aload_n hx hb dX12_price_28 rfl (lv_at hl 0 rfl) ?_
        refine va_get (D := D) (ci := 12) (v := .ref (a 2)) (C := RX12) (T := TX12) (N := 91) hx hb hT iX12 hown hK hP 0 rfl rfl 3 (by decide) (hT _ t_75) (fun _ h9 => h9) rfl dX12_price_29 ?_
        refine lv_iconst (v := 4) hx hb dX12_price_32 (by decide) ?_
        refine lv_iload_n hx hb dX12_price_33 rfl (lv_at hl 1 rfl) ?_
        refine lv_imul hx hb dX12_price_34 ?_
        refine lv_topi (fun v_10 ev_10 => ?_)
        have hv_10 : v_10.toInt = 4 * p0.toInt := by rw [ev_10]; have := b_rg p0; exact i_mul (a := 4) (b := p0.toInt) rfl rfl (by omega) (by omega)
        refine lv_iload_n hx hb dX12_price_35 rfl (lv_at hl 2 rfl) ?_
        refine lv_iadd hx hb dX12_price_36 ?_
        refine lv_topi (fun v_11 ev_11 => ?_)
        have hv_11 : v_11.toInt = v_10.toInt + p1.toInt := by rw [ev_11]; have := b_rg v_10; have := b_rg p1; exact i_add (a := v_10.toInt) (b := p1.toInt) rfl rfl (by omega) (by omega)
        refine lv_iload_n hx hb dX12_price_37 rfl (lv_at hl 3 rfl) ?_
        refine va_iast hx hb hK hP hD hS 2 0 rfl rfl (vp_inI (by omega) (by omega)) dX12_price_38 (fun H locs hP hD hS => ?_)
        rw [mS2] at hP hD
        refine lv_iconst (v := 1) hx hb dX12_price_39 (by decide) ?_
        subst hQ
        exact W.zret hx hb hr rfl (fun t ht hW => ⟨⟨_, (), rfl, Or.inl ⟨rfl, by omega⟩, trivial⟩, hS.F ht⟩) hS.2.2 dX12_price_40
      · skip
        refine lv_if_ne (tgt := 28) hx hb dX12_price_23 (by decide) (fun c_12 => absurd (by decide) c_12) (fun c_12 => ?_)
        refine lv_iconst (v := 0) hx hb dX12_price_26 (by decide) ?_
        subst hQ
        exact W.zret hx hb hr rfl (fun t ht hW => ⟨⟨_, (), rfl, Or.inr ⟨rfl, by omega⟩, trivial⟩, hS.F ht⟩) hS.2.2 dX12_price_27
    · skip
      refine lv_if_eq (tgt := 26) hx hb dX12_price_13 (by decide) (fun c_13 => ?_) (fun c_13 => absurd (by decide) c_13)
      refine lv_iconst (v := 0) hx hb dX12_price_26 (by decide) ?_
      subst hQ
      exact W.zret hx hb hr rfl (fun t ht hW => ⟨⟨_, (), rfl, Or.inr ⟨rfl, by omega⟩, trivial⟩, hS.F ht⟩) hS.2.2 dX12_price_27
  · skip
    refine lv_if_eq (tgt := 26) hx hb dX12_price_4 (by decide) (fun c_14 => ?_) (fun c_14 => absurd (by decide) c_14)
    refine lv_iconst (v := 0) hx hb dX12_price_26 (by decide) ?_
    subst hQ
    exact W.zret hx hb hr rfl (fun t ht hW => ⟨⟨_, (), rfl, Or.inr ⟨rfl, by omega⟩, trivial⟩, hS.F ht⟩) hS.2.2 dX12_price_27
set_option maxHeartbeats 4000000 in
set_option maxRecDepth 100000 in
theorem c_X12_home (l : Launch) (D : va_G) (cy : Nat → ClassId) (a : Nat → Nat) (i : Nat → Int32) (r : Nat → Nat → Int32) (rl : Nat → Int64) (p0 p1 p2 p3 p4 p5 : Int32) (sz : Nat) (hf : mZ i) : Met l yX12_home (Cond.code yX12_home cX12_home 8 (some .int) :: gT) { frames := 2, cells := 0, slots := 0, locals := 46 } (va_Pc [.ref (a 0), .int p0, .int p1, .int p2, .int p3, .int p4, .int p5] (rQ D cy (mW cy a i r rl) sz)) (va_Qi (fun (z : Int32) (u : Unit) => BR z ((0 ≤ p0.toInt ∧ p0.toInt ≤ 3) ∧ (1 ≤ p1.toInt ∧ p1.toInt ≤ 4) ∧ (0 ≤ p2.toInt ∧ p2.toInt ≤ 999999) ∧ (0 ≤ p3.toInt ∧ p3.toInt ≤ 999) ∧ p3.toInt ≤ p4.toInt ∧ p4.toInt ≤ 999) 0 (-1)) (fun _ _ => True) (va_A (mW cy a i r rl) sz)) 0 0 (va_A (mW cy a i r rl) sz) := by
  refine Met.ofQ (cc := cX12_home) (maxL := 8) (ret := (some .int)) (by decide) rfl ?_
  intro p e s m args below meth c s₁ B hml hv Q hQ
  obtain ⟨rfl, hsz, hP, hK, hD0⟩ := hv
  have hx := B.exec
  have hb := B.bytes
  have hr := B.returns
  have hlocks := B.notSynchronized
  have hT : ∀ w ∈ gT, w.before _ s = true := fun w h => atoms_spec (ws := (Cond.code yX12_home cX12_home 8 (some .int) :: gT)) B.pre w (List.mem_cons_of_mem _ h)
  have hown : s.vm.findClass RX12 = some m.cls := findClass_of_methodNamed B.named
  subst hsz
  have hD := hD0.self (sz := s.heap.size)
  generalize hAe : va_A (mW cy a i r rl) s.heap.size = A at hD hQ
  have hA : ∀ q : Nat, s.heap.size ≤ q → A q := fun q h => by rw [← hAe]; exact Or.inr h
  have hS : va_S A s.heap s.heap [] := va_S.rf
  have hl := lv_entry ([.ref (a 0), .int p0, .int p1, .int p2, .int p3, .int p4, .int p5]) (n := 8) (Nat.le_of_ble_eq_true rfl)
  rw [lg_entry_eq]
  generalize (lg_sl ([.ref (a 0), .int p0, .int p1, .int p2, .int p3, .int p4, .int p5]) ++ List.replicate (8 - (lg_sl ([.ref (a 0), .int p0, .int p1, .int p2, .int p3, .int p4, .int p5])).length) Slot.unset).toArray = ls at hl ⊢
  have hl : lv_has ls 8 [(0, .ref (a 0)), (1, .int p0), (2, .int p1), (3, .int p2), (4, .int p3), (5, .int p4), (6, .int p5)] := hl
  refine lv_iload_n hx hb dX12_home_0 rfl (lv_at hl 1 rfl) ?_
  refine lv_iconst (v := 0) hx hb dX12_home_1 (by decide) ?_
  refine lv_iconst (v := 3) hx hb dX12_home_2 (by decide) ?_
  refine vp_callSi (W.runS (As := [.int p0, .int 0, .int 3]) (rest := []) ⟨hx, hb, hml, hown, hT⟩ (c_X12_in l p0 0 3) (va_cwS 3 hT (gS t_12 t_13 t_14 t_8) rfl rfl rfl (by decide +kernel) ⟨Nat.le_of_ble_eq_true rfl, Nat.le_of_ble_eq_true rfl⟩) preT rfl rfl hl.1 rfl (lv_room (Nat.le_of_ble_eq_true rfl)) dX12_home_3 ⟨Nat.le_of_ble_eq_true rfl, Nat.le_of_ble_eq_true rfl⟩) (fun r_1 hr_1 => ?_)
  have hr_1 : BR r_1 (0 ≤ p0.toInt ∧ p0.toInt ≤ 3) 1 0 := hr_1
  rcases hr_1 with ⟨rfl, h_2⟩ | ⟨rfl, h_2⟩
  · skip
    refine lv_if_eq (tgt := 59) hx hb dX12_home_6 (by decide) (fun c_3 => absurd c_3 (by decide)) (fun c_3 => ?_)
    refine lv_iload_n hx hb dX12_home_9 rfl (lv_at hl 2 rfl) ?_
    refine lv_iconst (v := 1) hx hb dX12_home_10 (by decide) ?_
    refine lv_iconst (v := 4) hx hb dX12_home_11 (by decide) ?_
    refine vp_callSi (W.runS (As := [.int p1, .int 1, .int 4]) (rest := []) ⟨hx, hb, hml, hown, hT⟩ (c_X12_in l p1 1 4) (va_cwS 3 hT (gS t_12 t_13 t_14 t_8) rfl rfl rfl (by decide +kernel) ⟨Nat.le_of_ble_eq_true rfl, Nat.le_of_ble_eq_true rfl⟩) preT rfl rfl hl.1 rfl (lv_room (Nat.le_of_ble_eq_true rfl)) dX12_home_12 ⟨Nat.le_of_ble_eq_true rfl, Nat.le_of_ble_eq_true rfl⟩) (fun r_4 hr_4 => ?_)
    have hr_4 : BR r_4 (1 ≤ p1.toInt ∧ p1.toInt ≤ 4) 1 0 := hr_4
    rcases hr_4 with ⟨rfl, h_5⟩ | ⟨rfl, h_5⟩
    · skip
      refine lv_if_eq (tgt := 59) hx hb dX12_home_15 (by decide) (fun c_6 => absurd c_6 (by decide)) (fun c_6 => ?_)
      refine lv_iload_n hx hb dX12_home_18 rfl (lv_at hl 3 rfl) ?_
      refine vp_callSi (W.runS (As := [.int p2]) (rest := []) ⟨hx, hb, hml, hown, hT⟩ (c_X12_isPence l p2) (va_cwS 1 hT (gS t_76 t_77 t_78 t_8) rfl rfl rfl (by decide +kernel) ⟨Nat.le_of_ble_eq_true rfl, Nat.le_of_ble_eq_true rfl⟩) preT rfl rfl hl.1 rfl (lv_room (Nat.le_of_ble_eq_true rfl)) dX12_home_19 ⟨Nat.le_of_ble_eq_true rfl, Nat.le_of_ble_eq_true rfl⟩) (fun r_7 hr_7 => ?_)
      have hr_7 : BR r_7 (0 ≤ p2.toInt ∧ p2.toInt ≤ 999999) 1 0 := hr_7
      rcases hr_7 with ⟨rfl, h_8⟩ | ⟨rfl, h_8⟩
      · skip
        refine lv_if_eq (tgt := 59) hx hb dX12_home_22 (by decide) (fun c_9 => absurd c_9 (by decide)) (fun c_9 => ?_)
        refine lv_iload hx hb dX12_home_25 (lv_at hl 4 rfl) ?_
        refine lv_iconst (v := 0) hx hb dX12_home_27 (by decide) ?_
        refine lv_sipush (v := 999) hx hb dX12_home_28 (by decide) ?_
        refine vp_callSi (W.runS (As := [.int p3, .int 0, .int 999]) (rest := []) ⟨hx, hb, hml, hown, hT⟩ (c_X12_in l p3 0 999) (va_cwS 3 hT (gS t_12 t_13 t_14 t_8) rfl rfl rfl (by decide +kernel) ⟨Nat.le_of_ble_eq_true rfl, Nat.le_of_ble_eq_true rfl⟩) preT rfl rfl hl.1 rfl (lv_room (Nat.le_of_ble_eq_true rfl)) dX12_home_31 ⟨Nat.le_of_ble_eq_true rfl, Nat.le_of_ble_eq_true rfl⟩) (fun r_10 hr_10 => ?_)
        have hr_10 : BR r_10 (0 ≤ p3.toInt ∧ p3.toInt ≤ 999) 1 0 := hr_10
        rcases hr_10 with ⟨rfl, h_11⟩ | ⟨rfl, h_11⟩
        · skip
          refine lv_if_eq (tgt := 59) hx hb dX12_home_34 (by decide) (fun c_12 => absurd c_12 (by decide)) (fun c_12 => ?_)
          refine lv_iload hx hb dX12_home_37 (lv_at hl 5 rfl) ?_
          refine lv_iload hx hb dX12_home_39 (lv_at hl 4 rfl) ?_
          refine lv_sipush (v := 999) hx hb dX12_home_41 (by decide) ?_
          refine vp_callSi (W.runS (As := [.int p4, .int p3, .int 999]) (rest := []) ⟨hx, hb, hml, hown, hT⟩ (c_X12_in l p4 p3 999) (va_cwS 3 hT (gS t_12 t_13 t_14 t_8) rfl rfl rfl (by decide +kernel) ⟨Nat.le_of_ble_eq_true rfl, Nat.le_of_ble_eq_true rfl⟩) preT rfl rfl hl.1 rfl (lv_room (Nat.le_of_ble_eq_true rfl)) dX12_home_44 ⟨Nat.le_of_ble_eq_true rfl, Nat.le_of_ble_eq_true rfl⟩) (fun r_13 hr_13 => ?_)
          have hr_13 : BR r_13 (p3.toInt ≤ p4.toInt ∧ p4.toInt ≤ 999) 1 0 := hr_13
          rcases hr_13 with ⟨rfl, h_14⟩ | ⟨rfl, h_14⟩
          · skip
            refine lv_if_eq (tgt := 59) hx hb dX12_home_47 (by decide) (fun c_15 => absurd c_15 (by decide)) (fun c_15 => ?_)
            refine lv_aload_n hx hb dX12_home_50 rfl (lv_at hl 0 rfl) ?_
            refine va_get (D := D) (ci := 12) (v := .int 0) (C := RX12) (T := TX12) (N := 91) hx hb hT iX12 hown hK hP 0 rfl rfl 0 (by decide) (hT _ t_5) (fun _ h9 => h9) (congrArg (fun z => some (Value.int z)) (hf.1 0 (by decide))) dX12_home_51 ?_
            refine lv_bipush (v := 6) hx hb dX12_home_54 (by decide) ?_
            refine lv_icmp_ne (tgt := 61) hx hb dX12_home_56 (by decide) (fun c_16 => ?_) (fun c_16 => absurd c_16 (by decide))
            refine lv_aload_n hx hb dX12_home_61 rfl (lv_at hl 0 rfl) ?_
            refine va_get (D := D) (ci := 12) (v := .ref (a 3)) (C := RX12) (T := TX12) (N := 91) hx hb hT iX12 hown hK hP 0 rfl rfl 4 (by decide) (hT _ t_79) (fun _ h9 => h9) rfl dX12_home_62 ?_
            refine lv_aload_n hx hb dX12_home_65 rfl (lv_at hl 0 rfl) ?_
            refine va_get (D := D) (ci := 12) (v := .int 0) (C := RX12) (T := TX12) (N := 91) hx hb hT iX12 hown hK hP 0 rfl rfl 0 (by decide) (hT _ t_5) (fun _ h9 => h9) (congrArg (fun z => some (Value.int z)) (hf.1 0 (by decide))) dX12_home_66 ?_
            refine lv_iload_n hx hb dX12_home_69 rfl (lv_at hl 1 rfl) ?_
            refine va_iast hx hb hK hP hD hS 3 0 rfl rfl (vp_inI (by decide) (by decide)) dX12_home_70 (fun H locs hP hD hS => ?_)
            rw [mS3] at hP hD
            refine lv_aload_n hx hb dX12_home_71 rfl (lv_at hl 0 rfl) ?_
            refine va_get (D := D) (ci := 12) (v := .ref (a 4)) (C := RX12) (T := TX12) (N := 91) hx hb hT iX12 hown hK hP 0 rfl rfl 5 (by decide) (hT _ t_80) (fun _ h9 => h9) rfl dX12_home_72 ?_
            refine lv_aload_n hx hb dX12_home_75 rfl (lv_at hl 0 rfl) ?_
            refine va_get (D := D) (ci := 12) (v := .int 0) (C := RX12) (T := TX12) (N := 91) hx hb hT iX12 hown hK hP 0 rfl rfl 0 (by decide) (hT _ t_5) (fun _ h9 => h9) (congrArg (fun z => some (Value.int z)) (hf.1 0 (by decide))) dX12_home_76 ?_
            refine lv_iload_n hx hb dX12_home_79 rfl (lv_at hl 2 rfl) ?_
            refine va_iast hx hb hK hP hD hS 4 0 rfl rfl (vp_inI (by decide) (by decide)) dX12_home_80 (fun H locs hP hD hS => ?_)
            rw [mS4] at hP hD
            refine lv_aload_n hx hb dX12_home_81 rfl (lv_at hl 0 rfl) ?_
            refine va_get (D := D) (ci := 12) (v := .ref (a 5)) (C := RX12) (T := TX12) (N := 91) hx hb hT iX12 hown hK hP 0 rfl rfl 6 (by decide) (hT _ t_81) (fun _ h9 => h9) rfl dX12_home_82 ?_
            refine lv_aload_n hx hb dX12_home_85 rfl (lv_at hl 0 rfl) ?_
            refine va_get (D := D) (ci := 12) (v := .int 0) (C := RX12) (T := TX12) (N := 91) hx hb hT iX12 hown hK hP 0 rfl rfl 0 (by decide) (hT _ t_5) (fun _ h9 => h9) (congrArg (fun z => some (Value.int z)) (hf.1 0 (by decide))) dX12_home_86 ?_
            refine lv_iload_n hx hb dX12_home_89 rfl (lv_at hl 3 rfl) ?_
            refine va_iast hx hb hK hP hD hS 5 0 rfl rfl (vp_inI (by decide) (by decide)) dX12_home_90 (fun H locs hP hD hS => ?_)
            rw [mS5] at hP hD
            refine lv_aload_n hx hb dX12_home_91 rfl (lv_at hl 0 rfl) ?_
            refine va_get (D := D) (ci := 12) (v := .ref (a 6)) (C := RX12) (T := TX12) (N := 91) hx hb hT iX12 hown hK hP 0 rfl rfl 7 (by decide) (hT _ t_82) (fun _ h9 => h9) rfl dX12_home_92 ?_
            refine lv_aload_n hx hb dX12_home_95 rfl (lv_at hl 0 rfl) ?_
            refine va_get (D := D) (ci := 12) (v := .int 0) (C := RX12) (T := TX12) (N := 91) hx hb hT iX12 hown hK hP 0 rfl rfl 0 (by decide) (hT _ t_5) (fun _ h9 => h9) (congrArg (fun z => some (Value.int z)) (hf.1 0 (by decide))) dX12_home_96 ?_
            refine lv_iload hx hb dX12_home_99 (lv_at hl 4 rfl) ?_
            refine va_iast hx hb hK hP hD hS 6 0 rfl rfl (vp_inI (by decide) (by decide)) dX12_home_101 (fun H locs hP hD hS => ?_)
            rw [mS6] at hP hD
            refine lv_aload_n hx hb dX12_home_102 rfl (lv_at hl 0 rfl) ?_
            refine va_get (D := D) (ci := 12) (v := .ref (a 7)) (C := RX12) (T := TX12) (N := 91) hx hb hT iX12 hown hK hP 0 rfl rfl 8 (by decide) (hT _ t_83) (fun _ h9 => h9) rfl dX12_home_103 ?_
            refine lv_aload_n hx hb dX12_home_106 rfl (lv_at hl 0 rfl) ?_
            refine va_get (D := D) (ci := 12) (v := .int 0) (C := RX12) (T := TX12) (N := 91) hx hb hT iX12 hown hK hP 0 rfl rfl 0 (by decide) (hT _ t_5) (fun _ h9 => h9) (congrArg (fun z => some (Value.int z)) (hf.1 0 (by decide))) dX12_home_107 ?_
            refine lv_iload hx hb dX12_home_110 (lv_at hl 5 rfl) ?_
            refine va_iast hx hb hK hP hD hS 7 0 rfl rfl (vp_inI (by decide) (by decide)) dX12_home_112 (fun H locs hP hD hS => ?_)
            rw [mS7] at hP hD
            refine lv_aload_n hx hb dX12_home_113 rfl (lv_at hl 0 rfl) ?_
            refine va_get (D := D) (ci := 12) (v := .ref (a 19)) (C := RX12) (T := TX12) (N := 91) hx hb hT iX12 hown hK hP 0 rfl rfl 20 (by decide) (hT _ t_84) (fun _ h9 => h9) rfl dX12_home_114 ?_
            refine lv_aload_n hx hb dX12_home_117 rfl (lv_at hl 0 rfl) ?_
            refine va_get (D := D) (ci := 12) (v := .int 0) (C := RX12) (T := TX12) (N := 91) hx hb hT iX12 hown hK hP 0 rfl rfl 0 (by decide) (hT _ t_5) (fun _ h9 => h9) (congrArg (fun z => some (Value.int z)) (hf.1 0 (by decide))) dX12_home_118 ?_
            refine lv_iload hx hb dX12_home_121 (lv_at hl 6 rfl) ?_
            refine va_zast hx hb hK hP hD hS 19 2 rfl rfl (vp_inI (by decide) (by decide)) dX12_home_123 (fun H locs hP hD hS => ?_)
            rw [mS19] at hP hD
            refine lv_iconst (v := 0) hx hb dX12_home_124 (by decide) ?_
            refine lv_istore (lv' := [(7, .int 0), (0, .ref (a 0)), (1, .int p0), (2, .int p1), (3, .int p2), (4, .int p3), (5, .int p4), (6, .int p5)]) hx hb dX12_home_125 hl (by decide) rfl (fun ls hl => ?_)
            refine lv_iload hx hb dX12_home_127 (lv_at hl 0 rfl) ?_
            refine lv_iconst (v := 4) hx hb dX12_home_129 (by decide) ?_
            refine lv_icmp_ge (tgt := 154) hx hb dX12_home_130 (by decide) (fun c_17 => absurd c_17 (by decide)) (fun c_17 => ?_)
            refine lv_aload_n hx hb dX12_home_133 rfl (lv_at hl 1 rfl) ?_
            refine va_get (D := D) (ci := 12) (v := .ref (a 8)) (C := RX12) (T := TX12) (N := 91) hx hb hT iX12 hown hK hP 0 rfl rfl 9 (by decide) (hT _ t_85) (fun _ h9 => h9) rfl dX12_home_134 ?_
            refine lv_iconst (v := 4) hx hb dX12_home_137 (by decide) ?_
            refine lv_aload_n hx hb dX12_home_138 rfl (lv_at hl 1 rfl) ?_
            refine va_get (D := D) (ci := 12) (v := .int 0) (C := RX12) (T := TX12) (N := 91) hx hb hT iX12 hown hK hP 0 rfl rfl 0 (by decide) (hT _ t_5) (fun _ h9 => h9) (congrArg (fun z => some (Value.int z)) (hf.1 0 (by decide))) dX12_home_139 ?_
            refine lv_imul hx hb dX12_home_142 ?_
            refine lv_topi (fun v_18 ev_18 => ?_)
            obtain rfl : v_18 = 0 := ev_18.trans (by decide)
            refine lv_iload hx hb dX12_home_143 (lv_at hl 0 rfl) ?_
            refine lv_iadd hx hb dX12_home_145 ?_
            refine lv_topi (fun v_19 ev_19 => ?_)
            obtain rfl : v_19 = 0 := ev_19.trans (by decide)
            refine lv_iconst (v := 1) hx hb dX12_home_146 (by decide) ?_
            refine va_iast hx hb hK hP hD hS 8 0 rfl rfl (vp_inI (by decide) (by decide)) dX12_home_147 (fun H locs hP hD hS => ?_)
            rw [mS8] at hP hD
            obtain ⟨x_20, ex_20⟩ : ∃ y : Int32, y = (0 : Int32) + 1 := ⟨_, rfl⟩
            refine lv_iinc (v := x_20) (lv' := [(7, .int x_20), (0, .ref (a 0)), (1, .int p0), (2, .int p1), (3, .int p2), (4, .int p3), (5, .int p4), (6, .int p5)]) hx hb dX12_home_148 hl (k := 0) rfl (by rw [ex_20]; rfl) (by decide) rfl (fun ls hl => ?_)
            obtain rfl : x_20 = 1 := ex_20.trans (by decide)
            refine lv_goto (tgt := 127) hx hb dX12_home_151 (by decide) ?_
            refine lv_iload hx hb dX12_home_127 (lv_at hl 0 rfl) ?_
            refine lv_iconst (v := 4) hx hb dX12_home_129 (by decide) ?_
            refine lv_icmp_ge (tgt := 154) hx hb dX12_home_130 (by decide) (fun c_21 => absurd c_21 (by decide)) (fun c_21 => ?_)
            refine lv_aload_n hx hb dX12_home_133 rfl (lv_at hl 1 rfl) ?_
            refine va_get (D := D) (ci := 12) (v := .ref (a 8)) (C := RX12) (T := TX12) (N := 91) hx hb hT iX12 hown hK hP 0 rfl rfl 9 (by decide) (hT _ t_85) (fun _ h9 => h9) rfl dX12_home_134 ?_
            refine lv_iconst (v := 4) hx hb dX12_home_137 (by decide) ?_
            refine lv_aload_n hx hb dX12_home_138 rfl (lv_at hl 1 rfl) ?_
            refine va_get (D := D) (ci := 12) (v := .int 0) (C := RX12) (T := TX12) (N := 91) hx hb hT iX12 hown hK hP 0 rfl rfl 0 (by decide) (hT _ t_5) (fun _ h9 => h9) (congrArg (fun z => some (Value.int z)) (hf.1 0 (by decide))) dX12_home_139 ?_
            refine lv_imul hx hb dX12_home_142 ?_
            refine lv_topi (fun v_22 ev_22 => ?_)
            obtain rfl : v_22 = 0 := ev_22.trans (by decide)
            refine lv_iload hx hb dX12_home_143 (lv_at hl 0 rfl) ?_
            refine lv_iadd hx hb dX12_home_145 ?_
            refine lv_topi (fun v_23 ev_23 => ?_)
            obtain rfl : v_23 = 1 := ev_23.trans (by decide)
            refine lv_iconst (v := 1) hx hb dX12_home_146 (by decide) ?_
            refine va_iast hx hb hK hP hD hS 8 0 rfl rfl (vp_inI (by decide) (by decide)) dX12_home_147 (fun H locs hP hD hS => ?_)
            rw [mS8] at hP hD
            obtain ⟨x_24, ex_24⟩ : ∃ y : Int32, y = (1 : Int32) + 1 := ⟨_, rfl⟩
            refine lv_iinc (v := x_24) (lv' := [(7, .int x_24), (0, .ref (a 0)), (1, .int p0), (2, .int p1), (3, .int p2), (4, .int p3), (5, .int p4), (6, .int p5)]) hx hb dX12_home_148 hl (k := 0) rfl (by rw [ex_24]; rfl) (by decide) rfl (fun ls hl => ?_)
            obtain rfl : x_24 = 2 := ex_24.trans (by decide)
            refine lv_goto (tgt := 127) hx hb dX12_home_151 (by decide) ?_
            refine lv_iload hx hb dX12_home_127 (lv_at hl 0 rfl) ?_
            refine lv_iconst (v := 4) hx hb dX12_home_129 (by decide) ?_
            refine lv_icmp_ge (tgt := 154) hx hb dX12_home_130 (by decide) (fun c_25 => absurd c_25 (by decide)) (fun c_25 => ?_)
            refine lv_aload_n hx hb dX12_home_133 rfl (lv_at hl 1 rfl) ?_
            refine va_get (D := D) (ci := 12) (v := .ref (a 8)) (C := RX12) (T := TX12) (N := 91) hx hb hT iX12 hown hK hP 0 rfl rfl 9 (by decide) (hT _ t_85) (fun _ h9 => h9) rfl dX12_home_134 ?_
            refine lv_iconst (v := 4) hx hb dX12_home_137 (by decide) ?_
            refine lv_aload_n hx hb dX12_home_138 rfl (lv_at hl 1 rfl) ?_
            refine va_get (D := D) (ci := 12) (v := .int 0) (C := RX12) (T := TX12) (N := 91) hx hb hT iX12 hown hK hP 0 rfl rfl 0 (by decide) (hT _ t_5) (fun _ h9 => h9) (congrArg (fun z => some (Value.int z)) (hf.1 0 (by decide))) dX12_home_139 ?_
            refine lv_imul hx hb dX12_home_142 ?_
            refine lv_topi (fun v_26 ev_26 => ?_)
            obtain rfl : v_26 = 0 := ev_26.trans (by decide)
            refine lv_iload hx hb dX12_home_143 (lv_at hl 0 rfl) ?_
            refine lv_iadd hx hb dX12_home_145 ?_
            refine lv_topi (fun v_27 ev_27 => ?_)
            obtain rfl : v_27 = 2 := ev_27.trans (by decide)
            refine lv_iconst (v := 1) hx hb dX12_home_146 (by decide) ?_
            refine va_iast hx hb hK hP hD hS 8 0 rfl rfl (vp_inI (by decide) (by decide)) dX12_home_147 (fun H locs hP hD hS => ?_)
            rw [mS8] at hP hD
            obtain ⟨x_28, ex_28⟩ : ∃ y : Int32, y = (2 : Int32) + 1 := ⟨_, rfl⟩
            refine lv_iinc (v := x_28) (lv' := [(7, .int x_28), (0, .ref (a 0)), (1, .int p0), (2, .int p1), (3, .int p2), (4, .int p3), (5, .int p4), (6, .int p5)]) hx hb dX12_home_148 hl (k := 0) rfl (by rw [ex_28]; rfl) (by decide) rfl (fun ls hl => ?_)
            obtain rfl : x_28 = 3 := ex_28.trans (by decide)
            refine lv_goto (tgt := 127) hx hb dX12_home_151 (by decide) ?_
            refine lv_iload hx hb dX12_home_127 (lv_at hl 0 rfl) ?_
            refine lv_iconst (v := 4) hx hb dX12_home_129 (by decide) ?_
            refine lv_icmp_ge (tgt := 154) hx hb dX12_home_130 (by decide) (fun c_29 => absurd c_29 (by decide)) (fun c_29 => ?_)
            refine lv_aload_n hx hb dX12_home_133 rfl (lv_at hl 1 rfl) ?_
            refine va_get (D := D) (ci := 12) (v := .ref (a 8)) (C := RX12) (T := TX12) (N := 91) hx hb hT iX12 hown hK hP 0 rfl rfl 9 (by decide) (hT _ t_85) (fun _ h9 => h9) rfl dX12_home_134 ?_
            refine lv_iconst (v := 4) hx hb dX12_home_137 (by decide) ?_
            refine lv_aload_n hx hb dX12_home_138 rfl (lv_at hl 1 rfl) ?_
            refine va_get (D := D) (ci := 12) (v := .int 0) (C := RX12) (T := TX12) (N := 91) hx hb hT iX12 hown hK hP 0 rfl rfl 0 (by decide) (hT _ t_5) (fun _ h9 => h9) (congrArg (fun z => some (Value.int z)) (hf.1 0 (by decide))) dX12_home_139 ?_
            refine lv_imul hx hb dX12_home_142 ?_
            refine lv_topi (fun v_30 ev_30 => ?_)
            obtain rfl : v_30 = 0 := ev_30.trans (by decide)
            refine lv_iload hx hb dX12_home_143 (lv_at hl 0 rfl) ?_
            refine lv_iadd hx hb dX12_home_145 ?_
            refine lv_topi (fun v_31 ev_31 => ?_)
            obtain rfl : v_31 = 3 := ev_31.trans (by decide)
            refine lv_iconst (v := 1) hx hb dX12_home_146 (by decide) ?_
            refine va_iast hx hb hK hP hD hS 8 0 rfl rfl (vp_inI (by decide) (by decide)) dX12_home_147 (fun H locs hP hD hS => ?_)
            rw [mS8] at hP hD
            obtain ⟨x_32, ex_32⟩ : ∃ y : Int32, y = (3 : Int32) + 1 := ⟨_, rfl⟩
            refine lv_iinc (v := x_32) (lv' := [(7, .int x_32), (0, .ref (a 0)), (1, .int p0), (2, .int p1), (3, .int p2), (4, .int p3), (5, .int p4), (6, .int p5)]) hx hb dX12_home_148 hl (k := 0) rfl (by rw [ex_32]; rfl) (by decide) rfl (fun ls hl => ?_)
            obtain rfl : x_32 = 4 := ex_32.trans (by decide)
            refine lv_goto (tgt := 127) hx hb dX12_home_151 (by decide) ?_
            refine lv_iload hx hb dX12_home_127 (lv_at hl 0 rfl) ?_
            refine lv_iconst (v := 4) hx hb dX12_home_129 (by decide) ?_
            refine lv_icmp_ge (tgt := 154) hx hb dX12_home_130 (by decide) (fun c_33 => ?_) (fun c_33 => absurd (by decide) c_33)
            refine lv_aload_n hx hb dX12_home_154 rfl (lv_at hl 1 rfl) ?_
            refine lv_aload_n hx hb dX12_home_155 rfl (lv_at hl 1 rfl) ?_
            refine va_get (D := D) (ci := 12) (v := .int 0) (C := RX12) (T := TX12) (N := 91) hx hb hT iX12 hown hK hP 0 rfl rfl 0 (by decide) (hT _ t_5) (fun _ h9 => h9) (congrArg (fun z => some (Value.int z)) (hf.1 0 (by decide))) dX12_home_156 ?_
            refine lv_iconst (v := 1) hx hb dX12_home_159 (by decide) ?_
            refine lv_iadd hx hb dX12_home_160 ?_
            refine lv_topi (fun v_34 ev_34 => ?_)
            obtain rfl : v_34 = 1 := ev_34.trans (by decide)
            refine va_put (D := D) (ci := 12) (v := .int 1) (ty := .int) (C := RX12) (T := TX12) (N := 91) hx hb hT iX12 tyX12 tyX12_ok nmX12 hown hK hP hD hS 0 rfl rfl 0 (by decide) (hT _ t_5) (fun _ h9 => h9) rfl (by decide +kernel) rfl rfl (Nat.le_of_ble_eq_true rfl) dX12_home_161 (fun H locs hP hD hS => ?_)
            rw [mP0] at hP hD
            refine lv_aload_n hx hb dX12_home_164 rfl (lv_at hl 1 rfl) ?_
            refine va_get (D := D) (ci := 12) (v := .int 1) (C := RX12) (T := TX12) (N := 91) hx hb hT iX12 hown hK hP 0 rfl rfl 0 (by decide) (hT _ t_5) (fun _ h9 => h9) rfl dX12_home_165 ?_
            refine lv_iconst (v := 1) hx hb dX12_home_168 (by decide) ?_
            refine lv_isub hx hb dX12_home_169 ?_
            refine lv_topi (fun v_35 ev_35 => ?_)
            obtain rfl : v_35 = 0 := ev_35.trans (by decide)
            subst hQ
            exact W.iret (v := 0) hx hb hr (fun t ht hW => ⟨⟨_, (), rfl, Or.inl ⟨rfl, by omega⟩, trivial⟩, hS.F ht⟩) hS.2.2 dX12_home_170
          · skip
            refine lv_if_eq (tgt := 59) hx hb dX12_home_47 (by decide) (fun c_36 => ?_) (fun c_36 => absurd (by decide) c_36)
            refine lv_iconst (v := (-1)) hx hb dX12_home_59 (by decide) ?_
            subst hQ
            exact W.iret (v := (-1)) hx hb hr (fun t ht hW => ⟨⟨_, (), rfl, Or.inr ⟨rfl, by omega⟩, trivial⟩, hS.F ht⟩) hS.2.2 dX12_home_60
        · skip
          refine lv_if_eq (tgt := 59) hx hb dX12_home_34 (by decide) (fun c_37 => ?_) (fun c_37 => absurd (by decide) c_37)
          refine lv_iconst (v := (-1)) hx hb dX12_home_59 (by decide) ?_
          subst hQ
          exact W.iret (v := (-1)) hx hb hr (fun t ht hW => ⟨⟨_, (), rfl, Or.inr ⟨rfl, by omega⟩, trivial⟩, hS.F ht⟩) hS.2.2 dX12_home_60
      · skip
        refine lv_if_eq (tgt := 59) hx hb dX12_home_22 (by decide) (fun c_38 => ?_) (fun c_38 => absurd (by decide) c_38)
        refine lv_iconst (v := (-1)) hx hb dX12_home_59 (by decide) ?_
        subst hQ
        exact W.iret (v := (-1)) hx hb hr (fun t ht hW => ⟨⟨_, (), rfl, Or.inr ⟨rfl, by omega⟩, trivial⟩, hS.F ht⟩) hS.2.2 dX12_home_60
    · skip
      refine lv_if_eq (tgt := 59) hx hb dX12_home_15 (by decide) (fun c_39 => ?_) (fun c_39 => absurd (by decide) c_39)
      refine lv_iconst (v := (-1)) hx hb dX12_home_59 (by decide) ?_
      subst hQ
      exact W.iret (v := (-1)) hx hb hr (fun t ht hW => ⟨⟨_, (), rfl, Or.inr ⟨rfl, by omega⟩, trivial⟩, hS.F ht⟩) hS.2.2 dX12_home_60
  · skip
    refine lv_if_eq (tgt := 59) hx hb dX12_home_6 (by decide) (fun c_40 => ?_) (fun c_40 => absurd (by decide) c_40)
    refine lv_iconst (v := (-1)) hx hb dX12_home_59 (by decide) ?_
    subst hQ
    exact W.iret (v := (-1)) hx hb hr (fun t ht hW => ⟨⟨_, (), rfl, Or.inr ⟨rfl, by omega⟩, trivial⟩, hS.F ht⟩) hS.2.2 dX12_home_60
set_option maxHeartbeats 4000000 in
set_option maxRecDepth 100000 in
theorem c_X12_seed (l : Launch) (D : va_G) (cy : Nat → ClassId) (a : Nat → Nat) (i : Nat → Int32) (r : Nat → Nat → Int32) (rl : Nat → Int64) (p0 : Int32) (sz : Nat) (hf : mZ i) : Met l yX12_seed (Cond.code yX12_seed cX12_seed 2 (some .boolean) :: gT) { frames := 2, cells := 0, slots := 0, locals := 46 } (va_Pc [.ref (a 0), .int p0] (rQ D cy (mW cy a i r rl) sz)) (va_Qi (fun (z : Int32) (u : Unit) => BR z (0 ≤ p0.toInt ∧ p0.toInt ≤ 65535) 1 0) (fun _ _ => True) (va_A (mW cy a i r rl) sz)) 0 0 (va_A (mW cy a i r rl) sz) := by
  refine Met.ofQ (cc := cX12_seed) (maxL := 2) (ret := (some .boolean)) (by decide) rfl ?_
  intro p e s m args below meth c s₁ B hml hv Q hQ
  obtain ⟨rfl, hsz, hP, hK, hD0⟩ := hv
  have hx := B.exec
  have hb := B.bytes
  have hr := B.returns
  have hlocks := B.notSynchronized
  have hT : ∀ w ∈ gT, w.before _ s = true := fun w h => atoms_spec (ws := (Cond.code yX12_seed cX12_seed 2 (some .boolean) :: gT)) B.pre w (List.mem_cons_of_mem _ h)
  have hown : s.vm.findClass RX12 = some m.cls := findClass_of_methodNamed B.named
  subst hsz
  have hD := hD0.self (sz := s.heap.size)
  generalize hAe : va_A (mW cy a i r rl) s.heap.size = A at hD hQ
  have hA : ∀ q : Nat, s.heap.size ≤ q → A q := fun q h => by rw [← hAe]; exact Or.inr h
  have hS : va_S A s.heap s.heap [] := va_S.rf
  have hl := lv_entry ([.ref (a 0), .int p0]) (n := 2) (Nat.le_of_ble_eq_true rfl)
  rw [lg_entry_eq]
  generalize (lg_sl ([.ref (a 0), .int p0]) ++ List.replicate (2 - (lg_sl ([.ref (a 0), .int p0])).length) Slot.unset).toArray = ls at hl ⊢
  have hl : lv_has ls 2 [(0, .ref (a 0)), (1, .int p0)] := hl
  refine lv_iload_n hx hb dX12_seed_0 rfl (lv_at hl 1 rfl) ?_
  refine lv_iconst (v := 0) hx hb dX12_seed_1 (by decide) ?_
  refine lv_ldcw (v := 65535) hx hb hown (hT _ t_86) dX12_seed_2 ?_
  refine vp_callSi (W.runS (As := [.int p0, .int 0, .int 65535]) (rest := []) ⟨hx, hb, hml, hown, hT⟩ (c_X12_in l p0 0 65535) (va_cwS 3 hT (gS t_12 t_13 t_14 t_8) rfl rfl rfl (by decide +kernel) ⟨Nat.le_of_ble_eq_true rfl, Nat.le_of_ble_eq_true rfl⟩) preT rfl rfl hl.1 rfl (lv_room (Nat.le_of_ble_eq_true rfl)) dX12_seed_5 ⟨Nat.le_of_ble_eq_true rfl, Nat.le_of_ble_eq_true rfl⟩) (fun r_1 hr_1 => ?_)
  have hr_1 : BR r_1 (0 ≤ p0.toInt ∧ p0.toInt ≤ 65535) 1 0 := hr_1
  rcases hr_1 with ⟨rfl, h_2⟩ | ⟨rfl, h_2⟩
  · skip
    refine lv_if_ne (tgt := 13) hx hb dX12_seed_8 (by decide) (fun c_3 => ?_) (fun c_3 => absurd c_3 (by decide))
    refine lv_aload_n hx hb dX12_seed_13 rfl (lv_at hl 0 rfl) ?_
    refine lv_iload_n hx hb dX12_seed_14 rfl (lv_at hl 1 rfl) ?_
    refine va_put (D := D) (ci := 12) (v := .int p0) (ty := .int) (C := RX12) (T := TX12) (N := 91) hx hb hT iX12 tyX12 tyX12_ok nmX12 hown hK hP hD hS 0 rfl rfl 1 (by decide) (hT _ t_38) (fun _ h9 => h9) rfl (by decide +kernel) rfl rfl (Nat.le_of_ble_eq_true rfl) dX12_seed_15 (fun H locs hP hD hS => ?_)
    rw [mP1] at hP hD
    refine lv_iconst (v := 1) hx hb dX12_seed_18 (by decide) ?_
    subst hQ
    exact W.zret hx hb hr rfl (fun t ht hW => ⟨⟨_, (), rfl, Or.inl ⟨rfl, by omega⟩, trivial⟩, hS.F ht⟩) hS.2.2 dX12_seed_19
  · skip
    refine lv_if_ne (tgt := 13) hx hb dX12_seed_8 (by decide) (fun c_4 => absurd (by decide) c_4) (fun c_4 => ?_)
    refine lv_iconst (v := 0) hx hb dX12_seed_11 (by decide) ?_
    subst hQ
    exact W.zret hx hb hr rfl (fun t ht hW => ⟨⟨_, (), rfl, Or.inr ⟨rfl, by omega⟩, trivial⟩, hS.F ht⟩) hS.2.2 dX12_seed_12
set_option maxHeartbeats 4000000 in
set_option maxRecDepth 100000 in
theorem c_X12_twice (l : Launch) (D : va_G) (cy : Nat → ClassId) (a : Nat → Nat) (i : Nat → Int32) (r : Nat → Nat → Int32) (rl : Nat → Int64) (p0 p1 p2 p3 : Int32) (sz : Nat) (hf : mZ i) : Met l yX12_twice (Cond.code yX12_twice cX12_twice 5 (some .int) :: gT) { frames := 2, cells := 0, slots := 0, locals := 46 } (va_Pc [.ref (a 0), .int p0, .int p1, .int p2, .int p3] (rQ D cy (mW cy a i r rl) sz)) (va_Qi (fun (z : Int32) (u : Unit) => BR z ((0 ≤ p0.toInt ∧ p0.toInt ≤ 5) ∧ (0 ≤ p1.toInt ∧ p1.toInt ≤ 5) ∧ p0.toInt ≠ p1.toInt ∧ (0 ≤ p2.toInt ∧ p2.toInt ≤ 9999) ∧ (0 ≤ p3.toInt ∧ p3.toInt ≤ 9999)) 1 (-1)) (fun _ _ => True) (va_A (mW cy a i r rl) sz)) 0 0 (va_A (mW cy a i r rl) sz) := by
  refine Met.ofQ (cc := cX12_twice) (maxL := 5) (ret := (some .int)) (by decide) rfl ?_
  intro p e s m args below meth c s₁ B hml hv Q hQ
  obtain ⟨rfl, hsz, hP, hK, hD0⟩ := hv
  have hx := B.exec
  have hb := B.bytes
  have hr := B.returns
  have hlocks := B.notSynchronized
  have hT : ∀ w ∈ gT, w.before _ s = true := fun w h => atoms_spec (ws := (Cond.code yX12_twice cX12_twice 5 (some .int) :: gT)) B.pre w (List.mem_cons_of_mem _ h)
  have hown : s.vm.findClass RX12 = some m.cls := findClass_of_methodNamed B.named
  subst hsz
  have hD := hD0.self (sz := s.heap.size)
  generalize hAe : va_A (mW cy a i r rl) s.heap.size = A at hD hQ
  have hA : ∀ q : Nat, s.heap.size ≤ q → A q := fun q h => by rw [← hAe]; exact Or.inr h
  have hS : va_S A s.heap s.heap [] := va_S.rf
  have hl := lv_entry ([.ref (a 0), .int p0, .int p1, .int p2, .int p3]) (n := 5) (Nat.le_of_ble_eq_true rfl)
  rw [lg_entry_eq]
  generalize (lg_sl ([.ref (a 0), .int p0, .int p1, .int p2, .int p3]) ++ List.replicate (5 - (lg_sl ([.ref (a 0), .int p0, .int p1, .int p2, .int p3])).length) Slot.unset).toArray = ls at hl ⊢
  have hl : lv_has ls 5 [(0, .ref (a 0)), (1, .int p0), (2, .int p1), (3, .int p2), (4, .int p3)] := hl
  refine lv_iload_n hx hb dX12_twice_0 rfl (lv_at hl 1 rfl) ?_
  refine vp_callSi (W.runS (As := [.int p0]) (rest := []) ⟨hx, hb, hml, hown, hT⟩ (c_X12_isJudge l p0) (va_cwS 1 hT (gS t_24 t_25 t_26 t_8) rfl rfl rfl (by decide +kernel) ⟨Nat.le_of_ble_eq_true rfl, Nat.le_of_ble_eq_true rfl⟩) preT rfl rfl hl.1 rfl (lv_room (Nat.le_of_ble_eq_true rfl)) dX12_twice_1 ⟨Nat.le_of_ble_eq_true rfl, Nat.le_of_ble_eq_true rfl⟩) (fun r_1 hr_1 => ?_)
  have hr_1 : BR r_1 (0 ≤ p0.toInt ∧ p0.toInt ≤ 5) 1 0 := hr_1
  rcases hr_1 with ⟨rfl, h_2⟩ | ⟨rfl, h_2⟩
  · skip
    refine lv_if_eq (tgt := 51) hx hb dX12_twice_4 (by decide) (fun c_3 => absurd c_3 (by decide)) (fun c_3 => ?_)
    refine lv_iload_n hx hb dX12_twice_7 rfl (lv_at hl 2 rfl) ?_
    refine vp_callSi (W.runS (As := [.int p1]) (rest := []) ⟨hx, hb, hml, hown, hT⟩ (c_X12_isJudge l p1) (va_cwS 1 hT (gS t_24 t_25 t_26 t_8) rfl rfl rfl (by decide +kernel) ⟨Nat.le_of_ble_eq_true rfl, Nat.le_of_ble_eq_true rfl⟩) preT rfl rfl hl.1 rfl (lv_room (Nat.le_of_ble_eq_true rfl)) dX12_twice_8 ⟨Nat.le_of_ble_eq_true rfl, Nat.le_of_ble_eq_true rfl⟩) (fun r_4 hr_4 => ?_)
    have hr_4 : BR r_4 (0 ≤ p1.toInt ∧ p1.toInt ≤ 5) 1 0 := hr_4
    rcases hr_4 with ⟨rfl, h_5⟩ | ⟨rfl, h_5⟩
    · skip
      refine lv_if_eq (tgt := 51) hx hb dX12_twice_11 (by decide) (fun c_6 => absurd c_6 (by decide)) (fun c_6 => ?_)
      refine lv_iload_n hx hb dX12_twice_14 rfl (lv_at hl 1 rfl) ?_
      refine lv_iload_n hx hb dX12_twice_15 rfl (lv_at hl 2 rfl) ?_
      refine lv_icmp_eq (tgt := 51) hx hb dX12_twice_16 (by decide) (fun c_7 => ?_) (fun c_7 => ?_)
      · have c_7 : p0.toInt = p1.toInt := b_eq c_7
        refine lv_iconst (v := (-1)) hx hb dX12_twice_51 (by decide) ?_
        subst hQ
        exact W.iret (v := (-1)) hx hb hr (fun t ht hW => ⟨⟨_, (), rfl, Or.inr ⟨rfl, by omega⟩, trivial⟩, hS.F ht⟩) hS.2.2 dX12_twice_52
      · have c_7 : p0.toInt ≠ p1.toInt := b_ne c_7
        refine lv_iload_n hx hb dX12_twice_19 rfl (lv_at hl 3 rfl) ?_
        refine lv_iconst (v := 0) hx hb dX12_twice_20 (by decide) ?_
        refine lv_sipush (v := 9999) hx hb dX12_twice_21 (by decide) ?_
        refine vp_callSi (W.runS (As := [.int p2, .int 0, .int 9999]) (rest := []) ⟨hx, hb, hml, hown, hT⟩ (c_X12_in l p2 0 9999) (va_cwS 3 hT (gS t_12 t_13 t_14 t_8) rfl rfl rfl (by decide +kernel) ⟨Nat.le_of_ble_eq_true rfl, Nat.le_of_ble_eq_true rfl⟩) preT rfl rfl hl.1 rfl (lv_room (Nat.le_of_ble_eq_true rfl)) dX12_twice_24 ⟨Nat.le_of_ble_eq_true rfl, Nat.le_of_ble_eq_true rfl⟩) (fun r_8 hr_8 => ?_)
        have hr_8 : BR r_8 (0 ≤ p2.toInt ∧ p2.toInt ≤ 9999) 1 0 := hr_8
        rcases hr_8 with ⟨rfl, h_9⟩ | ⟨rfl, h_9⟩
        · skip
          refine lv_if_eq (tgt := 51) hx hb dX12_twice_27 (by decide) (fun c_10 => absurd c_10 (by decide)) (fun c_10 => ?_)
          refine lv_iload hx hb dX12_twice_30 (lv_at hl 4 rfl) ?_
          refine lv_iconst (v := 0) hx hb dX12_twice_32 (by decide) ?_
          refine lv_sipush (v := 9999) hx hb dX12_twice_33 (by decide) ?_
          refine vp_callSi (W.runS (As := [.int p3, .int 0, .int 9999]) (rest := []) ⟨hx, hb, hml, hown, hT⟩ (c_X12_in l p3 0 9999) (va_cwS 3 hT (gS t_12 t_13 t_14 t_8) rfl rfl rfl (by decide +kernel) ⟨Nat.le_of_ble_eq_true rfl, Nat.le_of_ble_eq_true rfl⟩) preT rfl rfl hl.1 rfl (lv_room (Nat.le_of_ble_eq_true rfl)) dX12_twice_36 ⟨Nat.le_of_ble_eq_true rfl, Nat.le_of_ble_eq_true rfl⟩) (fun r_11 hr_11 => ?_)
          have hr_11 : BR r_11 (0 ≤ p3.toInt ∧ p3.toInt ≤ 9999) 1 0 := hr_11
          rcases hr_11 with ⟨rfl, h_12⟩ | ⟨rfl, h_12⟩
          · skip
            refine lv_if_eq (tgt := 51) hx hb dX12_twice_39 (by decide) (fun c_13 => absurd c_13 (by decide)) (fun c_13 => ?_)
            refine lv_aload_n hx hb dX12_twice_42 rfl (lv_at hl 0 rfl) ?_
            refine va_get (D := D) (ci := 12) (v := .int 0) (C := RX12) (T := TX12) (N := 91) hx hb hT iX12 hown hK hP 0 rfl rfl 63 (by decide) (hT _ t_27) (fun _ h9 => h9) (congrArg (fun z => some (Value.int z)) (hf.1 63 (by decide))) dX12_twice_43 ?_
            refine lv_bipush (v := 40) hx hb dX12_twice_46 (by decide) ?_
            refine lv_icmp_ne (tgt := 53) hx hb dX12_twice_48 (by decide) (fun c_14 => ?_) (fun c_14 => absurd c_14 (by decide))
            refine lv_aload_n hx hb dX12_twice_53 rfl (lv_at hl 0 rfl) ?_
            refine va_get (D := D) (ci := 12) (v := .ref (a 52)) (C := RX12) (T := TX12) (N := 91) hx hb hT iX12 hown hK hP 0 rfl rfl 66 (by decide) (hT _ t_87) (fun _ h9 => h9) rfl dX12_twice_54 ?_
            refine lv_aload_n hx hb dX12_twice_57 rfl (lv_at hl 0 rfl) ?_
            refine va_get (D := D) (ci := 12) (v := .int 0) (C := RX12) (T := TX12) (N := 91) hx hb hT iX12 hown hK hP 0 rfl rfl 63 (by decide) (hT _ t_27) (fun _ h9 => h9) (congrArg (fun z => some (Value.int z)) (hf.1 63 (by decide))) dX12_twice_58 ?_
            refine lv_iload_n hx hb dX12_twice_61 rfl (lv_at hl 1 rfl) ?_
            refine va_iast hx hb hK hP hD hS 52 0 rfl rfl (vp_inI (by decide) (by decide)) dX12_twice_62 (fun H locs hP hD hS => ?_)
            rw [mS52] at hP hD
            refine lv_aload_n hx hb dX12_twice_63 rfl (lv_at hl 0 rfl) ?_
            refine va_get (D := D) (ci := 12) (v := .ref (a 53)) (C := RX12) (T := TX12) (N := 91) hx hb hT iX12 hown hK hP 0 rfl rfl 67 (by decide) (hT _ t_88) (fun _ h9 => h9) rfl dX12_twice_64 ?_
            refine lv_aload_n hx hb dX12_twice_67 rfl (lv_at hl 0 rfl) ?_
            refine va_get (D := D) (ci := 12) (v := .int 0) (C := RX12) (T := TX12) (N := 91) hx hb hT iX12 hown hK hP 0 rfl rfl 63 (by decide) (hT _ t_27) (fun _ h9 => h9) (congrArg (fun z => some (Value.int z)) (hf.1 63 (by decide))) dX12_twice_68 ?_
            refine lv_iload_n hx hb dX12_twice_71 rfl (lv_at hl 2 rfl) ?_
            refine va_iast hx hb hK hP hD hS 53 0 rfl rfl (vp_inI (by decide) (by decide)) dX12_twice_72 (fun H locs hP hD hS => ?_)
            rw [mS53] at hP hD
            refine lv_aload_n hx hb dX12_twice_73 rfl (lv_at hl 0 rfl) ?_
            refine va_get (D := D) (ci := 12) (v := .ref (a 54)) (C := RX12) (T := TX12) (N := 91) hx hb hT iX12 hown hK hP 0 rfl rfl 68 (by decide) (hT _ t_89) (fun _ h9 => h9) rfl dX12_twice_74 ?_
            refine lv_aload_n hx hb dX12_twice_77 rfl (lv_at hl 0 rfl) ?_
            refine va_get (D := D) (ci := 12) (v := .int 0) (C := RX12) (T := TX12) (N := 91) hx hb hT iX12 hown hK hP 0 rfl rfl 63 (by decide) (hT _ t_27) (fun _ h9 => h9) (congrArg (fun z => some (Value.int z)) (hf.1 63 (by decide))) dX12_twice_78 ?_
            refine lv_iload_n hx hb dX12_twice_81 rfl (lv_at hl 3 rfl) ?_
            refine va_iast hx hb hK hP hD hS 54 0 rfl rfl (vp_inI (by decide) (by decide)) dX12_twice_82 (fun H locs hP hD hS => ?_)
            rw [mS54] at hP hD
            refine lv_aload_n hx hb dX12_twice_83 rfl (lv_at hl 0 rfl) ?_
            refine va_get (D := D) (ci := 12) (v := .ref (a 55)) (C := RX12) (T := TX12) (N := 91) hx hb hT iX12 hown hK hP 0 rfl rfl 69 (by decide) (hT _ t_90) (fun _ h9 => h9) rfl dX12_twice_84 ?_
            refine lv_aload_n hx hb dX12_twice_87 rfl (lv_at hl 0 rfl) ?_
            refine va_get (D := D) (ci := 12) (v := .int 0) (C := RX12) (T := TX12) (N := 91) hx hb hT iX12 hown hK hP 0 rfl rfl 63 (by decide) (hT _ t_27) (fun _ h9 => h9) (congrArg (fun z => some (Value.int z)) (hf.1 63 (by decide))) dX12_twice_88 ?_
            refine lv_iload hx hb dX12_twice_91 (lv_at hl 4 rfl) ?_
            refine va_iast hx hb hK hP hD hS 55 0 rfl rfl (vp_inI (by decide) (by decide)) dX12_twice_93 (fun H locs hP hD hS => ?_)
            rw [mS55] at hP hD
            refine lv_aload_n hx hb dX12_twice_94 rfl (lv_at hl 0 rfl) ?_
            refine lv_aload_n hx hb dX12_twice_95 rfl (lv_at hl 0 rfl) ?_
            refine va_get (D := D) (ci := 12) (v := .int 0) (C := RX12) (T := TX12) (N := 91) hx hb hT iX12 hown hK hP 0 rfl rfl 63 (by decide) (hT _ t_27) (fun _ h9 => h9) (congrArg (fun z => some (Value.int z)) (hf.1 63 (by decide))) dX12_twice_96 ?_
            refine lv_iconst (v := 1) hx hb dX12_twice_99 (by decide) ?_
            refine lv_iadd hx hb dX12_twice_100 ?_
            refine lv_topi (fun v_15 ev_15 => ?_)
            obtain rfl : v_15 = 1 := ev_15.trans (by decide)
            refine va_put (D := D) (ci := 12) (v := .int 1) (ty := .int) (C := RX12) (T := TX12) (N := 91) hx hb hT iX12 tyX12 tyX12_ok nmX12 hown hK hP hD hS 0 rfl rfl 63 (by decide) (hT _ t_27) (fun _ h9 => h9) rfl (by decide +kernel) rfl rfl (Nat.le_of_ble_eq_true rfl) dX12_twice_101 (fun H locs hP hD hS => ?_)
            rw [mP63] at hP hD
            refine lv_aload_n hx hb dX12_twice_104 rfl (lv_at hl 0 rfl) ?_
            refine va_get (D := D) (ci := 12) (v := .int 1) (C := RX12) (T := TX12) (N := 91) hx hb hT iX12 hown hK hP 0 rfl rfl 63 (by decide) (hT _ t_27) (fun _ h9 => h9) rfl dX12_twice_105 ?_
            subst hQ
            exact W.iret (v := 1) hx hb hr (fun t ht hW => ⟨⟨_, (), rfl, Or.inl ⟨rfl, by omega⟩, trivial⟩, hS.F ht⟩) hS.2.2 dX12_twice_108
          · skip
            refine lv_if_eq (tgt := 51) hx hb dX12_twice_39 (by decide) (fun c_16 => ?_) (fun c_16 => absurd (by decide) c_16)
            refine lv_iconst (v := (-1)) hx hb dX12_twice_51 (by decide) ?_
            subst hQ
            exact W.iret (v := (-1)) hx hb hr (fun t ht hW => ⟨⟨_, (), rfl, Or.inr ⟨rfl, by omega⟩, trivial⟩, hS.F ht⟩) hS.2.2 dX12_twice_52
        · skip
          refine lv_if_eq (tgt := 51) hx hb dX12_twice_27 (by decide) (fun c_17 => ?_) (fun c_17 => absurd (by decide) c_17)
          refine lv_iconst (v := (-1)) hx hb dX12_twice_51 (by decide) ?_
          subst hQ
          exact W.iret (v := (-1)) hx hb hr (fun t ht hW => ⟨⟨_, (), rfl, Or.inr ⟨rfl, by omega⟩, trivial⟩, hS.F ht⟩) hS.2.2 dX12_twice_52
    · skip
      refine lv_if_eq (tgt := 51) hx hb dX12_twice_11 (by decide) (fun c_18 => ?_) (fun c_18 => absurd (by decide) c_18)
      refine lv_iconst (v := (-1)) hx hb dX12_twice_51 (by decide) ?_
      subst hQ
      exact W.iret (v := (-1)) hx hb hr (fun t ht hW => ⟨⟨_, (), rfl, Or.inr ⟨rfl, by omega⟩, trivial⟩, hS.F ht⟩) hS.2.2 dX12_twice_52
  · skip
    refine lv_if_eq (tgt := 51) hx hb dX12_twice_4 (by decide) (fun c_19 => ?_) (fun c_19 => absurd (by decide) c_19)
    refine lv_iconst (v := (-1)) hx hb dX12_twice_51 (by decide) ?_
    subst hQ
    exact W.iret (v := (-1)) hx hb hr (fun t ht hW => ⟨⟨_, (), rfl, Or.inr ⟨rfl, by omega⟩, trivial⟩, hS.F ht⟩) hS.2.2 dX12_twice_52
set_option maxHeartbeats 4000000 in
set_option maxRecDepth 100000 in
theorem c_X12_fact (l : Launch) (D : va_G) (cy : Nat → ClassId) (a : Nat → Nat) (i : Nat → Int32) (r : Nat → Nat → Int32) (rl : Nat → Int64) (p0 p1 p2 : Int32) (sz : Nat) (hf : mZ i) : Met l yX12_fact (Cond.code yX12_fact cX12_fact 4 (some .int) :: gT) { frames := 2, cells := 0, slots := 0, locals := 46 } (va_Pc [.ref (a 0), .int p0, .int p1, .int p2] (rQ D cy (mW cy a i r rl) sz)) (va_Qi (fun (z : Int32) (u : Unit) => BR z ((0 ≤ p0.toInt ∧ p0.toInt ≤ 10) ∧ (0 ≤ p1.toInt ∧ p1.toInt ≤ 10) ∧ p0.toInt ≠ p1.toInt ∧ (-999 ≤ p2.toInt ∧ p2.toInt ≤ 999)) 1 (-1)) (fun _ _ => True) (va_A (mW cy a i r rl) sz)) 0 0 (va_A (mW cy a i r rl) sz) := by
  refine Met.ofQ (cc := cX12_fact) (maxL := 4) (ret := (some .int)) (by decide) rfl ?_
  intro p e s m args below meth c s₁ B hml hv Q hQ
  obtain ⟨rfl, hsz, hP, hK, hD0⟩ := hv
  have hx := B.exec
  have hb := B.bytes
  have hr := B.returns
  have hlocks := B.notSynchronized
  have hT : ∀ w ∈ gT, w.before _ s = true := fun w h => atoms_spec (ws := (Cond.code yX12_fact cX12_fact 4 (some .int) :: gT)) B.pre w (List.mem_cons_of_mem _ h)
  have hown : s.vm.findClass RX12 = some m.cls := findClass_of_methodNamed B.named
  subst hsz
  have hD := hD0.self (sz := s.heap.size)
  generalize hAe : va_A (mW cy a i r rl) s.heap.size = A at hD hQ
  have hA : ∀ q : Nat, s.heap.size ≤ q → A q := fun q h => by rw [← hAe]; exact Or.inr h
  have hS : va_S A s.heap s.heap [] := va_S.rf
  have hl := lv_entry ([.ref (a 0), .int p0, .int p1, .int p2]) (n := 4) (Nat.le_of_ble_eq_true rfl)
  rw [lg_entry_eq]
  generalize (lg_sl ([.ref (a 0), .int p0, .int p1, .int p2]) ++ List.replicate (4 - (lg_sl ([.ref (a 0), .int p0, .int p1, .int p2])).length) Slot.unset).toArray = ls at hl ⊢
  have hl : lv_has ls 4 [(0, .ref (a 0)), (1, .int p0), (2, .int p1), (3, .int p2)] := hl
  refine lv_iload_n hx hb dX12_fact_0 rfl (lv_at hl 1 rfl) ?_
  refine lv_iconst (v := 0) hx hb dX12_fact_1 (by decide) ?_
  refine lv_bipush (v := 10) hx hb dX12_fact_2 (by decide) ?_
  refine vp_callSi (W.runS (As := [.int p0, .int 0, .int 10]) (rest := []) ⟨hx, hb, hml, hown, hT⟩ (c_X12_in l p0 0 10) (va_cwS 3 hT (gS t_12 t_13 t_14 t_8) rfl rfl rfl (by decide +kernel) ⟨Nat.le_of_ble_eq_true rfl, Nat.le_of_ble_eq_true rfl⟩) preT rfl rfl hl.1 rfl (lv_room (Nat.le_of_ble_eq_true rfl)) dX12_fact_4 ⟨Nat.le_of_ble_eq_true rfl, Nat.le_of_ble_eq_true rfl⟩) (fun r_1 hr_1 => ?_)
  have hr_1 : BR r_1 (0 ≤ p0.toInt ∧ p0.toInt ≤ 10) 1 0 := hr_1
  rcases hr_1 with ⟨rfl, h_2⟩ | ⟨rfl, h_2⟩
  · skip
    refine lv_if_eq (tgt := 47) hx hb dX12_fact_7 (by decide) (fun c_3 => absurd c_3 (by decide)) (fun c_3 => ?_)
    refine lv_iload_n hx hb dX12_fact_10 rfl (lv_at hl 2 rfl) ?_
    refine lv_iconst (v := 0) hx hb dX12_fact_11 (by decide) ?_
    refine lv_bipush (v := 10) hx hb dX12_fact_12 (by decide) ?_
    refine vp_callSi (W.runS (As := [.int p1, .int 0, .int 10]) (rest := []) ⟨hx, hb, hml, hown, hT⟩ (c_X12_in l p1 0 10) (va_cwS 3 hT (gS t_12 t_13 t_14 t_8) rfl rfl rfl (by decide +kernel) ⟨Nat.le_of_ble_eq_true rfl, Nat.le_of_ble_eq_true rfl⟩) preT rfl rfl hl.1 rfl (lv_room (Nat.le_of_ble_eq_true rfl)) dX12_fact_14 ⟨Nat.le_of_ble_eq_true rfl, Nat.le_of_ble_eq_true rfl⟩) (fun r_4 hr_4 => ?_)
    have hr_4 : BR r_4 (0 ≤ p1.toInt ∧ p1.toInt ≤ 10) 1 0 := hr_4
    rcases hr_4 with ⟨rfl, h_5⟩ | ⟨rfl, h_5⟩
    · skip
      refine lv_if_eq (tgt := 47) hx hb dX12_fact_17 (by decide) (fun c_6 => absurd c_6 (by decide)) (fun c_6 => ?_)
      refine lv_iload_n hx hb dX12_fact_20 rfl (lv_at hl 1 rfl) ?_
      refine lv_iload_n hx hb dX12_fact_21 rfl (lv_at hl 2 rfl) ?_
      refine lv_icmp_eq (tgt := 47) hx hb dX12_fact_22 (by decide) (fun c_7 => ?_) (fun c_7 => ?_)
      · have c_7 : p0.toInt = p1.toInt := b_eq c_7
        refine lv_iconst (v := (-1)) hx hb dX12_fact_47 (by decide) ?_
        subst hQ
        exact W.iret (v := (-1)) hx hb hr (fun t ht hW => ⟨⟨_, (), rfl, Or.inr ⟨rfl, by omega⟩, trivial⟩, hS.F ht⟩) hS.2.2 dX12_fact_48
      · have c_7 : p0.toInt ≠ p1.toInt := b_ne c_7
        refine lv_iload_n hx hb dX12_fact_25 rfl (lv_at hl 3 rfl) ?_
        refine lv_sipush (v := (-999)) hx hb dX12_fact_26 (by decide) ?_
        refine lv_sipush (v := 999) hx hb dX12_fact_29 (by decide) ?_
        refine vp_callSi (W.runS (As := [.int p2, .int (-999), .int 999]) (rest := []) ⟨hx, hb, hml, hown, hT⟩ (c_X12_in l p2 (-999) 999) (va_cwS 3 hT (gS t_12 t_13 t_14 t_8) rfl rfl rfl (by decide +kernel) ⟨Nat.le_of_ble_eq_true rfl, Nat.le_of_ble_eq_true rfl⟩) preT rfl rfl hl.1 rfl (lv_room (Nat.le_of_ble_eq_true rfl)) dX12_fact_32 ⟨Nat.le_of_ble_eq_true rfl, Nat.le_of_ble_eq_true rfl⟩) (fun r_8 hr_8 => ?_)
        have hr_8 : BR r_8 ((-999) ≤ p2.toInt ∧ p2.toInt ≤ 999) 1 0 := hr_8
        rcases hr_8 with ⟨rfl, h_9⟩ | ⟨rfl, h_9⟩
        · skip
          refine lv_if_eq (tgt := 47) hx hb dX12_fact_35 (by decide) (fun c_10 => absurd c_10 (by decide)) (fun c_10 => ?_)
          refine lv_aload_n hx hb dX12_fact_38 rfl (lv_at hl 0 rfl) ?_
          refine va_get (D := D) (ci := 12) (v := .int 0) (C := RX12) (T := TX12) (N := 91) hx hb hT iX12 hown hK hP 0 rfl rfl 72 (by decide) (hT _ t_37) (fun _ h9 => h9) (congrArg (fun z => some (Value.int z)) (hf.1 72 (by decide))) dX12_fact_39 ?_
          refine lv_bipush (v := 30) hx hb dX12_fact_42 (by decide) ?_
          refine lv_icmp_ne (tgt := 49) hx hb dX12_fact_44 (by decide) (fun c_11 => ?_) (fun c_11 => absurd c_11 (by decide))
          refine lv_aload_n hx hb dX12_fact_49 rfl (lv_at hl 0 rfl) ?_
          refine va_get (D := D) (ci := 12) (v := .ref (a 58)) (C := RX12) (T := TX12) (N := 91) hx hb hT iX12 hown hK hP 0 rfl rfl 73 (by decide) (hT _ t_91) (fun _ h9 => h9) rfl dX12_fact_50 ?_
          refine lv_aload_n hx hb dX12_fact_53 rfl (lv_at hl 0 rfl) ?_
          refine va_get (D := D) (ci := 12) (v := .int 0) (C := RX12) (T := TX12) (N := 91) hx hb hT iX12 hown hK hP 0 rfl rfl 72 (by decide) (hT _ t_37) (fun _ h9 => h9) (congrArg (fun z => some (Value.int z)) (hf.1 72 (by decide))) dX12_fact_54 ?_
          refine lv_iload_n hx hb dX12_fact_57 rfl (lv_at hl 1 rfl) ?_
          refine va_iast hx hb hK hP hD hS 58 0 rfl rfl (vp_inI (by decide) (by decide)) dX12_fact_58 (fun H locs hP hD hS => ?_)
          rw [mS58] at hP hD
          refine lv_aload_n hx hb dX12_fact_59 rfl (lv_at hl 0 rfl) ?_
          refine va_get (D := D) (ci := 12) (v := .ref (a 59)) (C := RX12) (T := TX12) (N := 91) hx hb hT iX12 hown hK hP 0 rfl rfl 74 (by decide) (hT _ t_92) (fun _ h9 => h9) rfl dX12_fact_60 ?_
          refine lv_aload_n hx hb dX12_fact_63 rfl (lv_at hl 0 rfl) ?_
          refine va_get (D := D) (ci := 12) (v := .int 0) (C := RX12) (T := TX12) (N := 91) hx hb hT iX12 hown hK hP 0 rfl rfl 72 (by decide) (hT _ t_37) (fun _ h9 => h9) (congrArg (fun z => some (Value.int z)) (hf.1 72 (by decide))) dX12_fact_64 ?_
          refine lv_iload_n hx hb dX12_fact_67 rfl (lv_at hl 2 rfl) ?_
          refine va_iast hx hb hK hP hD hS 59 0 rfl rfl (vp_inI (by decide) (by decide)) dX12_fact_68 (fun H locs hP hD hS => ?_)
          rw [mS59] at hP hD
          refine lv_aload_n hx hb dX12_fact_69 rfl (lv_at hl 0 rfl) ?_
          refine va_get (D := D) (ci := 12) (v := .ref (a 60)) (C := RX12) (T := TX12) (N := 91) hx hb hT iX12 hown hK hP 0 rfl rfl 75 (by decide) (hT _ t_93) (fun _ h9 => h9) rfl dX12_fact_70 ?_
          refine lv_aload_n hx hb dX12_fact_73 rfl (lv_at hl 0 rfl) ?_
          refine va_get (D := D) (ci := 12) (v := .int 0) (C := RX12) (T := TX12) (N := 91) hx hb hT iX12 hown hK hP 0 rfl rfl 72 (by decide) (hT _ t_37) (fun _ h9 => h9) (congrArg (fun z => some (Value.int z)) (hf.1 72 (by decide))) dX12_fact_74 ?_
          refine lv_iload_n hx hb dX12_fact_77 rfl (lv_at hl 3 rfl) ?_
          refine va_iast hx hb hK hP hD hS 60 0 rfl rfl (vp_inI (by decide) (by decide)) dX12_fact_78 (fun H locs hP hD hS => ?_)
          rw [mS60] at hP hD
          refine lv_aload_n hx hb dX12_fact_79 rfl (lv_at hl 0 rfl) ?_
          refine lv_aload_n hx hb dX12_fact_80 rfl (lv_at hl 0 rfl) ?_
          refine va_get (D := D) (ci := 12) (v := .int 0) (C := RX12) (T := TX12) (N := 91) hx hb hT iX12 hown hK hP 0 rfl rfl 72 (by decide) (hT _ t_37) (fun _ h9 => h9) (congrArg (fun z => some (Value.int z)) (hf.1 72 (by decide))) dX12_fact_81 ?_
          refine lv_iconst (v := 1) hx hb dX12_fact_84 (by decide) ?_
          refine lv_iadd hx hb dX12_fact_85 ?_
          refine lv_topi (fun v_12 ev_12 => ?_)
          obtain rfl : v_12 = 1 := ev_12.trans (by decide)
          refine va_put (D := D) (ci := 12) (v := .int 1) (ty := .int) (C := RX12) (T := TX12) (N := 91) hx hb hT iX12 tyX12 tyX12_ok nmX12 hown hK hP hD hS 0 rfl rfl 72 (by decide) (hT _ t_37) (fun _ h9 => h9) rfl (by decide +kernel) rfl rfl (Nat.le_of_ble_eq_true rfl) dX12_fact_86 (fun H locs hP hD hS => ?_)
          rw [mP72] at hP hD
          refine lv_aload_n hx hb dX12_fact_89 rfl (lv_at hl 0 rfl) ?_
          refine va_get (D := D) (ci := 12) (v := .int 1) (C := RX12) (T := TX12) (N := 91) hx hb hT iX12 hown hK hP 0 rfl rfl 72 (by decide) (hT _ t_37) (fun _ h9 => h9) rfl dX12_fact_90 ?_
          subst hQ
          exact W.iret (v := 1) hx hb hr (fun t ht hW => ⟨⟨_, (), rfl, Or.inl ⟨rfl, by omega⟩, trivial⟩, hS.F ht⟩) hS.2.2 dX12_fact_93
        · skip
          refine lv_if_eq (tgt := 47) hx hb dX12_fact_35 (by decide) (fun c_13 => ?_) (fun c_13 => absurd (by decide) c_13)
          refine lv_iconst (v := (-1)) hx hb dX12_fact_47 (by decide) ?_
          subst hQ
          exact W.iret (v := (-1)) hx hb hr (fun t ht hW => ⟨⟨_, (), rfl, Or.inr ⟨rfl, by omega⟩, trivial⟩, hS.F ht⟩) hS.2.2 dX12_fact_48
    · skip
      refine lv_if_eq (tgt := 47) hx hb dX12_fact_17 (by decide) (fun c_14 => ?_) (fun c_14 => absurd (by decide) c_14)
      refine lv_iconst (v := (-1)) hx hb dX12_fact_47 (by decide) ?_
      subst hQ
      exact W.iret (v := (-1)) hx hb hr (fun t ht hW => ⟨⟨_, (), rfl, Or.inr ⟨rfl, by omega⟩, trivial⟩, hS.F ht⟩) hS.2.2 dX12_fact_48
  · skip
    refine lv_if_eq (tgt := 47) hx hb dX12_fact_7 (by decide) (fun c_15 => ?_) (fun c_15 => absurd (by decide) c_15)
    refine lv_iconst (v := (-1)) hx hb dX12_fact_47 (by decide) ?_
    subst hQ
    exact W.iret (v := (-1)) hx hb hr (fun t ht hW => ⟨⟨_, (), rfl, Or.inr ⟨rfl, by omega⟩, trivial⟩, hS.F ht⟩) hS.2.2 dX12_fact_48
set_option maxHeartbeats 4000000 in
set_option maxRecDepth 100000 in
theorem c_X12_types (l : Launch) (D : va_G) (cy : Nat → ClassId) (a : Nat → Nat) (i : Nat → Int32) (r : Nat → Nat → Int32) (rl : Nat → Int64) (p0 : Int32) (sz : Nat) (h22 : 0 ≤ (i 22).toInt ∧ (i 22).toInt ≤ 216) : Met l yX12_types (Cond.code yX12_types cX12_types 3 none :: gT) { frames := 1, cells := 0, slots := 0, locals := 24 } (va_Pc [.ref (a 0), .int p0] (rQ D cy (mW cy a i r rl) sz)) (va_Qv (fun u : (Nat → Int32) × (Nat → Nat → Int32) => (u.1 22).toInt = (i 22).toInt + 4) (fun (u : (Nat → Int32) × (Nat → Nat → Int32)) t => va_P D vwCl (mW cy a u.1 u.2 rl) t.heap ∧ va_K D vwCl (vT cy) t ∧ va_D (va_A (mW cy a i r rl) sz) (mW cy a u.1 u.2 rl)) (va_A (mW cy a i r rl) sz)) 0 0 (va_A (mW cy a i r rl) sz) := by
  refine Met.ofQ (cc := cX12_types) (maxL := 3) (ret := none) (by decide) rfl ?_
  intro p e s m args below meth c s₁ B hml hv Q hQ
  obtain ⟨rfl, hsz, hP, hK, hD0⟩ := hv
  have hx := B.exec
  have hb := B.bytes
  have hr := B.returns
  have hlocks := B.notSynchronized
  have hT : ∀ w ∈ gT, w.before _ s = true := fun w h => atoms_spec (ws := (Cond.code yX12_types cX12_types 3 none :: gT)) B.pre w (List.mem_cons_of_mem _ h)
  have hown : s.vm.findClass RX12 = some m.cls := findClass_of_methodNamed B.named
  subst hsz
  have hD := hD0.self (sz := s.heap.size)
  generalize hAe : va_A (mW cy a i r rl) s.heap.size = A at hD hQ
  have hA : ∀ q : Nat, s.heap.size ≤ q → A q := fun q h => by rw [← hAe]; exact Or.inr h
  have hS : va_S A s.heap s.heap [] := va_S.rf
  have hl := lv_entry ([.ref (a 0), .int p0]) (n := 3) (Nat.le_of_ble_eq_true rfl)
  rw [lg_entry_eq]
  generalize (lg_sl ([.ref (a 0), .int p0]) ++ List.replicate (3 - (lg_sl ([.ref (a 0), .int p0])).length) Slot.unset).toArray = ls at hl ⊢
  have hl : lv_has ls 3 [(0, .ref (a 0)), (1, .int p0)] := hl
  refine lv_iconst (v := 3) hx hb dX12_types_0 (by decide) ?_
  refine lv_istore_n (lv' := [(2, .int 3), (0, .ref (a 0)), (1, .int p0)]) hx hb dX12_types_1 rfl hl (by decide) rfl (fun ls hl => ?_)
  refine lv_iload_n hx hb dX12_types_2 rfl (lv_at hl 0 rfl) ?_
  refine lv_if_lt (tgt := 38) hx hb dX12_types_3 (by decide) (fun c_1 => absurd c_1 (by decide)) (fun c_1 => ?_)
  refine lv_aload_n hx hb dX12_types_6 rfl (lv_at hl 1 rfl) ?_
  refine va_get (D := D) (ci := 12) (v := .ref (a 20)) (C := RX12) (T := TX12) (N := 91) hx hb hT iX12 hown hK hP 0 rfl rfl 21 (by decide) (hT _ t_94) (fun _ h9 => h9) rfl dX12_types_7 ?_
  refine lv_aload_n hx hb dX12_types_10 rfl (lv_at hl 1 rfl) ?_
  refine va_get (D := D) (ci := 12) (v := .int (i 22)) (C := RX12) (T := TX12) (N := 91) hx hb hT iX12 hown hK hP 0 rfl rfl 22 (by decide) (hT _ t_15) (fun _ h9 => h9) rfl dX12_types_11 ?_
  refine lv_iload_n hx hb dX12_types_14 rfl (lv_at hl 2 rfl) ?_
  refine lv_bipush (v := 8) hx hb dX12_types_15 (by decide) ?_
  refine lv_iload_n hx hb dX12_types_17 rfl (lv_at hl 0 rfl) ?_
  refine lv_imul hx hb dX12_types_18 ?_
  refine lv_topi (fun v_2 ev_2 => ?_)
  obtain rfl : v_2 = 24 := ev_2.trans (by decide)
  refine lv_ishr hx hb dX12_types_19 ?_
  refine lv_topi (fun v_3 ev_3 => ?_)
  obtain ⟨v_4, ev_4⟩ : ∃ y : Int32, v_3.toInt8.toInt32 = y := ⟨_, rfl⟩
  refine lv_i2b (v := v_4) hx hb dX12_types_20 ev_4 ?_
  refine va_bast hx hb hK hP hD hS 20 1 rfl rfl (vp_inI (by omega) (by omega)) dX12_types_21 (fun H locs hP hD hS => ?_)
  rw [mS20] at hP hD
  refine lv_aload_n hx hb dX12_types_22 rfl (lv_at hl 1 rfl) ?_
  refine lv_aload_n hx hb dX12_types_23 rfl (lv_at hl 1 rfl) ?_
  refine va_get (D := D) (ci := 12) (v := .int (i 22)) (C := RX12) (T := TX12) (N := 91) hx hb hT iX12 hown hK hP 0 rfl rfl 22 (by decide) (hT _ t_15) (fun _ h9 => h9) rfl dX12_types_24 ?_
  refine lv_iconst (v := 1) hx hb dX12_types_27 (by decide) ?_
  refine lv_iadd hx hb dX12_types_28 ?_
  refine lv_topi (fun v_5 ev_5 => ?_)
  have hv_5 : v_5.toInt = (i 22).toInt + 1 := by rw [ev_5]; have := b_rg (i 22); exact i_add (a := (i 22).toInt) (b := 1) rfl rfl (by omega) (by omega)
  refine va_put (D := D) (ci := 12) (v := .int v_5) (ty := .int) (C := RX12) (T := TX12) (N := 91) hx hb hT iX12 tyX12 tyX12_ok nmX12 hown hK hP hD hS 0 rfl rfl 22 (by decide) (hT _ t_15) (fun _ h9 => h9) rfl (by decide +kernel) rfl rfl (Nat.le_of_ble_eq_true rfl) dX12_types_29 (fun H locs hP hD hS => ?_)
  rw [mP22] at hP hD
  obtain ⟨x_6, ex_6⟩ : ∃ y : Int32, y = (3 : Int32) + (-1) := ⟨_, rfl⟩
  refine lv_iinc (v := x_6) (lv' := [(2, .int x_6), (0, .ref (a 0)), (1, .int p0)]) hx hb dX12_types_32 hl (k := 0) rfl (by rw [ex_6]; rfl) (by decide) rfl (fun ls hl => ?_)
  obtain rfl : x_6 = 2 := ex_6.trans (by decide)
  refine lv_goto (tgt := 2) hx hb dX12_types_35 (by decide) ?_
  refine lv_iload_n hx hb dX12_types_2 rfl (lv_at hl 0 rfl) ?_
  refine lv_if_lt (tgt := 38) hx hb dX12_types_3 (by decide) (fun c_7 => absurd c_7 (by decide)) (fun c_7 => ?_)
  refine lv_aload_n hx hb dX12_types_6 rfl (lv_at hl 1 rfl) ?_
  refine va_get (D := D) (ci := 12) (v := .ref (a 20)) (C := RX12) (T := TX12) (N := 91) hx hb hT iX12 hown hK hP 0 rfl rfl 21 (by decide) (hT _ t_94) (fun _ h9 => h9) rfl dX12_types_7 ?_
  refine lv_aload_n hx hb dX12_types_10 rfl (lv_at hl 1 rfl) ?_
  refine va_get (D := D) (ci := 12) (v := .int v_5) (C := RX12) (T := TX12) (N := 91) hx hb hT iX12 hown hK hP 0 rfl rfl 22 (by decide) (hT _ t_15) (fun _ h9 => h9) rfl dX12_types_11 ?_
  refine lv_iload_n hx hb dX12_types_14 rfl (lv_at hl 2 rfl) ?_
  refine lv_bipush (v := 8) hx hb dX12_types_15 (by decide) ?_
  refine lv_iload_n hx hb dX12_types_17 rfl (lv_at hl 0 rfl) ?_
  refine lv_imul hx hb dX12_types_18 ?_
  refine lv_topi (fun v_8 ev_8 => ?_)
  obtain rfl : v_8 = 16 := ev_8.trans (by decide)
  refine lv_ishr hx hb dX12_types_19 ?_
  refine lv_topi (fun v_9 ev_9 => ?_)
  obtain ⟨v_10, ev_10⟩ : ∃ y : Int32, v_9.toInt8.toInt32 = y := ⟨_, rfl⟩
  refine lv_i2b (v := v_10) hx hb dX12_types_20 ev_10 ?_
  refine va_bast hx hb hK hP hD hS 20 1 rfl rfl (vp_inI (by omega) (by omega)) dX12_types_21 (fun H locs hP hD hS => ?_)
  rw [mS20] at hP hD
  refine lv_aload_n hx hb dX12_types_22 rfl (lv_at hl 1 rfl) ?_
  refine lv_aload_n hx hb dX12_types_23 rfl (lv_at hl 1 rfl) ?_
  refine va_get (D := D) (ci := 12) (v := .int v_5) (C := RX12) (T := TX12) (N := 91) hx hb hT iX12 hown hK hP 0 rfl rfl 22 (by decide) (hT _ t_15) (fun _ h9 => h9) rfl dX12_types_24 ?_
  refine lv_iconst (v := 1) hx hb dX12_types_27 (by decide) ?_
  refine lv_iadd hx hb dX12_types_28 ?_
  refine lv_topi (fun v_11 ev_11 => ?_)
  have hv_11 : v_11.toInt = v_5.toInt + 1 := by rw [ev_11]; have := b_rg v_5; exact i_add (a := v_5.toInt) (b := 1) rfl rfl (by omega) (by omega)
  refine va_put (D := D) (ci := 12) (v := .int v_11) (ty := .int) (C := RX12) (T := TX12) (N := 91) hx hb hT iX12 tyX12 tyX12_ok nmX12 hown hK hP hD hS 0 rfl rfl 22 (by decide) (hT _ t_15) (fun _ h9 => h9) rfl (by decide +kernel) rfl rfl (Nat.le_of_ble_eq_true rfl) dX12_types_29 (fun H locs hP hD hS => ?_)
  rw [mP22] at hP hD
  obtain ⟨x_12, ex_12⟩ : ∃ y : Int32, y = (2 : Int32) + (-1) := ⟨_, rfl⟩
  refine lv_iinc (v := x_12) (lv' := [(2, .int x_12), (0, .ref (a 0)), (1, .int p0)]) hx hb dX12_types_32 hl (k := 0) rfl (by rw [ex_12]; rfl) (by decide) rfl (fun ls hl => ?_)
  obtain rfl : x_12 = 1 := ex_12.trans (by decide)
  refine lv_goto (tgt := 2) hx hb dX12_types_35 (by decide) ?_
  refine lv_iload_n hx hb dX12_types_2 rfl (lv_at hl 0 rfl) ?_
  refine lv_if_lt (tgt := 38) hx hb dX12_types_3 (by decide) (fun c_13 => absurd c_13 (by decide)) (fun c_13 => ?_)
  refine lv_aload_n hx hb dX12_types_6 rfl (lv_at hl 1 rfl) ?_
  refine va_get (D := D) (ci := 12) (v := .ref (a 20)) (C := RX12) (T := TX12) (N := 91) hx hb hT iX12 hown hK hP 0 rfl rfl 21 (by decide) (hT _ t_94) (fun _ h9 => h9) rfl dX12_types_7 ?_
  refine lv_aload_n hx hb dX12_types_10 rfl (lv_at hl 1 rfl) ?_
  refine va_get (D := D) (ci := 12) (v := .int v_11) (C := RX12) (T := TX12) (N := 91) hx hb hT iX12 hown hK hP 0 rfl rfl 22 (by decide) (hT _ t_15) (fun _ h9 => h9) rfl dX12_types_11 ?_
  refine lv_iload_n hx hb dX12_types_14 rfl (lv_at hl 2 rfl) ?_
  refine lv_bipush (v := 8) hx hb dX12_types_15 (by decide) ?_
  refine lv_iload_n hx hb dX12_types_17 rfl (lv_at hl 0 rfl) ?_
  refine lv_imul hx hb dX12_types_18 ?_
  refine lv_topi (fun v_14 ev_14 => ?_)
  obtain rfl : v_14 = 8 := ev_14.trans (by decide)
  refine lv_ishr hx hb dX12_types_19 ?_
  refine lv_topi (fun v_15 ev_15 => ?_)
  obtain ⟨v_16, ev_16⟩ : ∃ y : Int32, v_15.toInt8.toInt32 = y := ⟨_, rfl⟩
  refine lv_i2b (v := v_16) hx hb dX12_types_20 ev_16 ?_
  refine va_bast hx hb hK hP hD hS 20 1 rfl rfl (vp_inI (by omega) (by omega)) dX12_types_21 (fun H locs hP hD hS => ?_)
  rw [mS20] at hP hD
  refine lv_aload_n hx hb dX12_types_22 rfl (lv_at hl 1 rfl) ?_
  refine lv_aload_n hx hb dX12_types_23 rfl (lv_at hl 1 rfl) ?_
  refine va_get (D := D) (ci := 12) (v := .int v_11) (C := RX12) (T := TX12) (N := 91) hx hb hT iX12 hown hK hP 0 rfl rfl 22 (by decide) (hT _ t_15) (fun _ h9 => h9) rfl dX12_types_24 ?_
  refine lv_iconst (v := 1) hx hb dX12_types_27 (by decide) ?_
  refine lv_iadd hx hb dX12_types_28 ?_
  refine lv_topi (fun v_17 ev_17 => ?_)
  have hv_17 : v_17.toInt = v_11.toInt + 1 := by rw [ev_17]; have := b_rg v_11; exact i_add (a := v_11.toInt) (b := 1) rfl rfl (by omega) (by omega)
  refine va_put (D := D) (ci := 12) (v := .int v_17) (ty := .int) (C := RX12) (T := TX12) (N := 91) hx hb hT iX12 tyX12 tyX12_ok nmX12 hown hK hP hD hS 0 rfl rfl 22 (by decide) (hT _ t_15) (fun _ h9 => h9) rfl (by decide +kernel) rfl rfl (Nat.le_of_ble_eq_true rfl) dX12_types_29 (fun H locs hP hD hS => ?_)
  rw [mP22] at hP hD
  obtain ⟨x_18, ex_18⟩ : ∃ y : Int32, y = (1 : Int32) + (-1) := ⟨_, rfl⟩
  refine lv_iinc (v := x_18) (lv' := [(2, .int x_18), (0, .ref (a 0)), (1, .int p0)]) hx hb dX12_types_32 hl (k := 0) rfl (by rw [ex_18]; rfl) (by decide) rfl (fun ls hl => ?_)
  obtain rfl : x_18 = 0 := ex_18.trans (by decide)
  refine lv_goto (tgt := 2) hx hb dX12_types_35 (by decide) ?_
  refine lv_iload_n hx hb dX12_types_2 rfl (lv_at hl 0 rfl) ?_
  refine lv_if_lt (tgt := 38) hx hb dX12_types_3 (by decide) (fun c_19 => absurd c_19 (by decide)) (fun c_19 => ?_)
  refine lv_aload_n hx hb dX12_types_6 rfl (lv_at hl 1 rfl) ?_
  refine va_get (D := D) (ci := 12) (v := .ref (a 20)) (C := RX12) (T := TX12) (N := 91) hx hb hT iX12 hown hK hP 0 rfl rfl 21 (by decide) (hT _ t_94) (fun _ h9 => h9) rfl dX12_types_7 ?_
  refine lv_aload_n hx hb dX12_types_10 rfl (lv_at hl 1 rfl) ?_
  refine va_get (D := D) (ci := 12) (v := .int v_17) (C := RX12) (T := TX12) (N := 91) hx hb hT iX12 hown hK hP 0 rfl rfl 22 (by decide) (hT _ t_15) (fun _ h9 => h9) rfl dX12_types_11 ?_
  refine lv_iload_n hx hb dX12_types_14 rfl (lv_at hl 2 rfl) ?_
  refine lv_bipush (v := 8) hx hb dX12_types_15 (by decide) ?_
  refine lv_iload_n hx hb dX12_types_17 rfl (lv_at hl 0 rfl) ?_
  refine lv_imul hx hb dX12_types_18 ?_
  refine lv_topi (fun v_20 ev_20 => ?_)
  obtain rfl : v_20 = 0 := ev_20.trans (by decide)
  refine lv_ishr hx hb dX12_types_19 ?_
  refine lv_topi (fun v_21 ev_21 => ?_)
  obtain ⟨v_22, ev_22⟩ : ∃ y : Int32, v_21.toInt8.toInt32 = y := ⟨_, rfl⟩
  refine lv_i2b (v := v_22) hx hb dX12_types_20 ev_22 ?_
  refine va_bast hx hb hK hP hD hS 20 1 rfl rfl (vp_inI (by omega) (by omega)) dX12_types_21 (fun H locs hP hD hS => ?_)
  rw [mS20] at hP hD
  refine lv_aload_n hx hb dX12_types_22 rfl (lv_at hl 1 rfl) ?_
  refine lv_aload_n hx hb dX12_types_23 rfl (lv_at hl 1 rfl) ?_
  refine va_get (D := D) (ci := 12) (v := .int v_17) (C := RX12) (T := TX12) (N := 91) hx hb hT iX12 hown hK hP 0 rfl rfl 22 (by decide) (hT _ t_15) (fun _ h9 => h9) rfl dX12_types_24 ?_
  refine lv_iconst (v := 1) hx hb dX12_types_27 (by decide) ?_
  refine lv_iadd hx hb dX12_types_28 ?_
  refine lv_topi (fun v_23 ev_23 => ?_)
  have hv_23 : v_23.toInt = v_17.toInt + 1 := by rw [ev_23]; have := b_rg v_17; exact i_add (a := v_17.toInt) (b := 1) rfl rfl (by omega) (by omega)
  refine va_put (D := D) (ci := 12) (v := .int v_23) (ty := .int) (C := RX12) (T := TX12) (N := 91) hx hb hT iX12 tyX12 tyX12_ok nmX12 hown hK hP hD hS 0 rfl rfl 22 (by decide) (hT _ t_15) (fun _ h9 => h9) rfl (by decide +kernel) rfl rfl (Nat.le_of_ble_eq_true rfl) dX12_types_29 (fun H locs hP hD hS => ?_)
  rw [mP22] at hP hD
  obtain ⟨x_24, ex_24⟩ : ∃ y : Int32, y = (0 : Int32) + (-1) := ⟨_, rfl⟩
  refine lv_iinc (v := x_24) (lv' := [(2, .int x_24), (0, .ref (a 0)), (1, .int p0)]) hx hb dX12_types_32 hl (k := 0) rfl (by rw [ex_24]; rfl) (by decide) rfl (fun ls hl => ?_)
  obtain rfl : x_24 = (-1) := ex_24.trans (by decide)
  refine lv_goto (tgt := 2) hx hb dX12_types_35 (by decide) ?_
  refine lv_iload_n hx hb dX12_types_2 rfl (lv_at hl 0 rfl) ?_
  refine lv_if_lt (tgt := 38) hx hb dX12_types_3 (by decide) (fun c_25 => ?_) (fun c_25 => absurd (by decide) c_25)
  subst hQ
  have hres : (v_23).toInt = (i 22).toInt + 4 := by omega
  exact W.vret hx hb hr (fun t ht hW => ⟨⟨(upd (upd (upd (upd i 22 v_5) 22 v_11) 22 v_17) 22 v_23, va_up (va_up (va_up (va_up r 20 (upd (r 20) ((i 22).toNatClampNeg) (vp_nar .byte v_4))) 20 (upd (upd (r 20) ((i 22).toNatClampNeg) (vp_nar .byte v_4)) v_5.toNatClampNeg (vp_nar .byte v_10))) 20 (upd (upd (upd (r 20) ((i 22).toNatClampNeg) (vp_nar .byte v_4)) v_5.toNatClampNeg (vp_nar .byte v_10)) v_11.toNatClampNeg (vp_nar .byte v_16))) 20 (upd (upd (upd (upd (r 20) ((i 22).toNatClampNeg) (vp_nar .byte v_4)) v_5.toNatClampNeg (vp_nar .byte v_10)) v_11.toNatClampNeg (vp_nar .byte v_16)) v_17.toNatClampNeg (vp_nar .byte v_22))), rfl, hres, by rw [ht]; exact hP, va_K.moved hW.alike hK, hD⟩, hS.F ht⟩) hS.2.2 dX12_types_38
set_option maxHeartbeats 4000000 in
set_option maxRecDepth 100000 in
theorem c_X12_feed (l : Launch) (D : va_G) (cy : Nat → ClassId) (a : Nat → Nat) (i : Nat → Int32) (r : Nat → Nat → Int32) (rl : Nat → Int64) (p0 p1 p2 p3 p4 : Int32) (sz : Nat) (hf : mZ i) : Met l yX12_feed (Cond.code yX12_feed cX12_feed 6 (some .int) :: gT) { frames := 2, cells := 0, slots := 0, locals := 46 } (va_Pc [.ref (a 0), .int p0, .int p1, .int p2, .int p3, .int p4] (rQ D cy (mW cy a i r rl) sz)) (va_Qi (fun (z : Int32) (u : Unit) => z = 20) (fun _ _ => True) (va_A (mW cy a i r rl) sz)) 0 0 (va_A (mW cy a i r rl) sz) := by
  refine Met.ofQ (cc := cX12_feed) (maxL := 6) (ret := (some .int)) (by decide) rfl ?_
  intro p e s m args below meth c s₁ B hml hv Q hQ
  obtain ⟨rfl, hsz, hP, hK, hD0⟩ := hv
  have hx := B.exec
  have hb := B.bytes
  have hr := B.returns
  have hlocks := B.notSynchronized
  have hT : ∀ w ∈ gT, w.before _ s = true := fun w h => atoms_spec (ws := (Cond.code yX12_feed cX12_feed 6 (some .int) :: gT)) B.pre w (List.mem_cons_of_mem _ h)
  have hown : s.vm.findClass RX12 = some m.cls := findClass_of_methodNamed B.named
  subst hsz
  have hD := hD0.self (sz := s.heap.size)
  generalize hAe : va_A (mW cy a i r rl) s.heap.size = A at hD hQ
  have hA : ∀ q : Nat, s.heap.size ≤ q → A q := fun q h => by rw [← hAe]; exact Or.inr h
  have hS : va_S A s.heap s.heap [] := va_S.rf
  have hl := lv_entry ([.ref (a 0), .int p0, .int p1, .int p2, .int p3, .int p4]) (n := 6) (Nat.le_of_ble_eq_true rfl)
  rw [lg_entry_eq]
  generalize (lg_sl ([.ref (a 0), .int p0, .int p1, .int p2, .int p3, .int p4]) ++ List.replicate (6 - (lg_sl ([.ref (a 0), .int p0, .int p1, .int p2, .int p3, .int p4])).length) Slot.unset).toArray = ls at hl ⊢
  have hl : lv_has ls 6 [(0, .ref (a 0)), (1, .int p0), (2, .int p1), (3, .int p2), (4, .int p3), (5, .int p4)] := hl
  have h22 : (i 22).toInt = 0 := by rw [hf.1 22 (by decide)]; rfl
  refine lv_aload_n hx hb dX12_feed_0 rfl (lv_at hl 0 rfl) ?_
  refine va_get (D := D) (ci := 12) (v := .int 0) (C := RX12) (T := TX12) (N := 91) hx hb hT iX12 hown hK hP 0 rfl rfl 22 (by decide) (hT _ t_15) (fun _ h9 => h9) (congrArg (fun z => some (Value.int z)) (hf.1 22 (by decide))) dX12_feed_1 ?_
  refine lv_bipush (v := 20) hx hb dX12_feed_4 (by decide) ?_
  refine lv_iadd hx hb dX12_feed_6 ?_
  refine lv_topi (fun v_1 ev_1 => ?_)
  obtain rfl : v_1 = 20 := ev_1.trans (by decide)
  refine lv_sipush (v := 220) hx hb dX12_feed_7 (by decide) ?_
  refine lv_icmp_le (tgt := 15) hx hb dX12_feed_10 (by decide) (fun c_2 => ?_) (fun c_2 => absurd (by decide) c_2)
  refine lv_aload_n hx hb dX12_feed_15 rfl (lv_at hl 0 rfl) ?_
  refine lv_iload_n hx hb dX12_feed_16 rfl (lv_at hl 1 rfl) ?_
  have hF_3 := rF hD hS hA
  refine va_callv (va_runV (As := [.int p0]) (rest := []) ⟨hx, hb, hml, hown, hT⟩ (c_X12_types l D cy a i r rl p0 _ (by omega)) (cwV 1 hT (gV t_95 t_96 t_97 t_98 t_8) rfl rfl rfl (by decide +kernel) ⟨Nat.le_of_ble_eq_true rfl, Nat.le_of_ble_eq_true rfl⟩) (rQ_v hP hK hD (va_recv hK hP (ci := 12) (q0 := 0) rfl rfl)) rfl rfl hl.1 rfl (lv_room (Nat.le_of_ble_eq_true rfl)) dX12_feed_17 ⟨Nat.le_of_ble_eq_true rfl, Nat.le_of_ble_eq_true rfl⟩) hS (fun q _ h => hF_3 q h) hF_3 (fun u_5 t H1 locs ht hvm hr_4 hB hz1 hk1 hS => ?_)
  obtain ⟨i5, r5⟩ := u_5
  obtain ⟨hP, hK1, hD1⟩ := hB
  rw [ht] at hP
  have hD := hD1.weaken (fun k q _ h => hF_3 q.1 h)
  have hP : va_P D vwCl (mW cy a i5 r5 rl) H1 := hP
  have hD : va_D A (mW cy a i5 r5 rl) := hD
  have hr_4 : (i5 22).toInt = (i 22).toInt + 4 := hr_4
  refine lv_aload_n hx hb dX12_feed_20 rfl (lv_at hl 0 rfl) ?_
  refine lv_iload_n hx hb dX12_feed_21 rfl (lv_at hl 2 rfl) ?_
  have hF_6 := rF hD hS hA
  refine va_callv (va_runV (As := [.int p1]) (rest := []) ⟨hx, hb, hml, hown, hT⟩ (c_X12_types l D cy a i5 r5 rl p1 _ (by omega)) (cwV 1 hT (gV t_95 t_96 t_97 t_98 t_8) rfl rfl rfl (by decide +kernel) ⟨Nat.le_of_ble_eq_true rfl, Nat.le_of_ble_eq_true rfl⟩) (rQ_v hP hK hD (va_recv hK hP (ci := 12) (q0 := 0) rfl rfl)) rfl rfl hl.1 rfl (lv_room (Nat.le_of_ble_eq_true rfl)) dX12_feed_22 ⟨Nat.le_of_ble_eq_true rfl, Nat.le_of_ble_eq_true rfl⟩) hS (fun q _ h => hF_6 q h) hF_6 (fun u_8 t H1 locs ht hvm hr_7 hB hz1 hk1 hS => ?_)
  obtain ⟨i8, r8⟩ := u_8
  obtain ⟨hP, hK1, hD1⟩ := hB
  rw [ht] at hP
  have hD := hD1.weaken (fun k q _ h => hF_6 q.1 h)
  have hP : va_P D vwCl (mW cy a i8 r8 rl) H1 := hP
  have hD : va_D A (mW cy a i8 r8 rl) := hD
  have hr_7 : (i8 22).toInt = (i5 22).toInt + 4 := hr_7
  refine lv_aload_n hx hb dX12_feed_25 rfl (lv_at hl 0 rfl) ?_
  refine lv_iload_n hx hb dX12_feed_26 rfl (lv_at hl 3 rfl) ?_
  have hF_9 := rF hD hS hA
  refine va_callv (va_runV (As := [.int p2]) (rest := []) ⟨hx, hb, hml, hown, hT⟩ (c_X12_types l D cy a i8 r8 rl p2 _ (by omega)) (cwV 1 hT (gV t_95 t_96 t_97 t_98 t_8) rfl rfl rfl (by decide +kernel) ⟨Nat.le_of_ble_eq_true rfl, Nat.le_of_ble_eq_true rfl⟩) (rQ_v hP hK hD (va_recv hK hP (ci := 12) (q0 := 0) rfl rfl)) rfl rfl hl.1 rfl (lv_room (Nat.le_of_ble_eq_true rfl)) dX12_feed_27 ⟨Nat.le_of_ble_eq_true rfl, Nat.le_of_ble_eq_true rfl⟩) hS (fun q _ h => hF_9 q h) hF_9 (fun u_11 t H1 locs ht hvm hr_10 hB hz1 hk1 hS => ?_)
  obtain ⟨i11, r11⟩ := u_11
  obtain ⟨hP, hK1, hD1⟩ := hB
  rw [ht] at hP
  have hD := hD1.weaken (fun k q _ h => hF_9 q.1 h)
  have hP : va_P D vwCl (mW cy a i11 r11 rl) H1 := hP
  have hD : va_D A (mW cy a i11 r11 rl) := hD
  have hr_10 : (i11 22).toInt = (i8 22).toInt + 4 := hr_10
  refine lv_aload_n hx hb dX12_feed_30 rfl (lv_at hl 0 rfl) ?_
  refine lv_iload hx hb dX12_feed_31 (lv_at hl 4 rfl) ?_
  have hF_12 := rF hD hS hA
  refine va_callv (va_runV (As := [.int p3]) (rest := []) ⟨hx, hb, hml, hown, hT⟩ (c_X12_types l D cy a i11 r11 rl p3 _ (by omega)) (cwV 1 hT (gV t_95 t_96 t_97 t_98 t_8) rfl rfl rfl (by decide +kernel) ⟨Nat.le_of_ble_eq_true rfl, Nat.le_of_ble_eq_true rfl⟩) (rQ_v hP hK hD (va_recv hK hP (ci := 12) (q0 := 0) rfl rfl)) rfl rfl hl.1 rfl (lv_room (Nat.le_of_ble_eq_true rfl)) dX12_feed_33 ⟨Nat.le_of_ble_eq_true rfl, Nat.le_of_ble_eq_true rfl⟩) hS (fun q _ h => hF_12 q h) hF_12 (fun u_14 t H1 locs ht hvm hr_13 hB hz1 hk1 hS => ?_)
  obtain ⟨i14, r14⟩ := u_14
  obtain ⟨hP, hK1, hD1⟩ := hB
  rw [ht] at hP
  have hD := hD1.weaken (fun k q _ h => hF_12 q.1 h)
  have hP : va_P D vwCl (mW cy a i14 r14 rl) H1 := hP
  have hD : va_D A (mW cy a i14 r14 rl) := hD
  have hr_13 : (i14 22).toInt = (i11 22).toInt + 4 := hr_13
  refine lv_aload_n hx hb dX12_feed_36 rfl (lv_at hl 0 rfl) ?_
  refine lv_iload hx hb dX12_feed_37 (lv_at hl 5 rfl) ?_
  have hF_15 := rF hD hS hA
  refine va_callv (va_runV (As := [.int p4]) (rest := []) ⟨hx, hb, hml, hown, hT⟩ (c_X12_types l D cy a i14 r14 rl p4 _ (by omega)) (cwV 1 hT (gV t_95 t_96 t_97 t_98 t_8) rfl rfl rfl (by decide +kernel) ⟨Nat.le_of_ble_eq_true rfl, Nat.le_of_ble_eq_true rfl⟩) (rQ_v hP hK hD (va_recv hK hP (ci := 12) (q0 := 0) rfl rfl)) rfl rfl hl.1 rfl (lv_room (Nat.le_of_ble_eq_true rfl)) dX12_feed_39 ⟨Nat.le_of_ble_eq_true rfl, Nat.le_of_ble_eq_true rfl⟩) hS (fun q _ h => hF_15 q h) hF_15 (fun u_17 t H1 locs ht hvm hr_16 hB hz1 hk1 hS => ?_)
  obtain ⟨i17, r17⟩ := u_17
  obtain ⟨hP, hK1, hD1⟩ := hB
  rw [ht] at hP
  have hD := hD1.weaken (fun k q _ h => hF_15 q.1 h)
  have hP : va_P D vwCl (mW cy a i17 r17 rl) H1 := hP
  have hD : va_D A (mW cy a i17 r17 rl) := hD
  have hr_16 : (i17 22).toInt = (i14 22).toInt + 4 := hr_16
  refine lv_aload_n hx hb dX12_feed_42 rfl (lv_at hl 0 rfl) ?_
  refine va_get (D := D) (ci := 12) (v := .int (i17 22)) (C := RX12) (T := TX12) (N := 91) hx hb hT iX12 hown hK hP 0 rfl rfl 22 (by decide) (hT _ t_15) (fun _ h9 => h9) rfl dX12_feed_43 ?_
  subst hQ
  exact W.iret (v := i17 22) hx hb hr (fun t ht hW => ⟨⟨_, (), rfl, Int32.toInt_inj.mp (by show _ = (20 : Int); omega), trivial⟩, hS.F ht⟩) hS.2.2 dX12_feed_46
set_option maxHeartbeats 4000000 in
set_option maxRecDepth 100000 in
theorem c_X12_laysFacts (l : Launch) (D : va_G) (cy : Nat → ClassId) (a : Nat → Nat) (i : Nat → Int32) (r : Nat → Nat → Int32) (rl : Nat → Int64) (sz : Nat) (hf : mZ i) : Met l yX12_laysFacts (Cond.code yX12_laysFacts cX12_laysFacts 2 none :: gT) { frames := 1, cells := 0, slots := 0, locals := 24 } (va_Pc [.ref (a 0)] (rQ D cy (mW cy a i r rl) sz)) (va_Qv (fun u : Nat → Nat → Int32 => ∀ t, t < 121 → u 61 t = if t / 11 = t % 11 then 0 else (-1000000000)) (fun (u : Nat → Nat → Int32) t => va_P D vwCl (mW cy a i u rl) t.heap ∧ va_K D vwCl (vT cy) t ∧ va_D (va_A (mW cy a i r rl) sz) (mW cy a i u rl)) (va_A (mW cy a i r rl) sz)) 0 0 (va_A (mW cy a i r rl) sz) := by
  refine Met.ofQ (cc := cX12_laysFacts) (maxL := 2) (ret := none) (by decide) rfl ?_
  intro p e s m args below meth c s₁ B hml hv Q hQ
  obtain ⟨rfl, hsz, hP, hK, hD0⟩ := hv
  have hx := B.exec
  have hb := B.bytes
  have hr := B.returns
  have hlocks := B.notSynchronized
  have hT : ∀ w ∈ gT, w.before _ s = true := fun w h => atoms_spec (ws := (Cond.code yX12_laysFacts cX12_laysFacts 2 none :: gT)) B.pre w (List.mem_cons_of_mem _ h)
  have hown : s.vm.findClass RX12 = some m.cls := findClass_of_methodNamed B.named
  subst hsz
  have hD := hD0.self (sz := s.heap.size)
  generalize hAe : va_A (mW cy a i r rl) s.heap.size = A at hD hQ
  have hA : ∀ q : Nat, s.heap.size ≤ q → A q := fun q h => by rw [← hAe]; exact Or.inr h
  have hS : va_S A s.heap s.heap [] := va_S.rf
  have hl := lv_entry ([.ref (a 0)]) (n := 2) (Nat.le_of_ble_eq_true rfl)
  rw [lg_entry_eq]
  generalize (lg_sl ([.ref (a 0)]) ++ List.replicate (2 - (lg_sl ([.ref (a 0)])).length) Slot.unset).toArray = ls at hl ⊢
  have hl : lv_has ls 2 [(0, .ref (a 0))] := hl
  refine lv_iconst (v := 0) hx hb dX12_laysFacts_0 (by decide) ?_
  refine lv_istore_n (lv' := [(1, .int 0), (0, .ref (a 0))]) hx hb dX12_laysFacts_1 rfl hl (by decide) rfl (fun ls hl => ?_)
  have loop_1 : ∀ (n j1 : Nat) (x1 : Int32) (r1 : Nat → Nat → Int32) (H : Heap) (locs : List Loc) (ls : Array Slot), j1 + n = 121 → x1 = nI j1 → (∀ t, t < j1 → r1 61 t = if t / 11 = t % 11 then 0 else (-1000000000)) → va_P D vwCl (mW cy a i r1 rl) H → va_D A (mW cy a i r1 rl) → va_S A s.heap H locs → lv_has ls 2 [(1, .int x1), (0, .ref (a 0))] → W p l e ({ frames := 1, cells := 0, slots := 0, locals := 24 } : Room) s m ([.ref (a 0)] : List Value).toArray below meth c H locs 0 0 Q (F0 m 2 ls []) := by
    intro n
    induction n with
    | zero =>
      intro j1 x1 r1 H locs ls hj1 hq1 hi1 hP hD hS hl
      obtain rfl : j1 = 121 := by omega
      obtain rfl : x1 = 121 := hq1.trans (by decide)
      refine lv_iload_n hx hb dX12_laysFacts_2 rfl (lv_at hl 0 rfl) ?_
      refine lv_bipush (v := 121) hx hb dX12_laysFacts_3 (by decide) ?_
      refine lv_icmp_ge (tgt := 38) hx hb dX12_laysFacts_5 (by decide) (fun c_2 => ?_) (fun c_2 => absurd (by decide) c_2)
      refine lv_iconst (v := 0) hx hb dX12_laysFacts_38 (by decide) ?_
      refine lv_istore_n (lv' := [(1, .int 0), (0, .ref (a 0))]) hx hb dX12_laysFacts_39 rfl hl (by decide) rfl (fun ls hl => ?_)
      refine lv_iload_n hx hb dX12_laysFacts_40 rfl (lv_at hl 0 rfl) ?_
      refine lv_aload_n hx hb dX12_laysFacts_41 rfl (lv_at hl 1 rfl) ?_
      refine va_get (D := D) (ci := 12) (v := .int 0) (C := RX12) (T := TX12) (N := 91) hx hb hT iX12 hown hK hP 0 rfl rfl 72 (by decide) (hT _ t_37) (fun _ h9 => h9) (congrArg (fun z => some (Value.int z)) (hf.1 72 (by decide))) dX12_laysFacts_42 ?_
      refine lv_icmp_ge (tgt := 59) hx hb dX12_laysFacts_45 (by decide) (fun c_3 => ?_) (fun c_3 => absurd (by decide) c_3)
      subst hQ
      exact W.vret hx hb hr (fun t ht hW => ⟨⟨r1, rfl, hi1, by rw [ht]; exact hP, va_K.moved hW.alike hK, hD⟩, hS.F ht⟩) hS.2.2 dX12_laysFacts_59
    | succ n ih1 =>
      intro j1 x1 r1 H locs ls hj1 hq1 hi1 hP hD hS hl
      have hx1 : x1.toInt = (j1 : Int) := by rw [hq1]; exact nI_toInt (by omega)
      have hcx1 : x1.toNatClampNeg = j1 := by rw [hq1]; exact nI_clamp (by omega)
      refine lv_iload_n hx hb dX12_laysFacts_2 rfl (lv_at hl 0 rfl) ?_
      refine lv_bipush (v := 121) hx hb dX12_laysFacts_3 (by decide) ?_
      refine lv_icmp_ge (tgt := 38) hx hb dX12_laysFacts_5 (by decide) (fun c_4 => by have c_4 : 121 ≤ x1.toInt := b_le c_4; omega) (fun c_4 => ?_)
      have c_4 : x1.toInt < 121 := b_nle c_4
      refine lv_aload_n hx hb dX12_laysFacts_8 rfl (lv_at hl 1 rfl) ?_
      refine va_get (D := D) (ci := 12) (v := .ref (a 61)) (C := RX12) (T := TX12) (N := 91) hx hb hT iX12 hown hK hP 0 rfl rfl 76 (by decide) (hT _ t_99) (fun _ h9 => h9) rfl dX12_laysFacts_9 ?_
      refine lv_iload_n hx hb dX12_laysFacts_12 rfl (lv_at hl 0 rfl) ?_
      refine lv_iload_n hx hb dX12_laysFacts_13 rfl (lv_at hl 0 rfl) ?_
      refine lv_bipush (v := 11) hx hb dX12_laysFacts_14 (by decide) ?_
      refine lv_idiv hx hb dX12_laysFacts_16 (by decide) ?_
      refine lv_topi (fun v_5 ev_5 => ?_)
      have hv_5 : v_5.toInt = ((j1 / 11 : Nat) : Int) := by rw [ev_5, hq1]; rw [show (11 : Int32) = nI 11 from rfl, pk_div (by omega) (by omega) (by omega)]; exact nI_toInt (by omega)
      refine lv_iload_n hx hb dX12_laysFacts_17 rfl (lv_at hl 0 rfl) ?_
      refine lv_bipush (v := 11) hx hb dX12_laysFacts_18 (by decide) ?_
      refine lv_irem hx hb dX12_laysFacts_20 (by decide) ?_
      refine lv_topi (fun v_6 ev_6 => ?_)
      have hv_6 : v_6.toInt = ((j1 % 11 : Nat) : Int) := by rw [ev_6, hq1]; rw [show (11 : Int32) = nI 11 from rfl, pk_rem (by omega) (by omega) (by omega)]; exact nI_toInt (by omega)
      refine lv_icmp_ne (tgt := 28) hx hb dX12_laysFacts_21 (by decide) (fun c_7 => ?_) (fun c_7 => ?_)
      · have c_7 : v_5.toInt ≠ v_6.toInt := b_ne c_7
        refine lv_ldcw (v := (-1000000000)) hx hb hown (hT _ t_100) dX12_laysFacts_28 ?_
        refine va_iast hx hb hK hP hD hS 61 0 rfl rfl (vp_inI (by omega) (by omega)) dX12_laysFacts_31 (fun H locs hP hD hS => ?_)
        rw [mS61] at hP hD
        obtain ⟨x_8, ex_8⟩ : ∃ y : Int32, y = x1 + 1 := ⟨_, rfl⟩
        refine lv_iinc (v := x_8) (lv' := [(1, .int x_8), (0, .ref (a 0))]) hx hb dX12_laysFacts_32 hl (k := 0) rfl (by rw [ex_8]; rfl) (by decide) rfl (fun ls hl => ?_)
        refine lv_goto (tgt := 2) hx hb dX12_laysFacts_35 (by decide) ?_
        have hst_9 : ∀ t, t < j1 + 1 → (va_up r1 61 (upd (r1 61) x1.toNatClampNeg (-1000000000))) 61 t = if t / 11 = t % 11 then 0 else (-1000000000) := by
          intro t ht
          show upd (r1 61) x1.toNatClampNeg (-1000000000) t = _
          rw [hcx1]; unfold upd
          by_cases h9 : t = j1
          · subst h9; rw [if_pos rfl]; exact (if_neg (by omega)).symm
          · rw [if_neg h9]; exact hi1 t (by omega)
        exact ih1 (j1 + 1) x_8 (va_up r1 61 (upd (r1 61) x1.toNatClampNeg (-1000000000))) _ _ _ (by omega) (by rw [ex_8, hq1]; exact nI_1 j1) hst_9 hP hD hS (lv_sub hl [0, 1] rfl)
      · have c_7 : v_5.toInt = v_6.toInt := b_nne c_7
        refine lv_iconst (v := 0) hx hb dX12_laysFacts_24 (by decide) ?_
        refine lv_goto (tgt := 31) hx hb dX12_laysFacts_25 (by decide) ?_
        refine va_iast hx hb hK hP hD hS 61 0 rfl rfl (vp_inI (by omega) (by omega)) dX12_laysFacts_31 (fun H locs hP hD hS => ?_)
        rw [mS61] at hP hD
        obtain ⟨x_10, ex_10⟩ : ∃ y : Int32, y = x1 + 1 := ⟨_, rfl⟩
        refine lv_iinc (v := x_10) (lv' := [(1, .int x_10), (0, .ref (a 0))]) hx hb dX12_laysFacts_32 hl (k := 0) rfl (by rw [ex_10]; rfl) (by decide) rfl (fun ls hl => ?_)
        refine lv_goto (tgt := 2) hx hb dX12_laysFacts_35 (by decide) ?_
        have hst_11 : ∀ t, t < j1 + 1 → (va_up r1 61 (upd (r1 61) x1.toNatClampNeg 0)) 61 t = if t / 11 = t % 11 then 0 else (-1000000000) := by
          intro t ht
          show upd (r1 61) x1.toNatClampNeg 0 t = _
          rw [hcx1]; unfold upd
          by_cases h9 : t = j1
          · subst h9; rw [if_pos rfl]; exact (if_pos (by omega)).symm
          · rw [if_neg h9]; exact hi1 t (by omega)
        exact ih1 (j1 + 1) x_10 (va_up r1 61 (upd (r1 61) x1.toNatClampNeg 0)) _ _ _ (by omega) (by rw [ex_10, hq1]; exact nI_1 j1) hst_11 hP hD hS (lv_sub hl [0, 1] rfl)
  exact loop_1 121 0 0 r _ _ _ (by omega) rfl (fun t ht => absurd ht (by omega)) hP hD hS hl
set_option maxHeartbeats 4000000 in
set_option maxRecDepth 100000 in
theorem c_X12_dated (l : Launch) (D : va_G) (cy : Nat → ClassId) (a : Nat → Nat) (i : Nat → Int32) (r : Nat → Nat → Int32) (rl : Nat → Int64) (p0 p1 : Int32) (sz : Nat) (hf : mZ i) : Met l yX12_dated (Cond.code yX12_dated cX12_dated 4 (some .int) :: gT) { frames := 2, cells := 0, slots := 0, locals := 46 } (va_Pc [.ref (a 0), .int p0, .int p1] (rQ D cy (mW cy a i r rl) sz)) (va_Qi (fun (z : Int32) (u : Unit) => z = (-100000)) (fun _ _ => True) (va_A (mW cy a i r rl) sz)) 0 0 (va_A (mW cy a i r rl) sz) := by
  refine Met.ofQ (cc := cX12_dated) (maxL := 4) (ret := (some .int)) (by decide) rfl ?_
  intro p e s m args below meth c s₁ B hml hv Q hQ
  obtain ⟨rfl, hsz, hP, hK, hD0⟩ := hv
  have hx := B.exec
  have hb := B.bytes
  have hr := B.returns
  have hlocks := B.notSynchronized
  have hT : ∀ w ∈ gT, w.before _ s = true := fun w h => atoms_spec (ws := (Cond.code yX12_dated cX12_dated 4 (some .int) :: gT)) B.pre w (List.mem_cons_of_mem _ h)
  have hown : s.vm.findClass RX12 = some m.cls := findClass_of_methodNamed B.named
  subst hsz
  have hD := hD0.self (sz := s.heap.size)
  generalize hAe : va_A (mW cy a i r rl) s.heap.size = A at hD hQ
  have hA : ∀ q : Nat, s.heap.size ≤ q → A q := fun q h => by rw [← hAe]; exact Or.inr h
  have hS : va_S A s.heap s.heap [] := va_S.rf
  have hl := lv_entry ([.ref (a 0), .int p0, .int p1]) (n := 4) (Nat.le_of_ble_eq_true rfl)
  rw [lg_entry_eq]
  generalize (lg_sl ([.ref (a 0), .int p0, .int p1]) ++ List.replicate (4 - (lg_sl ([.ref (a 0), .int p0, .int p1])).length) Slot.unset).toArray = ls at hl ⊢
  have hl : lv_has ls 4 [(0, .ref (a 0)), (1, .int p0), (2, .int p1)] := hl
  refine lv_iload_n hx hb dX12_dated_0 rfl (lv_at hl 1 rfl) ?_
  refine lv_iconst (v := 0) hx hb dX12_dated_1 (by decide) ?_
  refine lv_bipush (v := 9) hx hb dX12_dated_2 (by decide) ?_
  refine vp_callSi (W.runS (As := [.int p0, .int 0, .int 9]) (rest := []) ⟨hx, hb, hml, hown, hT⟩ (c_X12_in l p0 0 9) (va_cwS 3 hT (gS t_12 t_13 t_14 t_8) rfl rfl rfl (by decide +kernel) ⟨Nat.le_of_ble_eq_true rfl, Nat.le_of_ble_eq_true rfl⟩) preT rfl rfl hl.1 rfl (lv_room (Nat.le_of_ble_eq_true rfl)) dX12_dated_4 ⟨Nat.le_of_ble_eq_true rfl, Nat.le_of_ble_eq_true rfl⟩) (fun r_1 hr_1 => ?_)
  have hr_1 : BR r_1 (0 ≤ p0.toInt ∧ p0.toInt ≤ 9) 1 0 := hr_1
  rcases hr_1 with ⟨rfl, h_2⟩ | ⟨rfl, h_2⟩
  · skip
    refine lv_if_eq (tgt := 19) hx hb dX12_dated_7 (by decide) (fun c_3 => absurd c_3 (by decide)) (fun c_3 => ?_)
    refine lv_iload_n hx hb dX12_dated_10 rfl (lv_at hl 2 rfl) ?_
    refine lv_iconst (v := 0) hx hb dX12_dated_11 (by decide) ?_
    refine lv_iconst (v := 1) hx hb dX12_dated_12 (by decide) ?_
    refine vp_callSi (W.runS (As := [.int p1, .int 0, .int 1]) (rest := []) ⟨hx, hb, hml, hown, hT⟩ (c_X12_in l p1 0 1) (va_cwS 3 hT (gS t_12 t_13 t_14 t_8) rfl rfl rfl (by decide +kernel) ⟨Nat.le_of_ble_eq_true rfl, Nat.le_of_ble_eq_true rfl⟩) preT rfl rfl hl.1 rfl (lv_room (Nat.le_of_ble_eq_true rfl)) dX12_dated_13 ⟨Nat.le_of_ble_eq_true rfl, Nat.le_of_ble_eq_true rfl⟩) (fun r_4 hr_4 => ?_)
    have hr_4 : BR r_4 (0 ≤ p1.toInt ∧ p1.toInt ≤ 1) 1 0 := hr_4
    rcases hr_4 with ⟨rfl, h_5⟩ | ⟨rfl, h_5⟩
    · skip
      refine lv_if_ne (tgt := 23) hx hb dX12_dated_16 (by decide) (fun c_6 => ?_) (fun c_6 => absurd c_6 (by decide))
      refine lv_aload_n hx hb dX12_dated_23 rfl (lv_at hl 0 rfl) ?_
      have hF_7 := rF hD hS hA
      refine va_callv (va_runV (As := []) (rest := []) ⟨hx, hb, hml, hown, hT⟩ (c_X12_laysFacts l D cy a i r rl _ hf) (cwV 0 hT (gV t_101 t_102 t_103 t_104 t_8) rfl rfl rfl (by decide +kernel) ⟨Nat.le_of_ble_eq_true rfl, Nat.le_of_ble_eq_true rfl⟩) (rQ_v hP hK hD (va_recv hK hP (ci := 12) (q0 := 0) rfl rfl)) rfl rfl hl.1 rfl (lv_room (Nat.le_of_ble_eq_true rfl)) dX12_dated_24 ⟨Nat.le_of_ble_eq_true rfl, Nat.le_of_ble_eq_true rfl⟩) hS (fun q _ h => hF_7 q h) hF_7 (fun u_9 t H1 locs ht hvm hr_8 hB hz1 hk1 hS => ?_)
      obtain ⟨hP, hK1, hD1⟩ := hB
      rw [ht] at hP
      have hD := hD1.weaken (fun k q _ h => hF_7 q.1 h)
      have hP : va_P D vwCl (mW cy a i u_9 rl) H1 := hP
      have hD : va_D A (mW cy a i u_9 rl) := hD
      refine lv_iload_n hx hb dX12_dated_27 rfl (lv_at hl 2 rfl) ?_
      refine lv_if_ne (tgt := 43) hx hb dX12_dated_28 (by decide) (fun c_10 => ?_) (fun c_10 => ?_)
      · have c_10 : p1.toInt ≠ 0 := b_ne c_10
        refine lv_aload_n hx hb dX12_dated_43 rfl (lv_at hl 0 rfl) ?_
        refine va_get (D := D) (ci := 12) (v := .ref (a 61)) (C := RX12) (T := TX12) (N := 91) hx hb hT iX12 hown hK hP 0 rfl rfl 76 (by decide) (hT _ t_99) (fun _ h9 => h9) rfl dX12_dated_44 ?_
        refine lv_bipush (v := 11) hx hb dX12_dated_47 (by decide) ?_
        refine lv_iload_n hx hb dX12_dated_49 rfl (lv_at hl 1 rfl) ?_
        refine lv_imul hx hb dX12_dated_50 ?_
        refine lv_topi (fun v_11 ev_11 => ?_)
        have hv_11 : v_11.toInt = 11 * p0.toInt := by rw [ev_11]; have := b_rg p0; exact i_mul (a := 11) (b := p0.toInt) rfl rfl (by omega) (by omega)
        refine lv_bipush (v := 10) hx hb dX12_dated_51 (by decide) ?_
        refine lv_iadd hx hb dX12_dated_53 ?_
        refine lv_topi (fun v_12 ev_12 => ?_)
        have hv_12 : v_12.toInt = v_11.toInt + 10 := by rw [ev_12]; have := b_rg v_11; exact i_add (a := v_11.toInt) (b := 10) rfl rfl (by omega) (by omega)
        refine va_iald hx hb hK hP 61 0 rfl rfl (vp_inI (by omega) (by omega)) dX12_dated_54 ?_
        refine lv_topi (fun v_13 ev_13 => ?_)
        obtain rfl : v_13 = (-1000000000) := by rw [ev_13]; exact (hr_8 _ (by show v_12.toInt.toNat < 121; omega)).trans (if_neg (by show ¬ v_12.toInt.toNat / 11 = v_12.toInt.toNat % 11; omega))
        refine lv_istore_n (lv' := [(3, .int (-1000000000)), (0, .ref (a 0)), (1, .int p0), (2, .int p1)]) hx hb dX12_dated_55 rfl hl (by decide) rfl (fun ls hl => ?_)
        refine lv_iload_n hx hb dX12_dated_56 rfl (lv_at hl 0 rfl) ?_
        refine lv_ldcw (v := (-1000000000)) hx hb hown (hT _ t_100) dX12_dated_57 ?_
        refine lv_icmp_ne (tgt := 69) hx hb dX12_dated_60 (by decide) (fun c_14 => absurd (by decide) c_14) (fun c_14 => ?_)
        refine lv_ldcw (v := (-100000)) hx hb hown (hT _ t_105) dX12_dated_63 ?_
        refine lv_goto (tgt := 79) hx hb dX12_dated_66 (by decide) ?_
        subst hQ
        exact W.iret (v := (-100000)) hx hb hr (fun t ht hW => ⟨⟨_, (), rfl, rfl, trivial⟩, hS.F ht⟩) hS.2.2 dX12_dated_79
      · have c_10 : p1.toInt = 0 := b_nne c_10
        refine lv_aload_n hx hb dX12_dated_31 rfl (lv_at hl 0 rfl) ?_
        refine va_get (D := D) (ci := 12) (v := .ref (a 61)) (C := RX12) (T := TX12) (N := 91) hx hb hT iX12 hown hK hP 0 rfl rfl 76 (by decide) (hT _ t_99) (fun _ h9 => h9) rfl dX12_dated_32 ?_
        refine lv_bipush (v := 110) hx hb dX12_dated_35 (by decide) ?_
        refine lv_iload_n hx hb dX12_dated_37 rfl (lv_at hl 1 rfl) ?_
        refine lv_iadd hx hb dX12_dated_38 ?_
        refine lv_topi (fun v_15 ev_15 => ?_)
        have hv_15 : v_15.toInt = 110 + p0.toInt := by rw [ev_15]; have := b_rg p0; exact i_add (a := 110) (b := p0.toInt) rfl rfl (by omega) (by omega)
        refine va_iald hx hb hK hP 61 0 rfl rfl (vp_inI (by omega) (by omega)) dX12_dated_39 ?_
        refine lv_topi (fun v_16 ev_16 => ?_)
        obtain rfl : v_16 = (-1000000000) := by rw [ev_16]; exact (hr_8 _ (by show v_15.toInt.toNat < 121; omega)).trans (if_neg (by show ¬ v_15.toInt.toNat / 11 = v_15.toInt.toNat % 11; omega))
        refine lv_goto (tgt := 55) hx hb dX12_dated_40 (by decide) ?_
        refine lv_istore_n (lv' := [(3, .int (-1000000000)), (0, .ref (a 0)), (1, .int p0), (2, .int p1)]) hx hb dX12_dated_55 rfl hl (by decide) rfl (fun ls hl => ?_)
        refine lv_iload_n hx hb dX12_dated_56 rfl (lv_at hl 0 rfl) ?_
        refine lv_ldcw (v := (-1000000000)) hx hb hown (hT _ t_100) dX12_dated_57 ?_
        refine lv_icmp_ne (tgt := 69) hx hb dX12_dated_60 (by decide) (fun c_17 => absurd (by decide) c_17) (fun c_17 => ?_)
        refine lv_ldcw (v := (-100000)) hx hb hown (hT _ t_105) dX12_dated_63 ?_
        refine lv_goto (tgt := 79) hx hb dX12_dated_66 (by decide) ?_
        subst hQ
        exact W.iret (v := (-100000)) hx hb hr (fun t ht hW => ⟨⟨_, (), rfl, rfl, trivial⟩, hS.F ht⟩) hS.2.2 dX12_dated_79
    · skip
      refine lv_if_ne (tgt := 23) hx hb dX12_dated_16 (by decide) (fun c_18 => absurd (by decide) c_18) (fun c_18 => ?_)
      refine lv_ldcw (v := (-100000)) hx hb hown (hT _ t_105) dX12_dated_19 ?_
      subst hQ
      exact W.iret (v := (-100000)) hx hb hr (fun t ht hW => ⟨⟨_, (), rfl, rfl, trivial⟩, hS.F ht⟩) hS.2.2 dX12_dated_22
  · skip
    refine lv_if_eq (tgt := 19) hx hb dX12_dated_7 (by decide) (fun c_19 => ?_) (fun c_19 => absurd (by decide) c_19)
    refine lv_ldcw (v := (-100000)) hx hb hown (hT _ t_105) dX12_dated_19 ?_
    subst hQ
    exact W.iret (v := (-100000)) hx hb hr (fun t ht hW => ⟨⟨_, (), rfl, rfl, trivial⟩, hS.F ht⟩) hS.2.2 dX12_dated_22
set_option maxHeartbeats 4000000 in
set_option maxRecDepth 100000 in
theorem c_X12_wrong (l : Launch) (D : va_G) (cy : Nat → ClassId) (a : Nat → Nat) (i : Nat → Int32) (r : Nat → Nat → Int32) (rl : Nat → Int64) (p0 : Int32) (sz : Nat) (hf : mZ i) : Met l yX12_wrong (Cond.code yX12_wrong cX12_wrong 4 (some .int) :: gT) { frames := 2, cells := 0, slots := 0, locals := 45 } (va_Pc [.ref (a 0), .int p0] (rQ D cy (mW cy a i r rl) sz)) (va_Qi (fun (z : Int32) (u : Unit) => BR z (p0.toInt = -1) 0 (-1)) (fun _ _ => True) (va_A (mW cy a i r rl) sz)) 0 0 (va_A (mW cy a i r rl) sz) := by
  refine Met.ofQ (cc := cX12_wrong) (maxL := 4) (ret := (some .int)) (by decide) rfl ?_
  intro p e s m args below meth c s₁ B hml hv Q hQ
  obtain ⟨rfl, hsz, hP, hK, hD0⟩ := hv
  have hx := B.exec
  have hb := B.bytes
  have hr := B.returns
  have hlocks := B.notSynchronized
  have hT : ∀ w ∈ gT, w.before _ s = true := fun w h => atoms_spec (ws := (Cond.code yX12_wrong cX12_wrong 4 (some .int) :: gT)) B.pre w (List.mem_cons_of_mem _ h)
  have hown : s.vm.findClass RX12 = some m.cls := findClass_of_methodNamed B.named
  subst hsz
  have hD := hD0.self (sz := s.heap.size)
  generalize hAe : va_A (mW cy a i r rl) s.heap.size = A at hD hQ
  have hA : ∀ q : Nat, s.heap.size ≤ q → A q := fun q h => by rw [← hAe]; exact Or.inr h
  have hS : va_S A s.heap s.heap [] := va_S.rf
  have hl := lv_entry ([.ref (a 0), .int p0]) (n := 4) (Nat.le_of_ble_eq_true rfl)
  rw [lg_entry_eq]
  generalize (lg_sl ([.ref (a 0), .int p0]) ++ List.replicate (4 - (lg_sl ([.ref (a 0), .int p0])).length) Slot.unset).toArray = ls at hl ⊢
  have hl : lv_has ls 4 [(0, .ref (a 0)), (1, .int p0)] := hl
  refine lv_iload_n hx hb dX12_wrong_0 rfl (lv_at hl 1 rfl) ?_
  refine lv_iconst (v := (-1)) hx hb dX12_wrong_1 (by decide) ?_
  refine lv_icmp_ge (tgt := 7) hx hb dX12_wrong_2 (by decide) (fun c_1 => ?_) (fun c_1 => ?_)
  · have c_1 : (-1) ≤ p0.toInt := b_le c_1
    refine lv_aload_n hx hb dX12_wrong_7 rfl (lv_at hl 0 rfl) ?_
    have hF_2 := rF hD hS hA
    refine va_callv (va_runV (As := []) (rest := []) ⟨hx, hb, hml, hown, hT⟩ (c_X12_laysFacts l D cy a i r rl _ hf) (cwV 0 hT (gV t_101 t_102 t_103 t_104 t_8) rfl rfl rfl (by decide +kernel) ⟨Nat.le_of_ble_eq_true rfl, Nat.le_of_ble_eq_true rfl⟩) (rQ_v hP hK hD (va_recv hK hP (ci := 12) (q0 := 0) rfl rfl)) rfl rfl hl.1 rfl (lv_room (Nat.le_of_ble_eq_true rfl)) dX12_wrong_8 ⟨Nat.le_of_ble_eq_true rfl, Nat.le_of_ble_eq_true rfl⟩) hS (fun q _ h => hF_2 q h) hF_2 (fun u_4 t H1 locs ht hvm hr_3 hB hz1 hk1 hS => ?_)
    obtain ⟨hP, hK1, hD1⟩ := hB
    rw [ht] at hP
    have hD := hD1.weaken (fun k q _ h => hF_2 q.1 h)
    have hP : va_P D vwCl (mW cy a i u_4 rl) H1 := hP
    have hD : va_D A (mW cy a i u_4 rl) := hD
    refine lv_iconst (v := 0) hx hb dX12_wrong_11 (by decide) ?_
    refine lv_istore_n (lv' := [(2, .int 0), (0, .ref (a 0)), (1, .int p0)]) hx hb dX12_wrong_12 rfl hl (by decide) rfl (fun ls hl => ?_)
    refine lv_iconst (v := 0) hx hb dX12_wrong_13 (by decide) ?_
    refine lv_istore_n (lv' := [(3, .int 0), (2, .int 0), (0, .ref (a 0)), (1, .int p0)]) hx hb dX12_wrong_14 rfl hl (by decide) rfl (fun ls hl => ?_)
    refine lv_iload_n hx hb dX12_wrong_15 rfl (lv_at hl 0 rfl) ?_
    refine lv_aload_n hx hb dX12_wrong_16 rfl (lv_at hl 2 rfl) ?_
    refine va_get (D := D) (ci := 12) (v := .int 0) (C := RX12) (T := TX12) (N := 91) hx hb hT iX12 hown hK hP 0 rfl rfl 72 (by decide) (hT _ t_37) (fun _ h9 => h9) (congrArg (fun z => some (Value.int z)) (hf.1 72 (by decide))) dX12_wrong_17 ?_
    refine lv_icmp_ge (tgt := 52) hx hb dX12_wrong_20 (by decide) (fun c_5 => ?_) (fun c_5 => absurd (by decide) c_5)
    refine lv_iload_n hx hb dX12_wrong_52 rfl (lv_at hl 3 rfl) ?_
    refine lv_iconst (v := (-1)) hx hb dX12_wrong_53 (by decide) ?_
    refine lv_icmp_ne (tgt := 61) hx hb dX12_wrong_54 (by decide) (fun c_6 => ?_) (fun c_6 => ?_)
    · have c_6 : p0.toInt ≠ (-1) := b_ne c_6
      refine lv_iconst (v := (-1)) hx hb dX12_wrong_61 (by decide) ?_
      subst hQ
      exact W.iret (v := (-1)) hx hb hr (fun t ht hW => ⟨⟨_, (), rfl, Or.inr ⟨rfl, by omega⟩, trivial⟩, hS.F ht⟩) hS.2.2 dX12_wrong_62
    · have c_6 : p0.toInt = (-1) := b_nne c_6
      refine lv_iload_n hx hb dX12_wrong_57 rfl (lv_at hl 1 rfl) ?_
      refine lv_goto (tgt := 62) hx hb dX12_wrong_58 (by decide) ?_
      subst hQ
      exact W.iret (v := 0) hx hb hr (fun t ht hW => ⟨⟨_, (), rfl, Or.inl ⟨rfl, by omega⟩, trivial⟩, hS.F ht⟩) hS.2.2 dX12_wrong_62
  · have c_1 : p0.toInt < (-1) := b_nle c_1
    refine lv_iconst (v := (-1)) hx hb dX12_wrong_5 (by decide) ?_
    subst hQ
    exact W.iret (v := (-1)) hx hb hr (fun t ht hW => ⟨⟨_, (), rfl, Or.inr ⟨rfl, by omega⟩, trivial⟩, hS.F ht⟩) hS.2.2 dX12_wrong_6
set_option maxHeartbeats 4000000 in
set_option maxRecDepth 100000 in
theorem c_X12_copies30 (l : Launch) (D : va_G) (cy : Nat → ClassId) (h1 h2 : Nat) (f g : Nat → Int32) (sz : Nat) : Met l yX12_copies (Cond.code yX12_copies cX12_copies 4 none :: gT) { frames := 1, cells := 0, slots := 0, locals := 24 } (va_Pc [.ref h1, .ref h2, .int 30] (rQ D cy [(h1, .inl (cy 0, 30, .inl f)), (h2, .inl (cy 0, 30, .inl g))] sz)) (va_Qv (fun u : Nat → Int32 => True) (fun (u : Nat → Int32) t => va_P D vwCl [(h1, .inl (cy 0, 30, .inl f)), (h2, .inl (cy 0, 30, .inl u))] t.heap ∧ va_K D vwCl (vT cy) t ∧ va_D (va_A [(h1, .inl (cy 0, 30, .inl f)), (h2, .inl (cy 0, 30, .inl g))] sz) [(h1, .inl (cy 0, 30, .inl f)), (h2, .inl (cy 0, 30, .inl u))]) (va_A [(h1, .inl (cy 0, 30, .inl f)), (h2, .inl (cy 0, 30, .inl g))] sz)) 0 0 (va_A [(h1, .inl (cy 0, 30, .inl f)), (h2, .inl (cy 0, 30, .inl g))] sz) := by
  refine Met.ofQ (cc := cX12_copies) (maxL := 4) (ret := none) (by decide) rfl ?_
  intro p e s m args below meth c s₁ B hml hv Q hQ
  obtain ⟨rfl, hsz, hP, hK, hD0⟩ := hv
  have hx := B.exec
  have hb := B.bytes
  have hr := B.returns
  have hlocks := B.notSynchronized
  have hT : ∀ w ∈ gT, w.before _ s = true := fun w h => atoms_spec (ws := (Cond.code yX12_copies cX12_copies 4 none :: gT)) B.pre w (List.mem_cons_of_mem _ h)
  have hown : s.vm.findClass RX12 = some m.cls := findClass_of_methodNamed B.named
  subst hsz
  have hD := hD0.self (sz := s.heap.size)
  generalize hAe : va_A [(h1, .inl (cy 0, 30, .inl f)), (h2, .inl (cy 0, 30, .inl g))] s.heap.size = A at hD hQ
  have hA : ∀ q : Nat, s.heap.size ≤ q → A q := fun q h => by rw [← hAe]; exact Or.inr h
  have hS : va_S A s.heap s.heap [] := va_S.rf
  have hl := lv_entry ([.ref h1, .ref h2, .int 30]) (n := 4) (Nat.le_of_ble_eq_true rfl)
  rw [lg_entry_eq]
  generalize (lg_sl ([.ref h1, .ref h2, .int 30]) ++ List.replicate (4 - (lg_sl ([.ref h1, .ref h2, .int 30])).length) Slot.unset).toArray = ls at hl ⊢
  have hl : lv_has ls 4 [(0, .ref h1), (1, .ref h2), (2, .int 30)] := hl
  refine lv_iconst (v := 0) hx hb dX12_copies_0 (by decide) ?_
  refine lv_istore_n (lv' := [(3, .int 0), (0, .ref h1), (1, .ref h2), (2, .int 30)]) hx hb dX12_copies_1 rfl hl (by decide) rfl (fun ls hl => ?_)
  have loop_1 : ∀ (n j1 : Nat) (x1 : Int32) (g1_1 : Nat → Int32) (H : Heap) (locs : List Loc) (ls : Array Slot), j1 + n = 30 → x1 = nI j1 → va_P D vwCl [(h1, .inl (cy 0, 30, .inl f)), (h2, .inl (cy 0, 30, .inl g1_1))] H → va_D A [(h1, .inl (cy 0, 30, .inl f)), (h2, .inl (cy 0, 30, .inl g1_1))] → va_S A s.heap H locs → lv_has ls 4 [(3, .int x1), (0, .ref h1), (1, .ref h2), (2, .int 30)] → W p l e ({ frames := 1, cells := 0, slots := 0, locals := 24 } : Room) s m ([.ref h1, .ref h2, .int 30] : List Value).toArray below meth c H locs 0 0 Q (F0 m 2 ls []) := by
    intro n
    induction n with
    | zero =>
      intro j1 x1 g1_1 H locs ls hj1 hq1 hP hD hS hl
      obtain rfl : j1 = 30 := by omega
      obtain rfl : x1 = 30 := hq1.trans (by decide)
      refine lv_iload_n hx hb dX12_copies_2 rfl (lv_at hl 0 rfl) ?_
      refine lv_iload_n hx hb dX12_copies_3 rfl (lv_at hl 3 rfl) ?_
      refine lv_icmp_ge (tgt := 19) hx hb dX12_copies_4 (by decide) (fun c_2 => ?_) (fun c_2 => absurd (by decide) c_2)
      subst hQ
      exact W.vret hx hb hr (fun t ht hW => ⟨⟨g1_1, rfl, trivial, by rw [ht]; exact hP, va_K.moved hW.alike hK, hD⟩, hS.F ht⟩) hS.2.2 dX12_copies_19
    | succ n ih1 =>
      intro j1 x1 g1_1 H locs ls hj1 hq1 hP hD hS hl
      have hx1 : x1.toInt = (j1 : Int) := by rw [hq1]; exact nI_toInt (by omega)
      have hcx1 : x1.toNatClampNeg = j1 := by rw [hq1]; exact nI_clamp (by omega)
      refine lv_iload_n hx hb dX12_copies_2 rfl (lv_at hl 0 rfl) ?_
      refine lv_iload_n hx hb dX12_copies_3 rfl (lv_at hl 3 rfl) ?_
      refine lv_icmp_ge (tgt := 19) hx hb dX12_copies_4 (by decide) (fun c_3 => by have c_3 : 30 ≤ x1.toInt := b_le c_3; omega) (fun c_3 => ?_)
      have c_3 : x1.toInt < 30 := b_nle c_3
      refine lv_aload_n hx hb dX12_copies_7 rfl (lv_at hl 2 rfl) ?_
      refine lv_iload_n hx hb dX12_copies_8 rfl (lv_at hl 0 rfl) ?_
      refine lv_aload_n hx hb dX12_copies_9 rfl (lv_at hl 1 rfl) ?_
      refine lv_iload_n hx hb dX12_copies_10 rfl (lv_at hl 0 rfl) ?_
      refine va_iald hx hb hK hP 0 0 rfl rfl (vp_inI (by omega) (by omega)) dX12_copies_11 ?_
      refine lv_topi (fun v_4 ev_4 => ?_)
      refine va_iast hx hb hK hP hD hS 1 0 rfl rfl (vp_inI (by omega) (by omega)) dX12_copies_12 (fun H locs hP hD hS => ?_)
      have hP : va_P D vwCl [(h1, .inl (cy 0, 30, .inl f)), (h2, .inl (cy 0, 30, .inl (upd g1_1 x1.toNatClampNeg v_4)))] H := hP
      have hD : va_D A [(h1, .inl (cy 0, 30, .inl f)), (h2, .inl (cy 0, 30, .inl (upd g1_1 x1.toNatClampNeg v_4)))] := hD
      obtain ⟨x_5, ex_5⟩ : ∃ y : Int32, y = x1 + 1 := ⟨_, rfl⟩
      refine lv_iinc (v := x_5) (lv' := [(3, .int x_5), (0, .ref h1), (1, .ref h2), (2, .int 30)]) hx hb dX12_copies_13 hl (k := 0) rfl (by rw [ex_5]; rfl) (by decide) rfl (fun ls hl => ?_)
      refine lv_goto (tgt := 2) hx hb dX12_copies_16 (by decide) ?_
      exact ih1 (j1 + 1) x_5 (upd g1_1 x1.toNatClampNeg v_4) _ _ _ (by omega) (by rw [ex_5, hq1]; exact nI_1 j1) hP hD hS (lv_sub hl [0, 1, 2, 3] rfl)
  exact loop_1 30 0 0 g _ _ _ (by omega) rfl hP hD hS hl
set_option maxHeartbeats 4000000 in
set_option maxRecDepth 100000 in
theorem c_X12_copies6 (l : Launch) (D : va_G) (cy : Nat → ClassId) (h1 h2 : Nat) (f g : Nat → Int32) (sz : Nat) : Met l yX12_copies (Cond.code yX12_copies cX12_copies 4 none :: gT) { frames := 1, cells := 0, slots := 0, locals := 24 } (va_Pc [.ref h1, .ref h2, .int 6] (rQ D cy [(h1, .inl (cy 0, 6, .inl f)), (h2, .inl (cy 0, 6, .inl g))] sz)) (va_Qv (fun u : Nat → Int32 => True) (fun (u : Nat → Int32) t => va_P D vwCl [(h1, .inl (cy 0, 6, .inl f)), (h2, .inl (cy 0, 6, .inl u))] t.heap ∧ va_K D vwCl (vT cy) t ∧ va_D (va_A [(h1, .inl (cy 0, 6, .inl f)), (h2, .inl (cy 0, 6, .inl g))] sz) [(h1, .inl (cy 0, 6, .inl f)), (h2, .inl (cy 0, 6, .inl u))]) (va_A [(h1, .inl (cy 0, 6, .inl f)), (h2, .inl (cy 0, 6, .inl g))] sz)) 0 0 (va_A [(h1, .inl (cy 0, 6, .inl f)), (h2, .inl (cy 0, 6, .inl g))] sz) := by
  refine Met.ofQ (cc := cX12_copies) (maxL := 4) (ret := none) (by decide) rfl ?_
  intro p e s m args below meth c s₁ B hml hv Q hQ
  obtain ⟨rfl, hsz, hP, hK, hD0⟩ := hv
  have hx := B.exec
  have hb := B.bytes
  have hr := B.returns
  have hlocks := B.notSynchronized
  have hT : ∀ w ∈ gT, w.before _ s = true := fun w h => atoms_spec (ws := (Cond.code yX12_copies cX12_copies 4 none :: gT)) B.pre w (List.mem_cons_of_mem _ h)
  have hown : s.vm.findClass RX12 = some m.cls := findClass_of_methodNamed B.named
  subst hsz
  have hD := hD0.self (sz := s.heap.size)
  generalize hAe : va_A [(h1, .inl (cy 0, 6, .inl f)), (h2, .inl (cy 0, 6, .inl g))] s.heap.size = A at hD hQ
  have hA : ∀ q : Nat, s.heap.size ≤ q → A q := fun q h => by rw [← hAe]; exact Or.inr h
  have hS : va_S A s.heap s.heap [] := va_S.rf
  have hl := lv_entry ([.ref h1, .ref h2, .int 6]) (n := 4) (Nat.le_of_ble_eq_true rfl)
  rw [lg_entry_eq]
  generalize (lg_sl ([.ref h1, .ref h2, .int 6]) ++ List.replicate (4 - (lg_sl ([.ref h1, .ref h2, .int 6])).length) Slot.unset).toArray = ls at hl ⊢
  have hl : lv_has ls 4 [(0, .ref h1), (1, .ref h2), (2, .int 6)] := hl
  refine lv_iconst (v := 0) hx hb dX12_copies_0 (by decide) ?_
  refine lv_istore_n (lv' := [(3, .int 0), (0, .ref h1), (1, .ref h2), (2, .int 6)]) hx hb dX12_copies_1 rfl hl (by decide) rfl (fun ls hl => ?_)
  have loop_1 : ∀ (n j1 : Nat) (x1 : Int32) (g1_1 : Nat → Int32) (H : Heap) (locs : List Loc) (ls : Array Slot), j1 + n = 6 → x1 = nI j1 → va_P D vwCl [(h1, .inl (cy 0, 6, .inl f)), (h2, .inl (cy 0, 6, .inl g1_1))] H → va_D A [(h1, .inl (cy 0, 6, .inl f)), (h2, .inl (cy 0, 6, .inl g1_1))] → va_S A s.heap H locs → lv_has ls 4 [(3, .int x1), (0, .ref h1), (1, .ref h2), (2, .int 6)] → W p l e ({ frames := 1, cells := 0, slots := 0, locals := 24 } : Room) s m ([.ref h1, .ref h2, .int 6] : List Value).toArray below meth c H locs 0 0 Q (F0 m 2 ls []) := by
    intro n
    induction n with
    | zero =>
      intro j1 x1 g1_1 H locs ls hj1 hq1 hP hD hS hl
      obtain rfl : j1 = 6 := by omega
      obtain rfl : x1 = 6 := hq1.trans (by decide)
      refine lv_iload_n hx hb dX12_copies_2 rfl (lv_at hl 0 rfl) ?_
      refine lv_iload_n hx hb dX12_copies_3 rfl (lv_at hl 3 rfl) ?_
      refine lv_icmp_ge (tgt := 19) hx hb dX12_copies_4 (by decide) (fun c_2 => ?_) (fun c_2 => absurd (by decide) c_2)
      subst hQ
      exact W.vret hx hb hr (fun t ht hW => ⟨⟨g1_1, rfl, trivial, by rw [ht]; exact hP, va_K.moved hW.alike hK, hD⟩, hS.F ht⟩) hS.2.2 dX12_copies_19
    | succ n ih1 =>
      intro j1 x1 g1_1 H locs ls hj1 hq1 hP hD hS hl
      have hx1 : x1.toInt = (j1 : Int) := by rw [hq1]; exact nI_toInt (by omega)
      have hcx1 : x1.toNatClampNeg = j1 := by rw [hq1]; exact nI_clamp (by omega)
      refine lv_iload_n hx hb dX12_copies_2 rfl (lv_at hl 0 rfl) ?_
      refine lv_iload_n hx hb dX12_copies_3 rfl (lv_at hl 3 rfl) ?_
      refine lv_icmp_ge (tgt := 19) hx hb dX12_copies_4 (by decide) (fun c_3 => by have c_3 : 6 ≤ x1.toInt := b_le c_3; omega) (fun c_3 => ?_)
      have c_3 : x1.toInt < 6 := b_nle c_3
      refine lv_aload_n hx hb dX12_copies_7 rfl (lv_at hl 2 rfl) ?_
      refine lv_iload_n hx hb dX12_copies_8 rfl (lv_at hl 0 rfl) ?_
      refine lv_aload_n hx hb dX12_copies_9 rfl (lv_at hl 1 rfl) ?_
      refine lv_iload_n hx hb dX12_copies_10 rfl (lv_at hl 0 rfl) ?_
      refine va_iald hx hb hK hP 0 0 rfl rfl (vp_inI (by omega) (by omega)) dX12_copies_11 ?_
      refine lv_topi (fun v_4 ev_4 => ?_)
      refine va_iast hx hb hK hP hD hS 1 0 rfl rfl (vp_inI (by omega) (by omega)) dX12_copies_12 (fun H locs hP hD hS => ?_)
      have hP : va_P D vwCl [(h1, .inl (cy 0, 6, .inl f)), (h2, .inl (cy 0, 6, .inl (upd g1_1 x1.toNatClampNeg v_4)))] H := hP
      have hD : va_D A [(h1, .inl (cy 0, 6, .inl f)), (h2, .inl (cy 0, 6, .inl (upd g1_1 x1.toNatClampNeg v_4)))] := hD
      obtain ⟨x_5, ex_5⟩ : ∃ y : Int32, y = x1 + 1 := ⟨_, rfl⟩
      refine lv_iinc (v := x_5) (lv' := [(3, .int x_5), (0, .ref h1), (1, .ref h2), (2, .int 6)]) hx hb dX12_copies_13 hl (k := 0) rfl (by rw [ex_5]; rfl) (by decide) rfl (fun ls hl => ?_)
      refine lv_goto (tgt := 2) hx hb dX12_copies_16 (by decide) ?_
      exact ih1 (j1 + 1) x_5 (upd g1_1 x1.toNatClampNeg v_4) _ _ _ (by omega) (by rw [ex_5, hq1]; exact nI_1 j1) hP hD hS (lv_sub hl [0, 1, 2, 3] rfl)
  exact loop_1 6 0 0 g _ _ _ (by omega) rfl hP hD hS hl
set_option maxHeartbeats 4000000 in
set_option maxRecDepth 100000 in
theorem c_X12_keep (l : Launch) (D : va_G) (cy : Nat → ClassId) (a : Nat → Nat) (i : Nat → Int32) (r : Nat → Nat → Int32) (rl : Nat → Int64) (sz : Nat) (hf : mZ i) : Met l yX12_keep (Cond.code yX12_keep cX12_keep 2 (some .int) :: gT) { frames := 2, cells := 0, slots := 0, locals := 47 } (va_Pc [.ref (a 0)] (rQ D cy (mW cy a i r rl) sz)) (va_Qi (fun (z : Int32) (u : Unit) => z = 0) (fun _ _ => True) (va_A (mW cy a i r rl) sz)) 0 0 (va_A (mW cy a i r rl) sz) := by
  refine Met.ofQ (cc := cX12_keep) (maxL := 2) (ret := (some .int)) (by decide) rfl ?_
  intro p e s m args below meth c s₁ B hml hv Q hQ
  obtain ⟨rfl, hsz, hP, hK, hD0⟩ := hv
  have hx := B.exec
  have hb := B.bytes
  have hr := B.returns
  have hlocks := B.notSynchronized
  have hT : ∀ w ∈ gT, w.before _ s = true := fun w h => atoms_spec (ws := (Cond.code yX12_keep cX12_keep 2 (some .int) :: gT)) B.pre w (List.mem_cons_of_mem _ h)
  have hown : s.vm.findClass RX12 = some m.cls := findClass_of_methodNamed B.named
  subst hsz
  have hD := hD0.self (sz := s.heap.size)
  generalize hAe : va_A (mW cy a i r rl) s.heap.size = A at hD hQ
  have hA : ∀ q : Nat, s.heap.size ≤ q → A q := fun q h => by rw [← hAe]; exact Or.inr h
  have hS : va_S A s.heap s.heap [] := va_S.rf
  have hl := lv_entry ([.ref (a 0)]) (n := 2) (Nat.le_of_ble_eq_true rfl)
  rw [lg_entry_eq]
  generalize (lg_sl ([.ref (a 0)]) ++ List.replicate (2 - (lg_sl ([.ref (a 0)])).length) Slot.unset).toArray = ls at hl ⊢
  have hl : lv_has ls 2 [(0, .ref (a 0))] := hl
  refine lv_aload_n hx hb dX12_keep_0 rfl (lv_at hl 0 rfl) ?_
  refine lv_iconst (v := 1) hx hb dX12_keep_1 (by decide) ?_
  refine va_put (D := D) (ci := 12) (v := .int 1) (ty := .boolean) (C := RX12) (T := TX12) (N := 91) hx hb hT iX12 tyX12 tyX12_ok nmX12 hown hK hP hD hS 0 rfl rfl 78 (by decide) (hT _ t_29) (fun _ h9 => h9) rfl (by decide +kernel) rfl rfl (Nat.le_of_ble_eq_true rfl) dX12_keep_2 (fun H locs hP hD hS => ?_)
  rw [mP78] at hP hD
  refine lv_aload_n hx hb dX12_keep_5 rfl (lv_at hl 0 rfl) ?_
  refine lv_aload_n hx hb dX12_keep_6 rfl (lv_at hl 0 rfl) ?_
  refine va_get (D := D) (ci := 12) (v := .int 0) (C := RX12) (T := TX12) (N := 91) hx hb hT iX12 hown hK hP 0 rfl rfl 51 (by decide) (hT _ t_6) (fun _ h9 => h9) (congrArg (fun z => some (Value.int z)) (hf.1 51 (by decide))) dX12_keep_7 ?_
  refine va_put (D := D) (ci := 12) (v := .int 0) (ty := .int) (C := RX12) (T := TX12) (N := 91) hx hb hT iX12 tyX12 tyX12_ok nmX12 hown hK hP hD hS 0 rfl rfl 79 (by decide) (hT _ t_106) (fun _ h9 => h9) rfl (by decide +kernel) rfl rfl (Nat.le_of_ble_eq_true rfl) dX12_keep_10 (fun H locs hP hD hS => ?_)
  rw [mP79] at hP hD
  refine lv_aload_n hx hb dX12_keep_13 rfl (lv_at hl 0 rfl) ?_
  refine lv_aload_n hx hb dX12_keep_14 rfl (lv_at hl 0 rfl) ?_
  refine va_get (D := D) (ci := 12) (v := .int 1) (C := RX12) (T := TX12) (N := 91) hx hb hT iX12 hown hK hP 0 rfl rfl 1 (by decide) (hT _ t_38) (fun _ h9 => h9) (congrArg (fun z => some (Value.int z)) hf.2) dX12_keep_15 ?_
  refine va_put (D := D) (ci := 12) (v := .int 1) (ty := .int) (C := RX12) (T := TX12) (N := 91) hx hb hT iX12 tyX12 tyX12_ok nmX12 hown hK hP hD hS 0 rfl rfl 80 (by decide) (hT _ t_107) (fun _ h9 => h9) rfl (by decide +kernel) rfl rfl (Nat.le_of_ble_eq_true rfl) dX12_keep_18 (fun H locs hP hD hS => ?_)
  rw [mP80] at hP hD
  refine lv_aload_n hx hb dX12_keep_21 rfl (lv_at hl 0 rfl) ?_
  refine va_get (D := D) (ci := 12) (v := .ref (a 40)) (C := RX12) (T := TX12) (N := 91) hx hb hT iX12 hown hK hP 0 rfl rfl 52 (by decide) (hT _ t_108) (fun _ h9 => h9) rfl dX12_keep_22 ?_
  refine lv_aload_n hx hb dX12_keep_25 rfl (lv_at hl 0 rfl) ?_
  refine va_get (D := D) (ci := 12) (v := .ref (a 63)) (C := RX12) (T := TX12) (N := 91) hx hb hT iX12 hown hK hP 0 rfl rfl 81 (by decide) (hT _ t_109) (fun _ h9 => h9) rfl dX12_keep_26 ?_
  refine lv_bipush (v := 30) hx hb dX12_keep_29 (by decide) ?_
  have hP_1 := hP.sub (ws' := [(a 40, .inl (cy 0, 30, .inl (r 40))), (a 63, .inl (cy 0, 30, .inl (r 63)))]) [40, 63] rfl
  have hD_3 := hD.sub (ws' := [(a 40, .inl (cy 0, 30, .inl (r 40))), (a 63, .inl (cy 0, 30, .inl (r 63)))]) [40, 63] (by decide) rfl
  have hF_2 := va_free (wc := [(a 40, .inl (cy 0, 30, .inl (r 40))), (a 63, .inl (cy 0, 30, .inl (r 63)))]) hD hS hA [40, 63] rfl
  refine va_callv (va_runS (As := [.ref (a 40), .ref (a 63), .int 30]) (rest := []) ⟨hx, hb, hml, hown, hT⟩ (c_X12_copies30 l D cy (a 40) (a 63) (r 40) (r 63) _) (va_cwS 3 hT (gS t_110 t_111 t_112 t_8) rfl rfl rfl (by decide +kernel) ⟨Nat.le_of_ble_eq_true rfl, Nat.le_of_ble_eq_true rfl⟩) (rQ_s hP_1 hK hD_3) rfl rfl hl.1 rfl (lv_room (Nat.le_of_ble_eq_true rfl)) dX12_keep_31 ⟨Nat.le_of_ble_eq_true rfl, Nat.le_of_ble_eq_true rfl⟩) hS (fun q _ h => hF_2 q h) hF_2 (fun u_5 t H1 locs ht hvm hr_4 hB hz1 hk1 hS => ?_)
  obtain ⟨hP1, hK1, hD1⟩ := hB
  rw [ht] at hP1
  obtain ⟨hP, hD⟩ := rj (wc := [(a 40, .inl (cy 0, 30, .inl (r 40))), (a 63, .inl (cy 0, 30, .inl (r 63)))]) (w1 := [(a 40, .inl (cy 0, 30, .inl (r 40))), (a 63, .inl (cy 0, 30, .inl u_5))]) hP hD [40, 63] rfl rfl hk1 hP1
  have hP : va_P D vwCl (mW cy a (upd (upd (upd i 78 1) 79 0) 80 1) (va_up r 63 u_5) rl) H1 := hP
  have hD : va_D A (mW cy a (upd (upd (upd i 78 1) 79 0) 80 1) (va_up r 63 u_5) rl) := hD
  obtain ⟨r5, er5⟩ : ∃ z, z = va_up r 63 u_5 := ⟨_, rfl⟩
  rw [← er5] at hP hD
  refine lv_aload_n hx hb dX12_keep_34 rfl (lv_at hl 0 rfl) ?_
  refine va_get (D := D) (ci := 12) (v := .ref (a 41)) (C := RX12) (T := TX12) (N := 91) hx hb hT iX12 hown hK hP 0 rfl rfl 53 (by decide) (hT _ t_113) (fun _ h9 => h9) rfl dX12_keep_35 ?_
  refine lv_aload_n hx hb dX12_keep_38 rfl (lv_at hl 0 rfl) ?_
  refine va_get (D := D) (ci := 12) (v := .ref (a 64)) (C := RX12) (T := TX12) (N := 91) hx hb hT iX12 hown hK hP 0 rfl rfl 82 (by decide) (hT _ t_114) (fun _ h9 => h9) rfl dX12_keep_39 ?_
  refine lv_bipush (v := 30) hx hb dX12_keep_42 (by decide) ?_
  have hP_6 := hP.sub (ws' := [(a 41, .inl (cy 0, 30, .inl (r5 41))), (a 64, .inl (cy 0, 30, .inl (r5 64)))]) [41, 64] rfl
  have hD_8 := hD.sub (ws' := [(a 41, .inl (cy 0, 30, .inl (r5 41))), (a 64, .inl (cy 0, 30, .inl (r5 64)))]) [41, 64] (by decide) rfl
  have hF_7 := va_free (wc := [(a 41, .inl (cy 0, 30, .inl (r5 41))), (a 64, .inl (cy 0, 30, .inl (r5 64)))]) hD hS hA [41, 64] rfl
  refine va_callv (va_runS (As := [.ref (a 41), .ref (a 64), .int 30]) (rest := []) ⟨hx, hb, hml, hown, hT⟩ (c_X12_copies30 l D cy (a 41) (a 64) (r5 41) (r5 64) _) (va_cwS 3 hT (gS t_110 t_111 t_112 t_8) rfl rfl rfl (by decide +kernel) ⟨Nat.le_of_ble_eq_true rfl, Nat.le_of_ble_eq_true rfl⟩) (rQ_s hP_6 hK hD_8) rfl rfl hl.1 rfl (lv_room (Nat.le_of_ble_eq_true rfl)) dX12_keep_44 ⟨Nat.le_of_ble_eq_true rfl, Nat.le_of_ble_eq_true rfl⟩) hS (fun q _ h => hF_7 q h) hF_7 (fun u_10 t H1 locs ht hvm hr_9 hB hz1 hk1 hS => ?_)
  obtain ⟨hP1, hK1, hD1⟩ := hB
  rw [ht] at hP1
  obtain ⟨hP, hD⟩ := rj (wc := [(a 41, .inl (cy 0, 30, .inl (r5 41))), (a 64, .inl (cy 0, 30, .inl (r5 64)))]) (w1 := [(a 41, .inl (cy 0, 30, .inl (r5 41))), (a 64, .inl (cy 0, 30, .inl u_10))]) hP hD [41, 64] rfl rfl hk1 hP1
  have hP : va_P D vwCl (mW cy a (upd (upd (upd i 78 1) 79 0) 80 1) (va_up r5 64 u_10) rl) H1 := hP
  have hD : va_D A (mW cy a (upd (upd (upd i 78 1) 79 0) 80 1) (va_up r5 64 u_10) rl) := hD
  obtain ⟨r10, er10⟩ : ∃ z, z = va_up r5 64 u_10 := ⟨_, rfl⟩
  rw [← er10] at hP hD
  refine lv_aload_n hx hb dX12_keep_47 rfl (lv_at hl 0 rfl) ?_
  refine va_get (D := D) (ci := 12) (v := .ref (a 42)) (C := RX12) (T := TX12) (N := 91) hx hb hT iX12 hown hK hP 0 rfl rfl 54 (by decide) (hT _ t_115) (fun _ h9 => h9) rfl dX12_keep_48 ?_
  refine lv_aload_n hx hb dX12_keep_51 rfl (lv_at hl 0 rfl) ?_
  refine va_get (D := D) (ci := 12) (v := .ref (a 65)) (C := RX12) (T := TX12) (N := 91) hx hb hT iX12 hown hK hP 0 rfl rfl 83 (by decide) (hT _ t_116) (fun _ h9 => h9) rfl dX12_keep_52 ?_
  refine lv_bipush (v := 30) hx hb dX12_keep_55 (by decide) ?_
  have hP_11 := hP.sub (ws' := [(a 42, .inl (cy 0, 30, .inl (r10 42))), (a 65, .inl (cy 0, 30, .inl (r10 65)))]) [42, 65] rfl
  have hD_13 := hD.sub (ws' := [(a 42, .inl (cy 0, 30, .inl (r10 42))), (a 65, .inl (cy 0, 30, .inl (r10 65)))]) [42, 65] (by decide) rfl
  have hF_12 := va_free (wc := [(a 42, .inl (cy 0, 30, .inl (r10 42))), (a 65, .inl (cy 0, 30, .inl (r10 65)))]) hD hS hA [42, 65] rfl
  refine va_callv (va_runS (As := [.ref (a 42), .ref (a 65), .int 30]) (rest := []) ⟨hx, hb, hml, hown, hT⟩ (c_X12_copies30 l D cy (a 42) (a 65) (r10 42) (r10 65) _) (va_cwS 3 hT (gS t_110 t_111 t_112 t_8) rfl rfl rfl (by decide +kernel) ⟨Nat.le_of_ble_eq_true rfl, Nat.le_of_ble_eq_true rfl⟩) (rQ_s hP_11 hK hD_13) rfl rfl hl.1 rfl (lv_room (Nat.le_of_ble_eq_true rfl)) dX12_keep_57 ⟨Nat.le_of_ble_eq_true rfl, Nat.le_of_ble_eq_true rfl⟩) hS (fun q _ h => hF_12 q h) hF_12 (fun u_15 t H1 locs ht hvm hr_14 hB hz1 hk1 hS => ?_)
  obtain ⟨hP1, hK1, hD1⟩ := hB
  rw [ht] at hP1
  obtain ⟨hP, hD⟩ := rj (wc := [(a 42, .inl (cy 0, 30, .inl (r10 42))), (a 65, .inl (cy 0, 30, .inl (r10 65)))]) (w1 := [(a 42, .inl (cy 0, 30, .inl (r10 42))), (a 65, .inl (cy 0, 30, .inl u_15))]) hP hD [42, 65] rfl rfl hk1 hP1
  have hP : va_P D vwCl (mW cy a (upd (upd (upd i 78 1) 79 0) 80 1) (va_up r10 65 u_15) rl) H1 := hP
  have hD : va_D A (mW cy a (upd (upd (upd i 78 1) 79 0) 80 1) (va_up r10 65 u_15) rl) := hD
  obtain ⟨r15, er15⟩ : ∃ z, z = va_up r10 65 u_15 := ⟨_, rfl⟩
  rw [← er15] at hP hD
  refine lv_aload_n hx hb dX12_keep_60 rfl (lv_at hl 0 rfl) ?_
  refine va_get (D := D) (ci := 12) (v := .ref (a 43)) (C := RX12) (T := TX12) (N := 91) hx hb hT iX12 hown hK hP 0 rfl rfl 55 (by decide) (hT _ t_117) (fun _ h9 => h9) rfl dX12_keep_61 ?_
  refine lv_aload_n hx hb dX12_keep_64 rfl (lv_at hl 0 rfl) ?_
  refine va_get (D := D) (ci := 12) (v := .ref (a 66)) (C := RX12) (T := TX12) (N := 91) hx hb hT iX12 hown hK hP 0 rfl rfl 84 (by decide) (hT _ t_118) (fun _ h9 => h9) rfl dX12_keep_65 ?_
  refine lv_bipush (v := 30) hx hb dX12_keep_68 (by decide) ?_
  have hP_16 := hP.sub (ws' := [(a 43, .inl (cy 0, 30, .inl (r15 43))), (a 66, .inl (cy 0, 30, .inl (r15 66)))]) [43, 66] rfl
  have hD_18 := hD.sub (ws' := [(a 43, .inl (cy 0, 30, .inl (r15 43))), (a 66, .inl (cy 0, 30, .inl (r15 66)))]) [43, 66] (by decide) rfl
  have hF_17 := va_free (wc := [(a 43, .inl (cy 0, 30, .inl (r15 43))), (a 66, .inl (cy 0, 30, .inl (r15 66)))]) hD hS hA [43, 66] rfl
  refine va_callv (va_runS (As := [.ref (a 43), .ref (a 66), .int 30]) (rest := []) ⟨hx, hb, hml, hown, hT⟩ (c_X12_copies30 l D cy (a 43) (a 66) (r15 43) (r15 66) _) (va_cwS 3 hT (gS t_110 t_111 t_112 t_8) rfl rfl rfl (by decide +kernel) ⟨Nat.le_of_ble_eq_true rfl, Nat.le_of_ble_eq_true rfl⟩) (rQ_s hP_16 hK hD_18) rfl rfl hl.1 rfl (lv_room (Nat.le_of_ble_eq_true rfl)) dX12_keep_70 ⟨Nat.le_of_ble_eq_true rfl, Nat.le_of_ble_eq_true rfl⟩) hS (fun q _ h => hF_17 q h) hF_17 (fun u_20 t H1 locs ht hvm hr_19 hB hz1 hk1 hS => ?_)
  obtain ⟨hP1, hK1, hD1⟩ := hB
  rw [ht] at hP1
  obtain ⟨hP, hD⟩ := rj (wc := [(a 43, .inl (cy 0, 30, .inl (r15 43))), (a 66, .inl (cy 0, 30, .inl (r15 66)))]) (w1 := [(a 43, .inl (cy 0, 30, .inl (r15 43))), (a 66, .inl (cy 0, 30, .inl u_20))]) hP hD [43, 66] rfl rfl hk1 hP1
  have hP : va_P D vwCl (mW cy a (upd (upd (upd i 78 1) 79 0) 80 1) (va_up r15 66 u_20) rl) H1 := hP
  have hD : va_D A (mW cy a (upd (upd (upd i 78 1) 79 0) 80 1) (va_up r15 66 u_20) rl) := hD
  obtain ⟨r20, er20⟩ : ∃ z, z = va_up r15 66 u_20 := ⟨_, rfl⟩
  rw [← er20] at hP hD
  refine lv_aload_n hx hb dX12_keep_73 rfl (lv_at hl 0 rfl) ?_
  refine va_get (D := D) (ci := 12) (v := .ref (a 44)) (C := RX12) (T := TX12) (N := 91) hx hb hT iX12 hown hK hP 0 rfl rfl 56 (by decide) (hT _ t_119) (fun _ h9 => h9) rfl dX12_keep_74 ?_
  refine lv_aload_n hx hb dX12_keep_77 rfl (lv_at hl 0 rfl) ?_
  refine va_get (D := D) (ci := 12) (v := .ref (a 67)) (C := RX12) (T := TX12) (N := 91) hx hb hT iX12 hown hK hP 0 rfl rfl 85 (by decide) (hT _ t_120) (fun _ h9 => h9) rfl dX12_keep_78 ?_
  refine lv_bipush (v := 30) hx hb dX12_keep_81 (by decide) ?_
  have hP_21 := hP.sub (ws' := [(a 44, .inl (cy 0, 30, .inl (r20 44))), (a 67, .inl (cy 0, 30, .inl (r20 67)))]) [44, 67] rfl
  have hD_23 := hD.sub (ws' := [(a 44, .inl (cy 0, 30, .inl (r20 44))), (a 67, .inl (cy 0, 30, .inl (r20 67)))]) [44, 67] (by decide) rfl
  have hF_22 := va_free (wc := [(a 44, .inl (cy 0, 30, .inl (r20 44))), (a 67, .inl (cy 0, 30, .inl (r20 67)))]) hD hS hA [44, 67] rfl
  refine va_callv (va_runS (As := [.ref (a 44), .ref (a 67), .int 30]) (rest := []) ⟨hx, hb, hml, hown, hT⟩ (c_X12_copies30 l D cy (a 44) (a 67) (r20 44) (r20 67) _) (va_cwS 3 hT (gS t_110 t_111 t_112 t_8) rfl rfl rfl (by decide +kernel) ⟨Nat.le_of_ble_eq_true rfl, Nat.le_of_ble_eq_true rfl⟩) (rQ_s hP_21 hK hD_23) rfl rfl hl.1 rfl (lv_room (Nat.le_of_ble_eq_true rfl)) dX12_keep_83 ⟨Nat.le_of_ble_eq_true rfl, Nat.le_of_ble_eq_true rfl⟩) hS (fun q _ h => hF_22 q h) hF_22 (fun u_25 t H1 locs ht hvm hr_24 hB hz1 hk1 hS => ?_)
  obtain ⟨hP1, hK1, hD1⟩ := hB
  rw [ht] at hP1
  obtain ⟨hP, hD⟩ := rj (wc := [(a 44, .inl (cy 0, 30, .inl (r20 44))), (a 67, .inl (cy 0, 30, .inl (r20 67)))]) (w1 := [(a 44, .inl (cy 0, 30, .inl (r20 44))), (a 67, .inl (cy 0, 30, .inl u_25))]) hP hD [44, 67] rfl rfl hk1 hP1
  have hP : va_P D vwCl (mW cy a (upd (upd (upd i 78 1) 79 0) 80 1) (va_up r20 67 u_25) rl) H1 := hP
  have hD : va_D A (mW cy a (upd (upd (upd i 78 1) 79 0) 80 1) (va_up r20 67 u_25) rl) := hD
  obtain ⟨r25, er25⟩ : ∃ z, z = va_up r20 67 u_25 := ⟨_, rfl⟩
  rw [← er25] at hP hD
  refine lv_aload_n hx hb dX12_keep_86 rfl (lv_at hl 0 rfl) ?_
  refine va_get (D := D) (ci := 12) (v := .ref (a 45)) (C := RX12) (T := TX12) (N := 91) hx hb hT iX12 hown hK hP 0 rfl rfl 57 (by decide) (hT _ t_121) (fun _ h9 => h9) rfl dX12_keep_87 ?_
  refine lv_aload_n hx hb dX12_keep_90 rfl (lv_at hl 0 rfl) ?_
  refine va_get (D := D) (ci := 12) (v := .ref (a 68)) (C := RX12) (T := TX12) (N := 91) hx hb hT iX12 hown hK hP 0 rfl rfl 86 (by decide) (hT _ t_122) (fun _ h9 => h9) rfl dX12_keep_91 ?_
  refine lv_bipush (v := 30) hx hb dX12_keep_94 (by decide) ?_
  have hP_26 := hP.sub (ws' := [(a 45, .inl (cy 0, 30, .inl (r25 45))), (a 68, .inl (cy 0, 30, .inl (r25 68)))]) [45, 68] rfl
  have hD_28 := hD.sub (ws' := [(a 45, .inl (cy 0, 30, .inl (r25 45))), (a 68, .inl (cy 0, 30, .inl (r25 68)))]) [45, 68] (by decide) rfl
  have hF_27 := va_free (wc := [(a 45, .inl (cy 0, 30, .inl (r25 45))), (a 68, .inl (cy 0, 30, .inl (r25 68)))]) hD hS hA [45, 68] rfl
  refine va_callv (va_runS (As := [.ref (a 45), .ref (a 68), .int 30]) (rest := []) ⟨hx, hb, hml, hown, hT⟩ (c_X12_copies30 l D cy (a 45) (a 68) (r25 45) (r25 68) _) (va_cwS 3 hT (gS t_110 t_111 t_112 t_8) rfl rfl rfl (by decide +kernel) ⟨Nat.le_of_ble_eq_true rfl, Nat.le_of_ble_eq_true rfl⟩) (rQ_s hP_26 hK hD_28) rfl rfl hl.1 rfl (lv_room (Nat.le_of_ble_eq_true rfl)) dX12_keep_96 ⟨Nat.le_of_ble_eq_true rfl, Nat.le_of_ble_eq_true rfl⟩) hS (fun q _ h => hF_27 q h) hF_27 (fun u_30 t H1 locs ht hvm hr_29 hB hz1 hk1 hS => ?_)
  obtain ⟨hP1, hK1, hD1⟩ := hB
  rw [ht] at hP1
  obtain ⟨hP, hD⟩ := rj (wc := [(a 45, .inl (cy 0, 30, .inl (r25 45))), (a 68, .inl (cy 0, 30, .inl (r25 68)))]) (w1 := [(a 45, .inl (cy 0, 30, .inl (r25 45))), (a 68, .inl (cy 0, 30, .inl u_30))]) hP hD [45, 68] rfl rfl hk1 hP1
  have hP : va_P D vwCl (mW cy a (upd (upd (upd i 78 1) 79 0) 80 1) (va_up r25 68 u_30) rl) H1 := hP
  have hD : va_D A (mW cy a (upd (upd (upd i 78 1) 79 0) 80 1) (va_up r25 68 u_30) rl) := hD
  obtain ⟨r30, er30⟩ : ∃ z, z = va_up r25 68 u_30 := ⟨_, rfl⟩
  rw [← er30] at hP hD
  refine lv_aload_n hx hb dX12_keep_99 rfl (lv_at hl 0 rfl) ?_
  refine va_get (D := D) (ci := 12) (v := .ref (a 46)) (C := RX12) (T := TX12) (N := 91) hx hb hT iX12 hown hK hP 0 rfl rfl 58 (by decide) (hT _ t_123) (fun _ h9 => h9) rfl dX12_keep_100 ?_
  refine lv_aload_n hx hb dX12_keep_103 rfl (lv_at hl 0 rfl) ?_
  refine va_get (D := D) (ci := 12) (v := .ref (a 69)) (C := RX12) (T := TX12) (N := 91) hx hb hT iX12 hown hK hP 0 rfl rfl 87 (by decide) (hT _ t_124) (fun _ h9 => h9) rfl dX12_keep_104 ?_
  refine lv_bipush (v := 30) hx hb dX12_keep_107 (by decide) ?_
  have hP_31 := hP.sub (ws' := [(a 46, .inl (cy 0, 30, .inl (r30 46))), (a 69, .inl (cy 0, 30, .inl (r30 69)))]) [46, 69] rfl
  have hD_33 := hD.sub (ws' := [(a 46, .inl (cy 0, 30, .inl (r30 46))), (a 69, .inl (cy 0, 30, .inl (r30 69)))]) [46, 69] (by decide) rfl
  have hF_32 := va_free (wc := [(a 46, .inl (cy 0, 30, .inl (r30 46))), (a 69, .inl (cy 0, 30, .inl (r30 69)))]) hD hS hA [46, 69] rfl
  refine va_callv (va_runS (As := [.ref (a 46), .ref (a 69), .int 30]) (rest := []) ⟨hx, hb, hml, hown, hT⟩ (c_X12_copies30 l D cy (a 46) (a 69) (r30 46) (r30 69) _) (va_cwS 3 hT (gS t_110 t_111 t_112 t_8) rfl rfl rfl (by decide +kernel) ⟨Nat.le_of_ble_eq_true rfl, Nat.le_of_ble_eq_true rfl⟩) (rQ_s hP_31 hK hD_33) rfl rfl hl.1 rfl (lv_room (Nat.le_of_ble_eq_true rfl)) dX12_keep_109 ⟨Nat.le_of_ble_eq_true rfl, Nat.le_of_ble_eq_true rfl⟩) hS (fun q _ h => hF_32 q h) hF_32 (fun u_35 t H1 locs ht hvm hr_34 hB hz1 hk1 hS => ?_)
  obtain ⟨hP1, hK1, hD1⟩ := hB
  rw [ht] at hP1
  obtain ⟨hP, hD⟩ := rj (wc := [(a 46, .inl (cy 0, 30, .inl (r30 46))), (a 69, .inl (cy 0, 30, .inl (r30 69)))]) (w1 := [(a 46, .inl (cy 0, 30, .inl (r30 46))), (a 69, .inl (cy 0, 30, .inl u_35))]) hP hD [46, 69] rfl rfl hk1 hP1
  have hP : va_P D vwCl (mW cy a (upd (upd (upd i 78 1) 79 0) 80 1) (va_up r30 69 u_35) rl) H1 := hP
  have hD : va_D A (mW cy a (upd (upd (upd i 78 1) 79 0) 80 1) (va_up r30 69 u_35) rl) := hD
  obtain ⟨r35, er35⟩ : ∃ z, z = va_up r30 69 u_35 := ⟨_, rfl⟩
  rw [← er35] at hP hD
  refine lv_aload_n hx hb dX12_keep_112 rfl (lv_at hl 0 rfl) ?_
  refine va_get (D := D) (ci := 12) (v := .ref (a 50)) (C := RX12) (T := TX12) (N := 91) hx hb hT iX12 hown hK hP 0 rfl rfl 64 (by decide) (hT _ t_125) (fun _ h9 => h9) rfl dX12_keep_113 ?_
  refine lv_aload_n hx hb dX12_keep_116 rfl (lv_at hl 0 rfl) ?_
  refine va_get (D := D) (ci := 12) (v := .ref (a 70)) (C := RX12) (T := TX12) (N := 91) hx hb hT iX12 hown hK hP 0 rfl rfl 88 (by decide) (hT _ t_126) (fun _ h9 => h9) rfl dX12_keep_117 ?_
  refine lv_bipush (v := 6) hx hb dX12_keep_120 (by decide) ?_
  have hP_36 := hP.sub (ws' := [(a 50, .inl (cy 0, 6, .inl (r35 50))), (a 70, .inl (cy 0, 6, .inl (r35 70)))]) [50, 70] rfl
  have hD_38 := hD.sub (ws' := [(a 50, .inl (cy 0, 6, .inl (r35 50))), (a 70, .inl (cy 0, 6, .inl (r35 70)))]) [50, 70] (by decide) rfl
  have hF_37 := va_free (wc := [(a 50, .inl (cy 0, 6, .inl (r35 50))), (a 70, .inl (cy 0, 6, .inl (r35 70)))]) hD hS hA [50, 70] rfl
  refine va_callv (va_runS (As := [.ref (a 50), .ref (a 70), .int 6]) (rest := []) ⟨hx, hb, hml, hown, hT⟩ (c_X12_copies6 l D cy (a 50) (a 70) (r35 50) (r35 70) _) (va_cwS 3 hT (gS t_110 t_111 t_112 t_8) rfl rfl rfl (by decide +kernel) ⟨Nat.le_of_ble_eq_true rfl, Nat.le_of_ble_eq_true rfl⟩) (rQ_s hP_36 hK hD_38) rfl rfl hl.1 rfl (lv_room (Nat.le_of_ble_eq_true rfl)) dX12_keep_122 ⟨Nat.le_of_ble_eq_true rfl, Nat.le_of_ble_eq_true rfl⟩) hS (fun q _ h => hF_37 q h) hF_37 (fun u_40 t H1 locs ht hvm hr_39 hB hz1 hk1 hS => ?_)
  obtain ⟨hP1, hK1, hD1⟩ := hB
  rw [ht] at hP1
  obtain ⟨hP, hD⟩ := rj (wc := [(a 50, .inl (cy 0, 6, .inl (r35 50))), (a 70, .inl (cy 0, 6, .inl (r35 70)))]) (w1 := [(a 50, .inl (cy 0, 6, .inl (r35 50))), (a 70, .inl (cy 0, 6, .inl u_40))]) hP hD [50, 70] rfl rfl hk1 hP1
  have hP : va_P D vwCl (mW cy a (upd (upd (upd i 78 1) 79 0) 80 1) (va_up r35 70 u_40) rl) H1 := hP
  have hD : va_D A (mW cy a (upd (upd (upd i 78 1) 79 0) 80 1) (va_up r35 70 u_40) rl) := hD
  obtain ⟨r40, er40⟩ : ∃ z, z = va_up r35 70 u_40 := ⟨_, rfl⟩
  rw [← er40] at hP hD
  refine lv_aload_n hx hb dX12_keep_125 rfl (lv_at hl 0 rfl) ?_
  refine va_get (D := D) (ci := 12) (v := .ref (a 51)) (C := RX12) (T := TX12) (N := 91) hx hb hT iX12 hown hK hP 0 rfl rfl 65 (by decide) (hT _ t_127) (fun _ h9 => h9) rfl dX12_keep_126 ?_
  refine lv_aload_n hx hb dX12_keep_129 rfl (lv_at hl 0 rfl) ?_
  refine va_get (D := D) (ci := 12) (v := .ref (a 71)) (C := RX12) (T := TX12) (N := 91) hx hb hT iX12 hown hK hP 0 rfl rfl 89 (by decide) (hT _ t_128) (fun _ h9 => h9) rfl dX12_keep_130 ?_
  refine lv_bipush (v := 6) hx hb dX12_keep_133 (by decide) ?_
  have hP_41 := hP.sub (ws' := [(a 51, .inl (cy 0, 6, .inl (r40 51))), (a 71, .inl (cy 0, 6, .inl (r40 71)))]) [51, 71] rfl
  have hD_43 := hD.sub (ws' := [(a 51, .inl (cy 0, 6, .inl (r40 51))), (a 71, .inl (cy 0, 6, .inl (r40 71)))]) [51, 71] (by decide) rfl
  have hF_42 := va_free (wc := [(a 51, .inl (cy 0, 6, .inl (r40 51))), (a 71, .inl (cy 0, 6, .inl (r40 71)))]) hD hS hA [51, 71] rfl
  refine va_callv (va_runS (As := [.ref (a 51), .ref (a 71), .int 6]) (rest := []) ⟨hx, hb, hml, hown, hT⟩ (c_X12_copies6 l D cy (a 51) (a 71) (r40 51) (r40 71) _) (va_cwS 3 hT (gS t_110 t_111 t_112 t_8) rfl rfl rfl (by decide +kernel) ⟨Nat.le_of_ble_eq_true rfl, Nat.le_of_ble_eq_true rfl⟩) (rQ_s hP_41 hK hD_43) rfl rfl hl.1 rfl (lv_room (Nat.le_of_ble_eq_true rfl)) dX12_keep_135 ⟨Nat.le_of_ble_eq_true rfl, Nat.le_of_ble_eq_true rfl⟩) hS (fun q _ h => hF_42 q h) hF_42 (fun u_45 t H1 locs ht hvm hr_44 hB hz1 hk1 hS => ?_)
  obtain ⟨hP1, hK1, hD1⟩ := hB
  rw [ht] at hP1
  obtain ⟨hP, hD⟩ := rj (wc := [(a 51, .inl (cy 0, 6, .inl (r40 51))), (a 71, .inl (cy 0, 6, .inl (r40 71)))]) (w1 := [(a 51, .inl (cy 0, 6, .inl (r40 51))), (a 71, .inl (cy 0, 6, .inl u_45))]) hP hD [51, 71] rfl rfl hk1 hP1
  have hP : va_P D vwCl (mW cy a (upd (upd (upd i 78 1) 79 0) 80 1) (va_up r40 71 u_45) rl) H1 := hP
  have hD : va_D A (mW cy a (upd (upd (upd i 78 1) 79 0) 80 1) (va_up r40 71 u_45) rl) := hD
  obtain ⟨r45, er45⟩ : ∃ z, z = va_up r40 71 u_45 := ⟨_, rfl⟩
  rw [← er45] at hP hD
  refine lv_iconst (v := 0) hx hb dX12_keep_138 (by decide) ?_
  refine lv_istore_n (lv' := [(1, .int 0), (0, .ref (a 0))]) hx hb dX12_keep_139 rfl hl (by decide) rfl (fun ls hl => ?_)
  have loop_46 : ∀ (n j46 : Nat) (x46 : Int32) (r46 : Nat → Nat → Int32) (H : Heap) (locs : List Loc) (ls : Array Slot), j46 + n = 30 → x46 = nI j46 → va_P D vwCl (mW cy a (upd (upd (upd i 78 1) 79 0) 80 1) r46 rl) H → va_D A (mW cy a (upd (upd (upd i 78 1) 79 0) 80 1) r46 rl) → va_S A s.heap H locs → lv_has ls 2 [(1, .int x46), (0, .ref (a 0))] → W p l e ({ frames := 2, cells := 0, slots := 0, locals := 47 } : Room) s m ([.ref (a 0)] : List Value).toArray below meth c H locs 0 0 Q (F0 m 140 ls []) := by
    intro n
    induction n with
    | zero =>
      intro j46 x46 r46 H locs ls hj46 hq46 hP hD hS hl
      obtain rfl : j46 = 30 := by omega
      obtain rfl : x46 = 30 := hq46.trans (by decide)
      refine lv_iload_n hx hb dX12_keep_140 rfl (lv_at hl 0 rfl) ?_
      refine lv_bipush (v := 30) hx hb dX12_keep_141 (by decide) ?_
      refine lv_icmp_ge (tgt := 164) hx hb dX12_keep_143 (by decide) (fun c_47 => ?_) (fun c_47 => absurd (by decide) c_47)
      refine lv_aload_n hx hb dX12_keep_164 rfl (lv_at hl 1 rfl) ?_
      refine va_get (D := D) (ci := 12) (v := .int 0) (C := RX12) (T := TX12) (N := 91) hx hb hT iX12 hown hK hP 0 rfl rfl 51 (by decide) (hT _ t_6) (fun _ h9 => h9) (congrArg (fun z => some (Value.int z)) (hf.1 51 (by decide))) dX12_keep_165 ?_
      subst hQ
      exact W.iret (v := 0) hx hb hr (fun t ht hW => ⟨⟨_, (), rfl, rfl, trivial⟩, hS.F ht⟩) hS.2.2 dX12_keep_168
    | succ n ih46 =>
      intro j46 x46 r46 H locs ls hj46 hq46 hP hD hS hl
      have hx46 : x46.toInt = (j46 : Int) := by rw [hq46]; exact nI_toInt (by omega)
      have hcx46 : x46.toNatClampNeg = j46 := by rw [hq46]; exact nI_clamp (by omega)
      refine lv_iload_n hx hb dX12_keep_140 rfl (lv_at hl 0 rfl) ?_
      refine lv_bipush (v := 30) hx hb dX12_keep_141 (by decide) ?_
      refine lv_icmp_ge (tgt := 164) hx hb dX12_keep_143 (by decide) (fun c_48 => by have c_48 : 30 ≤ x46.toInt := b_le c_48; omega) (fun c_48 => ?_)
      have c_48 : x46.toInt < 30 := b_nle c_48
      refine lv_aload_n hx hb dX12_keep_146 rfl (lv_at hl 1 rfl) ?_
      refine va_get (D := D) (ci := 12) (v := .ref (a 72)) (C := RX12) (T := TX12) (N := 91) hx hb hT iX12 hown hK hP 0 rfl rfl 90 (by decide) (hT _ t_129) (fun _ h9 => h9) rfl dX12_keep_147 ?_
      refine lv_iload_n hx hb dX12_keep_150 rfl (lv_at hl 0 rfl) ?_
      refine lv_aload_n hx hb dX12_keep_151 rfl (lv_at hl 1 rfl) ?_
      refine va_get (D := D) (ci := 12) (v := .ref (a 47)) (C := RX12) (T := TX12) (N := 91) hx hb hT iX12 hown hK hP 0 rfl rfl 59 (by decide) (hT _ t_130) (fun _ h9 => h9) rfl dX12_keep_152 ?_
      refine lv_iload_n hx hb dX12_keep_155 rfl (lv_at hl 0 rfl) ?_
      refine va_zald hx hb hK hP 47 2 rfl rfl (vp_inI (by omega) (by omega)) dX12_keep_156 ?_
      refine lv_topi (fun v_49 ev_49 => ?_)
      refine va_zast hx hb hK hP hD hS 72 2 rfl rfl (vp_inI (by omega) (by omega)) dX12_keep_157 (fun H locs hP hD hS => ?_)
      rw [mS72] at hP hD
      obtain ⟨x_50, ex_50⟩ : ∃ y : Int32, y = x46 + 1 := ⟨_, rfl⟩
      refine lv_iinc (v := x_50) (lv' := [(1, .int x_50), (0, .ref (a 0))]) hx hb dX12_keep_158 hl (k := 0) rfl (by rw [ex_50]; rfl) (by decide) rfl (fun ls hl => ?_)
      refine lv_goto (tgt := 140) hx hb dX12_keep_161 (by decide) ?_
      exact ih46 (j46 + 1) x_50 (va_up r46 72 (upd (r46 72) x46.toNatClampNeg (vp_nar .boolean v_49))) _ _ _ (by omega) (by rw [ex_50, hq46]; exact nI_1 j46) hP hD hS (lv_sub hl [0, 1] rfl)
  exact loop_46 30 0 0 r45 _ _ _ (by omega) rfl hP hD hS hl
