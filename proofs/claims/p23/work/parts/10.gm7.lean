set_option maxRecDepth 100000 in
theorem t_175 : Cond.constant RX12 245 (99999) ∈ gT := tm (tb6 (List.mem_of_getElem? (i := 6) (by rfl))) (by decide +kernel)
set_option maxRecDepth 100000 in
theorem t_176 : Cond.fieldLink RX12 31 "DepositJudgeModel" "partOf" "[I" ∈ gT := tm (tb4 (List.mem_of_getElem? (i := 206) (by rfl))) (by decide +kernel)
set_option maxRecDepth 100000 in
theorem t_177 : Cond.code yX12_isPence cX12_isPence 1 (some .boolean) ∈ gT := tm (tb6 (List.mem_of_getElem? (i := 13) (by rfl))) (by decide +kernel)
set_option maxRecDepth 100000 in
theorem t_178 : Cond.methodLink RX12 246 yX12_isPence ∈ gT := tm (tb6 (List.mem_of_getElem? (i := 11) (by rfl))) (by decide +kernel)
set_option maxRecDepth 100000 in
theorem t_179 : Cond.static yX12_isPence ∈ gT := tm (tb6 (List.mem_of_getElem? (i := 12) (by rfl))) (by decide +kernel)
set_option maxRecDepth 100000 in
theorem t_180 : Cond.constant RX12 468 (65535) ∈ gT := tm (tb7 (List.mem_of_getElem? (i := 67) (by rfl))) (by decide +kernel)
set_option maxRecDepth 100000 in
theorem t_181 : Cond.fieldLink RX12 229 "DepositJudgeModel" "x0" "I" ∈ gT := tm (tb4 (List.mem_of_getElem? (i := 198) (by rfl))) (by decide +kernel)
set_option maxRecDepth 100000 in
theorem t_182 : Cond.code yX12_isThing cX12_isThing 3 (some .boolean) ∈ gT := tm (tb6 (List.mem_of_getElem? (i := 33) (by rfl))) (by decide +kernel)
set_option maxRecDepth 100000 in
theorem t_183 : Cond.methodLink RX12 252 yX12_isThing ∈ gT := tm (tb6 (List.mem_of_getElem? (i := 31) (by rfl))) (by decide +kernel)
set_option maxRecDepth 100000 in
theorem t_184 : Cond.static yX12_isThing ∈ gT := tm (tb6 (List.mem_of_getElem? (i := 32) (by rfl))) (by decide +kernel)
set_option maxRecDepth 100000 in
theorem t_185 : Cond.fieldLink RX12 163 "DepositJudgeModel" "tenantOffer" "[I" ∈ gT := tm (tb5 (List.mem_of_getElem? (i := 22) (by rfl))) (by decide +kernel)
set_option maxRecDepth 100000 in
theorem t_186 : Cond.fieldLink RX12 160 "DepositJudgeModel" "ownerOffer" "[I" ∈ gT := tm (tb5 (List.mem_of_getElem? (i := 21) (by rfl))) (by decide +kernel)
set_option maxRecDepth 100000 in
theorem t_187 : Cond.code yX12_isJudge cX12_isJudge 1 (some .boolean) ∈ gT := tm (tb7 (List.mem_of_getElem? (i := 62) (by rfl))) (by decide +kernel)
set_option maxRecDepth 100000 in
theorem t_188 : Cond.methodLink RX12 465 yX12_isJudge ∈ gT := tm (tb7 (List.mem_of_getElem? (i := 60) (by rfl))) (by decide +kernel)
set_option maxRecDepth 100000 in
theorem t_189 : Cond.static yX12_isJudge ∈ gT := tm (tb7 (List.mem_of_getElem? (i := 61) (by rfl))) (by decide +kernel)
set_option maxRecDepth 100000 in
theorem t_190 : Cond.fieldLink RX12 178 "DepositJudgeModel" "isKin" "[Z" ∈ gT := tm (tb5 (List.mem_of_getElem? (i := 27) (by rfl))) (by decide +kernel)
set_option maxRecDepth 100000 in
theorem t_191 : Cond.fieldLink RX12 470 "DepositJudgeModel" "doubles" "I" ∈ gT := tm (tb5 (List.mem_of_getElem? (i := 20) (by rfl))) (by decide +kernel)
set_option maxRecDepth 100000 in
theorem t_192 : Cond.fieldLink RX12 166 "DepositJudgeModel" "doubleA" "[I" ∈ gT := tm (tb5 (List.mem_of_getElem? (i := 23) (by rfl))) (by decide +kernel)
set_option maxRecDepth 100000 in
theorem t_193 : Cond.fieldLink RX12 169 "DepositJudgeModel" "doubleB" "[I" ∈ gT := tm (tb5 (List.mem_of_getElem? (i := 24) (by rfl))) (by decide +kernel)
set_option maxRecDepth 100000 in
theorem t_194 : Cond.fieldLink RX12 172 "DepositJudgeModel" "doubleByA" "[I" ∈ gT := tm (tb5 (List.mem_of_getElem? (i := 25) (by rfl))) (by decide +kernel)
set_option maxRecDepth 100000 in
theorem t_195 : Cond.fieldLink RX12 175 "DepositJudgeModel" "doubleByB" "[I" ∈ gT := tm (tb5 (List.mem_of_getElem? (i := 26) (by rfl))) (by decide +kernel)
set_option maxRecDepth 100000 in
theorem t_196 : Cond.fieldLink RX12 486 "DepositJudgeModel" "facts0" "I" ∈ gT := tm (tb5 (List.mem_of_getElem? (i := 29) (by rfl))) (by decide +kernel)
set_option maxRecDepth 100000 in
theorem t_197 : Cond.fieldLink RX12 184 "DepositJudgeModel" "factA" "[I" ∈ gT := tm (tb5 (List.mem_of_getElem? (i := 30) (by rfl))) (by decide +kernel)
set_option maxRecDepth 100000 in
theorem t_198 : Cond.fieldLink RX12 187 "DepositJudgeModel" "factB" "[I" ∈ gT := tm (tb5 (List.mem_of_getElem? (i := 31) (by rfl))) (by decide +kernel)
set_option maxRecDepth 100000 in
theorem t_199 : Cond.fieldLink RX12 190 "DepositJudgeModel" "factDays" "[I" ∈ gT := tm (tb5 (List.mem_of_getElem? (i := 32) (by rfl))) (by decide +kernel)
def dl_106 : List (Nat × (Instr × Nat)) := [(0, (.aload_n 0, 1)), (1, (.iload_n 1, 1)), (2, (.invokevirtual 423, 3)), (5, (.ifCond .eq 10, 3)), (8, (.iload_n 2, 1)), (9, (.invokestatic 246, 3)), (12, (.ifCond .ne 5, 3)), (15, (.iconst 0, 1)), (16, (.ireturn, 1)), (17, (.aload_n 0, 1)), (18, (.getfield 144, 3)), (21, (.iload_n 1, 1)), (22, (.iload_n 2, 1)), (23, (.iastore, 1)), (24, (.iconst 1, 1)), (25, (.ireturn, 1))]
theorem dh_106 : dchk cX12_agree dl_106 = true := by decide +kernel
theorem dX12_agree_0 : decode cX12_agree 0 = .ok (.aload_n 0, 1) := dget dh_106 (k := 0) rfl
theorem dX12_agree_1 : decode cX12_agree 1 = .ok (.iload_n 1, 1) := dget dh_106 (k := 1) rfl
theorem dX12_agree_2 : decode cX12_agree 2 = .ok (.invokevirtual 423, 3) := dget dh_106 (k := 2) rfl
theorem dX12_agree_5 : decode cX12_agree 5 = .ok (.ifCond .eq 10, 3) := dget dh_106 (k := 3) rfl
theorem dX12_agree_8 : decode cX12_agree 8 = .ok (.iload_n 2, 1) := dget dh_106 (k := 4) rfl
theorem dX12_agree_9 : decode cX12_agree 9 = .ok (.invokestatic 246, 3) := dget dh_106 (k := 5) rfl
theorem dX12_agree_12 : decode cX12_agree 12 = .ok (.ifCond .ne 5, 3) := dget dh_106 (k := 6) rfl
theorem dX12_agree_15 : decode cX12_agree 15 = .ok (.iconst 0, 1) := dget dh_106 (k := 7) rfl
theorem dX12_agree_16 : decode cX12_agree 16 = .ok (.ireturn, 1) := dget dh_106 (k := 8) rfl
theorem dX12_agree_17 : decode cX12_agree 17 = .ok (.aload_n 0, 1) := dget dh_106 (k := 9) rfl
theorem dX12_agree_18 : decode cX12_agree 18 = .ok (.getfield 144, 3) := dget dh_106 (k := 10) rfl
theorem dX12_agree_21 : decode cX12_agree 21 = .ok (.iload_n 1, 1) := dget dh_106 (k := 11) rfl
theorem dX12_agree_22 : decode cX12_agree 22 = .ok (.iload_n 2, 1) := dget dh_106 (k := 12) rfl
theorem dX12_agree_23 : decode cX12_agree 23 = .ok (.iastore, 1) := dget dh_106 (k := 13) rfl
theorem dX12_agree_24 : decode cX12_agree 24 = .ok (.iconst 1, 1) := dget dh_106 (k := 14) rfl
theorem dX12_agree_25 : decode cX12_agree 25 = .ok (.ireturn, 1) := dget dh_106 (k := 15) rfl
def dl_107 : List (Nat × (Instr × Nat)) := [(0, (.aload_n 0, 1)), (1, (.iload_n 1, 1)), (2, (.invokevirtual 423, 3)), (5, (.ifCond .eq 20, 3)), (8, (.iload_n 2, 1)), (9, (.invokestatic 420, 3)), (12, (.ifCond .eq 13, 3)), (15, (.iload_n 2, 1)), (16, (.aload_n 0, 1)), (17, (.getfield 141, 3)), (20, (.iload_n 1, 1)), (21, (.iaload, 1)), (22, (.if_icmp .ge 5, 3)), (25, (.iconst 0, 1)), (26, (.ireturn, 1)), (27, (.aload_n 0, 1)), (28, (.getfield 147, 3)), (31, (.iload_n 1, 1)), (32, (.iload_n 2, 1)), (33, (.iastore, 1))]
theorem dh_107 : dchk cX12_answer dl_107 = true := by decide +kernel
theorem dX12_answer_0 : decode cX12_answer 0 = .ok (.aload_n 0, 1) := dget dh_107 (k := 0) rfl
theorem dX12_answer_1 : decode cX12_answer 1 = .ok (.iload_n 1, 1) := dget dh_107 (k := 1) rfl
theorem dX12_answer_2 : decode cX12_answer 2 = .ok (.invokevirtual 423, 3) := dget dh_107 (k := 2) rfl
theorem dX12_answer_5 : decode cX12_answer 5 = .ok (.ifCond .eq 20, 3) := dget dh_107 (k := 3) rfl
theorem dX12_answer_8 : decode cX12_answer 8 = .ok (.iload_n 2, 1) := dget dh_107 (k := 4) rfl
theorem dX12_answer_9 : decode cX12_answer 9 = .ok (.invokestatic 420, 3) := dget dh_107 (k := 5) rfl
theorem dX12_answer_12 : decode cX12_answer 12 = .ok (.ifCond .eq 13, 3) := dget dh_107 (k := 6) rfl
theorem dX12_answer_15 : decode cX12_answer 15 = .ok (.iload_n 2, 1) := dget dh_107 (k := 7) rfl
theorem dX12_answer_16 : decode cX12_answer 16 = .ok (.aload_n 0, 1) := dget dh_107 (k := 8) rfl
theorem dX12_answer_17 : decode cX12_answer 17 = .ok (.getfield 141, 3) := dget dh_107 (k := 9) rfl
theorem dX12_answer_20 : decode cX12_answer 20 = .ok (.iload_n 1, 1) := dget dh_107 (k := 10) rfl
theorem dX12_answer_21 : decode cX12_answer 21 = .ok (.iaload, 1) := dget dh_107 (k := 11) rfl
theorem dX12_answer_22 : decode cX12_answer 22 = .ok (.if_icmp .ge 5, 3) := dget dh_107 (k := 12) rfl
theorem dX12_answer_25 : decode cX12_answer 25 = .ok (.iconst 0, 1) := dget dh_107 (k := 13) rfl
theorem dX12_answer_26 : decode cX12_answer 26 = .ok (.ireturn, 1) := dget dh_107 (k := 14) rfl
theorem dX12_answer_27 : decode cX12_answer 27 = .ok (.aload_n 0, 1) := dget dh_107 (k := 15) rfl
theorem dX12_answer_28 : decode cX12_answer 28 = .ok (.getfield 147, 3) := dget dh_107 (k := 16) rfl
theorem dX12_answer_31 : decode cX12_answer 31 = .ok (.iload_n 1, 1) := dget dh_107 (k := 17) rfl
theorem dX12_answer_32 : decode cX12_answer 32 = .ok (.iload_n 2, 1) := dget dh_107 (k := 18) rfl
theorem dX12_answer_33 : decode cX12_answer 33 = .ok (.iastore, 1) := dget dh_107 (k := 19) rfl
def dl_108 : List (Nat × (Instr × Nat)) := [(34, (.aload_n 0, 1)), (35, (.getfield 150, 3)), (38, (.iload_n 1, 1)), (39, (.iload_n 3, 1)), (40, (.bastore, 1)), (41, (.iconst 1, 1)), (42, (.ireturn, 1))]
theorem dh_108 : dchk cX12_answer dl_108 = true := by decide +kernel
theorem dX12_answer_34 : decode cX12_answer 34 = .ok (.aload_n 0, 1) := dget dh_108 (k := 0) rfl
theorem dX12_answer_35 : decode cX12_answer 35 = .ok (.getfield 150, 3) := dget dh_108 (k := 1) rfl
theorem dX12_answer_38 : decode cX12_answer 38 = .ok (.iload_n 1, 1) := dget dh_108 (k := 2) rfl
theorem dX12_answer_39 : decode cX12_answer 39 = .ok (.iload_n 3, 1) := dget dh_108 (k := 3) rfl
theorem dX12_answer_40 : decode cX12_answer 40 = .ok (.bastore, 1) := dget dh_108 (k := 4) rfl
theorem dX12_answer_41 : decode cX12_answer 41 = .ok (.iconst 1, 1) := dget dh_108 (k := 5) rfl
theorem dX12_answer_42 : decode cX12_answer 42 = .ok (.ireturn, 1) := dget dh_108 (k := 6) rfl
def dl_109 : List (Nat × (Instr × Nat)) := [(0, (.iload_n 1, 1)), (1, (.iconst 0, 1)), (2, (.bipush 10, 2)), (4, (.invokestatic 241, 3)), (7, (.ifCond .eq 40, 3)), (10, (.iload_n 2, 1)), (11, (.iconst 0, 1)), (12, (.bipush 10, 2)), (14, (.invokestatic 241, 3)), (17, (.ifCond .eq 30, 3)), (20, (.iload_n 1, 1)), (21, (.iload_n 2, 1)), (22, (.if_icmp .eq 25, 3)), (25, (.iload_n 3, 1)), (26, (.sipush (-999), 3)), (29, (.sipush 999, 3)), (32, (.invokestatic 241, 3)), (35, (.ifCond .eq 12, 3)), (38, (.aload_n 0, 1)), (39, (.getfield 486, 3))]
theorem dh_109 : dchk cX12_fact dl_109 = true := by decide +kernel
theorem dX12_fact_0 : decode cX12_fact 0 = .ok (.iload_n 1, 1) := dget dh_109 (k := 0) rfl
theorem dX12_fact_1 : decode cX12_fact 1 = .ok (.iconst 0, 1) := dget dh_109 (k := 1) rfl
theorem dX12_fact_2 : decode cX12_fact 2 = .ok (.bipush 10, 2) := dget dh_109 (k := 2) rfl
theorem dX12_fact_4 : decode cX12_fact 4 = .ok (.invokestatic 241, 3) := dget dh_109 (k := 3) rfl
theorem dX12_fact_7 : decode cX12_fact 7 = .ok (.ifCond .eq 40, 3) := dget dh_109 (k := 4) rfl
theorem dX12_fact_10 : decode cX12_fact 10 = .ok (.iload_n 2, 1) := dget dh_109 (k := 5) rfl
theorem dX12_fact_11 : decode cX12_fact 11 = .ok (.iconst 0, 1) := dget dh_109 (k := 6) rfl
theorem dX12_fact_12 : decode cX12_fact 12 = .ok (.bipush 10, 2) := dget dh_109 (k := 7) rfl
theorem dX12_fact_14 : decode cX12_fact 14 = .ok (.invokestatic 241, 3) := dget dh_109 (k := 8) rfl
theorem dX12_fact_17 : decode cX12_fact 17 = .ok (.ifCond .eq 30, 3) := dget dh_109 (k := 9) rfl
theorem dX12_fact_20 : decode cX12_fact 20 = .ok (.iload_n 1, 1) := dget dh_109 (k := 10) rfl
theorem dX12_fact_21 : decode cX12_fact 21 = .ok (.iload_n 2, 1) := dget dh_109 (k := 11) rfl
theorem dX12_fact_22 : decode cX12_fact 22 = .ok (.if_icmp .eq 25, 3) := dget dh_109 (k := 12) rfl
theorem dX12_fact_25 : decode cX12_fact 25 = .ok (.iload_n 3, 1) := dget dh_109 (k := 13) rfl
theorem dX12_fact_26 : decode cX12_fact 26 = .ok (.sipush (-999), 3) := dget dh_109 (k := 14) rfl
theorem dX12_fact_29 : decode cX12_fact 29 = .ok (.sipush 999, 3) := dget dh_109 (k := 15) rfl
theorem dX12_fact_32 : decode cX12_fact 32 = .ok (.invokestatic 241, 3) := dget dh_109 (k := 16) rfl
theorem dX12_fact_35 : decode cX12_fact 35 = .ok (.ifCond .eq 12, 3) := dget dh_109 (k := 17) rfl
theorem dX12_fact_38 : decode cX12_fact 38 = .ok (.aload_n 0, 1) := dget dh_109 (k := 18) rfl
theorem dX12_fact_39 : decode cX12_fact 39 = .ok (.getfield 486, 3) := dget dh_109 (k := 19) rfl
def dl_110 : List (Nat × (Instr × Nat)) := [(42, (.bipush 30, 2)), (44, (.if_icmp .ne 5, 3)), (47, (.iconst (-1), 1)), (48, (.ireturn, 1)), (49, (.aload_n 0, 1)), (50, (.getfield 184, 3)), (53, (.aload_n 0, 1)), (54, (.getfield 486, 3)), (57, (.iload_n 1, 1)), (58, (.iastore, 1)), (59, (.aload_n 0, 1)), (60, (.getfield 187, 3)), (63, (.aload_n 0, 1)), (64, (.getfield 486, 3)), (67, (.iload_n 2, 1)), (68, (.iastore, 1)), (69, (.aload_n 0, 1)), (70, (.getfield 190, 3)), (73, (.aload_n 0, 1)), (74, (.getfield 486, 3))]
theorem dh_110 : dchk cX12_fact dl_110 = true := by decide +kernel
theorem dX12_fact_42 : decode cX12_fact 42 = .ok (.bipush 30, 2) := dget dh_110 (k := 0) rfl
theorem dX12_fact_44 : decode cX12_fact 44 = .ok (.if_icmp .ne 5, 3) := dget dh_110 (k := 1) rfl
theorem dX12_fact_47 : decode cX12_fact 47 = .ok (.iconst (-1), 1) := dget dh_110 (k := 2) rfl
theorem dX12_fact_48 : decode cX12_fact 48 = .ok (.ireturn, 1) := dget dh_110 (k := 3) rfl
theorem dX12_fact_49 : decode cX12_fact 49 = .ok (.aload_n 0, 1) := dget dh_110 (k := 4) rfl
theorem dX12_fact_50 : decode cX12_fact 50 = .ok (.getfield 184, 3) := dget dh_110 (k := 5) rfl
theorem dX12_fact_53 : decode cX12_fact 53 = .ok (.aload_n 0, 1) := dget dh_110 (k := 6) rfl
theorem dX12_fact_54 : decode cX12_fact 54 = .ok (.getfield 486, 3) := dget dh_110 (k := 7) rfl
theorem dX12_fact_57 : decode cX12_fact 57 = .ok (.iload_n 1, 1) := dget dh_110 (k := 8) rfl
theorem dX12_fact_58 : decode cX12_fact 58 = .ok (.iastore, 1) := dget dh_110 (k := 9) rfl
theorem dX12_fact_59 : decode cX12_fact 59 = .ok (.aload_n 0, 1) := dget dh_110 (k := 10) rfl
theorem dX12_fact_60 : decode cX12_fact 60 = .ok (.getfield 187, 3) := dget dh_110 (k := 11) rfl
theorem dX12_fact_63 : decode cX12_fact 63 = .ok (.aload_n 0, 1) := dget dh_110 (k := 12) rfl
theorem dX12_fact_64 : decode cX12_fact 64 = .ok (.getfield 486, 3) := dget dh_110 (k := 13) rfl
theorem dX12_fact_67 : decode cX12_fact 67 = .ok (.iload_n 2, 1) := dget dh_110 (k := 14) rfl
theorem dX12_fact_68 : decode cX12_fact 68 = .ok (.iastore, 1) := dget dh_110 (k := 15) rfl
theorem dX12_fact_69 : decode cX12_fact 69 = .ok (.aload_n 0, 1) := dget dh_110 (k := 16) rfl
theorem dX12_fact_70 : decode cX12_fact 70 = .ok (.getfield 190, 3) := dget dh_110 (k := 17) rfl
theorem dX12_fact_73 : decode cX12_fact 73 = .ok (.aload_n 0, 1) := dget dh_110 (k := 18) rfl
theorem dX12_fact_74 : decode cX12_fact 74 = .ok (.getfield 486, 3) := dget dh_110 (k := 19) rfl
def dl_111 : List (Nat × (Instr × Nat)) := [(77, (.iload_n 3, 1)), (78, (.iastore, 1)), (79, (.aload_n 0, 1)), (80, (.aload_n 0, 1)), (81, (.getfield 486, 3)), (84, (.iconst 1, 1)), (85, (.iadd, 1)), (86, (.putfield 486, 3)), (89, (.aload_n 0, 1)), (90, (.getfield 486, 3)), (93, (.ireturn, 1))]
theorem dh_111 : dchk cX12_fact dl_111 = true := by decide +kernel
theorem dX12_fact_77 : decode cX12_fact 77 = .ok (.iload_n 3, 1) := dget dh_111 (k := 0) rfl
theorem dX12_fact_78 : decode cX12_fact 78 = .ok (.iastore, 1) := dget dh_111 (k := 1) rfl
theorem dX12_fact_79 : decode cX12_fact 79 = .ok (.aload_n 0, 1) := dget dh_111 (k := 2) rfl
theorem dX12_fact_80 : decode cX12_fact 80 = .ok (.aload_n 0, 1) := dget dh_111 (k := 3) rfl
theorem dX12_fact_81 : decode cX12_fact 81 = .ok (.getfield 486, 3) := dget dh_111 (k := 4) rfl
theorem dX12_fact_84 : decode cX12_fact 84 = .ok (.iconst 1, 1) := dget dh_111 (k := 5) rfl
theorem dX12_fact_85 : decode cX12_fact 85 = .ok (.iadd, 1) := dget dh_111 (k := 6) rfl
theorem dX12_fact_86 : decode cX12_fact 86 = .ok (.putfield 486, 3) := dget dh_111 (k := 7) rfl
theorem dX12_fact_89 : decode cX12_fact 89 = .ok (.aload_n 0, 1) := dget dh_111 (k := 8) rfl
theorem dX12_fact_90 : decode cX12_fact 90 = .ok (.getfield 486, 3) := dget dh_111 (k := 9) rfl
theorem dX12_fact_93 : decode cX12_fact 93 = .ok (.ireturn, 1) := dget dh_111 (k := 10) rfl
def dl_112 : List (Nat × (Instr × Nat)) := [(0, (.iload_n 1, 1)), (1, (.invokestatic 465, 3)), (4, (.ifCond .eq 26, 3)), (7, (.aload_n 0, 1)), (8, (.iload_n 2, 1)), (9, (.invokevirtual 249, 3)), (12, (.ifCond .eq 18, 3)), (15, (.aload_n 0, 1)), (16, (.getfield 178, 3)), (19, (.bipush 6, 2)), (21, (.iload_n 1, 1)), (22, (.imul, 1)), (23, (.iload_n 2, 1)), (24, (.iadd, 1)), (25, (.baload, 1)), (26, (.iload_n 3, 1)), (27, (.if_icmp .ne 5, 3)), (30, (.iconst 0, 1)), (31, (.ireturn, 1)), (32, (.aload_n 0, 1))]
theorem dh_112 : dchk cX12_kin dl_112 = true := by decide +kernel
theorem dX12_kin_0 : decode cX12_kin 0 = .ok (.iload_n 1, 1) := dget dh_112 (k := 0) rfl
theorem dX12_kin_1 : decode cX12_kin 1 = .ok (.invokestatic 465, 3) := dget dh_112 (k := 1) rfl
theorem dX12_kin_4 : decode cX12_kin 4 = .ok (.ifCond .eq 26, 3) := dget dh_112 (k := 2) rfl
theorem dX12_kin_7 : decode cX12_kin 7 = .ok (.aload_n 0, 1) := dget dh_112 (k := 3) rfl
theorem dX12_kin_8 : decode cX12_kin 8 = .ok (.iload_n 2, 1) := dget dh_112 (k := 4) rfl
theorem dX12_kin_9 : decode cX12_kin 9 = .ok (.invokevirtual 249, 3) := dget dh_112 (k := 5) rfl
theorem dX12_kin_12 : decode cX12_kin 12 = .ok (.ifCond .eq 18, 3) := dget dh_112 (k := 6) rfl
theorem dX12_kin_15 : decode cX12_kin 15 = .ok (.aload_n 0, 1) := dget dh_112 (k := 7) rfl
theorem dX12_kin_16 : decode cX12_kin 16 = .ok (.getfield 178, 3) := dget dh_112 (k := 8) rfl
theorem dX12_kin_19 : decode cX12_kin 19 = .ok (.bipush 6, 2) := dget dh_112 (k := 9) rfl
theorem dX12_kin_21 : decode cX12_kin 21 = .ok (.iload_n 1, 1) := dget dh_112 (k := 10) rfl
theorem dX12_kin_22 : decode cX12_kin 22 = .ok (.imul, 1) := dget dh_112 (k := 11) rfl
theorem dX12_kin_23 : decode cX12_kin 23 = .ok (.iload_n 2, 1) := dget dh_112 (k := 12) rfl
theorem dX12_kin_24 : decode cX12_kin 24 = .ok (.iadd, 1) := dget dh_112 (k := 13) rfl
theorem dX12_kin_25 : decode cX12_kin 25 = .ok (.baload, 1) := dget dh_112 (k := 14) rfl
theorem dX12_kin_26 : decode cX12_kin 26 = .ok (.iload_n 3, 1) := dget dh_112 (k := 15) rfl
theorem dX12_kin_27 : decode cX12_kin 27 = .ok (.if_icmp .ne 5, 3) := dget dh_112 (k := 16) rfl
theorem dX12_kin_30 : decode cX12_kin 30 = .ok (.iconst 0, 1) := dget dh_112 (k := 17) rfl
theorem dX12_kin_31 : decode cX12_kin 31 = .ok (.ireturn, 1) := dget dh_112 (k := 18) rfl
theorem dX12_kin_32 : decode cX12_kin 32 = .ok (.aload_n 0, 1) := dget dh_112 (k := 19) rfl
def dl_113 : List (Nat × (Instr × Nat)) := [(33, (.getfield 178, 3)), (36, (.bipush 6, 2)), (38, (.iload_n 1, 1)), (39, (.imul, 1)), (40, (.iload_n 2, 1)), (41, (.iadd, 1)), (42, (.iload_n 3, 1)), (43, (.bastore, 1)), (44, (.iconst 1, 1)), (45, (.ireturn, 1))]
theorem dh_113 : dchk cX12_kin dl_113 = true := by decide +kernel
theorem dX12_kin_33 : decode cX12_kin 33 = .ok (.getfield 178, 3) := dget dh_113 (k := 0) rfl
theorem dX12_kin_36 : decode cX12_kin 36 = .ok (.bipush 6, 2) := dget dh_113 (k := 1) rfl
theorem dX12_kin_38 : decode cX12_kin 38 = .ok (.iload_n 1, 1) := dget dh_113 (k := 2) rfl
theorem dX12_kin_39 : decode cX12_kin 39 = .ok (.imul, 1) := dget dh_113 (k := 3) rfl
theorem dX12_kin_40 : decode cX12_kin 40 = .ok (.iload_n 2, 1) := dget dh_113 (k := 4) rfl
theorem dX12_kin_41 : decode cX12_kin 41 = .ok (.iadd, 1) := dget dh_113 (k := 5) rfl
theorem dX12_kin_42 : decode cX12_kin 42 = .ok (.iload_n 3, 1) := dget dh_113 (k := 6) rfl
theorem dX12_kin_43 : decode cX12_kin 43 = .ok (.bastore, 1) := dget dh_113 (k := 7) rfl
theorem dX12_kin_44 : decode cX12_kin 44 = .ok (.iconst 1, 1) := dget dh_113 (k := 8) rfl
theorem dX12_kin_45 : decode cX12_kin 45 = .ok (.ireturn, 1) := dget dh_113 (k := 9) rfl
def dl_114 : List (Nat × (Instr × Nat)) := [(0, (.aload_n 0, 1)), (1, (.iload_n 1, 1)), (2, (.invokevirtual 249, 3)), (5, (.ifCond .eq 24, 3)), (8, (.iload_n 2, 1)), (9, (.iload_n 3, 1)), (10, (.iload 4, 2)), (12, (.invokestatic 252, 3)), (15, (.ifCond .eq 14, 3)), (18, (.aload_n 0, 1)), (19, (.getfield 40, 3)), (22, (.iload_n 1, 1)), (23, (.iaload, 1)), (24, (.bipush 20, 2)), (26, (.if_icmp .ne 5, 3)), (29, (.iconst (-1), 1)), (30, (.ireturn, 1)), (31, (.bipush 20, 2)), (33, (.iload_n 1, 1)), (34, (.imul, 1))]
theorem dh_114 : dchk cX12_last dl_114 = true := by decide +kernel
theorem dX12_last_0 : decode cX12_last 0 = .ok (.aload_n 0, 1) := dget dh_114 (k := 0) rfl
theorem dX12_last_1 : decode cX12_last 1 = .ok (.iload_n 1, 1) := dget dh_114 (k := 1) rfl
theorem dX12_last_2 : decode cX12_last 2 = .ok (.invokevirtual 249, 3) := dget dh_114 (k := 2) rfl
theorem dX12_last_5 : decode cX12_last 5 = .ok (.ifCond .eq 24, 3) := dget dh_114 (k := 3) rfl
theorem dX12_last_8 : decode cX12_last 8 = .ok (.iload_n 2, 1) := dget dh_114 (k := 4) rfl
theorem dX12_last_9 : decode cX12_last 9 = .ok (.iload_n 3, 1) := dget dh_114 (k := 5) rfl
theorem dX12_last_10 : decode cX12_last 10 = .ok (.iload 4, 2) := dget dh_114 (k := 6) rfl
theorem dX12_last_12 : decode cX12_last 12 = .ok (.invokestatic 252, 3) := dget dh_114 (k := 7) rfl
theorem dX12_last_15 : decode cX12_last 15 = .ok (.ifCond .eq 14, 3) := dget dh_114 (k := 8) rfl
theorem dX12_last_18 : decode cX12_last 18 = .ok (.aload_n 0, 1) := dget dh_114 (k := 9) rfl
theorem dX12_last_19 : decode cX12_last 19 = .ok (.getfield 40, 3) := dget dh_114 (k := 10) rfl
theorem dX12_last_22 : decode cX12_last 22 = .ok (.iload_n 1, 1) := dget dh_114 (k := 11) rfl
theorem dX12_last_23 : decode cX12_last 23 = .ok (.iaload, 1) := dget dh_114 (k := 12) rfl
theorem dX12_last_24 : decode cX12_last 24 = .ok (.bipush 20, 2) := dget dh_114 (k := 13) rfl
theorem dX12_last_26 : decode cX12_last 26 = .ok (.if_icmp .ne 5, 3) := dget dh_114 (k := 14) rfl
theorem dX12_last_29 : decode cX12_last 29 = .ok (.iconst (-1), 1) := dget dh_114 (k := 15) rfl
theorem dX12_last_30 : decode cX12_last 30 = .ok (.ireturn, 1) := dget dh_114 (k := 16) rfl
theorem dX12_last_31 : decode cX12_last 31 = .ok (.bipush 20, 2) := dget dh_114 (k := 17) rfl
theorem dX12_last_33 : decode cX12_last 33 = .ok (.iload_n 1, 1) := dget dh_114 (k := 18) rfl
theorem dX12_last_34 : decode cX12_last 34 = .ok (.imul, 1) := dget dh_114 (k := 19) rfl
def dl_115 : List (Nat × (Instr × Nat)) := [(35, (.aload_n 0, 1)), (36, (.getfield 40, 3)), (39, (.iload_n 1, 1)), (40, (.iaload, 1)), (41, (.iadd, 1)), (42, (.istore 5, 2)), (44, (.aload_n 0, 1)), (45, (.getfield 55, 3)), (48, (.iload 5, 2)), (50, (.iload_n 2, 1)), (51, (.iastore, 1)), (52, (.aload_n 0, 1)), (53, (.getfield 58, 3)), (56, (.iload 5, 2)), (58, (.iload_n 3, 1)), (59, (.iastore, 1)), (60, (.aload_n 0, 1)), (61, (.getfield 61, 3)), (64, (.iload 5, 2)), (66, (.iload 4, 2))]
theorem dh_115 : dchk cX12_last dl_115 = true := by decide +kernel
theorem dX12_last_35 : decode cX12_last 35 = .ok (.aload_n 0, 1) := dget dh_115 (k := 0) rfl
theorem dX12_last_36 : decode cX12_last 36 = .ok (.getfield 40, 3) := dget dh_115 (k := 1) rfl
theorem dX12_last_39 : decode cX12_last 39 = .ok (.iload_n 1, 1) := dget dh_115 (k := 2) rfl
theorem dX12_last_40 : decode cX12_last 40 = .ok (.iaload, 1) := dget dh_115 (k := 3) rfl
theorem dX12_last_41 : decode cX12_last 41 = .ok (.iadd, 1) := dget dh_115 (k := 4) rfl
theorem dX12_last_42 : decode cX12_last 42 = .ok (.istore 5, 2) := dget dh_115 (k := 5) rfl
theorem dX12_last_44 : decode cX12_last 44 = .ok (.aload_n 0, 1) := dget dh_115 (k := 6) rfl
theorem dX12_last_45 : decode cX12_last 45 = .ok (.getfield 55, 3) := dget dh_115 (k := 7) rfl
theorem dX12_last_48 : decode cX12_last 48 = .ok (.iload 5, 2) := dget dh_115 (k := 8) rfl
theorem dX12_last_50 : decode cX12_last 50 = .ok (.iload_n 2, 1) := dget dh_115 (k := 9) rfl
theorem dX12_last_51 : decode cX12_last 51 = .ok (.iastore, 1) := dget dh_115 (k := 10) rfl
theorem dX12_last_52 : decode cX12_last 52 = .ok (.aload_n 0, 1) := dget dh_115 (k := 11) rfl
theorem dX12_last_53 : decode cX12_last 53 = .ok (.getfield 58, 3) := dget dh_115 (k := 12) rfl
theorem dX12_last_56 : decode cX12_last 56 = .ok (.iload 5, 2) := dget dh_115 (k := 13) rfl
theorem dX12_last_58 : decode cX12_last 58 = .ok (.iload_n 3, 1) := dget dh_115 (k := 14) rfl
theorem dX12_last_59 : decode cX12_last 59 = .ok (.iastore, 1) := dget dh_115 (k := 15) rfl
theorem dX12_last_60 : decode cX12_last 60 = .ok (.aload_n 0, 1) := dget dh_115 (k := 16) rfl
theorem dX12_last_61 : decode cX12_last 61 = .ok (.getfield 61, 3) := dget dh_115 (k := 17) rfl
theorem dX12_last_64 : decode cX12_last 64 = .ok (.iload 5, 2) := dget dh_115 (k := 18) rfl
theorem dX12_last_66 : decode cX12_last 66 = .ok (.iload 4, 2) := dget dh_115 (k := 19) rfl
def dl_116 : List (Nat × (Instr × Nat)) := [(68, (.iastore, 1)), (69, (.aload_n 0, 1)), (70, (.getfield 40, 3)), (73, (.iload_n 1, 1)), (74, (.aload_n 0, 1)), (75, (.getfield 40, 3)), (78, (.iload_n 1, 1)), (79, (.iaload, 1)), (80, (.iconst 1, 1)), (81, (.iadd, 1)), (82, (.iastore, 1)), (83, (.aload_n 0, 1)), (84, (.getfield 40, 3)), (87, (.iload_n 1, 1)), (88, (.iaload, 1)), (89, (.iconst 1, 1)), (90, (.isub, 1)), (91, (.ireturn, 1))]
theorem dh_116 : dchk cX12_last dl_116 = true := by decide +kernel
theorem dX12_last_68 : decode cX12_last 68 = .ok (.iastore, 1) := dget dh_116 (k := 0) rfl
theorem dX12_last_69 : decode cX12_last 69 = .ok (.aload_n 0, 1) := dget dh_116 (k := 1) rfl
theorem dX12_last_70 : decode cX12_last 70 = .ok (.getfield 40, 3) := dget dh_116 (k := 2) rfl
theorem dX12_last_73 : decode cX12_last 73 = .ok (.iload_n 1, 1) := dget dh_116 (k := 3) rfl
theorem dX12_last_74 : decode cX12_last 74 = .ok (.aload_n 0, 1) := dget dh_116 (k := 4) rfl
theorem dX12_last_75 : decode cX12_last 75 = .ok (.getfield 40, 3) := dget dh_116 (k := 5) rfl
theorem dX12_last_78 : decode cX12_last 78 = .ok (.iload_n 1, 1) := dget dh_116 (k := 6) rfl
theorem dX12_last_79 : decode cX12_last 79 = .ok (.iaload, 1) := dget dh_116 (k := 7) rfl
theorem dX12_last_80 : decode cX12_last 80 = .ok (.iconst 1, 1) := dget dh_116 (k := 8) rfl
theorem dX12_last_81 : decode cX12_last 81 = .ok (.iadd, 1) := dget dh_116 (k := 9) rfl
theorem dX12_last_82 : decode cX12_last 82 = .ok (.iastore, 1) := dget dh_116 (k := 10) rfl
theorem dX12_last_83 : decode cX12_last 83 = .ok (.aload_n 0, 1) := dget dh_116 (k := 11) rfl
theorem dX12_last_84 : decode cX12_last 84 = .ok (.getfield 40, 3) := dget dh_116 (k := 12) rfl
theorem dX12_last_87 : decode cX12_last 87 = .ok (.iload_n 1, 1) := dget dh_116 (k := 13) rfl
theorem dX12_last_88 : decode cX12_last 88 = .ok (.iaload, 1) := dget dh_116 (k := 14) rfl
theorem dX12_last_89 : decode cX12_last 89 = .ok (.iconst 1, 1) := dget dh_116 (k := 15) rfl
theorem dX12_last_90 : decode cX12_last 90 = .ok (.isub, 1) := dget dh_116 (k := 16) rfl
theorem dX12_last_91 : decode cX12_last 91 = .ok (.ireturn, 1) := dget dh_116 (k := 17) rfl
def dl_117 : List (Nat × (Instr × Nat)) := [(0, (.iload_n 1, 1)), (1, (.invokestatic 237, 3)), (4, (.ifCond .eq 14, 3)), (7, (.iload_n 2, 1)), (8, (.iconst 1, 1)), (9, (.sipush 360, 3)), (12, (.invokestatic 241, 3)), (15, (.ifCond .ne 5, 3)), (18, (.iconst 0, 1)), (19, (.ireturn, 1)), (20, (.aload_n 0, 1)), (21, (.getfield 7, 3)), (24, (.iload_n 1, 1)), (25, (.iload_n 2, 1)), (26, (.iastore, 1)), (27, (.iconst 1, 1)), (28, (.ireturn, 1))]
theorem dh_117 : dchk cX12_life dl_117 = true := by decide +kernel
theorem dX12_life_0 : decode cX12_life 0 = .ok (.iload_n 1, 1) := dget dh_117 (k := 0) rfl
theorem dX12_life_1 : decode cX12_life 1 = .ok (.invokestatic 237, 3) := dget dh_117 (k := 1) rfl
theorem dX12_life_4 : decode cX12_life 4 = .ok (.ifCond .eq 14, 3) := dget dh_117 (k := 2) rfl
theorem dX12_life_7 : decode cX12_life 7 = .ok (.iload_n 2, 1) := dget dh_117 (k := 3) rfl
theorem dX12_life_8 : decode cX12_life 8 = .ok (.iconst 1, 1) := dget dh_117 (k := 4) rfl
theorem dX12_life_9 : decode cX12_life 9 = .ok (.sipush 360, 3) := dget dh_117 (k := 5) rfl
theorem dX12_life_12 : decode cX12_life 12 = .ok (.invokestatic 241, 3) := dget dh_117 (k := 6) rfl
theorem dX12_life_15 : decode cX12_life 15 = .ok (.ifCond .ne 5, 3) := dget dh_117 (k := 7) rfl
theorem dX12_life_18 : decode cX12_life 18 = .ok (.iconst 0, 1) := dget dh_117 (k := 8) rfl
theorem dX12_life_19 : decode cX12_life 19 = .ok (.ireturn, 1) := dget dh_117 (k := 9) rfl
theorem dX12_life_20 : decode cX12_life 20 = .ok (.aload_n 0, 1) := dget dh_117 (k := 10) rfl
theorem dX12_life_21 : decode cX12_life 21 = .ok (.getfield 7, 3) := dget dh_117 (k := 11) rfl
theorem dX12_life_24 : decode cX12_life 24 = .ok (.iload_n 1, 1) := dget dh_117 (k := 12) rfl
theorem dX12_life_25 : decode cX12_life 25 = .ok (.iload_n 2, 1) := dget dh_117 (k := 13) rfl
theorem dX12_life_26 : decode cX12_life 26 = .ok (.iastore, 1) := dget dh_117 (k := 14) rfl
theorem dX12_life_27 : decode cX12_life 27 = .ok (.iconst 1, 1) := dget dh_117 (k := 15) rfl
theorem dX12_life_28 : decode cX12_life 28 = .ok (.ireturn, 1) := dget dh_117 (k := 16) rfl
def dl_118 : List (Nat × (Instr × Nat)) := [(0, (.aload_n 0, 1)), (1, (.iload_n 1, 1)), (2, (.invokevirtual 249, 3)), (5, (.ifCond .ne 5, 3)), (8, (.iconst (-1), 1)), (9, (.ireturn, 1)), (10, (.aload_n 0, 1)), (11, (.getfield 160, 3)), (14, (.iload_n 1, 1)), (15, (.iaload, 1)), (16, (.ifCond .eq 12, 3)), (19, (.aload_n 0, 1)), (20, (.getfield 163, 3)), (23, (.iload_n 1, 1)), (24, (.iaload, 1)), (25, (.ifCond .ne 6, 3)), (28, (.bipush (-2), 2)), (30, (.ireturn, 1)), (31, (.aload_n 0, 1)), (32, (.getfield 160, 3))]
theorem dh_118 : dchk cX12_met dl_118 = true := by decide +kernel
theorem dX12_met_0 : decode cX12_met 0 = .ok (.aload_n 0, 1) := dget dh_118 (k := 0) rfl
theorem dX12_met_1 : decode cX12_met 1 = .ok (.iload_n 1, 1) := dget dh_118 (k := 1) rfl
theorem dX12_met_2 : decode cX12_met 2 = .ok (.invokevirtual 249, 3) := dget dh_118 (k := 2) rfl
theorem dX12_met_5 : decode cX12_met 5 = .ok (.ifCond .ne 5, 3) := dget dh_118 (k := 3) rfl
theorem dX12_met_8 : decode cX12_met 8 = .ok (.iconst (-1), 1) := dget dh_118 (k := 4) rfl
theorem dX12_met_9 : decode cX12_met 9 = .ok (.ireturn, 1) := dget dh_118 (k := 5) rfl
theorem dX12_met_10 : decode cX12_met 10 = .ok (.aload_n 0, 1) := dget dh_118 (k := 6) rfl
theorem dX12_met_11 : decode cX12_met 11 = .ok (.getfield 160, 3) := dget dh_118 (k := 7) rfl
theorem dX12_met_14 : decode cX12_met 14 = .ok (.iload_n 1, 1) := dget dh_118 (k := 8) rfl
theorem dX12_met_15 : decode cX12_met 15 = .ok (.iaload, 1) := dget dh_118 (k := 9) rfl
theorem dX12_met_16 : decode cX12_met 16 = .ok (.ifCond .eq 12, 3) := dget dh_118 (k := 10) rfl
theorem dX12_met_19 : decode cX12_met 19 = .ok (.aload_n 0, 1) := dget dh_118 (k := 11) rfl
theorem dX12_met_20 : decode cX12_met 20 = .ok (.getfield 163, 3) := dget dh_118 (k := 12) rfl
theorem dX12_met_23 : decode cX12_met 23 = .ok (.iload_n 1, 1) := dget dh_118 (k := 13) rfl
theorem dX12_met_24 : decode cX12_met 24 = .ok (.iaload, 1) := dget dh_118 (k := 14) rfl
theorem dX12_met_25 : decode cX12_met 25 = .ok (.ifCond .ne 6, 3) := dget dh_118 (k := 15) rfl
theorem dX12_met_28 : decode cX12_met 28 = .ok (.bipush (-2), 2) := dget dh_118 (k := 16) rfl
theorem dX12_met_30 : decode cX12_met 30 = .ok (.ireturn, 1) := dget dh_118 (k := 17) rfl
theorem dX12_met_31 : decode cX12_met 31 = .ok (.aload_n 0, 1) := dget dh_118 (k := 18) rfl
theorem dX12_met_32 : decode cX12_met 32 = .ok (.getfield 160, 3) := dget dh_118 (k := 19) rfl
def dl_119 : List (Nat × (Instr × Nat)) := [(35, (.iload_n 1, 1)), (36, (.iaload, 1)), (37, (.aload_n 0, 1)), (38, (.getfield 163, 3)), (41, (.iload_n 1, 1)), (42, (.iaload, 1)), (43, (.if_icmp .gt 21, 3)), (46, (.aload_n 0, 1)), (47, (.getfield 160, 3)), (50, (.iload_n 1, 1)), (51, (.iaload, 1)), (52, (.aload_n 0, 1)), (53, (.getfield 163, 3)), (56, (.iload_n 1, 1)), (57, (.iaload, 1)), (58, (.iadd, 1)), (59, (.iconst 2, 1)), (60, (.isub, 1)), (61, (.iconst 2, 1)), (62, (.idiv, 1))]
theorem dh_119 : dchk cX12_met dl_119 = true := by decide +kernel
theorem dX12_met_35 : decode cX12_met 35 = .ok (.iload_n 1, 1) := dget dh_119 (k := 0) rfl
theorem dX12_met_36 : decode cX12_met 36 = .ok (.iaload, 1) := dget dh_119 (k := 1) rfl
theorem dX12_met_37 : decode cX12_met 37 = .ok (.aload_n 0, 1) := dget dh_119 (k := 2) rfl
theorem dX12_met_38 : decode cX12_met 38 = .ok (.getfield 163, 3) := dget dh_119 (k := 3) rfl
theorem dX12_met_41 : decode cX12_met 41 = .ok (.iload_n 1, 1) := dget dh_119 (k := 4) rfl
theorem dX12_met_42 : decode cX12_met 42 = .ok (.iaload, 1) := dget dh_119 (k := 5) rfl
theorem dX12_met_43 : decode cX12_met 43 = .ok (.if_icmp .gt 21, 3) := dget dh_119 (k := 6) rfl
theorem dX12_met_46 : decode cX12_met 46 = .ok (.aload_n 0, 1) := dget dh_119 (k := 7) rfl
theorem dX12_met_47 : decode cX12_met 47 = .ok (.getfield 160, 3) := dget dh_119 (k := 8) rfl
theorem dX12_met_50 : decode cX12_met 50 = .ok (.iload_n 1, 1) := dget dh_119 (k := 9) rfl
theorem dX12_met_51 : decode cX12_met 51 = .ok (.iaload, 1) := dget dh_119 (k := 10) rfl
theorem dX12_met_52 : decode cX12_met 52 = .ok (.aload_n 0, 1) := dget dh_119 (k := 11) rfl
theorem dX12_met_53 : decode cX12_met 53 = .ok (.getfield 163, 3) := dget dh_119 (k := 12) rfl
theorem dX12_met_56 : decode cX12_met 56 = .ok (.iload_n 1, 1) := dget dh_119 (k := 13) rfl
theorem dX12_met_57 : decode cX12_met 57 = .ok (.iaload, 1) := dget dh_119 (k := 14) rfl
theorem dX12_met_58 : decode cX12_met 58 = .ok (.iadd, 1) := dget dh_119 (k := 15) rfl
theorem dX12_met_59 : decode cX12_met 59 = .ok (.iconst 2, 1) := dget dh_119 (k := 16) rfl
theorem dX12_met_60 : decode cX12_met 60 = .ok (.isub, 1) := dget dh_119 (k := 17) rfl
theorem dX12_met_61 : decode cX12_met 61 = .ok (.iconst 2, 1) := dget dh_119 (k := 18) rfl
theorem dX12_met_62 : decode cX12_met 62 = .ok (.idiv, 1) := dget dh_119 (k := 19) rfl
def dl_120 : List (Nat × (Instr × Nat)) := [(63, (.ireturn, 1)), (64, (.aload_n 0, 1)), (65, (.getfield 160, 3)), (68, (.iload_n 1, 1)), (69, (.iconst 0, 1)), (70, (.iastore, 1)), (71, (.aload_n 0, 1)), (72, (.getfield 163, 3)), (75, (.iload_n 1, 1)), (76, (.iconst 0, 1)), (77, (.iastore, 1)), (78, (.bipush (-3), 2)), (80, (.ireturn, 1))]
theorem dh_120 : dchk cX12_met dl_120 = true := by decide +kernel
theorem dX12_met_63 : decode cX12_met 63 = .ok (.ireturn, 1) := dget dh_120 (k := 0) rfl
theorem dX12_met_64 : decode cX12_met 64 = .ok (.aload_n 0, 1) := dget dh_120 (k := 1) rfl
theorem dX12_met_65 : decode cX12_met 65 = .ok (.getfield 160, 3) := dget dh_120 (k := 2) rfl
theorem dX12_met_68 : decode cX12_met 68 = .ok (.iload_n 1, 1) := dget dh_120 (k := 3) rfl
theorem dX12_met_69 : decode cX12_met 69 = .ok (.iconst 0, 1) := dget dh_120 (k := 4) rfl
theorem dX12_met_70 : decode cX12_met 70 = .ok (.iastore, 1) := dget dh_120 (k := 5) rfl
theorem dX12_met_71 : decode cX12_met 71 = .ok (.aload_n 0, 1) := dget dh_120 (k := 6) rfl
theorem dX12_met_72 : decode cX12_met 72 = .ok (.getfield 163, 3) := dget dh_120 (k := 7) rfl
theorem dX12_met_75 : decode cX12_met 75 = .ok (.iload_n 1, 1) := dget dh_120 (k := 8) rfl
theorem dX12_met_76 : decode cX12_met 76 = .ok (.iconst 0, 1) := dget dh_120 (k := 9) rfl
theorem dX12_met_77 : decode cX12_met 77 = .ok (.iastore, 1) := dget dh_120 (k := 10) rfl
theorem dX12_met_78 : decode cX12_met 78 = .ok (.bipush (-3), 2) := dget dh_120 (k := 11) rfl
theorem dX12_met_80 : decode cX12_met 80 = .ok (.ireturn, 1) := dget dh_120 (k := 12) rfl
def dl_121 : List (Nat × (Instr × Nat)) := [(0, (.aload_n 0, 1)), (1, (.iload_n 1, 1)), (2, (.invokevirtual 249, 3)), (5, (.ifCond .eq 10, 3)), (8, (.iload_n 3, 1)), (9, (.invokestatic 246, 3)), (12, (.ifCond .ne 5, 3)), (15, (.iconst (-1), 1)), (16, (.ireturn, 1)), (17, (.iload_n 2, 1)), (18, (.ifCond .eq 15, 3)), (21, (.aload_n 0, 1)), (22, (.getfield 160, 3)), (25, (.iload_n 1, 1)), (26, (.iload_n 3, 1)), (27, (.iconst 1, 1)), (28, (.iadd, 1)), (29, (.iastore, 1)), (30, (.goto 12, 3)), (33, (.aload_n 0, 1))]
theorem dh_121 : dchk cX12_offer dl_121 = true := by decide +kernel
theorem dX12_offer_0 : decode cX12_offer 0 = .ok (.aload_n 0, 1) := dget dh_121 (k := 0) rfl
theorem dX12_offer_1 : decode cX12_offer 1 = .ok (.iload_n 1, 1) := dget dh_121 (k := 1) rfl
theorem dX12_offer_2 : decode cX12_offer 2 = .ok (.invokevirtual 249, 3) := dget dh_121 (k := 2) rfl
theorem dX12_offer_5 : decode cX12_offer 5 = .ok (.ifCond .eq 10, 3) := dget dh_121 (k := 3) rfl
theorem dX12_offer_8 : decode cX12_offer 8 = .ok (.iload_n 3, 1) := dget dh_121 (k := 4) rfl
theorem dX12_offer_9 : decode cX12_offer 9 = .ok (.invokestatic 246, 3) := dget dh_121 (k := 5) rfl
theorem dX12_offer_12 : decode cX12_offer 12 = .ok (.ifCond .ne 5, 3) := dget dh_121 (k := 6) rfl
theorem dX12_offer_15 : decode cX12_offer 15 = .ok (.iconst (-1), 1) := dget dh_121 (k := 7) rfl
theorem dX12_offer_16 : decode cX12_offer 16 = .ok (.ireturn, 1) := dget dh_121 (k := 8) rfl
theorem dX12_offer_17 : decode cX12_offer 17 = .ok (.iload_n 2, 1) := dget dh_121 (k := 9) rfl
theorem dX12_offer_18 : decode cX12_offer 18 = .ok (.ifCond .eq 15, 3) := dget dh_121 (k := 10) rfl
theorem dX12_offer_21 : decode cX12_offer 21 = .ok (.aload_n 0, 1) := dget dh_121 (k := 11) rfl
theorem dX12_offer_22 : decode cX12_offer 22 = .ok (.getfield 160, 3) := dget dh_121 (k := 12) rfl
theorem dX12_offer_25 : decode cX12_offer 25 = .ok (.iload_n 1, 1) := dget dh_121 (k := 13) rfl
theorem dX12_offer_26 : decode cX12_offer 26 = .ok (.iload_n 3, 1) := dget dh_121 (k := 14) rfl
theorem dX12_offer_27 : decode cX12_offer 27 = .ok (.iconst 1, 1) := dget dh_121 (k := 15) rfl
theorem dX12_offer_28 : decode cX12_offer 28 = .ok (.iadd, 1) := dget dh_121 (k := 16) rfl
theorem dX12_offer_29 : decode cX12_offer 29 = .ok (.iastore, 1) := dget dh_121 (k := 17) rfl
theorem dX12_offer_30 : decode cX12_offer 30 = .ok (.goto 12, 3) := dget dh_121 (k := 18) rfl
theorem dX12_offer_33 : decode cX12_offer 33 = .ok (.aload_n 0, 1) := dget dh_121 (k := 19) rfl
def dl_122 : List (Nat × (Instr × Nat)) := [(34, (.getfield 163, 3)), (37, (.iload_n 1, 1)), (38, (.iload_n 3, 1)), (39, (.iconst 1, 1)), (40, (.iadd, 1)), (41, (.iastore, 1)), (42, (.aload_n 0, 1)), (43, (.getfield 160, 3)), (46, (.iload_n 1, 1)), (47, (.iaload, 1)), (48, (.ifCond .le 16, 3)), (51, (.aload_n 0, 1)), (52, (.getfield 163, 3)), (55, (.iload_n 1, 1)), (56, (.iaload, 1)), (57, (.ifCond .le 7, 3)), (60, (.iconst 1, 1)), (61, (.goto 4, 3)), (64, (.iconst 0, 1)), (65, (.ireturn, 1))]
theorem dh_122 : dchk cX12_offer dl_122 = true := by decide +kernel
theorem dX12_offer_34 : decode cX12_offer 34 = .ok (.getfield 163, 3) := dget dh_122 (k := 0) rfl
theorem dX12_offer_37 : decode cX12_offer 37 = .ok (.iload_n 1, 1) := dget dh_122 (k := 1) rfl
theorem dX12_offer_38 : decode cX12_offer 38 = .ok (.iload_n 3, 1) := dget dh_122 (k := 2) rfl
theorem dX12_offer_39 : decode cX12_offer 39 = .ok (.iconst 1, 1) := dget dh_122 (k := 3) rfl
theorem dX12_offer_40 : decode cX12_offer 40 = .ok (.iadd, 1) := dget dh_122 (k := 4) rfl
theorem dX12_offer_41 : decode cX12_offer 41 = .ok (.iastore, 1) := dget dh_122 (k := 5) rfl
theorem dX12_offer_42 : decode cX12_offer 42 = .ok (.aload_n 0, 1) := dget dh_122 (k := 6) rfl
theorem dX12_offer_43 : decode cX12_offer 43 = .ok (.getfield 160, 3) := dget dh_122 (k := 7) rfl
theorem dX12_offer_46 : decode cX12_offer 46 = .ok (.iload_n 1, 1) := dget dh_122 (k := 8) rfl
theorem dX12_offer_47 : decode cX12_offer 47 = .ok (.iaload, 1) := dget dh_122 (k := 9) rfl
theorem dX12_offer_48 : decode cX12_offer 48 = .ok (.ifCond .le 16, 3) := dget dh_122 (k := 10) rfl
theorem dX12_offer_51 : decode cX12_offer 51 = .ok (.aload_n 0, 1) := dget dh_122 (k := 11) rfl
theorem dX12_offer_52 : decode cX12_offer 52 = .ok (.getfield 163, 3) := dget dh_122 (k := 12) rfl
theorem dX12_offer_55 : decode cX12_offer 55 = .ok (.iload_n 1, 1) := dget dh_122 (k := 13) rfl
theorem dX12_offer_56 : decode cX12_offer 56 = .ok (.iaload, 1) := dget dh_122 (k := 14) rfl
theorem dX12_offer_57 : decode cX12_offer 57 = .ok (.ifCond .le 7, 3) := dget dh_122 (k := 15) rfl
theorem dX12_offer_60 : decode cX12_offer 60 = .ok (.iconst 1, 1) := dget dh_122 (k := 16) rfl
theorem dX12_offer_61 : decode cX12_offer 61 = .ok (.goto 4, 3) := dget dh_122 (k := 17) rfl
theorem dX12_offer_64 : decode cX12_offer 64 = .ok (.iconst 0, 1) := dget dh_122 (k := 18) rfl
theorem dX12_offer_65 : decode cX12_offer 65 = .ok (.ireturn, 1) := dget dh_122 (k := 19) rfl
def dl_123 : List (Nat × (Instr × Nat)) := [(0, (.aload_n 0, 1)), (1, (.iload_n 1, 1)), (2, (.invokevirtual 249, 3)), (5, (.ifCond .eq 19, 3)), (8, (.iload_n 2, 1)), (9, (.iconst 0, 1)), (10, (.iconst 2, 1)), (11, (.invokestatic 241, 3)), (14, (.ifCond .eq 10, 3)), (17, (.iload_n 3, 1)), (18, (.invokestatic 246, 3)), (21, (.ifCond .ne 5, 3)), (24, (.iconst 0, 1)), (25, (.ireturn, 1)), (26, (.aload_n 0, 1)), (27, (.getfield 34, 3)), (30, (.iconst 3, 1)), (31, (.iload_n 1, 1)), (32, (.imul, 1)), (33, (.iload_n 2, 1))]
theorem dh_123 : dchk cX12_owes dl_123 = true := by decide +kernel
theorem dX12_owes_0 : decode cX12_owes 0 = .ok (.aload_n 0, 1) := dget dh_123 (k := 0) rfl
theorem dX12_owes_1 : decode cX12_owes 1 = .ok (.iload_n 1, 1) := dget dh_123 (k := 1) rfl
theorem dX12_owes_2 : decode cX12_owes 2 = .ok (.invokevirtual 249, 3) := dget dh_123 (k := 2) rfl
theorem dX12_owes_5 : decode cX12_owes 5 = .ok (.ifCond .eq 19, 3) := dget dh_123 (k := 3) rfl
theorem dX12_owes_8 : decode cX12_owes 8 = .ok (.iload_n 2, 1) := dget dh_123 (k := 4) rfl
theorem dX12_owes_9 : decode cX12_owes 9 = .ok (.iconst 0, 1) := dget dh_123 (k := 5) rfl
theorem dX12_owes_10 : decode cX12_owes 10 = .ok (.iconst 2, 1) := dget dh_123 (k := 6) rfl
theorem dX12_owes_11 : decode cX12_owes 11 = .ok (.invokestatic 241, 3) := dget dh_123 (k := 7) rfl
theorem dX12_owes_14 : decode cX12_owes 14 = .ok (.ifCond .eq 10, 3) := dget dh_123 (k := 8) rfl
theorem dX12_owes_17 : decode cX12_owes 17 = .ok (.iload_n 3, 1) := dget dh_123 (k := 9) rfl
theorem dX12_owes_18 : decode cX12_owes 18 = .ok (.invokestatic 246, 3) := dget dh_123 (k := 10) rfl
theorem dX12_owes_21 : decode cX12_owes 21 = .ok (.ifCond .ne 5, 3) := dget dh_123 (k := 11) rfl
theorem dX12_owes_24 : decode cX12_owes 24 = .ok (.iconst 0, 1) := dget dh_123 (k := 12) rfl
theorem dX12_owes_25 : decode cX12_owes 25 = .ok (.ireturn, 1) := dget dh_123 (k := 13) rfl
theorem dX12_owes_26 : decode cX12_owes 26 = .ok (.aload_n 0, 1) := dget dh_123 (k := 14) rfl
theorem dX12_owes_27 : decode cX12_owes 27 = .ok (.getfield 34, 3) := dget dh_123 (k := 15) rfl
theorem dX12_owes_30 : decode cX12_owes 30 = .ok (.iconst 3, 1) := dget dh_123 (k := 16) rfl
theorem dX12_owes_31 : decode cX12_owes 31 = .ok (.iload_n 1, 1) := dget dh_123 (k := 17) rfl
theorem dX12_owes_32 : decode cX12_owes 32 = .ok (.imul, 1) := dget dh_123 (k := 18) rfl
theorem dX12_owes_33 : decode cX12_owes 33 = .ok (.iload_n 2, 1) := dget dh_123 (k := 19) rfl
def dl_124 : List (Nat × (Instr × Nat)) := [(34, (.iadd, 1)), (35, (.iload_n 3, 1)), (36, (.iastore, 1)), (37, (.iconst 1, 1)), (38, (.ireturn, 1))]
theorem dh_124 : dchk cX12_owes dl_124 = true := by decide +kernel
theorem dX12_owes_34 : decode cX12_owes 34 = .ok (.iadd, 1) := dget dh_124 (k := 0) rfl
theorem dX12_owes_35 : decode cX12_owes 35 = .ok (.iload_n 3, 1) := dget dh_124 (k := 1) rfl
theorem dX12_owes_36 : decode cX12_owes 36 = .ok (.iastore, 1) := dget dh_124 (k := 2) rfl
theorem dX12_owes_37 : decode cX12_owes 37 = .ok (.iconst 1, 1) := dget dh_124 (k := 3) rfl
theorem dX12_owes_38 : decode cX12_owes 38 = .ok (.ireturn, 1) := dget dh_124 (k := 4) rfl
def dl_125 : List (Nat × (Instr × Nat)) := [(0, (.aload_n 0, 1)), (1, (.iload_n 1, 1)), (2, (.invokevirtual 249, 3)), (5, (.ifCond .eq 27, 3)), (8, (.iload_n 2, 1)), (9, (.ifCond .lt 23, 3)), (12, (.iload_n 2, 1)), (13, (.aload_n 0, 1)), (14, (.getfield 19, 3)), (17, (.iload_n 1, 1)), (18, (.iaload, 1)), (19, (.if_icmp .ge 13, 3)), (22, (.iload_n 3, 1)), (23, (.iconst 0, 1)), (24, (.bipush 99, 2)), (26, (.invokestatic 241, 3)), (29, (.ifCond .ne 5, 3)), (32, (.iconst 0, 1)), (33, (.ireturn, 1)), (34, (.aload_n 0, 1))]
theorem dh_125 : dchk cX12_part dl_125 = true := by decide +kernel
theorem dX12_part_0 : decode cX12_part 0 = .ok (.aload_n 0, 1) := dget dh_125 (k := 0) rfl
theorem dX12_part_1 : decode cX12_part 1 = .ok (.iload_n 1, 1) := dget dh_125 (k := 1) rfl
theorem dX12_part_2 : decode cX12_part 2 = .ok (.invokevirtual 249, 3) := dget dh_125 (k := 2) rfl
theorem dX12_part_5 : decode cX12_part 5 = .ok (.ifCond .eq 27, 3) := dget dh_125 (k := 3) rfl
theorem dX12_part_8 : decode cX12_part 8 = .ok (.iload_n 2, 1) := dget dh_125 (k := 4) rfl
theorem dX12_part_9 : decode cX12_part 9 = .ok (.ifCond .lt 23, 3) := dget dh_125 (k := 5) rfl
theorem dX12_part_12 : decode cX12_part 12 = .ok (.iload_n 2, 1) := dget dh_125 (k := 6) rfl
theorem dX12_part_13 : decode cX12_part 13 = .ok (.aload_n 0, 1) := dget dh_125 (k := 7) rfl
theorem dX12_part_14 : decode cX12_part 14 = .ok (.getfield 19, 3) := dget dh_125 (k := 8) rfl
theorem dX12_part_17 : decode cX12_part 17 = .ok (.iload_n 1, 1) := dget dh_125 (k := 9) rfl
theorem dX12_part_18 : decode cX12_part 18 = .ok (.iaload, 1) := dget dh_125 (k := 10) rfl
theorem dX12_part_19 : decode cX12_part 19 = .ok (.if_icmp .ge 13, 3) := dget dh_125 (k := 11) rfl
theorem dX12_part_22 : decode cX12_part 22 = .ok (.iload_n 3, 1) := dget dh_125 (k := 12) rfl
theorem dX12_part_23 : decode cX12_part 23 = .ok (.iconst 0, 1) := dget dh_125 (k := 13) rfl
theorem dX12_part_24 : decode cX12_part 24 = .ok (.bipush 99, 2) := dget dh_125 (k := 14) rfl
theorem dX12_part_26 : decode cX12_part 26 = .ok (.invokestatic 241, 3) := dget dh_125 (k := 15) rfl
theorem dX12_part_29 : decode cX12_part 29 = .ok (.ifCond .ne 5, 3) := dget dh_125 (k := 16) rfl
theorem dX12_part_32 : decode cX12_part 32 = .ok (.iconst 0, 1) := dget dh_125 (k := 17) rfl
theorem dX12_part_33 : decode cX12_part 33 = .ok (.ireturn, 1) := dget dh_125 (k := 18) rfl
theorem dX12_part_34 : decode cX12_part 34 = .ok (.aload_n 0, 1) := dget dh_125 (k := 19) rfl
def dl_126 : List (Nat × (Instr × Nat)) := [(35, (.getfield 31, 3)), (38, (.iconst 4, 1)), (39, (.iload_n 1, 1)), (40, (.imul, 1)), (41, (.iload_n 2, 1)), (42, (.iadd, 1)), (43, (.iload_n 3, 1)), (44, (.iastore, 1)), (45, (.iconst 1, 1)), (46, (.ireturn, 1))]
theorem dh_126 : dchk cX12_part dl_126 = true := by decide +kernel
theorem dX12_part_35 : decode cX12_part 35 = .ok (.getfield 31, 3) := dget dh_126 (k := 0) rfl
theorem dX12_part_38 : decode cX12_part 38 = .ok (.iconst 4, 1) := dget dh_126 (k := 1) rfl
theorem dX12_part_39 : decode cX12_part 39 = .ok (.iload_n 1, 1) := dget dh_126 (k := 2) rfl
theorem dX12_part_40 : decode cX12_part 40 = .ok (.imul, 1) := dget dh_126 (k := 3) rfl
theorem dX12_part_41 : decode cX12_part 41 = .ok (.iload_n 2, 1) := dget dh_126 (k := 4) rfl
theorem dX12_part_42 : decode cX12_part 42 = .ok (.iadd, 1) := dget dh_126 (k := 5) rfl
theorem dX12_part_43 : decode cX12_part 43 = .ok (.iload_n 3, 1) := dget dh_126 (k := 6) rfl
theorem dX12_part_44 : decode cX12_part 44 = .ok (.iastore, 1) := dget dh_126 (k := 7) rfl
theorem dX12_part_45 : decode cX12_part 45 = .ok (.iconst 1, 1) := dget dh_126 (k := 8) rfl
theorem dX12_part_46 : decode cX12_part 46 = .ok (.ireturn, 1) := dget dh_126 (k := 9) rfl
def dl_127 : List (Nat × (Instr × Nat)) := [(0, (.iload_n 1, 1)), (1, (.invokestatic 237, 3)), (4, (.ifCond .eq 22, 3)), (7, (.iload_n 2, 1)), (8, (.iconst 0, 1)), (9, (.iconst 3, 1)), (10, (.invokestatic 241, 3)), (13, (.ifCond .eq 13, 3)), (16, (.iload_n 3, 1)), (17, (.iconst 0, 1)), (18, (.ldc 245, 2)), (20, (.invokestatic 241, 3)), (23, (.ifCond .ne 5, 3)), (26, (.iconst 0, 1)), (27, (.ireturn, 1)), (28, (.aload_n 0, 1)), (29, (.getfield 13, 3)), (32, (.iconst 4, 1)), (33, (.iload_n 1, 1)), (34, (.imul, 1))]
theorem dh_127 : dchk cX12_price dl_127 = true := by decide +kernel
theorem dX12_price_0 : decode cX12_price 0 = .ok (.iload_n 1, 1) := dget dh_127 (k := 0) rfl
theorem dX12_price_1 : decode cX12_price 1 = .ok (.invokestatic 237, 3) := dget dh_127 (k := 1) rfl
theorem dX12_price_4 : decode cX12_price 4 = .ok (.ifCond .eq 22, 3) := dget dh_127 (k := 2) rfl
theorem dX12_price_7 : decode cX12_price 7 = .ok (.iload_n 2, 1) := dget dh_127 (k := 3) rfl
theorem dX12_price_8 : decode cX12_price 8 = .ok (.iconst 0, 1) := dget dh_127 (k := 4) rfl
theorem dX12_price_9 : decode cX12_price 9 = .ok (.iconst 3, 1) := dget dh_127 (k := 5) rfl
theorem dX12_price_10 : decode cX12_price 10 = .ok (.invokestatic 241, 3) := dget dh_127 (k := 6) rfl
theorem dX12_price_13 : decode cX12_price 13 = .ok (.ifCond .eq 13, 3) := dget dh_127 (k := 7) rfl
theorem dX12_price_16 : decode cX12_price 16 = .ok (.iload_n 3, 1) := dget dh_127 (k := 8) rfl
theorem dX12_price_17 : decode cX12_price 17 = .ok (.iconst 0, 1) := dget dh_127 (k := 9) rfl
theorem dX12_price_18 : decode cX12_price 18 = .ok (.ldc 245, 2) := dget dh_127 (k := 10) rfl
theorem dX12_price_20 : decode cX12_price 20 = .ok (.invokestatic 241, 3) := dget dh_127 (k := 11) rfl
theorem dX12_price_23 : decode cX12_price 23 = .ok (.ifCond .ne 5, 3) := dget dh_127 (k := 12) rfl
theorem dX12_price_26 : decode cX12_price 26 = .ok (.iconst 0, 1) := dget dh_127 (k := 13) rfl
theorem dX12_price_27 : decode cX12_price 27 = .ok (.ireturn, 1) := dget dh_127 (k := 14) rfl
theorem dX12_price_28 : decode cX12_price 28 = .ok (.aload_n 0, 1) := dget dh_127 (k := 15) rfl
theorem dX12_price_29 : decode cX12_price 29 = .ok (.getfield 13, 3) := dget dh_127 (k := 16) rfl
theorem dX12_price_32 : decode cX12_price 32 = .ok (.iconst 4, 1) := dget dh_127 (k := 17) rfl
theorem dX12_price_33 : decode cX12_price 33 = .ok (.iload_n 1, 1) := dget dh_127 (k := 18) rfl
theorem dX12_price_34 : decode cX12_price 34 = .ok (.imul, 1) := dget dh_127 (k := 19) rfl
def dl_128 : List (Nat × (Instr × Nat)) := [(35, (.iload_n 2, 1)), (36, (.iadd, 1)), (37, (.iload_n 3, 1)), (38, (.iastore, 1)), (39, (.iconst 1, 1)), (40, (.ireturn, 1))]
theorem dh_128 : dchk cX12_price dl_128 = true := by decide +kernel
theorem dX12_price_35 : decode cX12_price 35 = .ok (.iload_n 2, 1) := dget dh_128 (k := 0) rfl
theorem dX12_price_36 : decode cX12_price 36 = .ok (.iadd, 1) := dget dh_128 (k := 1) rfl
theorem dX12_price_37 : decode cX12_price 37 = .ok (.iload_n 3, 1) := dget dh_128 (k := 2) rfl
theorem dX12_price_38 : decode cX12_price 38 = .ok (.iastore, 1) := dget dh_128 (k := 3) rfl
theorem dX12_price_39 : decode cX12_price 39 = .ok (.iconst 1, 1) := dget dh_128 (k := 4) rfl
theorem dX12_price_40 : decode cX12_price 40 = .ok (.ireturn, 1) := dget dh_128 (k := 5) rfl
def dl_129 : List (Nat × (Instr × Nat)) := [(0, (.iload_n 1, 1)), (1, (.iconst 0, 1)), (2, (.ldc_w 468, 3)), (5, (.invokestatic 241, 3)), (8, (.ifCond .ne 5, 3)), (11, (.iconst 0, 1)), (12, (.ireturn, 1)), (13, (.aload_n 0, 1)), (14, (.iload_n 1, 1)), (15, (.putfield 229, 3)), (18, (.iconst 1, 1)), (19, (.ireturn, 1))]
theorem dh_129 : dchk cX12_seed dl_129 = true := by decide +kernel
theorem dX12_seed_0 : decode cX12_seed 0 = .ok (.iload_n 1, 1) := dget dh_129 (k := 0) rfl
theorem dX12_seed_1 : decode cX12_seed 1 = .ok (.iconst 0, 1) := dget dh_129 (k := 1) rfl
theorem dX12_seed_2 : decode cX12_seed 2 = .ok (.ldc_w 468, 3) := dget dh_129 (k := 2) rfl
theorem dX12_seed_5 : decode cX12_seed 5 = .ok (.invokestatic 241, 3) := dget dh_129 (k := 3) rfl
theorem dX12_seed_8 : decode cX12_seed 8 = .ok (.ifCond .ne 5, 3) := dget dh_129 (k := 4) rfl
theorem dX12_seed_11 : decode cX12_seed 11 = .ok (.iconst 0, 1) := dget dh_129 (k := 5) rfl
theorem dX12_seed_12 : decode cX12_seed 12 = .ok (.ireturn, 1) := dget dh_129 (k := 6) rfl
theorem dX12_seed_13 : decode cX12_seed 13 = .ok (.aload_n 0, 1) := dget dh_129 (k := 7) rfl
theorem dX12_seed_14 : decode cX12_seed 14 = .ok (.iload_n 1, 1) := dget dh_129 (k := 8) rfl
theorem dX12_seed_15 : decode cX12_seed 15 = .ok (.putfield 229, 3) := dget dh_129 (k := 9) rfl
theorem dX12_seed_18 : decode cX12_seed 18 = .ok (.iconst 1, 1) := dget dh_129 (k := 10) rfl
theorem dX12_seed_19 : decode cX12_seed 19 = .ok (.ireturn, 1) := dget dh_129 (k := 11) rfl
def dl_130 : List (Nat × (Instr × Nat)) := [(0, (.iload_n 1, 1)), (1, (.invokestatic 465, 3)), (4, (.ifCond .eq 47, 3)), (7, (.iload_n 2, 1)), (8, (.invokestatic 465, 3)), (11, (.ifCond .eq 40, 3)), (14, (.iload_n 1, 1)), (15, (.iload_n 2, 1)), (16, (.if_icmp .eq 35, 3)), (19, (.iload_n 3, 1)), (20, (.iconst 0, 1)), (21, (.sipush 9999, 3)), (24, (.invokestatic 241, 3)), (27, (.ifCond .eq 24, 3)), (30, (.iload 4, 2)), (32, (.iconst 0, 1)), (33, (.sipush 9999, 3)), (36, (.invokestatic 241, 3)), (39, (.ifCond .eq 12, 3)), (42, (.aload_n 0, 1))]
theorem dh_130 : dchk cX12_twice dl_130 = true := by decide +kernel
theorem dX12_twice_0 : decode cX12_twice 0 = .ok (.iload_n 1, 1) := dget dh_130 (k := 0) rfl
theorem dX12_twice_1 : decode cX12_twice 1 = .ok (.invokestatic 465, 3) := dget dh_130 (k := 1) rfl
theorem dX12_twice_4 : decode cX12_twice 4 = .ok (.ifCond .eq 47, 3) := dget dh_130 (k := 2) rfl
theorem dX12_twice_7 : decode cX12_twice 7 = .ok (.iload_n 2, 1) := dget dh_130 (k := 3) rfl
theorem dX12_twice_8 : decode cX12_twice 8 = .ok (.invokestatic 465, 3) := dget dh_130 (k := 4) rfl
theorem dX12_twice_11 : decode cX12_twice 11 = .ok (.ifCond .eq 40, 3) := dget dh_130 (k := 5) rfl
theorem dX12_twice_14 : decode cX12_twice 14 = .ok (.iload_n 1, 1) := dget dh_130 (k := 6) rfl
theorem dX12_twice_15 : decode cX12_twice 15 = .ok (.iload_n 2, 1) := dget dh_130 (k := 7) rfl
theorem dX12_twice_16 : decode cX12_twice 16 = .ok (.if_icmp .eq 35, 3) := dget dh_130 (k := 8) rfl
theorem dX12_twice_19 : decode cX12_twice 19 = .ok (.iload_n 3, 1) := dget dh_130 (k := 9) rfl
theorem dX12_twice_20 : decode cX12_twice 20 = .ok (.iconst 0, 1) := dget dh_130 (k := 10) rfl
theorem dX12_twice_21 : decode cX12_twice 21 = .ok (.sipush 9999, 3) := dget dh_130 (k := 11) rfl
theorem dX12_twice_24 : decode cX12_twice 24 = .ok (.invokestatic 241, 3) := dget dh_130 (k := 12) rfl
theorem dX12_twice_27 : decode cX12_twice 27 = .ok (.ifCond .eq 24, 3) := dget dh_130 (k := 13) rfl
theorem dX12_twice_30 : decode cX12_twice 30 = .ok (.iload 4, 2) := dget dh_130 (k := 14) rfl
theorem dX12_twice_32 : decode cX12_twice 32 = .ok (.iconst 0, 1) := dget dh_130 (k := 15) rfl
theorem dX12_twice_33 : decode cX12_twice 33 = .ok (.sipush 9999, 3) := dget dh_130 (k := 16) rfl
theorem dX12_twice_36 : decode cX12_twice 36 = .ok (.invokestatic 241, 3) := dget dh_130 (k := 17) rfl
theorem dX12_twice_39 : decode cX12_twice 39 = .ok (.ifCond .eq 12, 3) := dget dh_130 (k := 18) rfl
theorem dX12_twice_42 : decode cX12_twice 42 = .ok (.aload_n 0, 1) := dget dh_130 (k := 19) rfl
def dl_131 : List (Nat × (Instr × Nat)) := [(43, (.getfield 470, 3)), (46, (.bipush 40, 2)), (48, (.if_icmp .ne 5, 3)), (51, (.iconst (-1), 1)), (52, (.ireturn, 1)), (53, (.aload_n 0, 1)), (54, (.getfield 166, 3)), (57, (.aload_n 0, 1)), (58, (.getfield 470, 3)), (61, (.iload_n 1, 1)), (62, (.iastore, 1)), (63, (.aload_n 0, 1)), (64, (.getfield 169, 3)), (67, (.aload_n 0, 1)), (68, (.getfield 470, 3)), (71, (.iload_n 2, 1)), (72, (.iastore, 1)), (73, (.aload_n 0, 1)), (74, (.getfield 172, 3)), (77, (.aload_n 0, 1))]
theorem dh_131 : dchk cX12_twice dl_131 = true := by decide +kernel
theorem dX12_twice_43 : decode cX12_twice 43 = .ok (.getfield 470, 3) := dget dh_131 (k := 0) rfl
theorem dX12_twice_46 : decode cX12_twice 46 = .ok (.bipush 40, 2) := dget dh_131 (k := 1) rfl
theorem dX12_twice_48 : decode cX12_twice 48 = .ok (.if_icmp .ne 5, 3) := dget dh_131 (k := 2) rfl
theorem dX12_twice_51 : decode cX12_twice 51 = .ok (.iconst (-1), 1) := dget dh_131 (k := 3) rfl
theorem dX12_twice_52 : decode cX12_twice 52 = .ok (.ireturn, 1) := dget dh_131 (k := 4) rfl
theorem dX12_twice_53 : decode cX12_twice 53 = .ok (.aload_n 0, 1) := dget dh_131 (k := 5) rfl
theorem dX12_twice_54 : decode cX12_twice 54 = .ok (.getfield 166, 3) := dget dh_131 (k := 6) rfl
theorem dX12_twice_57 : decode cX12_twice 57 = .ok (.aload_n 0, 1) := dget dh_131 (k := 7) rfl
theorem dX12_twice_58 : decode cX12_twice 58 = .ok (.getfield 470, 3) := dget dh_131 (k := 8) rfl
theorem dX12_twice_61 : decode cX12_twice 61 = .ok (.iload_n 1, 1) := dget dh_131 (k := 9) rfl
theorem dX12_twice_62 : decode cX12_twice 62 = .ok (.iastore, 1) := dget dh_131 (k := 10) rfl
theorem dX12_twice_63 : decode cX12_twice 63 = .ok (.aload_n 0, 1) := dget dh_131 (k := 11) rfl
theorem dX12_twice_64 : decode cX12_twice 64 = .ok (.getfield 169, 3) := dget dh_131 (k := 12) rfl
theorem dX12_twice_67 : decode cX12_twice 67 = .ok (.aload_n 0, 1) := dget dh_131 (k := 13) rfl
theorem dX12_twice_68 : decode cX12_twice 68 = .ok (.getfield 470, 3) := dget dh_131 (k := 14) rfl
theorem dX12_twice_71 : decode cX12_twice 71 = .ok (.iload_n 2, 1) := dget dh_131 (k := 15) rfl
theorem dX12_twice_72 : decode cX12_twice 72 = .ok (.iastore, 1) := dget dh_131 (k := 16) rfl
theorem dX12_twice_73 : decode cX12_twice 73 = .ok (.aload_n 0, 1) := dget dh_131 (k := 17) rfl
theorem dX12_twice_74 : decode cX12_twice 74 = .ok (.getfield 172, 3) := dget dh_131 (k := 18) rfl
theorem dX12_twice_77 : decode cX12_twice 77 = .ok (.aload_n 0, 1) := dget dh_131 (k := 19) rfl
def dl_132 : List (Nat × (Instr × Nat)) := [(78, (.getfield 470, 3)), (81, (.iload_n 3, 1)), (82, (.iastore, 1)), (83, (.aload_n 0, 1)), (84, (.getfield 175, 3)), (87, (.aload_n 0, 1)), (88, (.getfield 470, 3)), (91, (.iload 4, 2)), (93, (.iastore, 1)), (94, (.aload_n 0, 1)), (95, (.aload_n 0, 1)), (96, (.getfield 470, 3)), (99, (.iconst 1, 1)), (100, (.iadd, 1)), (101, (.putfield 470, 3)), (104, (.aload_n 0, 1)), (105, (.getfield 470, 3)), (108, (.ireturn, 1))]
theorem dh_132 : dchk cX12_twice dl_132 = true := by decide +kernel
theorem dX12_twice_78 : decode cX12_twice 78 = .ok (.getfield 470, 3) := dget dh_132 (k := 0) rfl
theorem dX12_twice_81 : decode cX12_twice 81 = .ok (.iload_n 3, 1) := dget dh_132 (k := 1) rfl
theorem dX12_twice_82 : decode cX12_twice 82 = .ok (.iastore, 1) := dget dh_132 (k := 2) rfl
theorem dX12_twice_83 : decode cX12_twice 83 = .ok (.aload_n 0, 1) := dget dh_132 (k := 3) rfl
theorem dX12_twice_84 : decode cX12_twice 84 = .ok (.getfield 175, 3) := dget dh_132 (k := 4) rfl
theorem dX12_twice_87 : decode cX12_twice 87 = .ok (.aload_n 0, 1) := dget dh_132 (k := 5) rfl
theorem dX12_twice_88 : decode cX12_twice 88 = .ok (.getfield 470, 3) := dget dh_132 (k := 6) rfl
theorem dX12_twice_91 : decode cX12_twice 91 = .ok (.iload 4, 2) := dget dh_132 (k := 7) rfl
theorem dX12_twice_93 : decode cX12_twice 93 = .ok (.iastore, 1) := dget dh_132 (k := 8) rfl
theorem dX12_twice_94 : decode cX12_twice 94 = .ok (.aload_n 0, 1) := dget dh_132 (k := 9) rfl
theorem dX12_twice_95 : decode cX12_twice 95 = .ok (.aload_n 0, 1) := dget dh_132 (k := 10) rfl
theorem dX12_twice_96 : decode cX12_twice 96 = .ok (.getfield 470, 3) := dget dh_132 (k := 11) rfl
theorem dX12_twice_99 : decode cX12_twice 99 = .ok (.iconst 1, 1) := dget dh_132 (k := 12) rfl
theorem dX12_twice_100 : decode cX12_twice 100 = .ok (.iadd, 1) := dget dh_132 (k := 13) rfl
theorem dX12_twice_101 : decode cX12_twice 101 = .ok (.putfield 470, 3) := dget dh_132 (k := 14) rfl
theorem dX12_twice_104 : decode cX12_twice 104 = .ok (.aload_n 0, 1) := dget dh_132 (k := 15) rfl
theorem dX12_twice_105 : decode cX12_twice 105 = .ok (.getfield 470, 3) := dget dh_132 (k := 16) rfl
theorem dX12_twice_108 : decode cX12_twice 108 = .ok (.ireturn, 1) := dget dh_132 (k := 17) rfl
set_option maxHeartbeats 4000000 in
set_option maxRecDepth 100000 in
theorem c_X12_life (l : Launch) (D : va_G) (cy : Nat → ClassId) (a : Nat → Nat) (i : Nat → Int32) (r : Nat → Nat → Int32) (rl : Nat → Int64) (p0 p1 : Int32) (sz : Nat) (hRi : mRi i) (hRr : mRr r) : Met l yX12_life (Cond.code yX12_life cX12_life 3 (some .boolean) :: gT) { frames := 2, cells := 0, slots := 0, locals := 46 } (va_Pc [.ref (a 0), .int p0, .int p1] (rQ D cy (mW cy a i r rl) sz)) (va_Qi (fun (z : Int32) (u : Nat → Nat → Int32) => mRr u ∧ mEr [1] r u ∧ True) (fun (u : Nat → Nat → Int32) t => va_P D vwCl (mW cy a i u rl) t.heap ∧ va_K D vwCl (vT cy) t ∧ va_D (va_A (mW cy a i r rl) sz) (mW cy a i u rl)) (va_A (mW cy a i r rl) sz)) 0 0 (va_A (mW cy a i r rl) sz) := by
  refine Met.ofQ (cc := cX12_life) (maxL := 3) (ret := (some .boolean)) (by decide) rfl ?_
  intro p e s m args below meth c s₁ B hml hv Q hQ
  obtain ⟨rfl, hsz, hP, hK, hD0⟩ := hv
  have hx := B.exec
  have hb := B.bytes
  have hr := B.returns
  have hlocks := B.notSynchronized
  have hT : ∀ w ∈ gT, w.before _ s = true := fun w h => atoms_spec (ws := (Cond.code yX12_life cX12_life 3 (some .boolean) :: gT)) B.pre w (List.mem_cons_of_mem _ h)
  have hown : s.vm.findClass RX12 = some m.cls := findClass_of_methodNamed B.named
  subst hsz
  have hD := hD0.self (sz := s.heap.size)
  generalize hAe : va_A (mW cy a i r rl) s.heap.size = A at hD hQ
  have hA : ∀ q : Nat, s.heap.size ≤ q → A q := fun q h => by rw [← hAe]; exact Or.inr h
  have hS : va_S A s.heap s.heap [] := va_S.rf
  have hl := lv_entry ([.ref (a 0), .int p0, .int p1]) (n := 3) (Nat.le_of_ble_eq_true rfl)
  rw [lg_entry_eq]
  generalize (lg_sl ([.ref (a 0), .int p0, .int p1]) ++ List.replicate (3 - (lg_sl ([.ref (a 0), .int p0, .int p1])).length) Slot.unset).toArray = ls at hl ⊢
  have hl : lv_has ls 3 [(0, .ref (a 0)), (1, .int p0), (2, .int p1)] := hl
  have hEi : mEi [] i i := Ei_rf
  have hEr : mEr [1] r r := Er_rf
  refine lv_iload_n hx hb dX12_life_0 rfl (lv_at hl 1 rfl) ?_
  refine vp_callSi (W.runS (As := [.int p0]) (rest := []) ⟨hx, hb, hml, hown, hT⟩ (c_X12_isKind l p0) (va_cwS 1 hT (gS t_5 t_7 t_8 t_6) rfl rfl rfl (by decide +kernel) ⟨Nat.le_of_ble_eq_true rfl, Nat.le_of_ble_eq_true rfl⟩) preT rfl rfl hl.1 rfl (lv_room (Nat.le_of_ble_eq_true rfl)) dX12_life_1 ⟨Nat.le_of_ble_eq_true rfl, Nat.le_of_ble_eq_true rfl⟩) (fun r_1 hr_1 => ?_)
  have hr_1 : BR r_1 (0 ≤ p0.toInt ∧ p0.toInt ≤ 7) 1 0 := hr_1
  rcases hr_1 with ⟨rfl, h_2⟩ | ⟨rfl, h_2⟩
  · skip
    refine lv_if_eq (tgt := 18) hx hb dX12_life_4 (by decide) (fun c_3 => absurd c_3 (by decide)) (fun c_3 => ?_)
    refine lv_iload_n hx hb dX12_life_7 rfl (lv_at hl 2 rfl) ?_
    refine lv_iconst (v := 1) hx hb dX12_life_8 (by decide) ?_
    refine lv_sipush (v := 360) hx hb dX12_life_9 (by decide) ?_
    refine vp_callSi (W.runS (As := [.int p1, .int 1, .int 360]) (rest := []) ⟨hx, hb, hml, hown, hT⟩ (c_X12_in l p1 1 360) (va_cwS 3 hT (gS t_113 t_114 t_115 t_6) rfl rfl rfl (by decide +kernel) ⟨Nat.le_of_ble_eq_true rfl, Nat.le_of_ble_eq_true rfl⟩) preT rfl rfl hl.1 rfl (lv_room (Nat.le_of_ble_eq_true rfl)) dX12_life_12 ⟨Nat.le_of_ble_eq_true rfl, Nat.le_of_ble_eq_true rfl⟩) (fun r_4 hr_4 => ?_)
    have hr_4 : BR r_4 (1 ≤ p1.toInt ∧ p1.toInt ≤ 360) 1 0 := hr_4
    rcases hr_4 with ⟨rfl, h_5⟩ | ⟨rfl, h_5⟩
    · skip
      refine lv_if_ne (tgt := 20) hx hb dX12_life_15 (by decide) (fun c_6 => ?_) (fun c_6 => absurd c_6 (by decide))
      refine lv_aload_n hx hb dX12_life_20 rfl (lv_at hl 0 rfl) ?_
      refine va_get (D := D) (ci := 12) (v := .ref (a 1)) (C := RX12) (T := TX12) (N := 91) hx hb hT iX12 hown hK hP 0 rfl rfl 2 (by decide) (hT _ t_25) (fun _ h9 => h9) rfl dX12_life_21 ?_
      refine lv_iload_n hx hb dX12_life_24 rfl (lv_at hl 1 rfl) ?_
      refine lv_iload_n hx hb dX12_life_25 rfl (lv_at hl 2 rfl) ?_
      refine va_iast hx hb hK hP hD hS 1 0 rfl rfl (vp_inI (by omega) (by omega)) dX12_life_26 (fun H locs hP hD hS => ?_)
      rw [mS1] at hP hD
      have hRr : mRr (va_up r 1 (upd (r 1) p0.toNatClampNeg p1)) := Rr_upd hRr 1 (p0.toNatClampNeg) p1 ⟨by show (1 : Int) ≤ p1.toInt; omega, by show p1.toInt ≤ (360 : Int); omega⟩
      have hEr : mEr [1] _ (va_up r 1 (upd (r 1) p0.toNatClampNeg p1)) := Er_up hEr 1 _ (by decide)
      refine lv_iconst (v := 1) hx hb dX12_life_27 (by decide) ?_
      subst hQ
      exact W.zret hx hb hr rfl (fun t ht hW => ⟨⟨_, (va_up r 1 (upd (r 1) p0.toNatClampNeg p1)), rfl, ⟨hRr, hEr, trivial⟩, by rw [ht]; exact hP, va_K.moved hW.alike hK, hD⟩, hS.F ht⟩) hS.2.2 dX12_life_28
    · skip
      refine lv_if_ne (tgt := 20) hx hb dX12_life_15 (by decide) (fun c_7 => absurd (by decide) c_7) (fun c_7 => ?_)
      refine lv_iconst (v := 0) hx hb dX12_life_18 (by decide) ?_
      subst hQ
      exact W.zret hx hb hr rfl (fun t ht hW => ⟨⟨_, r, rfl, ⟨hRr, hEr, trivial⟩, by rw [ht]; exact hP, va_K.moved hW.alike hK, hD⟩, hS.F ht⟩) hS.2.2 dX12_life_19
  · skip
    refine lv_if_eq (tgt := 18) hx hb dX12_life_4 (by decide) (fun c_8 => ?_) (fun c_8 => absurd (by decide) c_8)
    refine lv_iconst (v := 0) hx hb dX12_life_18 (by decide) ?_
    subst hQ
    exact W.zret hx hb hr rfl (fun t ht hW => ⟨⟨_, r, rfl, ⟨hRr, hEr, trivial⟩, by rw [ht]; exact hP, va_K.moved hW.alike hK, hD⟩, hS.F ht⟩) hS.2.2 dX12_life_19
set_option maxHeartbeats 4000000 in
set_option maxRecDepth 100000 in
theorem c_X12_price (l : Launch) (D : va_G) (cy : Nat → ClassId) (a : Nat → Nat) (i : Nat → Int32) (r : Nat → Nat → Int32) (rl : Nat → Int64) (p0 p1 p2 : Int32) (sz : Nat) (hRi : mRi i) (hRr : mRr r) : Met l yX12_price (Cond.code yX12_price cX12_price 4 (some .boolean) :: gT) { frames := 2, cells := 0, slots := 0, locals := 46 } (va_Pc [.ref (a 0), .int p0, .int p1, .int p2] (rQ D cy (mW cy a i r rl) sz)) (va_Qi (fun (z : Int32) (u : Nat → Nat → Int32) => mRr u ∧ mEr [2] r u ∧ True) (fun (u : Nat → Nat → Int32) t => va_P D vwCl (mW cy a i u rl) t.heap ∧ va_K D vwCl (vT cy) t ∧ va_D (va_A (mW cy a i r rl) sz) (mW cy a i u rl)) (va_A (mW cy a i r rl) sz)) 0 0 (va_A (mW cy a i r rl) sz) := by
  refine Met.ofQ (cc := cX12_price) (maxL := 4) (ret := (some .boolean)) (by decide) rfl ?_
  intro p e s m args below meth c s₁ B hml hv Q hQ
  obtain ⟨rfl, hsz, hP, hK, hD0⟩ := hv
  have hx := B.exec
  have hb := B.bytes
  have hr := B.returns
  have hlocks := B.notSynchronized
  have hT : ∀ w ∈ gT, w.before _ s = true := fun w h => atoms_spec (ws := (Cond.code yX12_price cX12_price 4 (some .boolean) :: gT)) B.pre w (List.mem_cons_of_mem _ h)
  have hown : s.vm.findClass RX12 = some m.cls := findClass_of_methodNamed B.named
  subst hsz
  have hD := hD0.self (sz := s.heap.size)
  generalize hAe : va_A (mW cy a i r rl) s.heap.size = A at hD hQ
  have hA : ∀ q : Nat, s.heap.size ≤ q → A q := fun q h => by rw [← hAe]; exact Or.inr h
  have hS : va_S A s.heap s.heap [] := va_S.rf
  have hl := lv_entry ([.ref (a 0), .int p0, .int p1, .int p2]) (n := 4) (Nat.le_of_ble_eq_true rfl)
  rw [lg_entry_eq]
  generalize (lg_sl ([.ref (a 0), .int p0, .int p1, .int p2]) ++ List.replicate (4 - (lg_sl ([.ref (a 0), .int p0, .int p1, .int p2])).length) Slot.unset).toArray = ls at hl ⊢
  have hl : lv_has ls 4 [(0, .ref (a 0)), (1, .int p0), (2, .int p1), (3, .int p2)] := hl
  have hEi : mEi [] i i := Ei_rf
  have hEr : mEr [2] r r := Er_rf
  refine lv_iload_n hx hb dX12_price_0 rfl (lv_at hl 1 rfl) ?_
  refine vp_callSi (W.runS (As := [.int p0]) (rest := []) ⟨hx, hb, hml, hown, hT⟩ (c_X12_isKind l p0) (va_cwS 1 hT (gS t_5 t_7 t_8 t_6) rfl rfl rfl (by decide +kernel) ⟨Nat.le_of_ble_eq_true rfl, Nat.le_of_ble_eq_true rfl⟩) preT rfl rfl hl.1 rfl (lv_room (Nat.le_of_ble_eq_true rfl)) dX12_price_1 ⟨Nat.le_of_ble_eq_true rfl, Nat.le_of_ble_eq_true rfl⟩) (fun r_1 hr_1 => ?_)
  have hr_1 : BR r_1 (0 ≤ p0.toInt ∧ p0.toInt ≤ 7) 1 0 := hr_1
  rcases hr_1 with ⟨rfl, h_2⟩ | ⟨rfl, h_2⟩
  · skip
    refine lv_if_eq (tgt := 26) hx hb dX12_price_4 (by decide) (fun c_3 => absurd c_3 (by decide)) (fun c_3 => ?_)
    refine lv_iload_n hx hb dX12_price_7 rfl (lv_at hl 2 rfl) ?_
    refine lv_iconst (v := 0) hx hb dX12_price_8 (by decide) ?_
    refine lv_iconst (v := 3) hx hb dX12_price_9 (by decide) ?_
    refine vp_callSi (W.runS (As := [.int p1, .int 0, .int 3]) (rest := []) ⟨hx, hb, hml, hown, hT⟩ (c_X12_in l p1 0 3) (va_cwS 3 hT (gS t_113 t_114 t_115 t_6) rfl rfl rfl (by decide +kernel) ⟨Nat.le_of_ble_eq_true rfl, Nat.le_of_ble_eq_true rfl⟩) preT rfl rfl hl.1 rfl (lv_room (Nat.le_of_ble_eq_true rfl)) dX12_price_10 ⟨Nat.le_of_ble_eq_true rfl, Nat.le_of_ble_eq_true rfl⟩) (fun r_4 hr_4 => ?_)
    have hr_4 : BR r_4 (0 ≤ p1.toInt ∧ p1.toInt ≤ 3) 1 0 := hr_4
    rcases hr_4 with ⟨rfl, h_5⟩ | ⟨rfl, h_5⟩
    · skip
      refine lv_if_eq (tgt := 26) hx hb dX12_price_13 (by decide) (fun c_6 => absurd c_6 (by decide)) (fun c_6 => ?_)
      refine lv_iload_n hx hb dX12_price_16 rfl (lv_at hl 3 rfl) ?_
      refine lv_iconst (v := 0) hx hb dX12_price_17 (by decide) ?_
      refine lv_ldc (v := 99999) hx hb hown (hT _ t_175) dX12_price_18 ?_
      refine vp_callSi (W.runS (As := [.int p2, .int 0, .int 99999]) (rest := []) ⟨hx, hb, hml, hown, hT⟩ (c_X12_in l p2 0 99999) (va_cwS 3 hT (gS t_113 t_114 t_115 t_6) rfl rfl rfl (by decide +kernel) ⟨Nat.le_of_ble_eq_true rfl, Nat.le_of_ble_eq_true rfl⟩) preT rfl rfl hl.1 rfl (lv_room (Nat.le_of_ble_eq_true rfl)) dX12_price_20 ⟨Nat.le_of_ble_eq_true rfl, Nat.le_of_ble_eq_true rfl⟩) (fun r_7 hr_7 => ?_)
      have hr_7 : BR r_7 (0 ≤ p2.toInt ∧ p2.toInt ≤ 99999) 1 0 := hr_7
      rcases hr_7 with ⟨rfl, h_8⟩ | ⟨rfl, h_8⟩
      · skip
        refine lv_if_ne (tgt := 28) hx hb dX12_price_23 (by decide) (fun c_9 => ?_) (fun c_9 => absurd c_9 (by decide))
        refine lv_aload_n hx hb dX12_price_28 rfl (lv_at hl 0 rfl) ?_
        refine va_get (D := D) (ci := 12) (v := .ref (a 2)) (C := RX12) (T := TX12) (N := 91) hx hb hT iX12 hown hK hP 0 rfl rfl 3 (by decide) (hT _ t_26) (fun _ h9 => h9) rfl dX12_price_29 ?_
        refine lv_iconst (v := 4) hx hb dX12_price_32 (by decide) ?_
        refine lv_iload_n hx hb dX12_price_33 rfl (lv_at hl 1 rfl) ?_
        refine lv_imul hx hb dX12_price_34 ?_
        refine lv_topi (fun v_10 ev_10 => ?_)
        have hv_10 : v_10.toInt = 4 * p0.toInt := by rw [ev_10]; have := b_rg p0; exact i_mul (a := 4) (b := p0.toInt) rfl rfl (by omega) (by omega)
        refine lv_iload_n hx hb dX12_price_35 rfl (lv_at hl 2 rfl) ?_
        refine lv_iadd hx hb dX12_price_36 ?_
        refine lv_topi (fun v_11 ev_11 => ?_)
        have hv_11 : v_11.toInt = v_10.toInt + p1.toInt := by rw [ev_11]; have := b_rg v_10; have := b_rg p1; exact i_add (a := v_10.toInt) (b := p1.toInt) rfl rfl (by omega) (by omega)
        refine lv_iload_n hx hb dX12_price_37 rfl (lv_at hl 3 rfl) ?_
        refine va_iast hx hb hK hP hD hS 2 0 rfl rfl (vp_inI (by omega) (by omega)) dX12_price_38 (fun H locs hP hD hS => ?_)
        rw [mS2] at hP hD
        have hRr : mRr (va_up r 2 (upd (r 2) v_11.toNatClampNeg p2)) := Rr_upd hRr 2 (v_11.toNatClampNeg) p2 ⟨by show (0 : Int) ≤ p2.toInt; omega, by show p2.toInt ≤ (99999 : Int); omega⟩
        have hEr : mEr [2] _ (va_up r 2 (upd (r 2) v_11.toNatClampNeg p2)) := Er_up hEr 2 _ (by decide)
        refine lv_iconst (v := 1) hx hb dX12_price_39 (by decide) ?_
        subst hQ
        exact W.zret hx hb hr rfl (fun t ht hW => ⟨⟨_, (va_up r 2 (upd (r 2) v_11.toNatClampNeg p2)), rfl, ⟨hRr, hEr, trivial⟩, by rw [ht]; exact hP, va_K.moved hW.alike hK, hD⟩, hS.F ht⟩) hS.2.2 dX12_price_40
      · skip
        refine lv_if_ne (tgt := 28) hx hb dX12_price_23 (by decide) (fun c_12 => absurd (by decide) c_12) (fun c_12 => ?_)
        refine lv_iconst (v := 0) hx hb dX12_price_26 (by decide) ?_
        subst hQ
        exact W.zret hx hb hr rfl (fun t ht hW => ⟨⟨_, r, rfl, ⟨hRr, hEr, trivial⟩, by rw [ht]; exact hP, va_K.moved hW.alike hK, hD⟩, hS.F ht⟩) hS.2.2 dX12_price_27
    · skip
      refine lv_if_eq (tgt := 26) hx hb dX12_price_13 (by decide) (fun c_13 => ?_) (fun c_13 => absurd (by decide) c_13)
      refine lv_iconst (v := 0) hx hb dX12_price_26 (by decide) ?_
      subst hQ
      exact W.zret hx hb hr rfl (fun t ht hW => ⟨⟨_, r, rfl, ⟨hRr, hEr, trivial⟩, by rw [ht]; exact hP, va_K.moved hW.alike hK, hD⟩, hS.F ht⟩) hS.2.2 dX12_price_27
  · skip
    refine lv_if_eq (tgt := 26) hx hb dX12_price_4 (by decide) (fun c_14 => ?_) (fun c_14 => absurd (by decide) c_14)
    refine lv_iconst (v := 0) hx hb dX12_price_26 (by decide) ?_
    subst hQ
    exact W.zret hx hb hr rfl (fun t ht hW => ⟨⟨_, r, rfl, ⟨hRr, hEr, trivial⟩, by rw [ht]; exact hP, va_K.moved hW.alike hK, hD⟩, hS.F ht⟩) hS.2.2 dX12_price_27
set_option maxHeartbeats 4000000 in
set_option maxRecDepth 100000 in
theorem c_X12_part (l : Launch) (D : va_G) (cy : Nat → ClassId) (a : Nat → Nat) (i : Nat → Int32) (r : Nat → Nat → Int32) (rl : Nat → Int64) (p0 p1 p2 : Int32) (sz : Nat) (hRi : mRi i) (hRr : mRr r) : Met l yX12_part (Cond.code yX12_part cX12_part 4 (some .boolean) :: gT) { frames := 2, cells := 0, slots := 0, locals := 46 } (va_Pc [.ref (a 0), .int p0, .int p1, .int p2] (rQ D cy (mW cy a i r rl) sz)) (va_Qi (fun (z : Int32) (u : Nat → Nat → Int32) => mRr u ∧ mEr [8] r u ∧ True) (fun (u : Nat → Nat → Int32) t => va_P D vwCl (mW cy a i u rl) t.heap ∧ va_K D vwCl (vT cy) t ∧ va_D (va_A (mW cy a i r rl) sz) (mW cy a i u rl)) (va_A (mW cy a i r rl) sz)) 0 0 (va_A (mW cy a i r rl) sz) := by
  refine Met.ofQ (cc := cX12_part) (maxL := 4) (ret := (some .boolean)) (by decide) rfl ?_
  intro p e s m args below meth c s₁ B hml hv Q hQ
  obtain ⟨rfl, hsz, hP, hK, hD0⟩ := hv
  have hx := B.exec
  have hb := B.bytes
  have hr := B.returns
  have hlocks := B.notSynchronized
  have hT : ∀ w ∈ gT, w.before _ s = true := fun w h => atoms_spec (ws := (Cond.code yX12_part cX12_part 4 (some .boolean) :: gT)) B.pre w (List.mem_cons_of_mem _ h)
  have hown : s.vm.findClass RX12 = some m.cls := findClass_of_methodNamed B.named
  subst hsz
  have hD := hD0.self (sz := s.heap.size)
  generalize hAe : va_A (mW cy a i r rl) s.heap.size = A at hD hQ
  have hA : ∀ q : Nat, s.heap.size ≤ q → A q := fun q h => by rw [← hAe]; exact Or.inr h
  have hS : va_S A s.heap s.heap [] := va_S.rf
  have hl := lv_entry ([.ref (a 0), .int p0, .int p1, .int p2]) (n := 4) (Nat.le_of_ble_eq_true rfl)
  rw [lg_entry_eq]
  generalize (lg_sl ([.ref (a 0), .int p0, .int p1, .int p2]) ++ List.replicate (4 - (lg_sl ([.ref (a 0), .int p0, .int p1, .int p2])).length) Slot.unset).toArray = ls at hl ⊢
  have hl : lv_has ls 4 [(0, .ref (a 0)), (1, .int p0), (2, .int p1), (3, .int p2)] := hl
  have hEi : mEi [] i i := Ei_rf
  have hEr : mEr [8] r r := Er_rf
  refine lv_aload_n hx hb dX12_part_0 rfl (lv_at hl 0 rfl) ?_
  refine lv_iload_n hx hb dX12_part_1 rfl (lv_at hl 1 rfl) ?_
  refine vp_callSi (W.runV (As := [.int p0]) (rest := []) ⟨hx, hb, hml, hown, hT⟩ (c_X12_isHome l D cy a i r rl p0 hRi hRr) (cwV 1 hT (gV t_12 t_13 t_14 t_15 t_6) rfl rfl rfl (by decide +kernel) ⟨Nat.le_of_ble_eq_true rfl, Nat.le_of_ble_eq_true rfl⟩) (rP_v hP hK (va_recv hK hP (ci := 12) (q0 := 0) rfl rfl)) rfl rfl hl.1 rfl (lv_room (Nat.le_of_ble_eq_true rfl)) dX12_part_2 ⟨Nat.le_of_ble_eq_true rfl, Nat.le_of_ble_eq_true rfl⟩) (fun r_1 hr_1 => ?_)
  have hg_2 : 0 ≤ (i 0).toInt ∧ (i 0).toInt ≤ 6 := hRi 0
  have hr_1 : BR r_1 (0 ≤ p0.toInt ∧ p0.toInt < (i 0).toInt) 1 0 := hr_1
  rcases hr_1 with ⟨rfl, h_3⟩ | ⟨rfl, h_3⟩
  · skip
    refine lv_if_eq (tgt := 32) hx hb dX12_part_5 (by decide) (fun c_4 => absurd c_4 (by decide)) (fun c_4 => ?_)
    refine lv_iload_n hx hb dX12_part_8 rfl (lv_at hl 2 rfl) ?_
    refine lv_if_lt (tgt := 32) hx hb dX12_part_9 (by decide) (fun c_5 => ?_) (fun c_5 => ?_)
    · have c_5 : p1.toInt < 0 := b_lt c_5
      refine lv_iconst (v := 0) hx hb dX12_part_32 (by decide) ?_
      subst hQ
      exact W.zret hx hb hr rfl (fun t ht hW => ⟨⟨_, r, rfl, ⟨hRr, hEr, trivial⟩, by rw [ht]; exact hP, va_K.moved hW.alike hK, hD⟩, hS.F ht⟩) hS.2.2 dX12_part_33
    · have c_5 : 0 ≤ p1.toInt := b_nlt c_5
      refine lv_iload_n hx hb dX12_part_12 rfl (lv_at hl 2 rfl) ?_
      refine lv_aload_n hx hb dX12_part_13 rfl (lv_at hl 0 rfl) ?_
      refine va_get (D := D) (ci := 12) (v := .ref (a 4)) (C := RX12) (T := TX12) (N := 91) hx hb hT iX12 hown hK hP 0 rfl rfl 5 (by decide) (hT _ t_66) (fun _ h9 => h9) rfl dX12_part_14 ?_
      refine lv_iload_n hx hb dX12_part_17 rfl (lv_at hl 1 rfl) ?_
      refine va_iald hx hb hK hP 4 0 rfl rfl (vp_inI (by omega) (by omega)) dX12_part_18 ?_
      refine lv_topi (fun v_6 ev_6 => ?_)
      have hgv_6 : 0 ≤ v_6.toInt ∧ v_6.toInt ≤ 4 := by rw [ev_6]; exact hRr 4 _
      refine lv_icmp_ge (tgt := 32) hx hb dX12_part_19 (by decide) (fun c_7 => ?_) (fun c_7 => ?_)
      · have c_7 : v_6.toInt ≤ p1.toInt := b_le c_7
        refine lv_iconst (v := 0) hx hb dX12_part_32 (by decide) ?_
        subst hQ
        exact W.zret hx hb hr rfl (fun t ht hW => ⟨⟨_, r, rfl, ⟨hRr, hEr, trivial⟩, by rw [ht]; exact hP, va_K.moved hW.alike hK, hD⟩, hS.F ht⟩) hS.2.2 dX12_part_33
      · have c_7 : p1.toInt < v_6.toInt := b_nle c_7
        refine lv_iload_n hx hb dX12_part_22 rfl (lv_at hl 3 rfl) ?_
        refine lv_iconst (v := 0) hx hb dX12_part_23 (by decide) ?_
        refine lv_bipush (v := 99) hx hb dX12_part_24 (by decide) ?_
        refine vp_callSi (W.runS (As := [.int p2, .int 0, .int 99]) (rest := []) ⟨hx, hb, hml, hown, hT⟩ (c_X12_in l p2 0 99) (va_cwS 3 hT (gS t_113 t_114 t_115 t_6) rfl rfl rfl (by decide +kernel) ⟨Nat.le_of_ble_eq_true rfl, Nat.le_of_ble_eq_true rfl⟩) preT rfl rfl hl.1 rfl (lv_room (Nat.le_of_ble_eq_true rfl)) dX12_part_26 ⟨Nat.le_of_ble_eq_true rfl, Nat.le_of_ble_eq_true rfl⟩) (fun r_8 hr_8 => ?_)
        have hr_8 : BR r_8 (0 ≤ p2.toInt ∧ p2.toInt ≤ 99) 1 0 := hr_8
        rcases hr_8 with ⟨rfl, h_9⟩ | ⟨rfl, h_9⟩
        · skip
          refine lv_if_ne (tgt := 34) hx hb dX12_part_29 (by decide) (fun c_10 => ?_) (fun c_10 => absurd c_10 (by decide))
          refine lv_aload_n hx hb dX12_part_34 rfl (lv_at hl 0 rfl) ?_
          refine va_get (D := D) (ci := 12) (v := .ref (a 8)) (C := RX12) (T := TX12) (N := 91) hx hb hT iX12 hown hK hP 0 rfl rfl 9 (by decide) (hT _ t_176) (fun _ h9 => h9) rfl dX12_part_35 ?_
          refine lv_iconst (v := 4) hx hb dX12_part_38 (by decide) ?_
          refine lv_iload_n hx hb dX12_part_39 rfl (lv_at hl 1 rfl) ?_
          refine lv_imul hx hb dX12_part_40 ?_
          refine lv_topi (fun v_11 ev_11 => ?_)
          have hv_11 : v_11.toInt = 4 * p0.toInt := by rw [ev_11]; have := b_rg p0; exact i_mul (a := 4) (b := p0.toInt) rfl rfl (by omega) (by omega)
          refine lv_iload_n hx hb dX12_part_41 rfl (lv_at hl 2 rfl) ?_
          refine lv_iadd hx hb dX12_part_42 ?_
          refine lv_topi (fun v_12 ev_12 => ?_)
          have hv_12 : v_12.toInt = v_11.toInt + p1.toInt := by rw [ev_12]; have := b_rg v_11; have := b_rg p1; exact i_add (a := v_11.toInt) (b := p1.toInt) rfl rfl (by omega) (by omega)
          refine lv_iload_n hx hb dX12_part_43 rfl (lv_at hl 3 rfl) ?_
          refine va_iast hx hb hK hP hD hS 8 0 rfl rfl (vp_inI (by omega) (by omega)) dX12_part_44 (fun H locs hP hD hS => ?_)
          rw [mS8] at hP hD
          have hRr : mRr (va_up r 8 (upd (r 8) v_12.toNatClampNeg p2)) := Rr_upd hRr 8 (v_12.toNatClampNeg) p2 ⟨by show (0 : Int) ≤ p2.toInt; omega, by show p2.toInt ≤ (99 : Int); omega⟩
          have hEr : mEr [8] _ (va_up r 8 (upd (r 8) v_12.toNatClampNeg p2)) := Er_up hEr 8 _ (by decide)
          refine lv_iconst (v := 1) hx hb dX12_part_45 (by decide) ?_
          subst hQ
          exact W.zret hx hb hr rfl (fun t ht hW => ⟨⟨_, (va_up r 8 (upd (r 8) v_12.toNatClampNeg p2)), rfl, ⟨hRr, hEr, trivial⟩, by rw [ht]; exact hP, va_K.moved hW.alike hK, hD⟩, hS.F ht⟩) hS.2.2 dX12_part_46
        · skip
          refine lv_if_ne (tgt := 34) hx hb dX12_part_29 (by decide) (fun c_13 => absurd (by decide) c_13) (fun c_13 => ?_)
          refine lv_iconst (v := 0) hx hb dX12_part_32 (by decide) ?_
          subst hQ
          exact W.zret hx hb hr rfl (fun t ht hW => ⟨⟨_, r, rfl, ⟨hRr, hEr, trivial⟩, by rw [ht]; exact hP, va_K.moved hW.alike hK, hD⟩, hS.F ht⟩) hS.2.2 dX12_part_33
  · skip
    refine lv_if_eq (tgt := 32) hx hb dX12_part_5 (by decide) (fun c_14 => ?_) (fun c_14 => absurd (by decide) c_14)
    refine lv_iconst (v := 0) hx hb dX12_part_32 (by decide) ?_
    subst hQ
    exact W.zret hx hb hr rfl (fun t ht hW => ⟨⟨_, r, rfl, ⟨hRr, hEr, trivial⟩, by rw [ht]; exact hP, va_K.moved hW.alike hK, hD⟩, hS.F ht⟩) hS.2.2 dX12_part_33
set_option maxHeartbeats 4000000 in
set_option maxRecDepth 100000 in
theorem c_X12_owes (l : Launch) (D : va_G) (cy : Nat → ClassId) (a : Nat → Nat) (i : Nat → Int32) (r : Nat → Nat → Int32) (rl : Nat → Int64) (p0 p1 p2 : Int32) (sz : Nat) (hRi : mRi i) (hRr : mRr r) : Met l yX12_owes (Cond.code yX12_owes cX12_owes 4 (some .boolean) :: gT) { frames := 2, cells := 0, slots := 0, locals := 46 } (va_Pc [.ref (a 0), .int p0, .int p1, .int p2] (rQ D cy (mW cy a i r rl) sz)) (va_Qi (fun (z : Int32) (u : Nat → Nat → Int32) => mRr u ∧ mEr [9] r u ∧ True) (fun (u : Nat → Nat → Int32) t => va_P D vwCl (mW cy a i u rl) t.heap ∧ va_K D vwCl (vT cy) t ∧ va_D (va_A (mW cy a i r rl) sz) (mW cy a i u rl)) (va_A (mW cy a i r rl) sz)) 0 0 (va_A (mW cy a i r rl) sz) := by
  refine Met.ofQ (cc := cX12_owes) (maxL := 4) (ret := (some .boolean)) (by decide) rfl ?_
  intro p e s m args below meth c s₁ B hml hv Q hQ
  obtain ⟨rfl, hsz, hP, hK, hD0⟩ := hv
  have hx := B.exec
  have hb := B.bytes
  have hr := B.returns
  have hlocks := B.notSynchronized
  have hT : ∀ w ∈ gT, w.before _ s = true := fun w h => atoms_spec (ws := (Cond.code yX12_owes cX12_owes 4 (some .boolean) :: gT)) B.pre w (List.mem_cons_of_mem _ h)
  have hown : s.vm.findClass RX12 = some m.cls := findClass_of_methodNamed B.named
  subst hsz
  have hD := hD0.self (sz := s.heap.size)
  generalize hAe : va_A (mW cy a i r rl) s.heap.size = A at hD hQ
  have hA : ∀ q : Nat, s.heap.size ≤ q → A q := fun q h => by rw [← hAe]; exact Or.inr h
  have hS : va_S A s.heap s.heap [] := va_S.rf
  have hl := lv_entry ([.ref (a 0), .int p0, .int p1, .int p2]) (n := 4) (Nat.le_of_ble_eq_true rfl)
  rw [lg_entry_eq]
  generalize (lg_sl ([.ref (a 0), .int p0, .int p1, .int p2]) ++ List.replicate (4 - (lg_sl ([.ref (a 0), .int p0, .int p1, .int p2])).length) Slot.unset).toArray = ls at hl ⊢
  have hl : lv_has ls 4 [(0, .ref (a 0)), (1, .int p0), (2, .int p1), (3, .int p2)] := hl
  have hEi : mEi [] i i := Ei_rf
  have hEr : mEr [9] r r := Er_rf
  refine lv_aload_n hx hb dX12_owes_0 rfl (lv_at hl 0 rfl) ?_
  refine lv_iload_n hx hb dX12_owes_1 rfl (lv_at hl 1 rfl) ?_
  refine vp_callSi (W.runV (As := [.int p0]) (rest := []) ⟨hx, hb, hml, hown, hT⟩ (c_X12_isHome l D cy a i r rl p0 hRi hRr) (cwV 1 hT (gV t_12 t_13 t_14 t_15 t_6) rfl rfl rfl (by decide +kernel) ⟨Nat.le_of_ble_eq_true rfl, Nat.le_of_ble_eq_true rfl⟩) (rP_v hP hK (va_recv hK hP (ci := 12) (q0 := 0) rfl rfl)) rfl rfl hl.1 rfl (lv_room (Nat.le_of_ble_eq_true rfl)) dX12_owes_2 ⟨Nat.le_of_ble_eq_true rfl, Nat.le_of_ble_eq_true rfl⟩) (fun r_1 hr_1 => ?_)
  have hg_2 : 0 ≤ (i 0).toInt ∧ (i 0).toInt ≤ 6 := hRi 0
  have hr_1 : BR r_1 (0 ≤ p0.toInt ∧ p0.toInt < (i 0).toInt) 1 0 := hr_1
  rcases hr_1 with ⟨rfl, h_3⟩ | ⟨rfl, h_3⟩
  · skip
    refine lv_if_eq (tgt := 24) hx hb dX12_owes_5 (by decide) (fun c_4 => absurd c_4 (by decide)) (fun c_4 => ?_)
    refine lv_iload_n hx hb dX12_owes_8 rfl (lv_at hl 2 rfl) ?_
    refine lv_iconst (v := 0) hx hb dX12_owes_9 (by decide) ?_
    refine lv_iconst (v := 2) hx hb dX12_owes_10 (by decide) ?_
    refine vp_callSi (W.runS (As := [.int p1, .int 0, .int 2]) (rest := []) ⟨hx, hb, hml, hown, hT⟩ (c_X12_in l p1 0 2) (va_cwS 3 hT (gS t_113 t_114 t_115 t_6) rfl rfl rfl (by decide +kernel) ⟨Nat.le_of_ble_eq_true rfl, Nat.le_of_ble_eq_true rfl⟩) preT rfl rfl hl.1 rfl (lv_room (Nat.le_of_ble_eq_true rfl)) dX12_owes_11 ⟨Nat.le_of_ble_eq_true rfl, Nat.le_of_ble_eq_true rfl⟩) (fun r_5 hr_5 => ?_)
    have hr_5 : BR r_5 (0 ≤ p1.toInt ∧ p1.toInt ≤ 2) 1 0 := hr_5
    rcases hr_5 with ⟨rfl, h_6⟩ | ⟨rfl, h_6⟩
    · skip
      refine lv_if_eq (tgt := 24) hx hb dX12_owes_14 (by decide) (fun c_7 => absurd c_7 (by decide)) (fun c_7 => ?_)
      refine lv_iload_n hx hb dX12_owes_17 rfl (lv_at hl 3 rfl) ?_
      refine vp_callSi (W.runS (As := [.int p2]) (rest := []) ⟨hx, hb, hml, hown, hT⟩ (c_X12_isPence l p2) (va_cwS 1 hT (gS t_177 t_178 t_179 t_6) rfl rfl rfl (by decide +kernel) ⟨Nat.le_of_ble_eq_true rfl, Nat.le_of_ble_eq_true rfl⟩) preT rfl rfl hl.1 rfl (lv_room (Nat.le_of_ble_eq_true rfl)) dX12_owes_18 ⟨Nat.le_of_ble_eq_true rfl, Nat.le_of_ble_eq_true rfl⟩) (fun r_8 hr_8 => ?_)
      have hr_8 : BR r_8 (0 ≤ p2.toInt ∧ p2.toInt ≤ 999999) 1 0 := hr_8
      rcases hr_8 with ⟨rfl, h_9⟩ | ⟨rfl, h_9⟩
      · skip
        refine lv_if_ne (tgt := 26) hx hb dX12_owes_21 (by decide) (fun c_10 => ?_) (fun c_10 => absurd c_10 (by decide))
        refine lv_aload_n hx hb dX12_owes_26 rfl (lv_at hl 0 rfl) ?_
        refine va_get (D := D) (ci := 12) (v := .ref (a 9)) (C := RX12) (T := TX12) (N := 91) hx hb hT iX12 hown hK hP 0 rfl rfl 10 (by decide) (hT _ t_169) (fun _ h9 => h9) rfl dX12_owes_27 ?_
        refine lv_iconst (v := 3) hx hb dX12_owes_30 (by decide) ?_
        refine lv_iload_n hx hb dX12_owes_31 rfl (lv_at hl 1 rfl) ?_
        refine lv_imul hx hb dX12_owes_32 ?_
        refine lv_topi (fun v_11 ev_11 => ?_)
        have hv_11 : v_11.toInt = 3 * p0.toInt := by rw [ev_11]; have := b_rg p0; exact i_mul (a := 3) (b := p0.toInt) rfl rfl (by omega) (by omega)
        refine lv_iload_n hx hb dX12_owes_33 rfl (lv_at hl 2 rfl) ?_
        refine lv_iadd hx hb dX12_owes_34 ?_
        refine lv_topi (fun v_12 ev_12 => ?_)
        have hv_12 : v_12.toInt = v_11.toInt + p1.toInt := by rw [ev_12]; have := b_rg v_11; have := b_rg p1; exact i_add (a := v_11.toInt) (b := p1.toInt) rfl rfl (by omega) (by omega)
        refine lv_iload_n hx hb dX12_owes_35 rfl (lv_at hl 3 rfl) ?_
        refine va_iast hx hb hK hP hD hS 9 0 rfl rfl (vp_inI (by omega) (by omega)) dX12_owes_36 (fun H locs hP hD hS => ?_)
        rw [mS9] at hP hD
        have hRr : mRr (va_up r 9 (upd (r 9) v_12.toNatClampNeg p2)) := Rr_upd hRr 9 (v_12.toNatClampNeg) p2 ⟨by show (0 : Int) ≤ p2.toInt; omega, by show p2.toInt ≤ (999999 : Int); omega⟩
        have hEr : mEr [9] _ (va_up r 9 (upd (r 9) v_12.toNatClampNeg p2)) := Er_up hEr 9 _ (by decide)
        refine lv_iconst (v := 1) hx hb dX12_owes_37 (by decide) ?_
        subst hQ
        exact W.zret hx hb hr rfl (fun t ht hW => ⟨⟨_, (va_up r 9 (upd (r 9) v_12.toNatClampNeg p2)), rfl, ⟨hRr, hEr, trivial⟩, by rw [ht]; exact hP, va_K.moved hW.alike hK, hD⟩, hS.F ht⟩) hS.2.2 dX12_owes_38
      · skip
        refine lv_if_ne (tgt := 26) hx hb dX12_owes_21 (by decide) (fun c_13 => absurd (by decide) c_13) (fun c_13 => ?_)
        refine lv_iconst (v := 0) hx hb dX12_owes_24 (by decide) ?_
        subst hQ
        exact W.zret hx hb hr rfl (fun t ht hW => ⟨⟨_, r, rfl, ⟨hRr, hEr, trivial⟩, by rw [ht]; exact hP, va_K.moved hW.alike hK, hD⟩, hS.F ht⟩) hS.2.2 dX12_owes_25
    · skip
      refine lv_if_eq (tgt := 24) hx hb dX12_owes_14 (by decide) (fun c_14 => ?_) (fun c_14 => absurd (by decide) c_14)
      refine lv_iconst (v := 0) hx hb dX12_owes_24 (by decide) ?_
      subst hQ
      exact W.zret hx hb hr rfl (fun t ht hW => ⟨⟨_, r, rfl, ⟨hRr, hEr, trivial⟩, by rw [ht]; exact hP, va_K.moved hW.alike hK, hD⟩, hS.F ht⟩) hS.2.2 dX12_owes_25
  · skip
    refine lv_if_eq (tgt := 24) hx hb dX12_owes_5 (by decide) (fun c_15 => ?_) (fun c_15 => absurd (by decide) c_15)
    refine lv_iconst (v := 0) hx hb dX12_owes_24 (by decide) ?_
    subst hQ
    exact W.zret hx hb hr rfl (fun t ht hW => ⟨⟨_, r, rfl, ⟨hRr, hEr, trivial⟩, by rw [ht]; exact hP, va_K.moved hW.alike hK, hD⟩, hS.F ht⟩) hS.2.2 dX12_owes_25
set_option maxHeartbeats 4000000 in
set_option maxRecDepth 100000 in
theorem c_X12_last (l : Launch) (D : va_G) (cy : Nat → ClassId) (a : Nat → Nat) (i : Nat → Int32) (r : Nat → Nat → Int32) (rl : Nat → Int64) (p0 p1 p2 p3 : Int32) (sz : Nat) (hRi : mRi i) (hRr : mRr r) : Met l yX12_last (Cond.code yX12_last cX12_last 6 (some .int) :: gT) { frames := 3, cells := 0, slots := 0, locals := 66 } (va_Pc [.ref (a 0), .int p0, .int p1, .int p2, .int p3] (rQ D cy (mW cy a i r rl) sz)) (va_Qi (fun (z : Int32) (u : Nat → Nat → Int32) => mRr u ∧ mEr [11, 16, 17, 18] r u ∧ True) (fun (u : Nat → Nat → Int32) t => va_P D vwCl (mW cy a i u rl) t.heap ∧ va_K D vwCl (vT cy) t ∧ va_D (va_A (mW cy a i r rl) sz) (mW cy a i u rl)) (va_A (mW cy a i r rl) sz)) 0 0 (va_A (mW cy a i r rl) sz) := by
  refine Met.ofQ (cc := cX12_last) (maxL := 6) (ret := (some .int)) (by decide) rfl ?_
  intro p e s m args below meth c s₁ B hml hv Q hQ
  obtain ⟨rfl, hsz, hP, hK, hD0⟩ := hv
  have hx := B.exec
  have hb := B.bytes
  have hr := B.returns
  have hlocks := B.notSynchronized
  have hT : ∀ w ∈ gT, w.before _ s = true := fun w h => atoms_spec (ws := (Cond.code yX12_last cX12_last 6 (some .int) :: gT)) B.pre w (List.mem_cons_of_mem _ h)
  have hown : s.vm.findClass RX12 = some m.cls := findClass_of_methodNamed B.named
  subst hsz
  have hD := hD0.self (sz := s.heap.size)
  generalize hAe : va_A (mW cy a i r rl) s.heap.size = A at hD hQ
  have hA : ∀ q : Nat, s.heap.size ≤ q → A q := fun q h => by rw [← hAe]; exact Or.inr h
  have hS : va_S A s.heap s.heap [] := va_S.rf
  have hl := lv_entry ([.ref (a 0), .int p0, .int p1, .int p2, .int p3]) (n := 6) (Nat.le_of_ble_eq_true rfl)
  rw [lg_entry_eq]
  generalize (lg_sl ([.ref (a 0), .int p0, .int p1, .int p2, .int p3]) ++ List.replicate (6 - (lg_sl ([.ref (a 0), .int p0, .int p1, .int p2, .int p3])).length) Slot.unset).toArray = ls at hl ⊢
  have hl : lv_has ls 6 [(0, .ref (a 0)), (1, .int p0), (2, .int p1), (3, .int p2), (4, .int p3)] := hl
  have hEi : mEi [] i i := Ei_rf
  have hEr : mEr [11, 16, 17, 18] r r := Er_rf
  refine lv_aload_n hx hb dX12_last_0 rfl (lv_at hl 0 rfl) ?_
  refine lv_iload_n hx hb dX12_last_1 rfl (lv_at hl 1 rfl) ?_
  refine vp_callSi (W.runV (As := [.int p0]) (rest := []) ⟨hx, hb, hml, hown, hT⟩ (c_X12_isHome l D cy a i r rl p0 hRi hRr) (cwV 1 hT (gV t_12 t_13 t_14 t_15 t_6) rfl rfl rfl (by decide +kernel) ⟨Nat.le_of_ble_eq_true rfl, Nat.le_of_ble_eq_true rfl⟩) (rP_v hP hK (va_recv hK hP (ci := 12) (q0 := 0) rfl rfl)) rfl rfl hl.1 rfl (lv_room (Nat.le_of_ble_eq_true rfl)) dX12_last_2 ⟨Nat.le_of_ble_eq_true rfl, Nat.le_of_ble_eq_true rfl⟩) (fun r_1 hr_1 => ?_)
  have hg_2 : 0 ≤ (i 0).toInt ∧ (i 0).toInt ≤ 6 := hRi 0
  have hr_1 : BR r_1 (0 ≤ p0.toInt ∧ p0.toInt < (i 0).toInt) 1 0 := hr_1
  rcases hr_1 with ⟨rfl, h_3⟩ | ⟨rfl, h_3⟩
  · skip
    refine lv_if_eq (tgt := 29) hx hb dX12_last_5 (by decide) (fun c_4 => absurd c_4 (by decide)) (fun c_4 => ?_)
    refine lv_iload_n hx hb dX12_last_8 rfl (lv_at hl 2 rfl) ?_
    refine lv_iload_n hx hb dX12_last_9 rfl (lv_at hl 3 rfl) ?_
    refine lv_iload hx hb dX12_last_10 (lv_at hl 4 rfl) ?_
    refine vp_callSi (W.runS (As := [.int p1, .int p2, .int p3]) (rest := []) ⟨hx, hb, hml, hown, hT⟩ (c_X12_isThing l p1 p2 p3) (va_cwS 3 hT (gS t_182 t_183 t_184 t_6) rfl rfl rfl (by decide +kernel) ⟨Nat.le_of_ble_eq_true rfl, Nat.le_of_ble_eq_true rfl⟩) preT rfl rfl hl.1 rfl (lv_room (Nat.le_of_ble_eq_true rfl)) dX12_last_12 ⟨Nat.le_of_ble_eq_true rfl, Nat.le_of_ble_eq_true rfl⟩) (fun r_5 hr_5 => ?_)
    have hr_5 : BR r_5 ((0 ≤ p1.toInt ∧ p1.toInt ≤ 9) ∧ (0 ≤ p2.toInt ∧ p2.toInt ≤ 7) ∧ (1 ≤ p3.toInt ∧ p3.toInt ≤ 9)) 1 0 := hr_5
    rcases hr_5 with ⟨rfl, h_6⟩ | ⟨rfl, h_6⟩
    · skip
      refine lv_if_eq (tgt := 29) hx hb dX12_last_15 (by decide) (fun c_7 => absurd c_7 (by decide)) (fun c_7 => ?_)
      refine lv_aload_n hx hb dX12_last_18 rfl (lv_at hl 0 rfl) ?_
      refine va_get (D := D) (ci := 12) (v := .ref (a 11)) (C := RX12) (T := TX12) (N := 91) hx hb hT iX12 hown hK hP 0 rfl rfl 12 (by decide) (hT _ t_43) (fun _ h9 => h9) rfl dX12_last_19 ?_
      refine lv_iload_n hx hb dX12_last_22 rfl (lv_at hl 1 rfl) ?_
      refine va_iald hx hb hK hP 11 0 rfl rfl (vp_inI (by omega) (by omega)) dX12_last_23 ?_
      refine lv_topi (fun v_8 ev_8 => ?_)
      have hgv_8 : 0 ≤ v_8.toInt ∧ v_8.toInt ≤ 20 := by rw [ev_8]; exact hRr 11 _
      have hwv_8 : v_8.toInt = (r 11 (p0.toNatClampNeg)).toInt := congrArg Int32.toInt ev_8
      refine lv_bipush (v := 20) hx hb dX12_last_24 (by decide) ?_
      refine lv_icmp_ne (tgt := 31) hx hb dX12_last_26 (by decide) (fun c_9 => ?_) (fun c_9 => ?_)
      · have c_9 : v_8.toInt ≠ 20 := b_ne c_9
        refine lv_bipush (v := 20) hx hb dX12_last_31 (by decide) ?_
        refine lv_iload_n hx hb dX12_last_33 rfl (lv_at hl 1 rfl) ?_
        refine lv_imul hx hb dX12_last_34 ?_
        refine lv_topi (fun v_10 ev_10 => ?_)
        have hv_10 : v_10.toInt = 20 * p0.toInt := by rw [ev_10]; have := b_rg p0; exact i_mul (a := 20) (b := p0.toInt) rfl rfl (by omega) (by omega)
        refine lv_aload_n hx hb dX12_last_35 rfl (lv_at hl 0 rfl) ?_
        refine va_get (D := D) (ci := 12) (v := .ref (a 11)) (C := RX12) (T := TX12) (N := 91) hx hb hT iX12 hown hK hP 0 rfl rfl 12 (by decide) (hT _ t_43) (fun _ h9 => h9) rfl dX12_last_36 ?_
        refine lv_iload_n hx hb dX12_last_39 rfl (lv_at hl 1 rfl) ?_
        refine va_iald hx hb hK hP 11 0 rfl rfl (vp_inI (by omega) (by omega)) dX12_last_40 ?_
        refine lv_topi (fun v_11 ev_11 => ?_)
        have hgv_11 : 0 ≤ v_11.toInt ∧ v_11.toInt ≤ 20 := by rw [ev_11]; exact hRr 11 _
        have hwv_11 : v_11.toInt = (r 11 (p0.toNatClampNeg)).toInt := congrArg Int32.toInt ev_11
        refine lv_iadd hx hb dX12_last_41 ?_
        refine lv_topi (fun v_12 ev_12 => ?_)
        have hv_12 : v_12.toInt = v_10.toInt + v_11.toInt := by rw [ev_12]; have := b_rg v_10; have := b_rg v_11; exact i_add (a := v_10.toInt) (b := v_11.toInt) rfl rfl (by omega) (by omega)
        refine lv_istore (lv' := [(5, .int v_12), (0, .ref (a 0)), (1, .int p0), (2, .int p1), (3, .int p2), (4, .int p3)]) hx hb dX12_last_42 hl (by decide) rfl (fun ls hl => ?_)
        refine lv_aload_n hx hb dX12_last_44 rfl (lv_at hl 1 rfl) ?_
        refine va_get (D := D) (ci := 12) (v := .ref (a 16)) (C := RX12) (T := TX12) (N := 91) hx hb hT iX12 hown hK hP 0 rfl rfl 17 (by decide) (hT _ t_28) (fun _ h9 => h9) rfl dX12_last_45 ?_
        refine lv_iload hx hb dX12_last_48 (lv_at hl 0 rfl) ?_
        refine lv_iload_n hx hb dX12_last_50 rfl (lv_at hl 3 rfl) ?_
        refine va_iast hx hb hK hP hD hS 16 0 rfl rfl (vp_inI (by omega) (by omega)) dX12_last_51 (fun H locs hP hD hS => ?_)
        rw [mS16] at hP hD
        have hRr : mRr (va_up r 16 (upd (r 16) v_12.toNatClampNeg p1)) := Rr_upd hRr 16 (v_12.toNatClampNeg) p1 ⟨by show (0 : Int) ≤ p1.toInt; omega, by show p1.toInt ≤ (9 : Int); omega⟩
        have hEr : mEr [11, 16, 17, 18] _ (va_up r 16 (upd (r 16) v_12.toNatClampNeg p1)) := Er_up hEr 16 _ (by decide)
        refine lv_aload_n hx hb dX12_last_52 rfl (lv_at hl 1 rfl) ?_
        refine va_get (D := D) (ci := 12) (v := .ref (a 17)) (C := RX12) (T := TX12) (N := 91) hx hb hT iX12 hown hK hP 0 rfl rfl 18 (by decide) (hT _ t_29) (fun _ h9 => h9) rfl dX12_last_53 ?_
        refine lv_iload hx hb dX12_last_56 (lv_at hl 0 rfl) ?_
        refine lv_iload_n hx hb dX12_last_58 rfl (lv_at hl 4 rfl) ?_
        refine va_iast hx hb hK hP hD hS 17 0 rfl rfl (vp_inI (by omega) (by omega)) dX12_last_59 (fun H locs hP hD hS => ?_)
        rw [mS17] at hP hD
        have hRr : mRr (va_up (va_up r 16 (upd (r 16) v_12.toNatClampNeg p1)) 17 (upd (r 17) v_12.toNatClampNeg p2)) := Rr_upd hRr 17 (v_12.toNatClampNeg) p2 ⟨by show (0 : Int) ≤ p2.toInt; omega, by show p2.toInt ≤ (7 : Int); omega⟩
        have hEr : mEr [11, 16, 17, 18] _ (va_up (va_up r 16 (upd (r 16) v_12.toNatClampNeg p1)) 17 (upd (r 17) v_12.toNatClampNeg p2)) := Er_up hEr 17 _ (by decide)
        refine lv_aload_n hx hb dX12_last_60 rfl (lv_at hl 1 rfl) ?_
        refine va_get (D := D) (ci := 12) (v := .ref (a 18)) (C := RX12) (T := TX12) (N := 91) hx hb hT iX12 hown hK hP 0 rfl rfl 19 (by decide) (hT _ t_33) (fun _ h9 => h9) rfl dX12_last_61 ?_
        refine lv_iload hx hb dX12_last_64 (lv_at hl 0 rfl) ?_
        refine lv_iload hx hb dX12_last_66 (lv_at hl 5 rfl) ?_
        refine va_iast hx hb hK hP hD hS 18 0 rfl rfl (vp_inI (by omega) (by omega)) dX12_last_68 (fun H locs hP hD hS => ?_)
        rw [mS18] at hP hD
        have hRr : mRr (va_up (va_up (va_up r 16 (upd (r 16) v_12.toNatClampNeg p1)) 17 (upd (r 17) v_12.toNatClampNeg p2)) 18 (upd (r 18) v_12.toNatClampNeg p3)) := Rr_upd hRr 18 (v_12.toNatClampNeg) p3 ⟨by show (0 : Int) ≤ p3.toInt; omega, by show p3.toInt ≤ (9 : Int); omega⟩
        have hEr : mEr [11, 16, 17, 18] _ (va_up (va_up (va_up r 16 (upd (r 16) v_12.toNatClampNeg p1)) 17 (upd (r 17) v_12.toNatClampNeg p2)) 18 (upd (r 18) v_12.toNatClampNeg p3)) := Er_up hEr 18 _ (by decide)
        refine lv_aload_n hx hb dX12_last_69 rfl (lv_at hl 1 rfl) ?_
        refine va_get (D := D) (ci := 12) (v := .ref (a 11)) (C := RX12) (T := TX12) (N := 91) hx hb hT iX12 hown hK hP 0 rfl rfl 12 (by decide) (hT _ t_43) (fun _ h9 => h9) rfl dX12_last_70 ?_
        refine lv_iload_n hx hb dX12_last_73 rfl (lv_at hl 2 rfl) ?_
        refine lv_aload_n hx hb dX12_last_74 rfl (lv_at hl 1 rfl) ?_
        refine va_get (D := D) (ci := 12) (v := .ref (a 11)) (C := RX12) (T := TX12) (N := 91) hx hb hT iX12 hown hK hP 0 rfl rfl 12 (by decide) (hT _ t_43) (fun _ h9 => h9) rfl dX12_last_75 ?_
        refine lv_iload_n hx hb dX12_last_78 rfl (lv_at hl 2 rfl) ?_
        refine va_iald hx hb hK hP 11 0 rfl rfl (vp_inI (by omega) (by omega)) dX12_last_79 ?_
        refine lv_topi (fun v_13 ev_13 => ?_)
        have hgv_13 : 0 ≤ v_13.toInt ∧ v_13.toInt ≤ 20 := by rw [ev_13]; exact hRr 11 _
        have hwv_13 : v_13.toInt = (r 11 (p0.toNatClampNeg)).toInt := congrArg Int32.toInt ev_13
        refine lv_iconst (v := 1) hx hb dX12_last_80 (by decide) ?_
        refine lv_iadd hx hb dX12_last_81 ?_
        refine lv_topi (fun v_14 ev_14 => ?_)
        have hv_14 : v_14.toInt = v_13.toInt + 1 := by rw [ev_14]; have := b_rg v_13; exact i_add (a := v_13.toInt) (b := 1) rfl rfl (by omega) (by omega)
        refine va_iast hx hb hK hP hD hS 11 0 rfl rfl (vp_inI (by omega) (by omega)) dX12_last_82 (fun H locs hP hD hS => ?_)
        rw [mS11] at hP hD
        have hRr : mRr (va_up (va_up (va_up (va_up r 16 (upd (r 16) v_12.toNatClampNeg p1)) 17 (upd (r 17) v_12.toNatClampNeg p2)) 18 (upd (r 18) v_12.toNatClampNeg p3)) 11 (upd (r 11) p0.toNatClampNeg v_14)) := Rr_upd hRr 11 (p0.toNatClampNeg) v_14 ⟨by show (0 : Int) ≤ v_14.toInt; omega, by show v_14.toInt ≤ (20 : Int); omega⟩
        have hEr : mEr [11, 16, 17, 18] _ (va_up (va_up (va_up (va_up r 16 (upd (r 16) v_12.toNatClampNeg p1)) 17 (upd (r 17) v_12.toNatClampNeg p2)) 18 (upd (r 18) v_12.toNatClampNeg p3)) 11 (upd (r 11) p0.toNatClampNeg v_14)) := Er_up hEr 11 _ (by decide)
        refine lv_aload_n hx hb dX12_last_83 rfl (lv_at hl 1 rfl) ?_
        refine va_get (D := D) (ci := 12) (v := .ref (a 11)) (C := RX12) (T := TX12) (N := 91) hx hb hT iX12 hown hK hP 0 rfl rfl 12 (by decide) (hT _ t_43) (fun _ h9 => h9) rfl dX12_last_84 ?_
        refine lv_iload_n hx hb dX12_last_87 rfl (lv_at hl 2 rfl) ?_
        refine va_iald hx hb hK hP 11 0 rfl rfl (vp_inI (by omega) (by omega)) dX12_last_88 ?_
        refine lv_topi (fun v_15 ev_15 => ?_)
        have hgv_15 : 0 ≤ v_15.toInt ∧ v_15.toInt ≤ 20 := by rw [ev_15]; exact hRr 11 _
        have hwv_15 : v_15.toInt = (upd (r 11) p0.toNatClampNeg v_14 (p0.toNatClampNeg)).toInt := congrArg Int32.toInt ev_15
        refine lv_iconst (v := 1) hx hb dX12_last_89 (by decide) ?_
        refine lv_isub hx hb dX12_last_90 ?_
        refine lv_topi (fun v_16 ev_16 => ?_)
        have hv_16 : v_16.toInt = v_15.toInt - 1 := by rw [ev_16]; have := b_rg v_15; exact i_sub (a := v_15.toInt) (b := 1) rfl rfl (by omega) (by omega)
        subst hQ
        exact W.iret (v := v_16) hx hb hr (fun t ht hW => ⟨⟨_, (va_up (va_up (va_up (va_up r 16 (upd (r 16) v_12.toNatClampNeg p1)) 17 (upd (r 17) v_12.toNatClampNeg p2)) 18 (upd (r 18) v_12.toNatClampNeg p3)) 11 (upd (r 11) p0.toNatClampNeg v_14)), rfl, ⟨hRr, hEr, trivial⟩, by rw [ht]; exact hP, va_K.moved hW.alike hK, hD⟩, hS.F ht⟩) hS.2.2 dX12_last_91
      · have c_9 : v_8.toInt = 20 := b_nne c_9
        refine lv_iconst (v := (-1)) hx hb dX12_last_29 (by decide) ?_
        subst hQ
        exact W.iret (v := (-1)) hx hb hr (fun t ht hW => ⟨⟨_, r, rfl, ⟨hRr, hEr, trivial⟩, by rw [ht]; exact hP, va_K.moved hW.alike hK, hD⟩, hS.F ht⟩) hS.2.2 dX12_last_30
    · skip
      refine lv_if_eq (tgt := 29) hx hb dX12_last_15 (by decide) (fun c_17 => ?_) (fun c_17 => absurd (by decide) c_17)
      refine lv_iconst (v := (-1)) hx hb dX12_last_29 (by decide) ?_
      subst hQ
      exact W.iret (v := (-1)) hx hb hr (fun t ht hW => ⟨⟨_, r, rfl, ⟨hRr, hEr, trivial⟩, by rw [ht]; exact hP, va_K.moved hW.alike hK, hD⟩, hS.F ht⟩) hS.2.2 dX12_last_30
  · skip
    refine lv_if_eq (tgt := 29) hx hb dX12_last_5 (by decide) (fun c_18 => ?_) (fun c_18 => absurd (by decide) c_18)
    refine lv_iconst (v := (-1)) hx hb dX12_last_29 (by decide) ?_
    subst hQ
    exact W.iret (v := (-1)) hx hb hr (fun t ht hW => ⟨⟨_, r, rfl, ⟨hRr, hEr, trivial⟩, by rw [ht]; exact hP, va_K.moved hW.alike hK, hD⟩, hS.F ht⟩) hS.2.2 dX12_last_30
set_option maxHeartbeats 4000000 in
set_option maxRecDepth 100000 in
theorem c_X12_agree (l : Launch) (D : va_G) (cy : Nat → ClassId) (a : Nat → Nat) (i : Nat → Int32) (r : Nat → Nat → Int32) (rl : Nat → Int64) (p0 p1 : Int32) (sz : Nat) (hRi : mRi i) (hRr : mRr r) : Met l yX12_agree (Cond.code yX12_agree cX12_agree 3 (some .boolean) :: gT) { frames := 2, cells := 0, slots := 0, locals := 45 } (va_Pc [.ref (a 0), .int p0, .int p1] (rQ D cy (mW cy a i r rl) sz)) (va_Qi (fun (z : Int32) (u : Nat → Nat → Int32) => mRr u ∧ mEr [45] r u ∧ True) (fun (u : Nat → Nat → Int32) t => va_P D vwCl (mW cy a i u rl) t.heap ∧ va_K D vwCl (vT cy) t ∧ va_D (va_A (mW cy a i r rl) sz) (mW cy a i u rl)) (va_A (mW cy a i r rl) sz)) 0 0 (va_A (mW cy a i r rl) sz) := by
  refine Met.ofQ (cc := cX12_agree) (maxL := 3) (ret := (some .boolean)) (by decide) rfl ?_
  intro p e s m args below meth c s₁ B hml hv Q hQ
  obtain ⟨rfl, hsz, hP, hK, hD0⟩ := hv
  have hx := B.exec
  have hb := B.bytes
  have hr := B.returns
  have hlocks := B.notSynchronized
  have hT : ∀ w ∈ gT, w.before _ s = true := fun w h => atoms_spec (ws := (Cond.code yX12_agree cX12_agree 3 (some .boolean) :: gT)) B.pre w (List.mem_cons_of_mem _ h)
  have hown : s.vm.findClass RX12 = some m.cls := findClass_of_methodNamed B.named
  subst hsz
  have hD := hD0.self (sz := s.heap.size)
  generalize hAe : va_A (mW cy a i r rl) s.heap.size = A at hD hQ
  have hA : ∀ q : Nat, s.heap.size ≤ q → A q := fun q h => by rw [← hAe]; exact Or.inr h
  have hS : va_S A s.heap s.heap [] := va_S.rf
  have hl := lv_entry ([.ref (a 0), .int p0, .int p1]) (n := 3) (Nat.le_of_ble_eq_true rfl)
  rw [lg_entry_eq]
  generalize (lg_sl ([.ref (a 0), .int p0, .int p1]) ++ List.replicate (3 - (lg_sl ([.ref (a 0), .int p0, .int p1])).length) Slot.unset).toArray = ls at hl ⊢
  have hl : lv_has ls 3 [(0, .ref (a 0)), (1, .int p0), (2, .int p1)] := hl
  have hEi : mEi [] i i := Ei_rf
  have hEr : mEr [45] r r := Er_rf
  refine lv_aload_n hx hb dX12_agree_0 rfl (lv_at hl 0 rfl) ?_
  refine lv_iload_n hx hb dX12_agree_1 rfl (lv_at hl 1 rfl) ?_
  refine vp_callSi (W.runV (As := [.int p0]) (rest := []) ⟨hx, hb, hml, hown, hT⟩ (c_X12_isClaim l D cy a i r rl p0 hRi hRr) (cwV 1 hT (gV t_153 t_154 t_155 t_156 t_6) rfl rfl rfl (by decide +kernel) ⟨Nat.le_of_ble_eq_true rfl, Nat.le_of_ble_eq_true rfl⟩) (rP_v hP hK (va_recv hK hP (ci := 12) (q0 := 0) rfl rfl)) rfl rfl hl.1 rfl (lv_room (Nat.le_of_ble_eq_true rfl)) dX12_agree_2 ⟨Nat.le_of_ble_eq_true rfl, Nat.le_of_ble_eq_true rfl⟩) (fun r_1 hr_1 => ?_)
  have hg_2 : 0 ≤ (i 51).toInt ∧ (i 51).toInt ≤ 30 := hRi 51
  have hr_1 : BR r_1 (0 ≤ p0.toInt ∧ p0.toInt < (i 51).toInt) 1 0 := hr_1
  rcases hr_1 with ⟨rfl, h_3⟩ | ⟨rfl, h_3⟩
  · skip
    refine lv_if_eq (tgt := 15) hx hb dX12_agree_5 (by decide) (fun c_4 => absurd c_4 (by decide)) (fun c_4 => ?_)
    refine lv_iload_n hx hb dX12_agree_8 rfl (lv_at hl 2 rfl) ?_
    refine vp_callSi (W.runS (As := [.int p1]) (rest := []) ⟨hx, hb, hml, hown, hT⟩ (c_X12_isPence l p1) (va_cwS 1 hT (gS t_177 t_178 t_179 t_6) rfl rfl rfl (by decide +kernel) ⟨Nat.le_of_ble_eq_true rfl, Nat.le_of_ble_eq_true rfl⟩) preT rfl rfl hl.1 rfl (lv_room (Nat.le_of_ble_eq_true rfl)) dX12_agree_9 ⟨Nat.le_of_ble_eq_true rfl, Nat.le_of_ble_eq_true rfl⟩) (fun r_5 hr_5 => ?_)
    have hr_5 : BR r_5 (0 ≤ p1.toInt ∧ p1.toInt ≤ 999999) 1 0 := hr_5
    rcases hr_5 with ⟨rfl, h_6⟩ | ⟨rfl, h_6⟩
    · skip
      refine lv_if_ne (tgt := 17) hx hb dX12_agree_12 (by decide) (fun c_7 => ?_) (fun c_7 => absurd c_7 (by decide))
      refine lv_aload_n hx hb dX12_agree_17 rfl (lv_at hl 0 rfl) ?_
      refine va_get (D := D) (ci := 12) (v := .ref (a 45)) (C := RX12) (T := TX12) (N := 91) hx hb hT iX12 hown hK hP 0 rfl rfl 57 (by decide) (hT _ t_133) (fun _ h9 => h9) rfl dX12_agree_18 ?_
      refine lv_iload_n hx hb dX12_agree_21 rfl (lv_at hl 1 rfl) ?_
      refine lv_iload_n hx hb dX12_agree_22 rfl (lv_at hl 2 rfl) ?_
      refine va_iast hx hb hK hP hD hS 45 0 rfl rfl (vp_inI (by omega) (by omega)) dX12_agree_23 (fun H locs hP hD hS => ?_)
      rw [mS45] at hP hD
      have hRr : mRr (va_up r 45 (upd (r 45) p0.toNatClampNeg p1)) := Rr_upd hRr 45 (p0.toNatClampNeg) p1 ⟨by show (0 : Int) ≤ p1.toInt; omega, by show p1.toInt ≤ (999999 : Int); omega⟩
      have hEr : mEr [45] _ (va_up r 45 (upd (r 45) p0.toNatClampNeg p1)) := Er_up hEr 45 _ (by decide)
      refine lv_iconst (v := 1) hx hb dX12_agree_24 (by decide) ?_
      subst hQ
      exact W.zret hx hb hr rfl (fun t ht hW => ⟨⟨_, (va_up r 45 (upd (r 45) p0.toNatClampNeg p1)), rfl, ⟨hRr, hEr, trivial⟩, by rw [ht]; exact hP, va_K.moved hW.alike hK, hD⟩, hS.F ht⟩) hS.2.2 dX12_agree_25
    · skip
      refine lv_if_ne (tgt := 17) hx hb dX12_agree_12 (by decide) (fun c_8 => absurd (by decide) c_8) (fun c_8 => ?_)
      refine lv_iconst (v := 0) hx hb dX12_agree_15 (by decide) ?_
      subst hQ
      exact W.zret hx hb hr rfl (fun t ht hW => ⟨⟨_, r, rfl, ⟨hRr, hEr, trivial⟩, by rw [ht]; exact hP, va_K.moved hW.alike hK, hD⟩, hS.F ht⟩) hS.2.2 dX12_agree_16
  · skip
    refine lv_if_eq (tgt := 15) hx hb dX12_agree_5 (by decide) (fun c_9 => ?_) (fun c_9 => absurd (by decide) c_9)
    refine lv_iconst (v := 0) hx hb dX12_agree_15 (by decide) ?_
    subst hQ
    exact W.zret hx hb hr rfl (fun t ht hW => ⟨⟨_, r, rfl, ⟨hRr, hEr, trivial⟩, by rw [ht]; exact hP, va_K.moved hW.alike hK, hD⟩, hS.F ht⟩) hS.2.2 dX12_agree_16
set_option maxHeartbeats 4000000 in
set_option maxRecDepth 100000 in
theorem c_X12_answer (l : Launch) (D : va_G) (cy : Nat → ClassId) (a : Nat → Nat) (i : Nat → Int32) (r : Nat → Nat → Int32) (rl : Nat → Int64) (p0 p1 p2 : Int32) (sz : Nat) (hRi : mRi i) (hRr : mRr r) : Met l yX12_answer (Cond.code yX12_answer cX12_answer 4 (some .boolean) :: gT) { frames := 2, cells := 0, slots := 0, locals := 45 } (va_Pc [.ref (a 0), .int p0, .int p1, .int p2] (rQ D cy (mW cy a i r rl) sz)) (va_Qi (fun (z : Int32) (u : Nat → Nat → Int32) => mRr u ∧ mEr [46, 47] r u ∧ True) (fun (u : Nat → Nat → Int32) t => va_P D vwCl (mW cy a i u rl) t.heap ∧ va_K D vwCl (vT cy) t ∧ va_D (va_A (mW cy a i r rl) sz) (mW cy a i u rl)) (va_A (mW cy a i r rl) sz)) 0 0 (va_A (mW cy a i r rl) sz) := by
  refine Met.ofQ (cc := cX12_answer) (maxL := 4) (ret := (some .boolean)) (by decide) rfl ?_
  intro p e s m args below meth c s₁ B hml hv Q hQ
  obtain ⟨rfl, hsz, hP, hK, hD0⟩ := hv
  have hx := B.exec
  have hb := B.bytes
  have hr := B.returns
  have hlocks := B.notSynchronized
  have hT : ∀ w ∈ gT, w.before _ s = true := fun w h => atoms_spec (ws := (Cond.code yX12_answer cX12_answer 4 (some .boolean) :: gT)) B.pre w (List.mem_cons_of_mem _ h)
  have hown : s.vm.findClass RX12 = some m.cls := findClass_of_methodNamed B.named
  subst hsz
  have hD := hD0.self (sz := s.heap.size)
  generalize hAe : va_A (mW cy a i r rl) s.heap.size = A at hD hQ
  have hA : ∀ q : Nat, s.heap.size ≤ q → A q := fun q h => by rw [← hAe]; exact Or.inr h
  have hS : va_S A s.heap s.heap [] := va_S.rf
  have hl := lv_entry ([.ref (a 0), .int p0, .int p1, .int p2]) (n := 4) (Nat.le_of_ble_eq_true rfl)
  rw [lg_entry_eq]
  generalize (lg_sl ([.ref (a 0), .int p0, .int p1, .int p2]) ++ List.replicate (4 - (lg_sl ([.ref (a 0), .int p0, .int p1, .int p2])).length) Slot.unset).toArray = ls at hl ⊢
  have hl : lv_has ls 4 [(0, .ref (a 0)), (1, .int p0), (2, .int p1), (3, .int p2)] := hl
  have hEi : mEi [] i i := Ei_rf
  have hEr : mEr [46, 47] r r := Er_rf
  refine lv_aload_n hx hb dX12_answer_0 rfl (lv_at hl 0 rfl) ?_
  refine lv_iload_n hx hb dX12_answer_1 rfl (lv_at hl 1 rfl) ?_
  refine vp_callSi (W.runV (As := [.int p0]) (rest := []) ⟨hx, hb, hml, hown, hT⟩ (c_X12_isClaim l D cy a i r rl p0 hRi hRr) (cwV 1 hT (gV t_153 t_154 t_155 t_156 t_6) rfl rfl rfl (by decide +kernel) ⟨Nat.le_of_ble_eq_true rfl, Nat.le_of_ble_eq_true rfl⟩) (rP_v hP hK (va_recv hK hP (ci := 12) (q0 := 0) rfl rfl)) rfl rfl hl.1 rfl (lv_room (Nat.le_of_ble_eq_true rfl)) dX12_answer_2 ⟨Nat.le_of_ble_eq_true rfl, Nat.le_of_ble_eq_true rfl⟩) (fun r_1 hr_1 => ?_)
  have hg_2 : 0 ≤ (i 51).toInt ∧ (i 51).toInt ≤ 30 := hRi 51
  have hr_1 : BR r_1 (0 ≤ p0.toInt ∧ p0.toInt < (i 51).toInt) 1 0 := hr_1
  rcases hr_1 with ⟨rfl, h_3⟩ | ⟨rfl, h_3⟩
  · skip
    refine lv_if_eq (tgt := 25) hx hb dX12_answer_5 (by decide) (fun c_4 => absurd c_4 (by decide)) (fun c_4 => ?_)
    refine lv_iload_n hx hb dX12_answer_8 rfl (lv_at hl 2 rfl) ?_
    refine vp_callSi (W.runS (As := [.int p1]) (rest := []) ⟨hx, hb, hml, hown, hT⟩ (c_X12_isDay l p1) (va_cwS 1 hT (gS t_157 t_158 t_159 t_6) rfl rfl rfl (by decide +kernel) ⟨Nat.le_of_ble_eq_true rfl, Nat.le_of_ble_eq_true rfl⟩) preT rfl rfl hl.1 rfl (lv_room (Nat.le_of_ble_eq_true rfl)) dX12_answer_9 ⟨Nat.le_of_ble_eq_true rfl, Nat.le_of_ble_eq_true rfl⟩) (fun r_5 hr_5 => ?_)
    have hr_5 : BR r_5 (0 ≤ p1.toInt ∧ p1.toInt ≤ 9999) 1 0 := hr_5
    rcases hr_5 with ⟨rfl, h_6⟩ | ⟨rfl, h_6⟩
    · skip
      refine lv_if_eq (tgt := 25) hx hb dX12_answer_12 (by decide) (fun c_7 => absurd c_7 (by decide)) (fun c_7 => ?_)
      refine lv_iload_n hx hb dX12_answer_15 rfl (lv_at hl 2 rfl) ?_
      refine lv_aload_n hx hb dX12_answer_16 rfl (lv_at hl 0 rfl) ?_
      refine va_get (D := D) (ci := 12) (v := .ref (a 44)) (C := RX12) (T := TX12) (N := 91) hx hb hT iX12 hown hK hP 0 rfl rfl 56 (by decide) (hT _ t_139) (fun _ h9 => h9) rfl dX12_answer_17 ?_
      refine lv_iload_n hx hb dX12_answer_20 rfl (lv_at hl 1 rfl) ?_
      refine va_iald hx hb hK hP 44 0 rfl rfl (vp_inI (by omega) (by omega)) dX12_answer_21 ?_
      refine lv_topi (fun v_8 ev_8 => ?_)
      have hgv_8 : 0 ≤ v_8.toInt ∧ v_8.toInt ≤ 9999 := by rw [ev_8]; exact hRr 44 _
      refine lv_icmp_ge (tgt := 27) hx hb dX12_answer_22 (by decide) (fun c_9 => ?_) (fun c_9 => ?_)
      · have c_9 : v_8.toInt ≤ p1.toInt := b_le c_9
        refine lv_aload_n hx hb dX12_answer_27 rfl (lv_at hl 0 rfl) ?_
        refine va_get (D := D) (ci := 12) (v := .ref (a 46)) (C := RX12) (T := TX12) (N := 91) hx hb hT iX12 hown hK hP 0 rfl rfl 58 (by decide) (hT _ t_138) (fun _ h9 => h9) rfl dX12_answer_28 ?_
        refine lv_iload_n hx hb dX12_answer_31 rfl (lv_at hl 1 rfl) ?_
        refine lv_iload_n hx hb dX12_answer_32 rfl (lv_at hl 2 rfl) ?_
        refine va_iast hx hb hK hP hD hS 46 0 rfl rfl (vp_inI (by omega) (by omega)) dX12_answer_33 (fun H locs hP hD hS => ?_)
        rw [mS46] at hP hD
        have hRr : mRr (va_up r 46 (upd (r 46) p0.toNatClampNeg p1)) := Rr_upd hRr 46 (p0.toNatClampNeg) p1 ⟨by show (-1 : Int) ≤ p1.toInt; omega, by show p1.toInt ≤ (9999 : Int); omega⟩
        have hEr : mEr [46, 47] _ (va_up r 46 (upd (r 46) p0.toNatClampNeg p1)) := Er_up hEr 46 _ (by decide)
        refine lv_aload_n hx hb dX12_answer_34 rfl (lv_at hl 0 rfl) ?_
        refine va_get (D := D) (ci := 12) (v := .ref (a 47)) (C := RX12) (T := TX12) (N := 91) hx hb hT iX12 hown hK hP 0 rfl rfl 59 (by decide) (hT _ t_152) (fun _ h9 => h9) rfl dX12_answer_35 ?_
        refine lv_iload_n hx hb dX12_answer_38 rfl (lv_at hl 1 rfl) ?_
        refine lv_iload_n hx hb dX12_answer_39 rfl (lv_at hl 3 rfl) ?_
        refine va_zast hx hb hK hP hD hS 47 2 rfl rfl (vp_inI (by omega) (by omega)) dX12_answer_40 (fun H locs hP hD hS => ?_)
        rw [mS47] at hP hD
        have hRr : mRr (va_up (va_up r 46 (upd (r 46) p0.toNatClampNeg p1)) 47 (upd (r 47) p0.toNatClampNeg (vp_nar .boolean p2))) := Rr_upd hRr 47 (p0.toNatClampNeg) (vp_nar .boolean p2) (b_rg _)
        have hEr : mEr [46, 47] _ (va_up (va_up r 46 (upd (r 46) p0.toNatClampNeg p1)) 47 (upd (r 47) p0.toNatClampNeg (vp_nar .boolean p2))) := Er_up hEr 47 _ (by decide)
        refine lv_iconst (v := 1) hx hb dX12_answer_41 (by decide) ?_
        subst hQ
        exact W.zret hx hb hr rfl (fun t ht hW => ⟨⟨_, (va_up (va_up r 46 (upd (r 46) p0.toNatClampNeg p1)) 47 (upd (r 47) p0.toNatClampNeg (vp_nar .boolean p2))), rfl, ⟨hRr, hEr, trivial⟩, by rw [ht]; exact hP, va_K.moved hW.alike hK, hD⟩, hS.F ht⟩) hS.2.2 dX12_answer_42
      · have c_9 : p1.toInt < v_8.toInt := b_nle c_9
        refine lv_iconst (v := 0) hx hb dX12_answer_25 (by decide) ?_
        subst hQ
        exact W.zret hx hb hr rfl (fun t ht hW => ⟨⟨_, r, rfl, ⟨hRr, hEr, trivial⟩, by rw [ht]; exact hP, va_K.moved hW.alike hK, hD⟩, hS.F ht⟩) hS.2.2 dX12_answer_26
    · skip
      refine lv_if_eq (tgt := 25) hx hb dX12_answer_12 (by decide) (fun c_10 => ?_) (fun c_10 => absurd (by decide) c_10)
      refine lv_iconst (v := 0) hx hb dX12_answer_25 (by decide) ?_
      subst hQ
      exact W.zret hx hb hr rfl (fun t ht hW => ⟨⟨_, r, rfl, ⟨hRr, hEr, trivial⟩, by rw [ht]; exact hP, va_K.moved hW.alike hK, hD⟩, hS.F ht⟩) hS.2.2 dX12_answer_26
  · skip
    refine lv_if_eq (tgt := 25) hx hb dX12_answer_5 (by decide) (fun c_11 => ?_) (fun c_11 => absurd (by decide) c_11)
    refine lv_iconst (v := 0) hx hb dX12_answer_25 (by decide) ?_
    subst hQ
    exact W.zret hx hb hr rfl (fun t ht hW => ⟨⟨_, r, rfl, ⟨hRr, hEr, trivial⟩, by rw [ht]; exact hP, va_K.moved hW.alike hK, hD⟩, hS.F ht⟩) hS.2.2 dX12_answer_26
set_option maxHeartbeats 4000000 in
set_option maxRecDepth 100000 in
theorem c_X12_offer (l : Launch) (D : va_G) (cy : Nat → ClassId) (a : Nat → Nat) (i : Nat → Int32) (r : Nat → Nat → Int32) (rl : Nat → Int64) (p0 p1 p2 : Int32) (sz : Nat) (hRi : mRi i) (hRr : mRr r) : Met l yX12_offer (Cond.code yX12_offer cX12_offer 4 (some .int) :: gT) { frames := 2, cells := 0, slots := 0, locals := 45 } (va_Pc [.ref (a 0), .int p0, .int p1, .int p2] (rQ D cy (mW cy a i r rl) sz)) (va_Qi (fun (z : Int32) (u : Nat → Nat → Int32) => mRr u ∧ mEr [50, 51] r u ∧ True) (fun (u : Nat → Nat → Int32) t => va_P D vwCl (mW cy a i u rl) t.heap ∧ va_K D vwCl (vT cy) t ∧ va_D (va_A (mW cy a i r rl) sz) (mW cy a i u rl)) (va_A (mW cy a i r rl) sz)) 0 0 (va_A (mW cy a i r rl) sz) := by
  refine Met.ofQ (cc := cX12_offer) (maxL := 4) (ret := (some .int)) (by decide) rfl ?_
  intro p e s m args below meth c s₁ B hml hv Q hQ
  obtain ⟨rfl, hsz, hP, hK, hD0⟩ := hv
  have hx := B.exec
  have hb := B.bytes
  have hr := B.returns
  have hlocks := B.notSynchronized
  have hT : ∀ w ∈ gT, w.before _ s = true := fun w h => atoms_spec (ws := (Cond.code yX12_offer cX12_offer 4 (some .int) :: gT)) B.pre w (List.mem_cons_of_mem _ h)
  have hown : s.vm.findClass RX12 = some m.cls := findClass_of_methodNamed B.named
  subst hsz
  have hD := hD0.self (sz := s.heap.size)
  generalize hAe : va_A (mW cy a i r rl) s.heap.size = A at hD hQ
  have hA : ∀ q : Nat, s.heap.size ≤ q → A q := fun q h => by rw [← hAe]; exact Or.inr h
  have hS : va_S A s.heap s.heap [] := va_S.rf
  have hl := lv_entry ([.ref (a 0), .int p0, .int p1, .int p2]) (n := 4) (Nat.le_of_ble_eq_true rfl)
  rw [lg_entry_eq]
  generalize (lg_sl ([.ref (a 0), .int p0, .int p1, .int p2]) ++ List.replicate (4 - (lg_sl ([.ref (a 0), .int p0, .int p1, .int p2])).length) Slot.unset).toArray = ls at hl ⊢
  have hl : lv_has ls 4 [(0, .ref (a 0)), (1, .int p0), (2, .int p1), (3, .int p2)] := hl
  have hEi : mEi [] i i := Ei_rf
  have hEr : mEr [50, 51] r r := Er_rf
  refine lv_aload_n hx hb dX12_offer_0 rfl (lv_at hl 0 rfl) ?_
  refine lv_iload_n hx hb dX12_offer_1 rfl (lv_at hl 1 rfl) ?_
  refine vp_callSi (W.runV (As := [.int p0]) (rest := []) ⟨hx, hb, hml, hown, hT⟩ (c_X12_isHome l D cy a i r rl p0 hRi hRr) (cwV 1 hT (gV t_12 t_13 t_14 t_15 t_6) rfl rfl rfl (by decide +kernel) ⟨Nat.le_of_ble_eq_true rfl, Nat.le_of_ble_eq_true rfl⟩) (rP_v hP hK (va_recv hK hP (ci := 12) (q0 := 0) rfl rfl)) rfl rfl hl.1 rfl (lv_room (Nat.le_of_ble_eq_true rfl)) dX12_offer_2 ⟨Nat.le_of_ble_eq_true rfl, Nat.le_of_ble_eq_true rfl⟩) (fun r_1 hr_1 => ?_)
  have hg_2 : 0 ≤ (i 0).toInt ∧ (i 0).toInt ≤ 6 := hRi 0
  have hr_1 : BR r_1 (0 ≤ p0.toInt ∧ p0.toInt < (i 0).toInt) 1 0 := hr_1
  rcases hr_1 with ⟨rfl, h_3⟩ | ⟨rfl, h_3⟩
  · skip
    refine lv_if_eq (tgt := 15) hx hb dX12_offer_5 (by decide) (fun c_4 => absurd c_4 (by decide)) (fun c_4 => ?_)
    refine lv_iload_n hx hb dX12_offer_8 rfl (lv_at hl 3 rfl) ?_
    refine vp_callSi (W.runS (As := [.int p2]) (rest := []) ⟨hx, hb, hml, hown, hT⟩ (c_X12_isPence l p2) (va_cwS 1 hT (gS t_177 t_178 t_179 t_6) rfl rfl rfl (by decide +kernel) ⟨Nat.le_of_ble_eq_true rfl, Nat.le_of_ble_eq_true rfl⟩) preT rfl rfl hl.1 rfl (lv_room (Nat.le_of_ble_eq_true rfl)) dX12_offer_9 ⟨Nat.le_of_ble_eq_true rfl, Nat.le_of_ble_eq_true rfl⟩) (fun r_5 hr_5 => ?_)
    have hr_5 : BR r_5 (0 ≤ p2.toInt ∧ p2.toInt ≤ 999999) 1 0 := hr_5
    rcases hr_5 with ⟨rfl, h_6⟩ | ⟨rfl, h_6⟩
    · skip
      refine lv_if_ne (tgt := 17) hx hb dX12_offer_12 (by decide) (fun c_7 => ?_) (fun c_7 => absurd c_7 (by decide))
      refine lv_iload_n hx hb dX12_offer_17 rfl (lv_at hl 2 rfl) ?_
      refine lv_if_eq (tgt := 33) hx hb dX12_offer_18 (by decide) (fun c_8 => ?_) (fun c_8 => ?_)
      · have c_8 : p1.toInt = 0 := b_eq c_8
        refine lv_aload_n hx hb dX12_offer_33 rfl (lv_at hl 0 rfl) ?_
        refine va_get (D := D) (ci := 12) (v := .ref (a 51)) (C := RX12) (T := TX12) (N := 91) hx hb hT iX12 hown hK hP 0 rfl rfl 65 (by decide) (hT _ t_185) (fun _ h9 => h9) rfl dX12_offer_34 ?_
        refine lv_iload_n hx hb dX12_offer_37 rfl (lv_at hl 1 rfl) ?_
        refine lv_iload_n hx hb dX12_offer_38 rfl (lv_at hl 3 rfl) ?_
        refine lv_iconst (v := 1) hx hb dX12_offer_39 (by decide) ?_
        refine lv_iadd hx hb dX12_offer_40 ?_
        refine lv_topi (fun v_9 ev_9 => ?_)
        have hv_9 : v_9.toInt = p2.toInt + 1 := by rw [ev_9]; have := b_rg p2; exact i_add (a := p2.toInt) (b := 1) rfl rfl (by omega) (by omega)
        refine va_iast hx hb hK hP hD hS 51 0 rfl rfl (vp_inI (by omega) (by omega)) dX12_offer_41 (fun H locs hP hD hS => ?_)
        rw [mS51] at hP hD
        have hRr : mRr (va_up r 51 (upd (r 51) p0.toNatClampNeg v_9)) := Rr_upd hRr 51 (p0.toNatClampNeg) v_9 ⟨by show (0 : Int) ≤ v_9.toInt; omega, by show v_9.toInt ≤ (1000000 : Int); omega⟩
        have hEr : mEr [50, 51] _ (va_up r 51 (upd (r 51) p0.toNatClampNeg v_9)) := Er_up hEr 51 _ (by decide)
        refine lv_aload_n hx hb dX12_offer_42 rfl (lv_at hl 0 rfl) ?_
        refine va_get (D := D) (ci := 12) (v := .ref (a 50)) (C := RX12) (T := TX12) (N := 91) hx hb hT iX12 hown hK hP 0 rfl rfl 64 (by decide) (hT _ t_186) (fun _ h9 => h9) rfl dX12_offer_43 ?_
        refine lv_iload_n hx hb dX12_offer_46 rfl (lv_at hl 1 rfl) ?_
        refine va_iald hx hb hK hP 50 0 rfl rfl (vp_inI (by omega) (by omega)) dX12_offer_47 ?_
        refine lv_topi (fun v_10 ev_10 => ?_)
        have hgv_10 : 0 ≤ v_10.toInt ∧ v_10.toInt ≤ 1000000 := by rw [ev_10]; exact hRr 50 _
        refine lv_if_le (tgt := 64) hx hb dX12_offer_48 (by decide) (fun c_11 => ?_) (fun c_11 => ?_)
        · have c_11 : v_10.toInt ≤ 0 := b_le c_11
          refine lv_iconst (v := 0) hx hb dX12_offer_64 (by decide) ?_
          subst hQ
          exact W.iret (v := 0) hx hb hr (fun t ht hW => ⟨⟨_, (va_up r 51 (upd (r 51) p0.toNatClampNeg v_9)), rfl, ⟨hRr, hEr, trivial⟩, by rw [ht]; exact hP, va_K.moved hW.alike hK, hD⟩, hS.F ht⟩) hS.2.2 dX12_offer_65
        · have c_11 : 0 < v_10.toInt := b_nle c_11
          refine lv_aload_n hx hb dX12_offer_51 rfl (lv_at hl 0 rfl) ?_
          refine va_get (D := D) (ci := 12) (v := .ref (a 51)) (C := RX12) (T := TX12) (N := 91) hx hb hT iX12 hown hK hP 0 rfl rfl 65 (by decide) (hT _ t_185) (fun _ h9 => h9) rfl dX12_offer_52 ?_
          refine lv_iload_n hx hb dX12_offer_55 rfl (lv_at hl 1 rfl) ?_
          refine va_iald hx hb hK hP 51 0 rfl rfl (vp_inI (by omega) (by omega)) dX12_offer_56 ?_
          refine lv_topi (fun v_12 ev_12 => ?_)
          have hgv_12 : 0 ≤ v_12.toInt ∧ v_12.toInt ≤ 1000000 := by rw [ev_12]; exact hRr 51 _
          refine lv_if_le (tgt := 64) hx hb dX12_offer_57 (by decide) (fun c_13 => ?_) (fun c_13 => ?_)
          · have c_13 : v_12.toInt ≤ 0 := b_le c_13
            refine lv_iconst (v := 0) hx hb dX12_offer_64 (by decide) ?_
            subst hQ
            exact W.iret (v := 0) hx hb hr (fun t ht hW => ⟨⟨_, (va_up r 51 (upd (r 51) p0.toNatClampNeg v_9)), rfl, ⟨hRr, hEr, trivial⟩, by rw [ht]; exact hP, va_K.moved hW.alike hK, hD⟩, hS.F ht⟩) hS.2.2 dX12_offer_65
          · have c_13 : 0 < v_12.toInt := b_nle c_13
            refine lv_iconst (v := 1) hx hb dX12_offer_60 (by decide) ?_
            refine lv_goto (tgt := 65) hx hb dX12_offer_61 (by decide) ?_
            subst hQ
            exact W.iret (v := 1) hx hb hr (fun t ht hW => ⟨⟨_, (va_up r 51 (upd (r 51) p0.toNatClampNeg v_9)), rfl, ⟨hRr, hEr, trivial⟩, by rw [ht]; exact hP, va_K.moved hW.alike hK, hD⟩, hS.F ht⟩) hS.2.2 dX12_offer_65
      · have c_8 : p1.toInt ≠ 0 := b_ne c_8
        refine lv_aload_n hx hb dX12_offer_21 rfl (lv_at hl 0 rfl) ?_
        refine va_get (D := D) (ci := 12) (v := .ref (a 50)) (C := RX12) (T := TX12) (N := 91) hx hb hT iX12 hown hK hP 0 rfl rfl 64 (by decide) (hT _ t_186) (fun _ h9 => h9) rfl dX12_offer_22 ?_
        refine lv_iload_n hx hb dX12_offer_25 rfl (lv_at hl 1 rfl) ?_
        refine lv_iload_n hx hb dX12_offer_26 rfl (lv_at hl 3 rfl) ?_
        refine lv_iconst (v := 1) hx hb dX12_offer_27 (by decide) ?_
        refine lv_iadd hx hb dX12_offer_28 ?_
        refine lv_topi (fun v_14 ev_14 => ?_)
        have hv_14 : v_14.toInt = p2.toInt + 1 := by rw [ev_14]; have := b_rg p2; exact i_add (a := p2.toInt) (b := 1) rfl rfl (by omega) (by omega)
        refine va_iast hx hb hK hP hD hS 50 0 rfl rfl (vp_inI (by omega) (by omega)) dX12_offer_29 (fun H locs hP hD hS => ?_)
        rw [mS50] at hP hD
        have hRr : mRr (va_up r 50 (upd (r 50) p0.toNatClampNeg v_14)) := Rr_upd hRr 50 (p0.toNatClampNeg) v_14 ⟨by show (0 : Int) ≤ v_14.toInt; omega, by show v_14.toInt ≤ (1000000 : Int); omega⟩
        have hEr : mEr [50, 51] _ (va_up r 50 (upd (r 50) p0.toNatClampNeg v_14)) := Er_up hEr 50 _ (by decide)
        refine lv_goto (tgt := 42) hx hb dX12_offer_30 (by decide) ?_
        refine lv_aload_n hx hb dX12_offer_42 rfl (lv_at hl 0 rfl) ?_
        refine va_get (D := D) (ci := 12) (v := .ref (a 50)) (C := RX12) (T := TX12) (N := 91) hx hb hT iX12 hown hK hP 0 rfl rfl 64 (by decide) (hT _ t_186) (fun _ h9 => h9) rfl dX12_offer_43 ?_
        refine lv_iload_n hx hb dX12_offer_46 rfl (lv_at hl 1 rfl) ?_
        refine va_iald hx hb hK hP 50 0 rfl rfl (vp_inI (by omega) (by omega)) dX12_offer_47 ?_
        refine lv_topi (fun v_15 ev_15 => ?_)
        have hgv_15 : 0 ≤ v_15.toInt ∧ v_15.toInt ≤ 1000000 := by rw [ev_15]; exact hRr 50 _
        refine lv_if_le (tgt := 64) hx hb dX12_offer_48 (by decide) (fun c_16 => ?_) (fun c_16 => ?_)
        · have c_16 : v_15.toInt ≤ 0 := b_le c_16
          refine lv_iconst (v := 0) hx hb dX12_offer_64 (by decide) ?_
          subst hQ
          exact W.iret (v := 0) hx hb hr (fun t ht hW => ⟨⟨_, (va_up r 50 (upd (r 50) p0.toNatClampNeg v_14)), rfl, ⟨hRr, hEr, trivial⟩, by rw [ht]; exact hP, va_K.moved hW.alike hK, hD⟩, hS.F ht⟩) hS.2.2 dX12_offer_65
        · have c_16 : 0 < v_15.toInt := b_nle c_16
          refine lv_aload_n hx hb dX12_offer_51 rfl (lv_at hl 0 rfl) ?_
          refine va_get (D := D) (ci := 12) (v := .ref (a 51)) (C := RX12) (T := TX12) (N := 91) hx hb hT iX12 hown hK hP 0 rfl rfl 65 (by decide) (hT _ t_185) (fun _ h9 => h9) rfl dX12_offer_52 ?_
          refine lv_iload_n hx hb dX12_offer_55 rfl (lv_at hl 1 rfl) ?_
          refine va_iald hx hb hK hP 51 0 rfl rfl (vp_inI (by omega) (by omega)) dX12_offer_56 ?_
          refine lv_topi (fun v_17 ev_17 => ?_)
          have hgv_17 : 0 ≤ v_17.toInt ∧ v_17.toInt ≤ 1000000 := by rw [ev_17]; exact hRr 51 _
          refine lv_if_le (tgt := 64) hx hb dX12_offer_57 (by decide) (fun c_18 => ?_) (fun c_18 => ?_)
          · have c_18 : v_17.toInt ≤ 0 := b_le c_18
            refine lv_iconst (v := 0) hx hb dX12_offer_64 (by decide) ?_
            subst hQ
            exact W.iret (v := 0) hx hb hr (fun t ht hW => ⟨⟨_, (va_up r 50 (upd (r 50) p0.toNatClampNeg v_14)), rfl, ⟨hRr, hEr, trivial⟩, by rw [ht]; exact hP, va_K.moved hW.alike hK, hD⟩, hS.F ht⟩) hS.2.2 dX12_offer_65
          · have c_18 : 0 < v_17.toInt := b_nle c_18
            refine lv_iconst (v := 1) hx hb dX12_offer_60 (by decide) ?_
            refine lv_goto (tgt := 65) hx hb dX12_offer_61 (by decide) ?_
            subst hQ
            exact W.iret (v := 1) hx hb hr (fun t ht hW => ⟨⟨_, (va_up r 50 (upd (r 50) p0.toNatClampNeg v_14)), rfl, ⟨hRr, hEr, trivial⟩, by rw [ht]; exact hP, va_K.moved hW.alike hK, hD⟩, hS.F ht⟩) hS.2.2 dX12_offer_65
    · skip
      refine lv_if_ne (tgt := 17) hx hb dX12_offer_12 (by decide) (fun c_19 => absurd (by decide) c_19) (fun c_19 => ?_)
      refine lv_iconst (v := (-1)) hx hb dX12_offer_15 (by decide) ?_
      subst hQ
      exact W.iret (v := (-1)) hx hb hr (fun t ht hW => ⟨⟨_, r, rfl, ⟨hRr, hEr, trivial⟩, by rw [ht]; exact hP, va_K.moved hW.alike hK, hD⟩, hS.F ht⟩) hS.2.2 dX12_offer_16
  · skip
    refine lv_if_eq (tgt := 15) hx hb dX12_offer_5 (by decide) (fun c_20 => ?_) (fun c_20 => absurd (by decide) c_20)
    refine lv_iconst (v := (-1)) hx hb dX12_offer_15 (by decide) ?_
    subst hQ
    exact W.iret (v := (-1)) hx hb hr (fun t ht hW => ⟨⟨_, r, rfl, ⟨hRr, hEr, trivial⟩, by rw [ht]; exact hP, va_K.moved hW.alike hK, hD⟩, hS.F ht⟩) hS.2.2 dX12_offer_16
set_option maxHeartbeats 4000000 in
set_option maxRecDepth 100000 in
theorem c_X12_met (l : Launch) (D : va_G) (cy : Nat → ClassId) (a : Nat → Nat) (i : Nat → Int32) (r : Nat → Nat → Int32) (rl : Nat → Int64) (p0 : Int32) (sz : Nat) (hRi : mRi i) (hRr : mRr r) : Met l yX12_met (Cond.code yX12_met cX12_met 2 (some .int) :: gT) { frames := 2, cells := 0, slots := 0, locals := 45 } (va_Pc [.ref (a 0), .int p0] (rQ D cy (mW cy a i r rl) sz)) (va_Qi (fun (z : Int32) (u : Nat → Nat → Int32) => mRr u ∧ mEr [50, 51] r u ∧ True) (fun (u : Nat → Nat → Int32) t => va_P D vwCl (mW cy a i u rl) t.heap ∧ va_K D vwCl (vT cy) t ∧ va_D (va_A (mW cy a i r rl) sz) (mW cy a i u rl)) (va_A (mW cy a i r rl) sz)) 0 0 (va_A (mW cy a i r rl) sz) := by
  refine Met.ofQ (cc := cX12_met) (maxL := 2) (ret := (some .int)) (by decide) rfl ?_
  intro p e s m args below meth c s₁ B hml hv Q hQ
  obtain ⟨rfl, hsz, hP, hK, hD0⟩ := hv
  have hx := B.exec
  have hb := B.bytes
  have hr := B.returns
  have hlocks := B.notSynchronized
  have hT : ∀ w ∈ gT, w.before _ s = true := fun w h => atoms_spec (ws := (Cond.code yX12_met cX12_met 2 (some .int) :: gT)) B.pre w (List.mem_cons_of_mem _ h)
  have hown : s.vm.findClass RX12 = some m.cls := findClass_of_methodNamed B.named
  subst hsz
  have hD := hD0.self (sz := s.heap.size)
  generalize hAe : va_A (mW cy a i r rl) s.heap.size = A at hD hQ
  have hA : ∀ q : Nat, s.heap.size ≤ q → A q := fun q h => by rw [← hAe]; exact Or.inr h
  have hS : va_S A s.heap s.heap [] := va_S.rf
  have hl := lv_entry ([.ref (a 0), .int p0]) (n := 2) (Nat.le_of_ble_eq_true rfl)
  rw [lg_entry_eq]
  generalize (lg_sl ([.ref (a 0), .int p0]) ++ List.replicate (2 - (lg_sl ([.ref (a 0), .int p0])).length) Slot.unset).toArray = ls at hl ⊢
  have hl : lv_has ls 2 [(0, .ref (a 0)), (1, .int p0)] := hl
  have hEi : mEi [] i i := Ei_rf
  have hEr : mEr [50, 51] r r := Er_rf
  refine lv_aload_n hx hb dX12_met_0 rfl (lv_at hl 0 rfl) ?_
  refine lv_iload_n hx hb dX12_met_1 rfl (lv_at hl 1 rfl) ?_
  refine vp_callSi (W.runV (As := [.int p0]) (rest := []) ⟨hx, hb, hml, hown, hT⟩ (c_X12_isHome l D cy a i r rl p0 hRi hRr) (cwV 1 hT (gV t_12 t_13 t_14 t_15 t_6) rfl rfl rfl (by decide +kernel) ⟨Nat.le_of_ble_eq_true rfl, Nat.le_of_ble_eq_true rfl⟩) (rP_v hP hK (va_recv hK hP (ci := 12) (q0 := 0) rfl rfl)) rfl rfl hl.1 rfl (lv_room (Nat.le_of_ble_eq_true rfl)) dX12_met_2 ⟨Nat.le_of_ble_eq_true rfl, Nat.le_of_ble_eq_true rfl⟩) (fun r_1 hr_1 => ?_)
  have hg_2 : 0 ≤ (i 0).toInt ∧ (i 0).toInt ≤ 6 := hRi 0
  have hr_1 : BR r_1 (0 ≤ p0.toInt ∧ p0.toInt < (i 0).toInt) 1 0 := hr_1
  rcases hr_1 with ⟨rfl, h_3⟩ | ⟨rfl, h_3⟩
  · skip
    refine lv_if_ne (tgt := 10) hx hb dX12_met_5 (by decide) (fun c_4 => ?_) (fun c_4 => absurd c_4 (by decide))
    refine lv_aload_n hx hb dX12_met_10 rfl (lv_at hl 0 rfl) ?_
    refine va_get (D := D) (ci := 12) (v := .ref (a 50)) (C := RX12) (T := TX12) (N := 91) hx hb hT iX12 hown hK hP 0 rfl rfl 64 (by decide) (hT _ t_186) (fun _ h9 => h9) rfl dX12_met_11 ?_
    refine lv_iload_n hx hb dX12_met_14 rfl (lv_at hl 1 rfl) ?_
    refine va_iald hx hb hK hP 50 0 rfl rfl (vp_inI (by omega) (by omega)) dX12_met_15 ?_
    refine lv_topi (fun v_5 ev_5 => ?_)
    have hgv_5 : 0 ≤ v_5.toInt ∧ v_5.toInt ≤ 1000000 := by rw [ev_5]; exact hRr 50 _
    refine lv_if_eq (tgt := 28) hx hb dX12_met_16 (by decide) (fun c_6 => ?_) (fun c_6 => ?_)
    · have c_6 : v_5.toInt = 0 := b_eq c_6
      refine lv_bipush (v := (-2)) hx hb dX12_met_28 (by decide) ?_
      subst hQ
      exact W.iret (v := (-2)) hx hb hr (fun t ht hW => ⟨⟨_, r, rfl, ⟨hRr, hEr, trivial⟩, by rw [ht]; exact hP, va_K.moved hW.alike hK, hD⟩, hS.F ht⟩) hS.2.2 dX12_met_30
    · have c_6 : v_5.toInt ≠ 0 := b_ne c_6
      refine lv_aload_n hx hb dX12_met_19 rfl (lv_at hl 0 rfl) ?_
      refine va_get (D := D) (ci := 12) (v := .ref (a 51)) (C := RX12) (T := TX12) (N := 91) hx hb hT iX12 hown hK hP 0 rfl rfl 65 (by decide) (hT _ t_185) (fun _ h9 => h9) rfl dX12_met_20 ?_
      refine lv_iload_n hx hb dX12_met_23 rfl (lv_at hl 1 rfl) ?_
      refine va_iald hx hb hK hP 51 0 rfl rfl (vp_inI (by omega) (by omega)) dX12_met_24 ?_
      refine lv_topi (fun v_7 ev_7 => ?_)
      have hgv_7 : 0 ≤ v_7.toInt ∧ v_7.toInt ≤ 1000000 := by rw [ev_7]; exact hRr 51 _
      refine lv_if_ne (tgt := 31) hx hb dX12_met_25 (by decide) (fun c_8 => ?_) (fun c_8 => ?_)
      · have c_8 : v_7.toInt ≠ 0 := b_ne c_8
        refine lv_aload_n hx hb dX12_met_31 rfl (lv_at hl 0 rfl) ?_
        refine va_get (D := D) (ci := 12) (v := .ref (a 50)) (C := RX12) (T := TX12) (N := 91) hx hb hT iX12 hown hK hP 0 rfl rfl 64 (by decide) (hT _ t_186) (fun _ h9 => h9) rfl dX12_met_32 ?_
        refine lv_iload_n hx hb dX12_met_35 rfl (lv_at hl 1 rfl) ?_
        refine va_iald hx hb hK hP 50 0 rfl rfl (vp_inI (by omega) (by omega)) dX12_met_36 ?_
        refine lv_topi (fun v_9 ev_9 => ?_)
        have hgv_9 : 0 ≤ v_9.toInt ∧ v_9.toInt ≤ 1000000 := by rw [ev_9]; exact hRr 50 _
        refine lv_aload_n hx hb dX12_met_37 rfl (lv_at hl 0 rfl) ?_
        refine va_get (D := D) (ci := 12) (v := .ref (a 51)) (C := RX12) (T := TX12) (N := 91) hx hb hT iX12 hown hK hP 0 rfl rfl 65 (by decide) (hT _ t_185) (fun _ h9 => h9) rfl dX12_met_38 ?_
        refine lv_iload_n hx hb dX12_met_41 rfl (lv_at hl 1 rfl) ?_
        refine va_iald hx hb hK hP 51 0 rfl rfl (vp_inI (by omega) (by omega)) dX12_met_42 ?_
        refine lv_topi (fun v_10 ev_10 => ?_)
        have hgv_10 : 0 ≤ v_10.toInt ∧ v_10.toInt ≤ 1000000 := by rw [ev_10]; exact hRr 51 _
        refine lv_icmp_gt (tgt := 64) hx hb dX12_met_43 (by decide) (fun c_11 => ?_) (fun c_11 => ?_)
        · have c_11 : v_10.toInt < v_9.toInt := b_lt c_11
          refine lv_aload_n hx hb dX12_met_64 rfl (lv_at hl 0 rfl) ?_
          refine va_get (D := D) (ci := 12) (v := .ref (a 50)) (C := RX12) (T := TX12) (N := 91) hx hb hT iX12 hown hK hP 0 rfl rfl 64 (by decide) (hT _ t_186) (fun _ h9 => h9) rfl dX12_met_65 ?_
          refine lv_iload_n hx hb dX12_met_68 rfl (lv_at hl 1 rfl) ?_
          refine lv_iconst (v := 0) hx hb dX12_met_69 (by decide) ?_
          refine va_iast hx hb hK hP hD hS 50 0 rfl rfl (vp_inI (by omega) (by omega)) dX12_met_70 (fun H locs hP hD hS => ?_)
          rw [mS50] at hP hD
          have hRr : mRr (va_up r 50 (upd (r 50) p0.toNatClampNeg 0)) := Rr_upd hRr 50 (p0.toNatClampNeg) 0 ⟨by decide, by decide⟩
          have hEr : mEr [50, 51] _ (va_up r 50 (upd (r 50) p0.toNatClampNeg 0)) := Er_up hEr 50 _ (by decide)
          refine lv_aload_n hx hb dX12_met_71 rfl (lv_at hl 0 rfl) ?_
          refine va_get (D := D) (ci := 12) (v := .ref (a 51)) (C := RX12) (T := TX12) (N := 91) hx hb hT iX12 hown hK hP 0 rfl rfl 65 (by decide) (hT _ t_185) (fun _ h9 => h9) rfl dX12_met_72 ?_
          refine lv_iload_n hx hb dX12_met_75 rfl (lv_at hl 1 rfl) ?_
          refine lv_iconst (v := 0) hx hb dX12_met_76 (by decide) ?_
          refine va_iast hx hb hK hP hD hS 51 0 rfl rfl (vp_inI (by omega) (by omega)) dX12_met_77 (fun H locs hP hD hS => ?_)
          rw [mS51] at hP hD
          have hRr : mRr (va_up (va_up r 50 (upd (r 50) p0.toNatClampNeg 0)) 51 (upd (r 51) p0.toNatClampNeg 0)) := Rr_upd hRr 51 (p0.toNatClampNeg) 0 ⟨by decide, by decide⟩
          have hEr : mEr [50, 51] _ (va_up (va_up r 50 (upd (r 50) p0.toNatClampNeg 0)) 51 (upd (r 51) p0.toNatClampNeg 0)) := Er_up hEr 51 _ (by decide)
          refine lv_bipush (v := (-3)) hx hb dX12_met_78 (by decide) ?_
          subst hQ
          exact W.iret (v := (-3)) hx hb hr (fun t ht hW => ⟨⟨_, (va_up (va_up r 50 (upd (r 50) p0.toNatClampNeg 0)) 51 (upd (r 51) p0.toNatClampNeg 0)), rfl, ⟨hRr, hEr, trivial⟩, by rw [ht]; exact hP, va_K.moved hW.alike hK, hD⟩, hS.F ht⟩) hS.2.2 dX12_met_80
        · have c_11 : v_9.toInt ≤ v_10.toInt := b_nlt c_11
          refine lv_aload_n hx hb dX12_met_46 rfl (lv_at hl 0 rfl) ?_
          refine va_get (D := D) (ci := 12) (v := .ref (a 50)) (C := RX12) (T := TX12) (N := 91) hx hb hT iX12 hown hK hP 0 rfl rfl 64 (by decide) (hT _ t_186) (fun _ h9 => h9) rfl dX12_met_47 ?_
          refine lv_iload_n hx hb dX12_met_50 rfl (lv_at hl 1 rfl) ?_
          refine va_iald hx hb hK hP 50 0 rfl rfl (vp_inI (by omega) (by omega)) dX12_met_51 ?_
          refine lv_topi (fun v_12 ev_12 => ?_)
          have hgv_12 : 0 ≤ v_12.toInt ∧ v_12.toInt ≤ 1000000 := by rw [ev_12]; exact hRr 50 _
          refine lv_aload_n hx hb dX12_met_52 rfl (lv_at hl 0 rfl) ?_
          refine va_get (D := D) (ci := 12) (v := .ref (a 51)) (C := RX12) (T := TX12) (N := 91) hx hb hT iX12 hown hK hP 0 rfl rfl 65 (by decide) (hT _ t_185) (fun _ h9 => h9) rfl dX12_met_53 ?_
          refine lv_iload_n hx hb dX12_met_56 rfl (lv_at hl 1 rfl) ?_
          refine va_iald hx hb hK hP 51 0 rfl rfl (vp_inI (by omega) (by omega)) dX12_met_57 ?_
          refine lv_topi (fun v_13 ev_13 => ?_)
          have hgv_13 : 0 ≤ v_13.toInt ∧ v_13.toInt ≤ 1000000 := by rw [ev_13]; exact hRr 51 _
          refine lv_iadd hx hb dX12_met_58 ?_
          refine lv_topi (fun v_14 ev_14 => ?_)
          have hv_14 : v_14.toInt = v_12.toInt + v_13.toInt := by rw [ev_14]; have := b_rg v_12; have := b_rg v_13; exact i_add (a := v_12.toInt) (b := v_13.toInt) rfl rfl (by omega) (by omega)
          refine lv_iconst (v := 2) hx hb dX12_met_59 (by decide) ?_
          refine lv_isub hx hb dX12_met_60 ?_
          refine lv_topi (fun v_15 ev_15 => ?_)
          have hv_15 : v_15.toInt = v_14.toInt - 2 := by rw [ev_15]; have := b_rg v_14; exact i_sub (a := v_14.toInt) (b := 2) rfl rfl (by omega) (by omega)
          refine lv_iconst (v := 2) hx hb dX12_met_61 (by decide) ?_
          refine lv_idiv hx hb dX12_met_62 (by decide) ?_
          refine lv_topi (fun v_16 ev_16 => ?_)
          subst hQ
          exact W.iret (v := v_16) hx hb hr (fun t ht hW => ⟨⟨_, r, rfl, ⟨hRr, hEr, trivial⟩, by rw [ht]; exact hP, va_K.moved hW.alike hK, hD⟩, hS.F ht⟩) hS.2.2 dX12_met_63
      · have c_8 : v_7.toInt = 0 := b_nne c_8
        refine lv_bipush (v := (-2)) hx hb dX12_met_28 (by decide) ?_
        subst hQ
        exact W.iret (v := (-2)) hx hb hr (fun t ht hW => ⟨⟨_, r, rfl, ⟨hRr, hEr, trivial⟩, by rw [ht]; exact hP, va_K.moved hW.alike hK, hD⟩, hS.F ht⟩) hS.2.2 dX12_met_30
  · skip
    refine lv_if_ne (tgt := 10) hx hb dX12_met_5 (by decide) (fun c_17 => absurd (by decide) c_17) (fun c_17 => ?_)
    refine lv_iconst (v := (-1)) hx hb dX12_met_8 (by decide) ?_
    subst hQ
    exact W.iret (v := (-1)) hx hb hr (fun t ht hW => ⟨⟨_, r, rfl, ⟨hRr, hEr, trivial⟩, by rw [ht]; exact hP, va_K.moved hW.alike hK, hD⟩, hS.F ht⟩) hS.2.2 dX12_met_9
set_option maxHeartbeats 4000000 in
set_option maxRecDepth 100000 in
theorem c_X12_twice (l : Launch) (D : va_G) (cy : Nat → ClassId) (a : Nat → Nat) (i : Nat → Int32) (r : Nat → Nat → Int32) (rl : Nat → Int64) (p0 p1 p2 p3 : Int32) (sz : Nat) (hRi : mRi i) (hRr : mRr r) : Met l yX12_twice (Cond.code yX12_twice cX12_twice 5 (some .int) :: gT) { frames := 2, cells := 0, slots := 0, locals := 46 } (va_Pc [.ref (a 0), .int p0, .int p1, .int p2, .int p3] (rQ D cy (mW cy a i r rl) sz)) (va_Qi (fun (z : Int32) (u : (Nat → Int32) × (Nat → Nat → Int32)) => mRi u.1 ∧ mRr u.2 ∧ mEi [63] i u.1 ∧ mEr [52, 53, 54, 55] r u.2 ∧ True) (fun (u : (Nat → Int32) × (Nat → Nat → Int32)) t => va_P D vwCl (mW cy a u.1 u.2 rl) t.heap ∧ va_K D vwCl (vT cy) t ∧ va_D (va_A (mW cy a i r rl) sz) (mW cy a u.1 u.2 rl)) (va_A (mW cy a i r rl) sz)) 0 0 (va_A (mW cy a i r rl) sz) := by
  refine Met.ofQ (cc := cX12_twice) (maxL := 5) (ret := (some .int)) (by decide) rfl ?_
  intro p e s m args below meth c s₁ B hml hv Q hQ
  obtain ⟨rfl, hsz, hP, hK, hD0⟩ := hv
  have hx := B.exec
  have hb := B.bytes
  have hr := B.returns
  have hlocks := B.notSynchronized
  have hT : ∀ w ∈ gT, w.before _ s = true := fun w h => atoms_spec (ws := (Cond.code yX12_twice cX12_twice 5 (some .int) :: gT)) B.pre w (List.mem_cons_of_mem _ h)
  have hown : s.vm.findClass RX12 = some m.cls := findClass_of_methodNamed B.named
  subst hsz
  have hD := hD0.self (sz := s.heap.size)
  generalize hAe : va_A (mW cy a i r rl) s.heap.size = A at hD hQ
  have hA : ∀ q : Nat, s.heap.size ≤ q → A q := fun q h => by rw [← hAe]; exact Or.inr h
  have hS : va_S A s.heap s.heap [] := va_S.rf
  have hl := lv_entry ([.ref (a 0), .int p0, .int p1, .int p2, .int p3]) (n := 5) (Nat.le_of_ble_eq_true rfl)
  rw [lg_entry_eq]
  generalize (lg_sl ([.ref (a 0), .int p0, .int p1, .int p2, .int p3]) ++ List.replicate (5 - (lg_sl ([.ref (a 0), .int p0, .int p1, .int p2, .int p3])).length) Slot.unset).toArray = ls at hl ⊢
  have hl : lv_has ls 5 [(0, .ref (a 0)), (1, .int p0), (2, .int p1), (3, .int p2), (4, .int p3)] := hl
  have hEi : mEi [63] i i := Ei_rf
  have hEr : mEr [52, 53, 54, 55] r r := Er_rf
  refine lv_iload_n hx hb dX12_twice_0 rfl (lv_at hl 1 rfl) ?_
  refine vp_callSi (W.runS (As := [.int p0]) (rest := []) ⟨hx, hb, hml, hown, hT⟩ (c_X12_isJudge l p0) (va_cwS 1 hT (gS t_187 t_188 t_189 t_6) rfl rfl rfl (by decide +kernel) ⟨Nat.le_of_ble_eq_true rfl, Nat.le_of_ble_eq_true rfl⟩) preT rfl rfl hl.1 rfl (lv_room (Nat.le_of_ble_eq_true rfl)) dX12_twice_1 ⟨Nat.le_of_ble_eq_true rfl, Nat.le_of_ble_eq_true rfl⟩) (fun r_1 hr_1 => ?_)
  have hr_1 : BR r_1 (0 ≤ p0.toInt ∧ p0.toInt ≤ 5) 1 0 := hr_1
  rcases hr_1 with ⟨rfl, h_2⟩ | ⟨rfl, h_2⟩
  · skip
    refine lv_if_eq (tgt := 51) hx hb dX12_twice_4 (by decide) (fun c_3 => absurd c_3 (by decide)) (fun c_3 => ?_)
    refine lv_iload_n hx hb dX12_twice_7 rfl (lv_at hl 2 rfl) ?_
    refine vp_callSi (W.runS (As := [.int p1]) (rest := []) ⟨hx, hb, hml, hown, hT⟩ (c_X12_isJudge l p1) (va_cwS 1 hT (gS t_187 t_188 t_189 t_6) rfl rfl rfl (by decide +kernel) ⟨Nat.le_of_ble_eq_true rfl, Nat.le_of_ble_eq_true rfl⟩) preT rfl rfl hl.1 rfl (lv_room (Nat.le_of_ble_eq_true rfl)) dX12_twice_8 ⟨Nat.le_of_ble_eq_true rfl, Nat.le_of_ble_eq_true rfl⟩) (fun r_4 hr_4 => ?_)
    have hr_4 : BR r_4 (0 ≤ p1.toInt ∧ p1.toInt ≤ 5) 1 0 := hr_4
    rcases hr_4 with ⟨rfl, h_5⟩ | ⟨rfl, h_5⟩
    · skip
      refine lv_if_eq (tgt := 51) hx hb dX12_twice_11 (by decide) (fun c_6 => absurd c_6 (by decide)) (fun c_6 => ?_)
      refine lv_iload_n hx hb dX12_twice_14 rfl (lv_at hl 1 rfl) ?_
      refine lv_iload_n hx hb dX12_twice_15 rfl (lv_at hl 2 rfl) ?_
      refine lv_icmp_eq (tgt := 51) hx hb dX12_twice_16 (by decide) (fun c_7 => ?_) (fun c_7 => ?_)
      · have c_7 : p0.toInt = p1.toInt := b_eq c_7
        refine lv_iconst (v := (-1)) hx hb dX12_twice_51 (by decide) ?_
        subst hQ
        exact W.iret (v := (-1)) hx hb hr (fun t ht hW => ⟨⟨_, (i, r), rfl, ⟨hRi, hRr, hEi, hEr, trivial⟩, by rw [ht]; exact hP, va_K.moved hW.alike hK, hD⟩, hS.F ht⟩) hS.2.2 dX12_twice_52
      · have c_7 : p0.toInt ≠ p1.toInt := b_ne c_7
        refine lv_iload_n hx hb dX12_twice_19 rfl (lv_at hl 3 rfl) ?_
        refine lv_iconst (v := 0) hx hb dX12_twice_20 (by decide) ?_
        refine lv_sipush (v := 9999) hx hb dX12_twice_21 (by decide) ?_
        refine vp_callSi (W.runS (As := [.int p2, .int 0, .int 9999]) (rest := []) ⟨hx, hb, hml, hown, hT⟩ (c_X12_in l p2 0 9999) (va_cwS 3 hT (gS t_113 t_114 t_115 t_6) rfl rfl rfl (by decide +kernel) ⟨Nat.le_of_ble_eq_true rfl, Nat.le_of_ble_eq_true rfl⟩) preT rfl rfl hl.1 rfl (lv_room (Nat.le_of_ble_eq_true rfl)) dX12_twice_24 ⟨Nat.le_of_ble_eq_true rfl, Nat.le_of_ble_eq_true rfl⟩) (fun r_8 hr_8 => ?_)
        have hr_8 : BR r_8 (0 ≤ p2.toInt ∧ p2.toInt ≤ 9999) 1 0 := hr_8
        rcases hr_8 with ⟨rfl, h_9⟩ | ⟨rfl, h_9⟩
        · skip
          refine lv_if_eq (tgt := 51) hx hb dX12_twice_27 (by decide) (fun c_10 => absurd c_10 (by decide)) (fun c_10 => ?_)
          refine lv_iload hx hb dX12_twice_30 (lv_at hl 4 rfl) ?_
          refine lv_iconst (v := 0) hx hb dX12_twice_32 (by decide) ?_
          refine lv_sipush (v := 9999) hx hb dX12_twice_33 (by decide) ?_
          refine vp_callSi (W.runS (As := [.int p3, .int 0, .int 9999]) (rest := []) ⟨hx, hb, hml, hown, hT⟩ (c_X12_in l p3 0 9999) (va_cwS 3 hT (gS t_113 t_114 t_115 t_6) rfl rfl rfl (by decide +kernel) ⟨Nat.le_of_ble_eq_true rfl, Nat.le_of_ble_eq_true rfl⟩) preT rfl rfl hl.1 rfl (lv_room (Nat.le_of_ble_eq_true rfl)) dX12_twice_36 ⟨Nat.le_of_ble_eq_true rfl, Nat.le_of_ble_eq_true rfl⟩) (fun r_11 hr_11 => ?_)
          have hr_11 : BR r_11 (0 ≤ p3.toInt ∧ p3.toInt ≤ 9999) 1 0 := hr_11
          rcases hr_11 with ⟨rfl, h_12⟩ | ⟨rfl, h_12⟩
          · skip
            refine lv_if_eq (tgt := 51) hx hb dX12_twice_39 (by decide) (fun c_13 => absurd c_13 (by decide)) (fun c_13 => ?_)
            refine lv_aload_n hx hb dX12_twice_42 rfl (lv_at hl 0 rfl) ?_
            refine va_get (D := D) (ci := 12) (v := .int (i 63)) (C := RX12) (T := TX12) (N := 91) hx hb hT iX12 hown hK hP 0 rfl rfl 63 (by decide) (hT _ t_191) (fun _ h9 => h9) rfl dX12_twice_43 ?_
            have hg_14 : 0 ≤ (i 63).toInt ∧ (i 63).toInt ≤ 40 := hRi 63
            refine lv_bipush (v := 40) hx hb dX12_twice_46 (by decide) ?_
            refine lv_icmp_ne (tgt := 53) hx hb dX12_twice_48 (by decide) (fun c_15 => ?_) (fun c_15 => ?_)
            · have c_15 : (i 63).toInt ≠ 40 := b_ne c_15
              refine lv_aload_n hx hb dX12_twice_53 rfl (lv_at hl 0 rfl) ?_
              refine va_get (D := D) (ci := 12) (v := .ref (a 52)) (C := RX12) (T := TX12) (N := 91) hx hb hT iX12 hown hK hP 0 rfl rfl 66 (by decide) (hT _ t_192) (fun _ h9 => h9) rfl dX12_twice_54 ?_
              refine lv_aload_n hx hb dX12_twice_57 rfl (lv_at hl 0 rfl) ?_
              refine va_get (D := D) (ci := 12) (v := .int (i 63)) (C := RX12) (T := TX12) (N := 91) hx hb hT iX12 hown hK hP 0 rfl rfl 63 (by decide) (hT _ t_191) (fun _ h9 => h9) rfl dX12_twice_58 ?_
              refine lv_iload_n hx hb dX12_twice_61 rfl (lv_at hl 1 rfl) ?_
              refine va_iast hx hb hK hP hD hS 52 0 rfl rfl (vp_inI (by omega) (by omega)) dX12_twice_62 (fun H locs hP hD hS => ?_)
              rw [mS52] at hP hD
              have hRr : mRr (va_up r 52 (upd (r 52) ((i 63).toNatClampNeg) p0)) := Rr_upd hRr 52 ((i 63).toNatClampNeg) p0 ⟨by show (0 : Int) ≤ p0.toInt; omega, by show p0.toInt ≤ (5 : Int); omega⟩
              have hEr : mEr [52, 53, 54, 55] _ (va_up r 52 (upd (r 52) ((i 63).toNatClampNeg) p0)) := Er_up hEr 52 _ (by decide)
              refine lv_aload_n hx hb dX12_twice_63 rfl (lv_at hl 0 rfl) ?_
              refine va_get (D := D) (ci := 12) (v := .ref (a 53)) (C := RX12) (T := TX12) (N := 91) hx hb hT iX12 hown hK hP 0 rfl rfl 67 (by decide) (hT _ t_193) (fun _ h9 => h9) rfl dX12_twice_64 ?_
              refine lv_aload_n hx hb dX12_twice_67 rfl (lv_at hl 0 rfl) ?_
              refine va_get (D := D) (ci := 12) (v := .int (i 63)) (C := RX12) (T := TX12) (N := 91) hx hb hT iX12 hown hK hP 0 rfl rfl 63 (by decide) (hT _ t_191) (fun _ h9 => h9) rfl dX12_twice_68 ?_
              refine lv_iload_n hx hb dX12_twice_71 rfl (lv_at hl 2 rfl) ?_
              refine va_iast hx hb hK hP hD hS 53 0 rfl rfl (vp_inI (by omega) (by omega)) dX12_twice_72 (fun H locs hP hD hS => ?_)
              rw [mS53] at hP hD
              have hRr : mRr (va_up (va_up r 52 (upd (r 52) ((i 63).toNatClampNeg) p0)) 53 (upd (r 53) ((i 63).toNatClampNeg) p1)) := Rr_upd hRr 53 ((i 63).toNatClampNeg) p1 ⟨by show (0 : Int) ≤ p1.toInt; omega, by show p1.toInt ≤ (5 : Int); omega⟩
              have hEr : mEr [52, 53, 54, 55] _ (va_up (va_up r 52 (upd (r 52) ((i 63).toNatClampNeg) p0)) 53 (upd (r 53) ((i 63).toNatClampNeg) p1)) := Er_up hEr 53 _ (by decide)
              refine lv_aload_n hx hb dX12_twice_73 rfl (lv_at hl 0 rfl) ?_
              refine va_get (D := D) (ci := 12) (v := .ref (a 54)) (C := RX12) (T := TX12) (N := 91) hx hb hT iX12 hown hK hP 0 rfl rfl 68 (by decide) (hT _ t_194) (fun _ h9 => h9) rfl dX12_twice_74 ?_
              refine lv_aload_n hx hb dX12_twice_77 rfl (lv_at hl 0 rfl) ?_
              refine va_get (D := D) (ci := 12) (v := .int (i 63)) (C := RX12) (T := TX12) (N := 91) hx hb hT iX12 hown hK hP 0 rfl rfl 63 (by decide) (hT _ t_191) (fun _ h9 => h9) rfl dX12_twice_78 ?_
              refine lv_iload_n hx hb dX12_twice_81 rfl (lv_at hl 3 rfl) ?_
              refine va_iast hx hb hK hP hD hS 54 0 rfl rfl (vp_inI (by omega) (by omega)) dX12_twice_82 (fun H locs hP hD hS => ?_)
              rw [mS54] at hP hD
              have hRr : mRr (va_up (va_up (va_up r 52 (upd (r 52) ((i 63).toNatClampNeg) p0)) 53 (upd (r 53) ((i 63).toNatClampNeg) p1)) 54 (upd (r 54) ((i 63).toNatClampNeg) p2)) := Rr_upd hRr 54 ((i 63).toNatClampNeg) p2 ⟨by show (0 : Int) ≤ p2.toInt; omega, by show p2.toInt ≤ (9999 : Int); omega⟩
              have hEr : mEr [52, 53, 54, 55] _ (va_up (va_up (va_up r 52 (upd (r 52) ((i 63).toNatClampNeg) p0)) 53 (upd (r 53) ((i 63).toNatClampNeg) p1)) 54 (upd (r 54) ((i 63).toNatClampNeg) p2)) := Er_up hEr 54 _ (by decide)
              refine lv_aload_n hx hb dX12_twice_83 rfl (lv_at hl 0 rfl) ?_
              refine va_get (D := D) (ci := 12) (v := .ref (a 55)) (C := RX12) (T := TX12) (N := 91) hx hb hT iX12 hown hK hP 0 rfl rfl 69 (by decide) (hT _ t_195) (fun _ h9 => h9) rfl dX12_twice_84 ?_
              refine lv_aload_n hx hb dX12_twice_87 rfl (lv_at hl 0 rfl) ?_
              refine va_get (D := D) (ci := 12) (v := .int (i 63)) (C := RX12) (T := TX12) (N := 91) hx hb hT iX12 hown hK hP 0 rfl rfl 63 (by decide) (hT _ t_191) (fun _ h9 => h9) rfl dX12_twice_88 ?_
              refine lv_iload hx hb dX12_twice_91 (lv_at hl 4 rfl) ?_
              refine va_iast hx hb hK hP hD hS 55 0 rfl rfl (vp_inI (by omega) (by omega)) dX12_twice_93 (fun H locs hP hD hS => ?_)
              rw [mS55] at hP hD
              have hRr : mRr (va_up (va_up (va_up (va_up r 52 (upd (r 52) ((i 63).toNatClampNeg) p0)) 53 (upd (r 53) ((i 63).toNatClampNeg) p1)) 54 (upd (r 54) ((i 63).toNatClampNeg) p2)) 55 (upd (r 55) ((i 63).toNatClampNeg) p3)) := Rr_upd hRr 55 ((i 63).toNatClampNeg) p3 ⟨by show (0 : Int) ≤ p3.toInt; omega, by show p3.toInt ≤ (9999 : Int); omega⟩
              have hEr : mEr [52, 53, 54, 55] _ (va_up (va_up (va_up (va_up r 52 (upd (r 52) ((i 63).toNatClampNeg) p0)) 53 (upd (r 53) ((i 63).toNatClampNeg) p1)) 54 (upd (r 54) ((i 63).toNatClampNeg) p2)) 55 (upd (r 55) ((i 63).toNatClampNeg) p3)) := Er_up hEr 55 _ (by decide)
              refine lv_aload_n hx hb dX12_twice_94 rfl (lv_at hl 0 rfl) ?_
              refine lv_aload_n hx hb dX12_twice_95 rfl (lv_at hl 0 rfl) ?_
              refine va_get (D := D) (ci := 12) (v := .int (i 63)) (C := RX12) (T := TX12) (N := 91) hx hb hT iX12 hown hK hP 0 rfl rfl 63 (by decide) (hT _ t_191) (fun _ h9 => h9) rfl dX12_twice_96 ?_
              refine lv_iconst (v := 1) hx hb dX12_twice_99 (by decide) ?_
              refine lv_iadd hx hb dX12_twice_100 ?_
              refine lv_topi (fun v_16 ev_16 => ?_)
              have hv_16 : v_16.toInt = (i 63).toInt + 1 := by rw [ev_16]; have := b_rg (i 63); exact i_add (a := (i 63).toInt) (b := 1) rfl rfl (by omega) (by omega)
              refine va_put (D := D) (ci := 12) (v := .int v_16) (ty := .int) (C := RX12) (T := TX12) (N := 91) hx hb hT iX12 tyX12 tyX12_ok nmX12 hown hK hP hD hS 0 rfl rfl 63 (by decide) (hT _ t_191) (fun _ h9 => h9) rfl (by decide +kernel) rfl rfl (Nat.le_of_ble_eq_true rfl) dX12_twice_101 (fun H locs hP hD hS => ?_)
              rw [mP63] at hP hD
              have hRi := Ri_upd hRi 63 v_16 ⟨by show (0 : Int) ≤ v_16.toInt; omega, by show v_16.toInt ≤ (40 : Int); omega⟩
              have hEi := Ei_upd hEi 63 v_16 (by decide)
              refine lv_aload_n hx hb dX12_twice_104 rfl (lv_at hl 0 rfl) ?_
              refine va_get (D := D) (ci := 12) (v := .int v_16) (C := RX12) (T := TX12) (N := 91) hx hb hT iX12 hown hK hP 0 rfl rfl 63 (by decide) (hT _ t_191) (fun _ h9 => h9) rfl dX12_twice_105 ?_
              subst hQ
              exact W.iret (v := v_16) hx hb hr (fun t ht hW => ⟨⟨_, (upd i 63 v_16, va_up (va_up (va_up (va_up r 52 (upd (r 52) ((i 63).toNatClampNeg) p0)) 53 (upd (r 53) ((i 63).toNatClampNeg) p1)) 54 (upd (r 54) ((i 63).toNatClampNeg) p2)) 55 (upd (r 55) ((i 63).toNatClampNeg) p3)), rfl, ⟨hRi, hRr, hEi, hEr, trivial⟩, by rw [ht]; exact hP, va_K.moved hW.alike hK, hD⟩, hS.F ht⟩) hS.2.2 dX12_twice_108
            · have c_15 : (i 63).toInt = 40 := b_nne c_15
              refine lv_iconst (v := (-1)) hx hb dX12_twice_51 (by decide) ?_
              subst hQ
              exact W.iret (v := (-1)) hx hb hr (fun t ht hW => ⟨⟨_, (i, r), rfl, ⟨hRi, hRr, hEi, hEr, trivial⟩, by rw [ht]; exact hP, va_K.moved hW.alike hK, hD⟩, hS.F ht⟩) hS.2.2 dX12_twice_52
          · skip
            refine lv_if_eq (tgt := 51) hx hb dX12_twice_39 (by decide) (fun c_17 => ?_) (fun c_17 => absurd (by decide) c_17)
            refine lv_iconst (v := (-1)) hx hb dX12_twice_51 (by decide) ?_
            subst hQ
            exact W.iret (v := (-1)) hx hb hr (fun t ht hW => ⟨⟨_, (i, r), rfl, ⟨hRi, hRr, hEi, hEr, trivial⟩, by rw [ht]; exact hP, va_K.moved hW.alike hK, hD⟩, hS.F ht⟩) hS.2.2 dX12_twice_52
        · skip
          refine lv_if_eq (tgt := 51) hx hb dX12_twice_27 (by decide) (fun c_18 => ?_) (fun c_18 => absurd (by decide) c_18)
          refine lv_iconst (v := (-1)) hx hb dX12_twice_51 (by decide) ?_
          subst hQ
          exact W.iret (v := (-1)) hx hb hr (fun t ht hW => ⟨⟨_, (i, r), rfl, ⟨hRi, hRr, hEi, hEr, trivial⟩, by rw [ht]; exact hP, va_K.moved hW.alike hK, hD⟩, hS.F ht⟩) hS.2.2 dX12_twice_52
    · skip
      refine lv_if_eq (tgt := 51) hx hb dX12_twice_11 (by decide) (fun c_19 => ?_) (fun c_19 => absurd (by decide) c_19)
      refine lv_iconst (v := (-1)) hx hb dX12_twice_51 (by decide) ?_
      subst hQ
      exact W.iret (v := (-1)) hx hb hr (fun t ht hW => ⟨⟨_, (i, r), rfl, ⟨hRi, hRr, hEi, hEr, trivial⟩, by rw [ht]; exact hP, va_K.moved hW.alike hK, hD⟩, hS.F ht⟩) hS.2.2 dX12_twice_52
  · skip
    refine lv_if_eq (tgt := 51) hx hb dX12_twice_4 (by decide) (fun c_20 => ?_) (fun c_20 => absurd (by decide) c_20)
    refine lv_iconst (v := (-1)) hx hb dX12_twice_51 (by decide) ?_
    subst hQ
    exact W.iret (v := (-1)) hx hb hr (fun t ht hW => ⟨⟨_, (i, r), rfl, ⟨hRi, hRr, hEi, hEr, trivial⟩, by rw [ht]; exact hP, va_K.moved hW.alike hK, hD⟩, hS.F ht⟩) hS.2.2 dX12_twice_52
set_option maxHeartbeats 4000000 in
set_option maxRecDepth 100000 in
theorem c_X12_fact (l : Launch) (D : va_G) (cy : Nat → ClassId) (a : Nat → Nat) (i : Nat → Int32) (r : Nat → Nat → Int32) (rl : Nat → Int64) (p0 p1 p2 : Int32) (sz : Nat) (hRi : mRi i) (hRr : mRr r) : Met l yX12_fact (Cond.code yX12_fact cX12_fact 4 (some .int) :: gT) { frames := 2, cells := 0, slots := 0, locals := 46 } (va_Pc [.ref (a 0), .int p0, .int p1, .int p2] (rQ D cy (mW cy a i r rl) sz)) (va_Qi (fun (z : Int32) (u : (Nat → Int32) × (Nat → Nat → Int32)) => mRi u.1 ∧ mRr u.2 ∧ mEi [72] i u.1 ∧ mEr [58, 59, 60] r u.2 ∧ True) (fun (u : (Nat → Int32) × (Nat → Nat → Int32)) t => va_P D vwCl (mW cy a u.1 u.2 rl) t.heap ∧ va_K D vwCl (vT cy) t ∧ va_D (va_A (mW cy a i r rl) sz) (mW cy a u.1 u.2 rl)) (va_A (mW cy a i r rl) sz)) 0 0 (va_A (mW cy a i r rl) sz) := by
  refine Met.ofQ (cc := cX12_fact) (maxL := 4) (ret := (some .int)) (by decide) rfl ?_
  intro p e s m args below meth c s₁ B hml hv Q hQ
  obtain ⟨rfl, hsz, hP, hK, hD0⟩ := hv
  have hx := B.exec
  have hb := B.bytes
  have hr := B.returns
  have hlocks := B.notSynchronized
  have hT : ∀ w ∈ gT, w.before _ s = true := fun w h => atoms_spec (ws := (Cond.code yX12_fact cX12_fact 4 (some .int) :: gT)) B.pre w (List.mem_cons_of_mem _ h)
  have hown : s.vm.findClass RX12 = some m.cls := findClass_of_methodNamed B.named
  subst hsz
  have hD := hD0.self (sz := s.heap.size)
  generalize hAe : va_A (mW cy a i r rl) s.heap.size = A at hD hQ
  have hA : ∀ q : Nat, s.heap.size ≤ q → A q := fun q h => by rw [← hAe]; exact Or.inr h
  have hS : va_S A s.heap s.heap [] := va_S.rf
  have hl := lv_entry ([.ref (a 0), .int p0, .int p1, .int p2]) (n := 4) (Nat.le_of_ble_eq_true rfl)
  rw [lg_entry_eq]
  generalize (lg_sl ([.ref (a 0), .int p0, .int p1, .int p2]) ++ List.replicate (4 - (lg_sl ([.ref (a 0), .int p0, .int p1, .int p2])).length) Slot.unset).toArray = ls at hl ⊢
  have hl : lv_has ls 4 [(0, .ref (a 0)), (1, .int p0), (2, .int p1), (3, .int p2)] := hl
  have hEi : mEi [72] i i := Ei_rf
  have hEr : mEr [58, 59, 60] r r := Er_rf
  refine lv_iload_n hx hb dX12_fact_0 rfl (lv_at hl 1 rfl) ?_
  refine lv_iconst (v := 0) hx hb dX12_fact_1 (by decide) ?_
  refine lv_bipush (v := 10) hx hb dX12_fact_2 (by decide) ?_
  refine vp_callSi (W.runS (As := [.int p0, .int 0, .int 10]) (rest := []) ⟨hx, hb, hml, hown, hT⟩ (c_X12_in l p0 0 10) (va_cwS 3 hT (gS t_113 t_114 t_115 t_6) rfl rfl rfl (by decide +kernel) ⟨Nat.le_of_ble_eq_true rfl, Nat.le_of_ble_eq_true rfl⟩) preT rfl rfl hl.1 rfl (lv_room (Nat.le_of_ble_eq_true rfl)) dX12_fact_4 ⟨Nat.le_of_ble_eq_true rfl, Nat.le_of_ble_eq_true rfl⟩) (fun r_1 hr_1 => ?_)
  have hr_1 : BR r_1 (0 ≤ p0.toInt ∧ p0.toInt ≤ 10) 1 0 := hr_1
  rcases hr_1 with ⟨rfl, h_2⟩ | ⟨rfl, h_2⟩
  · skip
    refine lv_if_eq (tgt := 47) hx hb dX12_fact_7 (by decide) (fun c_3 => absurd c_3 (by decide)) (fun c_3 => ?_)
    refine lv_iload_n hx hb dX12_fact_10 rfl (lv_at hl 2 rfl) ?_
    refine lv_iconst (v := 0) hx hb dX12_fact_11 (by decide) ?_
    refine lv_bipush (v := 10) hx hb dX12_fact_12 (by decide) ?_
    refine vp_callSi (W.runS (As := [.int p1, .int 0, .int 10]) (rest := []) ⟨hx, hb, hml, hown, hT⟩ (c_X12_in l p1 0 10) (va_cwS 3 hT (gS t_113 t_114 t_115 t_6) rfl rfl rfl (by decide +kernel) ⟨Nat.le_of_ble_eq_true rfl, Nat.le_of_ble_eq_true rfl⟩) preT rfl rfl hl.1 rfl (lv_room (Nat.le_of_ble_eq_true rfl)) dX12_fact_14 ⟨Nat.le_of_ble_eq_true rfl, Nat.le_of_ble_eq_true rfl⟩) (fun r_4 hr_4 => ?_)
    have hr_4 : BR r_4 (0 ≤ p1.toInt ∧ p1.toInt ≤ 10) 1 0 := hr_4
    rcases hr_4 with ⟨rfl, h_5⟩ | ⟨rfl, h_5⟩
    · skip
      refine lv_if_eq (tgt := 47) hx hb dX12_fact_17 (by decide) (fun c_6 => absurd c_6 (by decide)) (fun c_6 => ?_)
      refine lv_iload_n hx hb dX12_fact_20 rfl (lv_at hl 1 rfl) ?_
      refine lv_iload_n hx hb dX12_fact_21 rfl (lv_at hl 2 rfl) ?_
      refine lv_icmp_eq (tgt := 47) hx hb dX12_fact_22 (by decide) (fun c_7 => ?_) (fun c_7 => ?_)
      · have c_7 : p0.toInt = p1.toInt := b_eq c_7
        refine lv_iconst (v := (-1)) hx hb dX12_fact_47 (by decide) ?_
        subst hQ
        exact W.iret (v := (-1)) hx hb hr (fun t ht hW => ⟨⟨_, (i, r), rfl, ⟨hRi, hRr, hEi, hEr, trivial⟩, by rw [ht]; exact hP, va_K.moved hW.alike hK, hD⟩, hS.F ht⟩) hS.2.2 dX12_fact_48
      · have c_7 : p0.toInt ≠ p1.toInt := b_ne c_7
        refine lv_iload_n hx hb dX12_fact_25 rfl (lv_at hl 3 rfl) ?_
        refine lv_sipush (v := (-999)) hx hb dX12_fact_26 (by decide) ?_
        refine lv_sipush (v := 999) hx hb dX12_fact_29 (by decide) ?_
        refine vp_callSi (W.runS (As := [.int p2, .int (-999), .int 999]) (rest := []) ⟨hx, hb, hml, hown, hT⟩ (c_X12_in l p2 (-999) 999) (va_cwS 3 hT (gS t_113 t_114 t_115 t_6) rfl rfl rfl (by decide +kernel) ⟨Nat.le_of_ble_eq_true rfl, Nat.le_of_ble_eq_true rfl⟩) preT rfl rfl hl.1 rfl (lv_room (Nat.le_of_ble_eq_true rfl)) dX12_fact_32 ⟨Nat.le_of_ble_eq_true rfl, Nat.le_of_ble_eq_true rfl⟩) (fun r_8 hr_8 => ?_)
        have hr_8 : BR r_8 ((-999) ≤ p2.toInt ∧ p2.toInt ≤ 999) 1 0 := hr_8
        rcases hr_8 with ⟨rfl, h_9⟩ | ⟨rfl, h_9⟩
        · skip
          refine lv_if_eq (tgt := 47) hx hb dX12_fact_35 (by decide) (fun c_10 => absurd c_10 (by decide)) (fun c_10 => ?_)
          refine lv_aload_n hx hb dX12_fact_38 rfl (lv_at hl 0 rfl) ?_
          refine va_get (D := D) (ci := 12) (v := .int (i 72)) (C := RX12) (T := TX12) (N := 91) hx hb hT iX12 hown hK hP 0 rfl rfl 72 (by decide) (hT _ t_196) (fun _ h9 => h9) rfl dX12_fact_39 ?_
          have hg_11 : 0 ≤ (i 72).toInt ∧ (i 72).toInt ≤ 30 := hRi 72
          refine lv_bipush (v := 30) hx hb dX12_fact_42 (by decide) ?_
          refine lv_icmp_ne (tgt := 49) hx hb dX12_fact_44 (by decide) (fun c_12 => ?_) (fun c_12 => ?_)
          · have c_12 : (i 72).toInt ≠ 30 := b_ne c_12
            refine lv_aload_n hx hb dX12_fact_49 rfl (lv_at hl 0 rfl) ?_
            refine va_get (D := D) (ci := 12) (v := .ref (a 58)) (C := RX12) (T := TX12) (N := 91) hx hb hT iX12 hown hK hP 0 rfl rfl 73 (by decide) (hT _ t_197) (fun _ h9 => h9) rfl dX12_fact_50 ?_
            refine lv_aload_n hx hb dX12_fact_53 rfl (lv_at hl 0 rfl) ?_
            refine va_get (D := D) (ci := 12) (v := .int (i 72)) (C := RX12) (T := TX12) (N := 91) hx hb hT iX12 hown hK hP 0 rfl rfl 72 (by decide) (hT _ t_196) (fun _ h9 => h9) rfl dX12_fact_54 ?_
            refine lv_iload_n hx hb dX12_fact_57 rfl (lv_at hl 1 rfl) ?_
            refine va_iast hx hb hK hP hD hS 58 0 rfl rfl (vp_inI (by omega) (by omega)) dX12_fact_58 (fun H locs hP hD hS => ?_)
            rw [mS58] at hP hD
            have hRr : mRr (va_up r 58 (upd (r 58) ((i 72).toNatClampNeg) p0)) := Rr_upd hRr 58 ((i 72).toNatClampNeg) p0 ⟨by show (0 : Int) ≤ p0.toInt; omega, by show p0.toInt ≤ (10 : Int); omega⟩
            have hEr : mEr [58, 59, 60] _ (va_up r 58 (upd (r 58) ((i 72).toNatClampNeg) p0)) := Er_up hEr 58 _ (by decide)
            refine lv_aload_n hx hb dX12_fact_59 rfl (lv_at hl 0 rfl) ?_
            refine va_get (D := D) (ci := 12) (v := .ref (a 59)) (C := RX12) (T := TX12) (N := 91) hx hb hT iX12 hown hK hP 0 rfl rfl 74 (by decide) (hT _ t_198) (fun _ h9 => h9) rfl dX12_fact_60 ?_
            refine lv_aload_n hx hb dX12_fact_63 rfl (lv_at hl 0 rfl) ?_
            refine va_get (D := D) (ci := 12) (v := .int (i 72)) (C := RX12) (T := TX12) (N := 91) hx hb hT iX12 hown hK hP 0 rfl rfl 72 (by decide) (hT _ t_196) (fun _ h9 => h9) rfl dX12_fact_64 ?_
            refine lv_iload_n hx hb dX12_fact_67 rfl (lv_at hl 2 rfl) ?_
            refine va_iast hx hb hK hP hD hS 59 0 rfl rfl (vp_inI (by omega) (by omega)) dX12_fact_68 (fun H locs hP hD hS => ?_)
            rw [mS59] at hP hD
            have hRr : mRr (va_up (va_up r 58 (upd (r 58) ((i 72).toNatClampNeg) p0)) 59 (upd (r 59) ((i 72).toNatClampNeg) p1)) := Rr_upd hRr 59 ((i 72).toNatClampNeg) p1 ⟨by show (0 : Int) ≤ p1.toInt; omega, by show p1.toInt ≤ (10 : Int); omega⟩
            have hEr : mEr [58, 59, 60] _ (va_up (va_up r 58 (upd (r 58) ((i 72).toNatClampNeg) p0)) 59 (upd (r 59) ((i 72).toNatClampNeg) p1)) := Er_up hEr 59 _ (by decide)
            refine lv_aload_n hx hb dX12_fact_69 rfl (lv_at hl 0 rfl) ?_
            refine va_get (D := D) (ci := 12) (v := .ref (a 60)) (C := RX12) (T := TX12) (N := 91) hx hb hT iX12 hown hK hP 0 rfl rfl 75 (by decide) (hT _ t_199) (fun _ h9 => h9) rfl dX12_fact_70 ?_
            refine lv_aload_n hx hb dX12_fact_73 rfl (lv_at hl 0 rfl) ?_
            refine va_get (D := D) (ci := 12) (v := .int (i 72)) (C := RX12) (T := TX12) (N := 91) hx hb hT iX12 hown hK hP 0 rfl rfl 72 (by decide) (hT _ t_196) (fun _ h9 => h9) rfl dX12_fact_74 ?_
            refine lv_iload_n hx hb dX12_fact_77 rfl (lv_at hl 3 rfl) ?_
            refine va_iast hx hb hK hP hD hS 60 0 rfl rfl (vp_inI (by omega) (by omega)) dX12_fact_78 (fun H locs hP hD hS => ?_)
            rw [mS60] at hP hD
            have hRr : mRr (va_up (va_up (va_up r 58 (upd (r 58) ((i 72).toNatClampNeg) p0)) 59 (upd (r 59) ((i 72).toNatClampNeg) p1)) 60 (upd (r 60) ((i 72).toNatClampNeg) p2)) := Rr_upd hRr 60 ((i 72).toNatClampNeg) p2 ⟨by show (-999 : Int) ≤ p2.toInt; omega, by show p2.toInt ≤ (999 : Int); omega⟩
            have hEr : mEr [58, 59, 60] _ (va_up (va_up (va_up r 58 (upd (r 58) ((i 72).toNatClampNeg) p0)) 59 (upd (r 59) ((i 72).toNatClampNeg) p1)) 60 (upd (r 60) ((i 72).toNatClampNeg) p2)) := Er_up hEr 60 _ (by decide)
            refine lv_aload_n hx hb dX12_fact_79 rfl (lv_at hl 0 rfl) ?_
            refine lv_aload_n hx hb dX12_fact_80 rfl (lv_at hl 0 rfl) ?_
            refine va_get (D := D) (ci := 12) (v := .int (i 72)) (C := RX12) (T := TX12) (N := 91) hx hb hT iX12 hown hK hP 0 rfl rfl 72 (by decide) (hT _ t_196) (fun _ h9 => h9) rfl dX12_fact_81 ?_
            refine lv_iconst (v := 1) hx hb dX12_fact_84 (by decide) ?_
            refine lv_iadd hx hb dX12_fact_85 ?_
            refine lv_topi (fun v_13 ev_13 => ?_)
            have hv_13 : v_13.toInt = (i 72).toInt + 1 := by rw [ev_13]; have := b_rg (i 72); exact i_add (a := (i 72).toInt) (b := 1) rfl rfl (by omega) (by omega)
            refine va_put (D := D) (ci := 12) (v := .int v_13) (ty := .int) (C := RX12) (T := TX12) (N := 91) hx hb hT iX12 tyX12 tyX12_ok nmX12 hown hK hP hD hS 0 rfl rfl 72 (by decide) (hT _ t_196) (fun _ h9 => h9) rfl (by decide +kernel) rfl rfl (Nat.le_of_ble_eq_true rfl) dX12_fact_86 (fun H locs hP hD hS => ?_)
            rw [mP72] at hP hD
            have hRi := Ri_upd hRi 72 v_13 ⟨by show (0 : Int) ≤ v_13.toInt; omega, by show v_13.toInt ≤ (30 : Int); omega⟩
            have hEi := Ei_upd hEi 72 v_13 (by decide)
            refine lv_aload_n hx hb dX12_fact_89 rfl (lv_at hl 0 rfl) ?_
            refine va_get (D := D) (ci := 12) (v := .int v_13) (C := RX12) (T := TX12) (N := 91) hx hb hT iX12 hown hK hP 0 rfl rfl 72 (by decide) (hT _ t_196) (fun _ h9 => h9) rfl dX12_fact_90 ?_
            subst hQ
            exact W.iret (v := v_13) hx hb hr (fun t ht hW => ⟨⟨_, (upd i 72 v_13, va_up (va_up (va_up r 58 (upd (r 58) ((i 72).toNatClampNeg) p0)) 59 (upd (r 59) ((i 72).toNatClampNeg) p1)) 60 (upd (r 60) ((i 72).toNatClampNeg) p2)), rfl, ⟨hRi, hRr, hEi, hEr, trivial⟩, by rw [ht]; exact hP, va_K.moved hW.alike hK, hD⟩, hS.F ht⟩) hS.2.2 dX12_fact_93
          · have c_12 : (i 72).toInt = 30 := b_nne c_12
            refine lv_iconst (v := (-1)) hx hb dX12_fact_47 (by decide) ?_
            subst hQ
            exact W.iret (v := (-1)) hx hb hr (fun t ht hW => ⟨⟨_, (i, r), rfl, ⟨hRi, hRr, hEi, hEr, trivial⟩, by rw [ht]; exact hP, va_K.moved hW.alike hK, hD⟩, hS.F ht⟩) hS.2.2 dX12_fact_48
        · skip
          refine lv_if_eq (tgt := 47) hx hb dX12_fact_35 (by decide) (fun c_14 => ?_) (fun c_14 => absurd (by decide) c_14)
          refine lv_iconst (v := (-1)) hx hb dX12_fact_47 (by decide) ?_
          subst hQ
          exact W.iret (v := (-1)) hx hb hr (fun t ht hW => ⟨⟨_, (i, r), rfl, ⟨hRi, hRr, hEi, hEr, trivial⟩, by rw [ht]; exact hP, va_K.moved hW.alike hK, hD⟩, hS.F ht⟩) hS.2.2 dX12_fact_48
    · skip
      refine lv_if_eq (tgt := 47) hx hb dX12_fact_17 (by decide) (fun c_15 => ?_) (fun c_15 => absurd (by decide) c_15)
      refine lv_iconst (v := (-1)) hx hb dX12_fact_47 (by decide) ?_
      subst hQ
      exact W.iret (v := (-1)) hx hb hr (fun t ht hW => ⟨⟨_, (i, r), rfl, ⟨hRi, hRr, hEi, hEr, trivial⟩, by rw [ht]; exact hP, va_K.moved hW.alike hK, hD⟩, hS.F ht⟩) hS.2.2 dX12_fact_48
  · skip
    refine lv_if_eq (tgt := 47) hx hb dX12_fact_7 (by decide) (fun c_16 => ?_) (fun c_16 => absurd (by decide) c_16)
    refine lv_iconst (v := (-1)) hx hb dX12_fact_47 (by decide) ?_
    subst hQ
    exact W.iret (v := (-1)) hx hb hr (fun t ht hW => ⟨⟨_, (i, r), rfl, ⟨hRi, hRr, hEi, hEr, trivial⟩, by rw [ht]; exact hP, va_K.moved hW.alike hK, hD⟩, hS.F ht⟩) hS.2.2 dX12_fact_48
