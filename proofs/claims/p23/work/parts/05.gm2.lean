set_option maxRecDepth 100000 in
theorem t_12 : Cond.code yX12_isHome cX12_isHome 2 (some .boolean) ∈ gT := tm (tb6 (List.mem_of_getElem? (i := 22) (by rfl))) (by decide +kernel)
set_option maxRecDepth 100000 in
theorem t_13 : Cond.methodLink RX12 249 yX12_isHome ∈ gT := tm (tb6 (List.mem_of_getElem? (i := 19) (by rfl))) (by decide +kernel)
set_option maxRecDepth 100000 in
theorem t_14 : Cond.instanceMethod yX12_isHome ∈ gT := tm (tb6 (List.mem_of_getElem? (i := 21) (by rfl))) (by decide +kernel)
theorem t_15 : Cond.selects RX12 yX12_isHome yX12_isHome ∈ gT := tmp (List.mem_of_getElem? (i := 32) (by decide +kernel)) (by decide +kernel)
set_option maxRecDepth 100000 in
theorem t_16 : Cond.fieldLink RX12 37 "DepositJudgeModel" "firstMany" "[I" ∈ gT := tm (tb4 (List.mem_of_getElem? (i := 208) (by rfl))) (by decide +kernel)
set_option maxRecDepth 100000 in
theorem t_17 : Cond.fieldLink RX12 28 "DepositJudgeModel" "toOf" "[I" ∈ gT := tm (tb4 (List.mem_of_getElem? (i := 205) (by rfl))) (by decide +kernel)
set_option maxRecDepth 100000 in
theorem t_18 : Cond.fieldLink RX12 25 "DepositJudgeModel" "fromOf" "[I" ∈ gT := tm (tb4 (List.mem_of_getElem? (i := 204) (by rfl))) (by decide +kernel)
set_option maxRecDepth 100000 in
theorem t_19 : Cond.fieldLink RX12 52 "DepositJudgeModel" "firstAge" "[I" ∈ gT := tm (tb4 (List.mem_of_getElem? (i := 213) (by rfl))) (by decide +kernel)
set_option maxRecDepth 100000 in
theorem t_20 : Cond.code yX12_monthsOf cX12_monthsOf 2 (some .int) ∈ gT := tm (tb6 (List.mem_of_getElem? (i := 184) (by rfl))) (by decide +kernel)
set_option maxRecDepth 100000 in
theorem t_21 : Cond.methodLink RX12 364 yX12_monthsOf ∈ gT := tm (tb6 (List.mem_of_getElem? (i := 181) (by rfl))) (by decide +kernel)
set_option maxRecDepth 100000 in
theorem t_22 : Cond.instanceMethod yX12_monthsOf ∈ gT := tm (tb6 (List.mem_of_getElem? (i := 183) (by rfl))) (by decide +kernel)
theorem t_23 : Cond.selects RX12 yX12_monthsOf yX12_monthsOf ∈ gT := tmp (List.mem_of_getElem? (i := 64) (by decide +kernel)) (by decide +kernel)
set_option maxRecDepth 100000 in
theorem t_24 : Cond.fieldLink RX12 46 "DepositJudgeModel" "firstKind" "[I" ∈ gT := tm (tb4 (List.mem_of_getElem? (i := 211) (by rfl))) (by decide +kernel)
set_option maxRecDepth 100000 in
theorem t_25 : Cond.fieldLink RX12 7 "DepositJudgeModel" "lifeOf" "[I" ∈ gT := tm (tb4 (List.mem_of_getElem? (i := 199) (by rfl))) (by decide +kernel)
set_option maxRecDepth 100000 in
theorem t_26 : Cond.fieldLink RX12 13 "DepositJudgeModel" "priceOf" "[I" ∈ gT := tm (tb4 (List.mem_of_getElem? (i := 200) (by rfl))) (by decide +kernel)
set_option maxRecDepth 100000 in
theorem t_27 : Cond.fieldLink RX12 16 "DepositJudgeModel" "regionOf" "[I" ∈ gT := tm (tb4 (List.mem_of_getElem? (i := 201) (by rfl))) (by decide +kernel)
set_option maxRecDepth 100000 in
theorem t_28 : Cond.fieldLink RX12 55 "DepositJudgeModel" "lastRoom" "[I" ∈ gT := tm (tb4 (List.mem_of_getElem? (i := 214) (by rfl))) (by decide +kernel)
set_option maxRecDepth 100000 in
theorem t_29 : Cond.fieldLink RX12 58 "DepositJudgeModel" "lastKind" "[I" ∈ gT := tm (tb4 (List.mem_of_getElem? (i := 215) (by rfl))) (by decide +kernel)
set_option maxRecDepth 100000 in
theorem t_30 : Cond.fieldLink RX12 43 "DepositJudgeModel" "firstRoom" "[I" ∈ gT := tm (tb4 (List.mem_of_getElem? (i := 210) (by rfl))) (by decide +kernel)
set_option maxRecDepth 100000 in
theorem t_31 : Cond.fieldLink RX12 138 "DepositJudgeModel" "evidenceOf" "[I" ∈ gT := tm (tb5 (List.mem_of_getElem? (i := 12) (by rfl))) (by decide +kernel)
set_option maxRecDepth 100000 in
theorem t_32 : Cond.fieldLink RX12 111 "DepositJudgeModel" "joined" "[I" ∈ gT := tm (tb5 (List.mem_of_getElem? (i := 2) (by rfl))) (by decide +kernel)
set_option maxRecDepth 100000 in
theorem t_33 : Cond.fieldLink RX12 61 "DepositJudgeModel" "lastState" "[I" ∈ gT := tm (tb4 (List.mem_of_getElem? (i := 216) (by rfl))) (by decide +kernel)
set_option maxRecDepth 100000 in
theorem t_34 : Cond.code yX12_stateAtLast cX12_stateAtLast 3 (some .int) ∈ gT := tm (tb6 (List.mem_of_getElem? (i := 168) (by rfl))) (by decide +kernel)
set_option maxRecDepth 100000 in
theorem t_35 : Cond.methodLink RX12 370 yX12_stateAtLast ∈ gT := tm (tb6 (List.mem_of_getElem? (i := 165) (by rfl))) (by decide +kernel)
set_option maxRecDepth 100000 in
theorem t_36 : Cond.instanceMethod yX12_stateAtLast ∈ gT := tm (tb6 (List.mem_of_getElem? (i := 167) (by rfl))) (by decide +kernel)
theorem t_37 : Cond.selects RX12 yX12_stateAtLast yX12_stateAtLast ∈ gT := tmp (List.mem_of_getElem? (i := 60) (by decide +kernel)) (by decide +kernel)
set_option maxRecDepth 100000 in
theorem t_38 : Cond.fieldLink RX12 49 "DepositJudgeModel" "firstState" "[I" ∈ gT := tm (tb4 (List.mem_of_getElem? (i := 212) (by rfl))) (by decide +kernel)
set_option maxRecDepth 100000 in
theorem t_39 : Cond.fieldLink RX12 120 "DepositJudgeModel" "pairFirst" "[I" ∈ gT := tm (tb5 (List.mem_of_getElem? (i := 5) (by rfl))) (by decide +kernel)
set_option maxRecDepth 100000 in
theorem t_40 : Cond.fieldLink RX12 123 "DepositJudgeModel" "pairLast" "[I" ∈ gT := tm (tb5 (List.mem_of_getElem? (i := 6) (by rfl))) (by decide +kernel)
set_option maxRecDepth 100000 in
theorem t_41 : Cond.fieldLink RX12 114 "DepositJudgeModel" "leftFirst" "[I" ∈ gT := tm (tb5 (List.mem_of_getElem? (i := 3) (by rfl))) (by decide +kernel)
set_option maxRecDepth 100000 in
theorem t_42 : Cond.fieldLink RX12 117 "DepositJudgeModel" "leftLast" "[I" ∈ gT := tm (tb5 (List.mem_of_getElem? (i := 4) (by rfl))) (by decide +kernel)
set_option maxRecDepth 100000 in
theorem t_43 : Cond.fieldLink RX12 40 "DepositJudgeModel" "lastMany" "[I" ∈ gT := tm (tb4 (List.mem_of_getElem? (i := 209) (by rfl))) (by decide +kernel)
set_option maxRecDepth 100000 in
theorem t_44 : Cond.fieldLink RX12 126 "DepositJudgeModel" "isTaken" "[Z" ∈ gT := tm (tb5 (List.mem_of_getElem? (i := 7) (by rfl))) (by decide +kernel)
set_option maxRecDepth 100000 in
theorem t_45 : Cond.code yX12_isOf cX12_isOf 5 (some .boolean) ∈ gT := tm (tb6 (List.mem_of_getElem? (i := 152) (by rfl))) (by decide +kernel)
set_option maxRecDepth 100000 in
theorem t_46 : Cond.methodLink RX12 383 yX12_isOf ∈ gT := tm (tb6 (List.mem_of_getElem? (i := 149) (by rfl))) (by decide +kernel)
set_option maxRecDepth 100000 in
theorem t_47 : Cond.instanceMethod yX12_isOf ∈ gT := tm (tb6 (List.mem_of_getElem? (i := 151) (by rfl))) (by decide +kernel)
theorem t_48 : Cond.selects RX12 yX12_isOf yX12_isOf ∈ gT := tmp (List.mem_of_getElem? (i := 56) (by decide +kernel)) (by decide +kernel)
set_option maxRecDepth 100000 in
theorem t_49 : Cond.code yX12_keptMost cX12_keptMost 4 (some .int) ∈ gT := tm (tb6 (List.mem_of_getElem? (i := 156) (by rfl))) (by decide +kernel)
set_option maxRecDepth 100000 in
theorem t_50 : Cond.methodLink RX12 386 yX12_keptMost ∈ gT := tm (tb6 (List.mem_of_getElem? (i := 153) (by rfl))) (by decide +kernel)
set_option maxRecDepth 100000 in
theorem t_51 : Cond.instanceMethod yX12_keptMost ∈ gT := tm (tb6 (List.mem_of_getElem? (i := 155) (by rfl))) (by decide +kernel)
theorem t_52 : Cond.selects RX12 yX12_keptMost yX12_keptMost ∈ gT := tmp (List.mem_of_getElem? (i := 57) (by decide +kernel)) (by decide +kernel)
set_option maxRecDepth 100000 in
theorem t_53 : Cond.code yX12_isLike cX12_isLike 5 (some .boolean) ∈ gT := tm (tb6 (List.mem_of_getElem? (i := 148) (by rfl))) (by decide +kernel)
set_option maxRecDepth 100000 in
theorem t_54 : Cond.methodLink RX12 379 yX12_isLike ∈ gT := tm (tb6 (List.mem_of_getElem? (i := 145) (by rfl))) (by decide +kernel)
set_option maxRecDepth 100000 in
theorem t_55 : Cond.instanceMethod yX12_isLike ∈ gT := tm (tb6 (List.mem_of_getElem? (i := 147) (by rfl))) (by decide +kernel)
theorem t_56 : Cond.selects RX12 yX12_isLike yX12_isLike ∈ gT := tmp (List.mem_of_getElem? (i := 55) (by decide +kernel)) (by decide +kernel)
set_option maxRecDepth 100000 in
theorem t_57 : Cond.code yX12_joinsOne cX12_joinsOne 10 (some .int) ∈ gT := tm (tb6 (List.mem_of_getElem? (i := 160) (by rfl))) (by decide +kernel)
set_option maxRecDepth 100000 in
theorem t_58 : Cond.methodLink RX12 389 yX12_joinsOne ∈ gT := tm (tb6 (List.mem_of_getElem? (i := 157) (by rfl))) (by decide +kernel)
set_option maxRecDepth 100000 in
theorem t_59 : Cond.instanceMethod yX12_joinsOne ∈ gT := tm (tb6 (List.mem_of_getElem? (i := 159) (by rfl))) (by decide +kernel)
theorem t_60 : Cond.selects RX12 yX12_joinsOne yX12_joinsOne ∈ gT := tmp (List.mem_of_getElem? (i := 58) (by decide +kernel)) (by decide +kernel)
def dl_17 : List (Nat × (Instr × Nat)) := [(0, (.aload_n 0, 1)), (1, (.getfield 52, 3)), (4, (.bipush 20, 2)), (6, (.iload_n 1, 1)), (7, (.imul, 1)), (8, (.iload_n 2, 1)), (9, (.iadd, 1)), (10, (.iaload, 1)), (11, (.aload_n 0, 1)), (12, (.iload_n 1, 1)), (13, (.invokevirtual 364, 3)), (16, (.iadd, 1)), (17, (.ireturn, 1))]
theorem dh_17 : dchk cX12_agedOf dl_17 = true := by decide +kernel
theorem dX12_agedOf_0 : decode cX12_agedOf 0 = .ok (.aload_n 0, 1) := dget dh_17 (k := 0) rfl
theorem dX12_agedOf_1 : decode cX12_agedOf 1 = .ok (.getfield 52, 3) := dget dh_17 (k := 1) rfl
theorem dX12_agedOf_4 : decode cX12_agedOf 4 = .ok (.bipush 20, 2) := dget dh_17 (k := 2) rfl
theorem dX12_agedOf_6 : decode cX12_agedOf 6 = .ok (.iload_n 1, 1) := dget dh_17 (k := 3) rfl
theorem dX12_agedOf_7 : decode cX12_agedOf 7 = .ok (.imul, 1) := dget dh_17 (k := 4) rfl
theorem dX12_agedOf_8 : decode cX12_agedOf 8 = .ok (.iload_n 2, 1) := dget dh_17 (k := 5) rfl
theorem dX12_agedOf_9 : decode cX12_agedOf 9 = .ok (.iadd, 1) := dget dh_17 (k := 6) rfl
theorem dX12_agedOf_10 : decode cX12_agedOf 10 = .ok (.iaload, 1) := dget dh_17 (k := 7) rfl
theorem dX12_agedOf_11 : decode cX12_agedOf 11 = .ok (.aload_n 0, 1) := dget dh_17 (k := 8) rfl
theorem dX12_agedOf_12 : decode cX12_agedOf 12 = .ok (.iload_n 1, 1) := dget dh_17 (k := 9) rfl
theorem dX12_agedOf_13 : decode cX12_agedOf 13 = .ok (.invokevirtual 364, 3) := dget dh_17 (k := 10) rfl
theorem dX12_agedOf_16 : decode cX12_agedOf 16 = .ok (.iadd, 1) := dget dh_17 (k := 11) rfl
theorem dX12_agedOf_17 : decode cX12_agedOf 17 = .ok (.ireturn, 1) := dget dh_17 (k := 12) rfl
def dl_18 : List (Nat × (Instr × Nat)) := [(0, (.aload_n 0, 1)), (1, (.getfield 111, 3)), (4, (.iload_n 2, 1)), (5, (.iaload, 1)), (6, (.bipush 99, 2)), (8, (.if_icmp .ne 5, 3)), (11, (.iconst 2, 1)), (12, (.ireturn, 1)), (13, (.aload_n 0, 1)), (14, (.iload_n 1, 1)), (15, (.iload_n 2, 1)), (16, (.invokevirtual 370, 3)), (19, (.aload_n 0, 1)), (20, (.getfield 49, 3)), (23, (.bipush 20, 2)), (25, (.iload_n 1, 1)), (26, (.imul, 1)), (27, (.iload_n 2, 1)), (28, (.iadd, 1)), (29, (.iaload, 1))]
theorem dh_18 : dchk cX12_changeOf dl_18 = true := by decide +kernel
theorem dX12_changeOf_0 : decode cX12_changeOf 0 = .ok (.aload_n 0, 1) := dget dh_18 (k := 0) rfl
theorem dX12_changeOf_1 : decode cX12_changeOf 1 = .ok (.getfield 111, 3) := dget dh_18 (k := 1) rfl
theorem dX12_changeOf_4 : decode cX12_changeOf 4 = .ok (.iload_n 2, 1) := dget dh_18 (k := 2) rfl
theorem dX12_changeOf_5 : decode cX12_changeOf 5 = .ok (.iaload, 1) := dget dh_18 (k := 3) rfl
theorem dX12_changeOf_6 : decode cX12_changeOf 6 = .ok (.bipush 99, 2) := dget dh_18 (k := 4) rfl
theorem dX12_changeOf_8 : decode cX12_changeOf 8 = .ok (.if_icmp .ne 5, 3) := dget dh_18 (k := 5) rfl
theorem dX12_changeOf_11 : decode cX12_changeOf 11 = .ok (.iconst 2, 1) := dget dh_18 (k := 6) rfl
theorem dX12_changeOf_12 : decode cX12_changeOf 12 = .ok (.ireturn, 1) := dget dh_18 (k := 7) rfl
theorem dX12_changeOf_13 : decode cX12_changeOf 13 = .ok (.aload_n 0, 1) := dget dh_18 (k := 8) rfl
theorem dX12_changeOf_14 : decode cX12_changeOf 14 = .ok (.iload_n 1, 1) := dget dh_18 (k := 9) rfl
theorem dX12_changeOf_15 : decode cX12_changeOf 15 = .ok (.iload_n 2, 1) := dget dh_18 (k := 10) rfl
theorem dX12_changeOf_16 : decode cX12_changeOf 16 = .ok (.invokevirtual 370, 3) := dget dh_18 (k := 11) rfl
theorem dX12_changeOf_19 : decode cX12_changeOf 19 = .ok (.aload_n 0, 1) := dget dh_18 (k := 12) rfl
theorem dX12_changeOf_20 : decode cX12_changeOf 20 = .ok (.getfield 49, 3) := dget dh_18 (k := 13) rfl
theorem dX12_changeOf_23 : decode cX12_changeOf 23 = .ok (.bipush 20, 2) := dget dh_18 (k := 14) rfl
theorem dX12_changeOf_25 : decode cX12_changeOf 25 = .ok (.iload_n 1, 1) := dget dh_18 (k := 15) rfl
theorem dX12_changeOf_26 : decode cX12_changeOf 26 = .ok (.imul, 1) := dget dh_18 (k := 16) rfl
theorem dX12_changeOf_27 : decode cX12_changeOf 27 = .ok (.iload_n 2, 1) := dget dh_18 (k := 17) rfl
theorem dX12_changeOf_28 : decode cX12_changeOf 28 = .ok (.iadd, 1) := dget dh_18 (k := 18) rfl
theorem dX12_changeOf_29 : decode cX12_changeOf 29 = .ok (.iaload, 1) := dget dh_18 (k := 19) rfl
def dl_19 : List (Nat × (Instr × Nat)) := [(30, (.isub, 1)), (31, (.istore_n 3, 1)), (32, (.iload_n 3, 1)), (33, (.ifCond .ne 7, 3)), (36, (.iconst 0, 1)), (37, (.goto 12, 3)), (40, (.iload_n 3, 1)), (41, (.ifCond .ge 7, 3)), (44, (.iconst 1, 1)), (45, (.goto 4, 3)), (48, (.iconst 3, 1)), (49, (.ireturn, 1))]
theorem dh_19 : dchk cX12_changeOf dl_19 = true := by decide +kernel
theorem dX12_changeOf_30 : decode cX12_changeOf 30 = .ok (.isub, 1) := dget dh_19 (k := 0) rfl
theorem dX12_changeOf_31 : decode cX12_changeOf 31 = .ok (.istore_n 3, 1) := dget dh_19 (k := 1) rfl
theorem dX12_changeOf_32 : decode cX12_changeOf 32 = .ok (.iload_n 3, 1) := dget dh_19 (k := 2) rfl
theorem dX12_changeOf_33 : decode cX12_changeOf 33 = .ok (.ifCond .ne 7, 3) := dget dh_19 (k := 3) rfl
theorem dX12_changeOf_36 : decode cX12_changeOf 36 = .ok (.iconst 0, 1) := dget dh_19 (k := 4) rfl
theorem dX12_changeOf_37 : decode cX12_changeOf 37 = .ok (.goto 12, 3) := dget dh_19 (k := 5) rfl
theorem dX12_changeOf_40 : decode cX12_changeOf 40 = .ok (.iload_n 3, 1) := dget dh_19 (k := 6) rfl
theorem dX12_changeOf_41 : decode cX12_changeOf 41 = .ok (.ifCond .ge 7, 3) := dget dh_19 (k := 7) rfl
theorem dX12_changeOf_44 : decode cX12_changeOf 44 = .ok (.iconst 1, 1) := dget dh_19 (k := 8) rfl
theorem dX12_changeOf_45 : decode cX12_changeOf 45 = .ok (.goto 4, 3) := dget dh_19 (k := 9) rfl
theorem dX12_changeOf_48 : decode cX12_changeOf 48 = .ok (.iconst 3, 1) := dget dh_19 (k := 10) rfl
theorem dX12_changeOf_49 : decode cX12_changeOf 49 = .ok (.ireturn, 1) := dget dh_19 (k := 11) rfl
def dl_20 : List (Nat × (Instr × Nat)) := [(0, (.aload_n 0, 1)), (1, (.getfield 138, 3)), (4, (.iload_n 1, 1)), (5, (.iaload, 1)), (6, (.iconst 2, 1)), (7, (.irem, 1)), (8, (.iconst 1, 1)), (9, (.if_icmp .ne 17, 3)), (12, (.aload_n 0, 1)), (13, (.getfield 138, 3)), (16, (.iload_n 1, 1)), (17, (.iaload, 1)), (18, (.iconst 1, 1)), (19, (.if_icmp .le 7, 3)), (22, (.iconst 1, 1)), (23, (.goto 4, 3)), (26, (.iconst 0, 1)), (27, (.ireturn, 1))]
theorem dh_20 : dchk cX12_hasEvidence dl_20 = true := by decide +kernel
theorem dX12_hasEvidence_0 : decode cX12_hasEvidence 0 = .ok (.aload_n 0, 1) := dget dh_20 (k := 0) rfl
theorem dX12_hasEvidence_1 : decode cX12_hasEvidence 1 = .ok (.getfield 138, 3) := dget dh_20 (k := 1) rfl
theorem dX12_hasEvidence_4 : decode cX12_hasEvidence 4 = .ok (.iload_n 1, 1) := dget dh_20 (k := 2) rfl
theorem dX12_hasEvidence_5 : decode cX12_hasEvidence 5 = .ok (.iaload, 1) := dget dh_20 (k := 3) rfl
theorem dX12_hasEvidence_6 : decode cX12_hasEvidence 6 = .ok (.iconst 2, 1) := dget dh_20 (k := 4) rfl
theorem dX12_hasEvidence_7 : decode cX12_hasEvidence 7 = .ok (.irem, 1) := dget dh_20 (k := 5) rfl
theorem dX12_hasEvidence_8 : decode cX12_hasEvidence 8 = .ok (.iconst 1, 1) := dget dh_20 (k := 6) rfl
theorem dX12_hasEvidence_9 : decode cX12_hasEvidence 9 = .ok (.if_icmp .ne 17, 3) := dget dh_20 (k := 7) rfl
theorem dX12_hasEvidence_12 : decode cX12_hasEvidence 12 = .ok (.aload_n 0, 1) := dget dh_20 (k := 8) rfl
theorem dX12_hasEvidence_13 : decode cX12_hasEvidence 13 = .ok (.getfield 138, 3) := dget dh_20 (k := 9) rfl
theorem dX12_hasEvidence_16 : decode cX12_hasEvidence 16 = .ok (.iload_n 1, 1) := dget dh_20 (k := 10) rfl
theorem dX12_hasEvidence_17 : decode cX12_hasEvidence 17 = .ok (.iaload, 1) := dget dh_20 (k := 11) rfl
theorem dX12_hasEvidence_18 : decode cX12_hasEvidence 18 = .ok (.iconst 1, 1) := dget dh_20 (k := 12) rfl
theorem dX12_hasEvidence_19 : decode cX12_hasEvidence 19 = .ok (.if_icmp .le 7, 3) := dget dh_20 (k := 13) rfl
theorem dX12_hasEvidence_22 : decode cX12_hasEvidence 22 = .ok (.iconst 1, 1) := dget dh_20 (k := 14) rfl
theorem dX12_hasEvidence_23 : decode cX12_hasEvidence 23 = .ok (.goto 4, 3) := dget dh_20 (k := 15) rfl
theorem dX12_hasEvidence_26 : decode cX12_hasEvidence 26 = .ok (.iconst 0, 1) := dget dh_20 (k := 16) rfl
theorem dX12_hasEvidence_27 : decode cX12_hasEvidence 27 = .ok (.ireturn, 1) := dget dh_20 (k := 17) rfl
def dl_21 : List (Nat × (Instr × Nat)) := [(0, (.aload_n 0, 1)), (1, (.iload_n 1, 1)), (2, (.invokevirtual 249, 3)), (5, (.ifCond .eq 21, 3)), (8, (.iload_n 2, 1)), (9, (.ifCond .lt 17, 3)), (12, (.iload_n 2, 1)), (13, (.aload_n 0, 1)), (14, (.getfield 37, 3)), (17, (.iload_n 1, 1)), (18, (.iaload, 1)), (19, (.if_icmp .ge 7, 3)), (22, (.iconst 1, 1)), (23, (.goto 4, 3)), (26, (.iconst 0, 1)), (27, (.ireturn, 1))]
theorem dh_21 : dchk cX12_isFirst dl_21 = true := by decide +kernel
theorem dX12_isFirst_0 : decode cX12_isFirst 0 = .ok (.aload_n 0, 1) := dget dh_21 (k := 0) rfl
theorem dX12_isFirst_1 : decode cX12_isFirst 1 = .ok (.iload_n 1, 1) := dget dh_21 (k := 1) rfl
theorem dX12_isFirst_2 : decode cX12_isFirst 2 = .ok (.invokevirtual 249, 3) := dget dh_21 (k := 2) rfl
theorem dX12_isFirst_5 : decode cX12_isFirst 5 = .ok (.ifCond .eq 21, 3) := dget dh_21 (k := 3) rfl
theorem dX12_isFirst_8 : decode cX12_isFirst 8 = .ok (.iload_n 2, 1) := dget dh_21 (k := 4) rfl
theorem dX12_isFirst_9 : decode cX12_isFirst 9 = .ok (.ifCond .lt 17, 3) := dget dh_21 (k := 5) rfl
theorem dX12_isFirst_12 : decode cX12_isFirst 12 = .ok (.iload_n 2, 1) := dget dh_21 (k := 6) rfl
theorem dX12_isFirst_13 : decode cX12_isFirst 13 = .ok (.aload_n 0, 1) := dget dh_21 (k := 7) rfl
theorem dX12_isFirst_14 : decode cX12_isFirst 14 = .ok (.getfield 37, 3) := dget dh_21 (k := 8) rfl
theorem dX12_isFirst_17 : decode cX12_isFirst 17 = .ok (.iload_n 1, 1) := dget dh_21 (k := 9) rfl
theorem dX12_isFirst_18 : decode cX12_isFirst 18 = .ok (.iaload, 1) := dget dh_21 (k := 10) rfl
theorem dX12_isFirst_19 : decode cX12_isFirst 19 = .ok (.if_icmp .ge 7, 3) := dget dh_21 (k := 11) rfl
theorem dX12_isFirst_22 : decode cX12_isFirst 22 = .ok (.iconst 1, 1) := dget dh_21 (k := 12) rfl
theorem dX12_isFirst_23 : decode cX12_isFirst 23 = .ok (.goto 4, 3) := dget dh_21 (k := 13) rfl
theorem dX12_isFirst_26 : decode cX12_isFirst 26 = .ok (.iconst 0, 1) := dget dh_21 (k := 14) rfl
theorem dX12_isFirst_27 : decode cX12_isFirst 27 = .ok (.ireturn, 1) := dget dh_21 (k := 15) rfl
def dl_22 : List (Nat × (Instr × Nat)) := [(0, (.aload_n 0, 1)), (1, (.getfield 43, 3)), (4, (.bipush 20, 2)), (6, (.iload_n 1, 1)), (7, (.imul, 1)), (8, (.iload_n 2, 1)), (9, (.iadd, 1)), (10, (.iaload, 1)), (11, (.iload_n 3, 1)), (12, (.if_icmp .ne 23, 3)), (15, (.aload_n 0, 1)), (16, (.getfield 46, 3)), (19, (.bipush 20, 2)), (21, (.iload_n 1, 1)), (22, (.imul, 1)), (23, (.iload_n 2, 1)), (24, (.iadd, 1)), (25, (.iaload, 1)), (26, (.iload 4, 2)), (28, (.if_icmp .ne 7, 3))]
theorem dh_22 : dchk cX12_isLike dl_22 = true := by decide +kernel
theorem dX12_isLike_0 : decode cX12_isLike 0 = .ok (.aload_n 0, 1) := dget dh_22 (k := 0) rfl
theorem dX12_isLike_1 : decode cX12_isLike 1 = .ok (.getfield 43, 3) := dget dh_22 (k := 1) rfl
theorem dX12_isLike_4 : decode cX12_isLike 4 = .ok (.bipush 20, 2) := dget dh_22 (k := 2) rfl
theorem dX12_isLike_6 : decode cX12_isLike 6 = .ok (.iload_n 1, 1) := dget dh_22 (k := 3) rfl
theorem dX12_isLike_7 : decode cX12_isLike 7 = .ok (.imul, 1) := dget dh_22 (k := 4) rfl
theorem dX12_isLike_8 : decode cX12_isLike 8 = .ok (.iload_n 2, 1) := dget dh_22 (k := 5) rfl
theorem dX12_isLike_9 : decode cX12_isLike 9 = .ok (.iadd, 1) := dget dh_22 (k := 6) rfl
theorem dX12_isLike_10 : decode cX12_isLike 10 = .ok (.iaload, 1) := dget dh_22 (k := 7) rfl
theorem dX12_isLike_11 : decode cX12_isLike 11 = .ok (.iload_n 3, 1) := dget dh_22 (k := 8) rfl
theorem dX12_isLike_12 : decode cX12_isLike 12 = .ok (.if_icmp .ne 23, 3) := dget dh_22 (k := 9) rfl
theorem dX12_isLike_15 : decode cX12_isLike 15 = .ok (.aload_n 0, 1) := dget dh_22 (k := 10) rfl
theorem dX12_isLike_16 : decode cX12_isLike 16 = .ok (.getfield 46, 3) := dget dh_22 (k := 11) rfl
theorem dX12_isLike_19 : decode cX12_isLike 19 = .ok (.bipush 20, 2) := dget dh_22 (k := 12) rfl
theorem dX12_isLike_21 : decode cX12_isLike 21 = .ok (.iload_n 1, 1) := dget dh_22 (k := 13) rfl
theorem dX12_isLike_22 : decode cX12_isLike 22 = .ok (.imul, 1) := dget dh_22 (k := 14) rfl
theorem dX12_isLike_23 : decode cX12_isLike 23 = .ok (.iload_n 2, 1) := dget dh_22 (k := 15) rfl
theorem dX12_isLike_24 : decode cX12_isLike 24 = .ok (.iadd, 1) := dget dh_22 (k := 16) rfl
theorem dX12_isLike_25 : decode cX12_isLike 25 = .ok (.iaload, 1) := dget dh_22 (k := 17) rfl
theorem dX12_isLike_26 : decode cX12_isLike 26 = .ok (.iload 4, 2) := dget dh_22 (k := 18) rfl
theorem dX12_isLike_28 : decode cX12_isLike 28 = .ok (.if_icmp .ne 7, 3) := dget dh_22 (k := 19) rfl
def dl_23 : List (Nat × (Instr × Nat)) := [(31, (.iconst 1, 1)), (32, (.goto 4, 3)), (35, (.iconst 0, 1)), (36, (.ireturn, 1))]
theorem dh_23 : dchk cX12_isLike dl_23 = true := by decide +kernel
theorem dX12_isLike_31 : decode cX12_isLike 31 = .ok (.iconst 1, 1) := dget dh_23 (k := 0) rfl
theorem dX12_isLike_32 : decode cX12_isLike 32 = .ok (.goto 4, 3) := dget dh_23 (k := 1) rfl
theorem dX12_isLike_35 : decode cX12_isLike 35 = .ok (.iconst 0, 1) := dget dh_23 (k := 2) rfl
theorem dX12_isLike_36 : decode cX12_isLike 36 = .ok (.ireturn, 1) := dget dh_23 (k := 3) rfl
def dl_24 : List (Nat × (Instr × Nat)) := [(0, (.aload_n 0, 1)), (1, (.getfield 55, 3)), (4, (.bipush 20, 2)), (6, (.iload_n 1, 1)), (7, (.imul, 1)), (8, (.iload_n 2, 1)), (9, (.iadd, 1)), (10, (.iaload, 1)), (11, (.iload_n 3, 1)), (12, (.if_icmp .ne 23, 3)), (15, (.aload_n 0, 1)), (16, (.getfield 58, 3)), (19, (.bipush 20, 2)), (21, (.iload_n 1, 1)), (22, (.imul, 1)), (23, (.iload_n 2, 1)), (24, (.iadd, 1)), (25, (.iaload, 1)), (26, (.iload 4, 2)), (28, (.if_icmp .ne 7, 3))]
theorem dh_24 : dchk cX12_isOf dl_24 = true := by decide +kernel
theorem dX12_isOf_0 : decode cX12_isOf 0 = .ok (.aload_n 0, 1) := dget dh_24 (k := 0) rfl
theorem dX12_isOf_1 : decode cX12_isOf 1 = .ok (.getfield 55, 3) := dget dh_24 (k := 1) rfl
theorem dX12_isOf_4 : decode cX12_isOf 4 = .ok (.bipush 20, 2) := dget dh_24 (k := 2) rfl
theorem dX12_isOf_6 : decode cX12_isOf 6 = .ok (.iload_n 1, 1) := dget dh_24 (k := 3) rfl
theorem dX12_isOf_7 : decode cX12_isOf 7 = .ok (.imul, 1) := dget dh_24 (k := 4) rfl
theorem dX12_isOf_8 : decode cX12_isOf 8 = .ok (.iload_n 2, 1) := dget dh_24 (k := 5) rfl
theorem dX12_isOf_9 : decode cX12_isOf 9 = .ok (.iadd, 1) := dget dh_24 (k := 6) rfl
theorem dX12_isOf_10 : decode cX12_isOf 10 = .ok (.iaload, 1) := dget dh_24 (k := 7) rfl
theorem dX12_isOf_11 : decode cX12_isOf 11 = .ok (.iload_n 3, 1) := dget dh_24 (k := 8) rfl
theorem dX12_isOf_12 : decode cX12_isOf 12 = .ok (.if_icmp .ne 23, 3) := dget dh_24 (k := 9) rfl
theorem dX12_isOf_15 : decode cX12_isOf 15 = .ok (.aload_n 0, 1) := dget dh_24 (k := 10) rfl
theorem dX12_isOf_16 : decode cX12_isOf 16 = .ok (.getfield 58, 3) := dget dh_24 (k := 11) rfl
theorem dX12_isOf_19 : decode cX12_isOf 19 = .ok (.bipush 20, 2) := dget dh_24 (k := 12) rfl
theorem dX12_isOf_21 : decode cX12_isOf 21 = .ok (.iload_n 1, 1) := dget dh_24 (k := 13) rfl
theorem dX12_isOf_22 : decode cX12_isOf 22 = .ok (.imul, 1) := dget dh_24 (k := 14) rfl
theorem dX12_isOf_23 : decode cX12_isOf 23 = .ok (.iload_n 2, 1) := dget dh_24 (k := 15) rfl
theorem dX12_isOf_24 : decode cX12_isOf 24 = .ok (.iadd, 1) := dget dh_24 (k := 16) rfl
theorem dX12_isOf_25 : decode cX12_isOf 25 = .ok (.iaload, 1) := dget dh_24 (k := 17) rfl
theorem dX12_isOf_26 : decode cX12_isOf 26 = .ok (.iload 4, 2) := dget dh_24 (k := 18) rfl
theorem dX12_isOf_28 : decode cX12_isOf 28 = .ok (.if_icmp .ne 7, 3) := dget dh_24 (k := 19) rfl
def dl_25 : List (Nat × (Instr × Nat)) := [(31, (.iconst 1, 1)), (32, (.goto 4, 3)), (35, (.iconst 0, 1)), (36, (.ireturn, 1))]
theorem dh_25 : dchk cX12_isOf dl_25 = true := by decide +kernel
theorem dX12_isOf_31 : decode cX12_isOf 31 = .ok (.iconst 1, 1) := dget dh_25 (k := 0) rfl
theorem dX12_isOf_32 : decode cX12_isOf 32 = .ok (.goto 4, 3) := dget dh_25 (k := 1) rfl
theorem dX12_isOf_35 : decode cX12_isOf 35 = .ok (.iconst 0, 1) := dget dh_25 (k := 2) rfl
theorem dX12_isOf_36 : decode cX12_isOf 36 = .ok (.ireturn, 1) := dget dh_25 (k := 3) rfl
def dl_26 : List (Nat × (Instr × Nat)) := [(0, (.aload_n 0, 1)), (1, (.getfield 43, 3)), (4, (.bipush 20, 2)), (6, (.iload_n 1, 1)), (7, (.imul, 1)), (8, (.iload_n 2, 1)), (9, (.iadd, 1)), (10, (.iaload, 1)), (11, (.istore_n 3, 1)), (12, (.aload_n 0, 1)), (13, (.getfield 46, 3)), (16, (.bipush 20, 2)), (18, (.iload_n 1, 1)), (19, (.imul, 1)), (20, (.iload_n 2, 1)), (21, (.iadd, 1)), (22, (.iaload, 1)), (23, (.istore 4, 2)), (25, (.iconst 0, 1)), (26, (.istore 5, 2))]
theorem dh_26 : dchk cX12_joinsAll dl_26 = true := by decide +kernel
theorem dX12_joinsAll_0 : decode cX12_joinsAll 0 = .ok (.aload_n 0, 1) := dget dh_26 (k := 0) rfl
theorem dX12_joinsAll_1 : decode cX12_joinsAll 1 = .ok (.getfield 43, 3) := dget dh_26 (k := 1) rfl
theorem dX12_joinsAll_4 : decode cX12_joinsAll 4 = .ok (.bipush 20, 2) := dget dh_26 (k := 2) rfl
theorem dX12_joinsAll_6 : decode cX12_joinsAll 6 = .ok (.iload_n 1, 1) := dget dh_26 (k := 3) rfl
theorem dX12_joinsAll_7 : decode cX12_joinsAll 7 = .ok (.imul, 1) := dget dh_26 (k := 4) rfl
theorem dX12_joinsAll_8 : decode cX12_joinsAll 8 = .ok (.iload_n 2, 1) := dget dh_26 (k := 5) rfl
theorem dX12_joinsAll_9 : decode cX12_joinsAll 9 = .ok (.iadd, 1) := dget dh_26 (k := 6) rfl
theorem dX12_joinsAll_10 : decode cX12_joinsAll 10 = .ok (.iaload, 1) := dget dh_26 (k := 7) rfl
theorem dX12_joinsAll_11 : decode cX12_joinsAll 11 = .ok (.istore_n 3, 1) := dget dh_26 (k := 8) rfl
theorem dX12_joinsAll_12 : decode cX12_joinsAll 12 = .ok (.aload_n 0, 1) := dget dh_26 (k := 9) rfl
theorem dX12_joinsAll_13 : decode cX12_joinsAll 13 = .ok (.getfield 46, 3) := dget dh_26 (k := 10) rfl
theorem dX12_joinsAll_16 : decode cX12_joinsAll 16 = .ok (.bipush 20, 2) := dget dh_26 (k := 11) rfl
theorem dX12_joinsAll_18 : decode cX12_joinsAll 18 = .ok (.iload_n 1, 1) := dget dh_26 (k := 12) rfl
theorem dX12_joinsAll_19 : decode cX12_joinsAll 19 = .ok (.imul, 1) := dget dh_26 (k := 13) rfl
theorem dX12_joinsAll_20 : decode cX12_joinsAll 20 = .ok (.iload_n 2, 1) := dget dh_26 (k := 14) rfl
theorem dX12_joinsAll_21 : decode cX12_joinsAll 21 = .ok (.iadd, 1) := dget dh_26 (k := 15) rfl
theorem dX12_joinsAll_22 : decode cX12_joinsAll 22 = .ok (.iaload, 1) := dget dh_26 (k := 16) rfl
theorem dX12_joinsAll_23 : decode cX12_joinsAll 23 = .ok (.istore 4, 2) := dget dh_26 (k := 17) rfl
theorem dX12_joinsAll_25 : decode cX12_joinsAll 25 = .ok (.iconst 0, 1) := dget dh_26 (k := 18) rfl
theorem dX12_joinsAll_26 : decode cX12_joinsAll 26 = .ok (.istore 5, 2) := dget dh_26 (k := 19) rfl
def dl_27 : List (Nat × (Instr × Nat)) := [(28, (.iload 5, 2)), (30, (.bipush 10, 2)), (32, (.if_icmp .ge 25, 3)), (35, (.aload_n 0, 1)), (36, (.getfield 114, 3)), (39, (.iload 5, 2)), (41, (.iconst 0, 1)), (42, (.iastore, 1)), (43, (.aload_n 0, 1)), (44, (.getfield 117, 3)), (47, (.iload 5, 2)), (49, (.iconst 0, 1)), (50, (.iastore, 1)), (51, (.iinc 5 1, 3)), (54, (.goto (-26), 3)), (57, (.iconst 0, 1)), (58, (.istore 5, 2)), (60, (.iload 5, 2)), (62, (.aload_n 0, 1)), (63, (.getfield 37, 3))]
theorem dh_27 : dchk cX12_joinsAll dl_27 = true := by decide +kernel
theorem dX12_joinsAll_28 : decode cX12_joinsAll 28 = .ok (.iload 5, 2) := dget dh_27 (k := 0) rfl
theorem dX12_joinsAll_30 : decode cX12_joinsAll 30 = .ok (.bipush 10, 2) := dget dh_27 (k := 1) rfl
theorem dX12_joinsAll_32 : decode cX12_joinsAll 32 = .ok (.if_icmp .ge 25, 3) := dget dh_27 (k := 2) rfl
theorem dX12_joinsAll_35 : decode cX12_joinsAll 35 = .ok (.aload_n 0, 1) := dget dh_27 (k := 3) rfl
theorem dX12_joinsAll_36 : decode cX12_joinsAll 36 = .ok (.getfield 114, 3) := dget dh_27 (k := 4) rfl
theorem dX12_joinsAll_39 : decode cX12_joinsAll 39 = .ok (.iload 5, 2) := dget dh_27 (k := 5) rfl
theorem dX12_joinsAll_41 : decode cX12_joinsAll 41 = .ok (.iconst 0, 1) := dget dh_27 (k := 6) rfl
theorem dX12_joinsAll_42 : decode cX12_joinsAll 42 = .ok (.iastore, 1) := dget dh_27 (k := 7) rfl
theorem dX12_joinsAll_43 : decode cX12_joinsAll 43 = .ok (.aload_n 0, 1) := dget dh_27 (k := 8) rfl
theorem dX12_joinsAll_44 : decode cX12_joinsAll 44 = .ok (.getfield 117, 3) := dget dh_27 (k := 9) rfl
theorem dX12_joinsAll_47 : decode cX12_joinsAll 47 = .ok (.iload 5, 2) := dget dh_27 (k := 10) rfl
theorem dX12_joinsAll_49 : decode cX12_joinsAll 49 = .ok (.iconst 0, 1) := dget dh_27 (k := 11) rfl
theorem dX12_joinsAll_50 : decode cX12_joinsAll 50 = .ok (.iastore, 1) := dget dh_27 (k := 12) rfl
theorem dX12_joinsAll_51 : decode cX12_joinsAll 51 = .ok (.iinc 5 1, 3) := dget dh_27 (k := 13) rfl
theorem dX12_joinsAll_54 : decode cX12_joinsAll 54 = .ok (.goto (-26), 3) := dget dh_27 (k := 14) rfl
theorem dX12_joinsAll_57 : decode cX12_joinsAll 57 = .ok (.iconst 0, 1) := dget dh_27 (k := 15) rfl
theorem dX12_joinsAll_58 : decode cX12_joinsAll 58 = .ok (.istore 5, 2) := dget dh_27 (k := 16) rfl
theorem dX12_joinsAll_60 : decode cX12_joinsAll 60 = .ok (.iload 5, 2) := dget dh_27 (k := 17) rfl
theorem dX12_joinsAll_62 : decode cX12_joinsAll 62 = .ok (.aload_n 0, 1) := dget dh_27 (k := 18) rfl
theorem dX12_joinsAll_63 : decode cX12_joinsAll 63 = .ok (.getfield 37, 3) := dget dh_27 (k := 19) rfl
def dl_28 : List (Nat × (Instr × Nat)) := [(66, (.iload_n 1, 1)), (67, (.iaload, 1)), (68, (.if_icmp .ge 58, 3)), (71, (.aload_n 0, 1)), (72, (.iload_n 1, 1)), (73, (.iload 5, 2)), (75, (.iload_n 3, 1)), (76, (.iload 4, 2)), (78, (.invokevirtual 379, 3)), (81, (.ifCond .eq 39, 3)), (84, (.aload_n 0, 1)), (85, (.getfield 114, 3)), (88, (.aload_n 0, 1)), (89, (.getfield 49, 3)), (92, (.bipush 20, 2)), (94, (.iload_n 1, 1)), (95, (.imul, 1)), (96, (.iload 5, 2)), (98, (.iadd, 1)), (99, (.iaload, 1))]
theorem dh_28 : dchk cX12_joinsAll dl_28 = true := by decide +kernel
theorem dX12_joinsAll_66 : decode cX12_joinsAll 66 = .ok (.iload_n 1, 1) := dget dh_28 (k := 0) rfl
theorem dX12_joinsAll_67 : decode cX12_joinsAll 67 = .ok (.iaload, 1) := dget dh_28 (k := 1) rfl
theorem dX12_joinsAll_68 : decode cX12_joinsAll 68 = .ok (.if_icmp .ge 58, 3) := dget dh_28 (k := 2) rfl
theorem dX12_joinsAll_71 : decode cX12_joinsAll 71 = .ok (.aload_n 0, 1) := dget dh_28 (k := 3) rfl
theorem dX12_joinsAll_72 : decode cX12_joinsAll 72 = .ok (.iload_n 1, 1) := dget dh_28 (k := 4) rfl
theorem dX12_joinsAll_73 : decode cX12_joinsAll 73 = .ok (.iload 5, 2) := dget dh_28 (k := 5) rfl
theorem dX12_joinsAll_75 : decode cX12_joinsAll 75 = .ok (.iload_n 3, 1) := dget dh_28 (k := 6) rfl
theorem dX12_joinsAll_76 : decode cX12_joinsAll 76 = .ok (.iload 4, 2) := dget dh_28 (k := 7) rfl
theorem dX12_joinsAll_78 : decode cX12_joinsAll 78 = .ok (.invokevirtual 379, 3) := dget dh_28 (k := 8) rfl
theorem dX12_joinsAll_81 : decode cX12_joinsAll 81 = .ok (.ifCond .eq 39, 3) := dget dh_28 (k := 9) rfl
theorem dX12_joinsAll_84 : decode cX12_joinsAll 84 = .ok (.aload_n 0, 1) := dget dh_28 (k := 10) rfl
theorem dX12_joinsAll_85 : decode cX12_joinsAll 85 = .ok (.getfield 114, 3) := dget dh_28 (k := 11) rfl
theorem dX12_joinsAll_88 : decode cX12_joinsAll 88 = .ok (.aload_n 0, 1) := dget dh_28 (k := 12) rfl
theorem dX12_joinsAll_89 : decode cX12_joinsAll 89 = .ok (.getfield 49, 3) := dget dh_28 (k := 13) rfl
theorem dX12_joinsAll_92 : decode cX12_joinsAll 92 = .ok (.bipush 20, 2) := dget dh_28 (k := 14) rfl
theorem dX12_joinsAll_94 : decode cX12_joinsAll 94 = .ok (.iload_n 1, 1) := dget dh_28 (k := 15) rfl
theorem dX12_joinsAll_95 : decode cX12_joinsAll 95 = .ok (.imul, 1) := dget dh_28 (k := 16) rfl
theorem dX12_joinsAll_96 : decode cX12_joinsAll 96 = .ok (.iload 5, 2) := dget dh_28 (k := 17) rfl
theorem dX12_joinsAll_98 : decode cX12_joinsAll 98 = .ok (.iadd, 1) := dget dh_28 (k := 18) rfl
theorem dX12_joinsAll_99 : decode cX12_joinsAll 99 = .ok (.iaload, 1) := dget dh_28 (k := 19) rfl
def dl_29 : List (Nat × (Instr × Nat)) := [(100, (.aload_n 0, 1)), (101, (.getfield 114, 3)), (104, (.aload_n 0, 1)), (105, (.getfield 49, 3)), (108, (.bipush 20, 2)), (110, (.iload_n 1, 1)), (111, (.imul, 1)), (112, (.iload 5, 2)), (114, (.iadd, 1)), (115, (.iaload, 1)), (116, (.iaload, 1)), (117, (.iconst 1, 1)), (118, (.iadd, 1)), (119, (.iastore, 1)), (120, (.iinc 5 1, 3)), (123, (.goto (-63), 3)), (126, (.iconst 0, 1)), (127, (.istore 5, 2)), (129, (.iload 5, 2)), (131, (.aload_n 0, 1))]
theorem dh_29 : dchk cX12_joinsAll dl_29 = true := by decide +kernel
theorem dX12_joinsAll_100 : decode cX12_joinsAll 100 = .ok (.aload_n 0, 1) := dget dh_29 (k := 0) rfl
theorem dX12_joinsAll_101 : decode cX12_joinsAll 101 = .ok (.getfield 114, 3) := dget dh_29 (k := 1) rfl
theorem dX12_joinsAll_104 : decode cX12_joinsAll 104 = .ok (.aload_n 0, 1) := dget dh_29 (k := 2) rfl
theorem dX12_joinsAll_105 : decode cX12_joinsAll 105 = .ok (.getfield 49, 3) := dget dh_29 (k := 3) rfl
theorem dX12_joinsAll_108 : decode cX12_joinsAll 108 = .ok (.bipush 20, 2) := dget dh_29 (k := 4) rfl
theorem dX12_joinsAll_110 : decode cX12_joinsAll 110 = .ok (.iload_n 1, 1) := dget dh_29 (k := 5) rfl
theorem dX12_joinsAll_111 : decode cX12_joinsAll 111 = .ok (.imul, 1) := dget dh_29 (k := 6) rfl
theorem dX12_joinsAll_112 : decode cX12_joinsAll 112 = .ok (.iload 5, 2) := dget dh_29 (k := 7) rfl
theorem dX12_joinsAll_114 : decode cX12_joinsAll 114 = .ok (.iadd, 1) := dget dh_29 (k := 8) rfl
theorem dX12_joinsAll_115 : decode cX12_joinsAll 115 = .ok (.iaload, 1) := dget dh_29 (k := 9) rfl
theorem dX12_joinsAll_116 : decode cX12_joinsAll 116 = .ok (.iaload, 1) := dget dh_29 (k := 10) rfl
theorem dX12_joinsAll_117 : decode cX12_joinsAll 117 = .ok (.iconst 1, 1) := dget dh_29 (k := 11) rfl
theorem dX12_joinsAll_118 : decode cX12_joinsAll 118 = .ok (.iadd, 1) := dget dh_29 (k := 12) rfl
theorem dX12_joinsAll_119 : decode cX12_joinsAll 119 = .ok (.iastore, 1) := dget dh_29 (k := 13) rfl
theorem dX12_joinsAll_120 : decode cX12_joinsAll 120 = .ok (.iinc 5 1, 3) := dget dh_29 (k := 14) rfl
theorem dX12_joinsAll_123 : decode cX12_joinsAll 123 = .ok (.goto (-63), 3) := dget dh_29 (k := 15) rfl
theorem dX12_joinsAll_126 : decode cX12_joinsAll 126 = .ok (.iconst 0, 1) := dget dh_29 (k := 16) rfl
theorem dX12_joinsAll_127 : decode cX12_joinsAll 127 = .ok (.istore 5, 2) := dget dh_29 (k := 17) rfl
theorem dX12_joinsAll_129 : decode cX12_joinsAll 129 = .ok (.iload 5, 2) := dget dh_29 (k := 18) rfl
theorem dX12_joinsAll_131 : decode cX12_joinsAll 131 = .ok (.aload_n 0, 1) := dget dh_29 (k := 19) rfl
def dl_30 : List (Nat × (Instr × Nat)) := [(132, (.getfield 40, 3)), (135, (.iload_n 1, 1)), (136, (.iaload, 1)), (137, (.if_icmp .ge 58, 3)), (140, (.aload_n 0, 1)), (141, (.iload_n 1, 1)), (142, (.iload 5, 2)), (144, (.iload_n 3, 1)), (145, (.iload 4, 2)), (147, (.invokevirtual 383, 3)), (150, (.ifCond .eq 39, 3)), (153, (.aload_n 0, 1)), (154, (.getfield 117, 3)), (157, (.aload_n 0, 1)), (158, (.getfield 61, 3)), (161, (.bipush 20, 2)), (163, (.iload_n 1, 1)), (164, (.imul, 1)), (165, (.iload 5, 2)), (167, (.iadd, 1))]
theorem dh_30 : dchk cX12_joinsAll dl_30 = true := by decide +kernel
theorem dX12_joinsAll_132 : decode cX12_joinsAll 132 = .ok (.getfield 40, 3) := dget dh_30 (k := 0) rfl
theorem dX12_joinsAll_135 : decode cX12_joinsAll 135 = .ok (.iload_n 1, 1) := dget dh_30 (k := 1) rfl
theorem dX12_joinsAll_136 : decode cX12_joinsAll 136 = .ok (.iaload, 1) := dget dh_30 (k := 2) rfl
theorem dX12_joinsAll_137 : decode cX12_joinsAll 137 = .ok (.if_icmp .ge 58, 3) := dget dh_30 (k := 3) rfl
theorem dX12_joinsAll_140 : decode cX12_joinsAll 140 = .ok (.aload_n 0, 1) := dget dh_30 (k := 4) rfl
theorem dX12_joinsAll_141 : decode cX12_joinsAll 141 = .ok (.iload_n 1, 1) := dget dh_30 (k := 5) rfl
theorem dX12_joinsAll_142 : decode cX12_joinsAll 142 = .ok (.iload 5, 2) := dget dh_30 (k := 6) rfl
theorem dX12_joinsAll_144 : decode cX12_joinsAll 144 = .ok (.iload_n 3, 1) := dget dh_30 (k := 7) rfl
theorem dX12_joinsAll_145 : decode cX12_joinsAll 145 = .ok (.iload 4, 2) := dget dh_30 (k := 8) rfl
theorem dX12_joinsAll_147 : decode cX12_joinsAll 147 = .ok (.invokevirtual 383, 3) := dget dh_30 (k := 9) rfl
theorem dX12_joinsAll_150 : decode cX12_joinsAll 150 = .ok (.ifCond .eq 39, 3) := dget dh_30 (k := 10) rfl
theorem dX12_joinsAll_153 : decode cX12_joinsAll 153 = .ok (.aload_n 0, 1) := dget dh_30 (k := 11) rfl
theorem dX12_joinsAll_154 : decode cX12_joinsAll 154 = .ok (.getfield 117, 3) := dget dh_30 (k := 12) rfl
theorem dX12_joinsAll_157 : decode cX12_joinsAll 157 = .ok (.aload_n 0, 1) := dget dh_30 (k := 13) rfl
theorem dX12_joinsAll_158 : decode cX12_joinsAll 158 = .ok (.getfield 61, 3) := dget dh_30 (k := 14) rfl
theorem dX12_joinsAll_161 : decode cX12_joinsAll 161 = .ok (.bipush 20, 2) := dget dh_30 (k := 15) rfl
theorem dX12_joinsAll_163 : decode cX12_joinsAll 163 = .ok (.iload_n 1, 1) := dget dh_30 (k := 16) rfl
theorem dX12_joinsAll_164 : decode cX12_joinsAll 164 = .ok (.imul, 1) := dget dh_30 (k := 17) rfl
theorem dX12_joinsAll_165 : decode cX12_joinsAll 165 = .ok (.iload 5, 2) := dget dh_30 (k := 18) rfl
theorem dX12_joinsAll_167 : decode cX12_joinsAll 167 = .ok (.iadd, 1) := dget dh_30 (k := 19) rfl
def dl_31 : List (Nat × (Instr × Nat)) := [(168, (.iaload, 1)), (169, (.aload_n 0, 1)), (170, (.getfield 117, 3)), (173, (.aload_n 0, 1)), (174, (.getfield 61, 3)), (177, (.bipush 20, 2)), (179, (.iload_n 1, 1)), (180, (.imul, 1)), (181, (.iload 5, 2)), (183, (.iadd, 1)), (184, (.iaload, 1)), (185, (.iaload, 1)), (186, (.iconst 1, 1)), (187, (.iadd, 1)), (188, (.iastore, 1)), (189, (.iinc 5 1, 3)), (192, (.goto (-63), 3)), (195, (.aload_n 0, 1)), (196, (.invokevirtual 386, 3)), (199, (.istore 5, 2))]
theorem dh_31 : dchk cX12_joinsAll dl_31 = true := by decide +kernel
theorem dX12_joinsAll_168 : decode cX12_joinsAll 168 = .ok (.iaload, 1) := dget dh_31 (k := 0) rfl
theorem dX12_joinsAll_169 : decode cX12_joinsAll 169 = .ok (.aload_n 0, 1) := dget dh_31 (k := 1) rfl
theorem dX12_joinsAll_170 : decode cX12_joinsAll 170 = .ok (.getfield 117, 3) := dget dh_31 (k := 2) rfl
theorem dX12_joinsAll_173 : decode cX12_joinsAll 173 = .ok (.aload_n 0, 1) := dget dh_31 (k := 3) rfl
theorem dX12_joinsAll_174 : decode cX12_joinsAll 174 = .ok (.getfield 61, 3) := dget dh_31 (k := 4) rfl
theorem dX12_joinsAll_177 : decode cX12_joinsAll 177 = .ok (.bipush 20, 2) := dget dh_31 (k := 5) rfl
theorem dX12_joinsAll_179 : decode cX12_joinsAll 179 = .ok (.iload_n 1, 1) := dget dh_31 (k := 6) rfl
theorem dX12_joinsAll_180 : decode cX12_joinsAll 180 = .ok (.imul, 1) := dget dh_31 (k := 7) rfl
theorem dX12_joinsAll_181 : decode cX12_joinsAll 181 = .ok (.iload 5, 2) := dget dh_31 (k := 8) rfl
theorem dX12_joinsAll_183 : decode cX12_joinsAll 183 = .ok (.iadd, 1) := dget dh_31 (k := 9) rfl
theorem dX12_joinsAll_184 : decode cX12_joinsAll 184 = .ok (.iaload, 1) := dget dh_31 (k := 10) rfl
theorem dX12_joinsAll_185 : decode cX12_joinsAll 185 = .ok (.iaload, 1) := dget dh_31 (k := 11) rfl
theorem dX12_joinsAll_186 : decode cX12_joinsAll 186 = .ok (.iconst 1, 1) := dget dh_31 (k := 12) rfl
theorem dX12_joinsAll_187 : decode cX12_joinsAll 187 = .ok (.iadd, 1) := dget dh_31 (k := 13) rfl
theorem dX12_joinsAll_188 : decode cX12_joinsAll 188 = .ok (.iastore, 1) := dget dh_31 (k := 14) rfl
theorem dX12_joinsAll_189 : decode cX12_joinsAll 189 = .ok (.iinc 5 1, 3) := dget dh_31 (k := 15) rfl
theorem dX12_joinsAll_192 : decode cX12_joinsAll 192 = .ok (.goto (-63), 3) := dget dh_31 (k := 16) rfl
theorem dX12_joinsAll_195 : decode cX12_joinsAll 195 = .ok (.aload_n 0, 1) := dget dh_31 (k := 17) rfl
theorem dX12_joinsAll_196 : decode cX12_joinsAll 196 = .ok (.invokevirtual 386, 3) := dget dh_31 (k := 18) rfl
theorem dX12_joinsAll_199 : decode cX12_joinsAll 199 = .ok (.istore 5, 2) := dget dh_31 (k := 19) rfl
def dl_32 : List (Nat × (Instr × Nat)) := [(201, (.iload_n 2, 1)), (202, (.istore 6, 2)), (204, (.iload 6, 2)), (206, (.aload_n 0, 1)), (207, (.getfield 37, 3)), (210, (.iload_n 1, 1)), (211, (.iaload, 1)), (212, (.if_icmp .ge 69, 3)), (215, (.aload_n 0, 1)), (216, (.iload_n 1, 1)), (217, (.iload 6, 2)), (219, (.iload_n 3, 1)), (220, (.iload 4, 2)), (222, (.invokevirtual 379, 3)), (225, (.ifCond .ne 6, 3)), (228, (.goto 47, 3)), (231, (.aload_n 0, 1)), (232, (.getfield 49, 3)), (235, (.bipush 20, 2)), (237, (.iload_n 1, 1))]
theorem dh_32 : dchk cX12_joinsAll dl_32 = true := by decide +kernel
theorem dX12_joinsAll_201 : decode cX12_joinsAll 201 = .ok (.iload_n 2, 1) := dget dh_32 (k := 0) rfl
theorem dX12_joinsAll_202 : decode cX12_joinsAll 202 = .ok (.istore 6, 2) := dget dh_32 (k := 1) rfl
theorem dX12_joinsAll_204 : decode cX12_joinsAll 204 = .ok (.iload 6, 2) := dget dh_32 (k := 2) rfl
theorem dX12_joinsAll_206 : decode cX12_joinsAll 206 = .ok (.aload_n 0, 1) := dget dh_32 (k := 3) rfl
theorem dX12_joinsAll_207 : decode cX12_joinsAll 207 = .ok (.getfield 37, 3) := dget dh_32 (k := 4) rfl
theorem dX12_joinsAll_210 : decode cX12_joinsAll 210 = .ok (.iload_n 1, 1) := dget dh_32 (k := 5) rfl
theorem dX12_joinsAll_211 : decode cX12_joinsAll 211 = .ok (.iaload, 1) := dget dh_32 (k := 6) rfl
theorem dX12_joinsAll_212 : decode cX12_joinsAll 212 = .ok (.if_icmp .ge 69, 3) := dget dh_32 (k := 7) rfl
theorem dX12_joinsAll_215 : decode cX12_joinsAll 215 = .ok (.aload_n 0, 1) := dget dh_32 (k := 8) rfl
theorem dX12_joinsAll_216 : decode cX12_joinsAll 216 = .ok (.iload_n 1, 1) := dget dh_32 (k := 9) rfl
theorem dX12_joinsAll_217 : decode cX12_joinsAll 217 = .ok (.iload 6, 2) := dget dh_32 (k := 10) rfl
theorem dX12_joinsAll_219 : decode cX12_joinsAll 219 = .ok (.iload_n 3, 1) := dget dh_32 (k := 11) rfl
theorem dX12_joinsAll_220 : decode cX12_joinsAll 220 = .ok (.iload 4, 2) := dget dh_32 (k := 12) rfl
theorem dX12_joinsAll_222 : decode cX12_joinsAll 222 = .ok (.invokevirtual 379, 3) := dget dh_32 (k := 13) rfl
theorem dX12_joinsAll_225 : decode cX12_joinsAll 225 = .ok (.ifCond .ne 6, 3) := dget dh_32 (k := 14) rfl
theorem dX12_joinsAll_228 : decode cX12_joinsAll 228 = .ok (.goto 47, 3) := dget dh_32 (k := 15) rfl
theorem dX12_joinsAll_231 : decode cX12_joinsAll 231 = .ok (.aload_n 0, 1) := dget dh_32 (k := 16) rfl
theorem dX12_joinsAll_232 : decode cX12_joinsAll 232 = .ok (.getfield 49, 3) := dget dh_32 (k := 17) rfl
theorem dX12_joinsAll_235 : decode cX12_joinsAll 235 = .ok (.bipush 20, 2) := dget dh_32 (k := 18) rfl
theorem dX12_joinsAll_237 : decode cX12_joinsAll 237 = .ok (.iload_n 1, 1) := dget dh_32 (k := 19) rfl
def dl_33 : List (Nat × (Instr × Nat)) := [(238, (.imul, 1)), (239, (.iload 6, 2)), (241, (.iadd, 1)), (242, (.iaload, 1)), (243, (.istore 7, 2)), (245, (.aload_n 0, 1)), (246, (.getfield 114, 3)), (249, (.iload 7, 2)), (251, (.aload_n 0, 1)), (252, (.getfield 114, 3)), (255, (.iload 7, 2)), (257, (.iaload, 1)), (258, (.iconst 1, 1)), (259, (.isub, 1)), (260, (.iastore, 1)), (261, (.aload_n 0, 1)), (262, (.iload_n 1, 1)), (263, (.iload 6, 2)), (265, (.iload_n 3, 1)), (266, (.iload 4, 2))]
theorem dh_33 : dchk cX12_joinsAll dl_33 = true := by decide +kernel
theorem dX12_joinsAll_238 : decode cX12_joinsAll 238 = .ok (.imul, 1) := dget dh_33 (k := 0) rfl
theorem dX12_joinsAll_239 : decode cX12_joinsAll 239 = .ok (.iload 6, 2) := dget dh_33 (k := 1) rfl
theorem dX12_joinsAll_241 : decode cX12_joinsAll 241 = .ok (.iadd, 1) := dget dh_33 (k := 2) rfl
theorem dX12_joinsAll_242 : decode cX12_joinsAll 242 = .ok (.iaload, 1) := dget dh_33 (k := 3) rfl
theorem dX12_joinsAll_243 : decode cX12_joinsAll 243 = .ok (.istore 7, 2) := dget dh_33 (k := 4) rfl
theorem dX12_joinsAll_245 : decode cX12_joinsAll 245 = .ok (.aload_n 0, 1) := dget dh_33 (k := 5) rfl
theorem dX12_joinsAll_246 : decode cX12_joinsAll 246 = .ok (.getfield 114, 3) := dget dh_33 (k := 6) rfl
theorem dX12_joinsAll_249 : decode cX12_joinsAll 249 = .ok (.iload 7, 2) := dget dh_33 (k := 7) rfl
theorem dX12_joinsAll_251 : decode cX12_joinsAll 251 = .ok (.aload_n 0, 1) := dget dh_33 (k := 8) rfl
theorem dX12_joinsAll_252 : decode cX12_joinsAll 252 = .ok (.getfield 114, 3) := dget dh_33 (k := 9) rfl
theorem dX12_joinsAll_255 : decode cX12_joinsAll 255 = .ok (.iload 7, 2) := dget dh_33 (k := 10) rfl
theorem dX12_joinsAll_257 : decode cX12_joinsAll 257 = .ok (.iaload, 1) := dget dh_33 (k := 11) rfl
theorem dX12_joinsAll_258 : decode cX12_joinsAll 258 = .ok (.iconst 1, 1) := dget dh_33 (k := 12) rfl
theorem dX12_joinsAll_259 : decode cX12_joinsAll 259 = .ok (.isub, 1) := dget dh_33 (k := 13) rfl
theorem dX12_joinsAll_260 : decode cX12_joinsAll 260 = .ok (.iastore, 1) := dget dh_33 (k := 14) rfl
theorem dX12_joinsAll_261 : decode cX12_joinsAll 261 = .ok (.aload_n 0, 1) := dget dh_33 (k := 15) rfl
theorem dX12_joinsAll_262 : decode cX12_joinsAll 262 = .ok (.iload_n 1, 1) := dget dh_33 (k := 16) rfl
theorem dX12_joinsAll_263 : decode cX12_joinsAll 263 = .ok (.iload 6, 2) := dget dh_33 (k := 17) rfl
theorem dX12_joinsAll_265 : decode cX12_joinsAll 265 = .ok (.iload_n 3, 1) := dget dh_33 (k := 18) rfl
theorem dX12_joinsAll_266 : decode cX12_joinsAll 266 = .ok (.iload 4, 2) := dget dh_33 (k := 19) rfl
def dl_34 : List (Nat × (Instr × Nat)) := [(268, (.iload 5, 2)), (270, (.invokevirtual 389, 3)), (273, (.istore 5, 2)), (275, (.iinc 6 1, 3)), (278, (.goto (-74), 3)), (281, (.return_, 1))]
theorem dh_34 : dchk cX12_joinsAll dl_34 = true := by decide +kernel
theorem dX12_joinsAll_268 : decode cX12_joinsAll 268 = .ok (.iload 5, 2) := dget dh_34 (k := 0) rfl
theorem dX12_joinsAll_270 : decode cX12_joinsAll 270 = .ok (.invokevirtual 389, 3) := dget dh_34 (k := 1) rfl
theorem dX12_joinsAll_273 : decode cX12_joinsAll 273 = .ok (.istore 5, 2) := dget dh_34 (k := 2) rfl
theorem dX12_joinsAll_275 : decode cX12_joinsAll 275 = .ok (.iinc 6 1, 3) := dget dh_34 (k := 3) rfl
theorem dX12_joinsAll_278 : decode cX12_joinsAll 278 = .ok (.goto (-74), 3) := dget dh_34 (k := 4) rfl
theorem dX12_joinsAll_281 : decode cX12_joinsAll 281 = .ok (.return_, 1) := dget dh_34 (k := 5) rfl
def dl_35 : List (Nat × (Instr × Nat)) := [(0, (.aload_n 0, 1)), (1, (.getfield 49, 3)), (4, (.bipush 20, 2)), (6, (.iload_n 1, 1)), (7, (.imul, 1)), (8, (.iload_n 2, 1)), (9, (.iadd, 1)), (10, (.iaload, 1)), (11, (.istore 6, 2)), (13, (.iconst 0, 1)), (14, (.istore 7, 2)), (16, (.iload 7, 2)), (18, (.aload_n 0, 1)), (19, (.getfield 40, 3)), (22, (.iload_n 1, 1)), (23, (.iaload, 1)), (24, (.if_icmp .ge 128, 3)), (27, (.aload_n 0, 1)), (28, (.getfield 126, 3)), (31, (.iload 7, 2))]
theorem dh_35 : dchk cX12_joinsOne dl_35 = true := by decide +kernel
theorem dX12_joinsOne_0 : decode cX12_joinsOne 0 = .ok (.aload_n 0, 1) := dget dh_35 (k := 0) rfl
theorem dX12_joinsOne_1 : decode cX12_joinsOne 1 = .ok (.getfield 49, 3) := dget dh_35 (k := 1) rfl
theorem dX12_joinsOne_4 : decode cX12_joinsOne 4 = .ok (.bipush 20, 2) := dget dh_35 (k := 2) rfl
theorem dX12_joinsOne_6 : decode cX12_joinsOne 6 = .ok (.iload_n 1, 1) := dget dh_35 (k := 3) rfl
theorem dX12_joinsOne_7 : decode cX12_joinsOne 7 = .ok (.imul, 1) := dget dh_35 (k := 4) rfl
theorem dX12_joinsOne_8 : decode cX12_joinsOne 8 = .ok (.iload_n 2, 1) := dget dh_35 (k := 5) rfl
theorem dX12_joinsOne_9 : decode cX12_joinsOne 9 = .ok (.iadd, 1) := dget dh_35 (k := 6) rfl
theorem dX12_joinsOne_10 : decode cX12_joinsOne 10 = .ok (.iaload, 1) := dget dh_35 (k := 7) rfl
theorem dX12_joinsOne_11 : decode cX12_joinsOne 11 = .ok (.istore 6, 2) := dget dh_35 (k := 8) rfl
theorem dX12_joinsOne_13 : decode cX12_joinsOne 13 = .ok (.iconst 0, 1) := dget dh_35 (k := 9) rfl
theorem dX12_joinsOne_14 : decode cX12_joinsOne 14 = .ok (.istore 7, 2) := dget dh_35 (k := 10) rfl
theorem dX12_joinsOne_16 : decode cX12_joinsOne 16 = .ok (.iload 7, 2) := dget dh_35 (k := 11) rfl
theorem dX12_joinsOne_18 : decode cX12_joinsOne 18 = .ok (.aload_n 0, 1) := dget dh_35 (k := 12) rfl
theorem dX12_joinsOne_19 : decode cX12_joinsOne 19 = .ok (.getfield 40, 3) := dget dh_35 (k := 13) rfl
theorem dX12_joinsOne_22 : decode cX12_joinsOne 22 = .ok (.iload_n 1, 1) := dget dh_35 (k := 14) rfl
theorem dX12_joinsOne_23 : decode cX12_joinsOne 23 = .ok (.iaload, 1) := dget dh_35 (k := 15) rfl
theorem dX12_joinsOne_24 : decode cX12_joinsOne 24 = .ok (.if_icmp .ge 128, 3) := dget dh_35 (k := 16) rfl
theorem dX12_joinsOne_27 : decode cX12_joinsOne 27 = .ok (.aload_n 0, 1) := dget dh_35 (k := 17) rfl
theorem dX12_joinsOne_28 : decode cX12_joinsOne 28 = .ok (.getfield 126, 3) := dget dh_35 (k := 18) rfl
theorem dX12_joinsOne_31 : decode cX12_joinsOne 31 = .ok (.iload 7, 2) := dget dh_35 (k := 19) rfl
def dl_36 : List (Nat × (Instr × Nat)) := [(33, (.baload, 1)), (34, (.ifCond .ne 112, 3)), (37, (.aload_n 0, 1)), (38, (.iload_n 1, 1)), (39, (.iload 7, 2)), (41, (.iload_n 3, 1)), (42, (.iload 4, 2)), (44, (.invokevirtual 383, 3)), (47, (.ifCond .ne 6, 3)), (50, (.goto 96, 3)), (53, (.aload_n 0, 1)), (54, (.getfield 61, 3)), (57, (.bipush 20, 2)), (59, (.iload_n 1, 1)), (60, (.imul, 1)), (61, (.iload 7, 2)), (63, (.iadd, 1)), (64, (.iaload, 1)), (65, (.istore 8, 2)), (67, (.aload_n 0, 1))]
theorem dh_36 : dchk cX12_joinsOne dl_36 = true := by decide +kernel
theorem dX12_joinsOne_33 : decode cX12_joinsOne 33 = .ok (.baload, 1) := dget dh_36 (k := 0) rfl
theorem dX12_joinsOne_34 : decode cX12_joinsOne 34 = .ok (.ifCond .ne 112, 3) := dget dh_36 (k := 1) rfl
theorem dX12_joinsOne_37 : decode cX12_joinsOne 37 = .ok (.aload_n 0, 1) := dget dh_36 (k := 2) rfl
theorem dX12_joinsOne_38 : decode cX12_joinsOne 38 = .ok (.iload_n 1, 1) := dget dh_36 (k := 3) rfl
theorem dX12_joinsOne_39 : decode cX12_joinsOne 39 = .ok (.iload 7, 2) := dget dh_36 (k := 4) rfl
theorem dX12_joinsOne_41 : decode cX12_joinsOne 41 = .ok (.iload_n 3, 1) := dget dh_36 (k := 5) rfl
theorem dX12_joinsOne_42 : decode cX12_joinsOne 42 = .ok (.iload 4, 2) := dget dh_36 (k := 6) rfl
theorem dX12_joinsOne_44 : decode cX12_joinsOne 44 = .ok (.invokevirtual 383, 3) := dget dh_36 (k := 7) rfl
theorem dX12_joinsOne_47 : decode cX12_joinsOne 47 = .ok (.ifCond .ne 6, 3) := dget dh_36 (k := 8) rfl
theorem dX12_joinsOne_50 : decode cX12_joinsOne 50 = .ok (.goto 96, 3) := dget dh_36 (k := 9) rfl
theorem dX12_joinsOne_53 : decode cX12_joinsOne 53 = .ok (.aload_n 0, 1) := dget dh_36 (k := 10) rfl
theorem dX12_joinsOne_54 : decode cX12_joinsOne 54 = .ok (.getfield 61, 3) := dget dh_36 (k := 11) rfl
theorem dX12_joinsOne_57 : decode cX12_joinsOne 57 = .ok (.bipush 20, 2) := dget dh_36 (k := 12) rfl
theorem dX12_joinsOne_59 : decode cX12_joinsOne 59 = .ok (.iload_n 1, 1) := dget dh_36 (k := 13) rfl
theorem dX12_joinsOne_60 : decode cX12_joinsOne 60 = .ok (.imul, 1) := dget dh_36 (k := 14) rfl
theorem dX12_joinsOne_61 : decode cX12_joinsOne 61 = .ok (.iload 7, 2) := dget dh_36 (k := 15) rfl
theorem dX12_joinsOne_63 : decode cX12_joinsOne 63 = .ok (.iadd, 1) := dget dh_36 (k := 16) rfl
theorem dX12_joinsOne_64 : decode cX12_joinsOne 64 = .ok (.iaload, 1) := dget dh_36 (k := 17) rfl
theorem dX12_joinsOne_65 : decode cX12_joinsOne 65 = .ok (.istore 8, 2) := dget dh_36 (k := 18) rfl
theorem dX12_joinsOne_67 : decode cX12_joinsOne 67 = .ok (.aload_n 0, 1) := dget dh_36 (k := 19) rfl
def dl_37 : List (Nat × (Instr × Nat)) := [(68, (.getfield 117, 3)), (71, (.iload 8, 2)), (73, (.aload_n 0, 1)), (74, (.getfield 117, 3)), (77, (.iload 8, 2)), (79, (.iaload, 1)), (80, (.iconst 1, 1)), (81, (.isub, 1)), (82, (.iastore, 1)), (83, (.aload_n 0, 1)), (84, (.invokevirtual 386, 3)), (87, (.istore 9, 2)), (89, (.iload 9, 2)), (91, (.iload 6, 2)), (93, (.iload 8, 2)), (95, (.if_icmp .ge 8, 3)), (98, (.iload 6, 2)), (100, (.goto 5, 3)), (103, (.iload 8, 2)), (105, (.iadd, 1))]
theorem dh_37 : dchk cX12_joinsOne dl_37 = true := by decide +kernel
theorem dX12_joinsOne_68 : decode cX12_joinsOne 68 = .ok (.getfield 117, 3) := dget dh_37 (k := 0) rfl
theorem dX12_joinsOne_71 : decode cX12_joinsOne 71 = .ok (.iload 8, 2) := dget dh_37 (k := 1) rfl
theorem dX12_joinsOne_73 : decode cX12_joinsOne 73 = .ok (.aload_n 0, 1) := dget dh_37 (k := 2) rfl
theorem dX12_joinsOne_74 : decode cX12_joinsOne 74 = .ok (.getfield 117, 3) := dget dh_37 (k := 3) rfl
theorem dX12_joinsOne_77 : decode cX12_joinsOne 77 = .ok (.iload 8, 2) := dget dh_37 (k := 4) rfl
theorem dX12_joinsOne_79 : decode cX12_joinsOne 79 = .ok (.iaload, 1) := dget dh_37 (k := 5) rfl
theorem dX12_joinsOne_80 : decode cX12_joinsOne 80 = .ok (.iconst 1, 1) := dget dh_37 (k := 6) rfl
theorem dX12_joinsOne_81 : decode cX12_joinsOne 81 = .ok (.isub, 1) := dget dh_37 (k := 7) rfl
theorem dX12_joinsOne_82 : decode cX12_joinsOne 82 = .ok (.iastore, 1) := dget dh_37 (k := 8) rfl
theorem dX12_joinsOne_83 : decode cX12_joinsOne 83 = .ok (.aload_n 0, 1) := dget dh_37 (k := 9) rfl
theorem dX12_joinsOne_84 : decode cX12_joinsOne 84 = .ok (.invokevirtual 386, 3) := dget dh_37 (k := 10) rfl
theorem dX12_joinsOne_87 : decode cX12_joinsOne 87 = .ok (.istore 9, 2) := dget dh_37 (k := 11) rfl
theorem dX12_joinsOne_89 : decode cX12_joinsOne 89 = .ok (.iload 9, 2) := dget dh_37 (k := 12) rfl
theorem dX12_joinsOne_91 : decode cX12_joinsOne 91 = .ok (.iload 6, 2) := dget dh_37 (k := 13) rfl
theorem dX12_joinsOne_93 : decode cX12_joinsOne 93 = .ok (.iload 8, 2) := dget dh_37 (k := 14) rfl
theorem dX12_joinsOne_95 : decode cX12_joinsOne 95 = .ok (.if_icmp .ge 8, 3) := dget dh_37 (k := 15) rfl
theorem dX12_joinsOne_98 : decode cX12_joinsOne 98 = .ok (.iload 6, 2) := dget dh_37 (k := 16) rfl
theorem dX12_joinsOne_100 : decode cX12_joinsOne 100 = .ok (.goto 5, 3) := dget dh_37 (k := 17) rfl
theorem dX12_joinsOne_103 : decode cX12_joinsOne 103 = .ok (.iload 8, 2) := dget dh_37 (k := 18) rfl
theorem dX12_joinsOne_105 : decode cX12_joinsOne 105 = .ok (.iadd, 1) := dget dh_37 (k := 19) rfl
def dl_38 : List (Nat × (Instr × Nat)) := [(106, (.iload 5, 2)), (108, (.if_icmp .ne 22, 3)), (111, (.aload_n 0, 1)), (112, (.getfield 111, 3)), (115, (.iload_n 2, 1)), (116, (.iload 7, 2)), (118, (.iastore, 1)), (119, (.aload_n 0, 1)), (120, (.getfield 126, 3)), (123, (.iload 7, 2)), (125, (.iconst 1, 1)), (126, (.bastore, 1)), (127, (.iload 9, 2)), (129, (.ireturn, 1)), (130, (.aload_n 0, 1)), (131, (.getfield 117, 3)), (134, (.iload 8, 2)), (136, (.aload_n 0, 1)), (137, (.getfield 117, 3)), (140, (.iload 8, 2))]
theorem dh_38 : dchk cX12_joinsOne dl_38 = true := by decide +kernel
theorem dX12_joinsOne_106 : decode cX12_joinsOne 106 = .ok (.iload 5, 2) := dget dh_38 (k := 0) rfl
theorem dX12_joinsOne_108 : decode cX12_joinsOne 108 = .ok (.if_icmp .ne 22, 3) := dget dh_38 (k := 1) rfl
theorem dX12_joinsOne_111 : decode cX12_joinsOne 111 = .ok (.aload_n 0, 1) := dget dh_38 (k := 2) rfl
theorem dX12_joinsOne_112 : decode cX12_joinsOne 112 = .ok (.getfield 111, 3) := dget dh_38 (k := 3) rfl
theorem dX12_joinsOne_115 : decode cX12_joinsOne 115 = .ok (.iload_n 2, 1) := dget dh_38 (k := 4) rfl
theorem dX12_joinsOne_116 : decode cX12_joinsOne 116 = .ok (.iload 7, 2) := dget dh_38 (k := 5) rfl
theorem dX12_joinsOne_118 : decode cX12_joinsOne 118 = .ok (.iastore, 1) := dget dh_38 (k := 6) rfl
theorem dX12_joinsOne_119 : decode cX12_joinsOne 119 = .ok (.aload_n 0, 1) := dget dh_38 (k := 7) rfl
theorem dX12_joinsOne_120 : decode cX12_joinsOne 120 = .ok (.getfield 126, 3) := dget dh_38 (k := 8) rfl
theorem dX12_joinsOne_123 : decode cX12_joinsOne 123 = .ok (.iload 7, 2) := dget dh_38 (k := 9) rfl
theorem dX12_joinsOne_125 : decode cX12_joinsOne 125 = .ok (.iconst 1, 1) := dget dh_38 (k := 10) rfl
theorem dX12_joinsOne_126 : decode cX12_joinsOne 126 = .ok (.bastore, 1) := dget dh_38 (k := 11) rfl
theorem dX12_joinsOne_127 : decode cX12_joinsOne 127 = .ok (.iload 9, 2) := dget dh_38 (k := 12) rfl
theorem dX12_joinsOne_129 : decode cX12_joinsOne 129 = .ok (.ireturn, 1) := dget dh_38 (k := 13) rfl
theorem dX12_joinsOne_130 : decode cX12_joinsOne 130 = .ok (.aload_n 0, 1) := dget dh_38 (k := 14) rfl
theorem dX12_joinsOne_131 : decode cX12_joinsOne 131 = .ok (.getfield 117, 3) := dget dh_38 (k := 15) rfl
theorem dX12_joinsOne_134 : decode cX12_joinsOne 134 = .ok (.iload 8, 2) := dget dh_38 (k := 16) rfl
theorem dX12_joinsOne_136 : decode cX12_joinsOne 136 = .ok (.aload_n 0, 1) := dget dh_38 (k := 17) rfl
theorem dX12_joinsOne_137 : decode cX12_joinsOne 137 = .ok (.getfield 117, 3) := dget dh_38 (k := 18) rfl
theorem dX12_joinsOne_140 : decode cX12_joinsOne 140 = .ok (.iload 8, 2) := dget dh_38 (k := 19) rfl
def dl_39 : List (Nat × (Instr × Nat)) := [(142, (.iaload, 1)), (143, (.iconst 1, 1)), (144, (.iadd, 1)), (145, (.iastore, 1)), (146, (.iinc 7 1, 3)), (149, (.goto (-133), 3)), (152, (.aload_n 0, 1)), (153, (.getfield 111, 3)), (156, (.iload_n 2, 1)), (157, (.bipush 99, 2)), (159, (.iastore, 1)), (160, (.iload 5, 2)), (162, (.ireturn, 1))]
theorem dh_39 : dchk cX12_joinsOne dl_39 = true := by decide +kernel
theorem dX12_joinsOne_142 : decode cX12_joinsOne 142 = .ok (.iaload, 1) := dget dh_39 (k := 0) rfl
theorem dX12_joinsOne_143 : decode cX12_joinsOne 143 = .ok (.iconst 1, 1) := dget dh_39 (k := 1) rfl
theorem dX12_joinsOne_144 : decode cX12_joinsOne 144 = .ok (.iadd, 1) := dget dh_39 (k := 2) rfl
theorem dX12_joinsOne_145 : decode cX12_joinsOne 145 = .ok (.iastore, 1) := dget dh_39 (k := 3) rfl
theorem dX12_joinsOne_146 : decode cX12_joinsOne 146 = .ok (.iinc 7 1, 3) := dget dh_39 (k := 4) rfl
theorem dX12_joinsOne_149 : decode cX12_joinsOne 149 = .ok (.goto (-133), 3) := dget dh_39 (k := 5) rfl
theorem dX12_joinsOne_152 : decode cX12_joinsOne 152 = .ok (.aload_n 0, 1) := dget dh_39 (k := 6) rfl
theorem dX12_joinsOne_153 : decode cX12_joinsOne 153 = .ok (.getfield 111, 3) := dget dh_39 (k := 7) rfl
theorem dX12_joinsOne_156 : decode cX12_joinsOne 156 = .ok (.iload_n 2, 1) := dget dh_39 (k := 8) rfl
theorem dX12_joinsOne_157 : decode cX12_joinsOne 157 = .ok (.bipush 99, 2) := dget dh_39 (k := 9) rfl
theorem dX12_joinsOne_159 : decode cX12_joinsOne 159 = .ok (.iastore, 1) := dget dh_39 (k := 10) rfl
theorem dX12_joinsOne_160 : decode cX12_joinsOne 160 = .ok (.iload 5, 2) := dget dh_39 (k := 11) rfl
theorem dX12_joinsOne_162 : decode cX12_joinsOne 162 = .ok (.ireturn, 1) := dget dh_39 (k := 12) rfl
def dl_40 : List (Nat × (Instr × Nat)) := [(0, (.iconst 0, 1)), (1, (.istore_n 1, 1)), (2, (.iload_n 1, 1)), (3, (.bipush 10, 2)), (5, (.if_icmp .ge 33, 3)), (8, (.aload_n 0, 1)), (9, (.getfield 120, 3)), (12, (.iload_n 1, 1)), (13, (.aload_n 0, 1)), (14, (.getfield 114, 3)), (17, (.iload_n 1, 1)), (18, (.iaload, 1)), (19, (.iastore, 1)), (20, (.aload_n 0, 1)), (21, (.getfield 123, 3)), (24, (.iload_n 1, 1)), (25, (.aload_n 0, 1)), (26, (.getfield 117, 3)), (29, (.iload_n 1, 1)), (30, (.iaload, 1))]
theorem dh_40 : dchk cX12_keptMost dl_40 = true := by decide +kernel
theorem dX12_keptMost_0 : decode cX12_keptMost 0 = .ok (.iconst 0, 1) := dget dh_40 (k := 0) rfl
theorem dX12_keptMost_1 : decode cX12_keptMost 1 = .ok (.istore_n 1, 1) := dget dh_40 (k := 1) rfl
theorem dX12_keptMost_2 : decode cX12_keptMost 2 = .ok (.iload_n 1, 1) := dget dh_40 (k := 2) rfl
theorem dX12_keptMost_3 : decode cX12_keptMost 3 = .ok (.bipush 10, 2) := dget dh_40 (k := 3) rfl
theorem dX12_keptMost_5 : decode cX12_keptMost 5 = .ok (.if_icmp .ge 33, 3) := dget dh_40 (k := 4) rfl
theorem dX12_keptMost_8 : decode cX12_keptMost 8 = .ok (.aload_n 0, 1) := dget dh_40 (k := 5) rfl
theorem dX12_keptMost_9 : decode cX12_keptMost 9 = .ok (.getfield 120, 3) := dget dh_40 (k := 6) rfl
theorem dX12_keptMost_12 : decode cX12_keptMost 12 = .ok (.iload_n 1, 1) := dget dh_40 (k := 7) rfl
theorem dX12_keptMost_13 : decode cX12_keptMost 13 = .ok (.aload_n 0, 1) := dget dh_40 (k := 8) rfl
theorem dX12_keptMost_14 : decode cX12_keptMost 14 = .ok (.getfield 114, 3) := dget dh_40 (k := 9) rfl
theorem dX12_keptMost_17 : decode cX12_keptMost 17 = .ok (.iload_n 1, 1) := dget dh_40 (k := 10) rfl
theorem dX12_keptMost_18 : decode cX12_keptMost 18 = .ok (.iaload, 1) := dget dh_40 (k := 11) rfl
theorem dX12_keptMost_19 : decode cX12_keptMost 19 = .ok (.iastore, 1) := dget dh_40 (k := 12) rfl
theorem dX12_keptMost_20 : decode cX12_keptMost 20 = .ok (.aload_n 0, 1) := dget dh_40 (k := 13) rfl
theorem dX12_keptMost_21 : decode cX12_keptMost 21 = .ok (.getfield 123, 3) := dget dh_40 (k := 14) rfl
theorem dX12_keptMost_24 : decode cX12_keptMost 24 = .ok (.iload_n 1, 1) := dget dh_40 (k := 15) rfl
theorem dX12_keptMost_25 : decode cX12_keptMost 25 = .ok (.aload_n 0, 1) := dget dh_40 (k := 16) rfl
theorem dX12_keptMost_26 : decode cX12_keptMost 26 = .ok (.getfield 117, 3) := dget dh_40 (k := 17) rfl
theorem dX12_keptMost_29 : decode cX12_keptMost 29 = .ok (.iload_n 1, 1) := dget dh_40 (k := 18) rfl
theorem dX12_keptMost_30 : decode cX12_keptMost 30 = .ok (.iaload, 1) := dget dh_40 (k := 19) rfl
def dl_41 : List (Nat × (Instr × Nat)) := [(31, (.iastore, 1)), (32, (.iinc 1 1, 3)), (35, (.goto (-33), 3)), (38, (.iconst 0, 1)), (39, (.istore_n 1, 1)), (40, (.bipush 9, 2)), (42, (.istore_n 2, 1)), (43, (.bipush 9, 2)), (45, (.istore_n 3, 1)), (46, (.iload_n 2, 1)), (47, (.ifCond .le 83, 3)), (50, (.iload_n 3, 1)), (51, (.ifCond .le 79, 3)), (54, (.aload_n 0, 1)), (55, (.getfield 120, 3)), (58, (.iload_n 2, 1)), (59, (.iaload, 1)), (60, (.ifCond .ne 10, 3)), (63, (.iload_n 2, 1)), (64, (.iconst 1, 1))]
theorem dh_41 : dchk cX12_keptMost dl_41 = true := by decide +kernel
theorem dX12_keptMost_31 : decode cX12_keptMost 31 = .ok (.iastore, 1) := dget dh_41 (k := 0) rfl
theorem dX12_keptMost_32 : decode cX12_keptMost 32 = .ok (.iinc 1 1, 3) := dget dh_41 (k := 1) rfl
theorem dX12_keptMost_35 : decode cX12_keptMost 35 = .ok (.goto (-33), 3) := dget dh_41 (k := 2) rfl
theorem dX12_keptMost_38 : decode cX12_keptMost 38 = .ok (.iconst 0, 1) := dget dh_41 (k := 3) rfl
theorem dX12_keptMost_39 : decode cX12_keptMost 39 = .ok (.istore_n 1, 1) := dget dh_41 (k := 4) rfl
theorem dX12_keptMost_40 : decode cX12_keptMost 40 = .ok (.bipush 9, 2) := dget dh_41 (k := 5) rfl
theorem dX12_keptMost_42 : decode cX12_keptMost 42 = .ok (.istore_n 2, 1) := dget dh_41 (k := 6) rfl
theorem dX12_keptMost_43 : decode cX12_keptMost 43 = .ok (.bipush 9, 2) := dget dh_41 (k := 7) rfl
theorem dX12_keptMost_45 : decode cX12_keptMost 45 = .ok (.istore_n 3, 1) := dget dh_41 (k := 8) rfl
theorem dX12_keptMost_46 : decode cX12_keptMost 46 = .ok (.iload_n 2, 1) := dget dh_41 (k := 9) rfl
theorem dX12_keptMost_47 : decode cX12_keptMost 47 = .ok (.ifCond .le 83, 3) := dget dh_41 (k := 10) rfl
theorem dX12_keptMost_50 : decode cX12_keptMost 50 = .ok (.iload_n 3, 1) := dget dh_41 (k := 11) rfl
theorem dX12_keptMost_51 : decode cX12_keptMost 51 = .ok (.ifCond .le 79, 3) := dget dh_41 (k := 12) rfl
theorem dX12_keptMost_54 : decode cX12_keptMost 54 = .ok (.aload_n 0, 1) := dget dh_41 (k := 13) rfl
theorem dX12_keptMost_55 : decode cX12_keptMost 55 = .ok (.getfield 120, 3) := dget dh_41 (k := 14) rfl
theorem dX12_keptMost_58 : decode cX12_keptMost 58 = .ok (.iload_n 2, 1) := dget dh_41 (k := 15) rfl
theorem dX12_keptMost_59 : decode cX12_keptMost 59 = .ok (.iaload, 1) := dget dh_41 (k := 16) rfl
theorem dX12_keptMost_60 : decode cX12_keptMost 60 = .ok (.ifCond .ne 10, 3) := dget dh_41 (k := 17) rfl
theorem dX12_keptMost_63 : decode cX12_keptMost 63 = .ok (.iload_n 2, 1) := dget dh_41 (k := 18) rfl
theorem dX12_keptMost_64 : decode cX12_keptMost 64 = .ok (.iconst 1, 1) := dget dh_41 (k := 19) rfl
def dl_42 : List (Nat × (Instr × Nat)) := [(65, (.isub, 1)), (66, (.istore_n 2, 1)), (67, (.goto (-21), 3)), (70, (.aload_n 0, 1)), (71, (.getfield 123, 3)), (74, (.iload_n 3, 1)), (75, (.iaload, 1)), (76, (.ifCond .ne 10, 3)), (79, (.iload_n 3, 1)), (80, (.iconst 1, 1)), (81, (.isub, 1)), (82, (.istore_n 3, 1)), (83, (.goto (-37), 3)), (86, (.iload_n 1, 1)), (87, (.iload_n 2, 1)), (88, (.iload_n 3, 1)), (89, (.if_icmp .ge 7, 3)), (92, (.iload_n 2, 1)), (93, (.goto 4, 3)), (96, (.iload_n 3, 1))]
theorem dh_42 : dchk cX12_keptMost dl_42 = true := by decide +kernel
theorem dX12_keptMost_65 : decode cX12_keptMost 65 = .ok (.isub, 1) := dget dh_42 (k := 0) rfl
theorem dX12_keptMost_66 : decode cX12_keptMost 66 = .ok (.istore_n 2, 1) := dget dh_42 (k := 1) rfl
theorem dX12_keptMost_67 : decode cX12_keptMost 67 = .ok (.goto (-21), 3) := dget dh_42 (k := 2) rfl
theorem dX12_keptMost_70 : decode cX12_keptMost 70 = .ok (.aload_n 0, 1) := dget dh_42 (k := 3) rfl
theorem dX12_keptMost_71 : decode cX12_keptMost 71 = .ok (.getfield 123, 3) := dget dh_42 (k := 4) rfl
theorem dX12_keptMost_74 : decode cX12_keptMost 74 = .ok (.iload_n 3, 1) := dget dh_42 (k := 5) rfl
theorem dX12_keptMost_75 : decode cX12_keptMost 75 = .ok (.iaload, 1) := dget dh_42 (k := 6) rfl
theorem dX12_keptMost_76 : decode cX12_keptMost 76 = .ok (.ifCond .ne 10, 3) := dget dh_42 (k := 7) rfl
theorem dX12_keptMost_79 : decode cX12_keptMost 79 = .ok (.iload_n 3, 1) := dget dh_42 (k := 8) rfl
theorem dX12_keptMost_80 : decode cX12_keptMost 80 = .ok (.iconst 1, 1) := dget dh_42 (k := 9) rfl
theorem dX12_keptMost_81 : decode cX12_keptMost 81 = .ok (.isub, 1) := dget dh_42 (k := 10) rfl
theorem dX12_keptMost_82 : decode cX12_keptMost 82 = .ok (.istore_n 3, 1) := dget dh_42 (k := 11) rfl
theorem dX12_keptMost_83 : decode cX12_keptMost 83 = .ok (.goto (-37), 3) := dget dh_42 (k := 12) rfl
theorem dX12_keptMost_86 : decode cX12_keptMost 86 = .ok (.iload_n 1, 1) := dget dh_42 (k := 13) rfl
theorem dX12_keptMost_87 : decode cX12_keptMost 87 = .ok (.iload_n 2, 1) := dget dh_42 (k := 14) rfl
theorem dX12_keptMost_88 : decode cX12_keptMost 88 = .ok (.iload_n 3, 1) := dget dh_42 (k := 15) rfl
theorem dX12_keptMost_89 : decode cX12_keptMost 89 = .ok (.if_icmp .ge 7, 3) := dget dh_42 (k := 16) rfl
theorem dX12_keptMost_92 : decode cX12_keptMost 92 = .ok (.iload_n 2, 1) := dget dh_42 (k := 17) rfl
theorem dX12_keptMost_93 : decode cX12_keptMost 93 = .ok (.goto 4, 3) := dget dh_42 (k := 18) rfl
theorem dX12_keptMost_96 : decode cX12_keptMost 96 = .ok (.iload_n 3, 1) := dget dh_42 (k := 19) rfl
def dl_43 : List (Nat × (Instr × Nat)) := [(97, (.iadd, 1)), (98, (.istore_n 1, 1)), (99, (.aload_n 0, 1)), (100, (.getfield 120, 3)), (103, (.iload_n 2, 1)), (104, (.aload_n 0, 1)), (105, (.getfield 120, 3)), (108, (.iload_n 2, 1)), (109, (.iaload, 1)), (110, (.iconst 1, 1)), (111, (.isub, 1)), (112, (.iastore, 1)), (113, (.aload_n 0, 1)), (114, (.getfield 123, 3)), (117, (.iload_n 3, 1)), (118, (.aload_n 0, 1)), (119, (.getfield 123, 3)), (122, (.iload_n 3, 1)), (123, (.iaload, 1)), (124, (.iconst 1, 1))]
theorem dh_43 : dchk cX12_keptMost dl_43 = true := by decide +kernel
theorem dX12_keptMost_97 : decode cX12_keptMost 97 = .ok (.iadd, 1) := dget dh_43 (k := 0) rfl
theorem dX12_keptMost_98 : decode cX12_keptMost 98 = .ok (.istore_n 1, 1) := dget dh_43 (k := 1) rfl
theorem dX12_keptMost_99 : decode cX12_keptMost 99 = .ok (.aload_n 0, 1) := dget dh_43 (k := 2) rfl
theorem dX12_keptMost_100 : decode cX12_keptMost 100 = .ok (.getfield 120, 3) := dget dh_43 (k := 3) rfl
theorem dX12_keptMost_103 : decode cX12_keptMost 103 = .ok (.iload_n 2, 1) := dget dh_43 (k := 4) rfl
theorem dX12_keptMost_104 : decode cX12_keptMost 104 = .ok (.aload_n 0, 1) := dget dh_43 (k := 5) rfl
theorem dX12_keptMost_105 : decode cX12_keptMost 105 = .ok (.getfield 120, 3) := dget dh_43 (k := 6) rfl
theorem dX12_keptMost_108 : decode cX12_keptMost 108 = .ok (.iload_n 2, 1) := dget dh_43 (k := 7) rfl
theorem dX12_keptMost_109 : decode cX12_keptMost 109 = .ok (.iaload, 1) := dget dh_43 (k := 8) rfl
theorem dX12_keptMost_110 : decode cX12_keptMost 110 = .ok (.iconst 1, 1) := dget dh_43 (k := 9) rfl
theorem dX12_keptMost_111 : decode cX12_keptMost 111 = .ok (.isub, 1) := dget dh_43 (k := 10) rfl
theorem dX12_keptMost_112 : decode cX12_keptMost 112 = .ok (.iastore, 1) := dget dh_43 (k := 11) rfl
theorem dX12_keptMost_113 : decode cX12_keptMost 113 = .ok (.aload_n 0, 1) := dget dh_43 (k := 12) rfl
theorem dX12_keptMost_114 : decode cX12_keptMost 114 = .ok (.getfield 123, 3) := dget dh_43 (k := 13) rfl
theorem dX12_keptMost_117 : decode cX12_keptMost 117 = .ok (.iload_n 3, 1) := dget dh_43 (k := 14) rfl
theorem dX12_keptMost_118 : decode cX12_keptMost 118 = .ok (.aload_n 0, 1) := dget dh_43 (k := 15) rfl
theorem dX12_keptMost_119 : decode cX12_keptMost 119 = .ok (.getfield 123, 3) := dget dh_43 (k := 16) rfl
theorem dX12_keptMost_122 : decode cX12_keptMost 122 = .ok (.iload_n 3, 1) := dget dh_43 (k := 17) rfl
theorem dX12_keptMost_123 : decode cX12_keptMost 123 = .ok (.iaload, 1) := dget dh_43 (k := 18) rfl
theorem dX12_keptMost_124 : decode cX12_keptMost 124 = .ok (.iconst 1, 1) := dget dh_43 (k := 19) rfl
def dl_44 : List (Nat × (Instr × Nat)) := [(125, (.isub, 1)), (126, (.iastore, 1)), (127, (.goto (-81), 3)), (130, (.iload_n 1, 1)), (131, (.ireturn, 1))]
theorem dh_44 : dchk cX12_keptMost dl_44 = true := by decide +kernel
theorem dX12_keptMost_125 : decode cX12_keptMost 125 = .ok (.isub, 1) := dget dh_44 (k := 0) rfl
theorem dX12_keptMost_126 : decode cX12_keptMost 126 = .ok (.iastore, 1) := dget dh_44 (k := 1) rfl
theorem dX12_keptMost_127 : decode cX12_keptMost 127 = .ok (.goto (-81), 3) := dget dh_44 (k := 2) rfl
theorem dX12_keptMost_130 : decode cX12_keptMost 130 = .ok (.iload_n 1, 1) := dget dh_44 (k := 3) rfl
theorem dX12_keptMost_131 : decode cX12_keptMost 131 = .ok (.ireturn, 1) := dget dh_44 (k := 4) rfl
def dl_45 : List (Nat × (Instr × Nat)) := [(0, (.aload_n 0, 1)), (1, (.getfield 28, 3)), (4, (.iload_n 1, 1)), (5, (.iaload, 1)), (6, (.aload_n 0, 1)), (7, (.getfield 25, 3)), (10, (.iload_n 1, 1)), (11, (.iaload, 1)), (12, (.isub, 1)), (13, (.ireturn, 1))]
theorem dh_45 : dchk cX12_monthsOf dl_45 = true := by decide +kernel
theorem dX12_monthsOf_0 : decode cX12_monthsOf 0 = .ok (.aload_n 0, 1) := dget dh_45 (k := 0) rfl
theorem dX12_monthsOf_1 : decode cX12_monthsOf 1 = .ok (.getfield 28, 3) := dget dh_45 (k := 1) rfl
theorem dX12_monthsOf_4 : decode cX12_monthsOf 4 = .ok (.iload_n 1, 1) := dget dh_45 (k := 2) rfl
theorem dX12_monthsOf_5 : decode cX12_monthsOf 5 = .ok (.iaload, 1) := dget dh_45 (k := 3) rfl
theorem dX12_monthsOf_6 : decode cX12_monthsOf 6 = .ok (.aload_n 0, 1) := dget dh_45 (k := 4) rfl
theorem dX12_monthsOf_7 : decode cX12_monthsOf 7 = .ok (.getfield 25, 3) := dget dh_45 (k := 5) rfl
theorem dX12_monthsOf_10 : decode cX12_monthsOf 10 = .ok (.iload_n 1, 1) := dget dh_45 (k := 6) rfl
theorem dX12_monthsOf_11 : decode cX12_monthsOf 11 = .ok (.iaload, 1) := dget dh_45 (k := 7) rfl
theorem dX12_monthsOf_12 : decode cX12_monthsOf 12 = .ok (.isub, 1) := dget dh_45 (k := 8) rfl
theorem dX12_monthsOf_13 : decode cX12_monthsOf 13 = .ok (.ireturn, 1) := dget dh_45 (k := 9) rfl
def dl_46 : List (Nat × (Instr × Nat)) := [(0, (.aload_n 0, 1)), (1, (.getfield 111, 3)), (4, (.iload_n 2, 1)), (5, (.iaload, 1)), (6, (.bipush 99, 2)), (8, (.if_icmp .ne 7, 3)), (11, (.iconst 0, 1)), (12, (.goto 19, 3)), (15, (.aload_n 0, 1)), (16, (.getfield 61, 3)), (19, (.bipush 20, 2)), (21, (.iload_n 1, 1)), (22, (.imul, 1)), (23, (.aload_n 0, 1)), (24, (.getfield 111, 3)), (27, (.iload_n 2, 1)), (28, (.iaload, 1)), (29, (.iadd, 1)), (30, (.iaload, 1)), (31, (.ireturn, 1))]
theorem dh_46 : dchk cX12_stateAtLast dl_46 = true := by decide +kernel
theorem dX12_stateAtLast_0 : decode cX12_stateAtLast 0 = .ok (.aload_n 0, 1) := dget dh_46 (k := 0) rfl
theorem dX12_stateAtLast_1 : decode cX12_stateAtLast 1 = .ok (.getfield 111, 3) := dget dh_46 (k := 1) rfl
theorem dX12_stateAtLast_4 : decode cX12_stateAtLast 4 = .ok (.iload_n 2, 1) := dget dh_46 (k := 2) rfl
theorem dX12_stateAtLast_5 : decode cX12_stateAtLast 5 = .ok (.iaload, 1) := dget dh_46 (k := 3) rfl
theorem dX12_stateAtLast_6 : decode cX12_stateAtLast 6 = .ok (.bipush 99, 2) := dget dh_46 (k := 4) rfl
theorem dX12_stateAtLast_8 : decode cX12_stateAtLast 8 = .ok (.if_icmp .ne 7, 3) := dget dh_46 (k := 5) rfl
theorem dX12_stateAtLast_11 : decode cX12_stateAtLast 11 = .ok (.iconst 0, 1) := dget dh_46 (k := 6) rfl
theorem dX12_stateAtLast_12 : decode cX12_stateAtLast 12 = .ok (.goto 19, 3) := dget dh_46 (k := 7) rfl
theorem dX12_stateAtLast_15 : decode cX12_stateAtLast 15 = .ok (.aload_n 0, 1) := dget dh_46 (k := 8) rfl
theorem dX12_stateAtLast_16 : decode cX12_stateAtLast 16 = .ok (.getfield 61, 3) := dget dh_46 (k := 9) rfl
theorem dX12_stateAtLast_19 : decode cX12_stateAtLast 19 = .ok (.bipush 20, 2) := dget dh_46 (k := 10) rfl
theorem dX12_stateAtLast_21 : decode cX12_stateAtLast 21 = .ok (.iload_n 1, 1) := dget dh_46 (k := 11) rfl
theorem dX12_stateAtLast_22 : decode cX12_stateAtLast 22 = .ok (.imul, 1) := dget dh_46 (k := 12) rfl
theorem dX12_stateAtLast_23 : decode cX12_stateAtLast 23 = .ok (.aload_n 0, 1) := dget dh_46 (k := 13) rfl
theorem dX12_stateAtLast_24 : decode cX12_stateAtLast 24 = .ok (.getfield 111, 3) := dget dh_46 (k := 14) rfl
theorem dX12_stateAtLast_27 : decode cX12_stateAtLast 27 = .ok (.iload_n 2, 1) := dget dh_46 (k := 15) rfl
theorem dX12_stateAtLast_28 : decode cX12_stateAtLast 28 = .ok (.iaload, 1) := dget dh_46 (k := 16) rfl
theorem dX12_stateAtLast_29 : decode cX12_stateAtLast 29 = .ok (.iadd, 1) := dget dh_46 (k := 17) rfl
theorem dX12_stateAtLast_30 : decode cX12_stateAtLast 30 = .ok (.iaload, 1) := dget dh_46 (k := 18) rfl
theorem dX12_stateAtLast_31 : decode cX12_stateAtLast 31 = .ok (.ireturn, 1) := dget dh_46 (k := 19) rfl
def dl_47 : List (Nat × (Instr × Nat)) := [(0, (.aload_n 0, 1)), (1, (.getfield 46, 3)), (4, (.bipush 20, 2)), (6, (.iload_n 1, 1)), (7, (.imul, 1)), (8, (.iload_n 2, 1)), (9, (.iadd, 1)), (10, (.iaload, 1)), (11, (.istore 4, 2)), (13, (.aload_n 0, 1)), (14, (.getfield 7, 3)), (17, (.iload 4, 2)), (19, (.iaload, 1)), (20, (.istore 5, 2)), (22, (.iload_n 3, 1)), (23, (.iload 5, 2)), (25, (.if_icmp .lt 7, 3)), (28, (.iconst 0, 1)), (29, (.goto 27, 3)), (32, (.aload_n 0, 1))]
theorem dh_47 : dchk cX12_worthAt dl_47 = true := by decide +kernel
theorem dX12_worthAt_0 : decode cX12_worthAt 0 = .ok (.aload_n 0, 1) := dget dh_47 (k := 0) rfl
theorem dX12_worthAt_1 : decode cX12_worthAt 1 = .ok (.getfield 46, 3) := dget dh_47 (k := 1) rfl
theorem dX12_worthAt_4 : decode cX12_worthAt 4 = .ok (.bipush 20, 2) := dget dh_47 (k := 2) rfl
theorem dX12_worthAt_6 : decode cX12_worthAt 6 = .ok (.iload_n 1, 1) := dget dh_47 (k := 3) rfl
theorem dX12_worthAt_7 : decode cX12_worthAt 7 = .ok (.imul, 1) := dget dh_47 (k := 4) rfl
theorem dX12_worthAt_8 : decode cX12_worthAt 8 = .ok (.iload_n 2, 1) := dget dh_47 (k := 5) rfl
theorem dX12_worthAt_9 : decode cX12_worthAt 9 = .ok (.iadd, 1) := dget dh_47 (k := 6) rfl
theorem dX12_worthAt_10 : decode cX12_worthAt 10 = .ok (.iaload, 1) := dget dh_47 (k := 7) rfl
theorem dX12_worthAt_11 : decode cX12_worthAt 11 = .ok (.istore 4, 2) := dget dh_47 (k := 8) rfl
theorem dX12_worthAt_13 : decode cX12_worthAt 13 = .ok (.aload_n 0, 1) := dget dh_47 (k := 9) rfl
theorem dX12_worthAt_14 : decode cX12_worthAt 14 = .ok (.getfield 7, 3) := dget dh_47 (k := 10) rfl
theorem dX12_worthAt_17 : decode cX12_worthAt 17 = .ok (.iload 4, 2) := dget dh_47 (k := 11) rfl
theorem dX12_worthAt_19 : decode cX12_worthAt 19 = .ok (.iaload, 1) := dget dh_47 (k := 12) rfl
theorem dX12_worthAt_20 : decode cX12_worthAt 20 = .ok (.istore 5, 2) := dget dh_47 (k := 13) rfl
theorem dX12_worthAt_22 : decode cX12_worthAt 22 = .ok (.iload_n 3, 1) := dget dh_47 (k := 14) rfl
theorem dX12_worthAt_23 : decode cX12_worthAt 23 = .ok (.iload 5, 2) := dget dh_47 (k := 15) rfl
theorem dX12_worthAt_25 : decode cX12_worthAt 25 = .ok (.if_icmp .lt 7, 3) := dget dh_47 (k := 16) rfl
theorem dX12_worthAt_28 : decode cX12_worthAt 28 = .ok (.iconst 0, 1) := dget dh_47 (k := 17) rfl
theorem dX12_worthAt_29 : decode cX12_worthAt 29 = .ok (.goto 27, 3) := dget dh_47 (k := 18) rfl
theorem dX12_worthAt_32 : decode cX12_worthAt 32 = .ok (.aload_n 0, 1) := dget dh_47 (k := 19) rfl
def dl_48 : List (Nat × (Instr × Nat)) := [(33, (.getfield 13, 3)), (36, (.iconst 4, 1)), (37, (.iload 4, 2)), (39, (.imul, 1)), (40, (.aload_n 0, 1)), (41, (.getfield 16, 3)), (44, (.iload_n 1, 1)), (45, (.iaload, 1)), (46, (.iadd, 1)), (47, (.iaload, 1)), (48, (.iload 5, 2)), (50, (.iload_n 3, 1)), (51, (.isub, 1)), (52, (.imul, 1)), (53, (.iload 5, 2)), (55, (.idiv, 1)), (56, (.ireturn, 1))]
theorem dh_48 : dchk cX12_worthAt dl_48 = true := by decide +kernel
theorem dX12_worthAt_33 : decode cX12_worthAt 33 = .ok (.getfield 13, 3) := dget dh_48 (k := 0) rfl
theorem dX12_worthAt_36 : decode cX12_worthAt 36 = .ok (.iconst 4, 1) := dget dh_48 (k := 1) rfl
theorem dX12_worthAt_37 : decode cX12_worthAt 37 = .ok (.iload 4, 2) := dget dh_48 (k := 2) rfl
theorem dX12_worthAt_39 : decode cX12_worthAt 39 = .ok (.imul, 1) := dget dh_48 (k := 3) rfl
theorem dX12_worthAt_40 : decode cX12_worthAt 40 = .ok (.aload_n 0, 1) := dget dh_48 (k := 4) rfl
theorem dX12_worthAt_41 : decode cX12_worthAt 41 = .ok (.getfield 16, 3) := dget dh_48 (k := 5) rfl
theorem dX12_worthAt_44 : decode cX12_worthAt 44 = .ok (.iload_n 1, 1) := dget dh_48 (k := 6) rfl
theorem dX12_worthAt_45 : decode cX12_worthAt 45 = .ok (.iaload, 1) := dget dh_48 (k := 7) rfl
theorem dX12_worthAt_46 : decode cX12_worthAt 46 = .ok (.iadd, 1) := dget dh_48 (k := 8) rfl
theorem dX12_worthAt_47 : decode cX12_worthAt 47 = .ok (.iaload, 1) := dget dh_48 (k := 9) rfl
theorem dX12_worthAt_48 : decode cX12_worthAt 48 = .ok (.iload 5, 2) := dget dh_48 (k := 10) rfl
theorem dX12_worthAt_50 : decode cX12_worthAt 50 = .ok (.iload_n 3, 1) := dget dh_48 (k := 11) rfl
theorem dX12_worthAt_51 : decode cX12_worthAt 51 = .ok (.isub, 1) := dget dh_48 (k := 12) rfl
theorem dX12_worthAt_52 : decode cX12_worthAt 52 = .ok (.imul, 1) := dget dh_48 (k := 13) rfl
theorem dX12_worthAt_53 : decode cX12_worthAt 53 = .ok (.iload 5, 2) := dget dh_48 (k := 14) rfl
theorem dX12_worthAt_55 : decode cX12_worthAt 55 = .ok (.idiv, 1) := dget dh_48 (k := 15) rfl
theorem dX12_worthAt_56 : decode cX12_worthAt 56 = .ok (.ireturn, 1) := dget dh_48 (k := 16) rfl
def jOK (r : Nat → Nat → Int32) (j : Nat) : Prop := (r 34 j).toInt = 99 ∨ (0 ≤ (r 34 j).toInt ∧ (r 34 j).toInt ≤ 19)
set_option maxHeartbeats 4000000 in
set_option maxRecDepth 100000 in
theorem c_X12_isFirst (l : Launch) (D : va_G) (cy : Nat → ClassId) (a : Nat → Nat) (i : Nat → Int32) (r : Nat → Nat → Int32) (rl : Nat → Int64) (p0 p1 : Int32) (hRi : mRi i) (hRr : mRr r) : Met l yX12_isFirst (Cond.code yX12_isFirst cX12_isFirst 3 (some .boolean) :: gT) { frames := 2, cells := 0, slots := 0, locals := 45 } (va_Pc [.ref (a 0), .int p0, .int p1] (rP D cy (mW cy a i r rl))) (vp_Si (fun z => BR z ((0 ≤ p0.toInt ∧ p0.toInt < (i 0).toInt) ∧ 0 ≤ p1.toInt ∧ p1.toInt < (r 10 p0.toNatClampNeg).toInt) 1 0)) 0 0 (fun _ => False) := by
  refine Met.ofQ (cc := cX12_isFirst) (maxL := 3) (ret := (some .boolean)) (by decide) rfl ?_
  intro p e s m args below meth c s₁ B hml hv Q hQ
  obtain ⟨rfl, hP, hK⟩ := hv
  have hx := B.exec
  have hb := B.bytes
  have hr := B.returns
  have hlocks := B.notSynchronized
  have hT : ∀ w ∈ gT, w.before _ s = true := fun w h => atoms_spec (ws := (Cond.code yX12_isFirst cX12_isFirst 3 (some .boolean) :: gT)) B.pre w (List.mem_cons_of_mem _ h)
  have hown : s.vm.findClass RX12 = some m.cls := findClass_of_methodNamed B.named
  have hl := lv_entry ([.ref (a 0), .int p0, .int p1]) (n := 3) (Nat.le_of_ble_eq_true rfl)
  rw [lg_entry_eq]
  generalize (lg_sl ([.ref (a 0), .int p0, .int p1]) ++ List.replicate (3 - (lg_sl ([.ref (a 0), .int p0, .int p1])).length) Slot.unset).toArray = ls at hl ⊢
  have hl : lv_has ls 3 [(0, .ref (a 0)), (1, .int p0), (2, .int p1)] := hl
  have hEi : mEi [23, 24, 25, 26, 27, 28, 29, 30, 60] i i := Ei_rf
  have hEr : mEr [21, 22, 23, 24, 25, 26, 32, 33, 34, 35, 36, 37, 38, 39, 48, 49, 57, 61, 62] r r := Er_rf
  refine lv_aload_n hx hb dX12_isFirst_0 rfl (lv_at hl 0 rfl) ?_
  refine lv_iload_n hx hb dX12_isFirst_1 rfl (lv_at hl 1 rfl) ?_
  refine vp_callSi (W.runV (As := [.int p0]) (rest := []) ⟨hx, hb, hml, hown, hT⟩ (c_X12_isHome l D cy a i r rl p0 hRi hRr) (cwV 1 hT (gV t_12 t_13 t_14 t_15 t_6) rfl rfl rfl (by decide +kernel) ⟨Nat.le_of_ble_eq_true rfl, Nat.le_of_ble_eq_true rfl⟩) (rP_v hP hK (va_recv hK hP (ci := 12) (q0 := 0) rfl rfl)) rfl rfl hl.1 rfl (lv_room (Nat.le_of_ble_eq_true rfl)) dX12_isFirst_2 ⟨Nat.le_of_ble_eq_true rfl, Nat.le_of_ble_eq_true rfl⟩) (fun r_1 hr_1 => ?_)
  have hg_2 : 0 ≤ (i 0).toInt ∧ (i 0).toInt ≤ 6 := hRi 0
  have hr_1 : BR r_1 (0 ≤ p0.toInt ∧ p0.toInt < (i 0).toInt) 1 0 := hr_1
  rcases hr_1 with ⟨rfl, h_3⟩ | ⟨rfl, h_3⟩
  · skip
    refine lv_if_eq (tgt := 26) hx hb dX12_isFirst_5 (by decide) (fun c_4 => absurd c_4 (by decide)) (fun c_4 => ?_)
    refine lv_iload_n hx hb dX12_isFirst_8 rfl (lv_at hl 2 rfl) ?_
    refine lv_if_lt (tgt := 26) hx hb dX12_isFirst_9 (by decide) (fun c_5 => ?_) (fun c_5 => ?_)
    · have c_5 : p1.toInt < 0 := b_lt c_5
      refine lv_iconst (v := 0) hx hb dX12_isFirst_26 (by decide) ?_
      subst hQ
      exact W.zret hx hb hr rfl (fun t ht hW => ⟨_, rfl, Or.inr ⟨rfl, by omega⟩, ht⟩) (fun q hq => absurd hq List.not_mem_nil) dX12_isFirst_27
    · have c_5 : 0 ≤ p1.toInt := b_nlt c_5
      refine lv_iload_n hx hb dX12_isFirst_12 rfl (lv_at hl 2 rfl) ?_
      refine lv_aload_n hx hb dX12_isFirst_13 rfl (lv_at hl 0 rfl) ?_
      refine va_get (D := D) (ci := 12) (v := .ref (a 10)) (C := RX12) (T := TX12) (N := 91) hx hb hT iX12 hown hK hP 0 rfl rfl 11 (by decide) (hT _ t_16) (fun _ h9 => h9) rfl dX12_isFirst_14 ?_
      refine lv_iload_n hx hb dX12_isFirst_17 rfl (lv_at hl 1 rfl) ?_
      refine va_iald hx hb hK hP 10 0 rfl rfl (vp_inI (by omega) (by omega)) dX12_isFirst_18 ?_
      refine lv_topi (fun v_6 ev_6 => ?_)
      have hgv_6 : 0 ≤ v_6.toInt ∧ v_6.toInt ≤ 20 := by rw [ev_6]; exact hRr 10 _
      have hwv_6 : v_6.toInt = (r 10 (p0.toNatClampNeg)).toInt := congrArg Int32.toInt ev_6
      refine lv_icmp_ge (tgt := 26) hx hb dX12_isFirst_19 (by decide) (fun c_7 => ?_) (fun c_7 => ?_)
      · have c_7 : v_6.toInt ≤ p1.toInt := b_le c_7
        refine lv_iconst (v := 0) hx hb dX12_isFirst_26 (by decide) ?_
        subst hQ
        exact W.zret hx hb hr rfl (fun t ht hW => ⟨_, rfl, Or.inr ⟨rfl, by omega⟩, ht⟩) (fun q hq => absurd hq List.not_mem_nil) dX12_isFirst_27
      · have c_7 : p1.toInt < v_6.toInt := b_nle c_7
        refine lv_iconst (v := 1) hx hb dX12_isFirst_22 (by decide) ?_
        refine lv_goto (tgt := 27) hx hb dX12_isFirst_23 (by decide) ?_
        subst hQ
        exact W.zret hx hb hr rfl (fun t ht hW => ⟨_, rfl, Or.inl ⟨rfl, by omega⟩, ht⟩) (fun q hq => absurd hq List.not_mem_nil) dX12_isFirst_27
  · skip
    refine lv_if_eq (tgt := 26) hx hb dX12_isFirst_5 (by decide) (fun c_8 => ?_) (fun c_8 => absurd (by decide) c_8)
    refine lv_iconst (v := 0) hx hb dX12_isFirst_26 (by decide) ?_
    subst hQ
    exact W.zret hx hb hr rfl (fun t ht hW => ⟨_, rfl, Or.inr ⟨rfl, by omega⟩, ht⟩) (fun q hq => absurd hq List.not_mem_nil) dX12_isFirst_27
set_option maxHeartbeats 4000000 in
set_option maxRecDepth 100000 in
theorem c_X12_monthsOf (l : Launch) (D : va_G) (cy : Nat → ClassId) (a : Nat → Nat) (i : Nat → Int32) (r : Nat → Nat → Int32) (rl : Nat → Int64) (p0 : Int32) (hRi : mRi i) (hRr : mRr r) (q0 : 0 ≤ p0.toInt ∧ p0.toInt ≤ 5) : Met l yX12_monthsOf (Cond.code yX12_monthsOf cX12_monthsOf 2 (some .int) :: gT) { frames := 1, cells := 0, slots := 0, locals := 24 } (va_Pc [.ref (a 0), .int p0] (rP D cy (mW cy a i r rl))) (vp_Si (fun z => -999 ≤ z.toInt ∧ z.toInt ≤ 999)) 0 0 (fun _ => False) := by
  refine Met.ofQ (cc := cX12_monthsOf) (maxL := 2) (ret := (some .int)) (by decide) rfl ?_
  intro p e s m args below meth c s₁ B hml hv Q hQ
  obtain ⟨rfl, hP, hK⟩ := hv
  have hx := B.exec
  have hb := B.bytes
  have hr := B.returns
  have hlocks := B.notSynchronized
  have hT : ∀ w ∈ gT, w.before _ s = true := fun w h => atoms_spec (ws := (Cond.code yX12_monthsOf cX12_monthsOf 2 (some .int) :: gT)) B.pre w (List.mem_cons_of_mem _ h)
  have hown : s.vm.findClass RX12 = some m.cls := findClass_of_methodNamed B.named
  have hl := lv_entry ([.ref (a 0), .int p0]) (n := 2) (Nat.le_of_ble_eq_true rfl)
  rw [lg_entry_eq]
  generalize (lg_sl ([.ref (a 0), .int p0]) ++ List.replicate (2 - (lg_sl ([.ref (a 0), .int p0])).length) Slot.unset).toArray = ls at hl ⊢
  have hl : lv_has ls 2 [(0, .ref (a 0)), (1, .int p0)] := hl
  have hEi : mEi [23, 24, 25, 26, 27, 28, 29, 30, 60] i i := Ei_rf
  have hEr : mEr [21, 22, 23, 24, 25, 26, 32, 33, 34, 35, 36, 37, 38, 39, 48, 49, 57, 61, 62] r r := Er_rf
  refine lv_aload_n hx hb dX12_monthsOf_0 rfl (lv_at hl 0 rfl) ?_
  refine va_get (D := D) (ci := 12) (v := .ref (a 7)) (C := RX12) (T := TX12) (N := 91) hx hb hT iX12 hown hK hP 0 rfl rfl 8 (by decide) (hT _ t_17) (fun _ h9 => h9) rfl dX12_monthsOf_1 ?_
  refine lv_iload_n hx hb dX12_monthsOf_4 rfl (lv_at hl 1 rfl) ?_
  refine va_iald hx hb hK hP 7 0 rfl rfl (vp_inI (by omega) (by omega)) dX12_monthsOf_5 ?_
  refine lv_topi (fun v_1 ev_1 => ?_)
  have hgv_1 : 0 ≤ v_1.toInt ∧ v_1.toInt ≤ 999 := by rw [ev_1]; exact hRr 7 _
  refine lv_aload_n hx hb dX12_monthsOf_6 rfl (lv_at hl 0 rfl) ?_
  refine va_get (D := D) (ci := 12) (v := .ref (a 6)) (C := RX12) (T := TX12) (N := 91) hx hb hT iX12 hown hK hP 0 rfl rfl 7 (by decide) (hT _ t_18) (fun _ h9 => h9) rfl dX12_monthsOf_7 ?_
  refine lv_iload_n hx hb dX12_monthsOf_10 rfl (lv_at hl 1 rfl) ?_
  refine va_iald hx hb hK hP 6 0 rfl rfl (vp_inI (by omega) (by omega)) dX12_monthsOf_11 ?_
  refine lv_topi (fun v_2 ev_2 => ?_)
  have hgv_2 : 0 ≤ v_2.toInt ∧ v_2.toInt ≤ 999 := by rw [ev_2]; exact hRr 6 _
  refine lv_isub hx hb dX12_monthsOf_12 ?_
  refine lv_topi (fun v_3 ev_3 => ?_)
  have hv_3 : v_3.toInt = v_1.toInt - v_2.toInt := by rw [ev_3]; have := b_rg v_1; have := b_rg v_2; exact i_sub (a := v_1.toInt) (b := v_2.toInt) rfl rfl (by omega) (by omega)
  subst hQ
  exact W.iret (v := v_3) hx hb hr (fun t ht hW => ⟨_, rfl, (by show -999 ≤ v_3.toInt ∧ v_3.toInt ≤ 999; omega), ht⟩) (fun q hq => absurd hq List.not_mem_nil) dX12_monthsOf_13
set_option maxHeartbeats 4000000 in
set_option maxRecDepth 100000 in
theorem c_X12_agedOf (l : Launch) (D : va_G) (cy : Nat → ClassId) (a : Nat → Nat) (i : Nat → Int32) (r : Nat → Nat → Int32) (rl : Nat → Int64) (p0 p1 : Int32) (hRi : mRi i) (hRr : mRr r) (q0 : 0 ≤ p0.toInt ∧ p0.toInt ≤ 5) (q1 : 0 ≤ p1.toInt ∧ p1.toInt ≤ 19) : Met l yX12_agedOf (Cond.code yX12_agedOf cX12_agedOf 3 (some .int) :: gT) { frames := 2, cells := 0, slots := 0, locals := 45 } (va_Pc [.ref (a 0), .int p0, .int p1] (rP D cy (mW cy a i r rl))) (vp_Si (fun z => -999 ≤ z.toInt ∧ z.toInt ≤ 1359)) 0 0 (fun _ => False) := by
  refine Met.ofQ (cc := cX12_agedOf) (maxL := 3) (ret := (some .int)) (by decide) rfl ?_
  intro p e s m args below meth c s₁ B hml hv Q hQ
  obtain ⟨rfl, hP, hK⟩ := hv
  have hx := B.exec
  have hb := B.bytes
  have hr := B.returns
  have hlocks := B.notSynchronized
  have hT : ∀ w ∈ gT, w.before _ s = true := fun w h => atoms_spec (ws := (Cond.code yX12_agedOf cX12_agedOf 3 (some .int) :: gT)) B.pre w (List.mem_cons_of_mem _ h)
  have hown : s.vm.findClass RX12 = some m.cls := findClass_of_methodNamed B.named
  have hl := lv_entry ([.ref (a 0), .int p0, .int p1]) (n := 3) (Nat.le_of_ble_eq_true rfl)
  rw [lg_entry_eq]
  generalize (lg_sl ([.ref (a 0), .int p0, .int p1]) ++ List.replicate (3 - (lg_sl ([.ref (a 0), .int p0, .int p1])).length) Slot.unset).toArray = ls at hl ⊢
  have hl : lv_has ls 3 [(0, .ref (a 0)), (1, .int p0), (2, .int p1)] := hl
  have hEi : mEi [23, 24, 25, 26, 27, 28, 29, 30, 60] i i := Ei_rf
  have hEr : mEr [21, 22, 23, 24, 25, 26, 32, 33, 34, 35, 36, 37, 38, 39, 48, 49, 57, 61, 62] r r := Er_rf
  refine lv_aload_n hx hb dX12_agedOf_0 rfl (lv_at hl 0 rfl) ?_
  refine va_get (D := D) (ci := 12) (v := .ref (a 15)) (C := RX12) (T := TX12) (N := 91) hx hb hT iX12 hown hK hP 0 rfl rfl 16 (by decide) (hT _ t_19) (fun _ h9 => h9) rfl dX12_agedOf_1 ?_
  refine lv_bipush (v := 20) hx hb dX12_agedOf_4 (by decide) ?_
  refine lv_iload_n hx hb dX12_agedOf_6 rfl (lv_at hl 1 rfl) ?_
  refine lv_imul hx hb dX12_agedOf_7 ?_
  refine lv_topi (fun v_1 ev_1 => ?_)
  have hv_1 : v_1.toInt = 20 * p0.toInt := by rw [ev_1]; have := b_rg p0; exact i_mul (a := 20) (b := p0.toInt) rfl rfl (by omega) (by omega)
  refine lv_iload_n hx hb dX12_agedOf_8 rfl (lv_at hl 2 rfl) ?_
  refine lv_iadd hx hb dX12_agedOf_9 ?_
  refine lv_topi (fun v_2 ev_2 => ?_)
  have hv_2 : v_2.toInt = v_1.toInt + p1.toInt := by rw [ev_2]; have := b_rg v_1; have := b_rg p1; exact i_add (a := v_1.toInt) (b := p1.toInt) rfl rfl (by omega) (by omega)
  refine va_iald hx hb hK hP 15 0 rfl rfl (vp_inI (by omega) (by omega)) dX12_agedOf_10 ?_
  refine lv_topi (fun v_3 ev_3 => ?_)
  have hgv_3 : 0 ≤ v_3.toInt ∧ v_3.toInt ≤ 360 := by rw [ev_3]; exact hRr 15 _
  refine lv_aload_n hx hb dX12_agedOf_11 rfl (lv_at hl 0 rfl) ?_
  refine lv_iload_n hx hb dX12_agedOf_12 rfl (lv_at hl 1 rfl) ?_
  refine vp_callSi (W.runV (As := [.int p0]) (rest := [.int v_3]) ⟨hx, hb, hml, hown, hT⟩ (c_X12_monthsOf l D cy a i r rl p0 hRi hRr (by omega)) (cwV 1 hT (gV t_20 t_21 t_22 t_23 t_6) rfl rfl rfl (by decide +kernel) ⟨Nat.le_of_ble_eq_true rfl, Nat.le_of_ble_eq_true rfl⟩) (rP_v hP hK (va_recv hK hP (ci := 12) (q0 := 0) rfl rfl)) rfl rfl hl.1 rfl (lv_room (Nat.le_of_ble_eq_true rfl)) dX12_agedOf_13 ⟨Nat.le_of_ble_eq_true rfl, Nat.le_of_ble_eq_true rfl⟩) (fun r_4 hr_4 => ?_)
  have hr_4 : -999 ≤ r_4.toInt ∧ r_4.toInt ≤ 999 := hr_4
  refine lv_iadd hx hb dX12_agedOf_16 ?_
  refine lv_topi (fun v_5 ev_5 => ?_)
  have hv_5 : v_5.toInt = v_3.toInt + r_4.toInt := by rw [ev_5]; have := b_rg v_3; have := b_rg r_4; exact i_add (a := v_3.toInt) (b := r_4.toInt) rfl rfl (by omega) (by omega)
  subst hQ
  exact W.iret (v := v_5) hx hb hr (fun t ht hW => ⟨_, rfl, (by show -999 ≤ v_5.toInt ∧ v_5.toInt ≤ 1359; omega), ht⟩) (fun q hq => absurd hq List.not_mem_nil) dX12_agedOf_17
set_option maxHeartbeats 4000000 in
set_option maxRecDepth 100000 in
theorem c_X12_worthAt (l : Launch) (D : va_G) (cy : Nat → ClassId) (a : Nat → Nat) (i : Nat → Int32) (r : Nat → Nat → Int32) (rl : Nat → Int64) (p0 p1 p2 : Int32) (hRi : mRi i) (hRr : mRr r) (q0 : 0 ≤ p0.toInt ∧ p0.toInt ≤ 5) (q1 : 0 ≤ p1.toInt ∧ p1.toInt ≤ 19) : Met l yX12_worthAt (Cond.code yX12_worthAt cX12_worthAt 6 (some .int) :: gT) { frames := 1, cells := 0, slots := 0, locals := 24 } (va_Pc [.ref (a 0), .int p0, .int p1, .int p2] (rP D cy (mW cy a i r rl))) (vp_Si (fun z => True)) 0 0 (fun _ => False) := by
  refine Met.ofQ (cc := cX12_worthAt) (maxL := 6) (ret := (some .int)) (by decide) rfl ?_
  intro p e s m args below meth c s₁ B hml hv Q hQ
  obtain ⟨rfl, hP, hK⟩ := hv
  have hx := B.exec
  have hb := B.bytes
  have hr := B.returns
  have hlocks := B.notSynchronized
  have hT : ∀ w ∈ gT, w.before _ s = true := fun w h => atoms_spec (ws := (Cond.code yX12_worthAt cX12_worthAt 6 (some .int) :: gT)) B.pre w (List.mem_cons_of_mem _ h)
  have hown : s.vm.findClass RX12 = some m.cls := findClass_of_methodNamed B.named
  have hl := lv_entry ([.ref (a 0), .int p0, .int p1, .int p2]) (n := 6) (Nat.le_of_ble_eq_true rfl)
  rw [lg_entry_eq]
  generalize (lg_sl ([.ref (a 0), .int p0, .int p1, .int p2]) ++ List.replicate (6 - (lg_sl ([.ref (a 0), .int p0, .int p1, .int p2])).length) Slot.unset).toArray = ls at hl ⊢
  have hl : lv_has ls 6 [(0, .ref (a 0)), (1, .int p0), (2, .int p1), (3, .int p2)] := hl
  have hEi : mEi [23, 24, 25, 26, 27, 28, 29, 30, 60] i i := Ei_rf
  have hEr : mEr [21, 22, 23, 24, 25, 26, 32, 33, 34, 35, 36, 37, 38, 39, 48, 49, 57, 61, 62] r r := Er_rf
  refine lv_aload_n hx hb dX12_worthAt_0 rfl (lv_at hl 0 rfl) ?_
  refine va_get (D := D) (ci := 12) (v := .ref (a 13)) (C := RX12) (T := TX12) (N := 91) hx hb hT iX12 hown hK hP 0 rfl rfl 14 (by decide) (hT _ t_24) (fun _ h9 => h9) rfl dX12_worthAt_1 ?_
  refine lv_bipush (v := 20) hx hb dX12_worthAt_4 (by decide) ?_
  refine lv_iload_n hx hb dX12_worthAt_6 rfl (lv_at hl 1 rfl) ?_
  refine lv_imul hx hb dX12_worthAt_7 ?_
  refine lv_topi (fun v_1 ev_1 => ?_)
  have hv_1 : v_1.toInt = 20 * p0.toInt := by rw [ev_1]; have := b_rg p0; exact i_mul (a := 20) (b := p0.toInt) rfl rfl (by omega) (by omega)
  refine lv_iload_n hx hb dX12_worthAt_8 rfl (lv_at hl 2 rfl) ?_
  refine lv_iadd hx hb dX12_worthAt_9 ?_
  refine lv_topi (fun v_2 ev_2 => ?_)
  have hv_2 : v_2.toInt = v_1.toInt + p1.toInt := by rw [ev_2]; have := b_rg v_1; have := b_rg p1; exact i_add (a := v_1.toInt) (b := p1.toInt) rfl rfl (by omega) (by omega)
  refine va_iald hx hb hK hP 13 0 rfl rfl (vp_inI (by omega) (by omega)) dX12_worthAt_10 ?_
  refine lv_topi (fun v_3 ev_3 => ?_)
  have hgv_3 : 0 ≤ v_3.toInt ∧ v_3.toInt ≤ 7 := by rw [ev_3]; exact hRr 13 _
  refine lv_istore (lv' := [(4, .int v_3), (0, .ref (a 0)), (1, .int p0), (2, .int p1), (3, .int p2)]) hx hb dX12_worthAt_11 hl (by decide) rfl (fun ls hl => ?_)
  refine lv_aload_n hx hb dX12_worthAt_13 rfl (lv_at hl 1 rfl) ?_
  refine va_get (D := D) (ci := 12) (v := .ref (a 1)) (C := RX12) (T := TX12) (N := 91) hx hb hT iX12 hown hK hP 0 rfl rfl 2 (by decide) (hT _ t_25) (fun _ h9 => h9) rfl dX12_worthAt_14 ?_
  refine lv_iload hx hb dX12_worthAt_17 (lv_at hl 0 rfl) ?_
  refine va_iald hx hb hK hP 1 0 rfl rfl (vp_inI (by omega) (by omega)) dX12_worthAt_19 ?_
  refine lv_topi (fun v_4 ev_4 => ?_)
  have hgv_4 : 1 ≤ v_4.toInt ∧ v_4.toInt ≤ 360 := by rw [ev_4]; exact hRr 1 _
  refine lv_istore (lv' := [(5, .int v_4), (4, .int v_3), (0, .ref (a 0)), (1, .int p0), (2, .int p1), (3, .int p2)]) hx hb dX12_worthAt_20 hl (by decide) rfl (fun ls hl => ?_)
  refine lv_iload_n hx hb dX12_worthAt_22 rfl (lv_at hl 5 rfl) ?_
  refine lv_iload hx hb dX12_worthAt_23 (lv_at hl 0 rfl) ?_
  refine lv_icmp_lt (tgt := 32) hx hb dX12_worthAt_25 (by decide) (fun c_5 => ?_) (fun c_5 => ?_)
  · have c_5 : p2.toInt < v_4.toInt := b_lt c_5
    refine lv_aload_n hx hb dX12_worthAt_32 rfl (lv_at hl 2 rfl) ?_
    refine va_get (D := D) (ci := 12) (v := .ref (a 2)) (C := RX12) (T := TX12) (N := 91) hx hb hT iX12 hown hK hP 0 rfl rfl 3 (by decide) (hT _ t_26) (fun _ h9 => h9) rfl dX12_worthAt_33 ?_
    refine lv_iconst (v := 4) hx hb dX12_worthAt_36 (by decide) ?_
    refine lv_iload hx hb dX12_worthAt_37 (lv_at hl 1 rfl) ?_
    refine lv_imul hx hb dX12_worthAt_39 ?_
    refine lv_topi (fun v_6 ev_6 => ?_)
    have hv_6 : v_6.toInt = 4 * v_3.toInt := by rw [ev_6]; have := b_rg v_3; exact i_mul (a := 4) (b := v_3.toInt) rfl rfl (by omega) (by omega)
    refine lv_aload_n hx hb dX12_worthAt_40 rfl (lv_at hl 2 rfl) ?_
    refine va_get (D := D) (ci := 12) (v := .ref (a 3)) (C := RX12) (T := TX12) (N := 91) hx hb hT iX12 hown hK hP 0 rfl rfl 4 (by decide) (hT _ t_27) (fun _ h9 => h9) rfl dX12_worthAt_41 ?_
    refine lv_iload_n hx hb dX12_worthAt_44 rfl (lv_at hl 3 rfl) ?_
    refine va_iald hx hb hK hP 3 0 rfl rfl (vp_inI (by omega) (by omega)) dX12_worthAt_45 ?_
    refine lv_topi (fun v_7 ev_7 => ?_)
    have hgv_7 : 0 ≤ v_7.toInt ∧ v_7.toInt ≤ 3 := by rw [ev_7]; exact hRr 3 _
    refine lv_iadd hx hb dX12_worthAt_46 ?_
    refine lv_topi (fun v_8 ev_8 => ?_)
    have hv_8 : v_8.toInt = v_6.toInt + v_7.toInt := by rw [ev_8]; have := b_rg v_6; have := b_rg v_7; exact i_add (a := v_6.toInt) (b := v_7.toInt) rfl rfl (by omega) (by omega)
    refine va_iald hx hb hK hP 2 0 rfl rfl (vp_inI (by omega) (by omega)) dX12_worthAt_47 ?_
    refine lv_topi (fun v_9 ev_9 => ?_)
    have hgv_9 : 0 ≤ v_9.toInt ∧ v_9.toInt ≤ 99999 := by rw [ev_9]; exact hRr 2 _
    refine lv_iload hx hb dX12_worthAt_48 (lv_at hl 0 rfl) ?_
    refine lv_iload_n hx hb dX12_worthAt_50 rfl (lv_at hl 5 rfl) ?_
    refine lv_isub hx hb dX12_worthAt_51 ?_
    refine lv_topi (fun v_10 ev_10 => ?_)
    refine lv_imul hx hb dX12_worthAt_52 ?_
    refine lv_topi (fun v_11 ev_11 => ?_)
    refine lv_iload hx hb dX12_worthAt_53 (lv_at hl 0 rfl) ?_
    refine lv_idiv hx hb dX12_worthAt_55 (nz (by omega)) ?_
    refine lv_topi (fun v_12 ev_12 => ?_)
    subst hQ
    exact W.iret (v := v_12) hx hb hr (fun t ht hW => ⟨_, rfl, trivial, ht⟩) (fun q hq => absurd hq List.not_mem_nil) dX12_worthAt_56
  · have c_5 : v_4.toInt ≤ p2.toInt := b_nlt c_5
    refine lv_iconst (v := 0) hx hb dX12_worthAt_28 (by decide) ?_
    refine lv_goto (tgt := 56) hx hb dX12_worthAt_29 (by decide) ?_
    subst hQ
    exact W.iret (v := 0) hx hb hr (fun t ht hW => ⟨_, rfl, trivial, ht⟩) (fun q hq => absurd hq List.not_mem_nil) dX12_worthAt_56
set_option maxHeartbeats 4000000 in
set_option maxRecDepth 100000 in
theorem c_X12_isOf (l : Launch) (D : va_G) (cy : Nat → ClassId) (a : Nat → Nat) (i : Nat → Int32) (r : Nat → Nat → Int32) (rl : Nat → Int64) (p0 p1 p2 p3 : Int32) (hRi : mRi i) (hRr : mRr r) (q0 : 0 ≤ p0.toInt ∧ p0.toInt ≤ 5) (q1 : 0 ≤ p1.toInt ∧ p1.toInt ≤ 19) : Met l yX12_isOf (Cond.code yX12_isOf cX12_isOf 5 (some .boolean) :: gT) { frames := 1, cells := 0, slots := 0, locals := 24 } (va_Pc [.ref (a 0), .int p0, .int p1, .int p2, .int p3] (rP D cy (mW cy a i r rl))) (vp_Si (fun z => z = 0 ∨ z = 1)) 0 0 (fun _ => False) := by
  refine Met.ofQ (cc := cX12_isOf) (maxL := 5) (ret := (some .boolean)) (by decide) rfl ?_
  intro p e s m args below meth c s₁ B hml hv Q hQ
  obtain ⟨rfl, hP, hK⟩ := hv
  have hx := B.exec
  have hb := B.bytes
  have hr := B.returns
  have hlocks := B.notSynchronized
  have hT : ∀ w ∈ gT, w.before _ s = true := fun w h => atoms_spec (ws := (Cond.code yX12_isOf cX12_isOf 5 (some .boolean) :: gT)) B.pre w (List.mem_cons_of_mem _ h)
  have hown : s.vm.findClass RX12 = some m.cls := findClass_of_methodNamed B.named
  have hl := lv_entry ([.ref (a 0), .int p0, .int p1, .int p2, .int p3]) (n := 5) (Nat.le_of_ble_eq_true rfl)
  rw [lg_entry_eq]
  generalize (lg_sl ([.ref (a 0), .int p0, .int p1, .int p2, .int p3]) ++ List.replicate (5 - (lg_sl ([.ref (a 0), .int p0, .int p1, .int p2, .int p3])).length) Slot.unset).toArray = ls at hl ⊢
  have hl : lv_has ls 5 [(0, .ref (a 0)), (1, .int p0), (2, .int p1), (3, .int p2), (4, .int p3)] := hl
  have hEi : mEi [23, 24, 25, 26, 27, 28, 29, 30, 60] i i := Ei_rf
  have hEr : mEr [21, 22, 23, 24, 25, 26, 32, 33, 34, 35, 36, 37, 38, 39, 48, 49, 57, 61, 62] r r := Er_rf
  refine lv_aload_n hx hb dX12_isOf_0 rfl (lv_at hl 0 rfl) ?_
  refine va_get (D := D) (ci := 12) (v := .ref (a 16)) (C := RX12) (T := TX12) (N := 91) hx hb hT iX12 hown hK hP 0 rfl rfl 17 (by decide) (hT _ t_28) (fun _ h9 => h9) rfl dX12_isOf_1 ?_
  refine lv_bipush (v := 20) hx hb dX12_isOf_4 (by decide) ?_
  refine lv_iload_n hx hb dX12_isOf_6 rfl (lv_at hl 1 rfl) ?_
  refine lv_imul hx hb dX12_isOf_7 ?_
  refine lv_topi (fun v_1 ev_1 => ?_)
  have hv_1 : v_1.toInt = 20 * p0.toInt := by rw [ev_1]; have := b_rg p0; exact i_mul (a := 20) (b := p0.toInt) rfl rfl (by omega) (by omega)
  refine lv_iload_n hx hb dX12_isOf_8 rfl (lv_at hl 2 rfl) ?_
  refine lv_iadd hx hb dX12_isOf_9 ?_
  refine lv_topi (fun v_2 ev_2 => ?_)
  have hv_2 : v_2.toInt = v_1.toInt + p1.toInt := by rw [ev_2]; have := b_rg v_1; have := b_rg p1; exact i_add (a := v_1.toInt) (b := p1.toInt) rfl rfl (by omega) (by omega)
  refine va_iald hx hb hK hP 16 0 rfl rfl (vp_inI (by omega) (by omega)) dX12_isOf_10 ?_
  refine lv_topi (fun v_3 ev_3 => ?_)
  have hgv_3 : 0 ≤ v_3.toInt ∧ v_3.toInt ≤ 9 := by rw [ev_3]; exact hRr 16 _
  refine lv_iload_n hx hb dX12_isOf_11 rfl (lv_at hl 3 rfl) ?_
  refine lv_icmp_ne (tgt := 35) hx hb dX12_isOf_12 (by decide) (fun c_4 => ?_) (fun c_4 => ?_)
  · have c_4 : v_3.toInt ≠ p2.toInt := b_ne c_4
    refine lv_iconst (v := 0) hx hb dX12_isOf_35 (by decide) ?_
    subst hQ
    exact W.zret hx hb hr rfl (fun t ht hW => ⟨_, rfl, Or.inl rfl, ht⟩) (fun q hq => absurd hq List.not_mem_nil) dX12_isOf_36
  · have c_4 : v_3.toInt = p2.toInt := b_nne c_4
    refine lv_aload_n hx hb dX12_isOf_15 rfl (lv_at hl 0 rfl) ?_
    refine va_get (D := D) (ci := 12) (v := .ref (a 17)) (C := RX12) (T := TX12) (N := 91) hx hb hT iX12 hown hK hP 0 rfl rfl 18 (by decide) (hT _ t_29) (fun _ h9 => h9) rfl dX12_isOf_16 ?_
    refine lv_bipush (v := 20) hx hb dX12_isOf_19 (by decide) ?_
    refine lv_iload_n hx hb dX12_isOf_21 rfl (lv_at hl 1 rfl) ?_
    refine lv_imul hx hb dX12_isOf_22 ?_
    refine lv_topi (fun v_5 ev_5 => ?_)
    have hv_5 : v_5.toInt = 20 * p0.toInt := by rw [ev_5]; have := b_rg p0; exact i_mul (a := 20) (b := p0.toInt) rfl rfl (by omega) (by omega)
    refine lv_iload_n hx hb dX12_isOf_23 rfl (lv_at hl 2 rfl) ?_
    refine lv_iadd hx hb dX12_isOf_24 ?_
    refine lv_topi (fun v_6 ev_6 => ?_)
    have hv_6 : v_6.toInt = v_5.toInt + p1.toInt := by rw [ev_6]; have := b_rg v_5; have := b_rg p1; exact i_add (a := v_5.toInt) (b := p1.toInt) rfl rfl (by omega) (by omega)
    refine va_iald hx hb hK hP 17 0 rfl rfl (vp_inI (by omega) (by omega)) dX12_isOf_25 ?_
    refine lv_topi (fun v_7 ev_7 => ?_)
    have hgv_7 : 0 ≤ v_7.toInt ∧ v_7.toInt ≤ 7 := by rw [ev_7]; exact hRr 17 _
    refine lv_iload hx hb dX12_isOf_26 (lv_at hl 4 rfl) ?_
    refine lv_icmp_ne (tgt := 35) hx hb dX12_isOf_28 (by decide) (fun c_8 => ?_) (fun c_8 => ?_)
    · have c_8 : v_7.toInt ≠ p3.toInt := b_ne c_8
      refine lv_iconst (v := 0) hx hb dX12_isOf_35 (by decide) ?_
      subst hQ
      exact W.zret hx hb hr rfl (fun t ht hW => ⟨_, rfl, Or.inl rfl, ht⟩) (fun q hq => absurd hq List.not_mem_nil) dX12_isOf_36
    · have c_8 : v_7.toInt = p3.toInt := b_nne c_8
      refine lv_iconst (v := 1) hx hb dX12_isOf_31 (by decide) ?_
      refine lv_goto (tgt := 36) hx hb dX12_isOf_32 (by decide) ?_
      subst hQ
      exact W.zret hx hb hr rfl (fun t ht hW => ⟨_, rfl, Or.inr rfl, ht⟩) (fun q hq => absurd hq List.not_mem_nil) dX12_isOf_36
set_option maxHeartbeats 4000000 in
set_option maxRecDepth 100000 in
theorem c_X12_isLike (l : Launch) (D : va_G) (cy : Nat → ClassId) (a : Nat → Nat) (i : Nat → Int32) (r : Nat → Nat → Int32) (rl : Nat → Int64) (p0 p1 p2 p3 : Int32) (hRi : mRi i) (hRr : mRr r) (q0 : 0 ≤ p0.toInt ∧ p0.toInt ≤ 5) (q1 : 0 ≤ p1.toInt ∧ p1.toInt ≤ 19) : Met l yX12_isLike (Cond.code yX12_isLike cX12_isLike 5 (some .boolean) :: gT) { frames := 1, cells := 0, slots := 0, locals := 24 } (va_Pc [.ref (a 0), .int p0, .int p1, .int p2, .int p3] (rP D cy (mW cy a i r rl))) (vp_Si (fun z => BR z (r 12 (20 * p0.toInt + p1.toInt).toNat = p2 ∧ r 13 (20 * p0.toInt + p1.toInt).toNat = p3) 1 0)) 0 0 (fun _ => False) := by
  refine Met.ofQ (cc := cX12_isLike) (maxL := 5) (ret := (some .boolean)) (by decide) rfl ?_
  intro p e s m args below meth c s₁ B hml hv Q hQ
  obtain ⟨rfl, hP, hK⟩ := hv
  have hx := B.exec
  have hb := B.bytes
  have hr := B.returns
  have hlocks := B.notSynchronized
  have hT : ∀ w ∈ gT, w.before _ s = true := fun w h => atoms_spec (ws := (Cond.code yX12_isLike cX12_isLike 5 (some .boolean) :: gT)) B.pre w (List.mem_cons_of_mem _ h)
  have hown : s.vm.findClass RX12 = some m.cls := findClass_of_methodNamed B.named
  have hl := lv_entry ([.ref (a 0), .int p0, .int p1, .int p2, .int p3]) (n := 5) (Nat.le_of_ble_eq_true rfl)
  rw [lg_entry_eq]
  generalize (lg_sl ([.ref (a 0), .int p0, .int p1, .int p2, .int p3]) ++ List.replicate (5 - (lg_sl ([.ref (a 0), .int p0, .int p1, .int p2, .int p3])).length) Slot.unset).toArray = ls at hl ⊢
  have hl : lv_has ls 5 [(0, .ref (a 0)), (1, .int p0), (2, .int p1), (3, .int p2), (4, .int p3)] := hl
  have hEi : mEi [23, 24, 25, 26, 27, 28, 29, 30, 60] i i := Ei_rf
  have hEr : mEr [21, 22, 23, 24, 25, 26, 32, 33, 34, 35, 36, 37, 38, 39, 48, 49, 57, 61, 62] r r := Er_rf
  refine lv_aload_n hx hb dX12_isLike_0 rfl (lv_at hl 0 rfl) ?_
  refine va_get (D := D) (ci := 12) (v := .ref (a 12)) (C := RX12) (T := TX12) (N := 91) hx hb hT iX12 hown hK hP 0 rfl rfl 13 (by decide) (hT _ t_30) (fun _ h9 => h9) rfl dX12_isLike_1 ?_
  refine lv_bipush (v := 20) hx hb dX12_isLike_4 (by decide) ?_
  refine lv_iload_n hx hb dX12_isLike_6 rfl (lv_at hl 1 rfl) ?_
  refine lv_imul hx hb dX12_isLike_7 ?_
  refine lv_topi (fun v_1 ev_1 => ?_)
  have hv_1 : v_1.toInt = 20 * p0.toInt := by rw [ev_1]; have := b_rg p0; exact i_mul (a := 20) (b := p0.toInt) rfl rfl (by omega) (by omega)
  refine lv_iload_n hx hb dX12_isLike_8 rfl (lv_at hl 2 rfl) ?_
  refine lv_iadd hx hb dX12_isLike_9 ?_
  refine lv_topi (fun v_2 ev_2 => ?_)
  have hv_2 : v_2.toInt = v_1.toInt + p1.toInt := by rw [ev_2]; have := b_rg v_1; have := b_rg p1; exact i_add (a := v_1.toInt) (b := p1.toInt) rfl rfl (by omega) (by omega)
  refine va_iald hx hb hK hP 12 0 rfl rfl (vp_inI (by omega) (by omega)) dX12_isLike_10 ?_
  refine lv_topi (fun v_3 ev_3 => ?_)
  have hgv_3 : 0 ≤ v_3.toInt ∧ v_3.toInt ≤ 9 := by rw [ev_3]; exact hRr 12 _
  have hwv_3 : v_3 = r 12 (((20 * p0.toInt) + p1.toInt)).toNat := by rw [ev_3]; exact congrArg (r 12) (by show v_2.toInt.toNat = _; omega)
  refine lv_iload_n hx hb dX12_isLike_11 rfl (lv_at hl 3 rfl) ?_
  refine lv_icmp_ne (tgt := 35) hx hb dX12_isLike_12 (by decide) (fun c_4 => ?_) (fun c_4 => ?_)
  · have c_4 : v_3.toInt ≠ p2.toInt := b_ne c_4
    refine lv_iconst (v := 0) hx hb dX12_isLike_35 (by decide) ?_
    subst hQ
    exact W.zret hx hb hr rfl (fun t ht hW => ⟨_, rfl, Or.inr ⟨rfl, fun h9 => c_4 (congrArg Int32.toInt (hwv_3.trans h9.1))⟩, ht⟩) (fun q hq => absurd hq List.not_mem_nil) dX12_isLike_36
  · have c_4 : v_3.toInt = p2.toInt := b_nne c_4
    refine lv_aload_n hx hb dX12_isLike_15 rfl (lv_at hl 0 rfl) ?_
    refine va_get (D := D) (ci := 12) (v := .ref (a 13)) (C := RX12) (T := TX12) (N := 91) hx hb hT iX12 hown hK hP 0 rfl rfl 14 (by decide) (hT _ t_24) (fun _ h9 => h9) rfl dX12_isLike_16 ?_
    refine lv_bipush (v := 20) hx hb dX12_isLike_19 (by decide) ?_
    refine lv_iload_n hx hb dX12_isLike_21 rfl (lv_at hl 1 rfl) ?_
    refine lv_imul hx hb dX12_isLike_22 ?_
    refine lv_topi (fun v_5 ev_5 => ?_)
    have hv_5 : v_5.toInt = 20 * p0.toInt := by rw [ev_5]; have := b_rg p0; exact i_mul (a := 20) (b := p0.toInt) rfl rfl (by omega) (by omega)
    refine lv_iload_n hx hb dX12_isLike_23 rfl (lv_at hl 2 rfl) ?_
    refine lv_iadd hx hb dX12_isLike_24 ?_
    refine lv_topi (fun v_6 ev_6 => ?_)
    have hv_6 : v_6.toInt = v_5.toInt + p1.toInt := by rw [ev_6]; have := b_rg v_5; have := b_rg p1; exact i_add (a := v_5.toInt) (b := p1.toInt) rfl rfl (by omega) (by omega)
    refine va_iald hx hb hK hP 13 0 rfl rfl (vp_inI (by omega) (by omega)) dX12_isLike_25 ?_
    refine lv_topi (fun v_7 ev_7 => ?_)
    have hgv_7 : 0 ≤ v_7.toInt ∧ v_7.toInt ≤ 7 := by rw [ev_7]; exact hRr 13 _
    have hwv_7 : v_7 = r 13 (((20 * p0.toInt) + p1.toInt)).toNat := by rw [ev_7]; exact congrArg (r 13) (by show v_6.toInt.toNat = _; omega)
    refine lv_iload hx hb dX12_isLike_26 (lv_at hl 4 rfl) ?_
    refine lv_icmp_ne (tgt := 35) hx hb dX12_isLike_28 (by decide) (fun c_8 => ?_) (fun c_8 => ?_)
    · have c_8 : v_7.toInt ≠ p3.toInt := b_ne c_8
      refine lv_iconst (v := 0) hx hb dX12_isLike_35 (by decide) ?_
      subst hQ
      exact W.zret hx hb hr rfl (fun t ht hW => ⟨_, rfl, Or.inr ⟨rfl, fun h9 => c_8 (congrArg Int32.toInt (hwv_7.trans h9.2))⟩, ht⟩) (fun q hq => absurd hq List.not_mem_nil) dX12_isLike_36
    · have c_8 : v_7.toInt = p3.toInt := b_nne c_8
      refine lv_iconst (v := 1) hx hb dX12_isLike_31 (by decide) ?_
      refine lv_goto (tgt := 36) hx hb dX12_isLike_32 (by decide) ?_
      subst hQ
      exact W.zret hx hb hr rfl (fun t ht hW => ⟨_, rfl, Or.inl ⟨rfl, hwv_3.symm.trans (Int32.toInt_inj.mp c_4), hwv_7.symm.trans (Int32.toInt_inj.mp c_8)⟩, ht⟩) (fun q hq => absurd hq List.not_mem_nil) dX12_isLike_36
set_option maxHeartbeats 4000000 in
set_option maxRecDepth 100000 in
theorem c_X12_hasEvidence (l : Launch) (D : va_G) (cy : Nat → ClassId) (a : Nat → Nat) (i : Nat → Int32) (r : Nat → Nat → Int32) (rl : Nat → Int64) (p0 : Int32) (hRi : mRi i) (hRr : mRr r) (q0 : 0 ≤ p0.toInt ∧ p0.toInt ≤ 29) : Met l yX12_hasEvidence (Cond.code yX12_hasEvidence cX12_hasEvidence 2 (some .boolean) :: gT) { frames := 1, cells := 0, slots := 0, locals := 24 } (va_Pc [.ref (a 0), .int p0] (rP D cy (mW cy a i r rl))) (vp_Si (fun z => z = 0 ∨ z = 1)) 0 0 (fun _ => False) := by
  refine Met.ofQ (cc := cX12_hasEvidence) (maxL := 2) (ret := (some .boolean)) (by decide) rfl ?_
  intro p e s m args below meth c s₁ B hml hv Q hQ
  obtain ⟨rfl, hP, hK⟩ := hv
  have hx := B.exec
  have hb := B.bytes
  have hr := B.returns
  have hlocks := B.notSynchronized
  have hT : ∀ w ∈ gT, w.before _ s = true := fun w h => atoms_spec (ws := (Cond.code yX12_hasEvidence cX12_hasEvidence 2 (some .boolean) :: gT)) B.pre w (List.mem_cons_of_mem _ h)
  have hown : s.vm.findClass RX12 = some m.cls := findClass_of_methodNamed B.named
  have hl := lv_entry ([.ref (a 0), .int p0]) (n := 2) (Nat.le_of_ble_eq_true rfl)
  rw [lg_entry_eq]
  generalize (lg_sl ([.ref (a 0), .int p0]) ++ List.replicate (2 - (lg_sl ([.ref (a 0), .int p0])).length) Slot.unset).toArray = ls at hl ⊢
  have hl : lv_has ls 2 [(0, .ref (a 0)), (1, .int p0)] := hl
  have hEi : mEi [23, 24, 25, 26, 27, 28, 29, 30, 60] i i := Ei_rf
  have hEr : mEr [21, 22, 23, 24, 25, 26, 32, 33, 34, 35, 36, 37, 38, 39, 48, 49, 57, 61, 62] r r := Er_rf
  refine lv_aload_n hx hb dX12_hasEvidence_0 rfl (lv_at hl 0 rfl) ?_
  refine va_get (D := D) (ci := 12) (v := .ref (a 43)) (C := RX12) (T := TX12) (N := 91) hx hb hT iX12 hown hK hP 0 rfl rfl 55 (by decide) (hT _ t_31) (fun _ h9 => h9) rfl dX12_hasEvidence_1 ?_
  refine lv_iload_n hx hb dX12_hasEvidence_4 rfl (lv_at hl 1 rfl) ?_
  refine va_iald hx hb hK hP 43 0 rfl rfl (vp_inI (by omega) (by omega)) dX12_hasEvidence_5 ?_
  refine lv_topi (fun v_1 ev_1 => ?_)
  have hgv_1 : 0 ≤ v_1.toInt ∧ v_1.toInt ≤ 7 := by rw [ev_1]; exact hRr 43 _
  refine lv_iconst (v := 2) hx hb dX12_hasEvidence_6 (by decide) ?_
  refine lv_irem hx hb dX12_hasEvidence_7 (by decide) ?_
  refine lv_topi (fun v_2 ev_2 => ?_)
  refine lv_iconst (v := 1) hx hb dX12_hasEvidence_8 (by decide) ?_
  refine lv_icmp_ne (tgt := 26) hx hb dX12_hasEvidence_9 (by decide) (fun c_3 => ?_) (fun c_3 => ?_)
  · have c_3 : v_2.toInt ≠ 1 := b_ne c_3
    refine lv_iconst (v := 0) hx hb dX12_hasEvidence_26 (by decide) ?_
    subst hQ
    exact W.zret hx hb hr rfl (fun t ht hW => ⟨_, rfl, Or.inl rfl, ht⟩) (fun q hq => absurd hq List.not_mem_nil) dX12_hasEvidence_27
  · have c_3 : v_2.toInt = 1 := b_nne c_3
    refine lv_aload_n hx hb dX12_hasEvidence_12 rfl (lv_at hl 0 rfl) ?_
    refine va_get (D := D) (ci := 12) (v := .ref (a 43)) (C := RX12) (T := TX12) (N := 91) hx hb hT iX12 hown hK hP 0 rfl rfl 55 (by decide) (hT _ t_31) (fun _ h9 => h9) rfl dX12_hasEvidence_13 ?_
    refine lv_iload_n hx hb dX12_hasEvidence_16 rfl (lv_at hl 1 rfl) ?_
    refine va_iald hx hb hK hP 43 0 rfl rfl (vp_inI (by omega) (by omega)) dX12_hasEvidence_17 ?_
    refine lv_topi (fun v_4 ev_4 => ?_)
    have hgv_4 : 0 ≤ v_4.toInt ∧ v_4.toInt ≤ 7 := by rw [ev_4]; exact hRr 43 _
    refine lv_iconst (v := 1) hx hb dX12_hasEvidence_18 (by decide) ?_
    refine lv_icmp_le (tgt := 26) hx hb dX12_hasEvidence_19 (by decide) (fun c_5 => ?_) (fun c_5 => ?_)
    · have c_5 : v_4.toInt ≤ 1 := b_le c_5
      refine lv_iconst (v := 0) hx hb dX12_hasEvidence_26 (by decide) ?_
      subst hQ
      exact W.zret hx hb hr rfl (fun t ht hW => ⟨_, rfl, Or.inl rfl, ht⟩) (fun q hq => absurd hq List.not_mem_nil) dX12_hasEvidence_27
    · have c_5 : 1 < v_4.toInt := b_nle c_5
      refine lv_iconst (v := 1) hx hb dX12_hasEvidence_22 (by decide) ?_
      refine lv_goto (tgt := 27) hx hb dX12_hasEvidence_23 (by decide) ?_
      subst hQ
      exact W.zret hx hb hr rfl (fun t ht hW => ⟨_, rfl, Or.inr rfl, ht⟩) (fun q hq => absurd hq List.not_mem_nil) dX12_hasEvidence_27
set_option maxHeartbeats 4000000 in
set_option maxRecDepth 100000 in
theorem c_X12_stateAtLast (l : Launch) (D : va_G) (cy : Nat → ClassId) (a : Nat → Nat) (i : Nat → Int32) (r : Nat → Nat → Int32) (rl : Nat → Int64) (p0 p1 : Int32) (hRi : mRi i) (hRr : mRr r) (q0 : 0 ≤ p0.toInt ∧ p0.toInt ≤ 5) (q1 : 0 ≤ p1.toInt ∧ p1.toInt ≤ 19) (qj : jOK r p1.toNatClampNeg) : Met l yX12_stateAtLast (Cond.code yX12_stateAtLast cX12_stateAtLast 3 (some .int) :: gT) { frames := 1, cells := 0, slots := 0, locals := 24 } (va_Pc [.ref (a 0), .int p0, .int p1] (rP D cy (mW cy a i r rl))) (vp_Si (fun z => 0 ≤ z.toInt ∧ z.toInt ≤ 9)) 0 0 (fun _ => False) := by
  refine Met.ofQ (cc := cX12_stateAtLast) (maxL := 3) (ret := (some .int)) (by decide) rfl ?_
  intro p e s m args below meth c s₁ B hml hv Q hQ
  obtain ⟨rfl, hP, hK⟩ := hv
  have hx := B.exec
  have hb := B.bytes
  have hr := B.returns
  have hlocks := B.notSynchronized
  have hT : ∀ w ∈ gT, w.before _ s = true := fun w h => atoms_spec (ws := (Cond.code yX12_stateAtLast cX12_stateAtLast 3 (some .int) :: gT)) B.pre w (List.mem_cons_of_mem _ h)
  have hown : s.vm.findClass RX12 = some m.cls := findClass_of_methodNamed B.named
  have hl := lv_entry ([.ref (a 0), .int p0, .int p1]) (n := 3) (Nat.le_of_ble_eq_true rfl)
  rw [lg_entry_eq]
  generalize (lg_sl ([.ref (a 0), .int p0, .int p1]) ++ List.replicate (3 - (lg_sl ([.ref (a 0), .int p0, .int p1])).length) Slot.unset).toArray = ls at hl ⊢
  have hl : lv_has ls 3 [(0, .ref (a 0)), (1, .int p0), (2, .int p1)] := hl
  have hEi : mEi [23, 24, 25, 26, 27, 28, 29, 30, 60] i i := Ei_rf
  have hEr : mEr [21, 22, 23, 24, 25, 26, 32, 33, 34, 35, 36, 37, 38, 39, 48, 49, 57, 61, 62] r r := Er_rf
  refine lv_aload_n hx hb dX12_stateAtLast_0 rfl (lv_at hl 0 rfl) ?_
  refine va_get (D := D) (ci := 12) (v := .ref (a 34)) (C := RX12) (T := TX12) (N := 91) hx hb hT iX12 hown hK hP 0 rfl rfl 45 (by decide) (hT _ t_32) (fun _ h9 => h9) rfl dX12_stateAtLast_1 ?_
  refine lv_iload_n hx hb dX12_stateAtLast_4 rfl (lv_at hl 2 rfl) ?_
  refine va_iald hx hb hK hP 34 0 rfl rfl (vp_inI (by omega) (by omega)) dX12_stateAtLast_5 ?_
  refine lv_topi (fun v_1 ev_1 => ?_)
  have hgv_1 : -1 ≤ v_1.toInt ∧ v_1.toInt ≤ 99 := by rw [ev_1]; exact hRr 34 _
  have hwv_1 : v_1.toInt = (r 34 (p1.toNatClampNeg)).toInt := congrArg Int32.toInt ev_1
  refine lv_bipush (v := 99) hx hb dX12_stateAtLast_6 (by decide) ?_
  refine lv_icmp_ne (tgt := 15) hx hb dX12_stateAtLast_8 (by decide) (fun c_2 => ?_) (fun c_2 => ?_)
  · have c_2 : v_1.toInt ≠ 99 := b_ne c_2
    refine lv_aload_n hx hb dX12_stateAtLast_15 rfl (lv_at hl 0 rfl) ?_
    refine va_get (D := D) (ci := 12) (v := .ref (a 18)) (C := RX12) (T := TX12) (N := 91) hx hb hT iX12 hown hK hP 0 rfl rfl 19 (by decide) (hT _ t_33) (fun _ h9 => h9) rfl dX12_stateAtLast_16 ?_
    refine lv_bipush (v := 20) hx hb dX12_stateAtLast_19 (by decide) ?_
    refine lv_iload_n hx hb dX12_stateAtLast_21 rfl (lv_at hl 1 rfl) ?_
    refine lv_imul hx hb dX12_stateAtLast_22 ?_
    refine lv_topi (fun v_3 ev_3 => ?_)
    have hv_3 : v_3.toInt = 20 * p0.toInt := by rw [ev_3]; have := b_rg p0; exact i_mul (a := 20) (b := p0.toInt) rfl rfl (by omega) (by omega)
    refine lv_aload_n hx hb dX12_stateAtLast_23 rfl (lv_at hl 0 rfl) ?_
    refine va_get (D := D) (ci := 12) (v := .ref (a 34)) (C := RX12) (T := TX12) (N := 91) hx hb hT iX12 hown hK hP 0 rfl rfl 45 (by decide) (hT _ t_32) (fun _ h9 => h9) rfl dX12_stateAtLast_24 ?_
    refine lv_iload_n hx hb dX12_stateAtLast_27 rfl (lv_at hl 2 rfl) ?_
    refine va_iald hx hb hK hP 34 0 rfl rfl (vp_inI (by omega) (by omega)) dX12_stateAtLast_28 ?_
    refine lv_topi (fun v_4 ev_4 => ?_)
    have hgv_4 : -1 ≤ v_4.toInt ∧ v_4.toInt ≤ 99 := by rw [ev_4]; exact hRr 34 _
    have hwv_4 : v_4.toInt = (r 34 (p1.toNatClampNeg)).toInt := congrArg Int32.toInt ev_4
    have hqv_4 : 0 ≤ v_4.toInt ∧ v_4.toInt ≤ 19 := by rcases qj with h9 | h9 <;> omega
    refine lv_iadd hx hb dX12_stateAtLast_29 ?_
    refine lv_topi (fun v_5 ev_5 => ?_)
    have hv_5 : v_5.toInt = v_3.toInt + v_4.toInt := by rw [ev_5]; have := b_rg v_3; have := b_rg v_4; exact i_add (a := v_3.toInt) (b := v_4.toInt) rfl rfl (by omega) (by omega)
    refine va_iald hx hb hK hP 18 0 rfl rfl (vp_inI (by omega) (by omega)) dX12_stateAtLast_30 ?_
    refine lv_topi (fun v_6 ev_6 => ?_)
    have hgv_6 : 0 ≤ v_6.toInt ∧ v_6.toInt ≤ 9 := by rw [ev_6]; exact hRr 18 _
    subst hQ
    exact W.iret (v := v_6) hx hb hr (fun t ht hW => ⟨_, rfl, (by show 0 ≤ v_6.toInt ∧ v_6.toInt ≤ 9; omega), ht⟩) (fun q hq => absurd hq List.not_mem_nil) dX12_stateAtLast_31
  · have c_2 : v_1.toInt = 99 := b_nne c_2
    refine lv_iconst (v := 0) hx hb dX12_stateAtLast_11 (by decide) ?_
    refine lv_goto (tgt := 31) hx hb dX12_stateAtLast_12 (by decide) ?_
    subst hQ
    exact W.iret (v := 0) hx hb hr (fun t ht hW => ⟨_, rfl, (by decide), ht⟩) (fun q hq => absurd hq List.not_mem_nil) dX12_stateAtLast_31
set_option maxHeartbeats 4000000 in
set_option maxRecDepth 100000 in
theorem c_X12_changeOf (l : Launch) (D : va_G) (cy : Nat → ClassId) (a : Nat → Nat) (i : Nat → Int32) (r : Nat → Nat → Int32) (rl : Nat → Int64) (p0 p1 : Int32) (hRi : mRi i) (hRr : mRr r) (q0 : 0 ≤ p0.toInt ∧ p0.toInt ≤ 5) (q1 : 0 ≤ p1.toInt ∧ p1.toInt ≤ 19) (qj : jOK r p1.toNatClampNeg) : Met l yX12_changeOf (Cond.code yX12_changeOf cX12_changeOf 4 (some .int) :: gT) { frames := 2, cells := 0, slots := 0, locals := 46 } (va_Pc [.ref (a 0), .int p0, .int p1] (rP D cy (mW cy a i r rl))) (vp_Si (fun z => 0 ≤ z.toInt ∧ z.toInt ≤ 3)) 0 0 (fun _ => False) := by
  refine Met.ofQ (cc := cX12_changeOf) (maxL := 4) (ret := (some .int)) (by decide) rfl ?_
  intro p e s m args below meth c s₁ B hml hv Q hQ
  obtain ⟨rfl, hP, hK⟩ := hv
  have hx := B.exec
  have hb := B.bytes
  have hr := B.returns
  have hlocks := B.notSynchronized
  have hT : ∀ w ∈ gT, w.before _ s = true := fun w h => atoms_spec (ws := (Cond.code yX12_changeOf cX12_changeOf 4 (some .int) :: gT)) B.pre w (List.mem_cons_of_mem _ h)
  have hown : s.vm.findClass RX12 = some m.cls := findClass_of_methodNamed B.named
  have hl := lv_entry ([.ref (a 0), .int p0, .int p1]) (n := 4) (Nat.le_of_ble_eq_true rfl)
  rw [lg_entry_eq]
  generalize (lg_sl ([.ref (a 0), .int p0, .int p1]) ++ List.replicate (4 - (lg_sl ([.ref (a 0), .int p0, .int p1])).length) Slot.unset).toArray = ls at hl ⊢
  have hl : lv_has ls 4 [(0, .ref (a 0)), (1, .int p0), (2, .int p1)] := hl
  have hEi : mEi [23, 24, 25, 26, 27, 28, 29, 30, 60] i i := Ei_rf
  have hEr : mEr [21, 22, 23, 24, 25, 26, 32, 33, 34, 35, 36, 37, 38, 39, 48, 49, 57, 61, 62] r r := Er_rf
  refine lv_aload_n hx hb dX12_changeOf_0 rfl (lv_at hl 0 rfl) ?_
  refine va_get (D := D) (ci := 12) (v := .ref (a 34)) (C := RX12) (T := TX12) (N := 91) hx hb hT iX12 hown hK hP 0 rfl rfl 45 (by decide) (hT _ t_32) (fun _ h9 => h9) rfl dX12_changeOf_1 ?_
  refine lv_iload_n hx hb dX12_changeOf_4 rfl (lv_at hl 2 rfl) ?_
  refine va_iald hx hb hK hP 34 0 rfl rfl (vp_inI (by omega) (by omega)) dX12_changeOf_5 ?_
  refine lv_topi (fun v_1 ev_1 => ?_)
  have hgv_1 : -1 ≤ v_1.toInt ∧ v_1.toInt ≤ 99 := by rw [ev_1]; exact hRr 34 _
  refine lv_bipush (v := 99) hx hb dX12_changeOf_6 (by decide) ?_
  refine lv_icmp_ne (tgt := 13) hx hb dX12_changeOf_8 (by decide) (fun c_2 => ?_) (fun c_2 => ?_)
  · have c_2 : v_1.toInt ≠ 99 := b_ne c_2
    refine lv_aload_n hx hb dX12_changeOf_13 rfl (lv_at hl 0 rfl) ?_
    refine lv_iload_n hx hb dX12_changeOf_14 rfl (lv_at hl 1 rfl) ?_
    refine lv_iload_n hx hb dX12_changeOf_15 rfl (lv_at hl 2 rfl) ?_
    refine vp_callSi (W.runV (As := [.int p0, .int p1]) (rest := []) ⟨hx, hb, hml, hown, hT⟩ (c_X12_stateAtLast l D cy a i r rl p0 p1 hRi hRr (by omega) (by omega) qj) (cwV 2 hT (gV t_34 t_35 t_36 t_37 t_6) rfl rfl rfl (by decide +kernel) ⟨Nat.le_of_ble_eq_true rfl, Nat.le_of_ble_eq_true rfl⟩) (rP_v hP hK (va_recv hK hP (ci := 12) (q0 := 0) rfl rfl)) rfl rfl hl.1 rfl (lv_room (Nat.le_of_ble_eq_true rfl)) dX12_changeOf_16 ⟨Nat.le_of_ble_eq_true rfl, Nat.le_of_ble_eq_true rfl⟩) (fun r_3 hr_3 => ?_)
    have hr_3 : 0 ≤ r_3.toInt ∧ r_3.toInt ≤ 9 := hr_3
    refine lv_aload_n hx hb dX12_changeOf_19 rfl (lv_at hl 0 rfl) ?_
    refine va_get (D := D) (ci := 12) (v := .ref (a 14)) (C := RX12) (T := TX12) (N := 91) hx hb hT iX12 hown hK hP 0 rfl rfl 15 (by decide) (hT _ t_38) (fun _ h9 => h9) rfl dX12_changeOf_20 ?_
    refine lv_bipush (v := 20) hx hb dX12_changeOf_23 (by decide) ?_
    refine lv_iload_n hx hb dX12_changeOf_25 rfl (lv_at hl 1 rfl) ?_
    refine lv_imul hx hb dX12_changeOf_26 ?_
    refine lv_topi (fun v_4 ev_4 => ?_)
    have hv_4 : v_4.toInt = 20 * p0.toInt := by rw [ev_4]; have := b_rg p0; exact i_mul (a := 20) (b := p0.toInt) rfl rfl (by omega) (by omega)
    refine lv_iload_n hx hb dX12_changeOf_27 rfl (lv_at hl 2 rfl) ?_
    refine lv_iadd hx hb dX12_changeOf_28 ?_
    refine lv_topi (fun v_5 ev_5 => ?_)
    have hv_5 : v_5.toInt = v_4.toInt + p1.toInt := by rw [ev_5]; have := b_rg v_4; have := b_rg p1; exact i_add (a := v_4.toInt) (b := p1.toInt) rfl rfl (by omega) (by omega)
    refine va_iald hx hb hK hP 14 0 rfl rfl (vp_inI (by omega) (by omega)) dX12_changeOf_29 ?_
    refine lv_topi (fun v_6 ev_6 => ?_)
    have hgv_6 : 0 ≤ v_6.toInt ∧ v_6.toInt ≤ 9 := by rw [ev_6]; exact hRr 14 _
    refine lv_isub hx hb dX12_changeOf_30 ?_
    refine lv_topi (fun v_7 ev_7 => ?_)
    have hv_7 : v_7.toInt = r_3.toInt - v_6.toInt := by rw [ev_7]; have := b_rg r_3; have := b_rg v_6; exact i_sub (a := r_3.toInt) (b := v_6.toInt) rfl rfl (by omega) (by omega)
    refine lv_istore_n (lv' := [(3, .int v_7), (0, .ref (a 0)), (1, .int p0), (2, .int p1)]) hx hb dX12_changeOf_31 rfl hl (by decide) rfl (fun ls hl => ?_)
    refine lv_iload_n hx hb dX12_changeOf_32 rfl (lv_at hl 0 rfl) ?_
    refine lv_if_ne (tgt := 40) hx hb dX12_changeOf_33 (by decide) (fun c_8 => ?_) (fun c_8 => ?_)
    · have c_8 : v_7.toInt ≠ 0 := b_ne c_8
      refine lv_iload_n hx hb dX12_changeOf_40 rfl (lv_at hl 0 rfl) ?_
      refine lv_if_ge (tgt := 48) hx hb dX12_changeOf_41 (by decide) (fun c_9 => ?_) (fun c_9 => ?_)
      · have c_9 : 0 ≤ v_7.toInt := b_le c_9
        refine lv_iconst (v := 3) hx hb dX12_changeOf_48 (by decide) ?_
        subst hQ
        exact W.iret (v := 3) hx hb hr (fun t ht hW => ⟨_, rfl, (by decide), ht⟩) (fun q hq => absurd hq List.not_mem_nil) dX12_changeOf_49
      · have c_9 : v_7.toInt < 0 := b_nle c_9
        refine lv_iconst (v := 1) hx hb dX12_changeOf_44 (by decide) ?_
        refine lv_goto (tgt := 49) hx hb dX12_changeOf_45 (by decide) ?_
        subst hQ
        exact W.iret (v := 1) hx hb hr (fun t ht hW => ⟨_, rfl, (by decide), ht⟩) (fun q hq => absurd hq List.not_mem_nil) dX12_changeOf_49
    · have c_8 : v_7.toInt = 0 := b_nne c_8
      refine lv_iconst (v := 0) hx hb dX12_changeOf_36 (by decide) ?_
      refine lv_goto (tgt := 49) hx hb dX12_changeOf_37 (by decide) ?_
      subst hQ
      exact W.iret (v := 0) hx hb hr (fun t ht hW => ⟨_, rfl, (by decide), ht⟩) (fun q hq => absurd hq List.not_mem_nil) dX12_changeOf_49
  · have c_2 : v_1.toInt = 99 := b_nne c_2
    refine lv_iconst (v := 2) hx hb dX12_changeOf_11 (by decide) ?_
    subst hQ
    exact W.iret (v := 2) hx hb hr (fun t ht hW => ⟨_, rfl, (by decide), ht⟩) (fun q hq => absurd hq List.not_mem_nil) dX12_changeOf_12
set_option maxHeartbeats 4000000 in
set_option maxRecDepth 100000 in
theorem c_X12_keptMost (l : Launch) (D : va_G) (cy : Nat → ClassId) (a : Nat → Nat) (i : Nat → Int32) (r : Nat → Nat → Int32) (rl : Nat → Int64) (sz : Nat) (hRi : mRi i) (hRr : mRr r) : Met l yX12_keptMost (Cond.code yX12_keptMost cX12_keptMost 4 (some .int) :: gT) { frames := 1, cells := 0, slots := 0, locals := 24 } (va_Pc [.ref (a 0)] (rQ D cy (mW cy a i r rl) sz)) (va_Qi (fun (z : Int32) (u : Nat → Nat → Int32) => mRr u ∧ mEr [37, 38] r u ∧ True) (fun (u : Nat → Nat → Int32) t => va_P D vwCl (mW cy a i u rl) t.heap ∧ va_K D vwCl (vT cy) t ∧ va_D (va_A (mW cy a i r rl) sz) (mW cy a i u rl)) (va_A (mW cy a i r rl) sz)) 0 0 (va_A (mW cy a i r rl) sz) := by
  refine Met.ofQ (cc := cX12_keptMost) (maxL := 4) (ret := (some .int)) (by decide) rfl ?_
  intro p e s m args below meth c s₁ B hml hv Q hQ
  obtain ⟨rfl, hsz, hP, hK, hD0⟩ := hv
  have hx := B.exec
  have hb := B.bytes
  have hr := B.returns
  have hlocks := B.notSynchronized
  have hT : ∀ w ∈ gT, w.before _ s = true := fun w h => atoms_spec (ws := (Cond.code yX12_keptMost cX12_keptMost 4 (some .int) :: gT)) B.pre w (List.mem_cons_of_mem _ h)
  have hown : s.vm.findClass RX12 = some m.cls := findClass_of_methodNamed B.named
  subst hsz
  have hD := hD0.self (sz := s.heap.size)
  generalize hAe : va_A (mW cy a i r rl) s.heap.size = A at hD hQ
  have hA : ∀ q : Nat, s.heap.size ≤ q → A q := fun q h => by rw [← hAe]; exact Or.inr h
  have hS : va_S A s.heap s.heap [] := va_S.rf
  have hl := lv_entry ([.ref (a 0)]) (n := 4) (Nat.le_of_ble_eq_true rfl)
  rw [lg_entry_eq]
  generalize (lg_sl ([.ref (a 0)]) ++ List.replicate (4 - (lg_sl ([.ref (a 0)])).length) Slot.unset).toArray = ls at hl ⊢
  have hl : lv_has ls 4 [(0, .ref (a 0))] := hl
  have hEi : mEi [23, 24, 25, 26, 27, 28, 29, 30, 60] i i := Ei_rf
  have hEr : mEr [37, 38] r r := Er_rf
  refine lv_iconst (v := 0) hx hb dX12_keptMost_0 (by decide) ?_
  refine lv_istore_n (lv' := [(1, .int 0), (0, .ref (a 0))]) hx hb dX12_keptMost_1 rfl hl (by decide) rfl (fun ls hl => ?_)
  have loop_1 : ∀ (n : Nat) (x1_1 : Int32) (r1 : Nat → Nat → Int32) (H : Heap) (locs : List Loc) (ls : Array Slot), (10 - x1_1.toInt).toNat < n → (0 ≤ x1_1.toInt ∧ x1_1.toInt ≤ 10) → mRr r1 → mEr [37, 38] r r1 → va_P D vwCl (mW cy a i r1 rl) H → va_D A (mW cy a i r1 rl) → va_S A s.heap H locs → lv_has ls 4 [(1, .int x1_1), (0, .ref (a 0))] → W p l e ({ frames := 1, cells := 0, slots := 0, locals := 24 } : Room) s m ([.ref (a 0)] : List Value).toArray below meth c H locs 0 0 Q (F0 m 2 ls []) := by
    intro n
    induction n with
    | zero =>
      intro x1_1 r1 H locs ls hm1 hf1_0 hRr hEr hP hD hS hl
      exact absurd hm1 (by omega)
    | succ n ih1 =>
      intro x1_1 r1 H locs ls hm1 hf1_0 hRr hEr hP hD hS hl
      refine lv_iload_n hx hb dX12_keptMost_2 rfl (lv_at hl 0 rfl) ?_
      refine lv_bipush (v := 10) hx hb dX12_keptMost_3 (by decide) ?_
      refine lv_icmp_ge (tgt := 38) hx hb dX12_keptMost_5 (by decide) (fun c_2 => ?_) (fun c_2 => ?_)
      · have c_2 : 10 ≤ x1_1.toInt := b_le c_2
        refine lv_iconst (v := 0) hx hb dX12_keptMost_38 (by decide) ?_
        refine lv_istore_n (lv' := [(1, .int 0), (0, .ref (a 0))]) hx hb dX12_keptMost_39 rfl hl (by decide) rfl (fun ls hl => ?_)
        refine lv_bipush (v := 9) hx hb dX12_keptMost_40 (by decide) ?_
        refine lv_istore_n (lv' := [(2, .int 9), (1, .int 0), (0, .ref (a 0))]) hx hb dX12_keptMost_42 rfl hl (by decide) rfl (fun ls hl => ?_)
        refine lv_bipush (v := 9) hx hb dX12_keptMost_43 (by decide) ?_
        refine lv_istore_n (lv' := [(3, .int 9), (2, .int 9), (1, .int 0), (0, .ref (a 0))]) hx hb dX12_keptMost_45 rfl hl (by decide) rfl (fun ls hl => ?_)
        have loop_3 : ∀ (n : Nat) (x3_3 : Int32) (x3_2 : Int32) (x3_1 : Int32) (r3 : Nat → Nat → Int32) (H : Heap) (locs : List Loc) (ls : Array Slot), ((x3_2.toInt + x3_3.toInt) * 8589934592 + ((r3 37 x3_2.toNatClampNeg).toBitVec.toNat : Int)).toNat < n → (0 ≤ x3_3.toInt ∧ x3_3.toInt ≤ 9) → (0 ≤ x3_2.toInt ∧ x3_2.toInt ≤ 9) → mRr r3 → mEr [37, 38] r r3 → va_P D vwCl (mW cy a i r3 rl) H → va_D A (mW cy a i r3 rl) → va_S A s.heap H locs → lv_has ls 4 [(3, .int x3_3), (2, .int x3_2), (1, .int x3_1), (0, .ref (a 0))] → W p l e ({ frames := 1, cells := 0, slots := 0, locals := 24 } : Room) s m ([.ref (a 0)] : List Value).toArray below meth c H locs 0 0 Q (F0 m 46 ls []) := by
          intro n
          induction n with
          | zero =>
            intro x3_3 x3_2 x3_1 r3 H locs ls hm3 hf3_0 hf3_1 hRr hEr hP hD hS hl
            exact absurd hm3 (by omega)
          | succ n ih3 =>
            intro x3_3 x3_2 x3_1 r3 H locs ls hm3 hf3_0 hf3_1 hRr hEr hP hD hS hl
            refine lv_iload_n hx hb dX12_keptMost_46 rfl (lv_at hl 1 rfl) ?_
            refine lv_if_le (tgt := 130) hx hb dX12_keptMost_47 (by decide) (fun c_4 => ?_) (fun c_4 => ?_)
            · have c_4 : x3_2.toInt ≤ 0 := b_le c_4
              refine lv_iload_n hx hb dX12_keptMost_130 rfl (lv_at hl 2 rfl) ?_
              subst hQ
              exact W.iret (v := x3_1) hx hb hr (fun t ht hW => ⟨⟨_, r3, rfl, ⟨hRr, hEr, trivial⟩, by rw [ht]; exact hP, va_K.moved hW.alike hK, hD⟩, hS.F ht⟩) hS.2.2 dX12_keptMost_131
            · have c_4 : 0 < x3_2.toInt := b_nle c_4
              refine lv_iload_n hx hb dX12_keptMost_50 rfl (lv_at hl 0 rfl) ?_
              refine lv_if_le (tgt := 130) hx hb dX12_keptMost_51 (by decide) (fun c_5 => ?_) (fun c_5 => ?_)
              · have c_5 : x3_3.toInt ≤ 0 := b_le c_5
                refine lv_iload_n hx hb dX12_keptMost_130 rfl (lv_at hl 2 rfl) ?_
                subst hQ
                exact W.iret (v := x3_1) hx hb hr (fun t ht hW => ⟨⟨_, r3, rfl, ⟨hRr, hEr, trivial⟩, by rw [ht]; exact hP, va_K.moved hW.alike hK, hD⟩, hS.F ht⟩) hS.2.2 dX12_keptMost_131
              · have c_5 : 0 < x3_3.toInt := b_nle c_5
                refine lv_aload_n hx hb dX12_keptMost_54 rfl (lv_at hl 3 rfl) ?_
                refine va_get (D := D) (ci := 12) (v := .ref (a 37)) (C := RX12) (T := TX12) (N := 91) hx hb hT iX12 hown hK hP 0 rfl rfl 48 (by decide) (hT _ t_39) (fun _ h9 => h9) rfl dX12_keptMost_55 ?_
                refine lv_iload_n hx hb dX12_keptMost_58 rfl (lv_at hl 1 rfl) ?_
                refine va_iald hx hb hK hP 37 0 rfl rfl (vp_inI (by omega) (by omega)) dX12_keptMost_59 ?_
                refine lv_topi (fun v_6 ev_6 => ?_)
                refine lv_if_ne (tgt := 70) hx hb dX12_keptMost_60 (by decide) (fun c_7 => ?_) (fun c_7 => ?_)
                · have c_7 : v_6.toInt ≠ 0 := b_ne c_7
                  refine lv_aload_n hx hb dX12_keptMost_70 rfl (lv_at hl 3 rfl) ?_
                  refine va_get (D := D) (ci := 12) (v := .ref (a 38)) (C := RX12) (T := TX12) (N := 91) hx hb hT iX12 hown hK hP 0 rfl rfl 49 (by decide) (hT _ t_40) (fun _ h9 => h9) rfl dX12_keptMost_71 ?_
                  refine lv_iload_n hx hb dX12_keptMost_74 rfl (lv_at hl 0 rfl) ?_
                  refine va_iald hx hb hK hP 38 0 rfl rfl (vp_inI (by omega) (by omega)) dX12_keptMost_75 ?_
                  refine lv_topi (fun v_8 ev_8 => ?_)
                  refine lv_if_ne (tgt := 86) hx hb dX12_keptMost_76 (by decide) (fun c_9 => ?_) (fun c_9 => ?_)
                  · have c_9 : v_8.toInt ≠ 0 := b_ne c_9
                    refine lv_iload_n hx hb dX12_keptMost_86 rfl (lv_at hl 2 rfl) ?_
                    refine lv_iload_n hx hb dX12_keptMost_87 rfl (lv_at hl 1 rfl) ?_
                    refine lv_iload_n hx hb dX12_keptMost_88 rfl (lv_at hl 0 rfl) ?_
                    refine lv_icmp_ge (tgt := 96) hx hb dX12_keptMost_89 (by decide) (fun c_10 => ?_) (fun c_10 => ?_)
                    · have c_10 : x3_3.toInt ≤ x3_2.toInt := b_le c_10
                      refine lv_iload_n hx hb dX12_keptMost_96 rfl (lv_at hl 0 rfl) ?_
                      refine lv_iadd hx hb dX12_keptMost_97 ?_
                      refine lv_topi (fun v_11 ev_11 => ?_)
                      refine lv_istore_n (lv' := [(1, .int v_11), (3, .int x3_3), (2, .int x3_2), (0, .ref (a 0))]) hx hb dX12_keptMost_98 rfl hl (by decide) rfl (fun ls hl => ?_)
                      refine lv_aload_n hx hb dX12_keptMost_99 rfl (lv_at hl 3 rfl) ?_
                      refine va_get (D := D) (ci := 12) (v := .ref (a 37)) (C := RX12) (T := TX12) (N := 91) hx hb hT iX12 hown hK hP 0 rfl rfl 48 (by decide) (hT _ t_39) (fun _ h9 => h9) rfl dX12_keptMost_100 ?_
                      refine lv_iload_n hx hb dX12_keptMost_103 rfl (lv_at hl 2 rfl) ?_
                      refine lv_aload_n hx hb dX12_keptMost_104 rfl (lv_at hl 3 rfl) ?_
                      refine va_get (D := D) (ci := 12) (v := .ref (a 37)) (C := RX12) (T := TX12) (N := 91) hx hb hT iX12 hown hK hP 0 rfl rfl 48 (by decide) (hT _ t_39) (fun _ h9 => h9) rfl dX12_keptMost_105 ?_
                      refine lv_iload_n hx hb dX12_keptMost_108 rfl (lv_at hl 2 rfl) ?_
                      refine va_iald hx hb hK hP 37 0 rfl rfl (vp_inI (by omega) (by omega)) dX12_keptMost_109 ?_
                      refine lv_topi (fun v_12 ev_12 => ?_)
                      refine lv_iconst (v := 1) hx hb dX12_keptMost_110 (by decide) ?_
                      refine lv_isub hx hb dX12_keptMost_111 ?_
                      refine lv_topi (fun v_13 ev_13 => ?_)
                      refine va_iast hx hb hK hP hD hS 37 0 rfl rfl (vp_inI (by omega) (by omega)) dX12_keptMost_112 (fun H locs hP hD hS => ?_)
                      rw [mS37] at hP hD
                      have hRr : mRr (va_up r3 37 (upd (r3 37) x3_2.toNatClampNeg v_13)) := Rr_upd hRr 37 (x3_2.toNatClampNeg) v_13 (b_rg _)
                      have hEr : mEr [37, 38] _ (va_up r3 37 (upd (r3 37) x3_2.toNatClampNeg v_13)) := Er_up hEr 37 _ (by decide)
                      refine lv_aload_n hx hb dX12_keptMost_113 rfl (lv_at hl 3 rfl) ?_
                      refine va_get (D := D) (ci := 12) (v := .ref (a 38)) (C := RX12) (T := TX12) (N := 91) hx hb hT iX12 hown hK hP 0 rfl rfl 49 (by decide) (hT _ t_40) (fun _ h9 => h9) rfl dX12_keptMost_114 ?_
                      refine lv_iload_n hx hb dX12_keptMost_117 rfl (lv_at hl 1 rfl) ?_
                      refine lv_aload_n hx hb dX12_keptMost_118 rfl (lv_at hl 3 rfl) ?_
                      refine va_get (D := D) (ci := 12) (v := .ref (a 38)) (C := RX12) (T := TX12) (N := 91) hx hb hT iX12 hown hK hP 0 rfl rfl 49 (by decide) (hT _ t_40) (fun _ h9 => h9) rfl dX12_keptMost_119 ?_
                      refine lv_iload_n hx hb dX12_keptMost_122 rfl (lv_at hl 1 rfl) ?_
                      refine va_iald hx hb hK hP 38 0 rfl rfl (vp_inI (by omega) (by omega)) dX12_keptMost_123 ?_
                      refine lv_topi (fun v_14 ev_14 => ?_)
                      refine lv_iconst (v := 1) hx hb dX12_keptMost_124 (by decide) ?_
                      refine lv_isub hx hb dX12_keptMost_125 ?_
                      refine lv_topi (fun v_15 ev_15 => ?_)
                      refine va_iast hx hb hK hP hD hS 38 0 rfl rfl (vp_inI (by omega) (by omega)) dX12_keptMost_126 (fun H locs hP hD hS => ?_)
                      rw [mS38] at hP hD
                      have hRr : mRr (va_up (va_up r3 37 (upd (r3 37) x3_2.toNatClampNeg v_13)) 38 (upd (r3 38) x3_3.toNatClampNeg v_15)) := Rr_upd hRr 38 (x3_3.toNatClampNeg) v_15 (b_rg _)
                      have hEr : mEr [37, 38] _ (va_up (va_up r3 37 (upd (r3 37) x3_2.toNatClampNeg v_13)) 38 (upd (r3 38) x3_3.toNatClampNeg v_15)) := Er_up hEr 38 _ (by decide)
                      refine lv_goto (tgt := 46) hx hb dX12_keptMost_127 (by decide) ?_
                      have hmm : (va_up (va_up r3 37 (upd (r3 37) x3_2.toNatClampNeg v_13)) 38 (upd (r3 38) x3_3.toNatClampNeg v_15)) 37 x3_2.toNatClampNeg = v_13 := pk_us
                      have hm2 : (v_13).toBitVec.toNat + 1 = (r3 37 x3_2.toNatClampNeg).toBitVec.toNat := by rw [ev_13, ev_12]; exact dec_nat (fun h => c_7 (by rw [ev_6]; exact congrArg Int32.toInt h))
                      rw [← hmm] at hm2
                      exact ih3 x3_3 x3_2 v_11 (va_up (va_up r3 37 (upd (r3 37) x3_2.toNatClampNeg v_13)) 38 (upd (r3 38) x3_3.toNatClampNeg v_15)) _ _ _ (by first | omega | (simp only [Int.toNat]; omega)) (by first | omega | decide) (by first | omega | decide) hRr hEr  hP hD hS (lv_sub hl [1, 2, 0, 3] rfl)
                    · have c_10 : x3_2.toInt < x3_3.toInt := b_nle c_10
                      refine lv_iload_n hx hb dX12_keptMost_92 rfl (lv_at hl 1 rfl) ?_
                      refine lv_goto (tgt := 97) hx hb dX12_keptMost_93 (by decide) ?_
                      refine lv_iadd hx hb dX12_keptMost_97 ?_
                      refine lv_topi (fun v_16 ev_16 => ?_)
                      refine lv_istore_n (lv' := [(1, .int v_16), (3, .int x3_3), (2, .int x3_2), (0, .ref (a 0))]) hx hb dX12_keptMost_98 rfl hl (by decide) rfl (fun ls hl => ?_)
                      refine lv_aload_n hx hb dX12_keptMost_99 rfl (lv_at hl 3 rfl) ?_
                      refine va_get (D := D) (ci := 12) (v := .ref (a 37)) (C := RX12) (T := TX12) (N := 91) hx hb hT iX12 hown hK hP 0 rfl rfl 48 (by decide) (hT _ t_39) (fun _ h9 => h9) rfl dX12_keptMost_100 ?_
                      refine lv_iload_n hx hb dX12_keptMost_103 rfl (lv_at hl 2 rfl) ?_
                      refine lv_aload_n hx hb dX12_keptMost_104 rfl (lv_at hl 3 rfl) ?_
                      refine va_get (D := D) (ci := 12) (v := .ref (a 37)) (C := RX12) (T := TX12) (N := 91) hx hb hT iX12 hown hK hP 0 rfl rfl 48 (by decide) (hT _ t_39) (fun _ h9 => h9) rfl dX12_keptMost_105 ?_
                      refine lv_iload_n hx hb dX12_keptMost_108 rfl (lv_at hl 2 rfl) ?_
                      refine va_iald hx hb hK hP 37 0 rfl rfl (vp_inI (by omega) (by omega)) dX12_keptMost_109 ?_
                      refine lv_topi (fun v_17 ev_17 => ?_)
                      refine lv_iconst (v := 1) hx hb dX12_keptMost_110 (by decide) ?_
                      refine lv_isub hx hb dX12_keptMost_111 ?_
                      refine lv_topi (fun v_18 ev_18 => ?_)
                      refine va_iast hx hb hK hP hD hS 37 0 rfl rfl (vp_inI (by omega) (by omega)) dX12_keptMost_112 (fun H locs hP hD hS => ?_)
                      rw [mS37] at hP hD
                      have hRr : mRr (va_up r3 37 (upd (r3 37) x3_2.toNatClampNeg v_18)) := Rr_upd hRr 37 (x3_2.toNatClampNeg) v_18 (b_rg _)
                      have hEr : mEr [37, 38] _ (va_up r3 37 (upd (r3 37) x3_2.toNatClampNeg v_18)) := Er_up hEr 37 _ (by decide)
                      refine lv_aload_n hx hb dX12_keptMost_113 rfl (lv_at hl 3 rfl) ?_
                      refine va_get (D := D) (ci := 12) (v := .ref (a 38)) (C := RX12) (T := TX12) (N := 91) hx hb hT iX12 hown hK hP 0 rfl rfl 49 (by decide) (hT _ t_40) (fun _ h9 => h9) rfl dX12_keptMost_114 ?_
                      refine lv_iload_n hx hb dX12_keptMost_117 rfl (lv_at hl 1 rfl) ?_
                      refine lv_aload_n hx hb dX12_keptMost_118 rfl (lv_at hl 3 rfl) ?_
                      refine va_get (D := D) (ci := 12) (v := .ref (a 38)) (C := RX12) (T := TX12) (N := 91) hx hb hT iX12 hown hK hP 0 rfl rfl 49 (by decide) (hT _ t_40) (fun _ h9 => h9) rfl dX12_keptMost_119 ?_
                      refine lv_iload_n hx hb dX12_keptMost_122 rfl (lv_at hl 1 rfl) ?_
                      refine va_iald hx hb hK hP 38 0 rfl rfl (vp_inI (by omega) (by omega)) dX12_keptMost_123 ?_
                      refine lv_topi (fun v_19 ev_19 => ?_)
                      refine lv_iconst (v := 1) hx hb dX12_keptMost_124 (by decide) ?_
                      refine lv_isub hx hb dX12_keptMost_125 ?_
                      refine lv_topi (fun v_20 ev_20 => ?_)
                      refine va_iast hx hb hK hP hD hS 38 0 rfl rfl (vp_inI (by omega) (by omega)) dX12_keptMost_126 (fun H locs hP hD hS => ?_)
                      rw [mS38] at hP hD
                      have hRr : mRr (va_up (va_up r3 37 (upd (r3 37) x3_2.toNatClampNeg v_18)) 38 (upd (r3 38) x3_3.toNatClampNeg v_20)) := Rr_upd hRr 38 (x3_3.toNatClampNeg) v_20 (b_rg _)
                      have hEr : mEr [37, 38] _ (va_up (va_up r3 37 (upd (r3 37) x3_2.toNatClampNeg v_18)) 38 (upd (r3 38) x3_3.toNatClampNeg v_20)) := Er_up hEr 38 _ (by decide)
                      refine lv_goto (tgt := 46) hx hb dX12_keptMost_127 (by decide) ?_
                      have hmm : (va_up (va_up r3 37 (upd (r3 37) x3_2.toNatClampNeg v_18)) 38 (upd (r3 38) x3_3.toNatClampNeg v_20)) 37 x3_2.toNatClampNeg = v_18 := pk_us
                      have hm2 : (v_18).toBitVec.toNat + 1 = (r3 37 x3_2.toNatClampNeg).toBitVec.toNat := by rw [ev_18, ev_17]; exact dec_nat (fun h => c_7 (by rw [ev_6]; exact congrArg Int32.toInt h))
                      rw [← hmm] at hm2
                      exact ih3 x3_3 x3_2 v_16 (va_up (va_up r3 37 (upd (r3 37) x3_2.toNatClampNeg v_18)) 38 (upd (r3 38) x3_3.toNatClampNeg v_20)) _ _ _ (by first | omega | (simp only [Int.toNat]; omega)) (by first | omega | decide) (by first | omega | decide) hRr hEr  hP hD hS (lv_sub hl [1, 2, 0, 3] rfl)
                  · have c_9 : v_8.toInt = 0 := b_nne c_9
                    refine lv_iload_n hx hb dX12_keptMost_79 rfl (lv_at hl 0 rfl) ?_
                    refine lv_iconst (v := 1) hx hb dX12_keptMost_80 (by decide) ?_
                    refine lv_isub hx hb dX12_keptMost_81 ?_
                    refine lv_topi (fun v_21 ev_21 => ?_)
                    have hv_21 : v_21.toInt = x3_3.toInt - 1 := by rw [ev_21]; have := b_rg x3_3; exact i_sub (a := x3_3.toInt) (b := 1) rfl rfl (by omega) (by omega)
                    refine lv_istore_n (lv' := [(3, .int v_21), (2, .int x3_2), (1, .int x3_1), (0, .ref (a 0))]) hx hb dX12_keptMost_82 rfl hl (by decide) rfl (fun ls hl => ?_)
                    refine lv_goto (tgt := 46) hx hb dX12_keptMost_83 (by decide) ?_
                    have hmm := ((r3) 37 x3_2.toNatClampNeg).toBitVec.isLt
                    exact ih3 v_21 x3_2 x3_1 r3 _ _ _ (by first | omega | (simp only [Int.toNat]; omega)) (by first | omega | decide) (by first | omega | decide) hRr hEr  hP hD hS (lv_sub hl [0, 1, 2, 3] rfl)
                · have c_7 : v_6.toInt = 0 := b_nne c_7
                  refine lv_iload_n hx hb dX12_keptMost_63 rfl (lv_at hl 1 rfl) ?_
                  refine lv_iconst (v := 1) hx hb dX12_keptMost_64 (by decide) ?_
                  refine lv_isub hx hb dX12_keptMost_65 ?_
                  refine lv_topi (fun v_22 ev_22 => ?_)
                  have hv_22 : v_22.toInt = x3_2.toInt - 1 := by rw [ev_22]; have := b_rg x3_2; exact i_sub (a := x3_2.toInt) (b := 1) rfl rfl (by omega) (by omega)
                  refine lv_istore_n (lv' := [(2, .int v_22), (3, .int x3_3), (1, .int x3_1), (0, .ref (a 0))]) hx hb dX12_keptMost_66 rfl hl (by decide) rfl (fun ls hl => ?_)
                  refine lv_goto (tgt := 46) hx hb dX12_keptMost_67 (by decide) ?_
                  have hmm := ((r3) 37 v_22.toNatClampNeg).toBitVec.isLt
                  exact ih3 x3_3 v_22 x3_1 r3 _ _ _ (by first | omega | (simp only [Int.toNat]; omega)) (by first | omega | decide) (by first | omega | decide) hRr hEr  hP hD hS (lv_sub hl [1, 0, 2, 3] rfl)
        exact loop_3 _ 9 9 0 r1 _ _ _ (Nat.lt_succ_self _) (by first | omega | decide) (by first | omega | decide) hRr hEr  hP hD hS hl
      · have c_2 : x1_1.toInt < 10 := b_nle c_2
        refine lv_aload_n hx hb dX12_keptMost_8 rfl (lv_at hl 1 rfl) ?_
        refine va_get (D := D) (ci := 12) (v := .ref (a 37)) (C := RX12) (T := TX12) (N := 91) hx hb hT iX12 hown hK hP 0 rfl rfl 48 (by decide) (hT _ t_39) (fun _ h9 => h9) rfl dX12_keptMost_9 ?_
        refine lv_iload_n hx hb dX12_keptMost_12 rfl (lv_at hl 0 rfl) ?_
        refine lv_aload_n hx hb dX12_keptMost_13 rfl (lv_at hl 1 rfl) ?_
        refine va_get (D := D) (ci := 12) (v := .ref (a 35)) (C := RX12) (T := TX12) (N := 91) hx hb hT iX12 hown hK hP 0 rfl rfl 46 (by decide) (hT _ t_41) (fun _ h9 => h9) rfl dX12_keptMost_14 ?_
        refine lv_iload_n hx hb dX12_keptMost_17 rfl (lv_at hl 0 rfl) ?_
        refine va_iald hx hb hK hP 35 0 rfl rfl (vp_inI (by omega) (by omega)) dX12_keptMost_18 ?_
        refine lv_topi (fun v_23 ev_23 => ?_)
        refine va_iast hx hb hK hP hD hS 37 0 rfl rfl (vp_inI (by omega) (by omega)) dX12_keptMost_19 (fun H locs hP hD hS => ?_)
        rw [mS37] at hP hD
        have hRr : mRr (va_up r1 37 (upd (r1 37) x1_1.toNatClampNeg v_23)) := Rr_upd hRr 37 (x1_1.toNatClampNeg) v_23 (b_rg _)
        have hEr : mEr [37, 38] _ (va_up r1 37 (upd (r1 37) x1_1.toNatClampNeg v_23)) := Er_up hEr 37 _ (by decide)
        refine lv_aload_n hx hb dX12_keptMost_20 rfl (lv_at hl 1 rfl) ?_
        refine va_get (D := D) (ci := 12) (v := .ref (a 38)) (C := RX12) (T := TX12) (N := 91) hx hb hT iX12 hown hK hP 0 rfl rfl 49 (by decide) (hT _ t_40) (fun _ h9 => h9) rfl dX12_keptMost_21 ?_
        refine lv_iload_n hx hb dX12_keptMost_24 rfl (lv_at hl 0 rfl) ?_
        refine lv_aload_n hx hb dX12_keptMost_25 rfl (lv_at hl 1 rfl) ?_
        refine va_get (D := D) (ci := 12) (v := .ref (a 36)) (C := RX12) (T := TX12) (N := 91) hx hb hT iX12 hown hK hP 0 rfl rfl 47 (by decide) (hT _ t_42) (fun _ h9 => h9) rfl dX12_keptMost_26 ?_
        refine lv_iload_n hx hb dX12_keptMost_29 rfl (lv_at hl 0 rfl) ?_
        refine va_iald hx hb hK hP 36 0 rfl rfl (vp_inI (by omega) (by omega)) dX12_keptMost_30 ?_
        refine lv_topi (fun v_24 ev_24 => ?_)
        refine va_iast hx hb hK hP hD hS 38 0 rfl rfl (vp_inI (by omega) (by omega)) dX12_keptMost_31 (fun H locs hP hD hS => ?_)
        rw [mS38] at hP hD
        have hRr : mRr (va_up (va_up r1 37 (upd (r1 37) x1_1.toNatClampNeg v_23)) 38 (upd (r1 38) x1_1.toNatClampNeg v_24)) := Rr_upd hRr 38 (x1_1.toNatClampNeg) v_24 (b_rg _)
        have hEr : mEr [37, 38] _ (va_up (va_up r1 37 (upd (r1 37) x1_1.toNatClampNeg v_23)) 38 (upd (r1 38) x1_1.toNatClampNeg v_24)) := Er_up hEr 38 _ (by decide)
        obtain ⟨x_25, ex_25⟩ : ∃ y : Int32, y = x1_1 + 1 := ⟨_, rfl⟩
        refine lv_iinc (v := x_25) (lv' := [(1, .int x_25), (0, .ref (a 0))]) hx hb dX12_keptMost_32 hl (k := 0) rfl (by rw [ex_25]; rfl) (by decide) rfl (fun ls hl => ?_)
        have hx_25 : x_25.toInt = x1_1.toInt + 1 := by rw [ex_25]; have := b_rg x1_1; exact i_add (a := x1_1.toInt) (b := 1) rfl rfl (by omega) (by omega)
        refine lv_goto (tgt := 2) hx hb dX12_keptMost_35 (by decide) ?_
        exact ih1 x_25 (va_up (va_up r1 37 (upd (r1 37) x1_1.toNatClampNeg v_23)) 38 (upd (r1 38) x1_1.toNatClampNeg v_24)) _ _ _ (by first | omega | (simp only [Int.toNat]; omega)) (by first | omega | decide) hRr hEr  hP hD hS (lv_sub hl [0, 1] rfl)
  exact loop_1 _ 0 r _ _ _ (Nat.lt_succ_self _) (by first | omega | decide) hRr hEr  hP hD hS hl
def jM (r R : Nat → Nat → Int32) : Prop := ∀ k, jOK R k ∨ R 34 k = r 34 k
theorem jOK_ne {r : Nat → Nat → Int32} {p : Nat} {f : Nat → Int32} {k : Nat} (hp : 34 ≠ p) (h : jOK r k) : jOK (va_up r p f) k := by
  unfold jOK va_up at *
  rw [if_neg hp]; exact h
theorem jOK_ee {r R : Nat → Nat → Int32} {k : Nat} (h : R 34 k = r 34 k) (h2 : jOK r k) : jOK R k := by
  unfold jOK at *
  rw [h]; exact h2
theorem jM_eq {r R : Nat → Nat → Int32} (h : R 34 = r 34) : jM r R := fun k => Or.inr (congrFun h k)
theorem jM_ok {r R : Nat → Nat → Int32} {k : Nat} (h : jM r R) (h2 : jOK r k) : jOK R k := (h k).elim id (fun e => jOK_ee e h2)
theorem jM_tr {r R S : Nat → Nat → Int32} (h : jM r R) (h2 : jM R S) : jM r S := fun k => (h2 k).elim Or.inl (fun e => (h k).elim (fun h3 => Or.inl (jOK_ee e h3)) (fun e2 => Or.inr (e.trans e2)))
theorem jM_ne {r R : Nat → Nat → Int32} {p : Nat} {f : Nat → Int32} (hp : 34 ≠ p) (h : jM r R) : jM r (va_up R p f) := fun k => (h k).elim (fun h2 => Or.inl (jOK_ne hp h2)) (fun e => Or.inr (by unfold va_up; rw [if_neg hp]; exact e))
theorem jOK_st {R : Nat → Nat → Int32} (k : Nat) (v : Int32) (hv : v.toInt = 99 ∨ (0 ≤ v.toInt ∧ v.toInt ≤ 19)) : jOK (va_up R 34 (upd (R 34) k v)) k ∧ jM R (va_up R 34 (upd (R 34) k v)) := by
  have h1 : ∀ j, (va_up R 34 (upd (R 34) k v)) 34 j = if j = k then v else R 34 j := fun j => rfl
  have h2 : jOK (va_up R 34 (upd (R 34) k v)) k := by unfold jOK; rw [h1, if_pos rfl]; exact hv
  refine ⟨h2, fun j => ?_⟩
  by_cases e : j = k
  · rw [e]; exact Or.inl h2
  · exact Or.inr (by rw [h1, if_neg e])
set_option maxHeartbeats 4000000 in
set_option maxRecDepth 100000 in
theorem c_X12_joinsOne (l : Launch) (D : va_G) (cy : Nat → ClassId) (a : Nat → Nat) (i : Nat → Int32) (r : Nat → Nat → Int32) (rl : Nat → Int64) (p0 p1 p2 p3 p4 : Int32) (sz : Nat) (hRi : mRi i) (hRr : mRr r) (q0 : 0 ≤ p0.toInt ∧ p0.toInt ≤ 5) (q1 : 0 ≤ p1.toInt ∧ p1.toInt ≤ 19) : Met l yX12_joinsOne (Cond.code yX12_joinsOne cX12_joinsOne 10 (some .int) :: gT) { frames := 2, cells := 0, slots := 0, locals := 48 } (va_Pc [.ref (a 0), .int p0, .int p1, .int p2, .int p3, .int p4] (rQ D cy (mW cy a i r rl) sz)) (va_Qi (fun (z : Int32) (u : Nat → Nat → Int32) => mRr u ∧ mEr [34, 36, 37, 38, 39] r u ∧ (jOK u p1.toNatClampNeg ∧ jM r u)) (fun (u : Nat → Nat → Int32) t => va_P D vwCl (mW cy a i u rl) t.heap ∧ va_K D vwCl (vT cy) t ∧ va_D (va_A (mW cy a i r rl) sz) (mW cy a i u rl)) (va_A (mW cy a i r rl) sz)) 0 0 (va_A (mW cy a i r rl) sz) := by
  refine Met.ofQ (cc := cX12_joinsOne) (maxL := 10) (ret := (some .int)) (by decide) rfl ?_
  intro p e s m args below meth c s₁ B hml hv Q hQ
  obtain ⟨rfl, hsz, hP, hK, hD0⟩ := hv
  have hx := B.exec
  have hb := B.bytes
  have hr := B.returns
  have hlocks := B.notSynchronized
  have hT : ∀ w ∈ gT, w.before _ s = true := fun w h => atoms_spec (ws := (Cond.code yX12_joinsOne cX12_joinsOne 10 (some .int) :: gT)) B.pre w (List.mem_cons_of_mem _ h)
  have hown : s.vm.findClass RX12 = some m.cls := findClass_of_methodNamed B.named
  subst hsz
  have hD := hD0.self (sz := s.heap.size)
  generalize hAe : va_A (mW cy a i r rl) s.heap.size = A at hD hQ
  have hA : ∀ q : Nat, s.heap.size ≤ q → A q := fun q h => by rw [← hAe]; exact Or.inr h
  have hS : va_S A s.heap s.heap [] := va_S.rf
  have hl := lv_entry ([.ref (a 0), .int p0, .int p1, .int p2, .int p3, .int p4]) (n := 10) (Nat.le_of_ble_eq_true rfl)
  rw [lg_entry_eq]
  generalize (lg_sl ([.ref (a 0), .int p0, .int p1, .int p2, .int p3, .int p4]) ++ List.replicate (10 - (lg_sl ([.ref (a 0), .int p0, .int p1, .int p2, .int p3, .int p4])).length) Slot.unset).toArray = ls at hl ⊢
  have hl : lv_has ls 10 [(0, .ref (a 0)), (1, .int p0), (2, .int p1), (3, .int p2), (4, .int p3), (5, .int p4)] := hl
  have hEi : mEi [23, 24, 25, 26, 27, 28, 29, 30, 60] i i := Ei_rf
  have hEr : mEr [34, 36, 37, 38, 39] r r := Er_rf
  have hJ : r 34 = r 34 := rfl
  refine lv_aload_n hx hb dX12_joinsOne_0 rfl (lv_at hl 0 rfl) ?_
  refine va_get (D := D) (ci := 12) (v := .ref (a 14)) (C := RX12) (T := TX12) (N := 91) hx hb hT iX12 hown hK hP 0 rfl rfl 15 (by decide) (hT _ t_38) (fun _ h9 => h9) rfl dX12_joinsOne_1 ?_
  refine lv_bipush (v := 20) hx hb dX12_joinsOne_4 (by decide) ?_
  refine lv_iload_n hx hb dX12_joinsOne_6 rfl (lv_at hl 1 rfl) ?_
  refine lv_imul hx hb dX12_joinsOne_7 ?_
  refine lv_topi (fun v_1 ev_1 => ?_)
  have hv_1 : v_1.toInt = 20 * p0.toInt := by rw [ev_1]; have := b_rg p0; exact i_mul (a := 20) (b := p0.toInt) rfl rfl (by omega) (by omega)
  refine lv_iload_n hx hb dX12_joinsOne_8 rfl (lv_at hl 2 rfl) ?_
  refine lv_iadd hx hb dX12_joinsOne_9 ?_
  refine lv_topi (fun v_2 ev_2 => ?_)
  have hv_2 : v_2.toInt = v_1.toInt + p1.toInt := by rw [ev_2]; have := b_rg v_1; have := b_rg p1; exact i_add (a := v_1.toInt) (b := p1.toInt) rfl rfl (by omega) (by omega)
  refine va_iald hx hb hK hP 14 0 rfl rfl (vp_inI (by omega) (by omega)) dX12_joinsOne_10 ?_
  refine lv_topi (fun v_3 ev_3 => ?_)
  have hgv_3 : 0 ≤ v_3.toInt ∧ v_3.toInt ≤ 9 := by rw [ev_3]; exact hRr 14 _
  refine lv_istore (lv' := [(6, .int v_3), (0, .ref (a 0)), (1, .int p0), (2, .int p1), (3, .int p2), (4, .int p3), (5, .int p4)]) hx hb dX12_joinsOne_11 hl (by decide) rfl (fun ls hl => ?_)
  refine lv_iconst (v := 0) hx hb dX12_joinsOne_13 (by decide) ?_
  refine lv_istore (lv' := [(7, .int 0), (6, .int v_3), (0, .ref (a 0)), (1, .int p0), (2, .int p1), (3, .int p2), (4, .int p3), (5, .int p4)]) hx hb dX12_joinsOne_14 hl (by decide) rfl (fun ls hl => ?_)
  have loop_4 : ∀ (n : Nat) (x4_7 : Int32) (r4 : Nat → Nat → Int32) (H : Heap) (locs : List Loc) (ls : Array Slot), (20 - x4_7.toInt).toNat < n → (0 ≤ x4_7.toInt ∧ x4_7.toInt ≤ 20) → mRr r4 → mEr [34, 36, 37, 38, 39] r r4 → (r4 34 = r 34) → va_P D vwCl (mW cy a i r4 rl) H → va_D A (mW cy a i r4 rl) → va_S A s.heap H locs → lv_has ls 10 [(7, .int x4_7), (6, .int v_3), (0, .ref (a 0)), (1, .int p0), (2, .int p1), (3, .int p2), (4, .int p3), (5, .int p4)] → W p l e ({ frames := 2, cells := 0, slots := 0, locals := 48 } : Room) s m ([.ref (a 0), .int p0, .int p1, .int p2, .int p3, .int p4] : List Value).toArray below meth c H locs 0 0 Q (F0 m 16 ls []) := by
    intro n
    induction n with
    | zero =>
      intro x4_7 r4 H locs ls hm4 hf4_0 hRr hEr hx4 hP hD hS hl
      exact absurd hm4 (by omega)
    | succ n ih4 =>
      intro x4_7 r4 H locs ls hm4 hf4_0 hRr hEr hx4 hP hD hS hl
      refine lv_iload hx hb dX12_joinsOne_16 (lv_at hl 0 rfl) ?_
      have hJ := hx4
      refine lv_aload_n hx hb dX12_joinsOne_18 rfl (lv_at hl 2 rfl) ?_
      refine va_get (D := D) (ci := 12) (v := .ref (a 11)) (C := RX12) (T := TX12) (N := 91) hx hb hT iX12 hown hK hP 0 rfl rfl 12 (by decide) (hT _ t_43) (fun _ h9 => h9) rfl dX12_joinsOne_19 ?_
      refine lv_iload_n hx hb dX12_joinsOne_22 rfl (lv_at hl 3 rfl) ?_
      refine va_iald hx hb hK hP 11 0 rfl rfl (vp_inI (by omega) (by omega)) dX12_joinsOne_23 ?_
      refine lv_topi (fun v_5 ev_5 => ?_)
      have hgv_5 : 0 ≤ v_5.toInt ∧ v_5.toInt ≤ 20 := by rw [ev_5]; exact hRr 11 _
      refine lv_icmp_ge (tgt := 152) hx hb dX12_joinsOne_24 (by decide) (fun c_6 => ?_) (fun c_6 => ?_)
      · have c_6 : v_5.toInt ≤ x4_7.toInt := b_le c_6
        refine lv_aload_n hx hb dX12_joinsOne_152 rfl (lv_at hl 2 rfl) ?_
        refine va_get (D := D) (ci := 12) (v := .ref (a 34)) (C := RX12) (T := TX12) (N := 91) hx hb hT iX12 hown hK hP 0 rfl rfl 45 (by decide) (hT _ t_32) (fun _ h9 => h9) rfl dX12_joinsOne_153 ?_
        refine lv_iload_n hx hb dX12_joinsOne_156 rfl (lv_at hl 4 rfl) ?_
        refine lv_bipush (v := 99) hx hb dX12_joinsOne_157 (by decide) ?_
        refine va_iast hx hb hK hP hD hS 34 0 rfl rfl (vp_inI (by omega) (by omega)) dX12_joinsOne_159 (fun H locs hP hD hS => ?_)
        rw [mS34] at hP hD
        have hRr : mRr (va_up r4 34 (upd (r4 34) p1.toNatClampNeg 99)) := Rr_upd hRr 34 (p1.toNatClampNeg) 99 ⟨by decide, by decide⟩
        have hEr : mEr [34, 36, 37, 38, 39] _ (va_up r4 34 (upd (r4 34) p1.toNatClampNeg 99)) := Er_up hEr 34 _ (by decide)
        refine lv_iload hx hb dX12_joinsOne_160 (lv_at hl 7 rfl) ?_
        subst hQ
        have hj9 := jOK_st (R := r4) p1.toNatClampNeg 99 (by first | (right; omega) | (left; rfl))
        exact W.iret (v := p4) hx hb hr (fun t ht hW => ⟨⟨_, (va_up r4 34 (upd (r4 34) p1.toNatClampNeg 99)), rfl, ⟨hRr, hEr, ⟨hj9.1, jM_tr (jM_eq hJ) hj9.2⟩⟩, by rw [ht]; exact hP, va_K.moved hW.alike hK, hD⟩, hS.F ht⟩) hS.2.2 dX12_joinsOne_162
      · have c_6 : x4_7.toInt < v_5.toInt := b_nle c_6
        refine lv_aload_n hx hb dX12_joinsOne_27 rfl (lv_at hl 2 rfl) ?_
        refine va_get (D := D) (ci := 12) (v := .ref (a 39)) (C := RX12) (T := TX12) (N := 91) hx hb hT iX12 hown hK hP 0 rfl rfl 50 (by decide) (hT _ t_44) (fun _ h9 => h9) rfl dX12_joinsOne_28 ?_
        refine lv_iload hx hb dX12_joinsOne_31 (lv_at hl 0 rfl) ?_
        refine va_zald hx hb hK hP 39 2 rfl rfl (vp_inI (by omega) (by omega)) dX12_joinsOne_33 ?_
        refine lv_topi (fun v_7 ev_7 => ?_)
        refine lv_if_ne (tgt := 146) hx hb dX12_joinsOne_34 (by decide) (fun c_8 => ?_) (fun c_8 => ?_)
        · have c_8 : v_7.toInt ≠ 0 := b_ne c_8
          obtain ⟨x_9, ex_9⟩ : ∃ y : Int32, y = x4_7 + 1 := ⟨_, rfl⟩
          refine lv_iinc (v := x_9) (lv' := [(7, .int x_9), (6, .int v_3), (0, .ref (a 0)), (1, .int p0), (2, .int p1), (3, .int p2), (4, .int p3), (5, .int p4)]) hx hb dX12_joinsOne_146 hl (k := 0) rfl (by rw [ex_9]; rfl) (by decide) rfl (fun ls hl => ?_)
          have hx_9 : x_9.toInt = x4_7.toInt + 1 := by rw [ex_9]; have := b_rg x4_7; exact i_add (a := x4_7.toInt) (b := 1) rfl rfl (by omega) (by omega)
          refine lv_goto (tgt := 16) hx hb dX12_joinsOne_149 (by decide) ?_
          exact ih4 x_9 r4 _ _ _ (by first | omega | (simp only [Int.toNat]; omega)) (by first | omega | decide) hRr hEr hJ hP hD hS (lv_sub hl [0, 1, 2, 3, 4, 5, 6, 7] rfl)
        · have c_8 : v_7.toInt = 0 := b_nne c_8
          refine lv_aload_n hx hb dX12_joinsOne_37 rfl (lv_at hl 2 rfl) ?_
          refine lv_iload_n hx hb dX12_joinsOne_38 rfl (lv_at hl 3 rfl) ?_
          refine lv_iload hx hb dX12_joinsOne_39 (lv_at hl 0 rfl) ?_
          refine lv_iload_n hx hb dX12_joinsOne_41 rfl (lv_at hl 5 rfl) ?_
          refine lv_iload hx hb dX12_joinsOne_42 (lv_at hl 6 rfl) ?_
          refine vp_callSi (W.runV (As := [.int p0, .int x4_7, .int p2, .int p3]) (rest := []) ⟨hx, hb, hml, hown, hT⟩ (c_X12_isOf l D cy a i r4 rl p0 x4_7 p2 p3 hRi hRr (by omega) (by omega)) (cwV 4 hT (gV t_45 t_46 t_47 t_48 t_6) rfl rfl rfl (by decide +kernel) ⟨Nat.le_of_ble_eq_true rfl, Nat.le_of_ble_eq_true rfl⟩) (rP_v hP hK (va_recv hK hP (ci := 12) (q0 := 0) rfl rfl)) rfl rfl hl.1 rfl (lv_room (Nat.le_of_ble_eq_true rfl)) dX12_joinsOne_44 ⟨Nat.le_of_ble_eq_true rfl, Nat.le_of_ble_eq_true rfl⟩) (fun r_10 hr_10 => ?_)
          rcases hr_10 with rfl | rfl
          · skip
            refine lv_if_ne (tgt := 53) hx hb dX12_joinsOne_47 (by decide) (fun c_11 => absurd (by decide) c_11) (fun c_11 => ?_)
            refine lv_goto (tgt := 146) hx hb dX12_joinsOne_50 (by decide) ?_
            obtain ⟨x_12, ex_12⟩ : ∃ y : Int32, y = x4_7 + 1 := ⟨_, rfl⟩
            refine lv_iinc (v := x_12) (lv' := [(7, .int x_12), (6, .int v_3), (0, .ref (a 0)), (1, .int p0), (2, .int p1), (3, .int p2), (4, .int p3), (5, .int p4)]) hx hb dX12_joinsOne_146 hl (k := 0) rfl (by rw [ex_12]; rfl) (by decide) rfl (fun ls hl => ?_)
            have hx_12 : x_12.toInt = x4_7.toInt + 1 := by rw [ex_12]; have := b_rg x4_7; exact i_add (a := x4_7.toInt) (b := 1) rfl rfl (by omega) (by omega)
            refine lv_goto (tgt := 16) hx hb dX12_joinsOne_149 (by decide) ?_
            exact ih4 x_12 r4 _ _ _ (by first | omega | (simp only [Int.toNat]; omega)) (by first | omega | decide) hRr hEr hJ hP hD hS (lv_sub hl [0, 1, 2, 3, 4, 5, 6, 7] rfl)
          · skip
            refine lv_if_ne (tgt := 53) hx hb dX12_joinsOne_47 (by decide) (fun c_13 => ?_) (fun c_13 => absurd c_13 (by decide))
            refine lv_aload_n hx hb dX12_joinsOne_53 rfl (lv_at hl 2 rfl) ?_
            refine va_get (D := D) (ci := 12) (v := .ref (a 18)) (C := RX12) (T := TX12) (N := 91) hx hb hT iX12 hown hK hP 0 rfl rfl 19 (by decide) (hT _ t_33) (fun _ h9 => h9) rfl dX12_joinsOne_54 ?_
            refine lv_bipush (v := 20) hx hb dX12_joinsOne_57 (by decide) ?_
            refine lv_iload_n hx hb dX12_joinsOne_59 rfl (lv_at hl 3 rfl) ?_
            refine lv_imul hx hb dX12_joinsOne_60 ?_
            refine lv_topi (fun v_14 ev_14 => ?_)
            have hv_14 : v_14.toInt = 20 * p0.toInt := by rw [ev_14]; have := b_rg p0; exact i_mul (a := 20) (b := p0.toInt) rfl rfl (by omega) (by omega)
            refine lv_iload hx hb dX12_joinsOne_61 (lv_at hl 0 rfl) ?_
            refine lv_iadd hx hb dX12_joinsOne_63 ?_
            refine lv_topi (fun v_15 ev_15 => ?_)
            have hv_15 : v_15.toInt = v_14.toInt + x4_7.toInt := by rw [ev_15]; have := b_rg v_14; have := b_rg x4_7; exact i_add (a := v_14.toInt) (b := x4_7.toInt) rfl rfl (by omega) (by omega)
            refine va_iald hx hb hK hP 18 0 rfl rfl (vp_inI (by omega) (by omega)) dX12_joinsOne_64 ?_
            refine lv_topi (fun v_16 ev_16 => ?_)
            have hgv_16 : 0 ≤ v_16.toInt ∧ v_16.toInt ≤ 9 := by rw [ev_16]; exact hRr 18 _
            refine lv_istore (lv' := [(8, .int v_16), (7, .int x4_7), (6, .int v_3), (0, .ref (a 0)), (1, .int p0), (2, .int p1), (3, .int p2), (4, .int p3), (5, .int p4)]) hx hb dX12_joinsOne_65 hl (by decide) rfl (fun ls hl => ?_)
            refine lv_aload_n hx hb dX12_joinsOne_67 rfl (lv_at hl 3 rfl) ?_
            refine va_get (D := D) (ci := 12) (v := .ref (a 36)) (C := RX12) (T := TX12) (N := 91) hx hb hT iX12 hown hK hP 0 rfl rfl 47 (by decide) (hT _ t_42) (fun _ h9 => h9) rfl dX12_joinsOne_68 ?_
            refine lv_iload hx hb dX12_joinsOne_71 (lv_at hl 0 rfl) ?_
            refine lv_aload_n hx hb dX12_joinsOne_73 rfl (lv_at hl 3 rfl) ?_
            refine va_get (D := D) (ci := 12) (v := .ref (a 36)) (C := RX12) (T := TX12) (N := 91) hx hb hT iX12 hown hK hP 0 rfl rfl 47 (by decide) (hT _ t_42) (fun _ h9 => h9) rfl dX12_joinsOne_74 ?_
            refine lv_iload hx hb dX12_joinsOne_77 (lv_at hl 0 rfl) ?_
            refine va_iald hx hb hK hP 36 0 rfl rfl (vp_inI (by omega) (by omega)) dX12_joinsOne_79 ?_
            refine lv_topi (fun v_17 ev_17 => ?_)
            refine lv_iconst (v := 1) hx hb dX12_joinsOne_80 (by decide) ?_
            refine lv_isub hx hb dX12_joinsOne_81 ?_
            refine lv_topi (fun v_18 ev_18 => ?_)
            refine va_iast hx hb hK hP hD hS 36 0 rfl rfl (vp_inI (by omega) (by omega)) dX12_joinsOne_82 (fun H locs hP hD hS => ?_)
            rw [mS36] at hP hD
            have hRr : mRr (va_up r4 36 (upd (r4 36) v_16.toNatClampNeg v_18)) := Rr_upd hRr 36 (v_16.toNatClampNeg) v_18 (b_rg _)
            have hEr : mEr [34, 36, 37, 38, 39] _ (va_up r4 36 (upd (r4 36) v_16.toNatClampNeg v_18)) := Er_up hEr 36 _ (by decide)
            refine lv_aload_n hx hb dX12_joinsOne_83 rfl (lv_at hl 3 rfl) ?_
            have hF_19 := rF hD hS hA
            refine va_calli (va_runV (As := []) (rest := []) ⟨hx, hb, hml, hown, hT⟩ (c_X12_keptMost l D cy a i (va_up r4 36 (upd (r4 36) v_16.toNatClampNeg v_18)) rl _ hRi hRr) (cwV 0 hT (gV t_49 t_50 t_51 t_52 t_6) rfl rfl rfl (by decide +kernel) ⟨Nat.le_of_ble_eq_true rfl, Nat.le_of_ble_eq_true rfl⟩) (rQ_v hP hK hD (va_recv hK hP (ci := 12) (q0 := 0) rfl rfl)) rfl rfl hl.1 rfl (lv_room (Nat.le_of_ble_eq_true rfl)) dX12_joinsOne_84 ⟨Nat.le_of_ble_eq_true rfl, Nat.le_of_ble_eq_true rfl⟩) hS (fun q _ h => hF_19 q h) hF_19 (fun r_20 u_21 t H1 locs ht hvm hr_20 hB hz1 hk1 hS => ?_)
            obtain ⟨r21, rfl⟩ : ∃ z, z = u_21 := ⟨_, rfl⟩
            obtain ⟨hP, hK1, hD1⟩ := hB
            rw [ht] at hP
            have hD := hD1.weaken (fun k q _ h => hF_19 q.1 h)
            have hP : va_P D vwCl (mW cy a i r21 rl) H1 := hP
            have hD : va_D A (mW cy a i r21 rl) := hD
            obtain ⟨hRr, hE2, hr_20⟩ := hr_20
            have hRr : mRr r21 := hRr
            have hEr : mEr [34, 36, 37, 38, 39] _ r21 := Er_tr hEr hE2 (by decide)
            have hJ : r21 34 = r 34 := (hE2 34 (by decide)).trans hJ
            refine lv_istore (lv' := [(9, .int r_20), (8, .int v_16), (7, .int x4_7), (6, .int v_3), (0, .ref (a 0)), (1, .int p0), (2, .int p1), (3, .int p2), (4, .int p3), (5, .int p4)]) hx hb dX12_joinsOne_87 hl (by decide) rfl (fun ls hl => ?_)
            refine lv_iload hx hb dX12_joinsOne_89 (lv_at hl 0 rfl) ?_
            refine lv_iload hx hb dX12_joinsOne_91 (lv_at hl 3 rfl) ?_
            refine lv_iload hx hb dX12_joinsOne_93 (lv_at hl 1 rfl) ?_
            refine lv_icmp_ge (tgt := 103) hx hb dX12_joinsOne_95 (by decide) (fun c_22 => ?_) (fun c_22 => ?_)
            · have c_22 : v_16.toInt ≤ v_3.toInt := b_le c_22
              refine lv_iload hx hb dX12_joinsOne_103 (lv_at hl 1 rfl) ?_
              refine lv_iadd hx hb dX12_joinsOne_105 ?_
              refine lv_topi (fun v_23 ev_23 => ?_)
              refine lv_iload hx hb dX12_joinsOne_106 (lv_at hl 9 rfl) ?_
              refine lv_icmp_ne (tgt := 130) hx hb dX12_joinsOne_108 (by decide) (fun c_24 => ?_) (fun c_24 => ?_)
              · have c_24 : v_23.toInt ≠ p4.toInt := b_ne c_24
                refine lv_aload_n hx hb dX12_joinsOne_130 rfl (lv_at hl 4 rfl) ?_
                refine va_get (D := D) (ci := 12) (v := .ref (a 36)) (C := RX12) (T := TX12) (N := 91) hx hb hT iX12 hown hK hP 0 rfl rfl 47 (by decide) (hT _ t_42) (fun _ h9 => h9) rfl dX12_joinsOne_131 ?_
                refine lv_iload hx hb dX12_joinsOne_134 (lv_at hl 1 rfl) ?_
                refine lv_aload_n hx hb dX12_joinsOne_136 rfl (lv_at hl 4 rfl) ?_
                refine va_get (D := D) (ci := 12) (v := .ref (a 36)) (C := RX12) (T := TX12) (N := 91) hx hb hT iX12 hown hK hP 0 rfl rfl 47 (by decide) (hT _ t_42) (fun _ h9 => h9) rfl dX12_joinsOne_137 ?_
                refine lv_iload hx hb dX12_joinsOne_140 (lv_at hl 1 rfl) ?_
                refine va_iald hx hb hK hP 36 0 rfl rfl (vp_inI (by omega) (by omega)) dX12_joinsOne_142 ?_
                refine lv_topi (fun v_25 ev_25 => ?_)
                refine lv_iconst (v := 1) hx hb dX12_joinsOne_143 (by decide) ?_
                refine lv_iadd hx hb dX12_joinsOne_144 ?_
                refine lv_topi (fun v_26 ev_26 => ?_)
                refine va_iast hx hb hK hP hD hS 36 0 rfl rfl (vp_inI (by omega) (by omega)) dX12_joinsOne_145 (fun H locs hP hD hS => ?_)
                rw [mS36] at hP hD
                have hRr : mRr (va_up r21 36 (upd (r21 36) v_16.toNatClampNeg v_26)) := Rr_upd hRr 36 (v_16.toNatClampNeg) v_26 (b_rg _)
                have hEr : mEr [34, 36, 37, 38, 39] _ (va_up r21 36 (upd (r21 36) v_16.toNatClampNeg v_26)) := Er_up hEr 36 _ (by decide)
                obtain ⟨x_27, ex_27⟩ : ∃ y : Int32, y = x4_7 + 1 := ⟨_, rfl⟩
                refine lv_iinc (v := x_27) (lv' := [(7, .int x_27), (9, .int r_20), (8, .int v_16), (6, .int v_3), (0, .ref (a 0)), (1, .int p0), (2, .int p1), (3, .int p2), (4, .int p3), (5, .int p4)]) hx hb dX12_joinsOne_146 hl (k := 2) rfl (by rw [ex_27]; rfl) (by decide) rfl (fun ls hl => ?_)
                have hx_27 : x_27.toInt = x4_7.toInt + 1 := by rw [ex_27]; have := b_rg x4_7; exact i_add (a := x4_7.toInt) (b := 1) rfl rfl (by omega) (by omega)
                refine lv_goto (tgt := 16) hx hb dX12_joinsOne_149 (by decide) ?_
                exact ih4 x_27 (va_up r21 36 (upd (r21 36) v_16.toNatClampNeg v_26)) _ _ _ (by first | omega | (simp only [Int.toNat]; omega)) (by first | omega | decide) hRr hEr hJ hP hD hS (lv_sub hl [0, 3, 4, 5, 6, 7, 8, 9] rfl)
              · have c_24 : v_23.toInt = p4.toInt := b_nne c_24
                refine lv_aload_n hx hb dX12_joinsOne_111 rfl (lv_at hl 4 rfl) ?_
                refine va_get (D := D) (ci := 12) (v := .ref (a 34)) (C := RX12) (T := TX12) (N := 91) hx hb hT iX12 hown hK hP 0 rfl rfl 45 (by decide) (hT _ t_32) (fun _ h9 => h9) rfl dX12_joinsOne_112 ?_
                refine lv_iload_n hx hb dX12_joinsOne_115 rfl (lv_at hl 6 rfl) ?_
                refine lv_iload hx hb dX12_joinsOne_116 (lv_at hl 2 rfl) ?_
                refine va_iast hx hb hK hP hD hS 34 0 rfl rfl (vp_inI (by omega) (by omega)) dX12_joinsOne_118 (fun H locs hP hD hS => ?_)
                rw [mS34] at hP hD
                have hRr : mRr (va_up r21 34 (upd (r21 34) p1.toNatClampNeg x4_7)) := Rr_upd hRr 34 (p1.toNatClampNeg) x4_7 ⟨by show (-1 : Int) ≤ x4_7.toInt; omega, by show x4_7.toInt ≤ (99 : Int); omega⟩
                have hEr : mEr [34, 36, 37, 38, 39] _ (va_up r21 34 (upd (r21 34) p1.toNatClampNeg x4_7)) := Er_up hEr 34 _ (by decide)
                refine lv_aload_n hx hb dX12_joinsOne_119 rfl (lv_at hl 4 rfl) ?_
                refine va_get (D := D) (ci := 12) (v := .ref (a 39)) (C := RX12) (T := TX12) (N := 91) hx hb hT iX12 hown hK hP 0 rfl rfl 50 (by decide) (hT _ t_44) (fun _ h9 => h9) rfl dX12_joinsOne_120 ?_
                refine lv_iload hx hb dX12_joinsOne_123 (lv_at hl 2 rfl) ?_
                refine lv_iconst (v := 1) hx hb dX12_joinsOne_125 (by decide) ?_
                refine va_zast hx hb hK hP hD hS 39 2 rfl rfl (vp_inI (by omega) (by omega)) dX12_joinsOne_126 (fun H locs hP hD hS => ?_)
                rw [mS39] at hP hD
                have hRr : mRr (va_up (va_up r21 34 (upd (r21 34) p1.toNatClampNeg x4_7)) 39 (upd (r21 39) x4_7.toNatClampNeg (vp_nar .boolean 1))) := Rr_upd hRr 39 (x4_7.toNatClampNeg) (vp_nar .boolean 1) (b_rg _)
                have hEr : mEr [34, 36, 37, 38, 39] _ (va_up (va_up r21 34 (upd (r21 34) p1.toNatClampNeg x4_7)) 39 (upd (r21 39) x4_7.toNatClampNeg (vp_nar .boolean 1))) := Er_up hEr 39 _ (by decide)
                refine lv_iload hx hb dX12_joinsOne_127 (lv_at hl 0 rfl) ?_
                subst hQ
                have hj9 := jOK_st (R := r21) p1.toNatClampNeg x4_7 (by first | (right; omega) | (left; rfl))
                exact W.iret (v := r_20) hx hb hr (fun t ht hW => ⟨⟨_, (va_up (va_up r21 34 (upd (r21 34) p1.toNatClampNeg x4_7)) 39 (upd (r21 39) x4_7.toNatClampNeg (vp_nar .boolean 1))), rfl, ⟨hRr, hEr, ⟨jOK_ne (by decide) hj9.1, jM_ne (by decide) (jM_tr (jM_eq hJ) hj9.2)⟩⟩, by rw [ht]; exact hP, va_K.moved hW.alike hK, hD⟩, hS.F ht⟩) hS.2.2 dX12_joinsOne_129
            · have c_22 : v_3.toInt < v_16.toInt := b_nle c_22
              refine lv_iload hx hb dX12_joinsOne_98 (lv_at hl 3 rfl) ?_
              refine lv_goto (tgt := 105) hx hb dX12_joinsOne_100 (by decide) ?_
              refine lv_iadd hx hb dX12_joinsOne_105 ?_
              refine lv_topi (fun v_28 ev_28 => ?_)
              refine lv_iload hx hb dX12_joinsOne_106 (lv_at hl 9 rfl) ?_
              refine lv_icmp_ne (tgt := 130) hx hb dX12_joinsOne_108 (by decide) (fun c_29 => ?_) (fun c_29 => ?_)
              · have c_29 : v_28.toInt ≠ p4.toInt := b_ne c_29
                refine lv_aload_n hx hb dX12_joinsOne_130 rfl (lv_at hl 4 rfl) ?_
                refine va_get (D := D) (ci := 12) (v := .ref (a 36)) (C := RX12) (T := TX12) (N := 91) hx hb hT iX12 hown hK hP 0 rfl rfl 47 (by decide) (hT _ t_42) (fun _ h9 => h9) rfl dX12_joinsOne_131 ?_
                refine lv_iload hx hb dX12_joinsOne_134 (lv_at hl 1 rfl) ?_
                refine lv_aload_n hx hb dX12_joinsOne_136 rfl (lv_at hl 4 rfl) ?_
                refine va_get (D := D) (ci := 12) (v := .ref (a 36)) (C := RX12) (T := TX12) (N := 91) hx hb hT iX12 hown hK hP 0 rfl rfl 47 (by decide) (hT _ t_42) (fun _ h9 => h9) rfl dX12_joinsOne_137 ?_
                refine lv_iload hx hb dX12_joinsOne_140 (lv_at hl 1 rfl) ?_
                refine va_iald hx hb hK hP 36 0 rfl rfl (vp_inI (by omega) (by omega)) dX12_joinsOne_142 ?_
                refine lv_topi (fun v_30 ev_30 => ?_)
                refine lv_iconst (v := 1) hx hb dX12_joinsOne_143 (by decide) ?_
                refine lv_iadd hx hb dX12_joinsOne_144 ?_
                refine lv_topi (fun v_31 ev_31 => ?_)
                refine va_iast hx hb hK hP hD hS 36 0 rfl rfl (vp_inI (by omega) (by omega)) dX12_joinsOne_145 (fun H locs hP hD hS => ?_)
                rw [mS36] at hP hD
                have hRr : mRr (va_up r21 36 (upd (r21 36) v_16.toNatClampNeg v_31)) := Rr_upd hRr 36 (v_16.toNatClampNeg) v_31 (b_rg _)
                have hEr : mEr [34, 36, 37, 38, 39] _ (va_up r21 36 (upd (r21 36) v_16.toNatClampNeg v_31)) := Er_up hEr 36 _ (by decide)
                obtain ⟨x_32, ex_32⟩ : ∃ y : Int32, y = x4_7 + 1 := ⟨_, rfl⟩
                refine lv_iinc (v := x_32) (lv' := [(7, .int x_32), (9, .int r_20), (8, .int v_16), (6, .int v_3), (0, .ref (a 0)), (1, .int p0), (2, .int p1), (3, .int p2), (4, .int p3), (5, .int p4)]) hx hb dX12_joinsOne_146 hl (k := 2) rfl (by rw [ex_32]; rfl) (by decide) rfl (fun ls hl => ?_)
                have hx_32 : x_32.toInt = x4_7.toInt + 1 := by rw [ex_32]; have := b_rg x4_7; exact i_add (a := x4_7.toInt) (b := 1) rfl rfl (by omega) (by omega)
                refine lv_goto (tgt := 16) hx hb dX12_joinsOne_149 (by decide) ?_
                exact ih4 x_32 (va_up r21 36 (upd (r21 36) v_16.toNatClampNeg v_31)) _ _ _ (by first | omega | (simp only [Int.toNat]; omega)) (by first | omega | decide) hRr hEr hJ hP hD hS (lv_sub hl [0, 3, 4, 5, 6, 7, 8, 9] rfl)
              · have c_29 : v_28.toInt = p4.toInt := b_nne c_29
                refine lv_aload_n hx hb dX12_joinsOne_111 rfl (lv_at hl 4 rfl) ?_
                refine va_get (D := D) (ci := 12) (v := .ref (a 34)) (C := RX12) (T := TX12) (N := 91) hx hb hT iX12 hown hK hP 0 rfl rfl 45 (by decide) (hT _ t_32) (fun _ h9 => h9) rfl dX12_joinsOne_112 ?_
                refine lv_iload_n hx hb dX12_joinsOne_115 rfl (lv_at hl 6 rfl) ?_
                refine lv_iload hx hb dX12_joinsOne_116 (lv_at hl 2 rfl) ?_
                refine va_iast hx hb hK hP hD hS 34 0 rfl rfl (vp_inI (by omega) (by omega)) dX12_joinsOne_118 (fun H locs hP hD hS => ?_)
                rw [mS34] at hP hD
                have hRr : mRr (va_up r21 34 (upd (r21 34) p1.toNatClampNeg x4_7)) := Rr_upd hRr 34 (p1.toNatClampNeg) x4_7 ⟨by show (-1 : Int) ≤ x4_7.toInt; omega, by show x4_7.toInt ≤ (99 : Int); omega⟩
                have hEr : mEr [34, 36, 37, 38, 39] _ (va_up r21 34 (upd (r21 34) p1.toNatClampNeg x4_7)) := Er_up hEr 34 _ (by decide)
                refine lv_aload_n hx hb dX12_joinsOne_119 rfl (lv_at hl 4 rfl) ?_
                refine va_get (D := D) (ci := 12) (v := .ref (a 39)) (C := RX12) (T := TX12) (N := 91) hx hb hT iX12 hown hK hP 0 rfl rfl 50 (by decide) (hT _ t_44) (fun _ h9 => h9) rfl dX12_joinsOne_120 ?_
                refine lv_iload hx hb dX12_joinsOne_123 (lv_at hl 2 rfl) ?_
                refine lv_iconst (v := 1) hx hb dX12_joinsOne_125 (by decide) ?_
                refine va_zast hx hb hK hP hD hS 39 2 rfl rfl (vp_inI (by omega) (by omega)) dX12_joinsOne_126 (fun H locs hP hD hS => ?_)
                rw [mS39] at hP hD
                have hRr : mRr (va_up (va_up r21 34 (upd (r21 34) p1.toNatClampNeg x4_7)) 39 (upd (r21 39) x4_7.toNatClampNeg (vp_nar .boolean 1))) := Rr_upd hRr 39 (x4_7.toNatClampNeg) (vp_nar .boolean 1) (b_rg _)
                have hEr : mEr [34, 36, 37, 38, 39] _ (va_up (va_up r21 34 (upd (r21 34) p1.toNatClampNeg x4_7)) 39 (upd (r21 39) x4_7.toNatClampNeg (vp_nar .boolean 1))) := Er_up hEr 39 _ (by decide)
                refine lv_iload hx hb dX12_joinsOne_127 (lv_at hl 0 rfl) ?_
                subst hQ
                have hj9 := jOK_st (R := r21) p1.toNatClampNeg x4_7 (by first | (right; omega) | (left; rfl))
                exact W.iret (v := r_20) hx hb hr (fun t ht hW => ⟨⟨_, (va_up (va_up r21 34 (upd (r21 34) p1.toNatClampNeg x4_7)) 39 (upd (r21 39) x4_7.toNatClampNeg (vp_nar .boolean 1))), rfl, ⟨hRr, hEr, ⟨jOK_ne (by decide) hj9.1, jM_ne (by decide) (jM_tr (jM_eq hJ) hj9.2)⟩⟩, by rw [ht]; exact hP, va_K.moved hW.alike hK, hD⟩, hS.F ht⟩) hS.2.2 dX12_joinsOne_129
  exact loop_4 _ 0 r _ _ _ (Nat.lt_succ_self _) (by first | omega | decide) hRr hEr hJ hP hD hS hl
set_option maxHeartbeats 4000000 in
set_option maxRecDepth 100000 in
theorem c_X12_joinsAll (l : Launch) (D : va_G) (cy : Nat → ClassId) (a : Nat → Nat) (i : Nat → Int32) (r : Nat → Nat → Int32) (rl : Nat → Int64) (p0 p1 : Int32) (sz : Nat) (hRi : mRi i) (hRr : mRr r) (q0 : 0 ≤ p0.toInt ∧ p0.toInt ≤ 5) (q1 : 0 ≤ p1.toInt ∧ p1.toInt ≤ 19) : Met l yX12_joinsAll (Cond.code yX12_joinsAll cX12_joinsAll 8 none :: gT) { frames := 3, cells := 0, slots := 0, locals := 77 } (va_Pc [.ref (a 0), .int p0, .int p1] (rQ D cy (mW cy a i r rl) sz)) (va_Qv (fun u : Nat → Nat → Int32 => mRr u ∧ mEr [34, 35, 36, 37, 38, 39] r u ∧ (jM r u ∧ (p1.toInt < (r 10 p0.toNatClampNeg).toInt → jOK u p1.toNatClampNeg))) (fun (u : Nat → Nat → Int32) t => va_P D vwCl (mW cy a i u rl) t.heap ∧ va_K D vwCl (vT cy) t ∧ va_D (va_A (mW cy a i r rl) sz) (mW cy a i u rl)) (va_A (mW cy a i r rl) sz)) 0 0 (va_A (mW cy a i r rl) sz) := by
  refine Met.ofQ (cc := cX12_joinsAll) (maxL := 8) (ret := none) (by decide) rfl ?_
  intro p e s m args below meth c s₁ B hml hv Q hQ
  obtain ⟨rfl, hsz, hP, hK, hD0⟩ := hv
  have hx := B.exec
  have hb := B.bytes
  have hr := B.returns
  have hlocks := B.notSynchronized
  have hT : ∀ w ∈ gT, w.before _ s = true := fun w h => atoms_spec (ws := (Cond.code yX12_joinsAll cX12_joinsAll 8 none :: gT)) B.pre w (List.mem_cons_of_mem _ h)
  have hown : s.vm.findClass RX12 = some m.cls := findClass_of_methodNamed B.named
  subst hsz
  have hD := hD0.self (sz := s.heap.size)
  generalize hAe : va_A (mW cy a i r rl) s.heap.size = A at hD hQ
  have hA : ∀ q : Nat, s.heap.size ≤ q → A q := fun q h => by rw [← hAe]; exact Or.inr h
  have hS : va_S A s.heap s.heap [] := va_S.rf
  have hl := lv_entry ([.ref (a 0), .int p0, .int p1]) (n := 8) (Nat.le_of_ble_eq_true rfl)
  rw [lg_entry_eq]
  generalize (lg_sl ([.ref (a 0), .int p0, .int p1]) ++ List.replicate (8 - (lg_sl ([.ref (a 0), .int p0, .int p1])).length) Slot.unset).toArray = ls at hl ⊢
  have hl : lv_has ls 8 [(0, .ref (a 0)), (1, .int p0), (2, .int p1)] := hl
  have hEi : mEi [23, 24, 25, 26, 27, 28, 29, 30, 60] i i := Ei_rf
  have hEr : mEr [34, 35, 36, 37, 38, 39] r r := Er_rf
  have hJ : r 34 = r 34 := rfl
  refine lv_aload_n hx hb dX12_joinsAll_0 rfl (lv_at hl 0 rfl) ?_
  refine va_get (D := D) (ci := 12) (v := .ref (a 12)) (C := RX12) (T := TX12) (N := 91) hx hb hT iX12 hown hK hP 0 rfl rfl 13 (by decide) (hT _ t_30) (fun _ h9 => h9) rfl dX12_joinsAll_1 ?_
  refine lv_bipush (v := 20) hx hb dX12_joinsAll_4 (by decide) ?_
  refine lv_iload_n hx hb dX12_joinsAll_6 rfl (lv_at hl 1 rfl) ?_
  refine lv_imul hx hb dX12_joinsAll_7 ?_
  refine lv_topi (fun v_1 ev_1 => ?_)
  have hv_1 : v_1.toInt = 20 * p0.toInt := by rw [ev_1]; have := b_rg p0; exact i_mul (a := 20) (b := p0.toInt) rfl rfl (by omega) (by omega)
  refine lv_iload_n hx hb dX12_joinsAll_8 rfl (lv_at hl 2 rfl) ?_
  refine lv_iadd hx hb dX12_joinsAll_9 ?_
  refine lv_topi (fun v_2 ev_2 => ?_)
  have hv_2 : v_2.toInt = v_1.toInt + p1.toInt := by rw [ev_2]; have := b_rg v_1; have := b_rg p1; exact i_add (a := v_1.toInt) (b := p1.toInt) rfl rfl (by omega) (by omega)
  refine va_iald hx hb hK hP 12 0 rfl rfl (vp_inI (by omega) (by omega)) dX12_joinsAll_10 ?_
  refine lv_topi (fun v_3 ev_3 => ?_)
  have hgv_3 : 0 ≤ v_3.toInt ∧ v_3.toInt ≤ 9 := by rw [ev_3]; exact hRr 12 _
  have hwv_3 : v_3 = r 12 (((20 * p0.toInt) + p1.toInt)).toNat := by rw [ev_3]; exact congrArg (r 12) (by show v_2.toInt.toNat = _; omega)
  refine lv_istore_n (lv' := [(3, .int v_3), (0, .ref (a 0)), (1, .int p0), (2, .int p1)]) hx hb dX12_joinsAll_11 rfl hl (by decide) rfl (fun ls hl => ?_)
  refine lv_aload_n hx hb dX12_joinsAll_12 rfl (lv_at hl 1 rfl) ?_
  refine va_get (D := D) (ci := 12) (v := .ref (a 13)) (C := RX12) (T := TX12) (N := 91) hx hb hT iX12 hown hK hP 0 rfl rfl 14 (by decide) (hT _ t_24) (fun _ h9 => h9) rfl dX12_joinsAll_13 ?_
  refine lv_bipush (v := 20) hx hb dX12_joinsAll_16 (by decide) ?_
  refine lv_iload_n hx hb dX12_joinsAll_18 rfl (lv_at hl 2 rfl) ?_
  refine lv_imul hx hb dX12_joinsAll_19 ?_
  refine lv_topi (fun v_4 ev_4 => ?_)
  have hv_4 : v_4.toInt = 20 * p0.toInt := by rw [ev_4]; have := b_rg p0; exact i_mul (a := 20) (b := p0.toInt) rfl rfl (by omega) (by omega)
  refine lv_iload_n hx hb dX12_joinsAll_20 rfl (lv_at hl 3 rfl) ?_
  refine lv_iadd hx hb dX12_joinsAll_21 ?_
  refine lv_topi (fun v_5 ev_5 => ?_)
  have hv_5 : v_5.toInt = v_4.toInt + p1.toInt := by rw [ev_5]; have := b_rg v_4; have := b_rg p1; exact i_add (a := v_4.toInt) (b := p1.toInt) rfl rfl (by omega) (by omega)
  refine va_iald hx hb hK hP 13 0 rfl rfl (vp_inI (by omega) (by omega)) dX12_joinsAll_22 ?_
  refine lv_topi (fun v_6 ev_6 => ?_)
  have hgv_6 : 0 ≤ v_6.toInt ∧ v_6.toInt ≤ 7 := by rw [ev_6]; exact hRr 13 _
  have hwv_6 : v_6 = r 13 (((20 * p0.toInt) + p1.toInt)).toNat := by rw [ev_6]; exact congrArg (r 13) (by show v_5.toInt.toNat = _; omega)
  refine lv_istore (lv' := [(4, .int v_6), (3, .int v_3), (0, .ref (a 0)), (1, .int p0), (2, .int p1)]) hx hb dX12_joinsAll_23 hl (by decide) rfl (fun ls hl => ?_)
  refine lv_iconst (v := 0) hx hb dX12_joinsAll_25 (by decide) ?_
  refine lv_istore (lv' := [(5, .int 0), (4, .int v_6), (3, .int v_3), (0, .ref (a 0)), (1, .int p0), (2, .int p1)]) hx hb dX12_joinsAll_26 hl (by decide) rfl (fun ls hl => ?_)
  have loop_7 : ∀ (n : Nat) (x7_5 : Int32) (r7 : Nat → Nat → Int32) (H : Heap) (locs : List Loc) (ls : Array Slot), (10 - x7_5.toInt).toNat < n → (0 ≤ x7_5.toInt ∧ x7_5.toInt ≤ 10) → mRr r7 → mEr [34, 35, 36, 37, 38, 39] r r7 → (r7 34 = r 34) → va_P D vwCl (mW cy a i r7 rl) H → va_D A (mW cy a i r7 rl) → va_S A s.heap H locs → lv_has ls 8 [(5, .int x7_5), (4, .int v_6), (3, .int v_3), (0, .ref (a 0)), (1, .int p0), (2, .int p1)] → W p l e ({ frames := 3, cells := 0, slots := 0, locals := 77 } : Room) s m ([.ref (a 0), .int p0, .int p1] : List Value).toArray below meth c H locs 0 0 Q (F0 m 28 ls []) := by
    intro n
    induction n with
    | zero =>
      intro x7_5 r7 H locs ls hm7 hf7_0 hRr hEr hx7 hP hD hS hl
      exact absurd hm7 (by omega)
    | succ n ih7 =>
      intro x7_5 r7 H locs ls hm7 hf7_0 hRr hEr hx7 hP hD hS hl
      refine lv_iload hx hb dX12_joinsAll_28 (lv_at hl 0 rfl) ?_
      have hJ := hx7
      refine lv_bipush (v := 10) hx hb dX12_joinsAll_30 (by decide) ?_
      refine lv_icmp_ge (tgt := 57) hx hb dX12_joinsAll_32 (by decide) (fun c_8 => ?_) (fun c_8 => ?_)
      · have c_8 : 10 ≤ x7_5.toInt := b_le c_8
        refine lv_iconst (v := 0) hx hb dX12_joinsAll_57 (by decide) ?_
        refine lv_istore (lv' := [(5, .int 0), (4, .int v_6), (3, .int v_3), (0, .ref (a 0)), (1, .int p0), (2, .int p1)]) hx hb dX12_joinsAll_58 hl (by decide) rfl (fun ls hl => ?_)
        have loop_9 : ∀ (n : Nat) (x9_5 : Int32) (r9 : Nat → Nat → Int32) (H : Heap) (locs : List Loc) (ls : Array Slot), (20 - x9_5.toInt).toNat < n → (0 ≤ x9_5.toInt ∧ x9_5.toInt ≤ 20) → mRr r9 → mEr [34, 35, 36, 37, 38, 39] r r9 → (r9 34 = r 34) → va_P D vwCl (mW cy a i r9 rl) H → va_D A (mW cy a i r9 rl) → va_S A s.heap H locs → lv_has ls 8 [(5, .int x9_5), (4, .int v_6), (3, .int v_3), (0, .ref (a 0)), (1, .int p0), (2, .int p1)] → W p l e ({ frames := 3, cells := 0, slots := 0, locals := 77 } : Room) s m ([.ref (a 0), .int p0, .int p1] : List Value).toArray below meth c H locs 0 0 Q (F0 m 60 ls []) := by
          intro n
          induction n with
          | zero =>
            intro x9_5 r9 H locs ls hm9 hf9_0 hRr hEr hx9 hP hD hS hl
            exact absurd hm9 (by omega)
          | succ n ih9 =>
            intro x9_5 r9 H locs ls hm9 hf9_0 hRr hEr hx9 hP hD hS hl
            refine lv_iload hx hb dX12_joinsAll_60 (lv_at hl 0 rfl) ?_
            have hJ := hx9
            refine lv_aload_n hx hb dX12_joinsAll_62 rfl (lv_at hl 3 rfl) ?_
            refine va_get (D := D) (ci := 12) (v := .ref (a 10)) (C := RX12) (T := TX12) (N := 91) hx hb hT iX12 hown hK hP 0 rfl rfl 11 (by decide) (hT _ t_16) (fun _ h9 => h9) rfl dX12_joinsAll_63 ?_
            refine lv_iload_n hx hb dX12_joinsAll_66 rfl (lv_at hl 4 rfl) ?_
            refine va_iald hx hb hK hP 10 0 rfl rfl (vp_inI (by omega) (by omega)) dX12_joinsAll_67 ?_
            refine lv_topi (fun v_10 ev_10 => ?_)
            have hgv_10 : 0 ≤ v_10.toInt ∧ v_10.toInt ≤ 20 := by rw [ev_10]; exact hRr 10 _
            have hwv_10 : v_10.toInt = (r9 10 (p0.toNatClampNeg)).toInt := congrArg Int32.toInt ev_10
            refine lv_icmp_ge (tgt := 126) hx hb dX12_joinsAll_68 (by decide) (fun c_11 => ?_) (fun c_11 => ?_)
            · have c_11 : v_10.toInt ≤ x9_5.toInt := b_le c_11
              refine lv_iconst (v := 0) hx hb dX12_joinsAll_126 (by decide) ?_
              refine lv_istore (lv' := [(5, .int 0), (4, .int v_6), (3, .int v_3), (0, .ref (a 0)), (1, .int p0), (2, .int p1)]) hx hb dX12_joinsAll_127 hl (by decide) rfl (fun ls hl => ?_)
              have loop_12 : ∀ (n : Nat) (x12_5 : Int32) (r12 : Nat → Nat → Int32) (H : Heap) (locs : List Loc) (ls : Array Slot), (20 - x12_5.toInt).toNat < n → (0 ≤ x12_5.toInt ∧ x12_5.toInt ≤ 20) → mRr r12 → mEr [34, 35, 36, 37, 38, 39] r r12 → (r12 34 = r 34) → va_P D vwCl (mW cy a i r12 rl) H → va_D A (mW cy a i r12 rl) → va_S A s.heap H locs → lv_has ls 8 [(5, .int x12_5), (4, .int v_6), (3, .int v_3), (0, .ref (a 0)), (1, .int p0), (2, .int p1)] → W p l e ({ frames := 3, cells := 0, slots := 0, locals := 77 } : Room) s m ([.ref (a 0), .int p0, .int p1] : List Value).toArray below meth c H locs 0 0 Q (F0 m 129 ls []) := by
                intro n
                induction n with
                | zero =>
                  intro x12_5 r12 H locs ls hm12 hf12_0 hRr hEr hx12 hP hD hS hl
                  exact absurd hm12 (by omega)
                | succ n ih12 =>
                  intro x12_5 r12 H locs ls hm12 hf12_0 hRr hEr hx12 hP hD hS hl
                  refine lv_iload hx hb dX12_joinsAll_129 (lv_at hl 0 rfl) ?_
                  have hJ := hx12
                  refine lv_aload_n hx hb dX12_joinsAll_131 rfl (lv_at hl 3 rfl) ?_
                  refine va_get (D := D) (ci := 12) (v := .ref (a 11)) (C := RX12) (T := TX12) (N := 91) hx hb hT iX12 hown hK hP 0 rfl rfl 12 (by decide) (hT _ t_43) (fun _ h9 => h9) rfl dX12_joinsAll_132 ?_
                  refine lv_iload_n hx hb dX12_joinsAll_135 rfl (lv_at hl 4 rfl) ?_
                  refine va_iald hx hb hK hP 11 0 rfl rfl (vp_inI (by omega) (by omega)) dX12_joinsAll_136 ?_
                  refine lv_topi (fun v_13 ev_13 => ?_)
                  have hgv_13 : 0 ≤ v_13.toInt ∧ v_13.toInt ≤ 20 := by rw [ev_13]; exact hRr 11 _
                  refine lv_icmp_ge (tgt := 195) hx hb dX12_joinsAll_137 (by decide) (fun c_14 => ?_) (fun c_14 => ?_)
                  · have c_14 : v_13.toInt ≤ x12_5.toInt := b_le c_14
                    refine lv_aload_n hx hb dX12_joinsAll_195 rfl (lv_at hl 3 rfl) ?_
                    have hF_15 := rF hD hS hA
                    refine va_calli (va_runV (As := []) (rest := []) ⟨hx, hb, hml, hown, hT⟩ (c_X12_keptMost l D cy a i r12 rl _ hRi hRr) (cwV 0 hT (gV t_49 t_50 t_51 t_52 t_6) rfl rfl rfl (by decide +kernel) ⟨Nat.le_of_ble_eq_true rfl, Nat.le_of_ble_eq_true rfl⟩) (rQ_v hP hK hD (va_recv hK hP (ci := 12) (q0 := 0) rfl rfl)) rfl rfl hl.1 rfl (lv_room (Nat.le_of_ble_eq_true rfl)) dX12_joinsAll_196 ⟨Nat.le_of_ble_eq_true rfl, Nat.le_of_ble_eq_true rfl⟩) hS (fun q _ h => hF_15 q h) hF_15 (fun r_16 u_17 t H1 locs ht hvm hr_16 hB hz1 hk1 hS => ?_)
                    obtain ⟨r17, rfl⟩ : ∃ z, z = u_17 := ⟨_, rfl⟩
                    obtain ⟨hP, hK1, hD1⟩ := hB
                    rw [ht] at hP
                    have hD := hD1.weaken (fun k q _ h => hF_15 q.1 h)
                    have hP : va_P D vwCl (mW cy a i r17 rl) H1 := hP
                    have hD : va_D A (mW cy a i r17 rl) := hD
                    obtain ⟨hRr, hE2, hr_16⟩ := hr_16
                    have hRr : mRr r17 := hRr
                    have hEr : mEr [34, 35, 36, 37, 38, 39] _ r17 := Er_tr hEr hE2 (by decide)
                    have hJ : r17 34 = r 34 := (hE2 34 (by decide)).trans hJ
                    refine lv_istore (lv' := [(5, .int r_16), (4, .int v_6), (3, .int v_3), (0, .ref (a 0)), (1, .int p0), (2, .int p1)]) hx hb dX12_joinsAll_199 hl (by decide) rfl (fun ls hl => ?_)
                    refine lv_iload_n hx hb dX12_joinsAll_201 rfl (lv_at hl 5 rfl) ?_
                    refine lv_istore (lv' := [(6, .int p1), (5, .int r_16), (4, .int v_6), (3, .int v_3), (0, .ref (a 0)), (1, .int p0), (2, .int p1)]) hx hb dX12_joinsAll_202 hl (by decide) rfl (fun ls hl => ?_)
                    have loop_18 : ∀ (n : Nat) (x18_6 : Int32) (x18_5 : Int32) (r18 : Nat → Nat → Int32) (H : Heap) (locs : List Loc) (ls : Array Slot), (20 - x18_6.toInt).toNat < n → (0 ≤ x18_6.toInt ∧ x18_6.toInt ≤ 20) → mRr r18 → mEr [34, 35, 36, 37, 38, 39] r r18 → (jM r r18 ∧ (p1.toInt < x18_6.toInt → jOK r18 p1.toNatClampNeg)) → va_P D vwCl (mW cy a i r18 rl) H → va_D A (mW cy a i r18 rl) → va_S A s.heap H locs → lv_has ls 8 [(6, .int x18_6), (5, .int x18_5), (4, .int v_6), (3, .int v_3), (0, .ref (a 0)), (1, .int p0), (2, .int p1)] → W p l e ({ frames := 3, cells := 0, slots := 0, locals := 77 } : Room) s m ([.ref (a 0), .int p0, .int p1] : List Value).toArray below meth c H locs 0 0 Q (F0 m 204 ls []) := by
                      intro n
                      induction n with
                      | zero =>
                        intro x18_6 x18_5 r18 H locs ls hm18 hf18_0 hRr hEr hx18 hP hD hS hl
                        exact absurd hm18 (by omega)
                      | succ n ih18 =>
                        intro x18_6 x18_5 r18 H locs ls hm18 hf18_0 hRr hEr hx18 hP hD hS hl
                        refine lv_iload hx hb dX12_joinsAll_204 (lv_at hl 0 rfl) ?_
                        refine lv_aload_n hx hb dX12_joinsAll_206 rfl (lv_at hl 4 rfl) ?_
                        refine va_get (D := D) (ci := 12) (v := .ref (a 10)) (C := RX12) (T := TX12) (N := 91) hx hb hT iX12 hown hK hP 0 rfl rfl 11 (by decide) (hT _ t_16) (fun _ h9 => h9) rfl dX12_joinsAll_207 ?_
                        refine lv_iload_n hx hb dX12_joinsAll_210 rfl (lv_at hl 5 rfl) ?_
                        refine va_iald hx hb hK hP 10 0 rfl rfl (vp_inI (by omega) (by omega)) dX12_joinsAll_211 ?_
                        refine lv_topi (fun v_19 ev_19 => ?_)
                        have hgv_19 : 0 ≤ v_19.toInt ∧ v_19.toInt ≤ 20 := by rw [ev_19]; exact hRr 10 _
                        have hwv_19 : v_19.toInt = (r18 10 (p0.toNatClampNeg)).toInt := congrArg Int32.toInt ev_19
                        refine lv_icmp_ge (tgt := 281) hx hb dX12_joinsAll_212 (by decide) (fun c_20 => ?_) (fun c_20 => ?_)
                        · have c_20 : v_19.toInt ≤ x18_6.toInt := b_le c_20
                          subst hQ
                          have hw8 : (r18 10 p0.toNatClampNeg).toInt = (r 10 p0.toNatClampNeg).toInt := by rw [hEr 10 (by decide)]
                          exact W.vret hx hb hr (fun t ht hW => ⟨⟨r18, rfl, ⟨hRr, hEr, ⟨hx18.1, fun h7 => hx18.2 (by omega)⟩⟩, by rw [ht]; exact hP, va_K.moved hW.alike hK, hD⟩, hS.F ht⟩) hS.2.2 dX12_joinsAll_281
                        · have c_20 : x18_6.toInt < v_19.toInt := b_nle c_20
                          refine lv_aload_n hx hb dX12_joinsAll_215 rfl (lv_at hl 4 rfl) ?_
                          refine lv_iload_n hx hb dX12_joinsAll_216 rfl (lv_at hl 5 rfl) ?_
                          refine lv_iload hx hb dX12_joinsAll_217 (lv_at hl 0 rfl) ?_
                          refine lv_iload_n hx hb dX12_joinsAll_219 rfl (lv_at hl 3 rfl) ?_
                          refine lv_iload hx hb dX12_joinsAll_220 (lv_at hl 2 rfl) ?_
                          refine vp_callSi (W.runV (As := [.int p0, .int x18_6, .int v_3, .int v_6]) (rest := []) ⟨hx, hb, hml, hown, hT⟩ (c_X12_isLike l D cy a i r18 rl p0 x18_6 v_3 v_6 hRi hRr (by omega) (by omega)) (cwV 4 hT (gV t_53 t_54 t_55 t_56 t_6) rfl rfl rfl (by decide +kernel) ⟨Nat.le_of_ble_eq_true rfl, Nat.le_of_ble_eq_true rfl⟩) (rP_v hP hK (va_recv hK hP (ci := 12) (q0 := 0) rfl rfl)) rfl rfl hl.1 rfl (lv_room (Nat.le_of_ble_eq_true rfl)) dX12_joinsAll_222 ⟨Nat.le_of_ble_eq_true rfl, Nat.le_of_ble_eq_true rfl⟩) (fun r_21 hr_21 => ?_)
                          have hr_21 : BR r_21 (r18 12 (20 * p0.toInt + x18_6.toInt).toNat = v_3 ∧ r18 13 (20 * p0.toInt + x18_6.toInt).toNat = v_6) 1 0 := hr_21
                          rcases hr_21 with ⟨rfl, h_22⟩ | ⟨rfl, h_22⟩
                          · skip
                            refine lv_if_ne (tgt := 231) hx hb dX12_joinsAll_225 (by decide) (fun c_23 => ?_) (fun c_23 => absurd c_23 (by decide))
                            refine lv_aload_n hx hb dX12_joinsAll_231 rfl (lv_at hl 4 rfl) ?_
                            refine va_get (D := D) (ci := 12) (v := .ref (a 14)) (C := RX12) (T := TX12) (N := 91) hx hb hT iX12 hown hK hP 0 rfl rfl 15 (by decide) (hT _ t_38) (fun _ h9 => h9) rfl dX12_joinsAll_232 ?_
                            refine lv_bipush (v := 20) hx hb dX12_joinsAll_235 (by decide) ?_
                            refine lv_iload_n hx hb dX12_joinsAll_237 rfl (lv_at hl 5 rfl) ?_
                            refine lv_imul hx hb dX12_joinsAll_238 ?_
                            refine lv_topi (fun v_24 ev_24 => ?_)
                            have hv_24 : v_24.toInt = 20 * p0.toInt := by rw [ev_24]; have := b_rg p0; exact i_mul (a := 20) (b := p0.toInt) rfl rfl (by omega) (by omega)
                            refine lv_iload hx hb dX12_joinsAll_239 (lv_at hl 0 rfl) ?_
                            refine lv_iadd hx hb dX12_joinsAll_241 ?_
                            refine lv_topi (fun v_25 ev_25 => ?_)
                            have hv_25 : v_25.toInt = v_24.toInt + x18_6.toInt := by rw [ev_25]; have := b_rg v_24; have := b_rg x18_6; exact i_add (a := v_24.toInt) (b := x18_6.toInt) rfl rfl (by omega) (by omega)
                            refine va_iald hx hb hK hP 14 0 rfl rfl (vp_inI (by omega) (by omega)) dX12_joinsAll_242 ?_
                            refine lv_topi (fun v_26 ev_26 => ?_)
                            have hgv_26 : 0 ≤ v_26.toInt ∧ v_26.toInt ≤ 9 := by rw [ev_26]; exact hRr 14 _
                            refine lv_istore (lv' := [(7, .int v_26), (6, .int x18_6), (5, .int x18_5), (4, .int v_6), (3, .int v_3), (0, .ref (a 0)), (1, .int p0), (2, .int p1)]) hx hb dX12_joinsAll_243 hl (by decide) rfl (fun ls hl => ?_)
                            refine lv_aload_n hx hb dX12_joinsAll_245 rfl (lv_at hl 5 rfl) ?_
                            refine va_get (D := D) (ci := 12) (v := .ref (a 35)) (C := RX12) (T := TX12) (N := 91) hx hb hT iX12 hown hK hP 0 rfl rfl 46 (by decide) (hT _ t_41) (fun _ h9 => h9) rfl dX12_joinsAll_246 ?_
                            refine lv_iload hx hb dX12_joinsAll_249 (lv_at hl 0 rfl) ?_
                            refine lv_aload_n hx hb dX12_joinsAll_251 rfl (lv_at hl 5 rfl) ?_
                            refine va_get (D := D) (ci := 12) (v := .ref (a 35)) (C := RX12) (T := TX12) (N := 91) hx hb hT iX12 hown hK hP 0 rfl rfl 46 (by decide) (hT _ t_41) (fun _ h9 => h9) rfl dX12_joinsAll_252 ?_
                            refine lv_iload hx hb dX12_joinsAll_255 (lv_at hl 0 rfl) ?_
                            refine va_iald hx hb hK hP 35 0 rfl rfl (vp_inI (by omega) (by omega)) dX12_joinsAll_257 ?_
                            refine lv_topi (fun v_27 ev_27 => ?_)
                            refine lv_iconst (v := 1) hx hb dX12_joinsAll_258 (by decide) ?_
                            refine lv_isub hx hb dX12_joinsAll_259 ?_
                            refine lv_topi (fun v_28 ev_28 => ?_)
                            refine va_iast hx hb hK hP hD hS 35 0 rfl rfl (vp_inI (by omega) (by omega)) dX12_joinsAll_260 (fun H locs hP hD hS => ?_)
                            rw [mS35] at hP hD
                            have hRr : mRr (va_up r18 35 (upd (r18 35) v_26.toNatClampNeg v_28)) := Rr_upd hRr 35 (v_26.toNatClampNeg) v_28 (b_rg _)
                            have hEr : mEr [34, 35, 36, 37, 38, 39] _ (va_up r18 35 (upd (r18 35) v_26.toNatClampNeg v_28)) := Er_up hEr 35 _ (by decide)
                            refine lv_aload_n hx hb dX12_joinsAll_261 rfl (lv_at hl 5 rfl) ?_
                            refine lv_iload_n hx hb dX12_joinsAll_262 rfl (lv_at hl 6 rfl) ?_
                            refine lv_iload hx hb dX12_joinsAll_263 (lv_at hl 1 rfl) ?_
                            refine lv_iload_n hx hb dX12_joinsAll_265 rfl (lv_at hl 4 rfl) ?_
                            refine lv_iload hx hb dX12_joinsAll_266 (lv_at hl 3 rfl) ?_
                            refine lv_iload hx hb dX12_joinsAll_268 (lv_at hl 2 rfl) ?_
                            have hF_29 := rF hD hS hA
                            refine va_calli (va_runV (As := [.int p0, .int x18_6, .int v_3, .int v_6, .int x18_5]) (rest := []) ⟨hx, hb, hml, hown, hT⟩ (c_X12_joinsOne l D cy a i (va_up r18 35 (upd (r18 35) v_26.toNatClampNeg v_28)) rl p0 x18_6 v_3 v_6 x18_5 _ hRi hRr (by omega) (by omega)) (cwV 5 hT (gV t_57 t_58 t_59 t_60 t_6) rfl rfl rfl (by decide +kernel) ⟨Nat.le_of_ble_eq_true rfl, Nat.le_of_ble_eq_true rfl⟩) (rQ_v hP hK hD (va_recv hK hP (ci := 12) (q0 := 0) rfl rfl)) rfl rfl hl.1 rfl (lv_room (Nat.le_of_ble_eq_true rfl)) dX12_joinsAll_270 ⟨Nat.le_of_ble_eq_true rfl, Nat.le_of_ble_eq_true rfl⟩) hS (fun q _ h => hF_29 q h) hF_29 (fun r_30 u_31 t H1 locs ht hvm hr_30 hB hz1 hk1 hS => ?_)
                            obtain ⟨r31, rfl⟩ : ∃ z, z = u_31 := ⟨_, rfl⟩
                            obtain ⟨hP, hK1, hD1⟩ := hB
                            rw [ht] at hP
                            have hD := hD1.weaken (fun k q _ h => hF_29 q.1 h)
                            have hP : va_P D vwCl (mW cy a i r31 rl) H1 := hP
                            have hD : va_D A (mW cy a i r31 rl) := hD
                            obtain ⟨hRr, hE2, hr_30⟩ := hr_30
                            have hRr : mRr r31 := hRr
                            have hEr : mEr [34, 35, 36, 37, 38, 39] _ r31 := Er_tr hEr hE2 (by decide)
                            refine lv_istore (lv' := [(5, .int r_30), (7, .int v_26), (6, .int x18_6), (4, .int v_6), (3, .int v_3), (0, .ref (a 0)), (1, .int p0), (2, .int p1)]) hx hb dX12_joinsAll_273 hl (by decide) rfl (fun ls hl => ?_)
                            obtain ⟨x_32, ex_32⟩ : ∃ y : Int32, y = x18_6 + 1 := ⟨_, rfl⟩
                            refine lv_iinc (v := x_32) (lv' := [(6, .int x_32), (5, .int r_30), (7, .int v_26), (4, .int v_6), (3, .int v_3), (0, .ref (a 0)), (1, .int p0), (2, .int p1)]) hx hb dX12_joinsAll_275 hl (k := 2) rfl (by rw [ex_32]; rfl) (by decide) rfl (fun ls hl => ?_)
                            have hx_32 : x_32.toInt = x18_6.toInt + 1 := by rw [ex_32]; have := b_rg x18_6; exact i_add (a := x18_6.toInt) (b := 1) rfl rfl (by omega) (by omega)
                            refine lv_goto (tgt := 204) hx hb dX12_joinsAll_278 (by decide) ?_
                            have hj8 : jM r r31 := jM_tr (jM_ne (by decide) hx18.1) hr_30.2
                            have hst : p1.toInt < x_32.toInt → jOK r31 p1.toNatClampNeg := by
                              intro _
                              by_cases h8 : x18_6.toInt = p1.toInt
                              · rw [← Int32.toInt_inj.mp h8]; exact hr_30.1
                              · exact jM_ok hr_30.2 (jOK_ne (by decide) (hx18.2 (by omega)))
                            exact ih18 x_32 r_30 r31 _ _ _ (by first | omega | (simp only [Int.toNat]; omega)) (by first | omega | decide) hRr hEr ⟨hj8, hst⟩ hP hD hS (lv_sub hl [0, 1, 3, 4, 5, 6, 7] rfl)
                          · skip
                            refine lv_if_ne (tgt := 231) hx hb dX12_joinsAll_225 (by decide) (fun c_33 => absurd (by decide) c_33) (fun c_33 => ?_)
                            refine lv_goto (tgt := 275) hx hb dX12_joinsAll_228 (by decide) ?_
                            obtain ⟨x_34, ex_34⟩ : ∃ y : Int32, y = x18_6 + 1 := ⟨_, rfl⟩
                            refine lv_iinc (v := x_34) (lv' := [(6, .int x_34), (5, .int x18_5), (4, .int v_6), (3, .int v_3), (0, .ref (a 0)), (1, .int p0), (2, .int p1)]) hx hb dX12_joinsAll_275 hl (k := 0) rfl (by rw [ex_34]; rfl) (by decide) rfl (fun ls hl => ?_)
                            have hx_34 : x_34.toInt = x18_6.toInt + 1 := by rw [ex_34]; have := b_rg x18_6; exact i_add (a := x18_6.toInt) (b := 1) rfl rfl (by omega) (by omega)
                            refine lv_goto (tgt := 204) hx hb dX12_joinsAll_278 (by decide) ?_
                            have hst : p1.toInt < x_34.toInt → jOK r18 p1.toNatClampNeg := by
                              intro _
                              by_cases h8 : x18_6.toInt = p1.toInt
                              · refine absurd ⟨?_, ?_⟩ h_22
                                · rw [hEr 12 (by decide), show (20 * p0.toInt + x18_6.toInt).toNat = (20 * p0.toInt + p1.toInt).toNat by omega]; exact hwv_3.symm
                                · rw [hEr 13 (by decide), show (20 * p0.toInt + x18_6.toInt).toNat = (20 * p0.toInt + p1.toInt).toNat by omega]; exact hwv_6.symm
                              · exact hx18.2 (by omega)
                            exact ih18 x_34 x18_5 r18 _ _ _ (by first | omega | (simp only [Int.toNat]; omega)) (by first | omega | decide) hRr hEr ⟨hx18.1, hst⟩ hP hD hS (lv_sub hl [0, 1, 2, 3, 4, 5, 6] rfl)
                    exact loop_18 _ p1 r_16 r17 _ _ _ (Nat.lt_succ_self _) (by first | omega | decide) hRr hEr ⟨jM_eq hJ, fun h => absurd h (by omega)⟩ hP hD hS hl
                  · have c_14 : x12_5.toInt < v_13.toInt := b_nle c_14
                    refine lv_aload_n hx hb dX12_joinsAll_140 rfl (lv_at hl 3 rfl) ?_
                    refine lv_iload_n hx hb dX12_joinsAll_141 rfl (lv_at hl 4 rfl) ?_
                    refine lv_iload hx hb dX12_joinsAll_142 (lv_at hl 0 rfl) ?_
                    refine lv_iload_n hx hb dX12_joinsAll_144 rfl (lv_at hl 2 rfl) ?_
                    refine lv_iload hx hb dX12_joinsAll_145 (lv_at hl 1 rfl) ?_
                    refine vp_callSi (W.runV (As := [.int p0, .int x12_5, .int v_3, .int v_6]) (rest := []) ⟨hx, hb, hml, hown, hT⟩ (c_X12_isOf l D cy a i r12 rl p0 x12_5 v_3 v_6 hRi hRr (by omega) (by omega)) (cwV 4 hT (gV t_45 t_46 t_47 t_48 t_6) rfl rfl rfl (by decide +kernel) ⟨Nat.le_of_ble_eq_true rfl, Nat.le_of_ble_eq_true rfl⟩) (rP_v hP hK (va_recv hK hP (ci := 12) (q0 := 0) rfl rfl)) rfl rfl hl.1 rfl (lv_room (Nat.le_of_ble_eq_true rfl)) dX12_joinsAll_147 ⟨Nat.le_of_ble_eq_true rfl, Nat.le_of_ble_eq_true rfl⟩) (fun r_35 hr_35 => ?_)
                    rcases hr_35 with rfl | rfl
                    · skip
                      refine lv_if_eq (tgt := 189) hx hb dX12_joinsAll_150 (by decide) (fun c_36 => ?_) (fun c_36 => absurd (by decide) c_36)
                      obtain ⟨x_37, ex_37⟩ : ∃ y : Int32, y = x12_5 + 1 := ⟨_, rfl⟩
                      refine lv_iinc (v := x_37) (lv' := [(5, .int x_37), (4, .int v_6), (3, .int v_3), (0, .ref (a 0)), (1, .int p0), (2, .int p1)]) hx hb dX12_joinsAll_189 hl (k := 0) rfl (by rw [ex_37]; rfl) (by decide) rfl (fun ls hl => ?_)
                      have hx_37 : x_37.toInt = x12_5.toInt + 1 := by rw [ex_37]; have := b_rg x12_5; exact i_add (a := x12_5.toInt) (b := 1) rfl rfl (by omega) (by omega)
                      refine lv_goto (tgt := 129) hx hb dX12_joinsAll_192 (by decide) ?_
                      exact ih12 x_37 r12 _ _ _ (by first | omega | (simp only [Int.toNat]; omega)) (by first | omega | decide) hRr hEr hJ hP hD hS (lv_sub hl [0, 1, 2, 3, 4, 5] rfl)
                    · skip
                      refine lv_if_eq (tgt := 189) hx hb dX12_joinsAll_150 (by decide) (fun c_38 => absurd c_38 (by decide)) (fun c_38 => ?_)
                      refine lv_aload_n hx hb dX12_joinsAll_153 rfl (lv_at hl 3 rfl) ?_
                      refine va_get (D := D) (ci := 12) (v := .ref (a 36)) (C := RX12) (T := TX12) (N := 91) hx hb hT iX12 hown hK hP 0 rfl rfl 47 (by decide) (hT _ t_42) (fun _ h9 => h9) rfl dX12_joinsAll_154 ?_
                      refine lv_aload_n hx hb dX12_joinsAll_157 rfl (lv_at hl 3 rfl) ?_
                      refine va_get (D := D) (ci := 12) (v := .ref (a 18)) (C := RX12) (T := TX12) (N := 91) hx hb hT iX12 hown hK hP 0 rfl rfl 19 (by decide) (hT _ t_33) (fun _ h9 => h9) rfl dX12_joinsAll_158 ?_
                      refine lv_bipush (v := 20) hx hb dX12_joinsAll_161 (by decide) ?_
                      refine lv_iload_n hx hb dX12_joinsAll_163 rfl (lv_at hl 4 rfl) ?_
                      refine lv_imul hx hb dX12_joinsAll_164 ?_
                      refine lv_topi (fun v_39 ev_39 => ?_)
                      have hv_39 : v_39.toInt = 20 * p0.toInt := by rw [ev_39]; have := b_rg p0; exact i_mul (a := 20) (b := p0.toInt) rfl rfl (by omega) (by omega)
                      refine lv_iload hx hb dX12_joinsAll_165 (lv_at hl 0 rfl) ?_
                      refine lv_iadd hx hb dX12_joinsAll_167 ?_
                      refine lv_topi (fun v_40 ev_40 => ?_)
                      have hv_40 : v_40.toInt = v_39.toInt + x12_5.toInt := by rw [ev_40]; have := b_rg v_39; have := b_rg x12_5; exact i_add (a := v_39.toInt) (b := x12_5.toInt) rfl rfl (by omega) (by omega)
                      refine va_iald hx hb hK hP 18 0 rfl rfl (vp_inI (by omega) (by omega)) dX12_joinsAll_168 ?_
                      refine lv_topi (fun v_41 ev_41 => ?_)
                      have hgv_41 : 0 ≤ v_41.toInt ∧ v_41.toInt ≤ 9 := by rw [ev_41]; exact hRr 18 _
                      refine lv_aload_n hx hb dX12_joinsAll_169 rfl (lv_at hl 3 rfl) ?_
                      refine va_get (D := D) (ci := 12) (v := .ref (a 36)) (C := RX12) (T := TX12) (N := 91) hx hb hT iX12 hown hK hP 0 rfl rfl 47 (by decide) (hT _ t_42) (fun _ h9 => h9) rfl dX12_joinsAll_170 ?_
                      refine lv_aload_n hx hb dX12_joinsAll_173 rfl (lv_at hl 3 rfl) ?_
                      refine va_get (D := D) (ci := 12) (v := .ref (a 18)) (C := RX12) (T := TX12) (N := 91) hx hb hT iX12 hown hK hP 0 rfl rfl 19 (by decide) (hT _ t_33) (fun _ h9 => h9) rfl dX12_joinsAll_174 ?_
                      refine lv_bipush (v := 20) hx hb dX12_joinsAll_177 (by decide) ?_
                      refine lv_iload_n hx hb dX12_joinsAll_179 rfl (lv_at hl 4 rfl) ?_
                      refine lv_imul hx hb dX12_joinsAll_180 ?_
                      refine lv_topi (fun v_42 ev_42 => ?_)
                      have hv_42 : v_42.toInt = 20 * p0.toInt := by rw [ev_42]; have := b_rg p0; exact i_mul (a := 20) (b := p0.toInt) rfl rfl (by omega) (by omega)
                      refine lv_iload hx hb dX12_joinsAll_181 (lv_at hl 0 rfl) ?_
                      refine lv_iadd hx hb dX12_joinsAll_183 ?_
                      refine lv_topi (fun v_43 ev_43 => ?_)
                      have hv_43 : v_43.toInt = v_42.toInt + x12_5.toInt := by rw [ev_43]; have := b_rg v_42; have := b_rg x12_5; exact i_add (a := v_42.toInt) (b := x12_5.toInt) rfl rfl (by omega) (by omega)
                      refine va_iald hx hb hK hP 18 0 rfl rfl (vp_inI (by omega) (by omega)) dX12_joinsAll_184 ?_
                      refine lv_topi (fun v_44 ev_44 => ?_)
                      have hgv_44 : 0 ≤ v_44.toInt ∧ v_44.toInt ≤ 9 := by rw [ev_44]; exact hRr 18 _
                      refine va_iald hx hb hK hP 36 0 rfl rfl (vp_inI (by omega) (by omega)) dX12_joinsAll_185 ?_
                      refine lv_topi (fun v_45 ev_45 => ?_)
                      refine lv_iconst (v := 1) hx hb dX12_joinsAll_186 (by decide) ?_
                      refine lv_iadd hx hb dX12_joinsAll_187 ?_
                      refine lv_topi (fun v_46 ev_46 => ?_)
                      refine va_iast hx hb hK hP hD hS 36 0 rfl rfl (vp_inI (by omega) (by omega)) dX12_joinsAll_188 (fun H locs hP hD hS => ?_)
                      rw [mS36] at hP hD
                      have hRr : mRr (va_up r12 36 (upd (r12 36) v_41.toNatClampNeg v_46)) := Rr_upd hRr 36 (v_41.toNatClampNeg) v_46 (b_rg _)
                      have hEr : mEr [34, 35, 36, 37, 38, 39] _ (va_up r12 36 (upd (r12 36) v_41.toNatClampNeg v_46)) := Er_up hEr 36 _ (by decide)
                      obtain ⟨x_47, ex_47⟩ : ∃ y : Int32, y = x12_5 + 1 := ⟨_, rfl⟩
                      refine lv_iinc (v := x_47) (lv' := [(5, .int x_47), (4, .int v_6), (3, .int v_3), (0, .ref (a 0)), (1, .int p0), (2, .int p1)]) hx hb dX12_joinsAll_189 hl (k := 0) rfl (by rw [ex_47]; rfl) (by decide) rfl (fun ls hl => ?_)
                      have hx_47 : x_47.toInt = x12_5.toInt + 1 := by rw [ex_47]; have := b_rg x12_5; exact i_add (a := x12_5.toInt) (b := 1) rfl rfl (by omega) (by omega)
                      refine lv_goto (tgt := 129) hx hb dX12_joinsAll_192 (by decide) ?_
                      exact ih12 x_47 (va_up r12 36 (upd (r12 36) v_41.toNatClampNeg v_46)) _ _ _ (by first | omega | (simp only [Int.toNat]; omega)) (by first | omega | decide) hRr hEr hJ hP hD hS (lv_sub hl [0, 1, 2, 3, 4, 5] rfl)
              exact loop_12 _ 0 r9 _ _ _ (Nat.lt_succ_self _) (by first | omega | decide) hRr hEr hJ hP hD hS hl
            · have c_11 : x9_5.toInt < v_10.toInt := b_nle c_11
              refine lv_aload_n hx hb dX12_joinsAll_71 rfl (lv_at hl 3 rfl) ?_
              refine lv_iload_n hx hb dX12_joinsAll_72 rfl (lv_at hl 4 rfl) ?_
              refine lv_iload hx hb dX12_joinsAll_73 (lv_at hl 0 rfl) ?_
              refine lv_iload_n hx hb dX12_joinsAll_75 rfl (lv_at hl 2 rfl) ?_
              refine lv_iload hx hb dX12_joinsAll_76 (lv_at hl 1 rfl) ?_
              refine vp_callSi (W.runV (As := [.int p0, .int x9_5, .int v_3, .int v_6]) (rest := []) ⟨hx, hb, hml, hown, hT⟩ (c_X12_isLike l D cy a i r9 rl p0 x9_5 v_3 v_6 hRi hRr (by omega) (by omega)) (cwV 4 hT (gV t_53 t_54 t_55 t_56 t_6) rfl rfl rfl (by decide +kernel) ⟨Nat.le_of_ble_eq_true rfl, Nat.le_of_ble_eq_true rfl⟩) (rP_v hP hK (va_recv hK hP (ci := 12) (q0 := 0) rfl rfl)) rfl rfl hl.1 rfl (lv_room (Nat.le_of_ble_eq_true rfl)) dX12_joinsAll_78 ⟨Nat.le_of_ble_eq_true rfl, Nat.le_of_ble_eq_true rfl⟩) (fun r_48 hr_48 => ?_)
              have hr_48 : BR r_48 (r9 12 (20 * p0.toInt + x9_5.toInt).toNat = v_3 ∧ r9 13 (20 * p0.toInt + x9_5.toInt).toNat = v_6) 1 0 := hr_48
              rcases hr_48 with ⟨rfl, h_49⟩ | ⟨rfl, h_49⟩
              · skip
                refine lv_if_eq (tgt := 120) hx hb dX12_joinsAll_81 (by decide) (fun c_50 => absurd c_50 (by decide)) (fun c_50 => ?_)
                refine lv_aload_n hx hb dX12_joinsAll_84 rfl (lv_at hl 3 rfl) ?_
                refine va_get (D := D) (ci := 12) (v := .ref (a 35)) (C := RX12) (T := TX12) (N := 91) hx hb hT iX12 hown hK hP 0 rfl rfl 46 (by decide) (hT _ t_41) (fun _ h9 => h9) rfl dX12_joinsAll_85 ?_
                refine lv_aload_n hx hb dX12_joinsAll_88 rfl (lv_at hl 3 rfl) ?_
                refine va_get (D := D) (ci := 12) (v := .ref (a 14)) (C := RX12) (T := TX12) (N := 91) hx hb hT iX12 hown hK hP 0 rfl rfl 15 (by decide) (hT _ t_38) (fun _ h9 => h9) rfl dX12_joinsAll_89 ?_
                refine lv_bipush (v := 20) hx hb dX12_joinsAll_92 (by decide) ?_
                refine lv_iload_n hx hb dX12_joinsAll_94 rfl (lv_at hl 4 rfl) ?_
                refine lv_imul hx hb dX12_joinsAll_95 ?_
                refine lv_topi (fun v_51 ev_51 => ?_)
                have hv_51 : v_51.toInt = 20 * p0.toInt := by rw [ev_51]; have := b_rg p0; exact i_mul (a := 20) (b := p0.toInt) rfl rfl (by omega) (by omega)
                refine lv_iload hx hb dX12_joinsAll_96 (lv_at hl 0 rfl) ?_
                refine lv_iadd hx hb dX12_joinsAll_98 ?_
                refine lv_topi (fun v_52 ev_52 => ?_)
                have hv_52 : v_52.toInt = v_51.toInt + x9_5.toInt := by rw [ev_52]; have := b_rg v_51; have := b_rg x9_5; exact i_add (a := v_51.toInt) (b := x9_5.toInt) rfl rfl (by omega) (by omega)
                refine va_iald hx hb hK hP 14 0 rfl rfl (vp_inI (by omega) (by omega)) dX12_joinsAll_99 ?_
                refine lv_topi (fun v_53 ev_53 => ?_)
                have hgv_53 : 0 ≤ v_53.toInt ∧ v_53.toInt ≤ 9 := by rw [ev_53]; exact hRr 14 _
                refine lv_aload_n hx hb dX12_joinsAll_100 rfl (lv_at hl 3 rfl) ?_
                refine va_get (D := D) (ci := 12) (v := .ref (a 35)) (C := RX12) (T := TX12) (N := 91) hx hb hT iX12 hown hK hP 0 rfl rfl 46 (by decide) (hT _ t_41) (fun _ h9 => h9) rfl dX12_joinsAll_101 ?_
                refine lv_aload_n hx hb dX12_joinsAll_104 rfl (lv_at hl 3 rfl) ?_
                refine va_get (D := D) (ci := 12) (v := .ref (a 14)) (C := RX12) (T := TX12) (N := 91) hx hb hT iX12 hown hK hP 0 rfl rfl 15 (by decide) (hT _ t_38) (fun _ h9 => h9) rfl dX12_joinsAll_105 ?_
                refine lv_bipush (v := 20) hx hb dX12_joinsAll_108 (by decide) ?_
                refine lv_iload_n hx hb dX12_joinsAll_110 rfl (lv_at hl 4 rfl) ?_
                refine lv_imul hx hb dX12_joinsAll_111 ?_
                refine lv_topi (fun v_54 ev_54 => ?_)
                have hv_54 : v_54.toInt = 20 * p0.toInt := by rw [ev_54]; have := b_rg p0; exact i_mul (a := 20) (b := p0.toInt) rfl rfl (by omega) (by omega)
                refine lv_iload hx hb dX12_joinsAll_112 (lv_at hl 0 rfl) ?_
                refine lv_iadd hx hb dX12_joinsAll_114 ?_
                refine lv_topi (fun v_55 ev_55 => ?_)
                have hv_55 : v_55.toInt = v_54.toInt + x9_5.toInt := by rw [ev_55]; have := b_rg v_54; have := b_rg x9_5; exact i_add (a := v_54.toInt) (b := x9_5.toInt) rfl rfl (by omega) (by omega)
                refine va_iald hx hb hK hP 14 0 rfl rfl (vp_inI (by omega) (by omega)) dX12_joinsAll_115 ?_
                refine lv_topi (fun v_56 ev_56 => ?_)
                have hgv_56 : 0 ≤ v_56.toInt ∧ v_56.toInt ≤ 9 := by rw [ev_56]; exact hRr 14 _
                refine va_iald hx hb hK hP 35 0 rfl rfl (vp_inI (by omega) (by omega)) dX12_joinsAll_116 ?_
                refine lv_topi (fun v_57 ev_57 => ?_)
                refine lv_iconst (v := 1) hx hb dX12_joinsAll_117 (by decide) ?_
                refine lv_iadd hx hb dX12_joinsAll_118 ?_
                refine lv_topi (fun v_58 ev_58 => ?_)
                refine va_iast hx hb hK hP hD hS 35 0 rfl rfl (vp_inI (by omega) (by omega)) dX12_joinsAll_119 (fun H locs hP hD hS => ?_)
                rw [mS35] at hP hD
                have hRr : mRr (va_up r9 35 (upd (r9 35) v_53.toNatClampNeg v_58)) := Rr_upd hRr 35 (v_53.toNatClampNeg) v_58 (b_rg _)
                have hEr : mEr [34, 35, 36, 37, 38, 39] _ (va_up r9 35 (upd (r9 35) v_53.toNatClampNeg v_58)) := Er_up hEr 35 _ (by decide)
                obtain ⟨x_59, ex_59⟩ : ∃ y : Int32, y = x9_5 + 1 := ⟨_, rfl⟩
                refine lv_iinc (v := x_59) (lv' := [(5, .int x_59), (4, .int v_6), (3, .int v_3), (0, .ref (a 0)), (1, .int p0), (2, .int p1)]) hx hb dX12_joinsAll_120 hl (k := 0) rfl (by rw [ex_59]; rfl) (by decide) rfl (fun ls hl => ?_)
                have hx_59 : x_59.toInt = x9_5.toInt + 1 := by rw [ex_59]; have := b_rg x9_5; exact i_add (a := x9_5.toInt) (b := 1) rfl rfl (by omega) (by omega)
                refine lv_goto (tgt := 60) hx hb dX12_joinsAll_123 (by decide) ?_
                exact ih9 x_59 (va_up r9 35 (upd (r9 35) v_53.toNatClampNeg v_58)) _ _ _ (by first | omega | (simp only [Int.toNat]; omega)) (by first | omega | decide) hRr hEr hJ hP hD hS (lv_sub hl [0, 1, 2, 3, 4, 5] rfl)
              · skip
                refine lv_if_eq (tgt := 120) hx hb dX12_joinsAll_81 (by decide) (fun c_60 => ?_) (fun c_60 => absurd (by decide) c_60)
                obtain ⟨x_61, ex_61⟩ : ∃ y : Int32, y = x9_5 + 1 := ⟨_, rfl⟩
                refine lv_iinc (v := x_61) (lv' := [(5, .int x_61), (4, .int v_6), (3, .int v_3), (0, .ref (a 0)), (1, .int p0), (2, .int p1)]) hx hb dX12_joinsAll_120 hl (k := 0) rfl (by rw [ex_61]; rfl) (by decide) rfl (fun ls hl => ?_)
                have hx_61 : x_61.toInt = x9_5.toInt + 1 := by rw [ex_61]; have := b_rg x9_5; exact i_add (a := x9_5.toInt) (b := 1) rfl rfl (by omega) (by omega)
                refine lv_goto (tgt := 60) hx hb dX12_joinsAll_123 (by decide) ?_
                exact ih9 x_61 r9 _ _ _ (by first | omega | (simp only [Int.toNat]; omega)) (by first | omega | decide) hRr hEr hJ hP hD hS (lv_sub hl [0, 1, 2, 3, 4, 5] rfl)
        exact loop_9 _ 0 r7 _ _ _ (Nat.lt_succ_self _) (by first | omega | decide) hRr hEr hJ hP hD hS hl
      · have c_8 : x7_5.toInt < 10 := b_nle c_8
        refine lv_aload_n hx hb dX12_joinsAll_35 rfl (lv_at hl 3 rfl) ?_
        refine va_get (D := D) (ci := 12) (v := .ref (a 35)) (C := RX12) (T := TX12) (N := 91) hx hb hT iX12 hown hK hP 0 rfl rfl 46 (by decide) (hT _ t_41) (fun _ h9 => h9) rfl dX12_joinsAll_36 ?_
        refine lv_iload hx hb dX12_joinsAll_39 (lv_at hl 0 rfl) ?_
        refine lv_iconst (v := 0) hx hb dX12_joinsAll_41 (by decide) ?_
        refine va_iast hx hb hK hP hD hS 35 0 rfl rfl (vp_inI (by omega) (by omega)) dX12_joinsAll_42 (fun H locs hP hD hS => ?_)
        rw [mS35] at hP hD
        have hRr : mRr (va_up r7 35 (upd (r7 35) x7_5.toNatClampNeg 0)) := Rr_upd hRr 35 (x7_5.toNatClampNeg) 0 (b_rg _)
        have hEr : mEr [34, 35, 36, 37, 38, 39] _ (va_up r7 35 (upd (r7 35) x7_5.toNatClampNeg 0)) := Er_up hEr 35 _ (by decide)
        refine lv_aload_n hx hb dX12_joinsAll_43 rfl (lv_at hl 3 rfl) ?_
        refine va_get (D := D) (ci := 12) (v := .ref (a 36)) (C := RX12) (T := TX12) (N := 91) hx hb hT iX12 hown hK hP 0 rfl rfl 47 (by decide) (hT _ t_42) (fun _ h9 => h9) rfl dX12_joinsAll_44 ?_
        refine lv_iload hx hb dX12_joinsAll_47 (lv_at hl 0 rfl) ?_
        refine lv_iconst (v := 0) hx hb dX12_joinsAll_49 (by decide) ?_
        refine va_iast hx hb hK hP hD hS 36 0 rfl rfl (vp_inI (by omega) (by omega)) dX12_joinsAll_50 (fun H locs hP hD hS => ?_)
        rw [mS36] at hP hD
        have hRr : mRr (va_up (va_up r7 35 (upd (r7 35) x7_5.toNatClampNeg 0)) 36 (upd (r7 36) x7_5.toNatClampNeg 0)) := Rr_upd hRr 36 (x7_5.toNatClampNeg) 0 (b_rg _)
        have hEr : mEr [34, 35, 36, 37, 38, 39] _ (va_up (va_up r7 35 (upd (r7 35) x7_5.toNatClampNeg 0)) 36 (upd (r7 36) x7_5.toNatClampNeg 0)) := Er_up hEr 36 _ (by decide)
        obtain ⟨x_62, ex_62⟩ : ∃ y : Int32, y = x7_5 + 1 := ⟨_, rfl⟩
        refine lv_iinc (v := x_62) (lv' := [(5, .int x_62), (4, .int v_6), (3, .int v_3), (0, .ref (a 0)), (1, .int p0), (2, .int p1)]) hx hb dX12_joinsAll_51 hl (k := 0) rfl (by rw [ex_62]; rfl) (by decide) rfl (fun ls hl => ?_)
        have hx_62 : x_62.toInt = x7_5.toInt + 1 := by rw [ex_62]; have := b_rg x7_5; exact i_add (a := x7_5.toInt) (b := 1) rfl rfl (by omega) (by omega)
        refine lv_goto (tgt := 28) hx hb dX12_joinsAll_54 (by decide) ?_
        exact ih7 x_62 (va_up (va_up r7 35 (upd (r7 35) x7_5.toNatClampNeg 0)) 36 (upd (r7 36) x7_5.toNatClampNeg 0)) _ _ _ (by first | omega | (simp only [Int.toNat]; omega)) (by first | omega | decide) hRr hEr hJ hP hD hS (lv_sub hl [0, 1, 2, 3, 4, 5] rfl)
  exact loop_7 _ 0 r _ _ _ (Nat.lt_succ_self _) (by first | omega | decide) hRr hEr hJ hP hD hS hl
