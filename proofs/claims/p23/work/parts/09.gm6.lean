set_option maxRecDepth 100000 in
theorem t_109 : Cond.code yX12_isFirst cX12_isFirst 3 (some .boolean) ∈ gT := tm (tb6 (List.mem_of_getElem? (i := 136) (by rfl))) (by decide +kernel)
set_option maxRecDepth 100000 in
theorem t_110 : Cond.methodLink RX12 405 yX12_isFirst ∈ gT := tm (tb6 (List.mem_of_getElem? (i := 133) (by rfl))) (by decide +kernel)
set_option maxRecDepth 100000 in
theorem t_111 : Cond.instanceMethod yX12_isFirst ∈ gT := tm (tb6 (List.mem_of_getElem? (i := 135) (by rfl))) (by decide +kernel)
theorem t_112 : Cond.selects RX12 yX12_isFirst yX12_isFirst ∈ gT := tmp (List.mem_of_getElem? (i := 52) (by decide +kernel)) (by decide +kernel)
set_option maxRecDepth 100000 in
theorem t_113 : Cond.code yX12_in cX12_in 3 (some .boolean) ∈ gT := tm (tb6 (List.mem_of_getElem? (i := 1) (by rfl))) (by decide +kernel)
set_option maxRecDepth 100000 in
theorem t_114 : Cond.methodLink RX12 241 yX12_in ∈ gT := tm (tb5 (List.mem_of_getElem? (i := 239) (by rfl))) (by decide +kernel)
set_option maxRecDepth 100000 in
theorem t_115 : Cond.static yX12_in ∈ gT := tm (tb6 (List.mem_of_getElem? (i := 0) (by rfl))) (by decide +kernel)
set_option maxRecDepth 100000 in
theorem t_116 : Cond.code yX12_laysJoined cX12_laysJoined 3 none ∈ gT := tm (tb6 (List.mem_of_getElem? (i := 140) (by rfl))) (by decide +kernel)
set_option maxRecDepth 100000 in
theorem t_117 : Cond.methodLink RX12 408 yX12_laysJoined ∈ gT := tm (tb6 (List.mem_of_getElem? (i := 137) (by rfl))) (by decide +kernel)
set_option maxRecDepth 100000 in
theorem t_118 : Cond.instanceMethod yX12_laysJoined ∈ gT := tm (tb6 (List.mem_of_getElem? (i := 139) (by rfl))) (by decide +kernel)
theorem t_119 : Cond.selects RX12 yX12_laysJoined yX12_laysJoined ∈ gT := tmp (List.mem_of_getElem? (i := 53) (by decide +kernel)) (by decide +kernel)
set_option maxRecDepth 100000 in
theorem t_120 : Cond.code yX12_lostOf cX12_lostOf 6 (some .int) ∈ gT := tm (tb6 (List.mem_of_getElem? (i := 207) (by rfl))) (by decide +kernel)
set_option maxRecDepth 100000 in
theorem t_121 : Cond.methodLink RX12 414 yX12_lostOf ∈ gT := tm (tb6 (List.mem_of_getElem? (i := 204) (by rfl))) (by decide +kernel)
set_option maxRecDepth 100000 in
theorem t_122 : Cond.instanceMethod yX12_lostOf ∈ gT := tm (tb6 (List.mem_of_getElem? (i := 206) (by rfl))) (by decide +kernel)
theorem t_123 : Cond.selects RX12 yX12_lostOf yX12_lostOf ∈ gT := tmp (List.mem_of_getElem? (i := 69) (by decide +kernel)) (by decide +kernel)
set_option maxRecDepth 100000 in
theorem t_124 : Cond.code yX12_changeOf cX12_changeOf 4 (some .int) ∈ gT := tm (tb6 (List.mem_of_getElem? (i := 164) (by rfl))) (by decide +kernel)
set_option maxRecDepth 100000 in
theorem t_125 : Cond.methodLink RX12 411 yX12_changeOf ∈ gT := tm (tb6 (List.mem_of_getElem? (i := 161) (by rfl))) (by decide +kernel)
set_option maxRecDepth 100000 in
theorem t_126 : Cond.instanceMethod yX12_changeOf ∈ gT := tm (tb6 (List.mem_of_getElem? (i := 163) (by rfl))) (by decide +kernel)
theorem t_127 : Cond.selects RX12 yX12_changeOf yX12_changeOf ∈ gT := tmp (List.mem_of_getElem? (i := 59) (by decide +kernel)) (by decide +kernel)
set_option maxRecDepth 100000 in
theorem t_128 : Cond.fieldLink RX12 426 "DepositJudgeModel" "reason0" "I" ∈ gT := tm (tb5 (List.mem_of_getElem? (i := 17) (by rfl))) (by decide +kernel)
set_option maxRecDepth 100000 in
theorem t_129 : Cond.code yX12_feelsClaim cX12_feelsClaim 2 none ∈ gT := tm (tb7 (List.mem_of_getElem? (i := 10) (by rfl))) (by decide +kernel)
set_option maxRecDepth 100000 in
theorem t_130 : Cond.methodLink RX12 429 yX12_feelsClaim ∈ gT := tm (tb7 (List.mem_of_getElem? (i := 7) (by rfl))) (by decide +kernel)
set_option maxRecDepth 100000 in
theorem t_131 : Cond.instanceMethod yX12_feelsClaim ∈ gT := tm (tb7 (List.mem_of_getElem? (i := 9) (by rfl))) (by decide +kernel)
theorem t_132 : Cond.selects RX12 yX12_feelsClaim yX12_feelsClaim ∈ gT := tmp (List.mem_of_getElem? (i := 73) (by decide +kernel)) (by decide +kernel)
set_option maxRecDepth 100000 in
theorem t_133 : Cond.fieldLink RX12 144 "DepositJudgeModel" "agreedOf" "[I" ∈ gT := tm (tb5 (List.mem_of_getElem? (i := 14) (by rfl))) (by decide +kernel)
set_option maxRecDepth 100000 in
theorem t_134 : Cond.code yX12_awards cX12_awards 3 (some .int) ∈ gT := tm (tb7 (List.mem_of_getElem? (i := 6) (by rfl))) (by decide +kernel)
set_option maxRecDepth 100000 in
theorem t_135 : Cond.methodLink RX12 432 yX12_awards ∈ gT := tm (tb7 (List.mem_of_getElem? (i := 3) (by rfl))) (by decide +kernel)
set_option maxRecDepth 100000 in
theorem t_136 : Cond.instanceMethod yX12_awards ∈ gT := tm (tb7 (List.mem_of_getElem? (i := 5) (by rfl))) (by decide +kernel)
theorem t_137 : Cond.selects RX12 yX12_awards yX12_awards ∈ gT := tmp (List.mem_of_getElem? (i := 72) (by decide +kernel)) (by decide +kernel)
set_option maxRecDepth 100000 in
theorem t_138 : Cond.fieldLink RX12 147 "DepositJudgeModel" "answerDay" "[I" ∈ gT := tm (tb5 (List.mem_of_getElem? (i := 15) (by rfl))) (by decide +kernel)
set_option maxRecDepth 100000 in
theorem t_139 : Cond.fieldLink RX12 141 "DepositJudgeModel" "claimDay" "[I" ∈ gT := tm (tb5 (List.mem_of_getElem? (i := 13) (by rfl))) (by decide +kernel)
set_option maxRecDepth 100000 in
theorem t_140 : Cond.code yX12_anyB cX12_anyB 2 (some .boolean) ∈ gT := tm (tb7 (List.mem_of_getElem? (i := 14) (by rfl))) (by decide +kernel)
set_option maxRecDepth 100000 in
theorem t_141 : Cond.methodLink RX12 435 yX12_anyB ∈ gT := tm (tb7 (List.mem_of_getElem? (i := 11) (by rfl))) (by decide +kernel)
set_option maxRecDepth 100000 in
theorem t_142 : Cond.instanceMethod yX12_anyB ∈ gT := tm (tb7 (List.mem_of_getElem? (i := 13) (by rfl))) (by decide +kernel)
theorem t_143 : Cond.selects RX12 yX12_anyB yX12_anyB ∈ gT := tmp (List.mem_of_getElem? (i := 74) (by decide +kernel)) (by decide +kernel)
set_option maxRecDepth 100000 in
theorem t_144 : Cond.code yX12_hasEvidence cX12_hasEvidence 2 (some .boolean) ∈ gT := tm (tb7 (List.mem_of_getElem? (i := 22) (by rfl))) (by decide +kernel)
set_option maxRecDepth 100000 in
theorem t_145 : Cond.methodLink RX12 441 yX12_hasEvidence ∈ gT := tm (tb7 (List.mem_of_getElem? (i := 19) (by rfl))) (by decide +kernel)
set_option maxRecDepth 100000 in
theorem t_146 : Cond.instanceMethod yX12_hasEvidence ∈ gT := tm (tb7 (List.mem_of_getElem? (i := 21) (by rfl))) (by decide +kernel)
theorem t_147 : Cond.selects RX12 yX12_hasEvidence yX12_hasEvidence ∈ gT := tmp (List.mem_of_getElem? (i := 76) (by decide +kernel)) (by decide +kernel)
set_option maxRecDepth 100000 in
theorem t_148 : Cond.code yX12_partOfLost cX12_partOfLost 5 (some .int) ∈ gT := tm (tb7 (List.mem_of_getElem? (i := 18) (by rfl))) (by decide +kernel)
set_option maxRecDepth 100000 in
theorem t_149 : Cond.methodLink RX12 438 yX12_partOfLost ∈ gT := tm (tb7 (List.mem_of_getElem? (i := 15) (by rfl))) (by decide +kernel)
set_option maxRecDepth 100000 in
theorem t_150 : Cond.instanceMethod yX12_partOfLost ∈ gT := tm (tb7 (List.mem_of_getElem? (i := 17) (by rfl))) (by decide +kernel)
theorem t_151 : Cond.selects RX12 yX12_partOfLost yX12_partOfLost ∈ gT := tmp (List.mem_of_getElem? (i := 75) (by decide +kernel)) (by decide +kernel)
set_option maxRecDepth 100000 in
theorem t_152 : Cond.fieldLink RX12 150 "DepositJudgeModel" "isProof" "[Z" ∈ gT := tm (tb5 (List.mem_of_getElem? (i := 16) (by rfl))) (by decide +kernel)
set_option maxRecDepth 100000 in
theorem t_153 : Cond.code yX12_isClaim cX12_isClaim 2 (some .boolean) ∈ gT := tm (tb6 (List.mem_of_getElem? (i := 230) (by rfl))) (by decide +kernel)
set_option maxRecDepth 100000 in
theorem t_154 : Cond.methodLink RX12 423 yX12_isClaim ∈ gT := tm (tb6 (List.mem_of_getElem? (i := 227) (by rfl))) (by decide +kernel)
set_option maxRecDepth 100000 in
theorem t_155 : Cond.instanceMethod yX12_isClaim ∈ gT := tm (tb6 (List.mem_of_getElem? (i := 229) (by rfl))) (by decide +kernel)
theorem t_156 : Cond.selects RX12 yX12_isClaim yX12_isClaim ∈ gT := tmp (List.mem_of_getElem? (i := 70) (by decide +kernel)) (by decide +kernel)
set_option maxRecDepth 100000 in
theorem t_157 : Cond.code yX12_isDay cX12_isDay 1 (some .boolean) ∈ gT := tm (tb6 (List.mem_of_getElem? (i := 222) (by rfl))) (by decide +kernel)
set_option maxRecDepth 100000 in
theorem t_158 : Cond.methodLink RX12 420 yX12_isDay ∈ gT := tm (tb6 (List.mem_of_getElem? (i := 220) (by rfl))) (by decide +kernel)
set_option maxRecDepth 100000 in
theorem t_159 : Cond.static yX12_isDay ∈ gT := tm (tb6 (List.mem_of_getElem? (i := 221) (by rfl))) (by decide +kernel)
set_option maxRecDepth 100000 in
theorem t_160 : Cond.code yX12_awardOf cX12_awardOf 4 (some .int) ∈ gT := tm (tb7 (List.mem_of_getElem? (i := 2) (by rfl))) (by decide +kernel)
set_option maxRecDepth 100000 in
theorem t_161 : Cond.methodLink RX12 444 yX12_awardOf ∈ gT := tm (tb6 (List.mem_of_getElem? (i := 239) (by rfl))) (by decide +kernel)
set_option maxRecDepth 100000 in
theorem t_162 : Cond.instanceMethod yX12_awardOf ∈ gT := tm (tb7 (List.mem_of_getElem? (i := 1) (by rfl))) (by decide +kernel)
theorem t_163 : Cond.selects RX12 yX12_awardOf yX12_awardOf ∈ gT := tmp (List.mem_of_getElem? (i := 71) (by decide +kernel)) (by decide +kernel)
set_option maxRecDepth 100000 in
theorem t_164 : Cond.code yX12_awardsAll cX12_awardsAll 5 (some .int) ∈ gT := tm (tb7 (List.mem_of_getElem? (i := 34) (by rfl))) (by decide +kernel)
set_option maxRecDepth 100000 in
theorem t_165 : Cond.methodLink RX12 447 yX12_awardsAll ∈ gT := tm (tb7 (List.mem_of_getElem? (i := 31) (by rfl))) (by decide +kernel)
set_option maxRecDepth 100000 in
theorem t_166 : Cond.instanceMethod yX12_awardsAll ∈ gT := tm (tb7 (List.mem_of_getElem? (i := 33) (by rfl))) (by decide +kernel)
theorem t_167 : Cond.selects RX12 yX12_awardsAll yX12_awardsAll ∈ gT := tmp (List.mem_of_getElem? (i := 78) (by decide +kernel)) (by decide +kernel)
set_option maxRecDepth 100000 in
theorem t_168 : Cond.fieldLink RX12 22 "DepositJudgeModel" "depositOf" "[I" ∈ gT := tm (tb4 (List.mem_of_getElem? (i := 203) (by rfl))) (by decide +kernel)
set_option maxRecDepth 100000 in
theorem t_169 : Cond.fieldLink RX12 34 "DepositJudgeModel" "owedOf" "[I" ∈ gT := tm (tb4 (List.mem_of_getElem? (i := 207) (by rfl))) (by decide +kernel)
set_option maxRecDepth 100000 in
theorem t_170 : Cond.fieldLink RX12 64 "DepositJudgeModel" "wasKept" "[Z" ∈ gT := tm (tb4 (List.mem_of_getElem? (i := 217) (by rfl))) (by decide +kernel)
set_option maxRecDepth 100000 in
theorem t_171 : Cond.code yX12_ownerGets cX12_ownerGets 5 (some .int) ∈ gT := tm (tb7 (List.mem_of_getElem? (i := 30) (by rfl))) (by decide +kernel)
set_option maxRecDepth 100000 in
theorem t_172 : Cond.methodLink RX12 452 yX12_ownerGets ∈ gT := tm (tb7 (List.mem_of_getElem? (i := 27) (by rfl))) (by decide +kernel)
set_option maxRecDepth 100000 in
theorem t_173 : Cond.instanceMethod yX12_ownerGets ∈ gT := tm (tb7 (List.mem_of_getElem? (i := 29) (by rfl))) (by decide +kernel)
theorem t_174 : Cond.selects RX12 yX12_ownerGets yX12_ownerGets ∈ gT := tmp (List.mem_of_getElem? (i := 77) (by decide +kernel)) (by decide +kernel)
def dl_78 : List (Nat × (Instr × Nat)) := [(0, (.aload_n 0, 1)), (1, (.iload_n 1, 1)), (2, (.invokevirtual 423, 3)), (5, (.ifCond .eq 19, 3)), (8, (.iload_n 2, 1)), (9, (.invokestatic 420, 3)), (12, (.ifCond .eq 12, 3)), (15, (.iload_n 3, 1)), (16, (.iconst 0, 1)), (17, (.iconst 1, 1)), (18, (.invokestatic 241, 3)), (21, (.ifCond .ne 5, 3)), (24, (.iconst (-1), 1)), (25, (.ireturn, 1)), (26, (.aload_n 0, 1)), (27, (.getfield 141, 3)), (30, (.iload_n 1, 1)), (31, (.iaload, 1)), (32, (.iload_n 2, 1)), (33, (.if_icmp .le 6, 3))]
theorem dh_78 : dchk cX12_award dl_78 = true := by decide +kernel
theorem dX12_award_0 : decode cX12_award 0 = .ok (.aload_n 0, 1) := dget dh_78 (k := 0) rfl
theorem dX12_award_1 : decode cX12_award 1 = .ok (.iload_n 1, 1) := dget dh_78 (k := 1) rfl
theorem dX12_award_2 : decode cX12_award 2 = .ok (.invokevirtual 423, 3) := dget dh_78 (k := 2) rfl
theorem dX12_award_5 : decode cX12_award 5 = .ok (.ifCond .eq 19, 3) := dget dh_78 (k := 3) rfl
theorem dX12_award_8 : decode cX12_award 8 = .ok (.iload_n 2, 1) := dget dh_78 (k := 4) rfl
theorem dX12_award_9 : decode cX12_award 9 = .ok (.invokestatic 420, 3) := dget dh_78 (k := 5) rfl
theorem dX12_award_12 : decode cX12_award 12 = .ok (.ifCond .eq 12, 3) := dget dh_78 (k := 6) rfl
theorem dX12_award_15 : decode cX12_award 15 = .ok (.iload_n 3, 1) := dget dh_78 (k := 7) rfl
theorem dX12_award_16 : decode cX12_award 16 = .ok (.iconst 0, 1) := dget dh_78 (k := 8) rfl
theorem dX12_award_17 : decode cX12_award 17 = .ok (.iconst 1, 1) := dget dh_78 (k := 9) rfl
theorem dX12_award_18 : decode cX12_award 18 = .ok (.invokestatic 241, 3) := dget dh_78 (k := 10) rfl
theorem dX12_award_21 : decode cX12_award 21 = .ok (.ifCond .ne 5, 3) := dget dh_78 (k := 11) rfl
theorem dX12_award_24 : decode cX12_award 24 = .ok (.iconst (-1), 1) := dget dh_78 (k := 12) rfl
theorem dX12_award_25 : decode cX12_award 25 = .ok (.ireturn, 1) := dget dh_78 (k := 13) rfl
theorem dX12_award_26 : decode cX12_award 26 = .ok (.aload_n 0, 1) := dget dh_78 (k := 14) rfl
theorem dX12_award_27 : decode cX12_award 27 = .ok (.getfield 141, 3) := dget dh_78 (k := 15) rfl
theorem dX12_award_30 : decode cX12_award 30 = .ok (.iload_n 1, 1) := dget dh_78 (k := 16) rfl
theorem dX12_award_31 : decode cX12_award 31 = .ok (.iaload, 1) := dget dh_78 (k := 17) rfl
theorem dX12_award_32 : decode cX12_award 32 = .ok (.iload_n 2, 1) := dget dh_78 (k := 18) rfl
theorem dX12_award_33 : decode cX12_award 33 = .ok (.if_icmp .le 6, 3) := dget dh_78 (k := 19) rfl
def dl_79 : List (Nat × (Instr × Nat)) := [(36, (.bipush (-2), 2)), (38, (.ireturn, 1)), (39, (.aload_n 0, 1)), (40, (.iload_n 1, 1)), (41, (.iload_n 2, 1)), (42, (.invokevirtual 444, 3)), (45, (.istore 4, 2)), (47, (.iload_n 3, 1)), (48, (.ifCond .ne 8, 3)), (51, (.iload 4, 2)), (53, (.goto 7, 3)), (56, (.aload_n 0, 1)), (57, (.getfield 426, 3)), (60, (.ireturn, 1))]
theorem dh_79 : dchk cX12_award dl_79 = true := by decide +kernel
theorem dX12_award_36 : decode cX12_award 36 = .ok (.bipush (-2), 2) := dget dh_79 (k := 0) rfl
theorem dX12_award_38 : decode cX12_award 38 = .ok (.ireturn, 1) := dget dh_79 (k := 1) rfl
theorem dX12_award_39 : decode cX12_award 39 = .ok (.aload_n 0, 1) := dget dh_79 (k := 2) rfl
theorem dX12_award_40 : decode cX12_award 40 = .ok (.iload_n 1, 1) := dget dh_79 (k := 3) rfl
theorem dX12_award_41 : decode cX12_award 41 = .ok (.iload_n 2, 1) := dget dh_79 (k := 4) rfl
theorem dX12_award_42 : decode cX12_award 42 = .ok (.invokevirtual 444, 3) := dget dh_79 (k := 5) rfl
theorem dX12_award_45 : decode cX12_award 45 = .ok (.istore 4, 2) := dget dh_79 (k := 6) rfl
theorem dX12_award_47 : decode cX12_award 47 = .ok (.iload_n 3, 1) := dget dh_79 (k := 7) rfl
theorem dX12_award_48 : decode cX12_award 48 = .ok (.ifCond .ne 8, 3) := dget dh_79 (k := 8) rfl
theorem dX12_award_51 : decode cX12_award 51 = .ok (.iload 4, 2) := dget dh_79 (k := 9) rfl
theorem dX12_award_53 : decode cX12_award 53 = .ok (.goto 7, 3) := dget dh_79 (k := 10) rfl
theorem dX12_award_56 : decode cX12_award 56 = .ok (.aload_n 0, 1) := dget dh_79 (k := 11) rfl
theorem dX12_award_57 : decode cX12_award 57 = .ok (.getfield 426, 3) := dget dh_79 (k := 12) rfl
theorem dX12_award_60 : decode cX12_award 60 = .ok (.ireturn, 1) := dget dh_79 (k := 13) rfl
def dl_80 : List (Nat × (Instr × Nat)) := [(0, (.aload_n 0, 1)), (1, (.aload_n 0, 1)), (2, (.getfield 129, 3)), (5, (.iload_n 1, 1)), (6, (.iaload, 1)), (7, (.invokevirtual 408, 3)), (10, (.aload_n 0, 1)), (11, (.aload_n 0, 1)), (12, (.getfield 129, 3)), (15, (.iload_n 1, 1)), (16, (.iaload, 1)), (17, (.aload_n 0, 1)), (18, (.getfield 132, 3)), (21, (.iload_n 1, 1)), (22, (.iaload, 1)), (23, (.invokevirtual 414, 3)), (26, (.istore_n 3, 1)), (27, (.iload_n 3, 1)), (28, (.ifCond .ne 10, 3)), (31, (.aload_n 0, 1))]
theorem dh_80 : dchk cX12_awardOf dl_80 = true := by decide +kernel
theorem dX12_awardOf_0 : decode cX12_awardOf 0 = .ok (.aload_n 0, 1) := dget dh_80 (k := 0) rfl
theorem dX12_awardOf_1 : decode cX12_awardOf 1 = .ok (.aload_n 0, 1) := dget dh_80 (k := 1) rfl
theorem dX12_awardOf_2 : decode cX12_awardOf 2 = .ok (.getfield 129, 3) := dget dh_80 (k := 2) rfl
theorem dX12_awardOf_5 : decode cX12_awardOf 5 = .ok (.iload_n 1, 1) := dget dh_80 (k := 3) rfl
theorem dX12_awardOf_6 : decode cX12_awardOf 6 = .ok (.iaload, 1) := dget dh_80 (k := 4) rfl
theorem dX12_awardOf_7 : decode cX12_awardOf 7 = .ok (.invokevirtual 408, 3) := dget dh_80 (k := 5) rfl
theorem dX12_awardOf_10 : decode cX12_awardOf 10 = .ok (.aload_n 0, 1) := dget dh_80 (k := 6) rfl
theorem dX12_awardOf_11 : decode cX12_awardOf 11 = .ok (.aload_n 0, 1) := dget dh_80 (k := 7) rfl
theorem dX12_awardOf_12 : decode cX12_awardOf 12 = .ok (.getfield 129, 3) := dget dh_80 (k := 8) rfl
theorem dX12_awardOf_15 : decode cX12_awardOf 15 = .ok (.iload_n 1, 1) := dget dh_80 (k := 9) rfl
theorem dX12_awardOf_16 : decode cX12_awardOf 16 = .ok (.iaload, 1) := dget dh_80 (k := 10) rfl
theorem dX12_awardOf_17 : decode cX12_awardOf 17 = .ok (.aload_n 0, 1) := dget dh_80 (k := 11) rfl
theorem dX12_awardOf_18 : decode cX12_awardOf 18 = .ok (.getfield 132, 3) := dget dh_80 (k := 12) rfl
theorem dX12_awardOf_21 : decode cX12_awardOf 21 = .ok (.iload_n 1, 1) := dget dh_80 (k := 13) rfl
theorem dX12_awardOf_22 : decode cX12_awardOf 22 = .ok (.iaload, 1) := dget dh_80 (k := 14) rfl
theorem dX12_awardOf_23 : decode cX12_awardOf 23 = .ok (.invokevirtual 414, 3) := dget dh_80 (k := 15) rfl
theorem dX12_awardOf_26 : decode cX12_awardOf 26 = .ok (.istore_n 3, 1) := dget dh_80 (k := 16) rfl
theorem dX12_awardOf_27 : decode cX12_awardOf 27 = .ok (.iload_n 3, 1) := dget dh_80 (k := 17) rfl
theorem dX12_awardOf_28 : decode cX12_awardOf 28 = .ok (.ifCond .ne 10, 3) := dget dh_80 (k := 18) rfl
theorem dX12_awardOf_31 : decode cX12_awardOf 31 = .ok (.aload_n 0, 1) := dget dh_80 (k := 19) rfl
def dl_81 : List (Nat × (Instr × Nat)) := [(32, (.iconst 1, 1)), (33, (.iconst 0, 1)), (34, (.invokevirtual 432, 3)), (37, (.ireturn, 1)), (38, (.aload_n 0, 1)), (39, (.getfield 144, 3)), (42, (.iload_n 1, 1)), (43, (.iaload, 1)), (44, (.iload_n 3, 1)), (45, (.if_icmp .lt 10, 3)), (48, (.aload_n 0, 1)), (49, (.iconst 2, 1)), (50, (.iload_n 3, 1)), (51, (.invokevirtual 432, 3)), (54, (.ireturn, 1)), (55, (.aload_n 0, 1)), (56, (.iload_n 1, 1)), (57, (.invokevirtual 429, 3)), (60, (.aload_n 0, 1)), (61, (.getfield 147, 3))]
theorem dh_81 : dchk cX12_awardOf dl_81 = true := by decide +kernel
theorem dX12_awardOf_32 : decode cX12_awardOf 32 = .ok (.iconst 1, 1) := dget dh_81 (k := 0) rfl
theorem dX12_awardOf_33 : decode cX12_awardOf 33 = .ok (.iconst 0, 1) := dget dh_81 (k := 1) rfl
theorem dX12_awardOf_34 : decode cX12_awardOf 34 = .ok (.invokevirtual 432, 3) := dget dh_81 (k := 2) rfl
theorem dX12_awardOf_37 : decode cX12_awardOf 37 = .ok (.ireturn, 1) := dget dh_81 (k := 3) rfl
theorem dX12_awardOf_38 : decode cX12_awardOf 38 = .ok (.aload_n 0, 1) := dget dh_81 (k := 4) rfl
theorem dX12_awardOf_39 : decode cX12_awardOf 39 = .ok (.getfield 144, 3) := dget dh_81 (k := 5) rfl
theorem dX12_awardOf_42 : decode cX12_awardOf 42 = .ok (.iload_n 1, 1) := dget dh_81 (k := 6) rfl
theorem dX12_awardOf_43 : decode cX12_awardOf 43 = .ok (.iaload, 1) := dget dh_81 (k := 7) rfl
theorem dX12_awardOf_44 : decode cX12_awardOf 44 = .ok (.iload_n 3, 1) := dget dh_81 (k := 8) rfl
theorem dX12_awardOf_45 : decode cX12_awardOf 45 = .ok (.if_icmp .lt 10, 3) := dget dh_81 (k := 9) rfl
theorem dX12_awardOf_48 : decode cX12_awardOf 48 = .ok (.aload_n 0, 1) := dget dh_81 (k := 10) rfl
theorem dX12_awardOf_49 : decode cX12_awardOf 49 = .ok (.iconst 2, 1) := dget dh_81 (k := 11) rfl
theorem dX12_awardOf_50 : decode cX12_awardOf 50 = .ok (.iload_n 3, 1) := dget dh_81 (k := 12) rfl
theorem dX12_awardOf_51 : decode cX12_awardOf 51 = .ok (.invokevirtual 432, 3) := dget dh_81 (k := 13) rfl
theorem dX12_awardOf_54 : decode cX12_awardOf 54 = .ok (.ireturn, 1) := dget dh_81 (k := 14) rfl
theorem dX12_awardOf_55 : decode cX12_awardOf 55 = .ok (.aload_n 0, 1) := dget dh_81 (k := 15) rfl
theorem dX12_awardOf_56 : decode cX12_awardOf 56 = .ok (.iload_n 1, 1) := dget dh_81 (k := 16) rfl
theorem dX12_awardOf_57 : decode cX12_awardOf 57 = .ok (.invokevirtual 429, 3) := dget dh_81 (k := 17) rfl
theorem dX12_awardOf_60 : decode cX12_awardOf 60 = .ok (.aload_n 0, 1) := dget dh_81 (k := 18) rfl
theorem dX12_awardOf_61 : decode cX12_awardOf 61 = .ok (.getfield 147, 3) := dget dh_81 (k := 19) rfl
def dl_82 : List (Nat × (Instr × Nat)) := [(64, (.iload_n 1, 1)), (65, (.iaload, 1)), (66, (.iconst (-1), 1)), (67, (.if_icmp .eq 13, 3)), (70, (.aload_n 0, 1)), (71, (.getfield 147, 3)), (74, (.iload_n 1, 1)), (75, (.iaload, 1)), (76, (.iload_n 2, 1)), (77, (.if_icmp .le 47, 3)), (80, (.iload_n 2, 1)), (81, (.aload_n 0, 1)), (82, (.getfield 141, 3)), (85, (.iload_n 1, 1)), (86, (.iaload, 1)), (87, (.isub, 1)), (88, (.aload_n 0, 1)), (89, (.bipush 100, 2)), (91, (.sipush 999, 3)), (94, (.sipush 999, 3))]
theorem dh_82 : dchk cX12_awardOf dl_82 = true := by decide +kernel
theorem dX12_awardOf_64 : decode cX12_awardOf 64 = .ok (.iload_n 1, 1) := dget dh_82 (k := 0) rfl
theorem dX12_awardOf_65 : decode cX12_awardOf 65 = .ok (.iaload, 1) := dget dh_82 (k := 1) rfl
theorem dX12_awardOf_66 : decode cX12_awardOf 66 = .ok (.iconst (-1), 1) := dget dh_82 (k := 2) rfl
theorem dX12_awardOf_67 : decode cX12_awardOf 67 = .ok (.if_icmp .eq 13, 3) := dget dh_82 (k := 3) rfl
theorem dX12_awardOf_70 : decode cX12_awardOf 70 = .ok (.aload_n 0, 1) := dget dh_82 (k := 4) rfl
theorem dX12_awardOf_71 : decode cX12_awardOf 71 = .ok (.getfield 147, 3) := dget dh_82 (k := 5) rfl
theorem dX12_awardOf_74 : decode cX12_awardOf 74 = .ok (.iload_n 1, 1) := dget dh_82 (k := 6) rfl
theorem dX12_awardOf_75 : decode cX12_awardOf 75 = .ok (.iaload, 1) := dget dh_82 (k := 7) rfl
theorem dX12_awardOf_76 : decode cX12_awardOf 76 = .ok (.iload_n 2, 1) := dget dh_82 (k := 8) rfl
theorem dX12_awardOf_77 : decode cX12_awardOf 77 = .ok (.if_icmp .le 47, 3) := dget dh_82 (k := 9) rfl
theorem dX12_awardOf_80 : decode cX12_awardOf 80 = .ok (.iload_n 2, 1) := dget dh_82 (k := 10) rfl
theorem dX12_awardOf_81 : decode cX12_awardOf 81 = .ok (.aload_n 0, 1) := dget dh_82 (k := 11) rfl
theorem dX12_awardOf_82 : decode cX12_awardOf 82 = .ok (.getfield 141, 3) := dget dh_82 (k := 12) rfl
theorem dX12_awardOf_85 : decode cX12_awardOf 85 = .ok (.iload_n 1, 1) := dget dh_82 (k := 13) rfl
theorem dX12_awardOf_86 : decode cX12_awardOf 86 = .ok (.iaload, 1) := dget dh_82 (k := 14) rfl
theorem dX12_awardOf_87 : decode cX12_awardOf 87 = .ok (.isub, 1) := dget dh_82 (k := 15) rfl
theorem dX12_awardOf_88 : decode cX12_awardOf 88 = .ok (.aload_n 0, 1) := dget dh_82 (k := 16) rfl
theorem dX12_awardOf_89 : decode cX12_awardOf 89 = .ok (.bipush 100, 2) := dget dh_82 (k := 17) rfl
theorem dX12_awardOf_91 : decode cX12_awardOf 91 = .ok (.sipush 999, 3) := dget dh_82 (k := 18) rfl
theorem dX12_awardOf_94 : decode cX12_awardOf 94 = .ok (.sipush 999, 3) := dget dh_82 (k := 19) rfl
def dl_83 : List (Nat × (Instr × Nat)) := [(97, (.invokevirtual 396, 3)), (100, (.if_icmp .le 12, 3)), (103, (.aload_n 0, 1)), (104, (.iconst 3, 1)), (105, (.iload_n 3, 1)), (106, (.invokevirtual 432, 3)), (109, (.goto 14, 3)), (112, (.aload_n 0, 1)), (113, (.iconst 4, 1)), (114, (.aload_n 0, 1)), (115, (.getfield 144, 3)), (118, (.iload_n 1, 1)), (119, (.iaload, 1)), (120, (.invokevirtual 432, 3)), (123, (.ireturn, 1)), (124, (.aload_n 0, 1)), (125, (.invokevirtual 435, 3)), (128, (.ifCond .eq 35, 3)), (131, (.aload_n 0, 1)), (132, (.getfield 150, 3))]
theorem dh_83 : dchk cX12_awardOf dl_83 = true := by decide +kernel
theorem dX12_awardOf_97 : decode cX12_awardOf 97 = .ok (.invokevirtual 396, 3) := dget dh_83 (k := 0) rfl
theorem dX12_awardOf_100 : decode cX12_awardOf 100 = .ok (.if_icmp .le 12, 3) := dget dh_83 (k := 1) rfl
theorem dX12_awardOf_103 : decode cX12_awardOf 103 = .ok (.aload_n 0, 1) := dget dh_83 (k := 2) rfl
theorem dX12_awardOf_104 : decode cX12_awardOf 104 = .ok (.iconst 3, 1) := dget dh_83 (k := 3) rfl
theorem dX12_awardOf_105 : decode cX12_awardOf 105 = .ok (.iload_n 3, 1) := dget dh_83 (k := 4) rfl
theorem dX12_awardOf_106 : decode cX12_awardOf 106 = .ok (.invokevirtual 432, 3) := dget dh_83 (k := 5) rfl
theorem dX12_awardOf_109 : decode cX12_awardOf 109 = .ok (.goto 14, 3) := dget dh_83 (k := 6) rfl
theorem dX12_awardOf_112 : decode cX12_awardOf 112 = .ok (.aload_n 0, 1) := dget dh_83 (k := 7) rfl
theorem dX12_awardOf_113 : decode cX12_awardOf 113 = .ok (.iconst 4, 1) := dget dh_83 (k := 8) rfl
theorem dX12_awardOf_114 : decode cX12_awardOf 114 = .ok (.aload_n 0, 1) := dget dh_83 (k := 9) rfl
theorem dX12_awardOf_115 : decode cX12_awardOf 115 = .ok (.getfield 144, 3) := dget dh_83 (k := 10) rfl
theorem dX12_awardOf_118 : decode cX12_awardOf 118 = .ok (.iload_n 1, 1) := dget dh_83 (k := 11) rfl
theorem dX12_awardOf_119 : decode cX12_awardOf 119 = .ok (.iaload, 1) := dget dh_83 (k := 12) rfl
theorem dX12_awardOf_120 : decode cX12_awardOf 120 = .ok (.invokevirtual 432, 3) := dget dh_83 (k := 13) rfl
theorem dX12_awardOf_123 : decode cX12_awardOf 123 = .ok (.ireturn, 1) := dget dh_83 (k := 14) rfl
theorem dX12_awardOf_124 : decode cX12_awardOf 124 = .ok (.aload_n 0, 1) := dget dh_83 (k := 15) rfl
theorem dX12_awardOf_125 : decode cX12_awardOf 125 = .ok (.invokevirtual 435, 3) := dget dh_83 (k := 16) rfl
theorem dX12_awardOf_128 : decode cX12_awardOf 128 = .ok (.ifCond .eq 35, 3) := dget dh_83 (k := 17) rfl
theorem dX12_awardOf_131 : decode cX12_awardOf 131 = .ok (.aload_n 0, 1) := dget dh_83 (k := 18) rfl
theorem dX12_awardOf_132 : decode cX12_awardOf 132 = .ok (.getfield 150, 3) := dget dh_83 (k := 19) rfl
def dl_84 : List (Nat × (Instr × Nat)) := [(135, (.iload_n 1, 1)), (136, (.baload, 1)), (137, (.ifCond .eq 18, 3)), (140, (.aload_n 0, 1)), (141, (.bipush 6, 2)), (143, (.aload_n 0, 1)), (144, (.getfield 144, 3)), (147, (.iload_n 1, 1)), (148, (.iaload, 1)), (149, (.invokevirtual 432, 3)), (152, (.goto 10, 3)), (155, (.aload_n 0, 1)), (156, (.iload_n 1, 1)), (157, (.iload_n 3, 1)), (158, (.iconst 5, 1)), (159, (.invokevirtual 438, 3)), (162, (.ireturn, 1)), (163, (.aload_n 0, 1)), (164, (.iload_n 1, 1)), (165, (.invokevirtual 441, 3))]
theorem dh_84 : dchk cX12_awardOf dl_84 = true := by decide +kernel
theorem dX12_awardOf_135 : decode cX12_awardOf 135 = .ok (.iload_n 1, 1) := dget dh_84 (k := 0) rfl
theorem dX12_awardOf_136 : decode cX12_awardOf 136 = .ok (.baload, 1) := dget dh_84 (k := 1) rfl
theorem dX12_awardOf_137 : decode cX12_awardOf 137 = .ok (.ifCond .eq 18, 3) := dget dh_84 (k := 2) rfl
theorem dX12_awardOf_140 : decode cX12_awardOf 140 = .ok (.aload_n 0, 1) := dget dh_84 (k := 3) rfl
theorem dX12_awardOf_141 : decode cX12_awardOf 141 = .ok (.bipush 6, 2) := dget dh_84 (k := 4) rfl
theorem dX12_awardOf_143 : decode cX12_awardOf 143 = .ok (.aload_n 0, 1) := dget dh_84 (k := 5) rfl
theorem dX12_awardOf_144 : decode cX12_awardOf 144 = .ok (.getfield 144, 3) := dget dh_84 (k := 6) rfl
theorem dX12_awardOf_147 : decode cX12_awardOf 147 = .ok (.iload_n 1, 1) := dget dh_84 (k := 7) rfl
theorem dX12_awardOf_148 : decode cX12_awardOf 148 = .ok (.iaload, 1) := dget dh_84 (k := 8) rfl
theorem dX12_awardOf_149 : decode cX12_awardOf 149 = .ok (.invokevirtual 432, 3) := dget dh_84 (k := 9) rfl
theorem dX12_awardOf_152 : decode cX12_awardOf 152 = .ok (.goto 10, 3) := dget dh_84 (k := 10) rfl
theorem dX12_awardOf_155 : decode cX12_awardOf 155 = .ok (.aload_n 0, 1) := dget dh_84 (k := 11) rfl
theorem dX12_awardOf_156 : decode cX12_awardOf 156 = .ok (.iload_n 1, 1) := dget dh_84 (k := 12) rfl
theorem dX12_awardOf_157 : decode cX12_awardOf 157 = .ok (.iload_n 3, 1) := dget dh_84 (k := 13) rfl
theorem dX12_awardOf_158 : decode cX12_awardOf 158 = .ok (.iconst 5, 1) := dget dh_84 (k := 14) rfl
theorem dX12_awardOf_159 : decode cX12_awardOf 159 = .ok (.invokevirtual 438, 3) := dget dh_84 (k := 15) rfl
theorem dX12_awardOf_162 : decode cX12_awardOf 162 = .ok (.ireturn, 1) := dget dh_84 (k := 16) rfl
theorem dX12_awardOf_163 : decode cX12_awardOf 163 = .ok (.aload_n 0, 1) := dget dh_84 (k := 17) rfl
theorem dX12_awardOf_164 : decode cX12_awardOf 164 = .ok (.iload_n 1, 1) := dget dh_84 (k := 18) rfl
theorem dX12_awardOf_165 : decode cX12_awardOf 165 = .ok (.invokevirtual 441, 3) := dget dh_84 (k := 19) rfl
def dl_85 : List (Nat × (Instr × Nat)) := [(168, (.ifCond .eq 14, 3)), (171, (.aload_n 0, 1)), (172, (.iload_n 1, 1)), (173, (.iload_n 3, 1)), (174, (.bipush 7, 2)), (176, (.invokevirtual 438, 3)), (179, (.goto 15, 3)), (182, (.aload_n 0, 1)), (183, (.bipush 8, 2)), (185, (.aload_n 0, 1)), (186, (.getfield 144, 3)), (189, (.iload_n 1, 1)), (190, (.iaload, 1)), (191, (.invokevirtual 432, 3)), (194, (.ireturn, 1))]
theorem dh_85 : dchk cX12_awardOf dl_85 = true := by decide +kernel
theorem dX12_awardOf_168 : decode cX12_awardOf 168 = .ok (.ifCond .eq 14, 3) := dget dh_85 (k := 0) rfl
theorem dX12_awardOf_171 : decode cX12_awardOf 171 = .ok (.aload_n 0, 1) := dget dh_85 (k := 1) rfl
theorem dX12_awardOf_172 : decode cX12_awardOf 172 = .ok (.iload_n 1, 1) := dget dh_85 (k := 2) rfl
theorem dX12_awardOf_173 : decode cX12_awardOf 173 = .ok (.iload_n 3, 1) := dget dh_85 (k := 3) rfl
theorem dX12_awardOf_174 : decode cX12_awardOf 174 = .ok (.bipush 7, 2) := dget dh_85 (k := 4) rfl
theorem dX12_awardOf_176 : decode cX12_awardOf 176 = .ok (.invokevirtual 438, 3) := dget dh_85 (k := 5) rfl
theorem dX12_awardOf_179 : decode cX12_awardOf 179 = .ok (.goto 15, 3) := dget dh_85 (k := 6) rfl
theorem dX12_awardOf_182 : decode cX12_awardOf 182 = .ok (.aload_n 0, 1) := dget dh_85 (k := 7) rfl
theorem dX12_awardOf_183 : decode cX12_awardOf 183 = .ok (.bipush 8, 2) := dget dh_85 (k := 8) rfl
theorem dX12_awardOf_185 : decode cX12_awardOf 185 = .ok (.aload_n 0, 1) := dget dh_85 (k := 9) rfl
theorem dX12_awardOf_186 : decode cX12_awardOf 186 = .ok (.getfield 144, 3) := dget dh_85 (k := 10) rfl
theorem dX12_awardOf_189 : decode cX12_awardOf 189 = .ok (.iload_n 1, 1) := dget dh_85 (k := 11) rfl
theorem dX12_awardOf_190 : decode cX12_awardOf 190 = .ok (.iaload, 1) := dget dh_85 (k := 12) rfl
theorem dX12_awardOf_191 : decode cX12_awardOf 191 = .ok (.invokevirtual 432, 3) := dget dh_85 (k := 13) rfl
theorem dX12_awardOf_194 : decode cX12_awardOf 194 = .ok (.ireturn, 1) := dget dh_85 (k := 14) rfl
def dl_86 : List (Nat × (Instr × Nat)) := [(0, (.aload_n 0, 1)), (1, (.iload_n 1, 1)), (2, (.putfield 426, 3)), (5, (.iload_n 2, 1)), (6, (.ireturn, 1))]
theorem dh_86 : dchk cX12_awards dl_86 = true := by decide +kernel
theorem dX12_awards_0 : decode cX12_awards 0 = .ok (.aload_n 0, 1) := dget dh_86 (k := 0) rfl
theorem dX12_awards_1 : decode cX12_awards 1 = .ok (.iload_n 1, 1) := dget dh_86 (k := 1) rfl
theorem dX12_awards_2 : decode cX12_awards 2 = .ok (.putfield 426, 3) := dget dh_86 (k := 2) rfl
theorem dX12_awards_5 : decode cX12_awards 5 = .ok (.iload_n 2, 1) := dget dh_86 (k := 3) rfl
theorem dX12_awards_6 : decode cX12_awards 6 = .ok (.ireturn, 1) := dget dh_86 (k := 4) rfl
def dl_87 : List (Nat × (Instr × Nat)) := [(0, (.iconst 0, 1)), (1, (.istore_n 3, 1)), (2, (.iconst 0, 1)), (3, (.istore 4, 2)), (5, (.iload 4, 2)), (7, (.aload_n 0, 1)), (8, (.getfield 417, 3)), (11, (.if_icmp .ge 45, 3)), (14, (.iload_n 3, 1)), (15, (.aload_n 0, 1)), (16, (.getfield 129, 3)), (19, (.iload 4, 2)), (21, (.iaload, 1)), (22, (.iload_n 1, 1)), (23, (.if_icmp .ne 24, 3)), (26, (.aload_n 0, 1)), (27, (.getfield 141, 3)), (30, (.iload 4, 2)), (32, (.iaload, 1)), (33, (.iload_n 2, 1))]
theorem dh_87 : dchk cX12_awardsAll dl_87 = true := by decide +kernel
theorem dX12_awardsAll_0 : decode cX12_awardsAll 0 = .ok (.iconst 0, 1) := dget dh_87 (k := 0) rfl
theorem dX12_awardsAll_1 : decode cX12_awardsAll 1 = .ok (.istore_n 3, 1) := dget dh_87 (k := 1) rfl
theorem dX12_awardsAll_2 : decode cX12_awardsAll 2 = .ok (.iconst 0, 1) := dget dh_87 (k := 2) rfl
theorem dX12_awardsAll_3 : decode cX12_awardsAll 3 = .ok (.istore 4, 2) := dget dh_87 (k := 3) rfl
theorem dX12_awardsAll_5 : decode cX12_awardsAll 5 = .ok (.iload 4, 2) := dget dh_87 (k := 4) rfl
theorem dX12_awardsAll_7 : decode cX12_awardsAll 7 = .ok (.aload_n 0, 1) := dget dh_87 (k := 5) rfl
theorem dX12_awardsAll_8 : decode cX12_awardsAll 8 = .ok (.getfield 417, 3) := dget dh_87 (k := 6) rfl
theorem dX12_awardsAll_11 : decode cX12_awardsAll 11 = .ok (.if_icmp .ge 45, 3) := dget dh_87 (k := 7) rfl
theorem dX12_awardsAll_14 : decode cX12_awardsAll 14 = .ok (.iload_n 3, 1) := dget dh_87 (k := 8) rfl
theorem dX12_awardsAll_15 : decode cX12_awardsAll 15 = .ok (.aload_n 0, 1) := dget dh_87 (k := 9) rfl
theorem dX12_awardsAll_16 : decode cX12_awardsAll 16 = .ok (.getfield 129, 3) := dget dh_87 (k := 10) rfl
theorem dX12_awardsAll_19 : decode cX12_awardsAll 19 = .ok (.iload 4, 2) := dget dh_87 (k := 11) rfl
theorem dX12_awardsAll_21 : decode cX12_awardsAll 21 = .ok (.iaload, 1) := dget dh_87 (k := 12) rfl
theorem dX12_awardsAll_22 : decode cX12_awardsAll 22 = .ok (.iload_n 1, 1) := dget dh_87 (k := 13) rfl
theorem dX12_awardsAll_23 : decode cX12_awardsAll 23 = .ok (.if_icmp .ne 24, 3) := dget dh_87 (k := 14) rfl
theorem dX12_awardsAll_26 : decode cX12_awardsAll 26 = .ok (.aload_n 0, 1) := dget dh_87 (k := 15) rfl
theorem dX12_awardsAll_27 : decode cX12_awardsAll 27 = .ok (.getfield 141, 3) := dget dh_87 (k := 16) rfl
theorem dX12_awardsAll_30 : decode cX12_awardsAll 30 = .ok (.iload 4, 2) := dget dh_87 (k := 17) rfl
theorem dX12_awardsAll_32 : decode cX12_awardsAll 32 = .ok (.iaload, 1) := dget dh_87 (k := 18) rfl
theorem dX12_awardsAll_33 : decode cX12_awardsAll 33 = .ok (.iload_n 2, 1) := dget dh_87 (k := 19) rfl
def dl_88 : List (Nat × (Instr × Nat)) := [(34, (.if_icmp .gt 13, 3)), (37, (.aload_n 0, 1)), (38, (.iload 4, 2)), (40, (.iload_n 2, 1)), (41, (.invokevirtual 444, 3)), (44, (.goto 4, 3)), (47, (.iconst 0, 1)), (48, (.iadd, 1)), (49, (.istore_n 3, 1)), (50, (.iinc 4 1, 3)), (53, (.goto (-48), 3)), (56, (.iload_n 3, 1)), (57, (.ireturn, 1))]
theorem dh_88 : dchk cX12_awardsAll dl_88 = true := by decide +kernel
theorem dX12_awardsAll_34 : decode cX12_awardsAll 34 = .ok (.if_icmp .gt 13, 3) := dget dh_88 (k := 0) rfl
theorem dX12_awardsAll_37 : decode cX12_awardsAll 37 = .ok (.aload_n 0, 1) := dget dh_88 (k := 1) rfl
theorem dX12_awardsAll_38 : decode cX12_awardsAll 38 = .ok (.iload 4, 2) := dget dh_88 (k := 2) rfl
theorem dX12_awardsAll_40 : decode cX12_awardsAll 40 = .ok (.iload_n 2, 1) := dget dh_88 (k := 3) rfl
theorem dX12_awardsAll_41 : decode cX12_awardsAll 41 = .ok (.invokevirtual 444, 3) := dget dh_88 (k := 4) rfl
theorem dX12_awardsAll_44 : decode cX12_awardsAll 44 = .ok (.goto 4, 3) := dget dh_88 (k := 5) rfl
theorem dX12_awardsAll_47 : decode cX12_awardsAll 47 = .ok (.iconst 0, 1) := dget dh_88 (k := 6) rfl
theorem dX12_awardsAll_48 : decode cX12_awardsAll 48 = .ok (.iadd, 1) := dget dh_88 (k := 7) rfl
theorem dX12_awardsAll_49 : decode cX12_awardsAll 49 = .ok (.istore_n 3, 1) := dget dh_88 (k := 8) rfl
theorem dX12_awardsAll_50 : decode cX12_awardsAll 50 = .ok (.iinc 4 1, 3) := dget dh_88 (k := 9) rfl
theorem dX12_awardsAll_53 : decode cX12_awardsAll 53 = .ok (.goto (-48), 3) := dget dh_88 (k := 10) rfl
theorem dX12_awardsAll_56 : decode cX12_awardsAll 56 = .ok (.iload_n 3, 1) := dget dh_88 (k := 11) rfl
theorem dX12_awardsAll_57 : decode cX12_awardsAll 57 = .ok (.ireturn, 1) := dget dh_88 (k := 12) rfl
def dl_89 : List (Nat × (Instr × Nat)) := [(0, (.aload_n 0, 1)), (1, (.getfield 22, 3)), (4, (.iload_n 1, 1)), (5, (.iaload, 1)), (6, (.aload_n 0, 1)), (7, (.iload_n 1, 1)), (8, (.iload_n 2, 1)), (9, (.invokevirtual 452, 3)), (12, (.isub, 1)), (13, (.ireturn, 1))]
theorem dh_89 : dchk cX12_backOf dl_89 = true := by decide +kernel
theorem dX12_backOf_0 : decode cX12_backOf 0 = .ok (.aload_n 0, 1) := dget dh_89 (k := 0) rfl
theorem dX12_backOf_1 : decode cX12_backOf 1 = .ok (.getfield 22, 3) := dget dh_89 (k := 1) rfl
theorem dX12_backOf_4 : decode cX12_backOf 4 = .ok (.iload_n 1, 1) := dget dh_89 (k := 2) rfl
theorem dX12_backOf_5 : decode cX12_backOf 5 = .ok (.iaload, 1) := dget dh_89 (k := 3) rfl
theorem dX12_backOf_6 : decode cX12_backOf 6 = .ok (.aload_n 0, 1) := dget dh_89 (k := 4) rfl
theorem dX12_backOf_7 : decode cX12_backOf 7 = .ok (.iload_n 1, 1) := dget dh_89 (k := 5) rfl
theorem dX12_backOf_8 : decode cX12_backOf 8 = .ok (.iload_n 2, 1) := dget dh_89 (k := 6) rfl
theorem dX12_backOf_9 : decode cX12_backOf 9 = .ok (.invokevirtual 452, 3) := dget dh_89 (k := 7) rfl
theorem dX12_backOf_12 : decode cX12_backOf 12 = .ok (.isub, 1) := dget dh_89 (k := 8) rfl
theorem dX12_backOf_13 : decode cX12_backOf 13 = .ok (.ireturn, 1) := dget dh_89 (k := 9) rfl
def dl_90 : List (Nat × (Instr × Nat)) := [(0, (.iload_n 1, 1)), (1, (.invokestatic 237, 3)), (4, (.ifCond .eq 10, 3)), (7, (.iload_n 2, 1)), (8, (.invokestatic 420, 3)), (11, (.ifCond .ne 5, 3)), (14, (.iconst (-1), 1)), (15, (.ireturn, 1)), (16, (.iconst 0, 1)), (17, (.istore_n 3, 1)), (18, (.iconst 0, 1)), (19, (.istore 4, 2)), (21, (.iload 4, 2)), (23, (.aload_n 0, 1)), (24, (.getfield 417, 3)), (27, (.if_icmp .ge 61, 3)), (30, (.iload_n 3, 1)), (31, (.aload_n 0, 1)), (32, (.getfield 46, 3)), (35, (.bipush 20, 2))]
theorem dh_90 : dchk cX12_byKind dl_90 = true := by decide +kernel
theorem dX12_byKind_0 : decode cX12_byKind 0 = .ok (.iload_n 1, 1) := dget dh_90 (k := 0) rfl
theorem dX12_byKind_1 : decode cX12_byKind 1 = .ok (.invokestatic 237, 3) := dget dh_90 (k := 1) rfl
theorem dX12_byKind_4 : decode cX12_byKind 4 = .ok (.ifCond .eq 10, 3) := dget dh_90 (k := 2) rfl
theorem dX12_byKind_7 : decode cX12_byKind 7 = .ok (.iload_n 2, 1) := dget dh_90 (k := 3) rfl
theorem dX12_byKind_8 : decode cX12_byKind 8 = .ok (.invokestatic 420, 3) := dget dh_90 (k := 4) rfl
theorem dX12_byKind_11 : decode cX12_byKind 11 = .ok (.ifCond .ne 5, 3) := dget dh_90 (k := 5) rfl
theorem dX12_byKind_14 : decode cX12_byKind 14 = .ok (.iconst (-1), 1) := dget dh_90 (k := 6) rfl
theorem dX12_byKind_15 : decode cX12_byKind 15 = .ok (.ireturn, 1) := dget dh_90 (k := 7) rfl
theorem dX12_byKind_16 : decode cX12_byKind 16 = .ok (.iconst 0, 1) := dget dh_90 (k := 8) rfl
theorem dX12_byKind_17 : decode cX12_byKind 17 = .ok (.istore_n 3, 1) := dget dh_90 (k := 9) rfl
theorem dX12_byKind_18 : decode cX12_byKind 18 = .ok (.iconst 0, 1) := dget dh_90 (k := 10) rfl
theorem dX12_byKind_19 : decode cX12_byKind 19 = .ok (.istore 4, 2) := dget dh_90 (k := 11) rfl
theorem dX12_byKind_21 : decode cX12_byKind 21 = .ok (.iload 4, 2) := dget dh_90 (k := 12) rfl
theorem dX12_byKind_23 : decode cX12_byKind 23 = .ok (.aload_n 0, 1) := dget dh_90 (k := 13) rfl
theorem dX12_byKind_24 : decode cX12_byKind 24 = .ok (.getfield 417, 3) := dget dh_90 (k := 14) rfl
theorem dX12_byKind_27 : decode cX12_byKind 27 = .ok (.if_icmp .ge 61, 3) := dget dh_90 (k := 15) rfl
theorem dX12_byKind_30 : decode cX12_byKind 30 = .ok (.iload_n 3, 1) := dget dh_90 (k := 16) rfl
theorem dX12_byKind_31 : decode cX12_byKind 31 = .ok (.aload_n 0, 1) := dget dh_90 (k := 17) rfl
theorem dX12_byKind_32 : decode cX12_byKind 32 = .ok (.getfield 46, 3) := dget dh_90 (k := 18) rfl
theorem dX12_byKind_35 : decode cX12_byKind 35 = .ok (.bipush 20, 2) := dget dh_90 (k := 19) rfl
def dl_91 : List (Nat × (Instr × Nat)) := [(37, (.aload_n 0, 1)), (38, (.getfield 129, 3)), (41, (.iload 4, 2)), (43, (.iaload, 1)), (44, (.imul, 1)), (45, (.aload_n 0, 1)), (46, (.getfield 132, 3)), (49, (.iload 4, 2)), (51, (.iaload, 1)), (52, (.iadd, 1)), (53, (.iaload, 1)), (54, (.iload_n 1, 1)), (55, (.if_icmp .ne 24, 3)), (58, (.aload_n 0, 1)), (59, (.getfield 141, 3)), (62, (.iload 4, 2)), (64, (.iaload, 1)), (65, (.iload_n 2, 1)), (66, (.if_icmp .gt 13, 3)), (69, (.aload_n 0, 1))]
theorem dh_91 : dchk cX12_byKind dl_91 = true := by decide +kernel
theorem dX12_byKind_37 : decode cX12_byKind 37 = .ok (.aload_n 0, 1) := dget dh_91 (k := 0) rfl
theorem dX12_byKind_38 : decode cX12_byKind 38 = .ok (.getfield 129, 3) := dget dh_91 (k := 1) rfl
theorem dX12_byKind_41 : decode cX12_byKind 41 = .ok (.iload 4, 2) := dget dh_91 (k := 2) rfl
theorem dX12_byKind_43 : decode cX12_byKind 43 = .ok (.iaload, 1) := dget dh_91 (k := 3) rfl
theorem dX12_byKind_44 : decode cX12_byKind 44 = .ok (.imul, 1) := dget dh_91 (k := 4) rfl
theorem dX12_byKind_45 : decode cX12_byKind 45 = .ok (.aload_n 0, 1) := dget dh_91 (k := 5) rfl
theorem dX12_byKind_46 : decode cX12_byKind 46 = .ok (.getfield 132, 3) := dget dh_91 (k := 6) rfl
theorem dX12_byKind_49 : decode cX12_byKind 49 = .ok (.iload 4, 2) := dget dh_91 (k := 7) rfl
theorem dX12_byKind_51 : decode cX12_byKind 51 = .ok (.iaload, 1) := dget dh_91 (k := 8) rfl
theorem dX12_byKind_52 : decode cX12_byKind 52 = .ok (.iadd, 1) := dget dh_91 (k := 9) rfl
theorem dX12_byKind_53 : decode cX12_byKind 53 = .ok (.iaload, 1) := dget dh_91 (k := 10) rfl
theorem dX12_byKind_54 : decode cX12_byKind 54 = .ok (.iload_n 1, 1) := dget dh_91 (k := 11) rfl
theorem dX12_byKind_55 : decode cX12_byKind 55 = .ok (.if_icmp .ne 24, 3) := dget dh_91 (k := 12) rfl
theorem dX12_byKind_58 : decode cX12_byKind 58 = .ok (.aload_n 0, 1) := dget dh_91 (k := 13) rfl
theorem dX12_byKind_59 : decode cX12_byKind 59 = .ok (.getfield 141, 3) := dget dh_91 (k := 14) rfl
theorem dX12_byKind_62 : decode cX12_byKind 62 = .ok (.iload 4, 2) := dget dh_91 (k := 15) rfl
theorem dX12_byKind_64 : decode cX12_byKind 64 = .ok (.iaload, 1) := dget dh_91 (k := 16) rfl
theorem dX12_byKind_65 : decode cX12_byKind 65 = .ok (.iload_n 2, 1) := dget dh_91 (k := 17) rfl
theorem dX12_byKind_66 : decode cX12_byKind 66 = .ok (.if_icmp .gt 13, 3) := dget dh_91 (k := 18) rfl
theorem dX12_byKind_69 : decode cX12_byKind 69 = .ok (.aload_n 0, 1) := dget dh_91 (k := 19) rfl
def dl_92 : List (Nat × (Instr × Nat)) := [(70, (.iload 4, 2)), (72, (.iload_n 2, 1)), (73, (.invokevirtual 444, 3)), (76, (.goto 4, 3)), (79, (.iconst 0, 1)), (80, (.iadd, 1)), (81, (.istore_n 3, 1)), (82, (.iinc 4 1, 3)), (85, (.goto (-64), 3)), (88, (.iload_n 3, 1)), (89, (.ireturn, 1))]
theorem dh_92 : dchk cX12_byKind dl_92 = true := by decide +kernel
theorem dX12_byKind_70 : decode cX12_byKind 70 = .ok (.iload 4, 2) := dget dh_92 (k := 0) rfl
theorem dX12_byKind_72 : decode cX12_byKind 72 = .ok (.iload_n 2, 1) := dget dh_92 (k := 1) rfl
theorem dX12_byKind_73 : decode cX12_byKind 73 = .ok (.invokevirtual 444, 3) := dget dh_92 (k := 2) rfl
theorem dX12_byKind_76 : decode cX12_byKind 76 = .ok (.goto 4, 3) := dget dh_92 (k := 3) rfl
theorem dX12_byKind_79 : decode cX12_byKind 79 = .ok (.iconst 0, 1) := dget dh_92 (k := 4) rfl
theorem dX12_byKind_80 : decode cX12_byKind 80 = .ok (.iadd, 1) := dget dh_92 (k := 5) rfl
theorem dX12_byKind_81 : decode cX12_byKind 81 = .ok (.istore_n 3, 1) := dget dh_92 (k := 6) rfl
theorem dX12_byKind_82 : decode cX12_byKind 82 = .ok (.iinc 4 1, 3) := dget dh_92 (k := 7) rfl
theorem dX12_byKind_85 : decode cX12_byKind 85 = .ok (.goto (-64), 3) := dget dh_92 (k := 8) rfl
theorem dX12_byKind_88 : decode cX12_byKind 88 = .ok (.iload_n 3, 1) := dget dh_92 (k := 9) rfl
theorem dX12_byKind_89 : decode cX12_byKind 89 = .ok (.ireturn, 1) := dget dh_92 (k := 10) rfl
def dl_93 : List (Nat × (Instr × Nat)) := [(0, (.aload_n 0, 1)), (1, (.iload_n 1, 1)), (2, (.invokevirtual 249, 3)), (5, (.ifCond .eq 17, 3)), (8, (.iload_n 2, 1)), (9, (.ifCond .lt 13, 3)), (12, (.iload_n 2, 1)), (13, (.aload_n 0, 1)), (14, (.getfield 40, 3)), (17, (.iload_n 1, 1)), (18, (.iaload, 1)), (19, (.if_icmp .lt 5, 3)), (22, (.iconst (-1), 1)), (23, (.ireturn, 1)), (24, (.aload_n 0, 1)), (25, (.iload_n 1, 1)), (26, (.invokevirtual 408, 3)), (29, (.aload_n 0, 1)), (30, (.getfield 126, 3)), (33, (.iload_n 2, 1))]
theorem dh_93 : dchk cX12_isNew dl_93 = true := by decide +kernel
theorem dX12_isNew_0 : decode cX12_isNew 0 = .ok (.aload_n 0, 1) := dget dh_93 (k := 0) rfl
theorem dX12_isNew_1 : decode cX12_isNew 1 = .ok (.iload_n 1, 1) := dget dh_93 (k := 1) rfl
theorem dX12_isNew_2 : decode cX12_isNew 2 = .ok (.invokevirtual 249, 3) := dget dh_93 (k := 2) rfl
theorem dX12_isNew_5 : decode cX12_isNew 5 = .ok (.ifCond .eq 17, 3) := dget dh_93 (k := 3) rfl
theorem dX12_isNew_8 : decode cX12_isNew 8 = .ok (.iload_n 2, 1) := dget dh_93 (k := 4) rfl
theorem dX12_isNew_9 : decode cX12_isNew 9 = .ok (.ifCond .lt 13, 3) := dget dh_93 (k := 5) rfl
theorem dX12_isNew_12 : decode cX12_isNew 12 = .ok (.iload_n 2, 1) := dget dh_93 (k := 6) rfl
theorem dX12_isNew_13 : decode cX12_isNew 13 = .ok (.aload_n 0, 1) := dget dh_93 (k := 7) rfl
theorem dX12_isNew_14 : decode cX12_isNew 14 = .ok (.getfield 40, 3) := dget dh_93 (k := 8) rfl
theorem dX12_isNew_17 : decode cX12_isNew 17 = .ok (.iload_n 1, 1) := dget dh_93 (k := 9) rfl
theorem dX12_isNew_18 : decode cX12_isNew 18 = .ok (.iaload, 1) := dget dh_93 (k := 10) rfl
theorem dX12_isNew_19 : decode cX12_isNew 19 = .ok (.if_icmp .lt 5, 3) := dget dh_93 (k := 11) rfl
theorem dX12_isNew_22 : decode cX12_isNew 22 = .ok (.iconst (-1), 1) := dget dh_93 (k := 12) rfl
theorem dX12_isNew_23 : decode cX12_isNew 23 = .ok (.ireturn, 1) := dget dh_93 (k := 13) rfl
theorem dX12_isNew_24 : decode cX12_isNew 24 = .ok (.aload_n 0, 1) := dget dh_93 (k := 14) rfl
theorem dX12_isNew_25 : decode cX12_isNew 25 = .ok (.iload_n 1, 1) := dget dh_93 (k := 15) rfl
theorem dX12_isNew_26 : decode cX12_isNew 26 = .ok (.invokevirtual 408, 3) := dget dh_93 (k := 16) rfl
theorem dX12_isNew_29 : decode cX12_isNew 29 = .ok (.aload_n 0, 1) := dget dh_93 (k := 17) rfl
theorem dX12_isNew_30 : decode cX12_isNew 30 = .ok (.getfield 126, 3) := dget dh_93 (k := 18) rfl
theorem dX12_isNew_33 : decode cX12_isNew 33 = .ok (.iload_n 2, 1) := dget dh_93 (k := 19) rfl
def dl_94 : List (Nat × (Instr × Nat)) := [(34, (.baload, 1)), (35, (.ifCond .eq 7, 3)), (38, (.iconst 0, 1)), (39, (.goto 4, 3)), (42, (.iconst 1, 1)), (43, (.ireturn, 1))]
theorem dh_94 : dchk cX12_isNew dl_94 = true := by decide +kernel
theorem dX12_isNew_34 : decode cX12_isNew 34 = .ok (.baload, 1) := dget dh_94 (k := 0) rfl
theorem dX12_isNew_35 : decode cX12_isNew 35 = .ok (.ifCond .eq 7, 3) := dget dh_94 (k := 1) rfl
theorem dX12_isNew_38 : decode cX12_isNew 38 = .ok (.iconst 0, 1) := dget dh_94 (k := 2) rfl
theorem dX12_isNew_39 : decode cX12_isNew 39 = .ok (.goto 4, 3) := dget dh_94 (k := 3) rfl
theorem dX12_isNew_42 : decode cX12_isNew 42 = .ok (.iconst 1, 1) := dget dh_94 (k := 4) rfl
theorem dX12_isNew_43 : decode cX12_isNew 43 = .ok (.ireturn, 1) := dget dh_94 (k := 5) rfl
def dl_95 : List (Nat × (Instr × Nat)) := [(0, (.aload_n 0, 1)), (1, (.iload_n 1, 1)), (2, (.iload_n 2, 1)), (3, (.invokevirtual 405, 3)), (6, (.ifCond .eq 38, 3)), (9, (.iload_n 3, 1)), (10, (.iconst 0, 1)), (11, (.bipush 30, 2)), (13, (.invokestatic 241, 3)), (16, (.ifCond .eq 28, 3)), (19, (.aload_n 0, 1)), (20, (.iload_n 1, 1)), (21, (.iload_n 2, 1)), (22, (.aload_n 0, 1)), (23, (.getfield 52, 3)), (26, (.bipush 20, 2)), (28, (.iload_n 1, 1)), (29, (.imul, 1)), (30, (.iload_n 2, 1)), (31, (.iadd, 1))]
theorem dh_95 : dchk cX12_led dl_95 = true := by decide +kernel
theorem dX12_led_0 : decode cX12_led 0 = .ok (.aload_n 0, 1) := dget dh_95 (k := 0) rfl
theorem dX12_led_1 : decode cX12_led 1 = .ok (.iload_n 1, 1) := dget dh_95 (k := 1) rfl
theorem dX12_led_2 : decode cX12_led 2 = .ok (.iload_n 2, 1) := dget dh_95 (k := 2) rfl
theorem dX12_led_3 : decode cX12_led 3 = .ok (.invokevirtual 405, 3) := dget dh_95 (k := 3) rfl
theorem dX12_led_6 : decode cX12_led 6 = .ok (.ifCond .eq 38, 3) := dget dh_95 (k := 4) rfl
theorem dX12_led_9 : decode cX12_led 9 = .ok (.iload_n 3, 1) := dget dh_95 (k := 5) rfl
theorem dX12_led_10 : decode cX12_led 10 = .ok (.iconst 0, 1) := dget dh_95 (k := 6) rfl
theorem dX12_led_11 : decode cX12_led 11 = .ok (.bipush 30, 2) := dget dh_95 (k := 7) rfl
theorem dX12_led_13 : decode cX12_led 13 = .ok (.invokestatic 241, 3) := dget dh_95 (k := 8) rfl
theorem dX12_led_16 : decode cX12_led 16 = .ok (.ifCond .eq 28, 3) := dget dh_95 (k := 9) rfl
theorem dX12_led_19 : decode cX12_led 19 = .ok (.aload_n 0, 1) := dget dh_95 (k := 10) rfl
theorem dX12_led_20 : decode cX12_led 20 = .ok (.iload_n 1, 1) := dget dh_95 (k := 11) rfl
theorem dX12_led_21 : decode cX12_led 21 = .ok (.iload_n 2, 1) := dget dh_95 (k := 12) rfl
theorem dX12_led_22 : decode cX12_led 22 = .ok (.aload_n 0, 1) := dget dh_95 (k := 13) rfl
theorem dX12_led_23 : decode cX12_led 23 = .ok (.getfield 52, 3) := dget dh_95 (k := 14) rfl
theorem dX12_led_26 : decode cX12_led 26 = .ok (.bipush 20, 2) := dget dh_95 (k := 15) rfl
theorem dX12_led_28 : decode cX12_led 28 = .ok (.iload_n 1, 1) := dget dh_95 (k := 16) rfl
theorem dX12_led_29 : decode cX12_led 29 = .ok (.imul, 1) := dget dh_95 (k := 17) rfl
theorem dX12_led_30 : decode cX12_led 30 = .ok (.iload_n 2, 1) := dget dh_95 (k := 18) rfl
theorem dX12_led_31 : decode cX12_led 31 = .ok (.iadd, 1) := dget dh_95 (k := 19) rfl
def dl_96 : List (Nat × (Instr × Nat)) := [(32, (.iaload, 1)), (33, (.bipush 12, 2)), (35, (.iload_n 3, 1)), (36, (.imul, 1)), (37, (.iadd, 1)), (38, (.invokevirtual 402, 3)), (41, (.goto 4, 3)), (44, (.iconst (-1), 1)), (45, (.ireturn, 1))]
theorem dh_96 : dchk cX12_led dl_96 = true := by decide +kernel
theorem dX12_led_32 : decode cX12_led 32 = .ok (.iaload, 1) := dget dh_96 (k := 0) rfl
theorem dX12_led_33 : decode cX12_led 33 = .ok (.bipush 12, 2) := dget dh_96 (k := 1) rfl
theorem dX12_led_35 : decode cX12_led 35 = .ok (.iload_n 3, 1) := dget dh_96 (k := 2) rfl
theorem dX12_led_36 : decode cX12_led 36 = .ok (.imul, 1) := dget dh_96 (k := 3) rfl
theorem dX12_led_37 : decode cX12_led 37 = .ok (.iadd, 1) := dget dh_96 (k := 4) rfl
theorem dX12_led_38 : decode cX12_led 38 = .ok (.invokevirtual 402, 3) := dget dh_96 (k := 5) rfl
theorem dX12_led_41 : decode cX12_led 41 = .ok (.goto 4, 3) := dget dh_96 (k := 6) rfl
theorem dX12_led_44 : decode cX12_led 44 = .ok (.iconst (-1), 1) := dget dh_96 (k := 7) rfl
theorem dX12_led_45 : decode cX12_led 45 = .ok (.ireturn, 1) := dget dh_96 (k := 8) rfl
def dl_97 : List (Nat × (Instr × Nat)) := [(0, (.aload_n 0, 1)), (1, (.iload_n 1, 1)), (2, (.iload_n 2, 1)), (3, (.invokevirtual 447, 3)), (6, (.istore_n 3, 1)), (7, (.iconst 0, 1)), (8, (.istore 4, 2)), (10, (.iload 4, 2)), (12, (.iconst 3, 1)), (13, (.if_icmp .ge 23, 3)), (16, (.iload_n 3, 1)), (17, (.aload_n 0, 1)), (18, (.getfield 34, 3)), (21, (.iconst 3, 1)), (22, (.iload_n 1, 1)), (23, (.imul, 1)), (24, (.iload 4, 2)), (26, (.iadd, 1)), (27, (.iaload, 1)), (28, (.iadd, 1))]
theorem dh_97 : dchk cX12_ownerGets dl_97 = true := by decide +kernel
theorem dX12_ownerGets_0 : decode cX12_ownerGets 0 = .ok (.aload_n 0, 1) := dget dh_97 (k := 0) rfl
theorem dX12_ownerGets_1 : decode cX12_ownerGets 1 = .ok (.iload_n 1, 1) := dget dh_97 (k := 1) rfl
theorem dX12_ownerGets_2 : decode cX12_ownerGets 2 = .ok (.iload_n 2, 1) := dget dh_97 (k := 2) rfl
theorem dX12_ownerGets_3 : decode cX12_ownerGets 3 = .ok (.invokevirtual 447, 3) := dget dh_97 (k := 3) rfl
theorem dX12_ownerGets_6 : decode cX12_ownerGets 6 = .ok (.istore_n 3, 1) := dget dh_97 (k := 4) rfl
theorem dX12_ownerGets_7 : decode cX12_ownerGets 7 = .ok (.iconst 0, 1) := dget dh_97 (k := 5) rfl
theorem dX12_ownerGets_8 : decode cX12_ownerGets 8 = .ok (.istore 4, 2) := dget dh_97 (k := 6) rfl
theorem dX12_ownerGets_10 : decode cX12_ownerGets 10 = .ok (.iload 4, 2) := dget dh_97 (k := 7) rfl
theorem dX12_ownerGets_12 : decode cX12_ownerGets 12 = .ok (.iconst 3, 1) := dget dh_97 (k := 8) rfl
theorem dX12_ownerGets_13 : decode cX12_ownerGets 13 = .ok (.if_icmp .ge 23, 3) := dget dh_97 (k := 9) rfl
theorem dX12_ownerGets_16 : decode cX12_ownerGets 16 = .ok (.iload_n 3, 1) := dget dh_97 (k := 10) rfl
theorem dX12_ownerGets_17 : decode cX12_ownerGets 17 = .ok (.aload_n 0, 1) := dget dh_97 (k := 11) rfl
theorem dX12_ownerGets_18 : decode cX12_ownerGets 18 = .ok (.getfield 34, 3) := dget dh_97 (k := 12) rfl
theorem dX12_ownerGets_21 : decode cX12_ownerGets 21 = .ok (.iconst 3, 1) := dget dh_97 (k := 13) rfl
theorem dX12_ownerGets_22 : decode cX12_ownerGets 22 = .ok (.iload_n 1, 1) := dget dh_97 (k := 14) rfl
theorem dX12_ownerGets_23 : decode cX12_ownerGets 23 = .ok (.imul, 1) := dget dh_97 (k := 15) rfl
theorem dX12_ownerGets_24 : decode cX12_ownerGets 24 = .ok (.iload 4, 2) := dget dh_97 (k := 16) rfl
theorem dX12_ownerGets_26 : decode cX12_ownerGets 26 = .ok (.iadd, 1) := dget dh_97 (k := 17) rfl
theorem dX12_ownerGets_27 : decode cX12_ownerGets 27 = .ok (.iaload, 1) := dget dh_97 (k := 18) rfl
theorem dX12_ownerGets_28 : decode cX12_ownerGets 28 = .ok (.iadd, 1) := dget dh_97 (k := 19) rfl
def dl_98 : List (Nat × (Instr × Nat)) := [(29, (.istore_n 3, 1)), (30, (.iinc 4 1, 3)), (33, (.goto (-23), 3)), (36, (.iload_n 3, 1)), (37, (.aload_n 0, 1)), (38, (.getfield 22, 3)), (41, (.iload_n 1, 1)), (42, (.iaload, 1)), (43, (.if_icmp .ge 7, 3)), (46, (.iload_n 3, 1)), (47, (.goto 9, 3)), (50, (.aload_n 0, 1)), (51, (.getfield 22, 3)), (54, (.iload_n 1, 1)), (55, (.iaload, 1)), (56, (.ireturn, 1))]
theorem dh_98 : dchk cX12_ownerGets dl_98 = true := by decide +kernel
theorem dX12_ownerGets_29 : decode cX12_ownerGets 29 = .ok (.istore_n 3, 1) := dget dh_98 (k := 0) rfl
theorem dX12_ownerGets_30 : decode cX12_ownerGets 30 = .ok (.iinc 4 1, 3) := dget dh_98 (k := 1) rfl
theorem dX12_ownerGets_33 : decode cX12_ownerGets 33 = .ok (.goto (-23), 3) := dget dh_98 (k := 2) rfl
theorem dX12_ownerGets_36 : decode cX12_ownerGets 36 = .ok (.iload_n 3, 1) := dget dh_98 (k := 3) rfl
theorem dX12_ownerGets_37 : decode cX12_ownerGets 37 = .ok (.aload_n 0, 1) := dget dh_98 (k := 4) rfl
theorem dX12_ownerGets_38 : decode cX12_ownerGets 38 = .ok (.getfield 22, 3) := dget dh_98 (k := 5) rfl
theorem dX12_ownerGets_41 : decode cX12_ownerGets 41 = .ok (.iload_n 1, 1) := dget dh_98 (k := 6) rfl
theorem dX12_ownerGets_42 : decode cX12_ownerGets 42 = .ok (.iaload, 1) := dget dh_98 (k := 7) rfl
theorem dX12_ownerGets_43 : decode cX12_ownerGets 43 = .ok (.if_icmp .ge 7, 3) := dget dh_98 (k := 8) rfl
theorem dX12_ownerGets_46 : decode cX12_ownerGets 46 = .ok (.iload_n 3, 1) := dget dh_98 (k := 9) rfl
theorem dX12_ownerGets_47 : decode cX12_ownerGets 47 = .ok (.goto 9, 3) := dget dh_98 (k := 10) rfl
theorem dX12_ownerGets_50 : decode cX12_ownerGets 50 = .ok (.aload_n 0, 1) := dget dh_98 (k := 11) rfl
theorem dX12_ownerGets_51 : decode cX12_ownerGets 51 = .ok (.getfield 22, 3) := dget dh_98 (k := 12) rfl
theorem dX12_ownerGets_54 : decode cX12_ownerGets 54 = .ok (.iload_n 1, 1) := dget dh_98 (k := 13) rfl
theorem dX12_ownerGets_55 : decode cX12_ownerGets 55 = .ok (.iaload, 1) := dget dh_98 (k := 14) rfl
theorem dX12_ownerGets_56 : decode cX12_ownerGets 56 = .ok (.ireturn, 1) := dget dh_98 (k := 15) rfl
def dl_99 : List (Nat × (Instr × Nat)) := [(0, (.aload_n 0, 1)), (1, (.iload_n 1, 1)), (2, (.invokevirtual 429, 3)), (5, (.iload_n 2, 1)), (6, (.aload_n 0, 1)), (7, (.bipush 112, 2)), (9, (.bipush 100, 2)), (11, (.bipush 100, 2)), (13, (.invokevirtual 396, 3)), (16, (.imul, 1)), (17, (.bipush 100, 2)), (19, (.idiv, 1)), (20, (.istore 4, 2)), (22, (.aload_n 0, 1)), (23, (.iload_n 3, 1)), (24, (.iload 4, 2)), (26, (.aload_n 0, 1)), (27, (.getfield 144, 3)), (30, (.iload_n 1, 1)), (31, (.iaload, 1))]
theorem dh_99 : dchk cX12_partOfLost dl_99 = true := by decide +kernel
theorem dX12_partOfLost_0 : decode cX12_partOfLost 0 = .ok (.aload_n 0, 1) := dget dh_99 (k := 0) rfl
theorem dX12_partOfLost_1 : decode cX12_partOfLost 1 = .ok (.iload_n 1, 1) := dget dh_99 (k := 1) rfl
theorem dX12_partOfLost_2 : decode cX12_partOfLost 2 = .ok (.invokevirtual 429, 3) := dget dh_99 (k := 2) rfl
theorem dX12_partOfLost_5 : decode cX12_partOfLost 5 = .ok (.iload_n 2, 1) := dget dh_99 (k := 3) rfl
theorem dX12_partOfLost_6 : decode cX12_partOfLost 6 = .ok (.aload_n 0, 1) := dget dh_99 (k := 4) rfl
theorem dX12_partOfLost_7 : decode cX12_partOfLost 7 = .ok (.bipush 112, 2) := dget dh_99 (k := 5) rfl
theorem dX12_partOfLost_9 : decode cX12_partOfLost 9 = .ok (.bipush 100, 2) := dget dh_99 (k := 6) rfl
theorem dX12_partOfLost_11 : decode cX12_partOfLost 11 = .ok (.bipush 100, 2) := dget dh_99 (k := 7) rfl
theorem dX12_partOfLost_13 : decode cX12_partOfLost 13 = .ok (.invokevirtual 396, 3) := dget dh_99 (k := 8) rfl
theorem dX12_partOfLost_16 : decode cX12_partOfLost 16 = .ok (.imul, 1) := dget dh_99 (k := 9) rfl
theorem dX12_partOfLost_17 : decode cX12_partOfLost 17 = .ok (.bipush 100, 2) := dget dh_99 (k := 10) rfl
theorem dX12_partOfLost_19 : decode cX12_partOfLost 19 = .ok (.idiv, 1) := dget dh_99 (k := 11) rfl
theorem dX12_partOfLost_20 : decode cX12_partOfLost 20 = .ok (.istore 4, 2) := dget dh_99 (k := 12) rfl
theorem dX12_partOfLost_22 : decode cX12_partOfLost 22 = .ok (.aload_n 0, 1) := dget dh_99 (k := 13) rfl
theorem dX12_partOfLost_23 : decode cX12_partOfLost 23 = .ok (.iload_n 3, 1) := dget dh_99 (k := 14) rfl
theorem dX12_partOfLost_24 : decode cX12_partOfLost 24 = .ok (.iload 4, 2) := dget dh_99 (k := 15) rfl
theorem dX12_partOfLost_26 : decode cX12_partOfLost 26 = .ok (.aload_n 0, 1) := dget dh_99 (k := 16) rfl
theorem dX12_partOfLost_27 : decode cX12_partOfLost 27 = .ok (.getfield 144, 3) := dget dh_99 (k := 17) rfl
theorem dX12_partOfLost_30 : decode cX12_partOfLost 30 = .ok (.iload_n 1, 1) := dget dh_99 (k := 18) rfl
theorem dX12_partOfLost_31 : decode cX12_partOfLost 31 = .ok (.iaload, 1) := dget dh_99 (k := 19) rfl
def dl_100 : List (Nat × (Instr × Nat)) := [(32, (.if_icmp .ge 12, 3)), (35, (.aload_n 0, 1)), (36, (.getfield 144, 3)), (39, (.iload_n 1, 1)), (40, (.iaload, 1)), (41, (.goto 5, 3)), (44, (.iload 4, 2)), (46, (.invokevirtual 432, 3)), (49, (.ireturn, 1))]
theorem dh_100 : dchk cX12_partOfLost dl_100 = true := by decide +kernel
theorem dX12_partOfLost_32 : decode cX12_partOfLost 32 = .ok (.if_icmp .ge 12, 3) := dget dh_100 (k := 0) rfl
theorem dX12_partOfLost_35 : decode cX12_partOfLost 35 = .ok (.aload_n 0, 1) := dget dh_100 (k := 1) rfl
theorem dX12_partOfLost_36 : decode cX12_partOfLost 36 = .ok (.getfield 144, 3) := dget dh_100 (k := 2) rfl
theorem dX12_partOfLost_39 : decode cX12_partOfLost 39 = .ok (.iload_n 1, 1) := dget dh_100 (k := 3) rfl
theorem dX12_partOfLost_40 : decode cX12_partOfLost 40 = .ok (.iaload, 1) := dget dh_100 (k := 4) rfl
theorem dX12_partOfLost_41 : decode cX12_partOfLost 41 = .ok (.goto 5, 3) := dget dh_100 (k := 5) rfl
theorem dX12_partOfLost_44 : decode cX12_partOfLost 44 = .ok (.iload 4, 2) := dget dh_100 (k := 6) rfl
theorem dX12_partOfLost_46 : decode cX12_partOfLost 46 = .ok (.invokevirtual 432, 3) := dget dh_100 (k := 7) rfl
theorem dX12_partOfLost_49 : decode cX12_partOfLost 49 = .ok (.ireturn, 1) := dget dh_100 (k := 8) rfl
def dl_101 : List (Nat × (Instr × Nat)) := [(0, (.aload_n 0, 1)), (1, (.iload_n 1, 1)), (2, (.invokevirtual 367, 3)), (5, (.aload_n 0, 1)), (6, (.getfield 64, 3)), (9, (.iload_n 1, 1)), (10, (.baload, 1)), (11, (.ifCond .eq 7, 3)), (14, (.iconst 0, 1)), (15, (.goto 19, 3)), (18, (.aload_n 0, 1)), (19, (.bipush 116, 2)), (21, (.bipush 9, 2)), (23, (.iconst 0, 1)), (24, (.invokevirtual 396, 3)), (27, (.aload_n 0, 1)), (28, (.getfield 22, 3)), (31, (.iload_n 1, 1)), (32, (.iaload, 1)), (33, (.imul, 1))]
theorem dh_101 : dchk cX12_penaltyOf dl_101 = true := by decide +kernel
theorem dX12_penaltyOf_0 : decode cX12_penaltyOf 0 = .ok (.aload_n 0, 1) := dget dh_101 (k := 0) rfl
theorem dX12_penaltyOf_1 : decode cX12_penaltyOf 1 = .ok (.iload_n 1, 1) := dget dh_101 (k := 1) rfl
theorem dX12_penaltyOf_2 : decode cX12_penaltyOf 2 = .ok (.invokevirtual 367, 3) := dget dh_101 (k := 2) rfl
theorem dX12_penaltyOf_5 : decode cX12_penaltyOf 5 = .ok (.aload_n 0, 1) := dget dh_101 (k := 3) rfl
theorem dX12_penaltyOf_6 : decode cX12_penaltyOf 6 = .ok (.getfield 64, 3) := dget dh_101 (k := 4) rfl
theorem dX12_penaltyOf_9 : decode cX12_penaltyOf 9 = .ok (.iload_n 1, 1) := dget dh_101 (k := 5) rfl
theorem dX12_penaltyOf_10 : decode cX12_penaltyOf 10 = .ok (.baload, 1) := dget dh_101 (k := 6) rfl
theorem dX12_penaltyOf_11 : decode cX12_penaltyOf 11 = .ok (.ifCond .eq 7, 3) := dget dh_101 (k := 7) rfl
theorem dX12_penaltyOf_14 : decode cX12_penaltyOf 14 = .ok (.iconst 0, 1) := dget dh_101 (k := 8) rfl
theorem dX12_penaltyOf_15 : decode cX12_penaltyOf 15 = .ok (.goto 19, 3) := dget dh_101 (k := 9) rfl
theorem dX12_penaltyOf_18 : decode cX12_penaltyOf 18 = .ok (.aload_n 0, 1) := dget dh_101 (k := 10) rfl
theorem dX12_penaltyOf_19 : decode cX12_penaltyOf 19 = .ok (.bipush 116, 2) := dget dh_101 (k := 11) rfl
theorem dX12_penaltyOf_21 : decode cX12_penaltyOf 21 = .ok (.bipush 9, 2) := dget dh_101 (k := 12) rfl
theorem dX12_penaltyOf_23 : decode cX12_penaltyOf 23 = .ok (.iconst 0, 1) := dget dh_101 (k := 13) rfl
theorem dX12_penaltyOf_24 : decode cX12_penaltyOf 24 = .ok (.invokevirtual 396, 3) := dget dh_101 (k := 14) rfl
theorem dX12_penaltyOf_27 : decode cX12_penaltyOf 27 = .ok (.aload_n 0, 1) := dget dh_101 (k := 15) rfl
theorem dX12_penaltyOf_28 : decode cX12_penaltyOf 28 = .ok (.getfield 22, 3) := dget dh_101 (k := 16) rfl
theorem dX12_penaltyOf_31 : decode cX12_penaltyOf 31 = .ok (.iload_n 1, 1) := dget dh_101 (k := 17) rfl
theorem dX12_penaltyOf_32 : decode cX12_penaltyOf 32 = .ok (.iaload, 1) := dget dh_101 (k := 18) rfl
theorem dX12_penaltyOf_33 : decode cX12_penaltyOf 33 = .ok (.imul, 1) := dget dh_101 (k := 19) rfl
def dl_102 : List (Nat × (Instr × Nat)) := [(34, (.ireturn, 1))]
theorem dh_102 : dchk cX12_penaltyOf dl_102 = true := by decide +kernel
theorem dX12_penaltyOf_34 : decode cX12_penaltyOf 34 = .ok (.ireturn, 1) := dget dh_102 (k := 0) rfl
def dl_103 : List (Nat × (Instr × Nat)) := [(0, (.aload_n 0, 1)), (1, (.iload_n 1, 1)), (2, (.iload_n 2, 1)), (3, (.invokevirtual 405, 3)), (6, (.ifCond .eq 12, 3)), (9, (.iload_n 3, 1)), (10, (.iconst 0, 1)), (11, (.iconst 4, 1)), (12, (.invokestatic 241, 3)), (15, (.ifCond .ne 5, 3)), (18, (.iconst (-1), 1)), (19, (.ireturn, 1)), (20, (.aload_n 0, 1)), (21, (.iload_n 1, 1)), (22, (.invokevirtual 408, 3)), (25, (.iload_n 3, 1)), (26, (.tableswitch 80 0 3 #[30, 53, 60, 67], 30)), (56, (.aload_n 0, 1)), (57, (.getfield 111, 3)), (60, (.iload_n 2, 1))]
theorem dh_103 : dchk cX12_thing dl_103 = true := by decide +kernel
theorem dX12_thing_0 : decode cX12_thing 0 = .ok (.aload_n 0, 1) := dget dh_103 (k := 0) rfl
theorem dX12_thing_1 : decode cX12_thing 1 = .ok (.iload_n 1, 1) := dget dh_103 (k := 1) rfl
theorem dX12_thing_2 : decode cX12_thing 2 = .ok (.iload_n 2, 1) := dget dh_103 (k := 2) rfl
theorem dX12_thing_3 : decode cX12_thing 3 = .ok (.invokevirtual 405, 3) := dget dh_103 (k := 3) rfl
theorem dX12_thing_6 : decode cX12_thing 6 = .ok (.ifCond .eq 12, 3) := dget dh_103 (k := 4) rfl
theorem dX12_thing_9 : decode cX12_thing 9 = .ok (.iload_n 3, 1) := dget dh_103 (k := 5) rfl
theorem dX12_thing_10 : decode cX12_thing 10 = .ok (.iconst 0, 1) := dget dh_103 (k := 6) rfl
theorem dX12_thing_11 : decode cX12_thing 11 = .ok (.iconst 4, 1) := dget dh_103 (k := 7) rfl
theorem dX12_thing_12 : decode cX12_thing 12 = .ok (.invokestatic 241, 3) := dget dh_103 (k := 8) rfl
theorem dX12_thing_15 : decode cX12_thing 15 = .ok (.ifCond .ne 5, 3) := dget dh_103 (k := 9) rfl
theorem dX12_thing_18 : decode cX12_thing 18 = .ok (.iconst (-1), 1) := dget dh_103 (k := 10) rfl
theorem dX12_thing_19 : decode cX12_thing 19 = .ok (.ireturn, 1) := dget dh_103 (k := 11) rfl
theorem dX12_thing_20 : decode cX12_thing 20 = .ok (.aload_n 0, 1) := dget dh_103 (k := 12) rfl
theorem dX12_thing_21 : decode cX12_thing 21 = .ok (.iload_n 1, 1) := dget dh_103 (k := 13) rfl
theorem dX12_thing_22 : decode cX12_thing 22 = .ok (.invokevirtual 408, 3) := dget dh_103 (k := 14) rfl
theorem dX12_thing_25 : decode cX12_thing 25 = .ok (.iload_n 3, 1) := dget dh_103 (k := 15) rfl
theorem dX12_thing_26 : decode cX12_thing 26 = .ok (.tableswitch 80 0 3 #[30, 53, 60, 67], 30) := dget dh_103 (k := 16) rfl
theorem dX12_thing_56 : decode cX12_thing 56 = .ok (.aload_n 0, 1) := dget dh_103 (k := 17) rfl
theorem dX12_thing_57 : decode cX12_thing 57 = .ok (.getfield 111, 3) := dget dh_103 (k := 18) rfl
theorem dX12_thing_60 : decode cX12_thing 60 = .ok (.iload_n 2, 1) := dget dh_103 (k := 19) rfl
def dl_104 : List (Nat × (Instr × Nat)) := [(61, (.iaload, 1)), (62, (.bipush 99, 2)), (64, (.if_icmp .ne 8, 3)), (67, (.bipush (-2), 2)), (69, (.goto 9, 3)), (72, (.aload_n 0, 1)), (73, (.getfield 111, 3)), (76, (.iload_n 2, 1)), (77, (.iaload, 1)), (78, (.ireturn, 1)), (79, (.aload_n 0, 1)), (80, (.iload_n 1, 1)), (81, (.iload_n 2, 1)), (82, (.invokevirtual 411, 3)), (85, (.ireturn, 1)), (86, (.aload_n 0, 1)), (87, (.iload_n 1, 1)), (88, (.iload_n 2, 1)), (89, (.invokevirtual 399, 3)), (92, (.ireturn, 1))]
theorem dh_104 : dchk cX12_thing dl_104 = true := by decide +kernel
theorem dX12_thing_61 : decode cX12_thing 61 = .ok (.iaload, 1) := dget dh_104 (k := 0) rfl
theorem dX12_thing_62 : decode cX12_thing 62 = .ok (.bipush 99, 2) := dget dh_104 (k := 1) rfl
theorem dX12_thing_64 : decode cX12_thing 64 = .ok (.if_icmp .ne 8, 3) := dget dh_104 (k := 2) rfl
theorem dX12_thing_67 : decode cX12_thing 67 = .ok (.bipush (-2), 2) := dget dh_104 (k := 3) rfl
theorem dX12_thing_69 : decode cX12_thing 69 = .ok (.goto 9, 3) := dget dh_104 (k := 4) rfl
theorem dX12_thing_72 : decode cX12_thing 72 = .ok (.aload_n 0, 1) := dget dh_104 (k := 5) rfl
theorem dX12_thing_73 : decode cX12_thing 73 = .ok (.getfield 111, 3) := dget dh_104 (k := 6) rfl
theorem dX12_thing_76 : decode cX12_thing 76 = .ok (.iload_n 2, 1) := dget dh_104 (k := 7) rfl
theorem dX12_thing_77 : decode cX12_thing 77 = .ok (.iaload, 1) := dget dh_104 (k := 8) rfl
theorem dX12_thing_78 : decode cX12_thing 78 = .ok (.ireturn, 1) := dget dh_104 (k := 9) rfl
theorem dX12_thing_79 : decode cX12_thing 79 = .ok (.aload_n 0, 1) := dget dh_104 (k := 10) rfl
theorem dX12_thing_80 : decode cX12_thing 80 = .ok (.iload_n 1, 1) := dget dh_104 (k := 11) rfl
theorem dX12_thing_81 : decode cX12_thing 81 = .ok (.iload_n 2, 1) := dget dh_104 (k := 12) rfl
theorem dX12_thing_82 : decode cX12_thing 82 = .ok (.invokevirtual 411, 3) := dget dh_104 (k := 13) rfl
theorem dX12_thing_85 : decode cX12_thing 85 = .ok (.ireturn, 1) := dget dh_104 (k := 14) rfl
theorem dX12_thing_86 : decode cX12_thing 86 = .ok (.aload_n 0, 1) := dget dh_104 (k := 15) rfl
theorem dX12_thing_87 : decode cX12_thing 87 = .ok (.iload_n 1, 1) := dget dh_104 (k := 16) rfl
theorem dX12_thing_88 : decode cX12_thing 88 = .ok (.iload_n 2, 1) := dget dh_104 (k := 17) rfl
theorem dX12_thing_89 : decode cX12_thing 89 = .ok (.invokevirtual 399, 3) := dget dh_104 (k := 18) rfl
theorem dX12_thing_92 : decode cX12_thing 92 = .ok (.ireturn, 1) := dget dh_104 (k := 19) rfl
def dl_105 : List (Nat × (Instr × Nat)) := [(93, (.aload_n 0, 1)), (94, (.iload_n 1, 1)), (95, (.iload_n 2, 1)), (96, (.aload_n 0, 1)), (97, (.iload_n 1, 1)), (98, (.iload_n 2, 1)), (99, (.invokevirtual 373, 3)), (102, (.invokevirtual 402, 3)), (105, (.ireturn, 1)), (106, (.aload_n 0, 1)), (107, (.iload_n 1, 1)), (108, (.iload_n 2, 1)), (109, (.invokevirtual 414, 3)), (112, (.ireturn, 1))]
theorem dh_105 : dchk cX12_thing dl_105 = true := by decide +kernel
theorem dX12_thing_93 : decode cX12_thing 93 = .ok (.aload_n 0, 1) := dget dh_105 (k := 0) rfl
theorem dX12_thing_94 : decode cX12_thing 94 = .ok (.iload_n 1, 1) := dget dh_105 (k := 1) rfl
theorem dX12_thing_95 : decode cX12_thing 95 = .ok (.iload_n 2, 1) := dget dh_105 (k := 2) rfl
theorem dX12_thing_96 : decode cX12_thing 96 = .ok (.aload_n 0, 1) := dget dh_105 (k := 3) rfl
theorem dX12_thing_97 : decode cX12_thing 97 = .ok (.iload_n 1, 1) := dget dh_105 (k := 4) rfl
theorem dX12_thing_98 : decode cX12_thing 98 = .ok (.iload_n 2, 1) := dget dh_105 (k := 5) rfl
theorem dX12_thing_99 : decode cX12_thing 99 = .ok (.invokevirtual 373, 3) := dget dh_105 (k := 6) rfl
theorem dX12_thing_102 : decode cX12_thing 102 = .ok (.invokevirtual 402, 3) := dget dh_105 (k := 7) rfl
theorem dX12_thing_105 : decode cX12_thing 105 = .ok (.ireturn, 1) := dget dh_105 (k := 8) rfl
theorem dX12_thing_106 : decode cX12_thing 106 = .ok (.aload_n 0, 1) := dget dh_105 (k := 9) rfl
theorem dX12_thing_107 : decode cX12_thing 107 = .ok (.iload_n 1, 1) := dget dh_105 (k := 10) rfl
theorem dX12_thing_108 : decode cX12_thing 108 = .ok (.iload_n 2, 1) := dget dh_105 (k := 11) rfl
theorem dX12_thing_109 : decode cX12_thing 109 = .ok (.invokevirtual 414, 3) := dget dh_105 (k := 12) rfl
theorem dX12_thing_112 : decode cX12_thing 112 = .ok (.ireturn, 1) := dget dh_105 (k := 13) rfl
set_option maxHeartbeats 4000000 in
set_option maxRecDepth 100000 in
theorem c_X12_thing (l : Launch) (D : va_G) (cy : Nat → ClassId) (a : Nat → Nat) (i : Nat → Int32) (r : Nat → Nat → Int32) (rl : Nat → Int64) (p0 p1 p2 : Int32) (sz : Nat) (hRi : mRi i) (hRr : mRr r) (hE : mE i r) : Met l yX12_thing (Cond.code yX12_thing cX12_thing 4 (some .int) :: gT) { frames := 6, cells := 0, slots := 0, locals := 145 } (va_Pc [.ref (a 0), .int p0, .int p1, .int p2] (rQ D cy (mW cy a i r rl) sz)) (va_Qi (fun (z : Int32) (u : Nat → Nat → Int32) => mRr u ∧ mEr [32, 33, 34, 35, 36, 37, 38, 39] r u ∧ True) (fun (u : Nat → Nat → Int32) t => va_P D vwCl (mW cy a i u rl) t.heap ∧ va_K D vwCl (vT cy) t ∧ va_D (va_A (mW cy a i r rl) sz) (mW cy a i u rl)) (va_A (mW cy a i r rl) sz)) 0 0 (va_A (mW cy a i r rl) sz) := by
  refine Met.ofQ (cc := cX12_thing) (maxL := 4) (ret := (some .int)) (by decide) rfl ?_
  intro p e s m args below meth c s₁ B hml hv Q hQ
  obtain ⟨rfl, hsz, hP, hK, hD0⟩ := hv
  have hx := B.exec
  have hb := B.bytes
  have hr := B.returns
  have hlocks := B.notSynchronized
  have hT : ∀ w ∈ gT, w.before _ s = true := fun w h => atoms_spec (ws := (Cond.code yX12_thing cX12_thing 4 (some .int) :: gT)) B.pre w (List.mem_cons_of_mem _ h)
  have hown : s.vm.findClass RX12 = some m.cls := findClass_of_methodNamed B.named
  subst hsz
  have hD := hD0.self (sz := s.heap.size)
  generalize hAe : va_A (mW cy a i r rl) s.heap.size = A at hD hQ
  have hA : ∀ q : Nat, s.heap.size ≤ q → A q := fun q h => by rw [← hAe]; exact Or.inr h
  have hS : va_S A s.heap s.heap [] := va_S.rf
  have hl := lv_entry ([.ref (a 0), .int p0, .int p1, .int p2]) (n := 4) (Nat.le_of_ble_eq_true rfl)
  rw [lg_entry_eq]
  generalize (lg_sl ([.ref (a 0), .int p0, .int p1, .int p2]) ++ List.replicate (4 - (lg_sl ([.ref (a 0), .int p0, .int p1, .int p2])).length) Slot.unset).toArray = ls at hl ⊢
  have hl : lv_has ls 4 [(0, .ref (a 0)), (1, .int p0), (2, .int p1), (3, .int p2)] := hl
  have hEi : mEi [23, 24, 25, 26, 27, 28, 29, 30, 60] i i := Ei_rf
  have hEr : mEr [32, 33, 34, 35, 36, 37, 38, 39] r r := Er_rf
  refine lv_aload_n hx hb dX12_thing_0 rfl (lv_at hl 0 rfl) ?_
  refine lv_iload_n hx hb dX12_thing_1 rfl (lv_at hl 1 rfl) ?_
  refine lv_iload_n hx hb dX12_thing_2 rfl (lv_at hl 2 rfl) ?_
  refine vp_callSi (W.runV (As := [.int p0, .int p1]) (rest := []) ⟨hx, hb, hml, hown, hT⟩ (c_X12_isFirst l D cy a i r rl p0 p1 hRi hRr) (cwV 2 hT (gV t_109 t_110 t_111 t_112 t_6) rfl rfl rfl (by decide +kernel) ⟨Nat.le_of_ble_eq_true rfl, Nat.le_of_ble_eq_true rfl⟩) (rP_v hP hK (va_recv hK hP (ci := 12) (q0 := 0) rfl rfl)) rfl rfl hl.1 rfl (lv_room (Nat.le_of_ble_eq_true rfl)) dX12_thing_3 ⟨Nat.le_of_ble_eq_true rfl, Nat.le_of_ble_eq_true rfl⟩) (fun r_1 hr_1 => ?_)
  have hg_2 : 0 ≤ (i 0).toInt ∧ (i 0).toInt ≤ 6 := hRi 0
  have hgrr_1_0 : 0 ≤ (r 10 p0.toNatClampNeg).toInt ∧ (r 10 p0.toNatClampNeg).toInt ≤ 20 := hRr 10 _
  have hr_1 : BR r_1 ((0 ≤ p0.toInt ∧ p0.toInt < (i 0).toInt) ∧ 0 ≤ p1.toInt ∧ p1.toInt < (r 10 p0.toNatClampNeg).toInt) 1 0 := hr_1
  rcases hr_1 with ⟨rfl, h_3⟩ | ⟨rfl, h_3⟩
  · skip
    refine lv_if_eq (tgt := 18) hx hb dX12_thing_6 (by decide) (fun c_4 => absurd c_4 (by decide)) (fun c_4 => ?_)
    refine lv_iload_n hx hb dX12_thing_9 rfl (lv_at hl 3 rfl) ?_
    refine lv_iconst (v := 0) hx hb dX12_thing_10 (by decide) ?_
    refine lv_iconst (v := 4) hx hb dX12_thing_11 (by decide) ?_
    refine vp_callSi (W.runS (As := [.int p2, .int 0, .int 4]) (rest := []) ⟨hx, hb, hml, hown, hT⟩ (c_X12_in l p2 0 4) (va_cwS 3 hT (gS t_113 t_114 t_115 t_6) rfl rfl rfl (by decide +kernel) ⟨Nat.le_of_ble_eq_true rfl, Nat.le_of_ble_eq_true rfl⟩) preT rfl rfl hl.1 rfl (lv_room (Nat.le_of_ble_eq_true rfl)) dX12_thing_12 ⟨Nat.le_of_ble_eq_true rfl, Nat.le_of_ble_eq_true rfl⟩) (fun r_5 hr_5 => ?_)
    have hr_5 : BR r_5 (0 ≤ p2.toInt ∧ p2.toInt ≤ 4) 1 0 := hr_5
    rcases hr_5 with ⟨rfl, h_6⟩ | ⟨rfl, h_6⟩
    · skip
      refine lv_if_ne (tgt := 20) hx hb dX12_thing_15 (by decide) (fun c_7 => ?_) (fun c_7 => absurd c_7 (by decide))
      refine lv_aload_n hx hb dX12_thing_20 rfl (lv_at hl 0 rfl) ?_
      refine lv_iload_n hx hb dX12_thing_21 rfl (lv_at hl 1 rfl) ?_
      have hF_8 := rF hD hS hA
      refine va_callv (va_runV (As := [.int p0]) (rest := []) ⟨hx, hb, hml, hown, hT⟩ (c_X12_laysJoined l D cy a i r rl p0 _ hRi hRr (by omega)) (cwV 1 hT (gV t_116 t_117 t_118 t_119 t_6) rfl rfl rfl (by decide +kernel) ⟨Nat.le_of_ble_eq_true rfl, Nat.le_of_ble_eq_true rfl⟩) (rQ_v hP hK hD (va_recv hK hP (ci := 12) (q0 := 0) rfl rfl)) rfl rfl hl.1 rfl (lv_room (Nat.le_of_ble_eq_true rfl)) dX12_thing_22 ⟨Nat.le_of_ble_eq_true rfl, Nat.le_of_ble_eq_true rfl⟩) hS (fun q _ h => hF_8 q h) hF_8 (fun u_10 t H1 locs ht hvm hr_9 hB hz1 hk1 hS => ?_)
      obtain ⟨r10, rfl⟩ : ∃ z, z = u_10 := ⟨_, rfl⟩
      obtain ⟨hP, hK1, hD1⟩ := hB
      rw [ht] at hP
      have hD := hD1.weaken (fun k q _ h => hF_8 q.1 h)
      have hP : va_P D vwCl (mW cy a i r10 rl) H1 := hP
      have hD : va_D A (mW cy a i r10 rl) := hD
      obtain ⟨hRr, hE2, hr_9⟩ := hr_9
      have hRr : mRr r10 := hRr
      have hEr : mEr [32, 33, 34, 35, 36, 37, 38, 39] _ r10 := Er_tr hEr hE2 (by decide)
      have qj : jOK r10 p1.toNatClampNeg := hr_9 _ (by have h9_p1 : p1.toNatClampNeg = p1.toInt.toNat := rfl; omega)
      have qs : 1 ≤ (r10 14 (20 * p0.toInt + p1.toInt).toNat).toInt := by
        rw [hEr 14 (by decide), show (20 * p0.toInt + p1.toInt).toNat = 20 * p0.toNatClampNeg + p1.toNatClampNeg from by have h9_p0 : p0.toNatClampNeg = p0.toInt.toNat := rfl; have h9_p1 : p1.toNatClampNeg = p1.toInt.toNat := rfl; omega]
        exact hE.2.1 _ _ (by have h9_p0 : p0.toNatClampNeg = p0.toInt.toNat := rfl; omega) (by have h9_p1 : p1.toNatClampNeg = p1.toInt.toNat := rfl; omega)
      have hJ : r10 34 = r10 34 := rfl
      refine lv_iload_n hx hb dX12_thing_25 rfl (lv_at hl 3 rfl) ?_
      rcases (show (p2.toInt < 0 ∨ 3 < p2.toInt) ∨ p2.toInt = 0 ∨ p2.toInt = 1 ∨ p2.toInt = 2 ∨ p2.toInt = 3 by omega) with h_11 | h_11 | h_11 | h_11 | h_11
      · refine lv_tableOut (tgt := 106) hx hb dX12_thing_26 h_11 (by decide) ?_
        refine lv_aload_n hx hb dX12_thing_106 rfl (lv_at hl 0 rfl) ?_
        refine lv_iload_n hx hb dX12_thing_107 rfl (lv_at hl 1 rfl) ?_
        refine lv_iload_n hx hb dX12_thing_108 rfl (lv_at hl 2 rfl) ?_
        have hF_12 := rF hD hS hA
        refine va_calli (va_runV (As := [.int p0, .int p1]) (rest := []) ⟨hx, hb, hml, hown, hT⟩ (c_X12_lostOf l D cy a i r10 rl p0 p1 _ hRi hRr (mE_same hEi hEr (by decide) (by decide) hE) (by omega) (by omega) qj qs) (cwV 2 hT (gV t_120 t_121 t_122 t_123 t_6) rfl rfl rfl (by decide +kernel) ⟨Nat.le_of_ble_eq_true rfl, Nat.le_of_ble_eq_true rfl⟩) (rQ_v hP hK hD (va_recv hK hP (ci := 12) (q0 := 0) rfl rfl)) rfl rfl hl.1 rfl (lv_room (Nat.le_of_ble_eq_true rfl)) dX12_thing_109 ⟨Nat.le_of_ble_eq_true rfl, Nat.le_of_ble_eq_true rfl⟩) hS (fun q _ h => hF_12 q h) hF_12 (fun r_13 u_14 t H1 locs ht hvm hr_13 hB hz1 hk1 hS => ?_)
        obtain ⟨r14, rfl⟩ : ∃ z, z = u_14 := ⟨_, rfl⟩
        obtain ⟨hP, hK1, hD1⟩ := hB
        rw [ht] at hP
        have hD := hD1.weaken (fun k q _ h => hF_12 q.1 h)
        have hP : va_P D vwCl (mW cy a i r14 rl) H1 := hP
        have hD : va_D A (mW cy a i r14 rl) := hD
        obtain ⟨hRr, hE2, hr_13⟩ := hr_13
        have hRr : mRr r14 := hRr
        have hEr : mEr [32, 33, 34, 35, 36, 37, 38, 39] _ r14 := Er_tr hEr hE2 (by decide)
        have hJ : r14 34 = r10 34 := (hE2 34 (by decide)).trans hJ
        subst hQ
        exact W.iret (v := r_13) hx hb hr (fun t ht hW => ⟨⟨_, r14, rfl, ⟨hRr, hEr, trivial⟩, by rw [ht]; exact hP, va_K.moved hW.alike hK, hD⟩, hS.F ht⟩) hS.2.2 dX12_thing_112
      · refine lv_tableIn (off := 30) (tgt := 56) hx hb dX12_thing_26 (by omega) (by omega) (by rw [h_11]; rfl) (by decide) ?_
        refine lv_aload_n hx hb dX12_thing_56 rfl (lv_at hl 0 rfl) ?_
        refine va_get (D := D) (ci := 12) (v := .ref (a 34)) (C := RX12) (T := TX12) (N := 91) hx hb hT iX12 hown hK hP 0 rfl rfl 45 (by decide) (hT _ t_32) (fun _ h9 => h9) rfl dX12_thing_57 ?_
        refine lv_iload_n hx hb dX12_thing_60 rfl (lv_at hl 2 rfl) ?_
        refine va_iald hx hb hK hP 34 0 rfl rfl (vp_inI (by omega) (by omega)) dX12_thing_61 ?_
        refine lv_topi (fun v_15 ev_15 => ?_)
        have hgv_15 : -1 ≤ v_15.toInt ∧ v_15.toInt ≤ 99 := by rw [ev_15]; exact hRr 34 _
        refine lv_bipush (v := 99) hx hb dX12_thing_62 (by decide) ?_
        refine lv_icmp_ne (tgt := 72) hx hb dX12_thing_64 (by decide) (fun c_16 => ?_) (fun c_16 => ?_)
        · have c_16 : v_15.toInt ≠ 99 := b_ne c_16
          refine lv_aload_n hx hb dX12_thing_72 rfl (lv_at hl 0 rfl) ?_
          refine va_get (D := D) (ci := 12) (v := .ref (a 34)) (C := RX12) (T := TX12) (N := 91) hx hb hT iX12 hown hK hP 0 rfl rfl 45 (by decide) (hT _ t_32) (fun _ h9 => h9) rfl dX12_thing_73 ?_
          refine lv_iload_n hx hb dX12_thing_76 rfl (lv_at hl 2 rfl) ?_
          refine va_iald hx hb hK hP 34 0 rfl rfl (vp_inI (by omega) (by omega)) dX12_thing_77 ?_
          refine lv_topi (fun v_17 ev_17 => ?_)
          have hgv_17 : -1 ≤ v_17.toInt ∧ v_17.toInt ≤ 99 := by rw [ev_17]; exact hRr 34 _
          subst hQ
          exact W.iret (v := v_17) hx hb hr (fun t ht hW => ⟨⟨_, r10, rfl, ⟨hRr, hEr, trivial⟩, by rw [ht]; exact hP, va_K.moved hW.alike hK, hD⟩, hS.F ht⟩) hS.2.2 dX12_thing_78
        · have c_16 : v_15.toInt = 99 := b_nne c_16
          refine lv_bipush (v := (-2)) hx hb dX12_thing_67 (by decide) ?_
          refine lv_goto (tgt := 78) hx hb dX12_thing_69 (by decide) ?_
          subst hQ
          exact W.iret (v := (-2)) hx hb hr (fun t ht hW => ⟨⟨_, r10, rfl, ⟨hRr, hEr, trivial⟩, by rw [ht]; exact hP, va_K.moved hW.alike hK, hD⟩, hS.F ht⟩) hS.2.2 dX12_thing_78
      · refine lv_tableIn (off := 53) (tgt := 79) hx hb dX12_thing_26 (by omega) (by omega) (by rw [h_11]; rfl) (by decide) ?_
        refine lv_aload_n hx hb dX12_thing_79 rfl (lv_at hl 0 rfl) ?_
        refine lv_iload_n hx hb dX12_thing_80 rfl (lv_at hl 1 rfl) ?_
        refine lv_iload_n hx hb dX12_thing_81 rfl (lv_at hl 2 rfl) ?_
        refine vp_callSi (W.runV (As := [.int p0, .int p1]) (rest := []) ⟨hx, hb, hml, hown, hT⟩ (c_X12_changeOf l D cy a i r10 rl p0 p1 hRi hRr (by omega) (by omega) qj) (cwV 2 hT (gV t_124 t_125 t_126 t_127 t_6) rfl rfl rfl (by decide +kernel) ⟨Nat.le_of_ble_eq_true rfl, Nat.le_of_ble_eq_true rfl⟩) (rP_v hP hK (va_recv hK hP (ci := 12) (q0 := 0) rfl rfl)) rfl rfl hl.1 rfl (lv_room (Nat.le_of_ble_eq_true rfl)) dX12_thing_82 ⟨Nat.le_of_ble_eq_true rfl, Nat.le_of_ble_eq_true rfl⟩) (fun r_18 hr_18 => ?_)
        have hr_18 : 0 ≤ r_18.toInt ∧ r_18.toInt ≤ 3 := hr_18
        subst hQ
        exact W.iret (v := r_18) hx hb hr (fun t ht hW => ⟨⟨_, r10, rfl, ⟨hRr, hEr, trivial⟩, by rw [ht]; exact hP, va_K.moved hW.alike hK, hD⟩, hS.F ht⟩) hS.2.2 dX12_thing_85
      · refine lv_tableIn (off := 60) (tgt := 86) hx hb dX12_thing_26 (by omega) (by omega) (by rw [h_11]; rfl) (by decide) ?_
        refine lv_aload_n hx hb dX12_thing_86 rfl (lv_at hl 0 rfl) ?_
        refine lv_iload_n hx hb dX12_thing_87 rfl (lv_at hl 1 rfl) ?_
        refine lv_iload_n hx hb dX12_thing_88 rfl (lv_at hl 2 rfl) ?_
        have hF_19 := rF hD hS hA
        refine va_calli (va_runV (As := [.int p0, .int p1]) (rest := []) ⟨hx, hb, hml, hown, hT⟩ (c_X12_wearOf l D cy a i r10 rl p0 p1 _ hRi hRr (mE_same hEi hEr (by decide) (by decide) hE) (by omega) (by omega) qj) (cwV 2 hT (gV t_101 t_102 t_103 t_104 t_6) rfl rfl rfl (by decide +kernel) ⟨Nat.le_of_ble_eq_true rfl, Nat.le_of_ble_eq_true rfl⟩) (rQ_v hP hK hD (va_recv hK hP (ci := 12) (q0 := 0) rfl rfl)) rfl rfl hl.1 rfl (lv_room (Nat.le_of_ble_eq_true rfl)) dX12_thing_89 ⟨Nat.le_of_ble_eq_true rfl, Nat.le_of_ble_eq_true rfl⟩) hS (fun q _ h => hF_19 q h) hF_19 (fun r_20 u_21 t H1 locs ht hvm hr_20 hB hz1 hk1 hS => ?_)
        obtain ⟨r21, rfl⟩ : ∃ z, z = u_21 := ⟨_, rfl⟩
        obtain ⟨hP, hK1, hD1⟩ := hB
        rw [ht] at hP
        have hD := hD1.weaken (fun k q _ h => hF_19 q.1 h)
        have hP : va_P D vwCl (mW cy a i r21 rl) H1 := hP
        have hD : va_D A (mW cy a i r21 rl) := hD
        obtain ⟨hRr, hE2, hr_20⟩ := hr_20
        have hRr : mRr r21 := hRr
        have hEr : mEr [32, 33, 34, 35, 36, 37, 38, 39] _ r21 := Er_tr hEr hE2 (by decide)
        have hJ : r21 34 = r10 34 := (hE2 34 (by decide)).trans hJ
        subst hQ
        exact W.iret (v := r_20) hx hb hr (fun t ht hW => ⟨⟨_, r21, rfl, ⟨hRr, hEr, trivial⟩, by rw [ht]; exact hP, va_K.moved hW.alike hK, hD⟩, hS.F ht⟩) hS.2.2 dX12_thing_92
      · refine lv_tableIn (off := 67) (tgt := 93) hx hb dX12_thing_26 (by omega) (by omega) (by rw [h_11]; rfl) (by decide) ?_
        refine lv_aload_n hx hb dX12_thing_93 rfl (lv_at hl 0 rfl) ?_
        refine lv_iload_n hx hb dX12_thing_94 rfl (lv_at hl 1 rfl) ?_
        refine lv_iload_n hx hb dX12_thing_95 rfl (lv_at hl 2 rfl) ?_
        refine lv_aload_n hx hb dX12_thing_96 rfl (lv_at hl 0 rfl) ?_
        refine lv_iload_n hx hb dX12_thing_97 rfl (lv_at hl 1 rfl) ?_
        refine lv_iload_n hx hb dX12_thing_98 rfl (lv_at hl 2 rfl) ?_
        refine vp_callSi (W.runV (As := [.int p0, .int p1]) (rest := [.int p1, .int p0, .ref (a 0)]) ⟨hx, hb, hml, hown, hT⟩ (c_X12_agedOf l D cy a i r10 rl p0 p1 hRi hRr (by omega) (by omega)) (cwV 2 hT (gV t_71 t_72 t_73 t_74 t_6) rfl rfl rfl (by decide +kernel) ⟨Nat.le_of_ble_eq_true rfl, Nat.le_of_ble_eq_true rfl⟩) (rP_v hP hK (va_recv hK hP (ci := 12) (q0 := 0) rfl rfl)) rfl rfl hl.1 rfl (lv_room (Nat.le_of_ble_eq_true rfl)) dX12_thing_99 ⟨Nat.le_of_ble_eq_true rfl, Nat.le_of_ble_eq_true rfl⟩) (fun r_22 hr_22 => ?_)
        have hr_22 : -999 ≤ r_22.toInt ∧ r_22.toInt ≤ 1359 := hr_22
        refine vp_callSi (W.runV (As := [.int p0, .int p1, .int r_22]) (rest := []) ⟨hx, hb, hml, hown, hT⟩ (c_X12_worthAt l D cy a i r10 rl p0 p1 r_22 hRi hRr (by omega) (by omega)) (cwV 3 hT (gV t_105 t_106 t_107 t_108 t_6) rfl rfl rfl (by decide +kernel) ⟨Nat.le_of_ble_eq_true rfl, Nat.le_of_ble_eq_true rfl⟩) (rP_v hP hK (va_recv hK hP (ci := 12) (q0 := 0) rfl rfl)) rfl rfl hl.1 rfl (lv_room (Nat.le_of_ble_eq_true rfl)) dX12_thing_102 ⟨Nat.le_of_ble_eq_true rfl, Nat.le_of_ble_eq_true rfl⟩) (fun r_23 hr_23 => ?_)
        subst hQ
        exact W.iret (v := r_23) hx hb hr (fun t ht hW => ⟨⟨_, r10, rfl, ⟨hRr, hEr, trivial⟩, by rw [ht]; exact hP, va_K.moved hW.alike hK, hD⟩, hS.F ht⟩) hS.2.2 dX12_thing_105
    · skip
      refine lv_if_ne (tgt := 20) hx hb dX12_thing_15 (by decide) (fun c_24 => absurd (by decide) c_24) (fun c_24 => ?_)
      refine lv_iconst (v := (-1)) hx hb dX12_thing_18 (by decide) ?_
      subst hQ
      exact W.iret (v := (-1)) hx hb hr (fun t ht hW => ⟨⟨_, r, rfl, ⟨hRr, hEr, trivial⟩, by rw [ht]; exact hP, va_K.moved hW.alike hK, hD⟩, hS.F ht⟩) hS.2.2 dX12_thing_19
  · skip
    refine lv_if_eq (tgt := 18) hx hb dX12_thing_6 (by decide) (fun c_25 => ?_) (fun c_25 => absurd (by decide) c_25)
    refine lv_iconst (v := (-1)) hx hb dX12_thing_18 (by decide) ?_
    subst hQ
    exact W.iret (v := (-1)) hx hb hr (fun t ht hW => ⟨⟨_, r, rfl, ⟨hRr, hEr, trivial⟩, by rw [ht]; exact hP, va_K.moved hW.alike hK, hD⟩, hS.F ht⟩) hS.2.2 dX12_thing_19
set_option maxHeartbeats 4000000 in
set_option maxRecDepth 100000 in
theorem c_X12_isNew (l : Launch) (D : va_G) (cy : Nat → ClassId) (a : Nat → Nat) (i : Nat → Int32) (r : Nat → Nat → Int32) (rl : Nat → Int64) (p0 p1 : Int32) (sz : Nat) (hRi : mRi i) (hRr : mRr r) : Met l yX12_isNew (Cond.code yX12_isNew cX12_isNew 3 (some .int) :: gT) { frames := 5, cells := 0, slots := 0, locals := 126 } (va_Pc [.ref (a 0), .int p0, .int p1] (rQ D cy (mW cy a i r rl) sz)) (va_Qi (fun (z : Int32) (u : Nat → Nat → Int32) => mRr u ∧ mEr [32, 33, 34, 35, 36, 37, 38, 39] r u ∧ True) (fun (u : Nat → Nat → Int32) t => va_P D vwCl (mW cy a i u rl) t.heap ∧ va_K D vwCl (vT cy) t ∧ va_D (va_A (mW cy a i r rl) sz) (mW cy a i u rl)) (va_A (mW cy a i r rl) sz)) 0 0 (va_A (mW cy a i r rl) sz) := by
  refine Met.ofQ (cc := cX12_isNew) (maxL := 3) (ret := (some .int)) (by decide) rfl ?_
  intro p e s m args below meth c s₁ B hml hv Q hQ
  obtain ⟨rfl, hsz, hP, hK, hD0⟩ := hv
  have hx := B.exec
  have hb := B.bytes
  have hr := B.returns
  have hlocks := B.notSynchronized
  have hT : ∀ w ∈ gT, w.before _ s = true := fun w h => atoms_spec (ws := (Cond.code yX12_isNew cX12_isNew 3 (some .int) :: gT)) B.pre w (List.mem_cons_of_mem _ h)
  have hown : s.vm.findClass RX12 = some m.cls := findClass_of_methodNamed B.named
  subst hsz
  have hD := hD0.self (sz := s.heap.size)
  generalize hAe : va_A (mW cy a i r rl) s.heap.size = A at hD hQ
  have hA : ∀ q : Nat, s.heap.size ≤ q → A q := fun q h => by rw [← hAe]; exact Or.inr h
  have hS : va_S A s.heap s.heap [] := va_S.rf
  have hl := lv_entry ([.ref (a 0), .int p0, .int p1]) (n := 3) (Nat.le_of_ble_eq_true rfl)
  rw [lg_entry_eq]
  generalize (lg_sl ([.ref (a 0), .int p0, .int p1]) ++ List.replicate (3 - (lg_sl ([.ref (a 0), .int p0, .int p1])).length) Slot.unset).toArray = ls at hl ⊢
  have hl : lv_has ls 3 [(0, .ref (a 0)), (1, .int p0), (2, .int p1)] := hl
  have hEi : mEi [23, 24, 25, 26, 27, 28, 29, 30, 60] i i := Ei_rf
  have hEr : mEr [32, 33, 34, 35, 36, 37, 38, 39] r r := Er_rf
  refine lv_aload_n hx hb dX12_isNew_0 rfl (lv_at hl 0 rfl) ?_
  refine lv_iload_n hx hb dX12_isNew_1 rfl (lv_at hl 1 rfl) ?_
  refine vp_callSi (W.runV (As := [.int p0]) (rest := []) ⟨hx, hb, hml, hown, hT⟩ (c_X12_isHome l D cy a i r rl p0 hRi hRr) (cwV 1 hT (gV t_12 t_13 t_14 t_15 t_6) rfl rfl rfl (by decide +kernel) ⟨Nat.le_of_ble_eq_true rfl, Nat.le_of_ble_eq_true rfl⟩) (rP_v hP hK (va_recv hK hP (ci := 12) (q0 := 0) rfl rfl)) rfl rfl hl.1 rfl (lv_room (Nat.le_of_ble_eq_true rfl)) dX12_isNew_2 ⟨Nat.le_of_ble_eq_true rfl, Nat.le_of_ble_eq_true rfl⟩) (fun r_1 hr_1 => ?_)
  have hg_2 : 0 ≤ (i 0).toInt ∧ (i 0).toInt ≤ 6 := hRi 0
  have hr_1 : BR r_1 (0 ≤ p0.toInt ∧ p0.toInt < (i 0).toInt) 1 0 := hr_1
  rcases hr_1 with ⟨rfl, h_3⟩ | ⟨rfl, h_3⟩
  · skip
    refine lv_if_eq (tgt := 22) hx hb dX12_isNew_5 (by decide) (fun c_4 => absurd c_4 (by decide)) (fun c_4 => ?_)
    refine lv_iload_n hx hb dX12_isNew_8 rfl (lv_at hl 2 rfl) ?_
    refine lv_if_lt (tgt := 22) hx hb dX12_isNew_9 (by decide) (fun c_5 => ?_) (fun c_5 => ?_)
    · have c_5 : p1.toInt < 0 := b_lt c_5
      refine lv_iconst (v := (-1)) hx hb dX12_isNew_22 (by decide) ?_
      subst hQ
      exact W.iret (v := (-1)) hx hb hr (fun t ht hW => ⟨⟨_, r, rfl, ⟨hRr, hEr, trivial⟩, by rw [ht]; exact hP, va_K.moved hW.alike hK, hD⟩, hS.F ht⟩) hS.2.2 dX12_isNew_23
    · have c_5 : 0 ≤ p1.toInt := b_nlt c_5
      refine lv_iload_n hx hb dX12_isNew_12 rfl (lv_at hl 2 rfl) ?_
      refine lv_aload_n hx hb dX12_isNew_13 rfl (lv_at hl 0 rfl) ?_
      refine va_get (D := D) (ci := 12) (v := .ref (a 11)) (C := RX12) (T := TX12) (N := 91) hx hb hT iX12 hown hK hP 0 rfl rfl 12 (by decide) (hT _ t_43) (fun _ h9 => h9) rfl dX12_isNew_14 ?_
      refine lv_iload_n hx hb dX12_isNew_17 rfl (lv_at hl 1 rfl) ?_
      refine va_iald hx hb hK hP 11 0 rfl rfl (vp_inI (by omega) (by omega)) dX12_isNew_18 ?_
      refine lv_topi (fun v_6 ev_6 => ?_)
      have hgv_6 : 0 ≤ v_6.toInt ∧ v_6.toInt ≤ 20 := by rw [ev_6]; exact hRr 11 _
      refine lv_icmp_lt (tgt := 24) hx hb dX12_isNew_19 (by decide) (fun c_7 => ?_) (fun c_7 => ?_)
      · have c_7 : p1.toInt < v_6.toInt := b_lt c_7
        refine lv_aload_n hx hb dX12_isNew_24 rfl (lv_at hl 0 rfl) ?_
        refine lv_iload_n hx hb dX12_isNew_25 rfl (lv_at hl 1 rfl) ?_
        have hF_8 := rF hD hS hA
        refine va_callv (va_runV (As := [.int p0]) (rest := []) ⟨hx, hb, hml, hown, hT⟩ (c_X12_laysJoined l D cy a i r rl p0 _ hRi hRr (by omega)) (cwV 1 hT (gV t_116 t_117 t_118 t_119 t_6) rfl rfl rfl (by decide +kernel) ⟨Nat.le_of_ble_eq_true rfl, Nat.le_of_ble_eq_true rfl⟩) (rQ_v hP hK hD (va_recv hK hP (ci := 12) (q0 := 0) rfl rfl)) rfl rfl hl.1 rfl (lv_room (Nat.le_of_ble_eq_true rfl)) dX12_isNew_26 ⟨Nat.le_of_ble_eq_true rfl, Nat.le_of_ble_eq_true rfl⟩) hS (fun q _ h => hF_8 q h) hF_8 (fun u_10 t H1 locs ht hvm hr_9 hB hz1 hk1 hS => ?_)
        obtain ⟨r10, rfl⟩ : ∃ z, z = u_10 := ⟨_, rfl⟩
        obtain ⟨hP, hK1, hD1⟩ := hB
        rw [ht] at hP
        have hD := hD1.weaken (fun k q _ h => hF_8 q.1 h)
        have hP : va_P D vwCl (mW cy a i r10 rl) H1 := hP
        have hD : va_D A (mW cy a i r10 rl) := hD
        obtain ⟨hRr, hE2, hr_9⟩ := hr_9
        have hRr : mRr r10 := hRr
        have hEr : mEr [32, 33, 34, 35, 36, 37, 38, 39] _ r10 := Er_tr hEr hE2 (by decide)
        refine lv_aload_n hx hb dX12_isNew_29 rfl (lv_at hl 0 rfl) ?_
        refine va_get (D := D) (ci := 12) (v := .ref (a 39)) (C := RX12) (T := TX12) (N := 91) hx hb hT iX12 hown hK hP 0 rfl rfl 50 (by decide) (hT _ t_44) (fun _ h9 => h9) rfl dX12_isNew_30 ?_
        refine lv_iload_n hx hb dX12_isNew_33 rfl (lv_at hl 2 rfl) ?_
        refine va_zald hx hb hK hP 39 2 rfl rfl (vp_inI (by omega) (by omega)) dX12_isNew_34 ?_
        refine lv_topi (fun v_11 ev_11 => ?_)
        refine lv_if_eq (tgt := 42) hx hb dX12_isNew_35 (by decide) (fun c_12 => ?_) (fun c_12 => ?_)
        · have c_12 : v_11.toInt = 0 := b_eq c_12
          refine lv_iconst (v := 1) hx hb dX12_isNew_42 (by decide) ?_
          subst hQ
          exact W.iret (v := 1) hx hb hr (fun t ht hW => ⟨⟨_, r10, rfl, ⟨hRr, hEr, trivial⟩, by rw [ht]; exact hP, va_K.moved hW.alike hK, hD⟩, hS.F ht⟩) hS.2.2 dX12_isNew_43
        · have c_12 : v_11.toInt ≠ 0 := b_ne c_12
          refine lv_iconst (v := 0) hx hb dX12_isNew_38 (by decide) ?_
          refine lv_goto (tgt := 43) hx hb dX12_isNew_39 (by decide) ?_
          subst hQ
          exact W.iret (v := 0) hx hb hr (fun t ht hW => ⟨⟨_, r10, rfl, ⟨hRr, hEr, trivial⟩, by rw [ht]; exact hP, va_K.moved hW.alike hK, hD⟩, hS.F ht⟩) hS.2.2 dX12_isNew_43
      · have c_7 : v_6.toInt ≤ p1.toInt := b_nlt c_7
        refine lv_iconst (v := (-1)) hx hb dX12_isNew_22 (by decide) ?_
        subst hQ
        exact W.iret (v := (-1)) hx hb hr (fun t ht hW => ⟨⟨_, r, rfl, ⟨hRr, hEr, trivial⟩, by rw [ht]; exact hP, va_K.moved hW.alike hK, hD⟩, hS.F ht⟩) hS.2.2 dX12_isNew_23
  · skip
    refine lv_if_eq (tgt := 22) hx hb dX12_isNew_5 (by decide) (fun c_13 => ?_) (fun c_13 => absurd (by decide) c_13)
    refine lv_iconst (v := (-1)) hx hb dX12_isNew_22 (by decide) ?_
    subst hQ
    exact W.iret (v := (-1)) hx hb hr (fun t ht hW => ⟨⟨_, r, rfl, ⟨hRr, hEr, trivial⟩, by rw [ht]; exact hP, va_K.moved hW.alike hK, hD⟩, hS.F ht⟩) hS.2.2 dX12_isNew_23
set_option maxHeartbeats 4000000 in
set_option maxRecDepth 100000 in
theorem c_X12_led (l : Launch) (D : va_G) (cy : Nat → ClassId) (a : Nat → Nat) (i : Nat → Int32) (r : Nat → Nat → Int32) (rl : Nat → Int64) (p0 p1 p2 : Int32) (hRi : mRi i) (hRr : mRr r) : Met l yX12_led (Cond.code yX12_led cX12_led 4 (some .int) :: gT) { frames := 3, cells := 0, slots := 0, locals := 67 } (va_Pc [.ref (a 0), .int p0, .int p1, .int p2] (rP D cy (mW cy a i r rl))) (vp_Si (fun z => True)) 0 0 (fun _ => False) := by
  refine Met.ofQ (cc := cX12_led) (maxL := 4) (ret := (some .int)) (by decide) rfl ?_
  intro p e s m args below meth c s₁ B hml hv Q hQ
  obtain ⟨rfl, hP, hK⟩ := hv
  have hx := B.exec
  have hb := B.bytes
  have hr := B.returns
  have hlocks := B.notSynchronized
  have hT : ∀ w ∈ gT, w.before _ s = true := fun w h => atoms_spec (ws := (Cond.code yX12_led cX12_led 4 (some .int) :: gT)) B.pre w (List.mem_cons_of_mem _ h)
  have hown : s.vm.findClass RX12 = some m.cls := findClass_of_methodNamed B.named
  have hl := lv_entry ([.ref (a 0), .int p0, .int p1, .int p2]) (n := 4) (Nat.le_of_ble_eq_true rfl)
  rw [lg_entry_eq]
  generalize (lg_sl ([.ref (a 0), .int p0, .int p1, .int p2]) ++ List.replicate (4 - (lg_sl ([.ref (a 0), .int p0, .int p1, .int p2])).length) Slot.unset).toArray = ls at hl ⊢
  have hl : lv_has ls 4 [(0, .ref (a 0)), (1, .int p0), (2, .int p1), (3, .int p2)] := hl
  have hEi : mEi [23, 24, 25, 26, 27, 28, 29, 30, 60] i i := Ei_rf
  have hEr : mEr [21, 22, 23, 24, 25, 26, 32, 33, 34, 35, 36, 37, 38, 39, 48, 49, 57, 61, 62] r r := Er_rf
  refine lv_aload_n hx hb dX12_led_0 rfl (lv_at hl 0 rfl) ?_
  refine lv_iload_n hx hb dX12_led_1 rfl (lv_at hl 1 rfl) ?_
  refine lv_iload_n hx hb dX12_led_2 rfl (lv_at hl 2 rfl) ?_
  refine vp_callSi (W.runV (As := [.int p0, .int p1]) (rest := []) ⟨hx, hb, hml, hown, hT⟩ (c_X12_isFirst l D cy a i r rl p0 p1 hRi hRr) (cwV 2 hT (gV t_109 t_110 t_111 t_112 t_6) rfl rfl rfl (by decide +kernel) ⟨Nat.le_of_ble_eq_true rfl, Nat.le_of_ble_eq_true rfl⟩) (rP_v hP hK (va_recv hK hP (ci := 12) (q0 := 0) rfl rfl)) rfl rfl hl.1 rfl (lv_room (Nat.le_of_ble_eq_true rfl)) dX12_led_3 ⟨Nat.le_of_ble_eq_true rfl, Nat.le_of_ble_eq_true rfl⟩) (fun r_1 hr_1 => ?_)
  have hg_2 : 0 ≤ (i 0).toInt ∧ (i 0).toInt ≤ 6 := hRi 0
  have hgrr_1_0 : 0 ≤ (r 10 p0.toNatClampNeg).toInt ∧ (r 10 p0.toNatClampNeg).toInt ≤ 20 := hRr 10 _
  have hr_1 : BR r_1 ((0 ≤ p0.toInt ∧ p0.toInt < (i 0).toInt) ∧ 0 ≤ p1.toInt ∧ p1.toInt < (r 10 p0.toNatClampNeg).toInt) 1 0 := hr_1
  rcases hr_1 with ⟨rfl, h_3⟩ | ⟨rfl, h_3⟩
  · skip
    refine lv_if_eq (tgt := 44) hx hb dX12_led_6 (by decide) (fun c_4 => absurd c_4 (by decide)) (fun c_4 => ?_)
    refine lv_iload_n hx hb dX12_led_9 rfl (lv_at hl 3 rfl) ?_
    refine lv_iconst (v := 0) hx hb dX12_led_10 (by decide) ?_
    refine lv_bipush (v := 30) hx hb dX12_led_11 (by decide) ?_
    refine vp_callSi (W.runS (As := [.int p2, .int 0, .int 30]) (rest := []) ⟨hx, hb, hml, hown, hT⟩ (c_X12_in l p2 0 30) (va_cwS 3 hT (gS t_113 t_114 t_115 t_6) rfl rfl rfl (by decide +kernel) ⟨Nat.le_of_ble_eq_true rfl, Nat.le_of_ble_eq_true rfl⟩) preT rfl rfl hl.1 rfl (lv_room (Nat.le_of_ble_eq_true rfl)) dX12_led_13 ⟨Nat.le_of_ble_eq_true rfl, Nat.le_of_ble_eq_true rfl⟩) (fun r_5 hr_5 => ?_)
    have hr_5 : BR r_5 (0 ≤ p2.toInt ∧ p2.toInt ≤ 30) 1 0 := hr_5
    rcases hr_5 with ⟨rfl, h_6⟩ | ⟨rfl, h_6⟩
    · skip
      refine lv_if_eq (tgt := 44) hx hb dX12_led_16 (by decide) (fun c_7 => absurd c_7 (by decide)) (fun c_7 => ?_)
      refine lv_aload_n hx hb dX12_led_19 rfl (lv_at hl 0 rfl) ?_
      refine lv_iload_n hx hb dX12_led_20 rfl (lv_at hl 1 rfl) ?_
      refine lv_iload_n hx hb dX12_led_21 rfl (lv_at hl 2 rfl) ?_
      refine lv_aload_n hx hb dX12_led_22 rfl (lv_at hl 0 rfl) ?_
      refine va_get (D := D) (ci := 12) (v := .ref (a 15)) (C := RX12) (T := TX12) (N := 91) hx hb hT iX12 hown hK hP 0 rfl rfl 16 (by decide) (hT _ t_19) (fun _ h9 => h9) rfl dX12_led_23 ?_
      refine lv_bipush (v := 20) hx hb dX12_led_26 (by decide) ?_
      refine lv_iload_n hx hb dX12_led_28 rfl (lv_at hl 1 rfl) ?_
      refine lv_imul hx hb dX12_led_29 ?_
      refine lv_topi (fun v_8 ev_8 => ?_)
      have hv_8 : v_8.toInt = 20 * p0.toInt := by rw [ev_8]; have := b_rg p0; exact i_mul (a := 20) (b := p0.toInt) rfl rfl (by omega) (by omega)
      refine lv_iload_n hx hb dX12_led_30 rfl (lv_at hl 2 rfl) ?_
      refine lv_iadd hx hb dX12_led_31 ?_
      refine lv_topi (fun v_9 ev_9 => ?_)
      have hv_9 : v_9.toInt = v_8.toInt + p1.toInt := by rw [ev_9]; have := b_rg v_8; have := b_rg p1; exact i_add (a := v_8.toInt) (b := p1.toInt) rfl rfl (by omega) (by omega)
      refine va_iald hx hb hK hP 15 0 rfl rfl (vp_inI (by omega) (by omega)) dX12_led_32 ?_
      refine lv_topi (fun v_10 ev_10 => ?_)
      have hgv_10 : 0 ≤ v_10.toInt ∧ v_10.toInt ≤ 360 := by rw [ev_10]; exact hRr 15 _
      refine lv_bipush (v := 12) hx hb dX12_led_33 (by decide) ?_
      refine lv_iload_n hx hb dX12_led_35 rfl (lv_at hl 3 rfl) ?_
      refine lv_imul hx hb dX12_led_36 ?_
      refine lv_topi (fun v_11 ev_11 => ?_)
      have hv_11 : v_11.toInt = 12 * p2.toInt := by rw [ev_11]; have := b_rg p2; exact i_mul (a := 12) (b := p2.toInt) rfl rfl (by omega) (by omega)
      refine lv_iadd hx hb dX12_led_37 ?_
      refine lv_topi (fun v_12 ev_12 => ?_)
      have hv_12 : v_12.toInt = v_10.toInt + v_11.toInt := by rw [ev_12]; have := b_rg v_10; have := b_rg v_11; exact i_add (a := v_10.toInt) (b := v_11.toInt) rfl rfl (by omega) (by omega)
      refine vp_callSi (W.runV (As := [.int p0, .int p1, .int v_12]) (rest := []) ⟨hx, hb, hml, hown, hT⟩ (c_X12_worthAt l D cy a i r rl p0 p1 v_12 hRi hRr (by omega) (by omega)) (cwV 3 hT (gV t_105 t_106 t_107 t_108 t_6) rfl rfl rfl (by decide +kernel) ⟨Nat.le_of_ble_eq_true rfl, Nat.le_of_ble_eq_true rfl⟩) (rP_v hP hK (va_recv hK hP (ci := 12) (q0 := 0) rfl rfl)) rfl rfl hl.1 rfl (lv_room (Nat.le_of_ble_eq_true rfl)) dX12_led_38 ⟨Nat.le_of_ble_eq_true rfl, Nat.le_of_ble_eq_true rfl⟩) (fun r_13 hr_13 => ?_)
      refine lv_goto (tgt := 45) hx hb dX12_led_41 (by decide) ?_
      subst hQ
      exact W.iret (v := r_13) hx hb hr (fun t ht hW => ⟨_, rfl, trivial, ht⟩) (fun q hq => absurd hq List.not_mem_nil) dX12_led_45
    · skip
      refine lv_if_eq (tgt := 44) hx hb dX12_led_16 (by decide) (fun c_14 => ?_) (fun c_14 => absurd (by decide) c_14)
      refine lv_iconst (v := (-1)) hx hb dX12_led_44 (by decide) ?_
      subst hQ
      exact W.iret (v := (-1)) hx hb hr (fun t ht hW => ⟨_, rfl, trivial, ht⟩) (fun q hq => absurd hq List.not_mem_nil) dX12_led_45
  · skip
    refine lv_if_eq (tgt := 44) hx hb dX12_led_6 (by decide) (fun c_15 => ?_) (fun c_15 => absurd (by decide) c_15)
    refine lv_iconst (v := (-1)) hx hb dX12_led_44 (by decide) ?_
    subst hQ
    exact W.iret (v := (-1)) hx hb hr (fun t ht hW => ⟨_, rfl, trivial, ht⟩) (fun q hq => absurd hq List.not_mem_nil) dX12_led_45
set_option maxHeartbeats 4000000 in
set_option maxRecDepth 100000 in
theorem c_X12_awards (l : Launch) (D : va_G) (cy : Nat → ClassId) (a : Nat → Nat) (i : Nat → Int32) (r : Nat → Nat → Int32) (rl : Nat → Int64) (p0 p1 : Int32) (sz : Nat) (hRi : mRi i) (hRr : mRr r) : Met l yX12_awards (Cond.code yX12_awards cX12_awards 3 (some .int) :: gT) { frames := 1, cells := 0, slots := 0, locals := 24 } (va_Pc [.ref (a 0), .int p0, .int p1] (rQ D cy (mW cy a i r rl) sz)) (va_Qi (fun (z : Int32) (u : (Nat → Int32) × (Nat → Nat → Int32)) => mRi u.1 ∧ mRr u.2 ∧ mEi [23, 24, 25, 26, 27, 28, 29, 30, 60] i u.1 ∧ mEr [] r u.2 ∧ True) (fun (u : (Nat → Int32) × (Nat → Nat → Int32)) t => va_P D vwCl (mW cy a u.1 u.2 rl) t.heap ∧ va_K D vwCl (vT cy) t ∧ va_D (va_A (mW cy a i r rl) sz) (mW cy a u.1 u.2 rl)) (va_A (mW cy a i r rl) sz)) 0 0 (va_A (mW cy a i r rl) sz) := by
  refine Met.ofQ (cc := cX12_awards) (maxL := 3) (ret := (some .int)) (by decide) rfl ?_
  intro p e s m args below meth c s₁ B hml hv Q hQ
  obtain ⟨rfl, hsz, hP, hK, hD0⟩ := hv
  have hx := B.exec
  have hb := B.bytes
  have hr := B.returns
  have hlocks := B.notSynchronized
  have hT : ∀ w ∈ gT, w.before _ s = true := fun w h => atoms_spec (ws := (Cond.code yX12_awards cX12_awards 3 (some .int) :: gT)) B.pre w (List.mem_cons_of_mem _ h)
  have hown : s.vm.findClass RX12 = some m.cls := findClass_of_methodNamed B.named
  subst hsz
  have hD := hD0.self (sz := s.heap.size)
  generalize hAe : va_A (mW cy a i r rl) s.heap.size = A at hD hQ
  have hA : ∀ q : Nat, s.heap.size ≤ q → A q := fun q h => by rw [← hAe]; exact Or.inr h
  have hS : va_S A s.heap s.heap [] := va_S.rf
  have hl := lv_entry ([.ref (a 0), .int p0, .int p1]) (n := 3) (Nat.le_of_ble_eq_true rfl)
  rw [lg_entry_eq]
  generalize (lg_sl ([.ref (a 0), .int p0, .int p1]) ++ List.replicate (3 - (lg_sl ([.ref (a 0), .int p0, .int p1])).length) Slot.unset).toArray = ls at hl ⊢
  have hl : lv_has ls 3 [(0, .ref (a 0)), (1, .int p0), (2, .int p1)] := hl
  have hEi : mEi [23, 24, 25, 26, 27, 28, 29, 30, 60] i i := Ei_rf
  have hEr : mEr [] r r := Er_rf
  refine lv_aload_n hx hb dX12_awards_0 rfl (lv_at hl 0 rfl) ?_
  refine lv_iload_n hx hb dX12_awards_1 rfl (lv_at hl 1 rfl) ?_
  refine va_put (D := D) (ci := 12) (v := .int p0) (ty := .int) (C := RX12) (T := TX12) (N := 91) hx hb hT iX12 tyX12 tyX12_ok nmX12 hown hK hP hD hS 0 rfl rfl 60 (by decide) (hT _ t_128) (fun _ h9 => h9) rfl (by decide +kernel) rfl rfl (Nat.le_of_ble_eq_true rfl) dX12_awards_2 (fun H locs hP hD hS => ?_)
  rw [mP60] at hP hD
  have hRi := Ri_upd hRi 60 p0 (b_rg _)
  have hEi := Ei_upd hEi 60 p0 (by decide)
  refine lv_iload_n hx hb dX12_awards_5 rfl (lv_at hl 2 rfl) ?_
  subst hQ
  exact W.iret (v := p1) hx hb hr (fun t ht hW => ⟨⟨_, (upd i 60 p0, r), rfl, ⟨hRi, hRr, hEi, hEr, trivial⟩, by rw [ht]; exact hP, va_K.moved hW.alike hK, hD⟩, hS.F ht⟩) hS.2.2 dX12_awards_6
set_option maxHeartbeats 4000000 in
set_option maxRecDepth 100000 in
theorem c_X12_partOfLost (l : Launch) (D : va_G) (cy : Nat → ClassId) (a : Nat → Nat) (i : Nat → Int32) (r : Nat → Nat → Int32) (rl : Nat → Int64) (p0 p1 p2 : Int32) (sz : Nat) (hRi : mRi i) (hRr : mRr r) (hE : mE i r) (q0 : 0 ≤ p0.toInt ∧ p0.toInt ≤ 29) (qj : jOK r (r 41 p0.toNatClampNeg).toNatClampNeg) : Met l yX12_partOfLost (Cond.code yX12_partOfLost cX12_partOfLost 5 (some .int) :: gT) { frames := 5, cells := 0, slots := 0, locals := 110 } (va_Pc [.ref (a 0), .int p0, .int p1, .int p2] (rQ D cy (mW cy a i r rl) sz)) (va_Qi (fun (z : Int32) (u : (Nat → Int32) × (Nat → Nat → Int32)) => mRi u.1 ∧ mRr u.2 ∧ mEi [23, 24, 25, 26, 27, 28, 29, 30, 60] i u.1 ∧ mEr [32, 33] r u.2 ∧ True) (fun (u : (Nat → Int32) × (Nat → Nat → Int32)) t => va_P D vwCl (mW cy a u.1 u.2 rl) t.heap ∧ va_K D vwCl (vT cy) t ∧ va_D (va_A (mW cy a i r rl) sz) (mW cy a u.1 u.2 rl)) (va_A (mW cy a i r rl) sz)) 0 0 (va_A (mW cy a i r rl) sz) := by
  refine Met.ofQ (cc := cX12_partOfLost) (maxL := 5) (ret := (some .int)) (by decide) rfl ?_
  intro p e s m args below meth c s₁ B hml hv Q hQ
  obtain ⟨rfl, hsz, hP, hK, hD0⟩ := hv
  have hx := B.exec
  have hb := B.bytes
  have hr := B.returns
  have hlocks := B.notSynchronized
  have hT : ∀ w ∈ gT, w.before _ s = true := fun w h => atoms_spec (ws := (Cond.code yX12_partOfLost cX12_partOfLost 5 (some .int) :: gT)) B.pre w (List.mem_cons_of_mem _ h)
  have hown : s.vm.findClass RX12 = some m.cls := findClass_of_methodNamed B.named
  subst hsz
  have hD := hD0.self (sz := s.heap.size)
  generalize hAe : va_A (mW cy a i r rl) s.heap.size = A at hD hQ
  have hA : ∀ q : Nat, s.heap.size ≤ q → A q := fun q h => by rw [← hAe]; exact Or.inr h
  have hS : va_S A s.heap s.heap [] := va_S.rf
  have hl := lv_entry ([.ref (a 0), .int p0, .int p1, .int p2]) (n := 5) (Nat.le_of_ble_eq_true rfl)
  rw [lg_entry_eq]
  generalize (lg_sl ([.ref (a 0), .int p0, .int p1, .int p2]) ++ List.replicate (5 - (lg_sl ([.ref (a 0), .int p0, .int p1, .int p2])).length) Slot.unset).toArray = ls at hl ⊢
  have hl : lv_has ls 5 [(0, .ref (a 0)), (1, .int p0), (2, .int p1), (3, .int p2)] := hl
  have hEi : mEi [23, 24, 25, 26, 27, 28, 29, 30, 60] i i := Ei_rf
  have hEr : mEr [32, 33] r r := Er_rf
  refine lv_aload_n hx hb dX12_partOfLost_0 rfl (lv_at hl 0 rfl) ?_
  refine lv_iload_n hx hb dX12_partOfLost_1 rfl (lv_at hl 1 rfl) ?_
  have hF_1 := rF hD hS hA
  refine va_callv (va_runV (As := [.int p0]) (rest := []) ⟨hx, hb, hml, hown, hT⟩ (c_X12_feelsClaim l D cy a i r rl p0 _ hRi hRr (by omega) qj) (cwV 1 hT (gV t_129 t_130 t_131 t_132 t_6) rfl rfl rfl (by decide +kernel) ⟨Nat.le_of_ble_eq_true rfl, Nat.le_of_ble_eq_true rfl⟩) (rQ_v hP hK hD (va_recv hK hP (ci := 12) (q0 := 0) rfl rfl)) rfl rfl hl.1 rfl (lv_room (Nat.le_of_ble_eq_true rfl)) dX12_partOfLost_2 ⟨Nat.le_of_ble_eq_true rfl, Nat.le_of_ble_eq_true rfl⟩) hS (fun q _ h => hF_1 q h) hF_1 (fun u_3 t H1 locs ht hvm hr_2 hB hz1 hk1 hS => ?_)
  obtain ⟨r3, rfl⟩ : ∃ z, z = u_3 := ⟨_, rfl⟩
  obtain ⟨hP, hK1, hD1⟩ := hB
  rw [ht] at hP
  have hD := hD1.weaken (fun k q _ h => hF_1 q.1 h)
  have hP : va_P D vwCl (mW cy a i r3 rl) H1 := hP
  have hD : va_D A (mW cy a i r3 rl) := hD
  obtain ⟨hRr, hE2, hr_2⟩ := hr_2
  have hRr : mRr r3 := hRr
  have hEr : mEr [32, 33] _ r3 := Er_tr hEr hE2 (by decide)
  refine lv_iload_n hx hb dX12_partOfLost_5 rfl (lv_at hl 2 rfl) ?_
  refine lv_aload_n hx hb dX12_partOfLost_6 rfl (lv_at hl 0 rfl) ?_
  refine lv_bipush (v := 112) hx hb dX12_partOfLost_7 (by decide) ?_
  refine lv_bipush (v := 100) hx hb dX12_partOfLost_9 (by decide) ?_
  refine lv_bipush (v := 100) hx hb dX12_partOfLost_11 (by decide) ?_
  have hF_4 := rF hD hS hA
  refine va_calli (va_runV (As := [.int 112, .int 100, .int 100]) (rest := [.int p1]) ⟨hx, hb, hml, hown, hT⟩ (c_X12_byLaw l D cy a i r3 rl 112 100 100 _ hRi hRr (mE_same hEi hEr (by decide) (by decide) hE) (by first | omega | decide)) (cwV 3 hT (gV t_97 t_98 t_99 t_100 t_6) rfl rfl rfl (by decide +kernel) ⟨Nat.le_of_ble_eq_true rfl, Nat.le_of_ble_eq_true rfl⟩) (rQ_v hP hK hD (va_recv hK hP (ci := 12) (q0 := 0) rfl rfl)) rfl rfl hl.1 rfl (lv_room (Nat.le_of_ble_eq_true rfl)) dX12_partOfLost_13 ⟨Nat.le_of_ble_eq_true rfl, Nat.le_of_ble_eq_true rfl⟩) hS (fun q _ h => hF_4 q h) hF_4 (fun r_5 u_6 t H1 locs ht hvm hr_5 hB hz1 hk1 hS => ?_)
  obtain ⟨r6, rfl⟩ : ∃ z, z = u_6 := ⟨_, rfl⟩
  obtain ⟨hP, hK1, hD1⟩ := hB
  rw [ht] at hP
  have hD := hD1.weaken (fun k q _ h => hF_4 q.1 h)
  have hP : va_P D vwCl (mW cy a i r6 rl) H1 := hP
  have hD : va_D A (mW cy a i r6 rl) := hD
  obtain ⟨hRr, hE2, hr_5⟩ := hr_5
  have hRr : mRr r6 := hRr
  have hEr : mEr [32, 33] _ r6 := Er_tr hEr hE2 (by decide)
  refine lv_imul hx hb dX12_partOfLost_16 ?_
  refine lv_topi (fun v_7 ev_7 => ?_)
  refine lv_bipush (v := 100) hx hb dX12_partOfLost_17 (by decide) ?_
  refine lv_idiv hx hb dX12_partOfLost_19 (by decide) ?_
  refine lv_topi (fun v_8 ev_8 => ?_)
  refine lv_istore (lv' := [(4, .int v_8), (0, .ref (a 0)), (1, .int p0), (2, .int p1), (3, .int p2)]) hx hb dX12_partOfLost_20 hl (by decide) rfl (fun ls hl => ?_)
  refine lv_aload_n hx hb dX12_partOfLost_22 rfl (lv_at hl 1 rfl) ?_
  refine lv_iload_n hx hb dX12_partOfLost_23 rfl (lv_at hl 4 rfl) ?_
  refine lv_iload hx hb dX12_partOfLost_24 (lv_at hl 0 rfl) ?_
  refine lv_aload_n hx hb dX12_partOfLost_26 rfl (lv_at hl 1 rfl) ?_
  refine va_get (D := D) (ci := 12) (v := .ref (a 45)) (C := RX12) (T := TX12) (N := 91) hx hb hT iX12 hown hK hP 0 rfl rfl 57 (by decide) (hT _ t_133) (fun _ h9 => h9) rfl dX12_partOfLost_27 ?_
  refine lv_iload_n hx hb dX12_partOfLost_30 rfl (lv_at hl 2 rfl) ?_
  refine va_iald hx hb hK hP 45 0 rfl rfl (vp_inI (by omega) (by omega)) dX12_partOfLost_31 ?_
  refine lv_topi (fun v_9 ev_9 => ?_)
  have hgv_9 : 0 ≤ v_9.toInt ∧ v_9.toInt ≤ 999999 := by rw [ev_9]; exact hRr 45 _
  refine lv_icmp_ge (tgt := 44) hx hb dX12_partOfLost_32 (by decide) (fun c_10 => ?_) (fun c_10 => ?_)
  · have c_10 : v_9.toInt ≤ v_8.toInt := b_le c_10
    refine lv_iload hx hb dX12_partOfLost_44 (lv_at hl 0 rfl) ?_
    have hF_11 := rF hD hS hA
    refine va_calli (va_runV (As := [.int p2, .int v_8]) (rest := []) ⟨hx, hb, hml, hown, hT⟩ (c_X12_awards l D cy a i r6 rl p2 v_8 _ hRi hRr) (cwV 2 hT (gV t_134 t_135 t_136 t_137 t_6) rfl rfl rfl (by decide +kernel) ⟨Nat.le_of_ble_eq_true rfl, Nat.le_of_ble_eq_true rfl⟩) (rQ_v hP hK hD (va_recv hK hP (ci := 12) (q0 := 0) rfl rfl)) rfl rfl hl.1 rfl (lv_room (Nat.le_of_ble_eq_true rfl)) dX12_partOfLost_46 ⟨Nat.le_of_ble_eq_true rfl, Nat.le_of_ble_eq_true rfl⟩) hS (fun q _ h => hF_11 q h) hF_11 (fun r_12 u_13 t H1 locs ht hvm hr_12 hB hz1 hk1 hS => ?_)
    obtain ⟨i13, r13⟩ := u_13
    obtain ⟨hP, hK1, hD1⟩ := hB
    rw [ht] at hP
    have hD := hD1.weaken (fun k q _ h => hF_11 q.1 h)
    have hP : va_P D vwCl (mW cy a i13 r13 rl) H1 := hP
    have hD : va_D A (mW cy a i13 r13 rl) := hD
    obtain ⟨hRi, hRr, hE1, hE2, hr_12⟩ := hr_12
    have hRi : mRi i13 := hRi
    have hRr : mRr r13 := hRr
    have hEi : mEi [23, 24, 25, 26, 27, 28, 29, 30, 60] _ i13 := Ei_tr hEi hE1 (by decide)
    have hEr : mEr [32, 33] _ r13 := Er_tr hEr hE2 (by decide)
    subst hQ
    exact W.iret (v := r_12) hx hb hr (fun t ht hW => ⟨⟨_, (i13, r13), rfl, ⟨hRi, hRr, hEi, hEr, trivial⟩, by rw [ht]; exact hP, va_K.moved hW.alike hK, hD⟩, hS.F ht⟩) hS.2.2 dX12_partOfLost_49
  · have c_10 : v_8.toInt < v_9.toInt := b_nle c_10
    refine lv_aload_n hx hb dX12_partOfLost_35 rfl (lv_at hl 1 rfl) ?_
    refine va_get (D := D) (ci := 12) (v := .ref (a 45)) (C := RX12) (T := TX12) (N := 91) hx hb hT iX12 hown hK hP 0 rfl rfl 57 (by decide) (hT _ t_133) (fun _ h9 => h9) rfl dX12_partOfLost_36 ?_
    refine lv_iload_n hx hb dX12_partOfLost_39 rfl (lv_at hl 2 rfl) ?_
    refine va_iald hx hb hK hP 45 0 rfl rfl (vp_inI (by omega) (by omega)) dX12_partOfLost_40 ?_
    refine lv_topi (fun v_14 ev_14 => ?_)
    have hgv_14 : 0 ≤ v_14.toInt ∧ v_14.toInt ≤ 999999 := by rw [ev_14]; exact hRr 45 _
    refine lv_goto (tgt := 46) hx hb dX12_partOfLost_41 (by decide) ?_
    have hF_15 := rF hD hS hA
    refine va_calli (va_runV (As := [.int p2, .int v_14]) (rest := []) ⟨hx, hb, hml, hown, hT⟩ (c_X12_awards l D cy a i r6 rl p2 v_14 _ hRi hRr) (cwV 2 hT (gV t_134 t_135 t_136 t_137 t_6) rfl rfl rfl (by decide +kernel) ⟨Nat.le_of_ble_eq_true rfl, Nat.le_of_ble_eq_true rfl⟩) (rQ_v hP hK hD (va_recv hK hP (ci := 12) (q0 := 0) rfl rfl)) rfl rfl hl.1 rfl (lv_room (Nat.le_of_ble_eq_true rfl)) dX12_partOfLost_46 ⟨Nat.le_of_ble_eq_true rfl, Nat.le_of_ble_eq_true rfl⟩) hS (fun q _ h => hF_15 q h) hF_15 (fun r_16 u_17 t H1 locs ht hvm hr_16 hB hz1 hk1 hS => ?_)
    obtain ⟨i17, r17⟩ := u_17
    obtain ⟨hP, hK1, hD1⟩ := hB
    rw [ht] at hP
    have hD := hD1.weaken (fun k q _ h => hF_15 q.1 h)
    have hP : va_P D vwCl (mW cy a i17 r17 rl) H1 := hP
    have hD : va_D A (mW cy a i17 r17 rl) := hD
    obtain ⟨hRi, hRr, hE1, hE2, hr_16⟩ := hr_16
    have hRi : mRi i17 := hRi
    have hRr : mRr r17 := hRr
    have hEi : mEi [23, 24, 25, 26, 27, 28, 29, 30, 60] _ i17 := Ei_tr hEi hE1 (by decide)
    have hEr : mEr [32, 33] _ r17 := Er_tr hEr hE2 (by decide)
    subst hQ
    exact W.iret (v := r_16) hx hb hr (fun t ht hW => ⟨⟨_, (i17, r17), rfl, ⟨hRi, hRr, hEi, hEr, trivial⟩, by rw [ht]; exact hP, va_K.moved hW.alike hK, hD⟩, hS.F ht⟩) hS.2.2 dX12_partOfLost_49
set_option maxHeartbeats 4000000 in
set_option maxRecDepth 100000 in
theorem c_X12_awardOf (l : Launch) (D : va_G) (cy : Nat → ClassId) (a : Nat → Nat) (i : Nat → Int32) (r : Nat → Nat → Int32) (rl : Nat → Int64) (p0 p1 : Int32) (sz : Nat) (hRi : mRi i) (hRr : mRr r) (hE : mE i r) (q0 : 0 ≤ p0.toInt ∧ p0.toInt < (i 51).toInt) : Met l yX12_awardOf (Cond.code yX12_awardOf cX12_awardOf 4 (some .int) :: gT) { frames := 6, cells := 0, slots := 0, locals := 145 } (va_Pc [.ref (a 0), .int p0, .int p1] (rQ D cy (mW cy a i r rl) sz)) (va_Qi (fun (z : Int32) (u : (Nat → Int32) × (Nat → Nat → Int32)) => mRi u.1 ∧ mRr u.2 ∧ mEi [23, 24, 25, 26, 27, 28, 29, 30, 60] i u.1 ∧ mEr [32, 33, 34, 35, 36, 37, 38, 39] r u.2 ∧ True) (fun (u : (Nat → Int32) × (Nat → Nat → Int32)) t => va_P D vwCl (mW cy a u.1 u.2 rl) t.heap ∧ va_K D vwCl (vT cy) t ∧ va_D (va_A (mW cy a i r rl) sz) (mW cy a u.1 u.2 rl)) (va_A (mW cy a i r rl) sz)) 0 0 (va_A (mW cy a i r rl) sz) := by
  refine Met.ofQ (cc := cX12_awardOf) (maxL := 4) (ret := (some .int)) (by decide) rfl ?_
  intro p e s m args below meth c s₁ B hml hv Q hQ
  obtain ⟨rfl, hsz, hP, hK, hD0⟩ := hv
  have hx := B.exec
  have hb := B.bytes
  have hr := B.returns
  have hlocks := B.notSynchronized
  have hT : ∀ w ∈ gT, w.before _ s = true := fun w h => atoms_spec (ws := (Cond.code yX12_awardOf cX12_awardOf 4 (some .int) :: gT)) B.pre w (List.mem_cons_of_mem _ h)
  have hown : s.vm.findClass RX12 = some m.cls := findClass_of_methodNamed B.named
  subst hsz
  have hD := hD0.self (sz := s.heap.size)
  generalize hAe : va_A (mW cy a i r rl) s.heap.size = A at hD hQ
  have hA : ∀ q : Nat, s.heap.size ≤ q → A q := fun q h => by rw [← hAe]; exact Or.inr h
  have hS : va_S A s.heap s.heap [] := va_S.rf
  have hl := lv_entry ([.ref (a 0), .int p0, .int p1]) (n := 4) (Nat.le_of_ble_eq_true rfl)
  rw [lg_entry_eq]
  generalize (lg_sl ([.ref (a 0), .int p0, .int p1]) ++ List.replicate (4 - (lg_sl ([.ref (a 0), .int p0, .int p1])).length) Slot.unset).toArray = ls at hl ⊢
  have hl : lv_has ls 4 [(0, .ref (a 0)), (1, .int p0), (2, .int p1)] := hl
  have hEi : mEi [23, 24, 25, 26, 27, 28, 29, 30, 60] i i := Ei_rf
  have hEr : mEr [32, 33, 34, 35, 36, 37, 38, 39] r r := Er_rf
  have hRr0 := hRr
  have hg51 : 0 ≤ (i 51).toInt ∧ (i 51).toInt ≤ 30 := hRi 51
  have hg0 : 0 ≤ (i 0).toInt ∧ (i 0).toInt ≤ 6 := hRi 0
  have hc := hE.2.2.1 p0.toNatClampNeg (by have h9_p0 : p0.toNatClampNeg = p0.toInt.toNat := rfl; omega)
  refine lv_aload_n hx hb dX12_awardOf_0 rfl (lv_at hl 0 rfl) ?_
  refine lv_aload_n hx hb dX12_awardOf_1 rfl (lv_at hl 0 rfl) ?_
  refine va_get (D := D) (ci := 12) (v := .ref (a 40)) (C := RX12) (T := TX12) (N := 91) hx hb hT iX12 hown hK hP 0 rfl rfl 52 (by decide) (hT _ t_75) (fun _ h9 => h9) rfl dX12_awardOf_2 ?_
  refine lv_iload_n hx hb dX12_awardOf_5 rfl (lv_at hl 1 rfl) ?_
  refine va_iald hx hb hK hP 40 0 rfl rfl (vp_inI (by omega) (by omega)) dX12_awardOf_6 ?_
  refine lv_topi (fun v_1 ev_1 => ?_)
  have hgv_1 : 0 ≤ v_1.toInt ∧ v_1.toInt ≤ 5 := by rw [ev_1]; exact hRr 40 _
  have hvv_1 : v_1 = r 40 p0.toNatClampNeg := by rw [ev_1]
  have hF_2 := rF hD hS hA
  refine va_callv (va_runV (As := [.int v_1]) (rest := []) ⟨hx, hb, hml, hown, hT⟩ (c_X12_laysJoined l D cy a i r rl v_1 _ hRi hRr (by omega)) (cwV 1 hT (gV t_116 t_117 t_118 t_119 t_6) rfl rfl rfl (by decide +kernel) ⟨Nat.le_of_ble_eq_true rfl, Nat.le_of_ble_eq_true rfl⟩) (rQ_v hP hK hD (va_recv hK hP (ci := 12) (q0 := 0) rfl rfl)) rfl rfl hl.1 rfl (lv_room (Nat.le_of_ble_eq_true rfl)) dX12_awardOf_7 ⟨Nat.le_of_ble_eq_true rfl, Nat.le_of_ble_eq_true rfl⟩) hS (fun q _ h => hF_2 q h) hF_2 (fun u_4 t H1 locs ht hvm hr_3 hB hz1 hk1 hS => ?_)
  obtain ⟨r4, rfl⟩ : ∃ z, z = u_4 := ⟨_, rfl⟩
  obtain ⟨hP, hK1, hD1⟩ := hB
  rw [ht] at hP
  have hD := hD1.weaken (fun k q _ h => hF_2 q.1 h)
  have hP : va_P D vwCl (mW cy a i r4 rl) H1 := hP
  have hD : va_D A (mW cy a i r4 rl) := hD
  obtain ⟨hRr, hE2, hr_3⟩ := hr_3
  have hRr : mRr r4 := hRr
  have hEr : mEr [32, 33, 34, 35, 36, 37, 38, 39] _ r4 := Er_tr hEr hE2 (by decide)
  have qj : jOK r4 (r 41 p0.toNatClampNeg).toNatClampNeg := hr_3 _ (by have h9 : (r 41 p0.toNatClampNeg).toNatClampNeg = (r 41 p0.toNatClampNeg).toInt.toNat := rfl; have h8 := hRr0 41 p0.toNatClampNeg; have h7 : 0 ≤ (r 41 p0.toNatClampNeg).toInt := h8.1; rw [hvv_1]; omega)
  have hJ : r4 34 = r4 34 := rfl
  refine lv_aload_n hx hb dX12_awardOf_10 rfl (lv_at hl 0 rfl) ?_
  refine lv_aload_n hx hb dX12_awardOf_11 rfl (lv_at hl 0 rfl) ?_
  refine va_get (D := D) (ci := 12) (v := .ref (a 40)) (C := RX12) (T := TX12) (N := 91) hx hb hT iX12 hown hK hP 0 rfl rfl 52 (by decide) (hT _ t_75) (fun _ h9 => h9) rfl dX12_awardOf_12 ?_
  refine lv_iload_n hx hb dX12_awardOf_15 rfl (lv_at hl 1 rfl) ?_
  refine va_iald hx hb hK hP 40 0 rfl rfl (vp_inI (by omega) (by omega)) dX12_awardOf_16 ?_
  refine lv_topi (fun v_5 ev_5 => ?_)
  have hgv_5 : 0 ≤ v_5.toInt ∧ v_5.toInt ≤ 5 := by rw [ev_5]; exact hRr 40 _
  have hvv_5 : v_5 = r 40 p0.toNatClampNeg := by rw [ev_5, hEr 40 (by decide)]
  refine lv_aload_n hx hb dX12_awardOf_17 rfl (lv_at hl 0 rfl) ?_
  refine va_get (D := D) (ci := 12) (v := .ref (a 41)) (C := RX12) (T := TX12) (N := 91) hx hb hT iX12 hown hK hP 0 rfl rfl 53 (by decide) (hT _ t_76) (fun _ h9 => h9) rfl dX12_awardOf_18 ?_
  refine lv_iload_n hx hb dX12_awardOf_21 rfl (lv_at hl 1 rfl) ?_
  refine va_iald hx hb hK hP 41 0 rfl rfl (vp_inI (by omega) (by omega)) dX12_awardOf_22 ?_
  refine lv_topi (fun v_6 ev_6 => ?_)
  have hgv_6 : 0 ≤ v_6.toInt ∧ v_6.toInt ≤ 19 := by rw [ev_6]; exact hRr 41 _
  have hvv_6 : v_6 = r 41 p0.toNatClampNeg := by rw [ev_6, hEr 41 (by decide)]
  have hF_7 := rF hD hS hA
  refine va_calli (va_runV (As := [.int v_5, .int v_6]) (rest := []) ⟨hx, hb, hml, hown, hT⟩ (c_X12_lostOf l D cy a i r4 rl v_5 v_6 _ hRi hRr (mE_same hEi hEr (by decide) (by decide) hE) (by omega) (by omega) (by rw [hvv_6]; exact jOK_ee (congrFun (hJ : (r4) 34 = r4 34) _) qj) (by rw [hEr 14 (by decide), show (20 * v_5.toInt + v_6.toInt).toNat = 20 * v_5.toNatClampNeg + v_6.toNatClampNeg from by have h9_v_5 : v_5.toNatClampNeg = v_5.toInt.toNat := rfl; have h9_v_6 : v_6.toNatClampNeg = v_6.toInt.toNat := rfl; omega]; exact hE.2.1 _ _ (by have h9_v_5 : v_5.toNatClampNeg = v_5.toInt.toNat := rfl; omega) (by have h7 := hc.2; rw [← hvv_5, ← hvv_6] at h7; have h9_v_6 : v_6.toNatClampNeg = v_6.toInt.toNat := rfl; omega))) (cwV 2 hT (gV t_120 t_121 t_122 t_123 t_6) rfl rfl rfl (by decide +kernel) ⟨Nat.le_of_ble_eq_true rfl, Nat.le_of_ble_eq_true rfl⟩) (rQ_v hP hK hD (va_recv hK hP (ci := 12) (q0 := 0) rfl rfl)) rfl rfl hl.1 rfl (lv_room (Nat.le_of_ble_eq_true rfl)) dX12_awardOf_23 ⟨Nat.le_of_ble_eq_true rfl, Nat.le_of_ble_eq_true rfl⟩) hS (fun q _ h => hF_7 q h) hF_7 (fun r_8 u_9 t H1 locs ht hvm hr_8 hB hz1 hk1 hS => ?_)
  obtain ⟨r9, rfl⟩ : ∃ z, z = u_9 := ⟨_, rfl⟩
  obtain ⟨hP, hK1, hD1⟩ := hB
  rw [ht] at hP
  have hD := hD1.weaken (fun k q _ h => hF_7 q.1 h)
  have hP : va_P D vwCl (mW cy a i r9 rl) H1 := hP
  have hD : va_D A (mW cy a i r9 rl) := hD
  obtain ⟨hRr, hE2, hr_8⟩ := hr_8
  have hRr : mRr r9 := hRr
  have hEr : mEr [32, 33, 34, 35, 36, 37, 38, 39] _ r9 := Er_tr hEr hE2 (by decide)
  have hJ : r9 34 = r4 34 := (hE2 34 (by decide)).trans hJ
  refine lv_istore_n (lv' := [(3, .int r_8), (0, .ref (a 0)), (1, .int p0), (2, .int p1)]) hx hb dX12_awardOf_26 rfl hl (by decide) rfl (fun ls hl => ?_)
  refine lv_iload_n hx hb dX12_awardOf_27 rfl (lv_at hl 0 rfl) ?_
  refine lv_if_ne (tgt := 38) hx hb dX12_awardOf_28 (by decide) (fun c_10 => ?_) (fun c_10 => ?_)
  · have c_10 : r_8.toInt ≠ 0 := b_ne c_10
    refine lv_aload_n hx hb dX12_awardOf_38 rfl (lv_at hl 1 rfl) ?_
    refine va_get (D := D) (ci := 12) (v := .ref (a 45)) (C := RX12) (T := TX12) (N := 91) hx hb hT iX12 hown hK hP 0 rfl rfl 57 (by decide) (hT _ t_133) (fun _ h9 => h9) rfl dX12_awardOf_39 ?_
    refine lv_iload_n hx hb dX12_awardOf_42 rfl (lv_at hl 2 rfl) ?_
    refine va_iald hx hb hK hP 45 0 rfl rfl (vp_inI (by omega) (by omega)) dX12_awardOf_43 ?_
    refine lv_topi (fun v_11 ev_11 => ?_)
    have hgv_11 : 0 ≤ v_11.toInt ∧ v_11.toInt ≤ 999999 := by rw [ev_11]; exact hRr 45 _
    refine lv_iload_n hx hb dX12_awardOf_44 rfl (lv_at hl 0 rfl) ?_
    refine lv_icmp_lt (tgt := 55) hx hb dX12_awardOf_45 (by decide) (fun c_12 => ?_) (fun c_12 => ?_)
    · have c_12 : v_11.toInt < r_8.toInt := b_lt c_12
      refine lv_aload_n hx hb dX12_awardOf_55 rfl (lv_at hl 1 rfl) ?_
      refine lv_iload_n hx hb dX12_awardOf_56 rfl (lv_at hl 2 rfl) ?_
      have hF_13 := rF hD hS hA
      refine va_callv (va_runV (As := [.int p0]) (rest := []) ⟨hx, hb, hml, hown, hT⟩ (c_X12_feelsClaim l D cy a i r9 rl p0 _ hRi hRr (by omega) (by rw [hEr 41 (by decide)]; exact jOK_ee (congrFun (hJ : (r9) 34 = r4 34) _) qj)) (cwV 1 hT (gV t_129 t_130 t_131 t_132 t_6) rfl rfl rfl (by decide +kernel) ⟨Nat.le_of_ble_eq_true rfl, Nat.le_of_ble_eq_true rfl⟩) (rQ_v hP hK hD (va_recv hK hP (ci := 12) (q0 := 0) rfl rfl)) rfl rfl hl.1 rfl (lv_room (Nat.le_of_ble_eq_true rfl)) dX12_awardOf_57 ⟨Nat.le_of_ble_eq_true rfl, Nat.le_of_ble_eq_true rfl⟩) hS (fun q _ h => hF_13 q h) hF_13 (fun u_15 t H1 locs ht hvm hr_14 hB hz1 hk1 hS => ?_)
      obtain ⟨r15, rfl⟩ : ∃ z, z = u_15 := ⟨_, rfl⟩
      obtain ⟨hP, hK1, hD1⟩ := hB
      rw [ht] at hP
      have hD := hD1.weaken (fun k q _ h => hF_13 q.1 h)
      have hP : va_P D vwCl (mW cy a i r15 rl) H1 := hP
      have hD : va_D A (mW cy a i r15 rl) := hD
      obtain ⟨hRr, hE2, hr_14⟩ := hr_14
      have hRr : mRr r15 := hRr
      have hEr : mEr [32, 33, 34, 35, 36, 37, 38, 39] _ r15 := Er_tr hEr hE2 (by decide)
      have hJ : r15 34 = r4 34 := (hE2 34 (by decide)).trans hJ
      refine lv_aload_n hx hb dX12_awardOf_60 rfl (lv_at hl 1 rfl) ?_
      refine va_get (D := D) (ci := 12) (v := .ref (a 46)) (C := RX12) (T := TX12) (N := 91) hx hb hT iX12 hown hK hP 0 rfl rfl 58 (by decide) (hT _ t_138) (fun _ h9 => h9) rfl dX12_awardOf_61 ?_
      refine lv_iload_n hx hb dX12_awardOf_64 rfl (lv_at hl 2 rfl) ?_
      refine va_iald hx hb hK hP 46 0 rfl rfl (vp_inI (by omega) (by omega)) dX12_awardOf_65 ?_
      refine lv_topi (fun v_16 ev_16 => ?_)
      have hgv_16 : -1 ≤ v_16.toInt ∧ v_16.toInt ≤ 9999 := by rw [ev_16]; exact hRr 46 _
      refine lv_iconst (v := (-1)) hx hb dX12_awardOf_66 (by decide) ?_
      refine lv_icmp_eq (tgt := 80) hx hb dX12_awardOf_67 (by decide) (fun c_17 => ?_) (fun c_17 => ?_)
      · have c_17 : v_16.toInt = (-1) := b_eq c_17
        refine lv_iload_n hx hb dX12_awardOf_80 rfl (lv_at hl 3 rfl) ?_
        refine lv_aload_n hx hb dX12_awardOf_81 rfl (lv_at hl 1 rfl) ?_
        refine va_get (D := D) (ci := 12) (v := .ref (a 44)) (C := RX12) (T := TX12) (N := 91) hx hb hT iX12 hown hK hP 0 rfl rfl 56 (by decide) (hT _ t_139) (fun _ h9 => h9) rfl dX12_awardOf_82 ?_
        refine lv_iload_n hx hb dX12_awardOf_85 rfl (lv_at hl 2 rfl) ?_
        refine va_iald hx hb hK hP 44 0 rfl rfl (vp_inI (by omega) (by omega)) dX12_awardOf_86 ?_
        refine lv_topi (fun v_18 ev_18 => ?_)
        have hgv_18 : 0 ≤ v_18.toInt ∧ v_18.toInt ≤ 9999 := by rw [ev_18]; exact hRr 44 _
        refine lv_isub hx hb dX12_awardOf_87 ?_
        refine lv_topi (fun v_19 ev_19 => ?_)
        refine lv_aload_n hx hb dX12_awardOf_88 rfl (lv_at hl 1 rfl) ?_
        refine lv_bipush (v := 100) hx hb dX12_awardOf_89 (by decide) ?_
        refine lv_sipush (v := 999) hx hb dX12_awardOf_91 (by decide) ?_
        refine lv_sipush (v := 999) hx hb dX12_awardOf_94 (by decide) ?_
        have hF_20 := rF hD hS hA
        refine va_calli (va_runV (As := [.int 100, .int 999, .int 999]) (rest := [.int v_19]) ⟨hx, hb, hml, hown, hT⟩ (c_X12_byLaw l D cy a i r15 rl 100 999 999 _ hRi hRr (mE_same hEi hEr (by decide) (by decide) hE) (by first | omega | decide)) (cwV 3 hT (gV t_97 t_98 t_99 t_100 t_6) rfl rfl rfl (by decide +kernel) ⟨Nat.le_of_ble_eq_true rfl, Nat.le_of_ble_eq_true rfl⟩) (rQ_v hP hK hD (va_recv hK hP (ci := 12) (q0 := 0) rfl rfl)) rfl rfl hl.1 rfl (lv_room (Nat.le_of_ble_eq_true rfl)) dX12_awardOf_97 ⟨Nat.le_of_ble_eq_true rfl, Nat.le_of_ble_eq_true rfl⟩) hS (fun q _ h => hF_20 q h) hF_20 (fun r_21 u_22 t H1 locs ht hvm hr_21 hB hz1 hk1 hS => ?_)
        obtain ⟨r22, rfl⟩ : ∃ z, z = u_22 := ⟨_, rfl⟩
        obtain ⟨hP, hK1, hD1⟩ := hB
        rw [ht] at hP
        have hD := hD1.weaken (fun k q _ h => hF_20 q.1 h)
        have hP : va_P D vwCl (mW cy a i r22 rl) H1 := hP
        have hD : va_D A (mW cy a i r22 rl) := hD
        obtain ⟨hRr, hE2, hr_21⟩ := hr_21
        have hRr : mRr r22 := hRr
        have hEr : mEr [32, 33, 34, 35, 36, 37, 38, 39] _ r22 := Er_tr hEr hE2 (by decide)
        have hJ : r22 34 = r4 34 := (hE2 34 (by decide)).trans hJ
        refine lv_icmp_le (tgt := 112) hx hb dX12_awardOf_100 (by decide) (fun c_23 => ?_) (fun c_23 => ?_)
        · have c_23 : v_19.toInt ≤ r_21.toInt := b_le c_23
          refine lv_aload_n hx hb dX12_awardOf_112 rfl (lv_at hl 1 rfl) ?_
          refine lv_iconst (v := 4) hx hb dX12_awardOf_113 (by decide) ?_
          refine lv_aload_n hx hb dX12_awardOf_114 rfl (lv_at hl 1 rfl) ?_
          refine va_get (D := D) (ci := 12) (v := .ref (a 45)) (C := RX12) (T := TX12) (N := 91) hx hb hT iX12 hown hK hP 0 rfl rfl 57 (by decide) (hT _ t_133) (fun _ h9 => h9) rfl dX12_awardOf_115 ?_
          refine lv_iload_n hx hb dX12_awardOf_118 rfl (lv_at hl 2 rfl) ?_
          refine va_iald hx hb hK hP 45 0 rfl rfl (vp_inI (by omega) (by omega)) dX12_awardOf_119 ?_
          refine lv_topi (fun v_24 ev_24 => ?_)
          have hgv_24 : 0 ≤ v_24.toInt ∧ v_24.toInt ≤ 999999 := by rw [ev_24]; exact hRr 45 _
          have hF_25 := rF hD hS hA
          refine va_calli (va_runV (As := [.int 4, .int v_24]) (rest := []) ⟨hx, hb, hml, hown, hT⟩ (c_X12_awards l D cy a i r22 rl 4 v_24 _ hRi hRr) (cwV 2 hT (gV t_134 t_135 t_136 t_137 t_6) rfl rfl rfl (by decide +kernel) ⟨Nat.le_of_ble_eq_true rfl, Nat.le_of_ble_eq_true rfl⟩) (rQ_v hP hK hD (va_recv hK hP (ci := 12) (q0 := 0) rfl rfl)) rfl rfl hl.1 rfl (lv_room (Nat.le_of_ble_eq_true rfl)) dX12_awardOf_120 ⟨Nat.le_of_ble_eq_true rfl, Nat.le_of_ble_eq_true rfl⟩) hS (fun q _ h => hF_25 q h) hF_25 (fun r_26 u_27 t H1 locs ht hvm hr_26 hB hz1 hk1 hS => ?_)
          obtain ⟨i27, r27⟩ := u_27
          obtain ⟨hP, hK1, hD1⟩ := hB
          rw [ht] at hP
          have hD := hD1.weaken (fun k q _ h => hF_25 q.1 h)
          have hP : va_P D vwCl (mW cy a i27 r27 rl) H1 := hP
          have hD : va_D A (mW cy a i27 r27 rl) := hD
          obtain ⟨hRi, hRr, hE1, hE2, hr_26⟩ := hr_26
          have hRi : mRi i27 := hRi
          have hRr : mRr r27 := hRr
          have hEi : mEi [23, 24, 25, 26, 27, 28, 29, 30, 60] _ i27 := Ei_tr hEi hE1 (by decide)
          have hEr : mEr [32, 33, 34, 35, 36, 37, 38, 39] _ r27 := Er_tr hEr hE2 (by decide)
          subst hQ
          exact W.iret (v := r_26) hx hb hr (fun t ht hW => ⟨⟨_, (i27, r27), rfl, ⟨hRi, hRr, hEi, hEr, trivial⟩, by rw [ht]; exact hP, va_K.moved hW.alike hK, hD⟩, hS.F ht⟩) hS.2.2 dX12_awardOf_123
        · have c_23 : r_21.toInt < v_19.toInt := b_nle c_23
          refine lv_aload_n hx hb dX12_awardOf_103 rfl (lv_at hl 1 rfl) ?_
          refine lv_iconst (v := 3) hx hb dX12_awardOf_104 (by decide) ?_
          refine lv_iload_n hx hb dX12_awardOf_105 rfl (lv_at hl 0 rfl) ?_
          have hF_28 := rF hD hS hA
          refine va_calli (va_runV (As := [.int 3, .int r_8]) (rest := []) ⟨hx, hb, hml, hown, hT⟩ (c_X12_awards l D cy a i r22 rl 3 r_8 _ hRi hRr) (cwV 2 hT (gV t_134 t_135 t_136 t_137 t_6) rfl rfl rfl (by decide +kernel) ⟨Nat.le_of_ble_eq_true rfl, Nat.le_of_ble_eq_true rfl⟩) (rQ_v hP hK hD (va_recv hK hP (ci := 12) (q0 := 0) rfl rfl)) rfl rfl hl.1 rfl (lv_room (Nat.le_of_ble_eq_true rfl)) dX12_awardOf_106 ⟨Nat.le_of_ble_eq_true rfl, Nat.le_of_ble_eq_true rfl⟩) hS (fun q _ h => hF_28 q h) hF_28 (fun r_29 u_30 t H1 locs ht hvm hr_29 hB hz1 hk1 hS => ?_)
          obtain ⟨i30, r30⟩ := u_30
          obtain ⟨hP, hK1, hD1⟩ := hB
          rw [ht] at hP
          have hD := hD1.weaken (fun k q _ h => hF_28 q.1 h)
          have hP : va_P D vwCl (mW cy a i30 r30 rl) H1 := hP
          have hD : va_D A (mW cy a i30 r30 rl) := hD
          obtain ⟨hRi, hRr, hE1, hE2, hr_29⟩ := hr_29
          have hRi : mRi i30 := hRi
          have hRr : mRr r30 := hRr
          have hEi : mEi [23, 24, 25, 26, 27, 28, 29, 30, 60] _ i30 := Ei_tr hEi hE1 (by decide)
          have hEr : mEr [32, 33, 34, 35, 36, 37, 38, 39] _ r30 := Er_tr hEr hE2 (by decide)
          refine lv_goto (tgt := 123) hx hb dX12_awardOf_109 (by decide) ?_
          subst hQ
          exact W.iret (v := r_29) hx hb hr (fun t ht hW => ⟨⟨_, (i30, r30), rfl, ⟨hRi, hRr, hEi, hEr, trivial⟩, by rw [ht]; exact hP, va_K.moved hW.alike hK, hD⟩, hS.F ht⟩) hS.2.2 dX12_awardOf_123
      · have c_17 : v_16.toInt ≠ (-1) := b_ne c_17
        refine lv_aload_n hx hb dX12_awardOf_70 rfl (lv_at hl 1 rfl) ?_
        refine va_get (D := D) (ci := 12) (v := .ref (a 46)) (C := RX12) (T := TX12) (N := 91) hx hb hT iX12 hown hK hP 0 rfl rfl 58 (by decide) (hT _ t_138) (fun _ h9 => h9) rfl dX12_awardOf_71 ?_
        refine lv_iload_n hx hb dX12_awardOf_74 rfl (lv_at hl 2 rfl) ?_
        refine va_iald hx hb hK hP 46 0 rfl rfl (vp_inI (by omega) (by omega)) dX12_awardOf_75 ?_
        refine lv_topi (fun v_31 ev_31 => ?_)
        have hgv_31 : -1 ≤ v_31.toInt ∧ v_31.toInt ≤ 9999 := by rw [ev_31]; exact hRr 46 _
        refine lv_iload_n hx hb dX12_awardOf_76 rfl (lv_at hl 3 rfl) ?_
        refine lv_icmp_le (tgt := 124) hx hb dX12_awardOf_77 (by decide) (fun c_32 => ?_) (fun c_32 => ?_)
        · have c_32 : v_31.toInt ≤ p1.toInt := b_le c_32
          refine lv_aload_n hx hb dX12_awardOf_124 rfl (lv_at hl 1 rfl) ?_
          have hF_33 := rF hD hS hA
          refine va_calli (va_runV (As := []) (rest := []) ⟨hx, hb, hml, hown, hT⟩ (c_X12_anyB l D cy a i r15 rl _ hRi hRr (mE_same hEi hEr (by decide) (by decide) hE)) (cwV 0 hT (gV t_140 t_141 t_142 t_143 t_6) rfl rfl rfl (by decide +kernel) ⟨Nat.le_of_ble_eq_true rfl, Nat.le_of_ble_eq_true rfl⟩) (rQ_v hP hK hD (va_recv hK hP (ci := 12) (q0 := 0) rfl rfl)) rfl rfl hl.1 rfl (lv_room (Nat.le_of_ble_eq_true rfl)) dX12_awardOf_125 ⟨Nat.le_of_ble_eq_true rfl, Nat.le_of_ble_eq_true rfl⟩) hS (fun q _ h => hF_33 q h) hF_33 (fun r_34 u_35 t H1 locs ht hvm hr_34 hB hz1 hk1 hS => ?_)
          obtain ⟨r35, rfl⟩ : ∃ z, z = u_35 := ⟨_, rfl⟩
          obtain ⟨hP, hK1, hD1⟩ := hB
          rw [ht] at hP
          have hD := hD1.weaken (fun k q _ h => hF_33 q.1 h)
          have hP : va_P D vwCl (mW cy a i r35 rl) H1 := hP
          have hD : va_D A (mW cy a i r35 rl) := hD
          obtain ⟨hRr, hE2, hr_34⟩ := hr_34
          have hRr : mRr r35 := hRr
          have hEr : mEr [32, 33, 34, 35, 36, 37, 38, 39] _ r35 := Er_tr hEr hE2 (by decide)
          have hJ : r35 34 = r4 34 := (hE2 34 (by decide)).trans hJ
          rcases hr_34 with rfl | rfl
          · skip
            refine lv_if_eq (tgt := 163) hx hb dX12_awardOf_128 (by decide) (fun c_36 => ?_) (fun c_36 => absurd (by decide) c_36)
            refine lv_aload_n hx hb dX12_awardOf_163 rfl (lv_at hl 1 rfl) ?_
            refine lv_iload_n hx hb dX12_awardOf_164 rfl (lv_at hl 2 rfl) ?_
            refine vp_callSi (W.runV (As := [.int p0]) (rest := []) ⟨hx, hb, hml, hown, hT⟩ (c_X12_hasEvidence l D cy a i r35 rl p0 hRi hRr (by omega)) (cwV 1 hT (gV t_144 t_145 t_146 t_147 t_6) rfl rfl rfl (by decide +kernel) ⟨Nat.le_of_ble_eq_true rfl, Nat.le_of_ble_eq_true rfl⟩) (rP_v hP hK (va_recv hK hP (ci := 12) (q0 := 0) rfl rfl)) rfl rfl hl.1 rfl (lv_room (Nat.le_of_ble_eq_true rfl)) dX12_awardOf_165 ⟨Nat.le_of_ble_eq_true rfl, Nat.le_of_ble_eq_true rfl⟩) (fun r_37 hr_37 => ?_)
            rcases hr_37 with rfl | rfl
            · skip
              refine lv_if_eq (tgt := 182) hx hb dX12_awardOf_168 (by decide) (fun c_38 => ?_) (fun c_38 => absurd (by decide) c_38)
              refine lv_aload_n hx hb dX12_awardOf_182 rfl (lv_at hl 1 rfl) ?_
              refine lv_bipush (v := 8) hx hb dX12_awardOf_183 (by decide) ?_
              refine lv_aload_n hx hb dX12_awardOf_185 rfl (lv_at hl 1 rfl) ?_
              refine va_get (D := D) (ci := 12) (v := .ref (a 45)) (C := RX12) (T := TX12) (N := 91) hx hb hT iX12 hown hK hP 0 rfl rfl 57 (by decide) (hT _ t_133) (fun _ h9 => h9) rfl dX12_awardOf_186 ?_
              refine lv_iload_n hx hb dX12_awardOf_189 rfl (lv_at hl 2 rfl) ?_
              refine va_iald hx hb hK hP 45 0 rfl rfl (vp_inI (by omega) (by omega)) dX12_awardOf_190 ?_
              refine lv_topi (fun v_39 ev_39 => ?_)
              have hgv_39 : 0 ≤ v_39.toInt ∧ v_39.toInt ≤ 999999 := by rw [ev_39]; exact hRr 45 _
              have hF_40 := rF hD hS hA
              refine va_calli (va_runV (As := [.int 8, .int v_39]) (rest := []) ⟨hx, hb, hml, hown, hT⟩ (c_X12_awards l D cy a i r35 rl 8 v_39 _ hRi hRr) (cwV 2 hT (gV t_134 t_135 t_136 t_137 t_6) rfl rfl rfl (by decide +kernel) ⟨Nat.le_of_ble_eq_true rfl, Nat.le_of_ble_eq_true rfl⟩) (rQ_v hP hK hD (va_recv hK hP (ci := 12) (q0 := 0) rfl rfl)) rfl rfl hl.1 rfl (lv_room (Nat.le_of_ble_eq_true rfl)) dX12_awardOf_191 ⟨Nat.le_of_ble_eq_true rfl, Nat.le_of_ble_eq_true rfl⟩) hS (fun q _ h => hF_40 q h) hF_40 (fun r_41 u_42 t H1 locs ht hvm hr_41 hB hz1 hk1 hS => ?_)
              obtain ⟨i42, r42⟩ := u_42
              obtain ⟨hP, hK1, hD1⟩ := hB
              rw [ht] at hP
              have hD := hD1.weaken (fun k q _ h => hF_40 q.1 h)
              have hP : va_P D vwCl (mW cy a i42 r42 rl) H1 := hP
              have hD : va_D A (mW cy a i42 r42 rl) := hD
              obtain ⟨hRi, hRr, hE1, hE2, hr_41⟩ := hr_41
              have hRi : mRi i42 := hRi
              have hRr : mRr r42 := hRr
              have hEi : mEi [23, 24, 25, 26, 27, 28, 29, 30, 60] _ i42 := Ei_tr hEi hE1 (by decide)
              have hEr : mEr [32, 33, 34, 35, 36, 37, 38, 39] _ r42 := Er_tr hEr hE2 (by decide)
              subst hQ
              exact W.iret (v := r_41) hx hb hr (fun t ht hW => ⟨⟨_, (i42, r42), rfl, ⟨hRi, hRr, hEi, hEr, trivial⟩, by rw [ht]; exact hP, va_K.moved hW.alike hK, hD⟩, hS.F ht⟩) hS.2.2 dX12_awardOf_194
            · skip
              refine lv_if_eq (tgt := 182) hx hb dX12_awardOf_168 (by decide) (fun c_43 => absurd c_43 (by decide)) (fun c_43 => ?_)
              refine lv_aload_n hx hb dX12_awardOf_171 rfl (lv_at hl 1 rfl) ?_
              refine lv_iload_n hx hb dX12_awardOf_172 rfl (lv_at hl 2 rfl) ?_
              refine lv_iload_n hx hb dX12_awardOf_173 rfl (lv_at hl 0 rfl) ?_
              refine lv_bipush (v := 7) hx hb dX12_awardOf_174 (by decide) ?_
              have hF_44 := rF hD hS hA
              refine va_calli (va_runV (As := [.int p0, .int r_8, .int 7]) (rest := []) ⟨hx, hb, hml, hown, hT⟩ (c_X12_partOfLost l D cy a i r35 rl p0 r_8 7 _ hRi hRr (mE_same hEi hEr (by decide) (by decide) hE) (by omega) (by rw [hEr 41 (by decide)]; exact jOK_ee (congrFun (hJ : (r35) 34 = r4 34) _) qj)) (cwV 3 hT (gV t_148 t_149 t_150 t_151 t_6) rfl rfl rfl (by decide +kernel) ⟨Nat.le_of_ble_eq_true rfl, Nat.le_of_ble_eq_true rfl⟩) (rQ_v hP hK hD (va_recv hK hP (ci := 12) (q0 := 0) rfl rfl)) rfl rfl hl.1 rfl (lv_room (Nat.le_of_ble_eq_true rfl)) dX12_awardOf_176 ⟨Nat.le_of_ble_eq_true rfl, Nat.le_of_ble_eq_true rfl⟩) hS (fun q _ h => hF_44 q h) hF_44 (fun r_45 u_46 t H1 locs ht hvm hr_45 hB hz1 hk1 hS => ?_)
              obtain ⟨i46, r46⟩ := u_46
              obtain ⟨hP, hK1, hD1⟩ := hB
              rw [ht] at hP
              have hD := hD1.weaken (fun k q _ h => hF_44 q.1 h)
              have hP : va_P D vwCl (mW cy a i46 r46 rl) H1 := hP
              have hD : va_D A (mW cy a i46 r46 rl) := hD
              obtain ⟨hRi, hRr, hE1, hE2, hr_45⟩ := hr_45
              have hRi : mRi i46 := hRi
              have hRr : mRr r46 := hRr
              have hEi : mEi [23, 24, 25, 26, 27, 28, 29, 30, 60] _ i46 := Ei_tr hEi hE1 (by decide)
              have hEr : mEr [32, 33, 34, 35, 36, 37, 38, 39] _ r46 := Er_tr hEr hE2 (by decide)
              refine lv_goto (tgt := 194) hx hb dX12_awardOf_179 (by decide) ?_
              subst hQ
              exact W.iret (v := r_45) hx hb hr (fun t ht hW => ⟨⟨_, (i46, r46), rfl, ⟨hRi, hRr, hEi, hEr, trivial⟩, by rw [ht]; exact hP, va_K.moved hW.alike hK, hD⟩, hS.F ht⟩) hS.2.2 dX12_awardOf_194
          · skip
            refine lv_if_eq (tgt := 163) hx hb dX12_awardOf_128 (by decide) (fun c_47 => absurd c_47 (by decide)) (fun c_47 => ?_)
            refine lv_aload_n hx hb dX12_awardOf_131 rfl (lv_at hl 1 rfl) ?_
            refine va_get (D := D) (ci := 12) (v := .ref (a 47)) (C := RX12) (T := TX12) (N := 91) hx hb hT iX12 hown hK hP 0 rfl rfl 59 (by decide) (hT _ t_152) (fun _ h9 => h9) rfl dX12_awardOf_132 ?_
            refine lv_iload_n hx hb dX12_awardOf_135 rfl (lv_at hl 2 rfl) ?_
            refine va_zald hx hb hK hP 47 2 rfl rfl (vp_inI (by omega) (by omega)) dX12_awardOf_136 ?_
            refine lv_topi (fun v_48 ev_48 => ?_)
            refine lv_if_eq (tgt := 155) hx hb dX12_awardOf_137 (by decide) (fun c_49 => ?_) (fun c_49 => ?_)
            · have c_49 : v_48.toInt = 0 := b_eq c_49
              refine lv_aload_n hx hb dX12_awardOf_155 rfl (lv_at hl 1 rfl) ?_
              refine lv_iload_n hx hb dX12_awardOf_156 rfl (lv_at hl 2 rfl) ?_
              refine lv_iload_n hx hb dX12_awardOf_157 rfl (lv_at hl 0 rfl) ?_
              refine lv_iconst (v := 5) hx hb dX12_awardOf_158 (by decide) ?_
              have hF_50 := rF hD hS hA
              refine va_calli (va_runV (As := [.int p0, .int r_8, .int 5]) (rest := []) ⟨hx, hb, hml, hown, hT⟩ (c_X12_partOfLost l D cy a i r35 rl p0 r_8 5 _ hRi hRr (mE_same hEi hEr (by decide) (by decide) hE) (by omega) (by rw [hEr 41 (by decide)]; exact jOK_ee (congrFun (hJ : (r35) 34 = r4 34) _) qj)) (cwV 3 hT (gV t_148 t_149 t_150 t_151 t_6) rfl rfl rfl (by decide +kernel) ⟨Nat.le_of_ble_eq_true rfl, Nat.le_of_ble_eq_true rfl⟩) (rQ_v hP hK hD (va_recv hK hP (ci := 12) (q0 := 0) rfl rfl)) rfl rfl hl.1 rfl (lv_room (Nat.le_of_ble_eq_true rfl)) dX12_awardOf_159 ⟨Nat.le_of_ble_eq_true rfl, Nat.le_of_ble_eq_true rfl⟩) hS (fun q _ h => hF_50 q h) hF_50 (fun r_51 u_52 t H1 locs ht hvm hr_51 hB hz1 hk1 hS => ?_)
              obtain ⟨i52, r52⟩ := u_52
              obtain ⟨hP, hK1, hD1⟩ := hB
              rw [ht] at hP
              have hD := hD1.weaken (fun k q _ h => hF_50 q.1 h)
              have hP : va_P D vwCl (mW cy a i52 r52 rl) H1 := hP
              have hD : va_D A (mW cy a i52 r52 rl) := hD
              obtain ⟨hRi, hRr, hE1, hE2, hr_51⟩ := hr_51
              have hRi : mRi i52 := hRi
              have hRr : mRr r52 := hRr
              have hEi : mEi [23, 24, 25, 26, 27, 28, 29, 30, 60] _ i52 := Ei_tr hEi hE1 (by decide)
              have hEr : mEr [32, 33, 34, 35, 36, 37, 38, 39] _ r52 := Er_tr hEr hE2 (by decide)
              subst hQ
              exact W.iret (v := r_51) hx hb hr (fun t ht hW => ⟨⟨_, (i52, r52), rfl, ⟨hRi, hRr, hEi, hEr, trivial⟩, by rw [ht]; exact hP, va_K.moved hW.alike hK, hD⟩, hS.F ht⟩) hS.2.2 dX12_awardOf_162
            · have c_49 : v_48.toInt ≠ 0 := b_ne c_49
              refine lv_aload_n hx hb dX12_awardOf_140 rfl (lv_at hl 1 rfl) ?_
              refine lv_bipush (v := 6) hx hb dX12_awardOf_141 (by decide) ?_
              refine lv_aload_n hx hb dX12_awardOf_143 rfl (lv_at hl 1 rfl) ?_
              refine va_get (D := D) (ci := 12) (v := .ref (a 45)) (C := RX12) (T := TX12) (N := 91) hx hb hT iX12 hown hK hP 0 rfl rfl 57 (by decide) (hT _ t_133) (fun _ h9 => h9) rfl dX12_awardOf_144 ?_
              refine lv_iload_n hx hb dX12_awardOf_147 rfl (lv_at hl 2 rfl) ?_
              refine va_iald hx hb hK hP 45 0 rfl rfl (vp_inI (by omega) (by omega)) dX12_awardOf_148 ?_
              refine lv_topi (fun v_53 ev_53 => ?_)
              have hgv_53 : 0 ≤ v_53.toInt ∧ v_53.toInt ≤ 999999 := by rw [ev_53]; exact hRr 45 _
              have hF_54 := rF hD hS hA
              refine va_calli (va_runV (As := [.int 6, .int v_53]) (rest := []) ⟨hx, hb, hml, hown, hT⟩ (c_X12_awards l D cy a i r35 rl 6 v_53 _ hRi hRr) (cwV 2 hT (gV t_134 t_135 t_136 t_137 t_6) rfl rfl rfl (by decide +kernel) ⟨Nat.le_of_ble_eq_true rfl, Nat.le_of_ble_eq_true rfl⟩) (rQ_v hP hK hD (va_recv hK hP (ci := 12) (q0 := 0) rfl rfl)) rfl rfl hl.1 rfl (lv_room (Nat.le_of_ble_eq_true rfl)) dX12_awardOf_149 ⟨Nat.le_of_ble_eq_true rfl, Nat.le_of_ble_eq_true rfl⟩) hS (fun q _ h => hF_54 q h) hF_54 (fun r_55 u_56 t H1 locs ht hvm hr_55 hB hz1 hk1 hS => ?_)
              obtain ⟨i56, r56⟩ := u_56
              obtain ⟨hP, hK1, hD1⟩ := hB
              rw [ht] at hP
              have hD := hD1.weaken (fun k q _ h => hF_54 q.1 h)
              have hP : va_P D vwCl (mW cy a i56 r56 rl) H1 := hP
              have hD : va_D A (mW cy a i56 r56 rl) := hD
              obtain ⟨hRi, hRr, hE1, hE2, hr_55⟩ := hr_55
              have hRi : mRi i56 := hRi
              have hRr : mRr r56 := hRr
              have hEi : mEi [23, 24, 25, 26, 27, 28, 29, 30, 60] _ i56 := Ei_tr hEi hE1 (by decide)
              have hEr : mEr [32, 33, 34, 35, 36, 37, 38, 39] _ r56 := Er_tr hEr hE2 (by decide)
              refine lv_goto (tgt := 162) hx hb dX12_awardOf_152 (by decide) ?_
              subst hQ
              exact W.iret (v := r_55) hx hb hr (fun t ht hW => ⟨⟨_, (i56, r56), rfl, ⟨hRi, hRr, hEi, hEr, trivial⟩, by rw [ht]; exact hP, va_K.moved hW.alike hK, hD⟩, hS.F ht⟩) hS.2.2 dX12_awardOf_162
        · have c_32 : p1.toInt < v_31.toInt := b_nle c_32
          refine lv_iload_n hx hb dX12_awardOf_80 rfl (lv_at hl 3 rfl) ?_
          refine lv_aload_n hx hb dX12_awardOf_81 rfl (lv_at hl 1 rfl) ?_
          refine va_get (D := D) (ci := 12) (v := .ref (a 44)) (C := RX12) (T := TX12) (N := 91) hx hb hT iX12 hown hK hP 0 rfl rfl 56 (by decide) (hT _ t_139) (fun _ h9 => h9) rfl dX12_awardOf_82 ?_
          refine lv_iload_n hx hb dX12_awardOf_85 rfl (lv_at hl 2 rfl) ?_
          refine va_iald hx hb hK hP 44 0 rfl rfl (vp_inI (by omega) (by omega)) dX12_awardOf_86 ?_
          refine lv_topi (fun v_57 ev_57 => ?_)
          have hgv_57 : 0 ≤ v_57.toInt ∧ v_57.toInt ≤ 9999 := by rw [ev_57]; exact hRr 44 _
          refine lv_isub hx hb dX12_awardOf_87 ?_
          refine lv_topi (fun v_58 ev_58 => ?_)
          refine lv_aload_n hx hb dX12_awardOf_88 rfl (lv_at hl 1 rfl) ?_
          refine lv_bipush (v := 100) hx hb dX12_awardOf_89 (by decide) ?_
          refine lv_sipush (v := 999) hx hb dX12_awardOf_91 (by decide) ?_
          refine lv_sipush (v := 999) hx hb dX12_awardOf_94 (by decide) ?_
          have hF_59 := rF hD hS hA
          refine va_calli (va_runV (As := [.int 100, .int 999, .int 999]) (rest := [.int v_58]) ⟨hx, hb, hml, hown, hT⟩ (c_X12_byLaw l D cy a i r15 rl 100 999 999 _ hRi hRr (mE_same hEi hEr (by decide) (by decide) hE) (by first | omega | decide)) (cwV 3 hT (gV t_97 t_98 t_99 t_100 t_6) rfl rfl rfl (by decide +kernel) ⟨Nat.le_of_ble_eq_true rfl, Nat.le_of_ble_eq_true rfl⟩) (rQ_v hP hK hD (va_recv hK hP (ci := 12) (q0 := 0) rfl rfl)) rfl rfl hl.1 rfl (lv_room (Nat.le_of_ble_eq_true rfl)) dX12_awardOf_97 ⟨Nat.le_of_ble_eq_true rfl, Nat.le_of_ble_eq_true rfl⟩) hS (fun q _ h => hF_59 q h) hF_59 (fun r_60 u_61 t H1 locs ht hvm hr_60 hB hz1 hk1 hS => ?_)
          obtain ⟨r61, rfl⟩ : ∃ z, z = u_61 := ⟨_, rfl⟩
          obtain ⟨hP, hK1, hD1⟩ := hB
          rw [ht] at hP
          have hD := hD1.weaken (fun k q _ h => hF_59 q.1 h)
          have hP : va_P D vwCl (mW cy a i r61 rl) H1 := hP
          have hD : va_D A (mW cy a i r61 rl) := hD
          obtain ⟨hRr, hE2, hr_60⟩ := hr_60
          have hRr : mRr r61 := hRr
          have hEr : mEr [32, 33, 34, 35, 36, 37, 38, 39] _ r61 := Er_tr hEr hE2 (by decide)
          have hJ : r61 34 = r4 34 := (hE2 34 (by decide)).trans hJ
          refine lv_icmp_le (tgt := 112) hx hb dX12_awardOf_100 (by decide) (fun c_62 => ?_) (fun c_62 => ?_)
          · have c_62 : v_58.toInt ≤ r_60.toInt := b_le c_62
            refine lv_aload_n hx hb dX12_awardOf_112 rfl (lv_at hl 1 rfl) ?_
            refine lv_iconst (v := 4) hx hb dX12_awardOf_113 (by decide) ?_
            refine lv_aload_n hx hb dX12_awardOf_114 rfl (lv_at hl 1 rfl) ?_
            refine va_get (D := D) (ci := 12) (v := .ref (a 45)) (C := RX12) (T := TX12) (N := 91) hx hb hT iX12 hown hK hP 0 rfl rfl 57 (by decide) (hT _ t_133) (fun _ h9 => h9) rfl dX12_awardOf_115 ?_
            refine lv_iload_n hx hb dX12_awardOf_118 rfl (lv_at hl 2 rfl) ?_
            refine va_iald hx hb hK hP 45 0 rfl rfl (vp_inI (by omega) (by omega)) dX12_awardOf_119 ?_
            refine lv_topi (fun v_63 ev_63 => ?_)
            have hgv_63 : 0 ≤ v_63.toInt ∧ v_63.toInt ≤ 999999 := by rw [ev_63]; exact hRr 45 _
            have hF_64 := rF hD hS hA
            refine va_calli (va_runV (As := [.int 4, .int v_63]) (rest := []) ⟨hx, hb, hml, hown, hT⟩ (c_X12_awards l D cy a i r61 rl 4 v_63 _ hRi hRr) (cwV 2 hT (gV t_134 t_135 t_136 t_137 t_6) rfl rfl rfl (by decide +kernel) ⟨Nat.le_of_ble_eq_true rfl, Nat.le_of_ble_eq_true rfl⟩) (rQ_v hP hK hD (va_recv hK hP (ci := 12) (q0 := 0) rfl rfl)) rfl rfl hl.1 rfl (lv_room (Nat.le_of_ble_eq_true rfl)) dX12_awardOf_120 ⟨Nat.le_of_ble_eq_true rfl, Nat.le_of_ble_eq_true rfl⟩) hS (fun q _ h => hF_64 q h) hF_64 (fun r_65 u_66 t H1 locs ht hvm hr_65 hB hz1 hk1 hS => ?_)
            obtain ⟨i66, r66⟩ := u_66
            obtain ⟨hP, hK1, hD1⟩ := hB
            rw [ht] at hP
            have hD := hD1.weaken (fun k q _ h => hF_64 q.1 h)
            have hP : va_P D vwCl (mW cy a i66 r66 rl) H1 := hP
            have hD : va_D A (mW cy a i66 r66 rl) := hD
            obtain ⟨hRi, hRr, hE1, hE2, hr_65⟩ := hr_65
            have hRi : mRi i66 := hRi
            have hRr : mRr r66 := hRr
            have hEi : mEi [23, 24, 25, 26, 27, 28, 29, 30, 60] _ i66 := Ei_tr hEi hE1 (by decide)
            have hEr : mEr [32, 33, 34, 35, 36, 37, 38, 39] _ r66 := Er_tr hEr hE2 (by decide)
            subst hQ
            exact W.iret (v := r_65) hx hb hr (fun t ht hW => ⟨⟨_, (i66, r66), rfl, ⟨hRi, hRr, hEi, hEr, trivial⟩, by rw [ht]; exact hP, va_K.moved hW.alike hK, hD⟩, hS.F ht⟩) hS.2.2 dX12_awardOf_123
          · have c_62 : r_60.toInt < v_58.toInt := b_nle c_62
            refine lv_aload_n hx hb dX12_awardOf_103 rfl (lv_at hl 1 rfl) ?_
            refine lv_iconst (v := 3) hx hb dX12_awardOf_104 (by decide) ?_
            refine lv_iload_n hx hb dX12_awardOf_105 rfl (lv_at hl 0 rfl) ?_
            have hF_67 := rF hD hS hA
            refine va_calli (va_runV (As := [.int 3, .int r_8]) (rest := []) ⟨hx, hb, hml, hown, hT⟩ (c_X12_awards l D cy a i r61 rl 3 r_8 _ hRi hRr) (cwV 2 hT (gV t_134 t_135 t_136 t_137 t_6) rfl rfl rfl (by decide +kernel) ⟨Nat.le_of_ble_eq_true rfl, Nat.le_of_ble_eq_true rfl⟩) (rQ_v hP hK hD (va_recv hK hP (ci := 12) (q0 := 0) rfl rfl)) rfl rfl hl.1 rfl (lv_room (Nat.le_of_ble_eq_true rfl)) dX12_awardOf_106 ⟨Nat.le_of_ble_eq_true rfl, Nat.le_of_ble_eq_true rfl⟩) hS (fun q _ h => hF_67 q h) hF_67 (fun r_68 u_69 t H1 locs ht hvm hr_68 hB hz1 hk1 hS => ?_)
            obtain ⟨i69, r69⟩ := u_69
            obtain ⟨hP, hK1, hD1⟩ := hB
            rw [ht] at hP
            have hD := hD1.weaken (fun k q _ h => hF_67 q.1 h)
            have hP : va_P D vwCl (mW cy a i69 r69 rl) H1 := hP
            have hD : va_D A (mW cy a i69 r69 rl) := hD
            obtain ⟨hRi, hRr, hE1, hE2, hr_68⟩ := hr_68
            have hRi : mRi i69 := hRi
            have hRr : mRr r69 := hRr
            have hEi : mEi [23, 24, 25, 26, 27, 28, 29, 30, 60] _ i69 := Ei_tr hEi hE1 (by decide)
            have hEr : mEr [32, 33, 34, 35, 36, 37, 38, 39] _ r69 := Er_tr hEr hE2 (by decide)
            refine lv_goto (tgt := 123) hx hb dX12_awardOf_109 (by decide) ?_
            subst hQ
            exact W.iret (v := r_68) hx hb hr (fun t ht hW => ⟨⟨_, (i69, r69), rfl, ⟨hRi, hRr, hEi, hEr, trivial⟩, by rw [ht]; exact hP, va_K.moved hW.alike hK, hD⟩, hS.F ht⟩) hS.2.2 dX12_awardOf_123
    · have c_12 : r_8.toInt ≤ v_11.toInt := b_nlt c_12
      refine lv_aload_n hx hb dX12_awardOf_48 rfl (lv_at hl 1 rfl) ?_
      refine lv_iconst (v := 2) hx hb dX12_awardOf_49 (by decide) ?_
      refine lv_iload_n hx hb dX12_awardOf_50 rfl (lv_at hl 0 rfl) ?_
      have hF_70 := rF hD hS hA
      refine va_calli (va_runV (As := [.int 2, .int r_8]) (rest := []) ⟨hx, hb, hml, hown, hT⟩ (c_X12_awards l D cy a i r9 rl 2 r_8 _ hRi hRr) (cwV 2 hT (gV t_134 t_135 t_136 t_137 t_6) rfl rfl rfl (by decide +kernel) ⟨Nat.le_of_ble_eq_true rfl, Nat.le_of_ble_eq_true rfl⟩) (rQ_v hP hK hD (va_recv hK hP (ci := 12) (q0 := 0) rfl rfl)) rfl rfl hl.1 rfl (lv_room (Nat.le_of_ble_eq_true rfl)) dX12_awardOf_51 ⟨Nat.le_of_ble_eq_true rfl, Nat.le_of_ble_eq_true rfl⟩) hS (fun q _ h => hF_70 q h) hF_70 (fun r_71 u_72 t H1 locs ht hvm hr_71 hB hz1 hk1 hS => ?_)
      obtain ⟨i72, r72⟩ := u_72
      obtain ⟨hP, hK1, hD1⟩ := hB
      rw [ht] at hP
      have hD := hD1.weaken (fun k q _ h => hF_70 q.1 h)
      have hP : va_P D vwCl (mW cy a i72 r72 rl) H1 := hP
      have hD : va_D A (mW cy a i72 r72 rl) := hD
      obtain ⟨hRi, hRr, hE1, hE2, hr_71⟩ := hr_71
      have hRi : mRi i72 := hRi
      have hRr : mRr r72 := hRr
      have hEi : mEi [23, 24, 25, 26, 27, 28, 29, 30, 60] _ i72 := Ei_tr hEi hE1 (by decide)
      have hEr : mEr [32, 33, 34, 35, 36, 37, 38, 39] _ r72 := Er_tr hEr hE2 (by decide)
      subst hQ
      exact W.iret (v := r_71) hx hb hr (fun t ht hW => ⟨⟨_, (i72, r72), rfl, ⟨hRi, hRr, hEi, hEr, trivial⟩, by rw [ht]; exact hP, va_K.moved hW.alike hK, hD⟩, hS.F ht⟩) hS.2.2 dX12_awardOf_54
  · have c_10 : r_8.toInt = 0 := b_nne c_10
    refine lv_aload_n hx hb dX12_awardOf_31 rfl (lv_at hl 1 rfl) ?_
    refine lv_iconst (v := 1) hx hb dX12_awardOf_32 (by decide) ?_
    refine lv_iconst (v := 0) hx hb dX12_awardOf_33 (by decide) ?_
    have hF_73 := rF hD hS hA
    refine va_calli (va_runV (As := [.int 1, .int 0]) (rest := []) ⟨hx, hb, hml, hown, hT⟩ (c_X12_awards l D cy a i r9 rl 1 0 _ hRi hRr) (cwV 2 hT (gV t_134 t_135 t_136 t_137 t_6) rfl rfl rfl (by decide +kernel) ⟨Nat.le_of_ble_eq_true rfl, Nat.le_of_ble_eq_true rfl⟩) (rQ_v hP hK hD (va_recv hK hP (ci := 12) (q0 := 0) rfl rfl)) rfl rfl hl.1 rfl (lv_room (Nat.le_of_ble_eq_true rfl)) dX12_awardOf_34 ⟨Nat.le_of_ble_eq_true rfl, Nat.le_of_ble_eq_true rfl⟩) hS (fun q _ h => hF_73 q h) hF_73 (fun r_74 u_75 t H1 locs ht hvm hr_74 hB hz1 hk1 hS => ?_)
    obtain ⟨i75, r75⟩ := u_75
    obtain ⟨hP, hK1, hD1⟩ := hB
    rw [ht] at hP
    have hD := hD1.weaken (fun k q _ h => hF_73 q.1 h)
    have hP : va_P D vwCl (mW cy a i75 r75 rl) H1 := hP
    have hD : va_D A (mW cy a i75 r75 rl) := hD
    obtain ⟨hRi, hRr, hE1, hE2, hr_74⟩ := hr_74
    have hRi : mRi i75 := hRi
    have hRr : mRr r75 := hRr
    have hEi : mEi [23, 24, 25, 26, 27, 28, 29, 30, 60] _ i75 := Ei_tr hEi hE1 (by decide)
    have hEr : mEr [32, 33, 34, 35, 36, 37, 38, 39] _ r75 := Er_tr hEr hE2 (by decide)
    subst hQ
    exact W.iret (v := r_74) hx hb hr (fun t ht hW => ⟨⟨_, (i75, r75), rfl, ⟨hRi, hRr, hEi, hEr, trivial⟩, by rw [ht]; exact hP, va_K.moved hW.alike hK, hD⟩, hS.F ht⟩) hS.2.2 dX12_awardOf_37
set_option maxHeartbeats 4000000 in
set_option maxRecDepth 100000 in
theorem c_X12_award (l : Launch) (D : va_G) (cy : Nat → ClassId) (a : Nat → Nat) (i : Nat → Int32) (r : Nat → Nat → Int32) (rl : Nat → Int64) (p0 p1 p2 : Int32) (sz : Nat) (hRi : mRi i) (hRr : mRr r) (hE : mE i r) : Met l yX12_award (Cond.code yX12_award cX12_award 5 (some .int) :: gT) { frames := 7, cells := 0, slots := 0, locals := 168 } (va_Pc [.ref (a 0), .int p0, .int p1, .int p2] (rQ D cy (mW cy a i r rl) sz)) (va_Qi (fun (z : Int32) (u : (Nat → Int32) × (Nat → Nat → Int32)) => mRi u.1 ∧ mRr u.2 ∧ mEi [23, 24, 25, 26, 27, 28, 29, 30, 60] i u.1 ∧ mEr [32, 33, 34, 35, 36, 37, 38, 39] r u.2 ∧ True) (fun (u : (Nat → Int32) × (Nat → Nat → Int32)) t => va_P D vwCl (mW cy a u.1 u.2 rl) t.heap ∧ va_K D vwCl (vT cy) t ∧ va_D (va_A (mW cy a i r rl) sz) (mW cy a u.1 u.2 rl)) (va_A (mW cy a i r rl) sz)) 0 0 (va_A (mW cy a i r rl) sz) := by
  refine Met.ofQ (cc := cX12_award) (maxL := 5) (ret := (some .int)) (by decide) rfl ?_
  intro p e s m args below meth c s₁ B hml hv Q hQ
  obtain ⟨rfl, hsz, hP, hK, hD0⟩ := hv
  have hx := B.exec
  have hb := B.bytes
  have hr := B.returns
  have hlocks := B.notSynchronized
  have hT : ∀ w ∈ gT, w.before _ s = true := fun w h => atoms_spec (ws := (Cond.code yX12_award cX12_award 5 (some .int) :: gT)) B.pre w (List.mem_cons_of_mem _ h)
  have hown : s.vm.findClass RX12 = some m.cls := findClass_of_methodNamed B.named
  subst hsz
  have hD := hD0.self (sz := s.heap.size)
  generalize hAe : va_A (mW cy a i r rl) s.heap.size = A at hD hQ
  have hA : ∀ q : Nat, s.heap.size ≤ q → A q := fun q h => by rw [← hAe]; exact Or.inr h
  have hS : va_S A s.heap s.heap [] := va_S.rf
  have hl := lv_entry ([.ref (a 0), .int p0, .int p1, .int p2]) (n := 5) (Nat.le_of_ble_eq_true rfl)
  rw [lg_entry_eq]
  generalize (lg_sl ([.ref (a 0), .int p0, .int p1, .int p2]) ++ List.replicate (5 - (lg_sl ([.ref (a 0), .int p0, .int p1, .int p2])).length) Slot.unset).toArray = ls at hl ⊢
  have hl : lv_has ls 5 [(0, .ref (a 0)), (1, .int p0), (2, .int p1), (3, .int p2)] := hl
  have hEi : mEi [23, 24, 25, 26, 27, 28, 29, 30, 60] i i := Ei_rf
  have hEr : mEr [32, 33, 34, 35, 36, 37, 38, 39] r r := Er_rf
  refine lv_aload_n hx hb dX12_award_0 rfl (lv_at hl 0 rfl) ?_
  refine lv_iload_n hx hb dX12_award_1 rfl (lv_at hl 1 rfl) ?_
  refine vp_callSi (W.runV (As := [.int p0]) (rest := []) ⟨hx, hb, hml, hown, hT⟩ (c_X12_isClaim l D cy a i r rl p0 hRi hRr) (cwV 1 hT (gV t_153 t_154 t_155 t_156 t_6) rfl rfl rfl (by decide +kernel) ⟨Nat.le_of_ble_eq_true rfl, Nat.le_of_ble_eq_true rfl⟩) (rP_v hP hK (va_recv hK hP (ci := 12) (q0 := 0) rfl rfl)) rfl rfl hl.1 rfl (lv_room (Nat.le_of_ble_eq_true rfl)) dX12_award_2 ⟨Nat.le_of_ble_eq_true rfl, Nat.le_of_ble_eq_true rfl⟩) (fun r_1 hr_1 => ?_)
  have hg_2 : 0 ≤ (i 51).toInt ∧ (i 51).toInt ≤ 30 := hRi 51
  have hr_1 : BR r_1 (0 ≤ p0.toInt ∧ p0.toInt < (i 51).toInt) 1 0 := hr_1
  rcases hr_1 with ⟨rfl, h_3⟩ | ⟨rfl, h_3⟩
  · skip
    refine lv_if_eq (tgt := 24) hx hb dX12_award_5 (by decide) (fun c_4 => absurd c_4 (by decide)) (fun c_4 => ?_)
    refine lv_iload_n hx hb dX12_award_8 rfl (lv_at hl 2 rfl) ?_
    refine vp_callSi (W.runS (As := [.int p1]) (rest := []) ⟨hx, hb, hml, hown, hT⟩ (c_X12_isDay l p1) (va_cwS 1 hT (gS t_157 t_158 t_159 t_6) rfl rfl rfl (by decide +kernel) ⟨Nat.le_of_ble_eq_true rfl, Nat.le_of_ble_eq_true rfl⟩) preT rfl rfl hl.1 rfl (lv_room (Nat.le_of_ble_eq_true rfl)) dX12_award_9 ⟨Nat.le_of_ble_eq_true rfl, Nat.le_of_ble_eq_true rfl⟩) (fun r_5 hr_5 => ?_)
    have hr_5 : BR r_5 (0 ≤ p1.toInt ∧ p1.toInt ≤ 9999) 1 0 := hr_5
    rcases hr_5 with ⟨rfl, h_6⟩ | ⟨rfl, h_6⟩
    · skip
      refine lv_if_eq (tgt := 24) hx hb dX12_award_12 (by decide) (fun c_7 => absurd c_7 (by decide)) (fun c_7 => ?_)
      refine lv_iload_n hx hb dX12_award_15 rfl (lv_at hl 3 rfl) ?_
      refine lv_iconst (v := 0) hx hb dX12_award_16 (by decide) ?_
      refine lv_iconst (v := 1) hx hb dX12_award_17 (by decide) ?_
      refine vp_callSi (W.runS (As := [.int p2, .int 0, .int 1]) (rest := []) ⟨hx, hb, hml, hown, hT⟩ (c_X12_in l p2 0 1) (va_cwS 3 hT (gS t_113 t_114 t_115 t_6) rfl rfl rfl (by decide +kernel) ⟨Nat.le_of_ble_eq_true rfl, Nat.le_of_ble_eq_true rfl⟩) preT rfl rfl hl.1 rfl (lv_room (Nat.le_of_ble_eq_true rfl)) dX12_award_18 ⟨Nat.le_of_ble_eq_true rfl, Nat.le_of_ble_eq_true rfl⟩) (fun r_8 hr_8 => ?_)
      have hr_8 : BR r_8 (0 ≤ p2.toInt ∧ p2.toInt ≤ 1) 1 0 := hr_8
      rcases hr_8 with ⟨rfl, h_9⟩ | ⟨rfl, h_9⟩
      · skip
        refine lv_if_ne (tgt := 26) hx hb dX12_award_21 (by decide) (fun c_10 => ?_) (fun c_10 => absurd c_10 (by decide))
        refine lv_aload_n hx hb dX12_award_26 rfl (lv_at hl 0 rfl) ?_
        refine va_get (D := D) (ci := 12) (v := .ref (a 44)) (C := RX12) (T := TX12) (N := 91) hx hb hT iX12 hown hK hP 0 rfl rfl 56 (by decide) (hT _ t_139) (fun _ h9 => h9) rfl dX12_award_27 ?_
        refine lv_iload_n hx hb dX12_award_30 rfl (lv_at hl 1 rfl) ?_
        refine va_iald hx hb hK hP 44 0 rfl rfl (vp_inI (by omega) (by omega)) dX12_award_31 ?_
        refine lv_topi (fun v_11 ev_11 => ?_)
        have hgv_11 : 0 ≤ v_11.toInt ∧ v_11.toInt ≤ 9999 := by rw [ev_11]; exact hRr 44 _
        refine lv_iload_n hx hb dX12_award_32 rfl (lv_at hl 2 rfl) ?_
        refine lv_icmp_le (tgt := 39) hx hb dX12_award_33 (by decide) (fun c_12 => ?_) (fun c_12 => ?_)
        · have c_12 : v_11.toInt ≤ p1.toInt := b_le c_12
          refine lv_aload_n hx hb dX12_award_39 rfl (lv_at hl 0 rfl) ?_
          refine lv_iload_n hx hb dX12_award_40 rfl (lv_at hl 1 rfl) ?_
          refine lv_iload_n hx hb dX12_award_41 rfl (lv_at hl 2 rfl) ?_
          have hF_13 := rF hD hS hA
          refine va_calli (va_runV (As := [.int p0, .int p1]) (rest := []) ⟨hx, hb, hml, hown, hT⟩ (c_X12_awardOf l D cy a i r rl p0 p1 _ hRi hRr (mE_same hEi hEr (by decide) (by decide) hE) (by omega)) (cwV 2 hT (gV t_160 t_161 t_162 t_163 t_6) rfl rfl rfl (by decide +kernel) ⟨Nat.le_of_ble_eq_true rfl, Nat.le_of_ble_eq_true rfl⟩) (rQ_v hP hK hD (va_recv hK hP (ci := 12) (q0 := 0) rfl rfl)) rfl rfl hl.1 rfl (lv_room (Nat.le_of_ble_eq_true rfl)) dX12_award_42 ⟨Nat.le_of_ble_eq_true rfl, Nat.le_of_ble_eq_true rfl⟩) hS (fun q _ h => hF_13 q h) hF_13 (fun r_14 u_15 t H1 locs ht hvm hr_14 hB hz1 hk1 hS => ?_)
          obtain ⟨i15, r15⟩ := u_15
          obtain ⟨hP, hK1, hD1⟩ := hB
          rw [ht] at hP
          have hD := hD1.weaken (fun k q _ h => hF_13 q.1 h)
          have hP : va_P D vwCl (mW cy a i15 r15 rl) H1 := hP
          have hD : va_D A (mW cy a i15 r15 rl) := hD
          obtain ⟨hRi, hRr, hE1, hE2, hr_14⟩ := hr_14
          have hRi : mRi i15 := hRi
          have hRr : mRr r15 := hRr
          have hEi : mEi [23, 24, 25, 26, 27, 28, 29, 30, 60] _ i15 := Ei_tr hEi hE1 (by decide)
          have hEr : mEr [32, 33, 34, 35, 36, 37, 38, 39] _ r15 := Er_tr hEr hE2 (by decide)
          refine lv_istore (lv' := [(4, .int r_14), (0, .ref (a 0)), (1, .int p0), (2, .int p1), (3, .int p2)]) hx hb dX12_award_45 hl (by decide) rfl (fun ls hl => ?_)
          refine lv_iload_n hx hb dX12_award_47 rfl (lv_at hl 4 rfl) ?_
          refine lv_if_ne (tgt := 56) hx hb dX12_award_48 (by decide) (fun c_16 => ?_) (fun c_16 => ?_)
          · have c_16 : p2.toInt ≠ 0 := b_ne c_16
            refine lv_aload_n hx hb dX12_award_56 rfl (lv_at hl 1 rfl) ?_
            refine va_get (D := D) (ci := 12) (v := .int (i15 60)) (C := RX12) (T := TX12) (N := 91) hx hb hT iX12 hown hK hP 0 rfl rfl 60 (by decide) (hT _ t_128) (fun _ h9 => h9) rfl dX12_award_57 ?_
            subst hQ
            exact W.iret (v := i15 60) hx hb hr (fun t ht hW => ⟨⟨_, (i15, r15), rfl, ⟨hRi, hRr, hEi, hEr, trivial⟩, by rw [ht]; exact hP, va_K.moved hW.alike hK, hD⟩, hS.F ht⟩) hS.2.2 dX12_award_60
          · have c_16 : p2.toInt = 0 := b_nne c_16
            refine lv_iload hx hb dX12_award_51 (lv_at hl 0 rfl) ?_
            refine lv_goto (tgt := 60) hx hb dX12_award_53 (by decide) ?_
            subst hQ
            exact W.iret (v := r_14) hx hb hr (fun t ht hW => ⟨⟨_, (i15, r15), rfl, ⟨hRi, hRr, hEi, hEr, trivial⟩, by rw [ht]; exact hP, va_K.moved hW.alike hK, hD⟩, hS.F ht⟩) hS.2.2 dX12_award_60
        · have c_12 : p1.toInt < v_11.toInt := b_nle c_12
          refine lv_bipush (v := (-2)) hx hb dX12_award_36 (by decide) ?_
          subst hQ
          exact W.iret (v := (-2)) hx hb hr (fun t ht hW => ⟨⟨_, (i, r), rfl, ⟨hRi, hRr, hEi, hEr, trivial⟩, by rw [ht]; exact hP, va_K.moved hW.alike hK, hD⟩, hS.F ht⟩) hS.2.2 dX12_award_38
      · skip
        refine lv_if_ne (tgt := 26) hx hb dX12_award_21 (by decide) (fun c_17 => absurd (by decide) c_17) (fun c_17 => ?_)
        refine lv_iconst (v := (-1)) hx hb dX12_award_24 (by decide) ?_
        subst hQ
        exact W.iret (v := (-1)) hx hb hr (fun t ht hW => ⟨⟨_, (i, r), rfl, ⟨hRi, hRr, hEi, hEr, trivial⟩, by rw [ht]; exact hP, va_K.moved hW.alike hK, hD⟩, hS.F ht⟩) hS.2.2 dX12_award_25
    · skip
      refine lv_if_eq (tgt := 24) hx hb dX12_award_12 (by decide) (fun c_18 => ?_) (fun c_18 => absurd (by decide) c_18)
      refine lv_iconst (v := (-1)) hx hb dX12_award_24 (by decide) ?_
      subst hQ
      exact W.iret (v := (-1)) hx hb hr (fun t ht hW => ⟨⟨_, (i, r), rfl, ⟨hRi, hRr, hEi, hEr, trivial⟩, by rw [ht]; exact hP, va_K.moved hW.alike hK, hD⟩, hS.F ht⟩) hS.2.2 dX12_award_25
  · skip
    refine lv_if_eq (tgt := 24) hx hb dX12_award_5 (by decide) (fun c_19 => ?_) (fun c_19 => absurd (by decide) c_19)
    refine lv_iconst (v := (-1)) hx hb dX12_award_24 (by decide) ?_
    subst hQ
    exact W.iret (v := (-1)) hx hb hr (fun t ht hW => ⟨⟨_, (i, r), rfl, ⟨hRi, hRr, hEi, hEr, trivial⟩, by rw [ht]; exact hP, va_K.moved hW.alike hK, hD⟩, hS.F ht⟩) hS.2.2 dX12_award_25
set_option maxHeartbeats 4000000 in
set_option maxRecDepth 100000 in
theorem c_X12_awardsAll (l : Launch) (D : va_G) (cy : Nat → ClassId) (a : Nat → Nat) (i : Nat → Int32) (r : Nat → Nat → Int32) (rl : Nat → Int64) (p0 p1 : Int32) (sz : Nat) (hRi : mRi i) (hRr : mRr r) (hE : mE i r) : Met l yX12_awardsAll (Cond.code yX12_awardsAll cX12_awardsAll 5 (some .int) :: gT) { frames := 7, cells := 0, slots := 0, locals := 168 } (va_Pc [.ref (a 0), .int p0, .int p1] (rQ D cy (mW cy a i r rl) sz)) (va_Qi (fun (z : Int32) (u : (Nat → Int32) × (Nat → Nat → Int32)) => mRi u.1 ∧ mRr u.2 ∧ mEi [23, 24, 25, 26, 27, 28, 29, 30, 60] i u.1 ∧ mEr [32, 33, 34, 35, 36, 37, 38, 39] r u.2 ∧ True) (fun (u : (Nat → Int32) × (Nat → Nat → Int32)) t => va_P D vwCl (mW cy a u.1 u.2 rl) t.heap ∧ va_K D vwCl (vT cy) t ∧ va_D (va_A (mW cy a i r rl) sz) (mW cy a u.1 u.2 rl)) (va_A (mW cy a i r rl) sz)) 0 0 (va_A (mW cy a i r rl) sz) := by
  refine Met.ofQ (cc := cX12_awardsAll) (maxL := 5) (ret := (some .int)) (by decide) rfl ?_
  intro p e s m args below meth c s₁ B hml hv Q hQ
  obtain ⟨rfl, hsz, hP, hK, hD0⟩ := hv
  have hx := B.exec
  have hb := B.bytes
  have hr := B.returns
  have hlocks := B.notSynchronized
  have hT : ∀ w ∈ gT, w.before _ s = true := fun w h => atoms_spec (ws := (Cond.code yX12_awardsAll cX12_awardsAll 5 (some .int) :: gT)) B.pre w (List.mem_cons_of_mem _ h)
  have hown : s.vm.findClass RX12 = some m.cls := findClass_of_methodNamed B.named
  subst hsz
  have hD := hD0.self (sz := s.heap.size)
  generalize hAe : va_A (mW cy a i r rl) s.heap.size = A at hD hQ
  have hA : ∀ q : Nat, s.heap.size ≤ q → A q := fun q h => by rw [← hAe]; exact Or.inr h
  have hS : va_S A s.heap s.heap [] := va_S.rf
  have hl := lv_entry ([.ref (a 0), .int p0, .int p1]) (n := 5) (Nat.le_of_ble_eq_true rfl)
  rw [lg_entry_eq]
  generalize (lg_sl ([.ref (a 0), .int p0, .int p1]) ++ List.replicate (5 - (lg_sl ([.ref (a 0), .int p0, .int p1])).length) Slot.unset).toArray = ls at hl ⊢
  have hl : lv_has ls 5 [(0, .ref (a 0)), (1, .int p0), (2, .int p1)] := hl
  have hEi : mEi [23, 24, 25, 26, 27, 28, 29, 30, 60] i i := Ei_rf
  have hEr : mEr [32, 33, 34, 35, 36, 37, 38, 39] r r := Er_rf
  refine lv_iconst (v := 0) hx hb dX12_awardsAll_0 (by decide) ?_
  refine lv_istore_n (lv' := [(3, .int 0), (0, .ref (a 0)), (1, .int p0), (2, .int p1)]) hx hb dX12_awardsAll_1 rfl hl (by decide) rfl (fun ls hl => ?_)
  refine lv_iconst (v := 0) hx hb dX12_awardsAll_2 (by decide) ?_
  refine lv_istore (lv' := [(4, .int 0), (3, .int 0), (0, .ref (a 0)), (1, .int p0), (2, .int p1)]) hx hb dX12_awardsAll_3 hl (by decide) rfl (fun ls hl => ?_)
  have loop_1 : ∀ (n : Nat) (x1_4 : Int32) (x1_3 : Int32) (i1 : Nat → Int32) (r1 : Nat → Nat → Int32) (H : Heap) (locs : List Loc) (ls : Array Slot), (30 - x1_4.toInt).toNat < n → (0 ≤ x1_4.toInt ∧ x1_4.toInt ≤ 30) → mRi i1 → mEi [23, 24, 25, 26, 27, 28, 29, 30, 60] i i1 → mRr r1 → mEr [32, 33, 34, 35, 36, 37, 38, 39] r r1 → va_P D vwCl (mW cy a i1 r1 rl) H → va_D A (mW cy a i1 r1 rl) → va_S A s.heap H locs → lv_has ls 5 [(4, .int x1_4), (3, .int x1_3), (0, .ref (a 0)), (1, .int p0), (2, .int p1)] → W p l e ({ frames := 7, cells := 0, slots := 0, locals := 168 } : Room) s m ([.ref (a 0), .int p0, .int p1] : List Value).toArray below meth c H locs 0 0 Q (F0 m 5 ls []) := by
    intro n
    induction n with
    | zero =>
      intro x1_4 x1_3 i1 r1 H locs ls hm1 hf1_0 hRi hEi hRr hEr hP hD hS hl
      exact absurd hm1 (by omega)
    | succ n ih1 =>
      intro x1_4 x1_3 i1 r1 H locs ls hm1 hf1_0 hRi hEi hRr hEr hP hD hS hl
      refine lv_iload hx hb dX12_awardsAll_5 (lv_at hl 0 rfl) ?_
      refine lv_aload_n hx hb dX12_awardsAll_7 rfl (lv_at hl 2 rfl) ?_
      refine va_get (D := D) (ci := 12) (v := .int (i1 51)) (C := RX12) (T := TX12) (N := 91) hx hb hT iX12 hown hK hP 0 rfl rfl 51 (by decide) (hT _ t_11) (fun _ h9 => h9) rfl dX12_awardsAll_8 ?_
      have hg_2 : 0 ≤ (i1 51).toInt ∧ (i1 51).toInt ≤ 30 := hRi 51
      refine lv_icmp_ge (tgt := 56) hx hb dX12_awardsAll_11 (by decide) (fun c_3 => ?_) (fun c_3 => ?_)
      · have c_3 : (i1 51).toInt ≤ x1_4.toInt := b_le c_3
        refine lv_iload_n hx hb dX12_awardsAll_56 rfl (lv_at hl 1 rfl) ?_
        subst hQ
        exact W.iret (v := x1_3) hx hb hr (fun t ht hW => ⟨⟨_, (i1, r1), rfl, ⟨hRi, hRr, hEi, hEr, trivial⟩, by rw [ht]; exact hP, va_K.moved hW.alike hK, hD⟩, hS.F ht⟩) hS.2.2 dX12_awardsAll_57
      · have c_3 : x1_4.toInt < (i1 51).toInt := b_nle c_3
        refine lv_iload_n hx hb dX12_awardsAll_14 rfl (lv_at hl 1 rfl) ?_
        refine lv_aload_n hx hb dX12_awardsAll_15 rfl (lv_at hl 2 rfl) ?_
        refine va_get (D := D) (ci := 12) (v := .ref (a 40)) (C := RX12) (T := TX12) (N := 91) hx hb hT iX12 hown hK hP 0 rfl rfl 52 (by decide) (hT _ t_75) (fun _ h9 => h9) rfl dX12_awardsAll_16 ?_
        refine lv_iload hx hb dX12_awardsAll_19 (lv_at hl 0 rfl) ?_
        refine va_iald hx hb hK hP 40 0 rfl rfl (vp_inI (by omega) (by omega)) dX12_awardsAll_21 ?_
        refine lv_topi (fun v_4 ev_4 => ?_)
        have hgv_4 : 0 ≤ v_4.toInt ∧ v_4.toInt ≤ 5 := by rw [ev_4]; exact hRr 40 _
        refine lv_iload_n hx hb dX12_awardsAll_22 rfl (lv_at hl 3 rfl) ?_
        refine lv_icmp_ne (tgt := 47) hx hb dX12_awardsAll_23 (by decide) (fun c_5 => ?_) (fun c_5 => ?_)
        · have c_5 : v_4.toInt ≠ p0.toInt := b_ne c_5
          refine lv_iconst (v := 0) hx hb dX12_awardsAll_47 (by decide) ?_
          refine lv_iadd hx hb dX12_awardsAll_48 ?_
          refine lv_topi (fun v_6 ev_6 => ?_)
          have hv_6 : v_6.toInt = x1_3.toInt + 0 := by rw [ev_6]; have := b_rg x1_3; exact i_add (a := x1_3.toInt) (b := 0) rfl rfl (by omega) (by omega)
          refine lv_istore_n (lv' := [(3, .int v_6), (4, .int x1_4), (0, .ref (a 0)), (1, .int p0), (2, .int p1)]) hx hb dX12_awardsAll_49 rfl hl (by decide) rfl (fun ls hl => ?_)
          obtain ⟨x_7, ex_7⟩ : ∃ y : Int32, y = x1_4 + 1 := ⟨_, rfl⟩
          refine lv_iinc (v := x_7) (lv' := [(4, .int x_7), (3, .int v_6), (0, .ref (a 0)), (1, .int p0), (2, .int p1)]) hx hb dX12_awardsAll_50 hl (k := 1) rfl (by rw [ex_7]; rfl) (by decide) rfl (fun ls hl => ?_)
          have hx_7 : x_7.toInt = x1_4.toInt + 1 := by rw [ex_7]; have := b_rg x1_4; exact i_add (a := x1_4.toInt) (b := 1) rfl rfl (by omega) (by omega)
          refine lv_goto (tgt := 5) hx hb dX12_awardsAll_53 (by decide) ?_
          exact ih1 x_7 v_6 i1 r1 _ _ _ (by first | omega | (simp only [Int.toNat]; omega)) (by first | omega | decide) hRi hEi hRr hEr  hP hD hS (lv_sub hl [0, 1, 2, 3, 4] rfl)
        · have c_5 : v_4.toInt = p0.toInt := b_nne c_5
          refine lv_aload_n hx hb dX12_awardsAll_26 rfl (lv_at hl 2 rfl) ?_
          refine va_get (D := D) (ci := 12) (v := .ref (a 44)) (C := RX12) (T := TX12) (N := 91) hx hb hT iX12 hown hK hP 0 rfl rfl 56 (by decide) (hT _ t_139) (fun _ h9 => h9) rfl dX12_awardsAll_27 ?_
          refine lv_iload hx hb dX12_awardsAll_30 (lv_at hl 0 rfl) ?_
          refine va_iald hx hb hK hP 44 0 rfl rfl (vp_inI (by omega) (by omega)) dX12_awardsAll_32 ?_
          refine lv_topi (fun v_8 ev_8 => ?_)
          have hgv_8 : 0 ≤ v_8.toInt ∧ v_8.toInt ≤ 9999 := by rw [ev_8]; exact hRr 44 _
          refine lv_iload_n hx hb dX12_awardsAll_33 rfl (lv_at hl 4 rfl) ?_
          refine lv_icmp_gt (tgt := 47) hx hb dX12_awardsAll_34 (by decide) (fun c_9 => ?_) (fun c_9 => ?_)
          · have c_9 : p1.toInt < v_8.toInt := b_lt c_9
            refine lv_iconst (v := 0) hx hb dX12_awardsAll_47 (by decide) ?_
            refine lv_iadd hx hb dX12_awardsAll_48 ?_
            refine lv_topi (fun v_10 ev_10 => ?_)
            have hv_10 : v_10.toInt = x1_3.toInt + 0 := by rw [ev_10]; have := b_rg x1_3; exact i_add (a := x1_3.toInt) (b := 0) rfl rfl (by omega) (by omega)
            refine lv_istore_n (lv' := [(3, .int v_10), (4, .int x1_4), (0, .ref (a 0)), (1, .int p0), (2, .int p1)]) hx hb dX12_awardsAll_49 rfl hl (by decide) rfl (fun ls hl => ?_)
            obtain ⟨x_11, ex_11⟩ : ∃ y : Int32, y = x1_4 + 1 := ⟨_, rfl⟩
            refine lv_iinc (v := x_11) (lv' := [(4, .int x_11), (3, .int v_10), (0, .ref (a 0)), (1, .int p0), (2, .int p1)]) hx hb dX12_awardsAll_50 hl (k := 1) rfl (by rw [ex_11]; rfl) (by decide) rfl (fun ls hl => ?_)
            have hx_11 : x_11.toInt = x1_4.toInt + 1 := by rw [ex_11]; have := b_rg x1_4; exact i_add (a := x1_4.toInt) (b := 1) rfl rfl (by omega) (by omega)
            refine lv_goto (tgt := 5) hx hb dX12_awardsAll_53 (by decide) ?_
            exact ih1 x_11 v_10 i1 r1 _ _ _ (by first | omega | (simp only [Int.toNat]; omega)) (by first | omega | decide) hRi hEi hRr hEr  hP hD hS (lv_sub hl [0, 1, 2, 3, 4] rfl)
          · have c_9 : v_8.toInt ≤ p1.toInt := b_nlt c_9
            refine lv_aload_n hx hb dX12_awardsAll_37 rfl (lv_at hl 2 rfl) ?_
            refine lv_iload hx hb dX12_awardsAll_38 (lv_at hl 0 rfl) ?_
            refine lv_iload_n hx hb dX12_awardsAll_40 rfl (lv_at hl 4 rfl) ?_
            have hF_12 := rF hD hS hA
            refine va_calli (va_runV (As := [.int x1_4, .int p1]) (rest := [.int x1_3]) ⟨hx, hb, hml, hown, hT⟩ (c_X12_awardOf l D cy a i1 r1 rl x1_4 p1 _ hRi hRr (mE_same hEi hEr (by decide) (by decide) hE) (by omega)) (cwV 2 hT (gV t_160 t_161 t_162 t_163 t_6) rfl rfl rfl (by decide +kernel) ⟨Nat.le_of_ble_eq_true rfl, Nat.le_of_ble_eq_true rfl⟩) (rQ_v hP hK hD (va_recv hK hP (ci := 12) (q0 := 0) rfl rfl)) rfl rfl hl.1 rfl (lv_room (Nat.le_of_ble_eq_true rfl)) dX12_awardsAll_41 ⟨Nat.le_of_ble_eq_true rfl, Nat.le_of_ble_eq_true rfl⟩) hS (fun q _ h => hF_12 q h) hF_12 (fun r_13 u_14 t H1 locs ht hvm hr_13 hB hz1 hk1 hS => ?_)
            obtain ⟨i14, r14⟩ := u_14
            obtain ⟨hP, hK1, hD1⟩ := hB
            rw [ht] at hP
            have hD := hD1.weaken (fun k q _ h => hF_12 q.1 h)
            have hP : va_P D vwCl (mW cy a i14 r14 rl) H1 := hP
            have hD : va_D A (mW cy a i14 r14 rl) := hD
            obtain ⟨hRi, hRr, hE1, hE2, hr_13⟩ := hr_13
            have hRi : mRi i14 := hRi
            have hRr : mRr r14 := hRr
            have hEi : mEi [23, 24, 25, 26, 27, 28, 29, 30, 60] _ i14 := Ei_tr hEi hE1 (by decide)
            have hEr : mEr [32, 33, 34, 35, 36, 37, 38, 39] _ r14 := Er_tr hEr hE2 (by decide)
            refine lv_goto (tgt := 48) hx hb dX12_awardsAll_44 (by decide) ?_
            refine lv_iadd hx hb dX12_awardsAll_48 ?_
            refine lv_topi (fun v_15 ev_15 => ?_)
            refine lv_istore_n (lv' := [(3, .int v_15), (4, .int x1_4), (0, .ref (a 0)), (1, .int p0), (2, .int p1)]) hx hb dX12_awardsAll_49 rfl hl (by decide) rfl (fun ls hl => ?_)
            obtain ⟨x_16, ex_16⟩ : ∃ y : Int32, y = x1_4 + 1 := ⟨_, rfl⟩
            refine lv_iinc (v := x_16) (lv' := [(4, .int x_16), (3, .int v_15), (0, .ref (a 0)), (1, .int p0), (2, .int p1)]) hx hb dX12_awardsAll_50 hl (k := 1) rfl (by rw [ex_16]; rfl) (by decide) rfl (fun ls hl => ?_)
            have hx_16 : x_16.toInt = x1_4.toInt + 1 := by rw [ex_16]; have := b_rg x1_4; exact i_add (a := x1_4.toInt) (b := 1) rfl rfl (by omega) (by omega)
            refine lv_goto (tgt := 5) hx hb dX12_awardsAll_53 (by decide) ?_
            exact ih1 x_16 v_15 i14 r14 _ _ _ (by first | omega | (simp only [Int.toNat]; omega)) (by first | omega | decide) hRi hEi hRr hEr  hP hD hS (lv_sub hl [0, 1, 2, 3, 4] rfl)
  exact loop_1 _ 0 0 i r _ _ _ (Nat.lt_succ_self _) (by first | omega | decide) hRi hEi hRr hEr  hP hD hS hl
set_option maxHeartbeats 4000000 in
set_option maxRecDepth 100000 in
theorem c_X12_ownerGets (l : Launch) (D : va_G) (cy : Nat → ClassId) (a : Nat → Nat) (i : Nat → Int32) (r : Nat → Nat → Int32) (rl : Nat → Int64) (p0 p1 : Int32) (sz : Nat) (hRi : mRi i) (hRr : mRr r) (hE : mE i r) (q0 : 0 ≤ p0.toInt ∧ p0.toInt ≤ 5) : Met l yX12_ownerGets (Cond.code yX12_ownerGets cX12_ownerGets 5 (some .int) :: gT) { frames := 8, cells := 0, slots := 0, locals := 192 } (va_Pc [.ref (a 0), .int p0, .int p1] (rQ D cy (mW cy a i r rl) sz)) (va_Qi (fun (z : Int32) (u : (Nat → Int32) × (Nat → Nat → Int32)) => mRi u.1 ∧ mRr u.2 ∧ mEi [23, 24, 25, 26, 27, 28, 29, 30, 60] i u.1 ∧ mEr [32, 33, 34, 35, 36, 37, 38, 39] r u.2 ∧ True) (fun (u : (Nat → Int32) × (Nat → Nat → Int32)) t => va_P D vwCl (mW cy a u.1 u.2 rl) t.heap ∧ va_K D vwCl (vT cy) t ∧ va_D (va_A (mW cy a i r rl) sz) (mW cy a u.1 u.2 rl)) (va_A (mW cy a i r rl) sz)) 0 0 (va_A (mW cy a i r rl) sz) := by
  refine Met.ofQ (cc := cX12_ownerGets) (maxL := 5) (ret := (some .int)) (by decide) rfl ?_
  intro p e s m args below meth c s₁ B hml hv Q hQ
  obtain ⟨rfl, hsz, hP, hK, hD0⟩ := hv
  have hx := B.exec
  have hb := B.bytes
  have hr := B.returns
  have hlocks := B.notSynchronized
  have hT : ∀ w ∈ gT, w.before _ s = true := fun w h => atoms_spec (ws := (Cond.code yX12_ownerGets cX12_ownerGets 5 (some .int) :: gT)) B.pre w (List.mem_cons_of_mem _ h)
  have hown : s.vm.findClass RX12 = some m.cls := findClass_of_methodNamed B.named
  subst hsz
  have hD := hD0.self (sz := s.heap.size)
  generalize hAe : va_A (mW cy a i r rl) s.heap.size = A at hD hQ
  have hA : ∀ q : Nat, s.heap.size ≤ q → A q := fun q h => by rw [← hAe]; exact Or.inr h
  have hS : va_S A s.heap s.heap [] := va_S.rf
  have hl := lv_entry ([.ref (a 0), .int p0, .int p1]) (n := 5) (Nat.le_of_ble_eq_true rfl)
  rw [lg_entry_eq]
  generalize (lg_sl ([.ref (a 0), .int p0, .int p1]) ++ List.replicate (5 - (lg_sl ([.ref (a 0), .int p0, .int p1])).length) Slot.unset).toArray = ls at hl ⊢
  have hl : lv_has ls 5 [(0, .ref (a 0)), (1, .int p0), (2, .int p1)] := hl
  have hEi : mEi [23, 24, 25, 26, 27, 28, 29, 30, 60] i i := Ei_rf
  have hEr : mEr [32, 33, 34, 35, 36, 37, 38, 39] r r := Er_rf
  refine lv_aload_n hx hb dX12_ownerGets_0 rfl (lv_at hl 0 rfl) ?_
  refine lv_iload_n hx hb dX12_ownerGets_1 rfl (lv_at hl 1 rfl) ?_
  refine lv_iload_n hx hb dX12_ownerGets_2 rfl (lv_at hl 2 rfl) ?_
  have hF_1 := rF hD hS hA
  refine va_calli (va_runV (As := [.int p0, .int p1]) (rest := []) ⟨hx, hb, hml, hown, hT⟩ (c_X12_awardsAll l D cy a i r rl p0 p1 _ hRi hRr (mE_same hEi hEr (by decide) (by decide) hE)) (cwV 2 hT (gV t_164 t_165 t_166 t_167 t_6) rfl rfl rfl (by decide +kernel) ⟨Nat.le_of_ble_eq_true rfl, Nat.le_of_ble_eq_true rfl⟩) (rQ_v hP hK hD (va_recv hK hP (ci := 12) (q0 := 0) rfl rfl)) rfl rfl hl.1 rfl (lv_room (Nat.le_of_ble_eq_true rfl)) dX12_ownerGets_3 ⟨Nat.le_of_ble_eq_true rfl, Nat.le_of_ble_eq_true rfl⟩) hS (fun q _ h => hF_1 q h) hF_1 (fun r_2 u_3 t H1 locs ht hvm hr_2 hB hz1 hk1 hS => ?_)
  obtain ⟨i3, r3⟩ := u_3
  obtain ⟨hP, hK1, hD1⟩ := hB
  rw [ht] at hP
  have hD := hD1.weaken (fun k q _ h => hF_1 q.1 h)
  have hP : va_P D vwCl (mW cy a i3 r3 rl) H1 := hP
  have hD : va_D A (mW cy a i3 r3 rl) := hD
  obtain ⟨hRi, hRr, hE1, hE2, hr_2⟩ := hr_2
  have hRi : mRi i3 := hRi
  have hRr : mRr r3 := hRr
  have hEi : mEi [23, 24, 25, 26, 27, 28, 29, 30, 60] _ i3 := Ei_tr hEi hE1 (by decide)
  have hEr : mEr [32, 33, 34, 35, 36, 37, 38, 39] _ r3 := Er_tr hEr hE2 (by decide)
  refine lv_istore_n (lv' := [(3, .int r_2), (0, .ref (a 0)), (1, .int p0), (2, .int p1)]) hx hb dX12_ownerGets_6 rfl hl (by decide) rfl (fun ls hl => ?_)
  refine lv_iconst (v := 0) hx hb dX12_ownerGets_7 (by decide) ?_
  refine lv_istore (lv' := [(4, .int 0), (3, .int r_2), (0, .ref (a 0)), (1, .int p0), (2, .int p1)]) hx hb dX12_ownerGets_8 hl (by decide) rfl (fun ls hl => ?_)
  have loop_4 : ∀ (n : Nat) (x4_4 : Int32) (x4_3 : Int32) (H : Heap) (locs : List Loc) (ls : Array Slot), (3 - x4_4.toInt).toNat < n → (0 ≤ x4_4.toInt ∧ x4_4.toInt ≤ 3) → va_P D vwCl (mW cy a i3 r3 rl) H → va_D A (mW cy a i3 r3 rl) → va_S A s.heap H locs → lv_has ls 5 [(4, .int x4_4), (3, .int x4_3), (0, .ref (a 0)), (1, .int p0), (2, .int p1)] → W p l e ({ frames := 8, cells := 0, slots := 0, locals := 192 } : Room) s m ([.ref (a 0), .int p0, .int p1] : List Value).toArray below meth c H locs 0 0 Q (F0 m 10 ls []) := by
    intro n
    induction n with
    | zero =>
      intro x4_4 x4_3 H locs ls hm4 hf4_0 hP hD hS hl
      exact absurd hm4 (by omega)
    | succ n ih4 =>
      intro x4_4 x4_3 H locs ls hm4 hf4_0 hP hD hS hl
      refine lv_iload hx hb dX12_ownerGets_10 (lv_at hl 0 rfl) ?_
      refine lv_iconst (v := 3) hx hb dX12_ownerGets_12 (by decide) ?_
      refine lv_icmp_ge (tgt := 36) hx hb dX12_ownerGets_13 (by decide) (fun c_5 => ?_) (fun c_5 => ?_)
      · have c_5 : 3 ≤ x4_4.toInt := b_le c_5
        refine lv_iload_n hx hb dX12_ownerGets_36 rfl (lv_at hl 1 rfl) ?_
        refine lv_aload_n hx hb dX12_ownerGets_37 rfl (lv_at hl 2 rfl) ?_
        refine va_get (D := D) (ci := 12) (v := .ref (a 5)) (C := RX12) (T := TX12) (N := 91) hx hb hT iX12 hown hK hP 0 rfl rfl 6 (by decide) (hT _ t_168) (fun _ h9 => h9) rfl dX12_ownerGets_38 ?_
        refine lv_iload_n hx hb dX12_ownerGets_41 rfl (lv_at hl 3 rfl) ?_
        refine va_iald hx hb hK hP 5 0 rfl rfl (vp_inI (by omega) (by omega)) dX12_ownerGets_42 ?_
        refine lv_topi (fun v_6 ev_6 => ?_)
        have hgv_6 : 0 ≤ v_6.toInt ∧ v_6.toInt ≤ 999999 := by rw [ev_6]; exact hRr 5 _
        refine lv_icmp_ge (tgt := 50) hx hb dX12_ownerGets_43 (by decide) (fun c_7 => ?_) (fun c_7 => ?_)
        · have c_7 : v_6.toInt ≤ x4_3.toInt := b_le c_7
          refine lv_aload_n hx hb dX12_ownerGets_50 rfl (lv_at hl 2 rfl) ?_
          refine va_get (D := D) (ci := 12) (v := .ref (a 5)) (C := RX12) (T := TX12) (N := 91) hx hb hT iX12 hown hK hP 0 rfl rfl 6 (by decide) (hT _ t_168) (fun _ h9 => h9) rfl dX12_ownerGets_51 ?_
          refine lv_iload_n hx hb dX12_ownerGets_54 rfl (lv_at hl 3 rfl) ?_
          refine va_iald hx hb hK hP 5 0 rfl rfl (vp_inI (by omega) (by omega)) dX12_ownerGets_55 ?_
          refine lv_topi (fun v_8 ev_8 => ?_)
          have hgv_8 : 0 ≤ v_8.toInt ∧ v_8.toInt ≤ 999999 := by rw [ev_8]; exact hRr 5 _
          subst hQ
          exact W.iret (v := v_8) hx hb hr (fun t ht hW => ⟨⟨_, (i3, r3), rfl, ⟨hRi, hRr, hEi, hEr, trivial⟩, by rw [ht]; exact hP, va_K.moved hW.alike hK, hD⟩, hS.F ht⟩) hS.2.2 dX12_ownerGets_56
        · have c_7 : x4_3.toInt < v_6.toInt := b_nle c_7
          refine lv_iload_n hx hb dX12_ownerGets_46 rfl (lv_at hl 1 rfl) ?_
          refine lv_goto (tgt := 56) hx hb dX12_ownerGets_47 (by decide) ?_
          subst hQ
          exact W.iret (v := x4_3) hx hb hr (fun t ht hW => ⟨⟨_, (i3, r3), rfl, ⟨hRi, hRr, hEi, hEr, trivial⟩, by rw [ht]; exact hP, va_K.moved hW.alike hK, hD⟩, hS.F ht⟩) hS.2.2 dX12_ownerGets_56
      · have c_5 : x4_4.toInt < 3 := b_nle c_5
        refine lv_iload_n hx hb dX12_ownerGets_16 rfl (lv_at hl 1 rfl) ?_
        refine lv_aload_n hx hb dX12_ownerGets_17 rfl (lv_at hl 2 rfl) ?_
        refine va_get (D := D) (ci := 12) (v := .ref (a 9)) (C := RX12) (T := TX12) (N := 91) hx hb hT iX12 hown hK hP 0 rfl rfl 10 (by decide) (hT _ t_169) (fun _ h9 => h9) rfl dX12_ownerGets_18 ?_
        refine lv_iconst (v := 3) hx hb dX12_ownerGets_21 (by decide) ?_
        refine lv_iload_n hx hb dX12_ownerGets_22 rfl (lv_at hl 3 rfl) ?_
        refine lv_imul hx hb dX12_ownerGets_23 ?_
        refine lv_topi (fun v_9 ev_9 => ?_)
        have hv_9 : v_9.toInt = 3 * p0.toInt := by rw [ev_9]; have := b_rg p0; exact i_mul (a := 3) (b := p0.toInt) rfl rfl (by omega) (by omega)
        refine lv_iload hx hb dX12_ownerGets_24 (lv_at hl 0 rfl) ?_
        refine lv_iadd hx hb dX12_ownerGets_26 ?_
        refine lv_topi (fun v_10 ev_10 => ?_)
        have hv_10 : v_10.toInt = v_9.toInt + x4_4.toInt := by rw [ev_10]; have := b_rg v_9; have := b_rg x4_4; exact i_add (a := v_9.toInt) (b := x4_4.toInt) rfl rfl (by omega) (by omega)
        refine va_iald hx hb hK hP 9 0 rfl rfl (vp_inI (by omega) (by omega)) dX12_ownerGets_27 ?_
        refine lv_topi (fun v_11 ev_11 => ?_)
        have hgv_11 : 0 ≤ v_11.toInt ∧ v_11.toInt ≤ 999999 := by rw [ev_11]; exact hRr 9 _
        refine lv_iadd hx hb dX12_ownerGets_28 ?_
        refine lv_topi (fun v_12 ev_12 => ?_)
        refine lv_istore_n (lv' := [(3, .int v_12), (4, .int x4_4), (0, .ref (a 0)), (1, .int p0), (2, .int p1)]) hx hb dX12_ownerGets_29 rfl hl (by decide) rfl (fun ls hl => ?_)
        obtain ⟨x_13, ex_13⟩ : ∃ y : Int32, y = x4_4 + 1 := ⟨_, rfl⟩
        refine lv_iinc (v := x_13) (lv' := [(4, .int x_13), (3, .int v_12), (0, .ref (a 0)), (1, .int p0), (2, .int p1)]) hx hb dX12_ownerGets_30 hl (k := 1) rfl (by rw [ex_13]; rfl) (by decide) rfl (fun ls hl => ?_)
        have hx_13 : x_13.toInt = x4_4.toInt + 1 := by rw [ex_13]; have := b_rg x4_4; exact i_add (a := x4_4.toInt) (b := 1) rfl rfl (by omega) (by omega)
        refine lv_goto (tgt := 10) hx hb dX12_ownerGets_33 (by decide) ?_
        exact ih4 x_13 v_12 _ _ _ (by first | omega | (simp only [Int.toNat]; omega)) (by first | omega | decide)   hP hD hS (lv_sub hl [0, 1, 2, 3, 4] rfl)
  exact loop_4 _ 0 r_2 _ _ _ (Nat.lt_succ_self _) (by first | omega | decide)   hP hD hS hl
set_option maxHeartbeats 4000000 in
set_option maxRecDepth 100000 in
theorem c_X12_penaltyOf (l : Launch) (D : va_G) (cy : Nat → ClassId) (a : Nat → Nat) (i : Nat → Int32) (r : Nat → Nat → Int32) (rl : Nat → Int64) (p0 : Int32) (sz : Nat) (hRi : mRi i) (hRr : mRr r) (hE : mE i r) (q0 : 0 ≤ p0.toInt ∧ p0.toInt ≤ 5) : Met l yX12_penaltyOf (Cond.code yX12_penaltyOf cX12_penaltyOf 2 (some .int) :: gT) { frames := 4, cells := 0, slots := 0, locals := 98 } (va_Pc [.ref (a 0), .int p0] (rQ D cy (mW cy a i r rl) sz)) (va_Qi (fun (z : Int32) (u : Nat → Nat → Int32) => mRr u ∧ mEr [32, 33] r u ∧ True) (fun (u : Nat → Nat → Int32) t => va_P D vwCl (mW cy a i u rl) t.heap ∧ va_K D vwCl (vT cy) t ∧ va_D (va_A (mW cy a i r rl) sz) (mW cy a i u rl)) (va_A (mW cy a i r rl) sz)) 0 0 (va_A (mW cy a i r rl) sz) := by
  refine Met.ofQ (cc := cX12_penaltyOf) (maxL := 2) (ret := (some .int)) (by decide) rfl ?_
  intro p e s m args below meth c s₁ B hml hv Q hQ
  obtain ⟨rfl, hsz, hP, hK, hD0⟩ := hv
  have hx := B.exec
  have hb := B.bytes
  have hr := B.returns
  have hlocks := B.notSynchronized
  have hT : ∀ w ∈ gT, w.before _ s = true := fun w h => atoms_spec (ws := (Cond.code yX12_penaltyOf cX12_penaltyOf 2 (some .int) :: gT)) B.pre w (List.mem_cons_of_mem _ h)
  have hown : s.vm.findClass RX12 = some m.cls := findClass_of_methodNamed B.named
  subst hsz
  have hD := hD0.self (sz := s.heap.size)
  generalize hAe : va_A (mW cy a i r rl) s.heap.size = A at hD hQ
  have hA : ∀ q : Nat, s.heap.size ≤ q → A q := fun q h => by rw [← hAe]; exact Or.inr h
  have hS : va_S A s.heap s.heap [] := va_S.rf
  have hl := lv_entry ([.ref (a 0), .int p0]) (n := 2) (Nat.le_of_ble_eq_true rfl)
  rw [lg_entry_eq]
  generalize (lg_sl ([.ref (a 0), .int p0]) ++ List.replicate (2 - (lg_sl ([.ref (a 0), .int p0])).length) Slot.unset).toArray = ls at hl ⊢
  have hl : lv_has ls 2 [(0, .ref (a 0)), (1, .int p0)] := hl
  have hEi : mEi [23, 24, 25, 26, 27, 28, 29, 30, 60] i i := Ei_rf
  have hEr : mEr [32, 33] r r := Er_rf
  refine lv_aload_n hx hb dX12_penaltyOf_0 rfl (lv_at hl 0 rfl) ?_
  refine lv_iload_n hx hb dX12_penaltyOf_1 rfl (lv_at hl 1 rfl) ?_
  have hF_1 := rF hD hS hA
  refine va_callv (va_runV (As := [.int p0]) (rest := []) ⟨hx, hb, hml, hown, hT⟩ (c_X12_feelsHome l D cy a i r rl p0 _ hRi hRr (by omega)) (cwV 1 hT (gV t_67 t_68 t_69 t_70 t_6) rfl rfl rfl (by decide +kernel) ⟨Nat.le_of_ble_eq_true rfl, Nat.le_of_ble_eq_true rfl⟩) (rQ_v hP hK hD (va_recv hK hP (ci := 12) (q0 := 0) rfl rfl)) rfl rfl hl.1 rfl (lv_room (Nat.le_of_ble_eq_true rfl)) dX12_penaltyOf_2 ⟨Nat.le_of_ble_eq_true rfl, Nat.le_of_ble_eq_true rfl⟩) hS (fun q _ h => hF_1 q h) hF_1 (fun u_3 t H1 locs ht hvm hr_2 hB hz1 hk1 hS => ?_)
  obtain ⟨r3, rfl⟩ : ∃ z, z = u_3 := ⟨_, rfl⟩
  obtain ⟨hP, hK1, hD1⟩ := hB
  rw [ht] at hP
  have hD := hD1.weaken (fun k q _ h => hF_1 q.1 h)
  have hP : va_P D vwCl (mW cy a i r3 rl) H1 := hP
  have hD : va_D A (mW cy a i r3 rl) := hD
  obtain ⟨hRr, hE2, hr_2⟩ := hr_2
  have hRr : mRr r3 := hRr
  have hEr : mEr [32, 33] _ r3 := Er_tr hEr hE2 (by decide)
  refine lv_aload_n hx hb dX12_penaltyOf_5 rfl (lv_at hl 0 rfl) ?_
  refine va_get (D := D) (ci := 12) (v := .ref (a 19)) (C := RX12) (T := TX12) (N := 91) hx hb hT iX12 hown hK hP 0 rfl rfl 20 (by decide) (hT _ t_170) (fun _ h9 => h9) rfl dX12_penaltyOf_6 ?_
  refine lv_iload_n hx hb dX12_penaltyOf_9 rfl (lv_at hl 1 rfl) ?_
  refine va_zald hx hb hK hP 19 2 rfl rfl (vp_inI (by omega) (by omega)) dX12_penaltyOf_10 ?_
  refine lv_topi (fun v_4 ev_4 => ?_)
  refine lv_if_eq (tgt := 18) hx hb dX12_penaltyOf_11 (by decide) (fun c_5 => ?_) (fun c_5 => ?_)
  · have c_5 : v_4.toInt = 0 := b_eq c_5
    refine lv_aload_n hx hb dX12_penaltyOf_18 rfl (lv_at hl 0 rfl) ?_
    refine lv_bipush (v := 116) hx hb dX12_penaltyOf_19 (by decide) ?_
    refine lv_bipush (v := 9) hx hb dX12_penaltyOf_21 (by decide) ?_
    refine lv_iconst (v := 0) hx hb dX12_penaltyOf_23 (by decide) ?_
    have hF_6 := rF hD hS hA
    refine va_calli (va_runV (As := [.int 116, .int 9, .int 0]) (rest := []) ⟨hx, hb, hml, hown, hT⟩ (c_X12_byLaw l D cy a i r3 rl 116 9 0 _ hRi hRr (mE_same hEi hEr (by decide) (by decide) hE) (by first | omega | decide)) (cwV 3 hT (gV t_97 t_98 t_99 t_100 t_6) rfl rfl rfl (by decide +kernel) ⟨Nat.le_of_ble_eq_true rfl, Nat.le_of_ble_eq_true rfl⟩) (rQ_v hP hK hD (va_recv hK hP (ci := 12) (q0 := 0) rfl rfl)) rfl rfl hl.1 rfl (lv_room (Nat.le_of_ble_eq_true rfl)) dX12_penaltyOf_24 ⟨Nat.le_of_ble_eq_true rfl, Nat.le_of_ble_eq_true rfl⟩) hS (fun q _ h => hF_6 q h) hF_6 (fun r_7 u_8 t H1 locs ht hvm hr_7 hB hz1 hk1 hS => ?_)
    obtain ⟨r8, rfl⟩ : ∃ z, z = u_8 := ⟨_, rfl⟩
    obtain ⟨hP, hK1, hD1⟩ := hB
    rw [ht] at hP
    have hD := hD1.weaken (fun k q _ h => hF_6 q.1 h)
    have hP : va_P D vwCl (mW cy a i r8 rl) H1 := hP
    have hD : va_D A (mW cy a i r8 rl) := hD
    obtain ⟨hRr, hE2, hr_7⟩ := hr_7
    have hRr : mRr r8 := hRr
    have hEr : mEr [32, 33] _ r8 := Er_tr hEr hE2 (by decide)
    refine lv_aload_n hx hb dX12_penaltyOf_27 rfl (lv_at hl 0 rfl) ?_
    refine va_get (D := D) (ci := 12) (v := .ref (a 5)) (C := RX12) (T := TX12) (N := 91) hx hb hT iX12 hown hK hP 0 rfl rfl 6 (by decide) (hT _ t_168) (fun _ h9 => h9) rfl dX12_penaltyOf_28 ?_
    refine lv_iload_n hx hb dX12_penaltyOf_31 rfl (lv_at hl 1 rfl) ?_
    refine va_iald hx hb hK hP 5 0 rfl rfl (vp_inI (by omega) (by omega)) dX12_penaltyOf_32 ?_
    refine lv_topi (fun v_9 ev_9 => ?_)
    have hgv_9 : 0 ≤ v_9.toInt ∧ v_9.toInt ≤ 999999 := by rw [ev_9]; exact hRr 5 _
    refine lv_imul hx hb dX12_penaltyOf_33 ?_
    refine lv_topi (fun v_10 ev_10 => ?_)
    subst hQ
    exact W.iret (v := v_10) hx hb hr (fun t ht hW => ⟨⟨_, r8, rfl, ⟨hRr, hEr, trivial⟩, by rw [ht]; exact hP, va_K.moved hW.alike hK, hD⟩, hS.F ht⟩) hS.2.2 dX12_penaltyOf_34
  · have c_5 : v_4.toInt ≠ 0 := b_ne c_5
    refine lv_iconst (v := 0) hx hb dX12_penaltyOf_14 (by decide) ?_
    refine lv_goto (tgt := 34) hx hb dX12_penaltyOf_15 (by decide) ?_
    subst hQ
    exact W.iret (v := 0) hx hb hr (fun t ht hW => ⟨⟨_, r3, rfl, ⟨hRr, hEr, trivial⟩, by rw [ht]; exact hP, va_K.moved hW.alike hK, hD⟩, hS.F ht⟩) hS.2.2 dX12_penaltyOf_34
set_option maxHeartbeats 4000000 in
set_option maxRecDepth 100000 in
theorem c_X12_backOf (l : Launch) (D : va_G) (cy : Nat → ClassId) (a : Nat → Nat) (i : Nat → Int32) (r : Nat → Nat → Int32) (rl : Nat → Int64) (p0 p1 : Int32) (sz : Nat) (hRi : mRi i) (hRr : mRr r) (hE : mE i r) (q0 : 0 ≤ p0.toInt ∧ p0.toInt ≤ 5) : Met l yX12_backOf (Cond.code yX12_backOf cX12_backOf 3 (some .int) :: gT) { frames := 9, cells := 0, slots := 0, locals := 216 } (va_Pc [.ref (a 0), .int p0, .int p1] (rQ D cy (mW cy a i r rl) sz)) (va_Qi (fun (z : Int32) (u : (Nat → Int32) × (Nat → Nat → Int32)) => mRi u.1 ∧ mRr u.2 ∧ mEi [23, 24, 25, 26, 27, 28, 29, 30, 60] i u.1 ∧ mEr [32, 33, 34, 35, 36, 37, 38, 39] r u.2 ∧ True) (fun (u : (Nat → Int32) × (Nat → Nat → Int32)) t => va_P D vwCl (mW cy a u.1 u.2 rl) t.heap ∧ va_K D vwCl (vT cy) t ∧ va_D (va_A (mW cy a i r rl) sz) (mW cy a u.1 u.2 rl)) (va_A (mW cy a i r rl) sz)) 0 0 (va_A (mW cy a i r rl) sz) := by
  refine Met.ofQ (cc := cX12_backOf) (maxL := 3) (ret := (some .int)) (by decide) rfl ?_
  intro p e s m args below meth c s₁ B hml hv Q hQ
  obtain ⟨rfl, hsz, hP, hK, hD0⟩ := hv
  have hx := B.exec
  have hb := B.bytes
  have hr := B.returns
  have hlocks := B.notSynchronized
  have hT : ∀ w ∈ gT, w.before _ s = true := fun w h => atoms_spec (ws := (Cond.code yX12_backOf cX12_backOf 3 (some .int) :: gT)) B.pre w (List.mem_cons_of_mem _ h)
  have hown : s.vm.findClass RX12 = some m.cls := findClass_of_methodNamed B.named
  subst hsz
  have hD := hD0.self (sz := s.heap.size)
  generalize hAe : va_A (mW cy a i r rl) s.heap.size = A at hD hQ
  have hA : ∀ q : Nat, s.heap.size ≤ q → A q := fun q h => by rw [← hAe]; exact Or.inr h
  have hS : va_S A s.heap s.heap [] := va_S.rf
  have hl := lv_entry ([.ref (a 0), .int p0, .int p1]) (n := 3) (Nat.le_of_ble_eq_true rfl)
  rw [lg_entry_eq]
  generalize (lg_sl ([.ref (a 0), .int p0, .int p1]) ++ List.replicate (3 - (lg_sl ([.ref (a 0), .int p0, .int p1])).length) Slot.unset).toArray = ls at hl ⊢
  have hl : lv_has ls 3 [(0, .ref (a 0)), (1, .int p0), (2, .int p1)] := hl
  have hEi : mEi [23, 24, 25, 26, 27, 28, 29, 30, 60] i i := Ei_rf
  have hEr : mEr [32, 33, 34, 35, 36, 37, 38, 39] r r := Er_rf
  refine lv_aload_n hx hb dX12_backOf_0 rfl (lv_at hl 0 rfl) ?_
  refine va_get (D := D) (ci := 12) (v := .ref (a 5)) (C := RX12) (T := TX12) (N := 91) hx hb hT iX12 hown hK hP 0 rfl rfl 6 (by decide) (hT _ t_168) (fun _ h9 => h9) rfl dX12_backOf_1 ?_
  refine lv_iload_n hx hb dX12_backOf_4 rfl (lv_at hl 1 rfl) ?_
  refine va_iald hx hb hK hP 5 0 rfl rfl (vp_inI (by omega) (by omega)) dX12_backOf_5 ?_
  refine lv_topi (fun v_1 ev_1 => ?_)
  have hgv_1 : 0 ≤ v_1.toInt ∧ v_1.toInt ≤ 999999 := by rw [ev_1]; exact hRr 5 _
  refine lv_aload_n hx hb dX12_backOf_6 rfl (lv_at hl 0 rfl) ?_
  refine lv_iload_n hx hb dX12_backOf_7 rfl (lv_at hl 1 rfl) ?_
  refine lv_iload_n hx hb dX12_backOf_8 rfl (lv_at hl 2 rfl) ?_
  have hF_2 := rF hD hS hA
  refine va_calli (va_runV (As := [.int p0, .int p1]) (rest := [.int v_1]) ⟨hx, hb, hml, hown, hT⟩ (c_X12_ownerGets l D cy a i r rl p0 p1 _ hRi hRr (mE_same hEi hEr (by decide) (by decide) hE) (by omega)) (cwV 2 hT (gV t_171 t_172 t_173 t_174 t_6) rfl rfl rfl (by decide +kernel) ⟨Nat.le_of_ble_eq_true rfl, Nat.le_of_ble_eq_true rfl⟩) (rQ_v hP hK hD (va_recv hK hP (ci := 12) (q0 := 0) rfl rfl)) rfl rfl hl.1 rfl (lv_room (Nat.le_of_ble_eq_true rfl)) dX12_backOf_9 ⟨Nat.le_of_ble_eq_true rfl, Nat.le_of_ble_eq_true rfl⟩) hS (fun q _ h => hF_2 q h) hF_2 (fun r_3 u_4 t H1 locs ht hvm hr_3 hB hz1 hk1 hS => ?_)
  obtain ⟨i4, r4⟩ := u_4
  obtain ⟨hP, hK1, hD1⟩ := hB
  rw [ht] at hP
  have hD := hD1.weaken (fun k q _ h => hF_2 q.1 h)
  have hP : va_P D vwCl (mW cy a i4 r4 rl) H1 := hP
  have hD : va_D A (mW cy a i4 r4 rl) := hD
  obtain ⟨hRi, hRr, hE1, hE2, hr_3⟩ := hr_3
  have hRi : mRi i4 := hRi
  have hRr : mRr r4 := hRr
  have hEi : mEi [23, 24, 25, 26, 27, 28, 29, 30, 60] _ i4 := Ei_tr hEi hE1 (by decide)
  have hEr : mEr [32, 33, 34, 35, 36, 37, 38, 39] _ r4 := Er_tr hEr hE2 (by decide)
  refine lv_isub hx hb dX12_backOf_12 ?_
  refine lv_topi (fun v_5 ev_5 => ?_)
  subst hQ
  exact W.iret (v := v_5) hx hb hr (fun t ht hW => ⟨⟨_, (i4, r4), rfl, ⟨hRi, hRr, hEi, hEr, trivial⟩, by rw [ht]; exact hP, va_K.moved hW.alike hK, hD⟩, hS.F ht⟩) hS.2.2 dX12_backOf_13
set_option maxHeartbeats 4000000 in
set_option maxRecDepth 100000 in
theorem c_X12_byKind (l : Launch) (D : va_G) (cy : Nat → ClassId) (a : Nat → Nat) (i : Nat → Int32) (r : Nat → Nat → Int32) (rl : Nat → Int64) (p0 p1 : Int32) (sz : Nat) (hRi : mRi i) (hRr : mRr r) (hE : mE i r) : Met l yX12_byKind (Cond.code yX12_byKind cX12_byKind 5 (some .int) :: gT) { frames := 7, cells := 0, slots := 0, locals := 168 } (va_Pc [.ref (a 0), .int p0, .int p1] (rQ D cy (mW cy a i r rl) sz)) (va_Qi (fun (z : Int32) (u : (Nat → Int32) × (Nat → Nat → Int32)) => mRi u.1 ∧ mRr u.2 ∧ mEi [23, 24, 25, 26, 27, 28, 29, 30, 60] i u.1 ∧ mEr [32, 33, 34, 35, 36, 37, 38, 39] r u.2 ∧ True) (fun (u : (Nat → Int32) × (Nat → Nat → Int32)) t => va_P D vwCl (mW cy a u.1 u.2 rl) t.heap ∧ va_K D vwCl (vT cy) t ∧ va_D (va_A (mW cy a i r rl) sz) (mW cy a u.1 u.2 rl)) (va_A (mW cy a i r rl) sz)) 0 0 (va_A (mW cy a i r rl) sz) := by
  refine Met.ofQ (cc := cX12_byKind) (maxL := 5) (ret := (some .int)) (by decide) rfl ?_
  intro p e s m args below meth c s₁ B hml hv Q hQ
  obtain ⟨rfl, hsz, hP, hK, hD0⟩ := hv
  have hx := B.exec
  have hb := B.bytes
  have hr := B.returns
  have hlocks := B.notSynchronized
  have hT : ∀ w ∈ gT, w.before _ s = true := fun w h => atoms_spec (ws := (Cond.code yX12_byKind cX12_byKind 5 (some .int) :: gT)) B.pre w (List.mem_cons_of_mem _ h)
  have hown : s.vm.findClass RX12 = some m.cls := findClass_of_methodNamed B.named
  subst hsz
  have hD := hD0.self (sz := s.heap.size)
  generalize hAe : va_A (mW cy a i r rl) s.heap.size = A at hD hQ
  have hA : ∀ q : Nat, s.heap.size ≤ q → A q := fun q h => by rw [← hAe]; exact Or.inr h
  have hS : va_S A s.heap s.heap [] := va_S.rf
  have hl := lv_entry ([.ref (a 0), .int p0, .int p1]) (n := 5) (Nat.le_of_ble_eq_true rfl)
  rw [lg_entry_eq]
  generalize (lg_sl ([.ref (a 0), .int p0, .int p1]) ++ List.replicate (5 - (lg_sl ([.ref (a 0), .int p0, .int p1])).length) Slot.unset).toArray = ls at hl ⊢
  have hl : lv_has ls 5 [(0, .ref (a 0)), (1, .int p0), (2, .int p1)] := hl
  have hEi : mEi [23, 24, 25, 26, 27, 28, 29, 30, 60] i i := Ei_rf
  have hEr : mEr [32, 33, 34, 35, 36, 37, 38, 39] r r := Er_rf
  refine lv_iload_n hx hb dX12_byKind_0 rfl (lv_at hl 1 rfl) ?_
  refine vp_callSi (W.runS (As := [.int p0]) (rest := []) ⟨hx, hb, hml, hown, hT⟩ (c_X12_isKind l p0) (va_cwS 1 hT (gS t_5 t_7 t_8 t_6) rfl rfl rfl (by decide +kernel) ⟨Nat.le_of_ble_eq_true rfl, Nat.le_of_ble_eq_true rfl⟩) preT rfl rfl hl.1 rfl (lv_room (Nat.le_of_ble_eq_true rfl)) dX12_byKind_1 ⟨Nat.le_of_ble_eq_true rfl, Nat.le_of_ble_eq_true rfl⟩) (fun r_1 hr_1 => ?_)
  have hr_1 : BR r_1 (0 ≤ p0.toInt ∧ p0.toInt ≤ 7) 1 0 := hr_1
  rcases hr_1 with ⟨rfl, h_2⟩ | ⟨rfl, h_2⟩
  · skip
    refine lv_if_eq (tgt := 14) hx hb dX12_byKind_4 (by decide) (fun c_3 => absurd c_3 (by decide)) (fun c_3 => ?_)
    refine lv_iload_n hx hb dX12_byKind_7 rfl (lv_at hl 2 rfl) ?_
    refine vp_callSi (W.runS (As := [.int p1]) (rest := []) ⟨hx, hb, hml, hown, hT⟩ (c_X12_isDay l p1) (va_cwS 1 hT (gS t_157 t_158 t_159 t_6) rfl rfl rfl (by decide +kernel) ⟨Nat.le_of_ble_eq_true rfl, Nat.le_of_ble_eq_true rfl⟩) preT rfl rfl hl.1 rfl (lv_room (Nat.le_of_ble_eq_true rfl)) dX12_byKind_8 ⟨Nat.le_of_ble_eq_true rfl, Nat.le_of_ble_eq_true rfl⟩) (fun r_4 hr_4 => ?_)
    have hr_4 : BR r_4 (0 ≤ p1.toInt ∧ p1.toInt ≤ 9999) 1 0 := hr_4
    rcases hr_4 with ⟨rfl, h_5⟩ | ⟨rfl, h_5⟩
    · skip
      refine lv_if_ne (tgt := 16) hx hb dX12_byKind_11 (by decide) (fun c_6 => ?_) (fun c_6 => absurd c_6 (by decide))
      refine lv_iconst (v := 0) hx hb dX12_byKind_16 (by decide) ?_
      refine lv_istore_n (lv' := [(3, .int 0), (0, .ref (a 0)), (1, .int p0), (2, .int p1)]) hx hb dX12_byKind_17 rfl hl (by decide) rfl (fun ls hl => ?_)
      refine lv_iconst (v := 0) hx hb dX12_byKind_18 (by decide) ?_
      refine lv_istore (lv' := [(4, .int 0), (3, .int 0), (0, .ref (a 0)), (1, .int p0), (2, .int p1)]) hx hb dX12_byKind_19 hl (by decide) rfl (fun ls hl => ?_)
      have loop_7 : ∀ (n : Nat) (x7_4 : Int32) (x7_3 : Int32) (i7 : Nat → Int32) (r7 : Nat → Nat → Int32) (H : Heap) (locs : List Loc) (ls : Array Slot), (30 - x7_4.toInt).toNat < n → (0 ≤ x7_4.toInt ∧ x7_4.toInt ≤ 30) → mRi i7 → mEi [23, 24, 25, 26, 27, 28, 29, 30, 60] i i7 → mRr r7 → mEr [32, 33, 34, 35, 36, 37, 38, 39] r r7 → va_P D vwCl (mW cy a i7 r7 rl) H → va_D A (mW cy a i7 r7 rl) → va_S A s.heap H locs → lv_has ls 5 [(4, .int x7_4), (3, .int x7_3), (0, .ref (a 0)), (1, .int p0), (2, .int p1)] → W p l e ({ frames := 7, cells := 0, slots := 0, locals := 168 } : Room) s m ([.ref (a 0), .int p0, .int p1] : List Value).toArray below meth c H locs 0 0 Q (F0 m 21 ls []) := by
        intro n
        induction n with
        | zero =>
          intro x7_4 x7_3 i7 r7 H locs ls hm7 hf7_0 hRi hEi hRr hEr hP hD hS hl
          exact absurd hm7 (by omega)
        | succ n ih7 =>
          intro x7_4 x7_3 i7 r7 H locs ls hm7 hf7_0 hRi hEi hRr hEr hP hD hS hl
          refine lv_iload hx hb dX12_byKind_21 (lv_at hl 0 rfl) ?_
          refine lv_aload_n hx hb dX12_byKind_23 rfl (lv_at hl 2 rfl) ?_
          refine va_get (D := D) (ci := 12) (v := .int (i7 51)) (C := RX12) (T := TX12) (N := 91) hx hb hT iX12 hown hK hP 0 rfl rfl 51 (by decide) (hT _ t_11) (fun _ h9 => h9) rfl dX12_byKind_24 ?_
          have hg_8 : 0 ≤ (i7 51).toInt ∧ (i7 51).toInt ≤ 30 := hRi 51
          refine lv_icmp_ge (tgt := 88) hx hb dX12_byKind_27 (by decide) (fun c_9 => ?_) (fun c_9 => ?_)
          · have c_9 : (i7 51).toInt ≤ x7_4.toInt := b_le c_9
            refine lv_iload_n hx hb dX12_byKind_88 rfl (lv_at hl 1 rfl) ?_
            subst hQ
            exact W.iret (v := x7_3) hx hb hr (fun t ht hW => ⟨⟨_, (i7, r7), rfl, ⟨hRi, hRr, hEi, hEr, trivial⟩, by rw [ht]; exact hP, va_K.moved hW.alike hK, hD⟩, hS.F ht⟩) hS.2.2 dX12_byKind_89
          · have c_9 : x7_4.toInt < (i7 51).toInt := b_nle c_9
            refine lv_iload_n hx hb dX12_byKind_30 rfl (lv_at hl 1 rfl) ?_
            refine lv_aload_n hx hb dX12_byKind_31 rfl (lv_at hl 2 rfl) ?_
            refine va_get (D := D) (ci := 12) (v := .ref (a 13)) (C := RX12) (T := TX12) (N := 91) hx hb hT iX12 hown hK hP 0 rfl rfl 14 (by decide) (hT _ t_24) (fun _ h9 => h9) rfl dX12_byKind_32 ?_
            refine lv_bipush (v := 20) hx hb dX12_byKind_35 (by decide) ?_
            refine lv_aload_n hx hb dX12_byKind_37 rfl (lv_at hl 2 rfl) ?_
            refine va_get (D := D) (ci := 12) (v := .ref (a 40)) (C := RX12) (T := TX12) (N := 91) hx hb hT iX12 hown hK hP 0 rfl rfl 52 (by decide) (hT _ t_75) (fun _ h9 => h9) rfl dX12_byKind_38 ?_
            refine lv_iload hx hb dX12_byKind_41 (lv_at hl 0 rfl) ?_
            refine va_iald hx hb hK hP 40 0 rfl rfl (vp_inI (by omega) (by omega)) dX12_byKind_43 ?_
            refine lv_topi (fun v_10 ev_10 => ?_)
            have hgv_10 : 0 ≤ v_10.toInt ∧ v_10.toInt ≤ 5 := by rw [ev_10]; exact hRr 40 _
            refine lv_imul hx hb dX12_byKind_44 ?_
            refine lv_topi (fun v_11 ev_11 => ?_)
            have hv_11 : v_11.toInt = 20 * v_10.toInt := by rw [ev_11]; have := b_rg v_10; exact i_mul (a := 20) (b := v_10.toInt) rfl rfl (by omega) (by omega)
            refine lv_aload_n hx hb dX12_byKind_45 rfl (lv_at hl 2 rfl) ?_
            refine va_get (D := D) (ci := 12) (v := .ref (a 41)) (C := RX12) (T := TX12) (N := 91) hx hb hT iX12 hown hK hP 0 rfl rfl 53 (by decide) (hT _ t_76) (fun _ h9 => h9) rfl dX12_byKind_46 ?_
            refine lv_iload hx hb dX12_byKind_49 (lv_at hl 0 rfl) ?_
            refine va_iald hx hb hK hP 41 0 rfl rfl (vp_inI (by omega) (by omega)) dX12_byKind_51 ?_
            refine lv_topi (fun v_12 ev_12 => ?_)
            have hgv_12 : 0 ≤ v_12.toInt ∧ v_12.toInt ≤ 19 := by rw [ev_12]; exact hRr 41 _
            refine lv_iadd hx hb dX12_byKind_52 ?_
            refine lv_topi (fun v_13 ev_13 => ?_)
            have hv_13 : v_13.toInt = v_11.toInt + v_12.toInt := by rw [ev_13]; have := b_rg v_11; have := b_rg v_12; exact i_add (a := v_11.toInt) (b := v_12.toInt) rfl rfl (by omega) (by omega)
            refine va_iald hx hb hK hP 13 0 rfl rfl (vp_inI (by omega) (by omega)) dX12_byKind_53 ?_
            refine lv_topi (fun v_14 ev_14 => ?_)
            have hgv_14 : 0 ≤ v_14.toInt ∧ v_14.toInt ≤ 7 := by rw [ev_14]; exact hRr 13 _
            refine lv_iload_n hx hb dX12_byKind_54 rfl (lv_at hl 3 rfl) ?_
            refine lv_icmp_ne (tgt := 79) hx hb dX12_byKind_55 (by decide) (fun c_15 => ?_) (fun c_15 => ?_)
            · have c_15 : v_14.toInt ≠ p0.toInt := b_ne c_15
              refine lv_iconst (v := 0) hx hb dX12_byKind_79 (by decide) ?_
              refine lv_iadd hx hb dX12_byKind_80 ?_
              refine lv_topi (fun v_16 ev_16 => ?_)
              have hv_16 : v_16.toInt = x7_3.toInt + 0 := by rw [ev_16]; have := b_rg x7_3; exact i_add (a := x7_3.toInt) (b := 0) rfl rfl (by omega) (by omega)
              refine lv_istore_n (lv' := [(3, .int v_16), (4, .int x7_4), (0, .ref (a 0)), (1, .int p0), (2, .int p1)]) hx hb dX12_byKind_81 rfl hl (by decide) rfl (fun ls hl => ?_)
              obtain ⟨x_17, ex_17⟩ : ∃ y : Int32, y = x7_4 + 1 := ⟨_, rfl⟩
              refine lv_iinc (v := x_17) (lv' := [(4, .int x_17), (3, .int v_16), (0, .ref (a 0)), (1, .int p0), (2, .int p1)]) hx hb dX12_byKind_82 hl (k := 1) rfl (by rw [ex_17]; rfl) (by decide) rfl (fun ls hl => ?_)
              have hx_17 : x_17.toInt = x7_4.toInt + 1 := by rw [ex_17]; have := b_rg x7_4; exact i_add (a := x7_4.toInt) (b := 1) rfl rfl (by omega) (by omega)
              refine lv_goto (tgt := 21) hx hb dX12_byKind_85 (by decide) ?_
              exact ih7 x_17 v_16 i7 r7 _ _ _ (by first | omega | (simp only [Int.toNat]; omega)) (by first | omega | decide) hRi hEi hRr hEr  hP hD hS (lv_sub hl [0, 1, 2, 3, 4] rfl)
            · have c_15 : v_14.toInt = p0.toInt := b_nne c_15
              refine lv_aload_n hx hb dX12_byKind_58 rfl (lv_at hl 2 rfl) ?_
              refine va_get (D := D) (ci := 12) (v := .ref (a 44)) (C := RX12) (T := TX12) (N := 91) hx hb hT iX12 hown hK hP 0 rfl rfl 56 (by decide) (hT _ t_139) (fun _ h9 => h9) rfl dX12_byKind_59 ?_
              refine lv_iload hx hb dX12_byKind_62 (lv_at hl 0 rfl) ?_
              refine va_iald hx hb hK hP 44 0 rfl rfl (vp_inI (by omega) (by omega)) dX12_byKind_64 ?_
              refine lv_topi (fun v_18 ev_18 => ?_)
              have hgv_18 : 0 ≤ v_18.toInt ∧ v_18.toInt ≤ 9999 := by rw [ev_18]; exact hRr 44 _
              refine lv_iload_n hx hb dX12_byKind_65 rfl (lv_at hl 4 rfl) ?_
              refine lv_icmp_gt (tgt := 79) hx hb dX12_byKind_66 (by decide) (fun c_19 => ?_) (fun c_19 => ?_)
              · have c_19 : p1.toInt < v_18.toInt := b_lt c_19
                refine lv_iconst (v := 0) hx hb dX12_byKind_79 (by decide) ?_
                refine lv_iadd hx hb dX12_byKind_80 ?_
                refine lv_topi (fun v_20 ev_20 => ?_)
                have hv_20 : v_20.toInt = x7_3.toInt + 0 := by rw [ev_20]; have := b_rg x7_3; exact i_add (a := x7_3.toInt) (b := 0) rfl rfl (by omega) (by omega)
                refine lv_istore_n (lv' := [(3, .int v_20), (4, .int x7_4), (0, .ref (a 0)), (1, .int p0), (2, .int p1)]) hx hb dX12_byKind_81 rfl hl (by decide) rfl (fun ls hl => ?_)
                obtain ⟨x_21, ex_21⟩ : ∃ y : Int32, y = x7_4 + 1 := ⟨_, rfl⟩
                refine lv_iinc (v := x_21) (lv' := [(4, .int x_21), (3, .int v_20), (0, .ref (a 0)), (1, .int p0), (2, .int p1)]) hx hb dX12_byKind_82 hl (k := 1) rfl (by rw [ex_21]; rfl) (by decide) rfl (fun ls hl => ?_)
                have hx_21 : x_21.toInt = x7_4.toInt + 1 := by rw [ex_21]; have := b_rg x7_4; exact i_add (a := x7_4.toInt) (b := 1) rfl rfl (by omega) (by omega)
                refine lv_goto (tgt := 21) hx hb dX12_byKind_85 (by decide) ?_
                exact ih7 x_21 v_20 i7 r7 _ _ _ (by first | omega | (simp only [Int.toNat]; omega)) (by first | omega | decide) hRi hEi hRr hEr  hP hD hS (lv_sub hl [0, 1, 2, 3, 4] rfl)
              · have c_19 : v_18.toInt ≤ p1.toInt := b_nlt c_19
                refine lv_aload_n hx hb dX12_byKind_69 rfl (lv_at hl 2 rfl) ?_
                refine lv_iload hx hb dX12_byKind_70 (lv_at hl 0 rfl) ?_
                refine lv_iload_n hx hb dX12_byKind_72 rfl (lv_at hl 4 rfl) ?_
                have hF_22 := rF hD hS hA
                refine va_calli (va_runV (As := [.int x7_4, .int p1]) (rest := [.int x7_3]) ⟨hx, hb, hml, hown, hT⟩ (c_X12_awardOf l D cy a i7 r7 rl x7_4 p1 _ hRi hRr (mE_same hEi hEr (by decide) (by decide) hE) (by omega)) (cwV 2 hT (gV t_160 t_161 t_162 t_163 t_6) rfl rfl rfl (by decide +kernel) ⟨Nat.le_of_ble_eq_true rfl, Nat.le_of_ble_eq_true rfl⟩) (rQ_v hP hK hD (va_recv hK hP (ci := 12) (q0 := 0) rfl rfl)) rfl rfl hl.1 rfl (lv_room (Nat.le_of_ble_eq_true rfl)) dX12_byKind_73 ⟨Nat.le_of_ble_eq_true rfl, Nat.le_of_ble_eq_true rfl⟩) hS (fun q _ h => hF_22 q h) hF_22 (fun r_23 u_24 t H1 locs ht hvm hr_23 hB hz1 hk1 hS => ?_)
                obtain ⟨i24, r24⟩ := u_24
                obtain ⟨hP, hK1, hD1⟩ := hB
                rw [ht] at hP
                have hD := hD1.weaken (fun k q _ h => hF_22 q.1 h)
                have hP : va_P D vwCl (mW cy a i24 r24 rl) H1 := hP
                have hD : va_D A (mW cy a i24 r24 rl) := hD
                obtain ⟨hRi, hRr, hE1, hE2, hr_23⟩ := hr_23
                have hRi : mRi i24 := hRi
                have hRr : mRr r24 := hRr
                have hEi : mEi [23, 24, 25, 26, 27, 28, 29, 30, 60] _ i24 := Ei_tr hEi hE1 (by decide)
                have hEr : mEr [32, 33, 34, 35, 36, 37, 38, 39] _ r24 := Er_tr hEr hE2 (by decide)
                refine lv_goto (tgt := 80) hx hb dX12_byKind_76 (by decide) ?_
                refine lv_iadd hx hb dX12_byKind_80 ?_
                refine lv_topi (fun v_25 ev_25 => ?_)
                refine lv_istore_n (lv' := [(3, .int v_25), (4, .int x7_4), (0, .ref (a 0)), (1, .int p0), (2, .int p1)]) hx hb dX12_byKind_81 rfl hl (by decide) rfl (fun ls hl => ?_)
                obtain ⟨x_26, ex_26⟩ : ∃ y : Int32, y = x7_4 + 1 := ⟨_, rfl⟩
                refine lv_iinc (v := x_26) (lv' := [(4, .int x_26), (3, .int v_25), (0, .ref (a 0)), (1, .int p0), (2, .int p1)]) hx hb dX12_byKind_82 hl (k := 1) rfl (by rw [ex_26]; rfl) (by decide) rfl (fun ls hl => ?_)
                have hx_26 : x_26.toInt = x7_4.toInt + 1 := by rw [ex_26]; have := b_rg x7_4; exact i_add (a := x7_4.toInt) (b := 1) rfl rfl (by omega) (by omega)
                refine lv_goto (tgt := 21) hx hb dX12_byKind_85 (by decide) ?_
                exact ih7 x_26 v_25 i24 r24 _ _ _ (by first | omega | (simp only [Int.toNat]; omega)) (by first | omega | decide) hRi hEi hRr hEr  hP hD hS (lv_sub hl [0, 1, 2, 3, 4] rfl)
      exact loop_7 _ 0 0 i r _ _ _ (Nat.lt_succ_self _) (by first | omega | decide) hRi hEi hRr hEr  hP hD hS hl
    · skip
      refine lv_if_ne (tgt := 16) hx hb dX12_byKind_11 (by decide) (fun c_27 => absurd (by decide) c_27) (fun c_27 => ?_)
      refine lv_iconst (v := (-1)) hx hb dX12_byKind_14 (by decide) ?_
      subst hQ
      exact W.iret (v := (-1)) hx hb hr (fun t ht hW => ⟨⟨_, (i, r), rfl, ⟨hRi, hRr, hEi, hEr, trivial⟩, by rw [ht]; exact hP, va_K.moved hW.alike hK, hD⟩, hS.F ht⟩) hS.2.2 dX12_byKind_15
  · skip
    refine lv_if_eq (tgt := 14) hx hb dX12_byKind_4 (by decide) (fun c_28 => ?_) (fun c_28 => absurd (by decide) c_28)
    refine lv_iconst (v := (-1)) hx hb dX12_byKind_14 (by decide) ?_
    subst hQ
    exact W.iret (v := (-1)) hx hb hr (fun t ht hW => ⟨⟨_, (i, r), rfl, ⟨hRi, hRr, hEi, hEr, trivial⟩, by rw [ht]; exact hP, va_K.moved hW.alike hK, hD⟩, hS.F ht⟩) hS.2.2 dX12_byKind_15
