set_option maxRecDepth 100000 in
theorem t_61 : Cond.code yX12_joinsAll cX12_joinsAll 8 none ∈ gT := tm (tb6 (List.mem_of_getElem? (i := 144) (by rfl))) (by decide +kernel)
set_option maxRecDepth 100000 in
theorem t_62 : Cond.methodLink RX12 393 yX12_joinsAll ∈ gT := tm (tb6 (List.mem_of_getElem? (i := 141) (by rfl))) (by decide +kernel)
set_option maxRecDepth 100000 in
theorem t_63 : Cond.instanceMethod yX12_joinsAll ∈ gT := tm (tb6 (List.mem_of_getElem? (i := 143) (by rfl))) (by decide +kernel)
theorem t_64 : Cond.selects RX12 yX12_joinsAll yX12_joinsAll ∈ gT := tmp (List.mem_of_getElem? (i := 54) (by decide +kernel)) (by decide +kernel)
set_option maxRecDepth 100000 in
theorem t_65 : Cond.fieldLink RX12 108 "DepositJudgeModel" "facts" "[I" ∈ gT := tm (tb5 (List.mem_of_getElem? (i := 1) (by rfl))) (by decide +kernel)
set_option maxRecDepth 100000 in
theorem t_66 : Cond.fieldLink RX12 19 "DepositJudgeModel" "tenantsOf" "[I" ∈ gT := tm (tb4 (List.mem_of_getElem? (i := 202) (by rfl))) (by decide +kernel)
set_option maxRecDepth 100000 in
theorem t_67 : Cond.code yX12_feelsHome cX12_feelsHome 3 none ∈ gT := tm (tb6 (List.mem_of_getElem? (i := 180) (by rfl))) (by decide +kernel)
set_option maxRecDepth 100000 in
theorem t_68 : Cond.methodLink RX12 367 yX12_feelsHome ∈ gT := tm (tb6 (List.mem_of_getElem? (i := 177) (by rfl))) (by decide +kernel)
set_option maxRecDepth 100000 in
theorem t_69 : Cond.instanceMethod yX12_feelsHome ∈ gT := tm (tb6 (List.mem_of_getElem? (i := 179) (by rfl))) (by decide +kernel)
theorem t_70 : Cond.selects RX12 yX12_feelsHome yX12_feelsHome ∈ gT := tmp (List.mem_of_getElem? (i := 63) (by decide +kernel)) (by decide +kernel)
set_option maxRecDepth 100000 in
theorem t_71 : Cond.code yX12_agedOf cX12_agedOf 3 (some .int) ∈ gT := tm (tb6 (List.mem_of_getElem? (i := 188) (by rfl))) (by decide +kernel)
set_option maxRecDepth 100000 in
theorem t_72 : Cond.methodLink RX12 373 yX12_agedOf ∈ gT := tm (tb6 (List.mem_of_getElem? (i := 185) (by rfl))) (by decide +kernel)
set_option maxRecDepth 100000 in
theorem t_73 : Cond.instanceMethod yX12_agedOf ∈ gT := tm (tb6 (List.mem_of_getElem? (i := 187) (by rfl))) (by decide +kernel)
theorem t_74 : Cond.selects RX12 yX12_agedOf yX12_agedOf ∈ gT := tmp (List.mem_of_getElem? (i := 65) (by decide +kernel)) (by decide +kernel)
set_option maxRecDepth 100000 in
theorem t_75 : Cond.fieldLink RX12 129 "DepositJudgeModel" "claimHome" "[I" ∈ gT := tm (tb5 (List.mem_of_getElem? (i := 9) (by rfl))) (by decide +kernel)
set_option maxRecDepth 100000 in
theorem t_76 : Cond.fieldLink RX12 132 "DepositJudgeModel" "claimThing" "[I" ∈ gT := tm (tb5 (List.mem_of_getElem? (i := 10) (by rfl))) (by decide +kernel)
set_option maxRecDepth 100000 in
theorem t_77 : Cond.code yX12_feelsThing cX12_feelsThing 3 none ∈ gT := tm (tb6 (List.mem_of_getElem? (i := 176) (by rfl))) (by decide +kernel)
set_option maxRecDepth 100000 in
theorem t_78 : Cond.methodLink RX12 376 yX12_feelsThing ∈ gT := tm (tb6 (List.mem_of_getElem? (i := 173) (by rfl))) (by decide +kernel)
set_option maxRecDepth 100000 in
theorem t_79 : Cond.instanceMethod yX12_feelsThing ∈ gT := tm (tb6 (List.mem_of_getElem? (i := 175) (by rfl))) (by decide +kernel)
theorem t_80 : Cond.selects RX12 yX12_feelsThing yX12_feelsThing ∈ gT := tmp (List.mem_of_getElem? (i := 62) (by decide +kernel)) (by decide +kernel)
set_option maxRecDepth 100000 in
theorem t_81 : Cond.fieldLink RX12 135 "DepositJudgeModel" "causeOf" "[I" ∈ gT := tm (tb5 (List.mem_of_getElem? (i := 11) (by rfl))) (by decide +kernel)
def dl_49 : List (Nat × (Instr × Nat)) := [(0, (.aload_n 0, 1)), (1, (.aload_n 0, 1)), (2, (.getfield 129, 3)), (5, (.iload_n 1, 1)), (6, (.iaload, 1)), (7, (.aload_n 0, 1)), (8, (.getfield 132, 3)), (11, (.iload_n 1, 1)), (12, (.iaload, 1)), (13, (.invokevirtual 376, 3)), (16, (.aload_n 0, 1)), (17, (.getfield 108, 3)), (20, (.bipush 8, 2)), (22, (.aload_n 0, 1)), (23, (.getfield 135, 3)), (26, (.iload_n 1, 1)), (27, (.iaload, 1)), (28, (.iastore, 1)), (29, (.aload_n 0, 1)), (30, (.getfield 108, 3))]
theorem dh_49 : dchk cX12_feelsClaim dl_49 = true := by decide +kernel
theorem dX12_feelsClaim_0 : decode cX12_feelsClaim 0 = .ok (.aload_n 0, 1) := dget dh_49 (k := 0) rfl
theorem dX12_feelsClaim_1 : decode cX12_feelsClaim 1 = .ok (.aload_n 0, 1) := dget dh_49 (k := 1) rfl
theorem dX12_feelsClaim_2 : decode cX12_feelsClaim 2 = .ok (.getfield 129, 3) := dget dh_49 (k := 2) rfl
theorem dX12_feelsClaim_5 : decode cX12_feelsClaim 5 = .ok (.iload_n 1, 1) := dget dh_49 (k := 3) rfl
theorem dX12_feelsClaim_6 : decode cX12_feelsClaim 6 = .ok (.iaload, 1) := dget dh_49 (k := 4) rfl
theorem dX12_feelsClaim_7 : decode cX12_feelsClaim 7 = .ok (.aload_n 0, 1) := dget dh_49 (k := 5) rfl
theorem dX12_feelsClaim_8 : decode cX12_feelsClaim 8 = .ok (.getfield 132, 3) := dget dh_49 (k := 6) rfl
theorem dX12_feelsClaim_11 : decode cX12_feelsClaim 11 = .ok (.iload_n 1, 1) := dget dh_49 (k := 7) rfl
theorem dX12_feelsClaim_12 : decode cX12_feelsClaim 12 = .ok (.iaload, 1) := dget dh_49 (k := 8) rfl
theorem dX12_feelsClaim_13 : decode cX12_feelsClaim 13 = .ok (.invokevirtual 376, 3) := dget dh_49 (k := 9) rfl
theorem dX12_feelsClaim_16 : decode cX12_feelsClaim 16 = .ok (.aload_n 0, 1) := dget dh_49 (k := 10) rfl
theorem dX12_feelsClaim_17 : decode cX12_feelsClaim 17 = .ok (.getfield 108, 3) := dget dh_49 (k := 11) rfl
theorem dX12_feelsClaim_20 : decode cX12_feelsClaim 20 = .ok (.bipush 8, 2) := dget dh_49 (k := 12) rfl
theorem dX12_feelsClaim_22 : decode cX12_feelsClaim 22 = .ok (.aload_n 0, 1) := dget dh_49 (k := 13) rfl
theorem dX12_feelsClaim_23 : decode cX12_feelsClaim 23 = .ok (.getfield 135, 3) := dget dh_49 (k := 14) rfl
theorem dX12_feelsClaim_26 : decode cX12_feelsClaim 26 = .ok (.iload_n 1, 1) := dget dh_49 (k := 15) rfl
theorem dX12_feelsClaim_27 : decode cX12_feelsClaim 27 = .ok (.iaload, 1) := dget dh_49 (k := 16) rfl
theorem dX12_feelsClaim_28 : decode cX12_feelsClaim 28 = .ok (.iastore, 1) := dget dh_49 (k := 17) rfl
theorem dX12_feelsClaim_29 : decode cX12_feelsClaim 29 = .ok (.aload_n 0, 1) := dget dh_49 (k := 18) rfl
theorem dX12_feelsClaim_30 : decode cX12_feelsClaim 30 = .ok (.getfield 108, 3) := dget dh_49 (k := 19) rfl
def dl_50 : List (Nat × (Instr × Nat)) := [(33, (.bipush 9, 2)), (35, (.aload_n 0, 1)), (36, (.getfield 138, 3)), (39, (.iload_n 1, 1)), (40, (.iaload, 1)), (41, (.iastore, 1)), (42, (.return_, 1))]
theorem dh_50 : dchk cX12_feelsClaim dl_50 = true := by decide +kernel
theorem dX12_feelsClaim_33 : decode cX12_feelsClaim 33 = .ok (.bipush 9, 2) := dget dh_50 (k := 0) rfl
theorem dX12_feelsClaim_35 : decode cX12_feelsClaim 35 = .ok (.aload_n 0, 1) := dget dh_50 (k := 1) rfl
theorem dX12_feelsClaim_36 : decode cX12_feelsClaim 36 = .ok (.getfield 138, 3) := dget dh_50 (k := 2) rfl
theorem dX12_feelsClaim_39 : decode cX12_feelsClaim 39 = .ok (.iload_n 1, 1) := dget dh_50 (k := 3) rfl
theorem dX12_feelsClaim_40 : decode cX12_feelsClaim 40 = .ok (.iaload, 1) := dget dh_50 (k := 4) rfl
theorem dX12_feelsClaim_41 : decode cX12_feelsClaim 41 = .ok (.iastore, 1) := dget dh_50 (k := 5) rfl
theorem dX12_feelsClaim_42 : decode cX12_feelsClaim 42 = .ok (.return_, 1) := dget dh_50 (k := 6) rfl
def dl_51 : List (Nat × (Instr × Nat)) := [(0, (.iconst 0, 1)), (1, (.istore_n 2, 1)), (2, (.iload_n 2, 1)), (3, (.bipush 10, 2)), (5, (.if_icmp .ge 16, 3)), (8, (.aload_n 0, 1)), (9, (.getfield 108, 3)), (12, (.iload_n 2, 1)), (13, (.iconst 0, 1)), (14, (.iastore, 1)), (15, (.iinc 2 1, 3)), (18, (.goto (-16), 3)), (21, (.aload_n 0, 1)), (22, (.getfield 108, 3)), (25, (.iconst 5, 1)), (26, (.aload_n 0, 1)), (27, (.iload_n 1, 1)), (28, (.invokevirtual 364, 3)), (31, (.iastore, 1)), (32, (.aload_n 0, 1))]
theorem dh_51 : dchk cX12_feelsHome dl_51 = true := by decide +kernel
theorem dX12_feelsHome_0 : decode cX12_feelsHome 0 = .ok (.iconst 0, 1) := dget dh_51 (k := 0) rfl
theorem dX12_feelsHome_1 : decode cX12_feelsHome 1 = .ok (.istore_n 2, 1) := dget dh_51 (k := 1) rfl
theorem dX12_feelsHome_2 : decode cX12_feelsHome 2 = .ok (.iload_n 2, 1) := dget dh_51 (k := 2) rfl
theorem dX12_feelsHome_3 : decode cX12_feelsHome 3 = .ok (.bipush 10, 2) := dget dh_51 (k := 3) rfl
theorem dX12_feelsHome_5 : decode cX12_feelsHome 5 = .ok (.if_icmp .ge 16, 3) := dget dh_51 (k := 4) rfl
theorem dX12_feelsHome_8 : decode cX12_feelsHome 8 = .ok (.aload_n 0, 1) := dget dh_51 (k := 5) rfl
theorem dX12_feelsHome_9 : decode cX12_feelsHome 9 = .ok (.getfield 108, 3) := dget dh_51 (k := 6) rfl
theorem dX12_feelsHome_12 : decode cX12_feelsHome 12 = .ok (.iload_n 2, 1) := dget dh_51 (k := 7) rfl
theorem dX12_feelsHome_13 : decode cX12_feelsHome 13 = .ok (.iconst 0, 1) := dget dh_51 (k := 8) rfl
theorem dX12_feelsHome_14 : decode cX12_feelsHome 14 = .ok (.iastore, 1) := dget dh_51 (k := 9) rfl
theorem dX12_feelsHome_15 : decode cX12_feelsHome 15 = .ok (.iinc 2 1, 3) := dget dh_51 (k := 10) rfl
theorem dX12_feelsHome_18 : decode cX12_feelsHome 18 = .ok (.goto (-16), 3) := dget dh_51 (k := 11) rfl
theorem dX12_feelsHome_21 : decode cX12_feelsHome 21 = .ok (.aload_n 0, 1) := dget dh_51 (k := 12) rfl
theorem dX12_feelsHome_22 : decode cX12_feelsHome 22 = .ok (.getfield 108, 3) := dget dh_51 (k := 13) rfl
theorem dX12_feelsHome_25 : decode cX12_feelsHome 25 = .ok (.iconst 5, 1) := dget dh_51 (k := 14) rfl
theorem dX12_feelsHome_26 : decode cX12_feelsHome 26 = .ok (.aload_n 0, 1) := dget dh_51 (k := 15) rfl
theorem dX12_feelsHome_27 : decode cX12_feelsHome 27 = .ok (.iload_n 1, 1) := dget dh_51 (k := 16) rfl
theorem dX12_feelsHome_28 : decode cX12_feelsHome 28 = .ok (.invokevirtual 364, 3) := dget dh_51 (k := 17) rfl
theorem dX12_feelsHome_31 : decode cX12_feelsHome 31 = .ok (.iastore, 1) := dget dh_51 (k := 18) rfl
theorem dX12_feelsHome_32 : decode cX12_feelsHome 32 = .ok (.aload_n 0, 1) := dget dh_51 (k := 19) rfl
def dl_52 : List (Nat × (Instr × Nat)) := [(33, (.getfield 108, 3)), (36, (.bipush 6, 2)), (38, (.aload_n 0, 1)), (39, (.getfield 19, 3)), (42, (.iload_n 1, 1)), (43, (.iaload, 1)), (44, (.iastore, 1)), (45, (.aload_n 0, 1)), (46, (.getfield 108, 3)), (49, (.bipush 7, 2)), (51, (.aload_n 0, 1)), (52, (.getfield 16, 3)), (55, (.iload_n 1, 1)), (56, (.iaload, 1)), (57, (.iastore, 1)), (58, (.return_, 1))]
theorem dh_52 : dchk cX12_feelsHome dl_52 = true := by decide +kernel
theorem dX12_feelsHome_33 : decode cX12_feelsHome 33 = .ok (.getfield 108, 3) := dget dh_52 (k := 0) rfl
theorem dX12_feelsHome_36 : decode cX12_feelsHome 36 = .ok (.bipush 6, 2) := dget dh_52 (k := 1) rfl
theorem dX12_feelsHome_38 : decode cX12_feelsHome 38 = .ok (.aload_n 0, 1) := dget dh_52 (k := 2) rfl
theorem dX12_feelsHome_39 : decode cX12_feelsHome 39 = .ok (.getfield 19, 3) := dget dh_52 (k := 3) rfl
theorem dX12_feelsHome_42 : decode cX12_feelsHome 42 = .ok (.iload_n 1, 1) := dget dh_52 (k := 4) rfl
theorem dX12_feelsHome_43 : decode cX12_feelsHome 43 = .ok (.iaload, 1) := dget dh_52 (k := 5) rfl
theorem dX12_feelsHome_44 : decode cX12_feelsHome 44 = .ok (.iastore, 1) := dget dh_52 (k := 6) rfl
theorem dX12_feelsHome_45 : decode cX12_feelsHome 45 = .ok (.aload_n 0, 1) := dget dh_52 (k := 7) rfl
theorem dX12_feelsHome_46 : decode cX12_feelsHome 46 = .ok (.getfield 108, 3) := dget dh_52 (k := 8) rfl
theorem dX12_feelsHome_49 : decode cX12_feelsHome 49 = .ok (.bipush 7, 2) := dget dh_52 (k := 9) rfl
theorem dX12_feelsHome_51 : decode cX12_feelsHome 51 = .ok (.aload_n 0, 1) := dget dh_52 (k := 10) rfl
theorem dX12_feelsHome_52 : decode cX12_feelsHome 52 = .ok (.getfield 16, 3) := dget dh_52 (k := 11) rfl
theorem dX12_feelsHome_55 : decode cX12_feelsHome 55 = .ok (.iload_n 1, 1) := dget dh_52 (k := 12) rfl
theorem dX12_feelsHome_56 : decode cX12_feelsHome 56 = .ok (.iaload, 1) := dget dh_52 (k := 13) rfl
theorem dX12_feelsHome_57 : decode cX12_feelsHome 57 = .ok (.iastore, 1) := dget dh_52 (k := 14) rfl
theorem dX12_feelsHome_58 : decode cX12_feelsHome 58 = .ok (.return_, 1) := dget dh_52 (k := 15) rfl
def dl_53 : List (Nat × (Instr × Nat)) := [(0, (.aload_n 0, 1)), (1, (.iload_n 1, 1)), (2, (.invokevirtual 367, 3)), (5, (.aload_n 0, 1)), (6, (.getfield 108, 3)), (9, (.iconst 0, 1)), (10, (.aload_n 0, 1)), (11, (.getfield 46, 3)), (14, (.bipush 20, 2)), (16, (.iload_n 1, 1)), (17, (.imul, 1)), (18, (.iload_n 2, 1)), (19, (.iadd, 1)), (20, (.iaload, 1)), (21, (.iastore, 1)), (22, (.aload_n 0, 1)), (23, (.getfield 108, 3)), (26, (.iconst 1, 1)), (27, (.aload_n 0, 1)), (28, (.getfield 43, 3))]
theorem dh_53 : dchk cX12_feelsThing dl_53 = true := by decide +kernel
theorem dX12_feelsThing_0 : decode cX12_feelsThing 0 = .ok (.aload_n 0, 1) := dget dh_53 (k := 0) rfl
theorem dX12_feelsThing_1 : decode cX12_feelsThing 1 = .ok (.iload_n 1, 1) := dget dh_53 (k := 1) rfl
theorem dX12_feelsThing_2 : decode cX12_feelsThing 2 = .ok (.invokevirtual 367, 3) := dget dh_53 (k := 2) rfl
theorem dX12_feelsThing_5 : decode cX12_feelsThing 5 = .ok (.aload_n 0, 1) := dget dh_53 (k := 3) rfl
theorem dX12_feelsThing_6 : decode cX12_feelsThing 6 = .ok (.getfield 108, 3) := dget dh_53 (k := 4) rfl
theorem dX12_feelsThing_9 : decode cX12_feelsThing 9 = .ok (.iconst 0, 1) := dget dh_53 (k := 5) rfl
theorem dX12_feelsThing_10 : decode cX12_feelsThing 10 = .ok (.aload_n 0, 1) := dget dh_53 (k := 6) rfl
theorem dX12_feelsThing_11 : decode cX12_feelsThing 11 = .ok (.getfield 46, 3) := dget dh_53 (k := 7) rfl
theorem dX12_feelsThing_14 : decode cX12_feelsThing 14 = .ok (.bipush 20, 2) := dget dh_53 (k := 8) rfl
theorem dX12_feelsThing_16 : decode cX12_feelsThing 16 = .ok (.iload_n 1, 1) := dget dh_53 (k := 9) rfl
theorem dX12_feelsThing_17 : decode cX12_feelsThing 17 = .ok (.imul, 1) := dget dh_53 (k := 10) rfl
theorem dX12_feelsThing_18 : decode cX12_feelsThing 18 = .ok (.iload_n 2, 1) := dget dh_53 (k := 11) rfl
theorem dX12_feelsThing_19 : decode cX12_feelsThing 19 = .ok (.iadd, 1) := dget dh_53 (k := 12) rfl
theorem dX12_feelsThing_20 : decode cX12_feelsThing 20 = .ok (.iaload, 1) := dget dh_53 (k := 13) rfl
theorem dX12_feelsThing_21 : decode cX12_feelsThing 21 = .ok (.iastore, 1) := dget dh_53 (k := 14) rfl
theorem dX12_feelsThing_22 : decode cX12_feelsThing 22 = .ok (.aload_n 0, 1) := dget dh_53 (k := 15) rfl
theorem dX12_feelsThing_23 : decode cX12_feelsThing 23 = .ok (.getfield 108, 3) := dget dh_53 (k := 16) rfl
theorem dX12_feelsThing_26 : decode cX12_feelsThing 26 = .ok (.iconst 1, 1) := dget dh_53 (k := 17) rfl
theorem dX12_feelsThing_27 : decode cX12_feelsThing 27 = .ok (.aload_n 0, 1) := dget dh_53 (k := 18) rfl
theorem dX12_feelsThing_28 : decode cX12_feelsThing 28 = .ok (.getfield 43, 3) := dget dh_53 (k := 19) rfl
def dl_54 : List (Nat × (Instr × Nat)) := [(31, (.bipush 20, 2)), (33, (.iload_n 1, 1)), (34, (.imul, 1)), (35, (.iload_n 2, 1)), (36, (.iadd, 1)), (37, (.iaload, 1)), (38, (.iastore, 1)), (39, (.aload_n 0, 1)), (40, (.getfield 108, 3)), (43, (.iconst 2, 1)), (44, (.aload_n 0, 1)), (45, (.getfield 49, 3)), (48, (.bipush 20, 2)), (50, (.iload_n 1, 1)), (51, (.imul, 1)), (52, (.iload_n 2, 1)), (53, (.iadd, 1)), (54, (.iaload, 1)), (55, (.iastore, 1)), (56, (.aload_n 0, 1))]
theorem dh_54 : dchk cX12_feelsThing dl_54 = true := by decide +kernel
theorem dX12_feelsThing_31 : decode cX12_feelsThing 31 = .ok (.bipush 20, 2) := dget dh_54 (k := 0) rfl
theorem dX12_feelsThing_33 : decode cX12_feelsThing 33 = .ok (.iload_n 1, 1) := dget dh_54 (k := 1) rfl
theorem dX12_feelsThing_34 : decode cX12_feelsThing 34 = .ok (.imul, 1) := dget dh_54 (k := 2) rfl
theorem dX12_feelsThing_35 : decode cX12_feelsThing 35 = .ok (.iload_n 2, 1) := dget dh_54 (k := 3) rfl
theorem dX12_feelsThing_36 : decode cX12_feelsThing 36 = .ok (.iadd, 1) := dget dh_54 (k := 4) rfl
theorem dX12_feelsThing_37 : decode cX12_feelsThing 37 = .ok (.iaload, 1) := dget dh_54 (k := 5) rfl
theorem dX12_feelsThing_38 : decode cX12_feelsThing 38 = .ok (.iastore, 1) := dget dh_54 (k := 6) rfl
theorem dX12_feelsThing_39 : decode cX12_feelsThing 39 = .ok (.aload_n 0, 1) := dget dh_54 (k := 7) rfl
theorem dX12_feelsThing_40 : decode cX12_feelsThing 40 = .ok (.getfield 108, 3) := dget dh_54 (k := 8) rfl
theorem dX12_feelsThing_43 : decode cX12_feelsThing 43 = .ok (.iconst 2, 1) := dget dh_54 (k := 9) rfl
theorem dX12_feelsThing_44 : decode cX12_feelsThing 44 = .ok (.aload_n 0, 1) := dget dh_54 (k := 10) rfl
theorem dX12_feelsThing_45 : decode cX12_feelsThing 45 = .ok (.getfield 49, 3) := dget dh_54 (k := 11) rfl
theorem dX12_feelsThing_48 : decode cX12_feelsThing 48 = .ok (.bipush 20, 2) := dget dh_54 (k := 12) rfl
theorem dX12_feelsThing_50 : decode cX12_feelsThing 50 = .ok (.iload_n 1, 1) := dget dh_54 (k := 13) rfl
theorem dX12_feelsThing_51 : decode cX12_feelsThing 51 = .ok (.imul, 1) := dget dh_54 (k := 14) rfl
theorem dX12_feelsThing_52 : decode cX12_feelsThing 52 = .ok (.iload_n 2, 1) := dget dh_54 (k := 15) rfl
theorem dX12_feelsThing_53 : decode cX12_feelsThing 53 = .ok (.iadd, 1) := dget dh_54 (k := 16) rfl
theorem dX12_feelsThing_54 : decode cX12_feelsThing 54 = .ok (.iaload, 1) := dget dh_54 (k := 17) rfl
theorem dX12_feelsThing_55 : decode cX12_feelsThing 55 = .ok (.iastore, 1) := dget dh_54 (k := 18) rfl
theorem dX12_feelsThing_56 : decode cX12_feelsThing 56 = .ok (.aload_n 0, 1) := dget dh_54 (k := 19) rfl
def dl_55 : List (Nat × (Instr × Nat)) := [(57, (.getfield 108, 3)), (60, (.iconst 3, 1)), (61, (.aload_n 0, 1)), (62, (.iload_n 1, 1)), (63, (.iload_n 2, 1)), (64, (.invokevirtual 370, 3)), (67, (.iastore, 1)), (68, (.aload_n 0, 1)), (69, (.getfield 108, 3)), (72, (.iconst 4, 1)), (73, (.aload_n 0, 1)), (74, (.iload_n 1, 1)), (75, (.iload_n 2, 1)), (76, (.invokevirtual 373, 3)), (79, (.iastore, 1)), (80, (.return_, 1))]
theorem dh_55 : dchk cX12_feelsThing dl_55 = true := by decide +kernel
theorem dX12_feelsThing_57 : decode cX12_feelsThing 57 = .ok (.getfield 108, 3) := dget dh_55 (k := 0) rfl
theorem dX12_feelsThing_60 : decode cX12_feelsThing 60 = .ok (.iconst 3, 1) := dget dh_55 (k := 1) rfl
theorem dX12_feelsThing_61 : decode cX12_feelsThing 61 = .ok (.aload_n 0, 1) := dget dh_55 (k := 2) rfl
theorem dX12_feelsThing_62 : decode cX12_feelsThing 62 = .ok (.iload_n 1, 1) := dget dh_55 (k := 3) rfl
theorem dX12_feelsThing_63 : decode cX12_feelsThing 63 = .ok (.iload_n 2, 1) := dget dh_55 (k := 4) rfl
theorem dX12_feelsThing_64 : decode cX12_feelsThing 64 = .ok (.invokevirtual 370, 3) := dget dh_55 (k := 5) rfl
theorem dX12_feelsThing_67 : decode cX12_feelsThing 67 = .ok (.iastore, 1) := dget dh_55 (k := 6) rfl
theorem dX12_feelsThing_68 : decode cX12_feelsThing 68 = .ok (.aload_n 0, 1) := dget dh_55 (k := 7) rfl
theorem dX12_feelsThing_69 : decode cX12_feelsThing 69 = .ok (.getfield 108, 3) := dget dh_55 (k := 8) rfl
theorem dX12_feelsThing_72 : decode cX12_feelsThing 72 = .ok (.iconst 4, 1) := dget dh_55 (k := 9) rfl
theorem dX12_feelsThing_73 : decode cX12_feelsThing 73 = .ok (.aload_n 0, 1) := dget dh_55 (k := 10) rfl
theorem dX12_feelsThing_74 : decode cX12_feelsThing 74 = .ok (.iload_n 1, 1) := dget dh_55 (k := 11) rfl
theorem dX12_feelsThing_75 : decode cX12_feelsThing 75 = .ok (.iload_n 2, 1) := dget dh_55 (k := 12) rfl
theorem dX12_feelsThing_76 : decode cX12_feelsThing 76 = .ok (.invokevirtual 373, 3) := dget dh_55 (k := 13) rfl
theorem dX12_feelsThing_79 : decode cX12_feelsThing 79 = .ok (.iastore, 1) := dget dh_55 (k := 14) rfl
theorem dX12_feelsThing_80 : decode cX12_feelsThing 80 = .ok (.return_, 1) := dget dh_55 (k := 15) rfl
def dl_56 : List (Nat × (Instr × Nat)) := [(0, (.iconst 0, 1)), (1, (.istore_n 2, 1)), (2, (.iload_n 2, 1)), (3, (.bipush 20, 2)), (5, (.if_icmp .ge 23, 3)), (8, (.aload_n 0, 1)), (9, (.getfield 111, 3)), (12, (.iload_n 2, 1)), (13, (.iconst (-1), 1)), (14, (.iastore, 1)), (15, (.aload_n 0, 1)), (16, (.getfield 126, 3)), (19, (.iload_n 2, 1)), (20, (.iconst 0, 1)), (21, (.bastore, 1)), (22, (.iinc 2 1, 3)), (25, (.goto (-23), 3)), (28, (.iconst 0, 1)), (29, (.istore_n 2, 1)), (30, (.iload_n 2, 1))]
theorem dh_56 : dchk cX12_laysJoined dl_56 = true := by decide +kernel
theorem dX12_laysJoined_0 : decode cX12_laysJoined 0 = .ok (.iconst 0, 1) := dget dh_56 (k := 0) rfl
theorem dX12_laysJoined_1 : decode cX12_laysJoined 1 = .ok (.istore_n 2, 1) := dget dh_56 (k := 1) rfl
theorem dX12_laysJoined_2 : decode cX12_laysJoined 2 = .ok (.iload_n 2, 1) := dget dh_56 (k := 2) rfl
theorem dX12_laysJoined_3 : decode cX12_laysJoined 3 = .ok (.bipush 20, 2) := dget dh_56 (k := 3) rfl
theorem dX12_laysJoined_5 : decode cX12_laysJoined 5 = .ok (.if_icmp .ge 23, 3) := dget dh_56 (k := 4) rfl
theorem dX12_laysJoined_8 : decode cX12_laysJoined 8 = .ok (.aload_n 0, 1) := dget dh_56 (k := 5) rfl
theorem dX12_laysJoined_9 : decode cX12_laysJoined 9 = .ok (.getfield 111, 3) := dget dh_56 (k := 6) rfl
theorem dX12_laysJoined_12 : decode cX12_laysJoined 12 = .ok (.iload_n 2, 1) := dget dh_56 (k := 7) rfl
theorem dX12_laysJoined_13 : decode cX12_laysJoined 13 = .ok (.iconst (-1), 1) := dget dh_56 (k := 8) rfl
theorem dX12_laysJoined_14 : decode cX12_laysJoined 14 = .ok (.iastore, 1) := dget dh_56 (k := 9) rfl
theorem dX12_laysJoined_15 : decode cX12_laysJoined 15 = .ok (.aload_n 0, 1) := dget dh_56 (k := 10) rfl
theorem dX12_laysJoined_16 : decode cX12_laysJoined 16 = .ok (.getfield 126, 3) := dget dh_56 (k := 11) rfl
theorem dX12_laysJoined_19 : decode cX12_laysJoined 19 = .ok (.iload_n 2, 1) := dget dh_56 (k := 12) rfl
theorem dX12_laysJoined_20 : decode cX12_laysJoined 20 = .ok (.iconst 0, 1) := dget dh_56 (k := 13) rfl
theorem dX12_laysJoined_21 : decode cX12_laysJoined 21 = .ok (.bastore, 1) := dget dh_56 (k := 14) rfl
theorem dX12_laysJoined_22 : decode cX12_laysJoined 22 = .ok (.iinc 2 1, 3) := dget dh_56 (k := 15) rfl
theorem dX12_laysJoined_25 : decode cX12_laysJoined 25 = .ok (.goto (-23), 3) := dget dh_56 (k := 16) rfl
theorem dX12_laysJoined_28 : decode cX12_laysJoined 28 = .ok (.iconst 0, 1) := dget dh_56 (k := 17) rfl
theorem dX12_laysJoined_29 : decode cX12_laysJoined 29 = .ok (.istore_n 2, 1) := dget dh_56 (k := 18) rfl
theorem dX12_laysJoined_30 : decode cX12_laysJoined 30 = .ok (.iload_n 2, 1) := dget dh_56 (k := 19) rfl
def dl_57 : List (Nat × (Instr × Nat)) := [(31, (.aload_n 0, 1)), (32, (.getfield 37, 3)), (35, (.iload_n 1, 1)), (36, (.iaload, 1)), (37, (.if_icmp .ge 25, 3)), (40, (.aload_n 0, 1)), (41, (.getfield 111, 3)), (44, (.iload_n 2, 1)), (45, (.iaload, 1)), (46, (.iconst (-1), 1)), (47, (.if_icmp .ne 9, 3)), (50, (.aload_n 0, 1)), (51, (.iload_n 1, 1)), (52, (.iload_n 2, 1)), (53, (.invokevirtual 393, 3)), (56, (.iinc 2 1, 3)), (59, (.goto (-29), 3)), (62, (.return_, 1))]
theorem dh_57 : dchk cX12_laysJoined dl_57 = true := by decide +kernel
theorem dX12_laysJoined_31 : decode cX12_laysJoined 31 = .ok (.aload_n 0, 1) := dget dh_57 (k := 0) rfl
theorem dX12_laysJoined_32 : decode cX12_laysJoined 32 = .ok (.getfield 37, 3) := dget dh_57 (k := 1) rfl
theorem dX12_laysJoined_35 : decode cX12_laysJoined 35 = .ok (.iload_n 1, 1) := dget dh_57 (k := 2) rfl
theorem dX12_laysJoined_36 : decode cX12_laysJoined 36 = .ok (.iaload, 1) := dget dh_57 (k := 3) rfl
theorem dX12_laysJoined_37 : decode cX12_laysJoined 37 = .ok (.if_icmp .ge 25, 3) := dget dh_57 (k := 4) rfl
theorem dX12_laysJoined_40 : decode cX12_laysJoined 40 = .ok (.aload_n 0, 1) := dget dh_57 (k := 5) rfl
theorem dX12_laysJoined_41 : decode cX12_laysJoined 41 = .ok (.getfield 111, 3) := dget dh_57 (k := 6) rfl
theorem dX12_laysJoined_44 : decode cX12_laysJoined 44 = .ok (.iload_n 2, 1) := dget dh_57 (k := 7) rfl
theorem dX12_laysJoined_45 : decode cX12_laysJoined 45 = .ok (.iaload, 1) := dget dh_57 (k := 8) rfl
theorem dX12_laysJoined_46 : decode cX12_laysJoined 46 = .ok (.iconst (-1), 1) := dget dh_57 (k := 9) rfl
theorem dX12_laysJoined_47 : decode cX12_laysJoined 47 = .ok (.if_icmp .ne 9, 3) := dget dh_57 (k := 10) rfl
theorem dX12_laysJoined_50 : decode cX12_laysJoined 50 = .ok (.aload_n 0, 1) := dget dh_57 (k := 11) rfl
theorem dX12_laysJoined_51 : decode cX12_laysJoined 51 = .ok (.iload_n 1, 1) := dget dh_57 (k := 12) rfl
theorem dX12_laysJoined_52 : decode cX12_laysJoined 52 = .ok (.iload_n 2, 1) := dget dh_57 (k := 13) rfl
theorem dX12_laysJoined_53 : decode cX12_laysJoined 53 = .ok (.invokevirtual 393, 3) := dget dh_57 (k := 14) rfl
theorem dX12_laysJoined_56 : decode cX12_laysJoined 56 = .ok (.iinc 2 1, 3) := dget dh_57 (k := 15) rfl
theorem dX12_laysJoined_59 : decode cX12_laysJoined 59 = .ok (.goto (-29), 3) := dget dh_57 (k := 16) rfl
theorem dX12_laysJoined_62 : decode cX12_laysJoined 62 = .ok (.return_, 1) := dget dh_57 (k := 17) rfl
set_option maxHeartbeats 4000000 in
set_option maxRecDepth 100000 in
theorem c_X12_laysJoined (l : Launch) (D : va_G) (cy : Nat → ClassId) (a : Nat → Nat) (i : Nat → Int32) (r : Nat → Nat → Int32) (rl : Nat → Int64) (p0 : Int32) (sz : Nat) (hRi : mRi i) (hRr : mRr r) (q0 : 0 ≤ p0.toInt ∧ p0.toInt ≤ 5) : Met l yX12_laysJoined (Cond.code yX12_laysJoined cX12_laysJoined 3 none :: gT) { frames := 4, cells := 0, slots := 0, locals := 104 } (va_Pc [.ref (a 0), .int p0] (rQ D cy (mW cy a i r rl) sz)) (va_Qv (fun u : Nat → Nat → Int32 => mRr u ∧ mEr [34, 35, 36, 37, 38, 39] r u ∧ (∀ k : Nat, (k : Int) < (r 10 p0.toNatClampNeg).toInt → jOK u k)) (fun (u : Nat → Nat → Int32) t => va_P D vwCl (mW cy a i u rl) t.heap ∧ va_K D vwCl (vT cy) t ∧ va_D (va_A (mW cy a i r rl) sz) (mW cy a i u rl)) (va_A (mW cy a i r rl) sz)) 0 0 (va_A (mW cy a i r rl) sz) := by
  refine Met.ofQ (cc := cX12_laysJoined) (maxL := 3) (ret := none) (by decide) rfl ?_
  intro p e s m args below meth c s₁ B hml hv Q hQ
  obtain ⟨rfl, hsz, hP, hK, hD0⟩ := hv
  have hx := B.exec
  have hb := B.bytes
  have hr := B.returns
  have hlocks := B.notSynchronized
  have hT : ∀ w ∈ gT, w.before _ s = true := fun w h => atoms_spec (ws := (Cond.code yX12_laysJoined cX12_laysJoined 3 none :: gT)) B.pre w (List.mem_cons_of_mem _ h)
  have hown : s.vm.findClass RX12 = some m.cls := findClass_of_methodNamed B.named
  subst hsz
  have hD := hD0.self (sz := s.heap.size)
  generalize hAe : va_A (mW cy a i r rl) s.heap.size = A at hD hQ
  have hA : ∀ q : Nat, s.heap.size ≤ q → A q := fun q h => by rw [← hAe]; exact Or.inr h
  have hS : va_S A s.heap s.heap [] := va_S.rf
  have hl := lv_entry ([.ref (a 0), .int p0]) (n := 3) (Nat.le_of_ble_eq_true rfl)
  rw [lg_entry_eq]
  generalize (lg_sl ([.ref (a 0), .int p0]) ++ List.replicate (3 - (lg_sl ([.ref (a 0), .int p0])).length) Slot.unset).toArray = ls at hl ⊢
  have hl : lv_has ls 3 [(0, .ref (a 0)), (1, .int p0)] := hl
  have hEi : mEi [23, 24, 25, 26, 27, 28, 29, 30, 60] i i := Ei_rf
  have hEr : mEr [34, 35, 36, 37, 38, 39] r r := Er_rf
  refine lv_iconst (v := 0) hx hb dX12_laysJoined_0 (by decide) ?_
  refine lv_istore_n (lv' := [(2, .int 0), (0, .ref (a 0)), (1, .int p0)]) hx hb dX12_laysJoined_1 rfl hl (by decide) rfl (fun ls hl => ?_)
  have loop_1 : ∀ (n : Nat) (x1_2 : Int32) (r1 : Nat → Nat → Int32) (H : Heap) (locs : List Loc) (ls : Array Slot), (20 - x1_2.toInt).toNat < n → (0 ≤ x1_2.toInt ∧ x1_2.toInt ≤ 20) → mRr r1 → mEr [34, 35, 36, 37, 38, 39] r r1 → (∀ k : Nat, (k : Int) < x1_2.toInt → (r1 34 k).toInt = -1) → va_P D vwCl (mW cy a i r1 rl) H → va_D A (mW cy a i r1 rl) → va_S A s.heap H locs → lv_has ls 3 [(2, .int x1_2), (0, .ref (a 0)), (1, .int p0)] → W p l e ({ frames := 4, cells := 0, slots := 0, locals := 104 } : Room) s m ([.ref (a 0), .int p0] : List Value).toArray below meth c H locs 0 0 Q (F0 m 2 ls []) := by
    intro n
    induction n with
    | zero =>
      intro x1_2 r1 H locs ls hm1 hf1_0 hRr hEr hx1 hP hD hS hl
      exact absurd hm1 (by omega)
    | succ n ih1 =>
      intro x1_2 r1 H locs ls hm1 hf1_0 hRr hEr hx1 hP hD hS hl
      refine lv_iload_n hx hb dX12_laysJoined_2 rfl (lv_at hl 0 rfl) ?_
      refine lv_bipush (v := 20) hx hb dX12_laysJoined_3 (by decide) ?_
      refine lv_icmp_ge (tgt := 28) hx hb dX12_laysJoined_5 (by decide) (fun c_2 => ?_) (fun c_2 => ?_)
      · have c_2 : 20 ≤ x1_2.toInt := b_le c_2
        refine lv_iconst (v := 0) hx hb dX12_laysJoined_28 (by decide) ?_
        refine lv_istore_n (lv' := [(2, .int 0), (0, .ref (a 0)), (1, .int p0)]) hx hb dX12_laysJoined_29 rfl hl (by decide) rfl (fun ls hl => ?_)
        have loop_3 : ∀ (n : Nat) (x3_2 : Int32) (r3 : Nat → Nat → Int32) (H : Heap) (locs : List Loc) (ls : Array Slot), (20 - x3_2.toInt).toNat < n → (0 ≤ x3_2.toInt ∧ x3_2.toInt ≤ 20) → mRr r3 → mEr [34, 35, 36, 37, 38, 39] r r3 → ((∀ k : Nat, (k : Int) < x3_2.toInt → jOK r3 k) ∧ (∀ k : Nat, (k : Int) < 20 → jOK r3 k ∨ (r3 34 k).toInt = -1)) → va_P D vwCl (mW cy a i r3 rl) H → va_D A (mW cy a i r3 rl) → va_S A s.heap H locs → lv_has ls 3 [(2, .int x3_2), (0, .ref (a 0)), (1, .int p0)] → W p l e ({ frames := 4, cells := 0, slots := 0, locals := 104 } : Room) s m ([.ref (a 0), .int p0] : List Value).toArray below meth c H locs 0 0 Q (F0 m 30 ls []) := by
          intro n
          induction n with
          | zero =>
            intro x3_2 r3 H locs ls hm3 hf3_0 hRr hEr hx3 hP hD hS hl
            exact absurd hm3 (by omega)
          | succ n ih3 =>
            intro x3_2 r3 H locs ls hm3 hf3_0 hRr hEr hx3 hP hD hS hl
            refine lv_iload_n hx hb dX12_laysJoined_30 rfl (lv_at hl 0 rfl) ?_
            refine lv_aload_n hx hb dX12_laysJoined_31 rfl (lv_at hl 1 rfl) ?_
            refine va_get (D := D) (ci := 12) (v := .ref (a 10)) (C := RX12) (T := TX12) (N := 91) hx hb hT iX12 hown hK hP 0 rfl rfl 11 (by decide) (hT _ t_16) (fun _ h9 => h9) rfl dX12_laysJoined_32 ?_
            refine lv_iload_n hx hb dX12_laysJoined_35 rfl (lv_at hl 2 rfl) ?_
            refine va_iald hx hb hK hP 10 0 rfl rfl (vp_inI (by omega) (by omega)) dX12_laysJoined_36 ?_
            refine lv_topi (fun v_4 ev_4 => ?_)
            have hgv_4 : 0 ≤ v_4.toInt ∧ v_4.toInt ≤ 20 := by rw [ev_4]; exact hRr 10 _
            have hwv_4 : v_4.toInt = (r3 10 (p0.toNatClampNeg)).toInt := congrArg Int32.toInt ev_4
            refine lv_icmp_ge (tgt := 62) hx hb dX12_laysJoined_37 (by decide) (fun c_5 => ?_) (fun c_5 => ?_)
            · have c_5 : v_4.toInt ≤ x3_2.toInt := b_le c_5
              subst hQ
              have hw8 : (r3 10 p0.toNatClampNeg).toInt = (r 10 p0.toNatClampNeg).toInt := by rw [hEr 10 (by decide)]
              exact W.vret hx hb hr (fun t ht hW => ⟨⟨r3, rfl, ⟨hRr, hEr, (fun k hk => hx3.1 k (by omega))⟩, by rw [ht]; exact hP, va_K.moved hW.alike hK, hD⟩, hS.F ht⟩) hS.2.2 dX12_laysJoined_62
            · have c_5 : x3_2.toInt < v_4.toInt := b_nle c_5
              refine lv_aload_n hx hb dX12_laysJoined_40 rfl (lv_at hl 1 rfl) ?_
              refine va_get (D := D) (ci := 12) (v := .ref (a 34)) (C := RX12) (T := TX12) (N := 91) hx hb hT iX12 hown hK hP 0 rfl rfl 45 (by decide) (hT _ t_32) (fun _ h9 => h9) rfl dX12_laysJoined_41 ?_
              refine lv_iload_n hx hb dX12_laysJoined_44 rfl (lv_at hl 0 rfl) ?_
              refine va_iald hx hb hK hP 34 0 rfl rfl (vp_inI (by omega) (by omega)) dX12_laysJoined_45 ?_
              refine lv_topi (fun v_6 ev_6 => ?_)
              have hgv_6 : -1 ≤ v_6.toInt ∧ v_6.toInt ≤ 99 := by rw [ev_6]; exact hRr 34 _
              have hwv_6 : v_6.toInt = (r3 34 (x3_2.toNatClampNeg)).toInt := congrArg Int32.toInt ev_6
              refine lv_iconst (v := (-1)) hx hb dX12_laysJoined_46 (by decide) ?_
              refine lv_icmp_ne (tgt := 56) hx hb dX12_laysJoined_47 (by decide) (fun c_7 => ?_) (fun c_7 => ?_)
              · have c_7 : v_6.toInt ≠ (-1) := b_ne c_7
                obtain ⟨x_8, ex_8⟩ : ∃ y : Int32, y = x3_2 + 1 := ⟨_, rfl⟩
                refine lv_iinc (v := x_8) (lv' := [(2, .int x_8), (0, .ref (a 0)), (1, .int p0)]) hx hb dX12_laysJoined_56 hl (k := 0) rfl (by rw [ex_8]; rfl) (by decide) rfl (fun ls hl => ?_)
                have hx_8 : x_8.toInt = x3_2.toInt + 1 := by rw [ex_8]; have := b_rg x3_2; exact i_add (a := x3_2.toInt) (b := 1) rfl rfl (by omega) (by omega)
                refine lv_goto (tgt := 30) hx hb dX12_laysJoined_59 (by decide) ?_
                have hxc : x3_2.toNatClampNeg = x3_2.toInt.toNat := rfl
                have ha : ∀ k : Nat, (k : Int) < x_8.toInt → jOK r3 k := by
                  intro k hk
                  by_cases h8 : k = x3_2.toNatClampNeg
                  · rw [h8]; exact (hx3.2 _ (by omega)).elim id (fun h9 => absurd h9 (by omega))
                  · exact hx3.1 k (by omega)
                exact ih3 x_8 r3 _ _ _ (by first | omega | (simp only [Int.toNat]; omega)) (by first | omega | decide) hRr hEr ⟨ha, hx3.2⟩ hP hD hS (lv_sub hl [0, 1, 2] rfl)
              · have c_7 : v_6.toInt = (-1) := b_nne c_7
                refine lv_aload_n hx hb dX12_laysJoined_50 rfl (lv_at hl 1 rfl) ?_
                refine lv_iload_n hx hb dX12_laysJoined_51 rfl (lv_at hl 2 rfl) ?_
                refine lv_iload_n hx hb dX12_laysJoined_52 rfl (lv_at hl 0 rfl) ?_
                have hF_9 := rF hD hS hA
                refine va_callv (va_runV (As := [.int p0, .int x3_2]) (rest := []) ⟨hx, hb, hml, hown, hT⟩ (c_X12_joinsAll l D cy a i r3 rl p0 x3_2 _ hRi hRr (by omega) (by omega)) (cwV 2 hT (gV t_61 t_62 t_63 t_64 t_6) rfl rfl rfl (by decide +kernel) ⟨Nat.le_of_ble_eq_true rfl, Nat.le_of_ble_eq_true rfl⟩) (rQ_v hP hK hD (va_recv hK hP (ci := 12) (q0 := 0) rfl rfl)) rfl rfl hl.1 rfl (lv_room (Nat.le_of_ble_eq_true rfl)) dX12_laysJoined_53 ⟨Nat.le_of_ble_eq_true rfl, Nat.le_of_ble_eq_true rfl⟩) hS (fun q _ h => hF_9 q h) hF_9 (fun u_11 t H1 locs ht hvm hr_10 hB hz1 hk1 hS => ?_)
                obtain ⟨r11, rfl⟩ : ∃ z, z = u_11 := ⟨_, rfl⟩
                obtain ⟨hP, hK1, hD1⟩ := hB
                rw [ht] at hP
                have hD := hD1.weaken (fun k q _ h => hF_9 q.1 h)
                have hP : va_P D vwCl (mW cy a i r11 rl) H1 := hP
                have hD : va_D A (mW cy a i r11 rl) := hD
                obtain ⟨hRr, hE2, hr_10⟩ := hr_10
                have hRr : mRr r11 := hRr
                have hEr : mEr [34, 35, 36, 37, 38, 39] _ r11 := Er_tr hEr hE2 (by decide)
                obtain ⟨x_12, ex_12⟩ : ∃ y : Int32, y = x3_2 + 1 := ⟨_, rfl⟩
                refine lv_iinc (v := x_12) (lv' := [(2, .int x_12), (0, .ref (a 0)), (1, .int p0)]) hx hb dX12_laysJoined_56 hl (k := 0) rfl (by rw [ex_12]; rfl) (by decide) rfl (fun ls hl => ?_)
                have hx_12 : x_12.toInt = x3_2.toInt + 1 := by rw [ex_12]; have := b_rg x3_2; exact i_add (a := x3_2.toInt) (b := 1) rfl rfl (by omega) (by omega)
                refine lv_goto (tgt := 30) hx hb dX12_laysJoined_59 (by decide) ?_
                have hxc : x3_2.toNatClampNeg = x3_2.toInt.toNat := rfl
                have ha : ∀ k : Nat, (k : Int) < x_12.toInt → jOK r11 k := by
                  intro k hk
                  by_cases h8 : k = x3_2.toNatClampNeg
                  · rw [h8]; exact hr_10.2 (by omega)
                  · exact jM_ok hr_10.1 (hx3.1 k (by omega))
                have hb9 : ∀ k : Nat, (k : Int) < 20 → jOK r11 k ∨ (r11 34 k).toInt = -1 := fun k hk => (hr_10.1 k).elim Or.inl (fun e9 => (hx3.2 k hk).elim (fun h9 => Or.inl (jOK_ee e9 h9)) (fun h9 => Or.inr (by rw [e9]; exact h9)))
                exact ih3 x_12 r11 _ _ _ (by first | omega | (simp only [Int.toNat]; omega)) (by first | omega | decide) hRr hEr ⟨ha, hb9⟩ hP hD hS (lv_sub hl [0, 1, 2] rfl)
        exact loop_3 _ 0 r1 _ _ _ (Nat.lt_succ_self _) (by first | omega | decide) hRr hEr ⟨fun k hk => absurd hk (by have : (0 : Int32).toInt = 0 := rfl; omega), fun k hk => Or.inr (hx1 k (by omega))⟩ hP hD hS hl
      · have c_2 : x1_2.toInt < 20 := b_nle c_2
        refine lv_aload_n hx hb dX12_laysJoined_8 rfl (lv_at hl 1 rfl) ?_
        refine va_get (D := D) (ci := 12) (v := .ref (a 34)) (C := RX12) (T := TX12) (N := 91) hx hb hT iX12 hown hK hP 0 rfl rfl 45 (by decide) (hT _ t_32) (fun _ h9 => h9) rfl dX12_laysJoined_9 ?_
        refine lv_iload_n hx hb dX12_laysJoined_12 rfl (lv_at hl 0 rfl) ?_
        refine lv_iconst (v := (-1)) hx hb dX12_laysJoined_13 (by decide) ?_
        refine va_iast hx hb hK hP hD hS 34 0 rfl rfl (vp_inI (by omega) (by omega)) dX12_laysJoined_14 (fun H locs hP hD hS => ?_)
        rw [mS34] at hP hD
        have hRr : mRr (va_up r1 34 (upd (r1 34) x1_2.toNatClampNeg (-1))) := Rr_upd hRr 34 (x1_2.toNatClampNeg) (-1) ⟨by decide, by decide⟩
        have hEr : mEr [34, 35, 36, 37, 38, 39] _ (va_up r1 34 (upd (r1 34) x1_2.toNatClampNeg (-1))) := Er_up hEr 34 _ (by decide)
        refine lv_aload_n hx hb dX12_laysJoined_15 rfl (lv_at hl 1 rfl) ?_
        refine va_get (D := D) (ci := 12) (v := .ref (a 39)) (C := RX12) (T := TX12) (N := 91) hx hb hT iX12 hown hK hP 0 rfl rfl 50 (by decide) (hT _ t_44) (fun _ h9 => h9) rfl dX12_laysJoined_16 ?_
        refine lv_iload_n hx hb dX12_laysJoined_19 rfl (lv_at hl 0 rfl) ?_
        refine lv_iconst (v := 0) hx hb dX12_laysJoined_20 (by decide) ?_
        refine va_zast hx hb hK hP hD hS 39 2 rfl rfl (vp_inI (by omega) (by omega)) dX12_laysJoined_21 (fun H locs hP hD hS => ?_)
        rw [mS39] at hP hD
        have hRr : mRr (va_up (va_up r1 34 (upd (r1 34) x1_2.toNatClampNeg (-1))) 39 (upd (r1 39) x1_2.toNatClampNeg (vp_nar .boolean 0))) := Rr_upd hRr 39 (x1_2.toNatClampNeg) (vp_nar .boolean 0) (b_rg _)
        have hEr : mEr [34, 35, 36, 37, 38, 39] _ (va_up (va_up r1 34 (upd (r1 34) x1_2.toNatClampNeg (-1))) 39 (upd (r1 39) x1_2.toNatClampNeg (vp_nar .boolean 0))) := Er_up hEr 39 _ (by decide)
        obtain ⟨x_13, ex_13⟩ : ∃ y : Int32, y = x1_2 + 1 := ⟨_, rfl⟩
        refine lv_iinc (v := x_13) (lv' := [(2, .int x_13), (0, .ref (a 0)), (1, .int p0)]) hx hb dX12_laysJoined_22 hl (k := 0) rfl (by rw [ex_13]; rfl) (by decide) rfl (fun ls hl => ?_)
        have hx_13 : x_13.toInt = x1_2.toInt + 1 := by rw [ex_13]; have := b_rg x1_2; exact i_add (a := x1_2.toInt) (b := 1) rfl rfl (by omega) (by omega)
        refine lv_goto (tgt := 2) hx hb dX12_laysJoined_25 (by decide) ?_
        have hst : ∀ k : Nat, (k : Int) < x_13.toInt → ((va_up (va_up r1 34 (upd (r1 34) x1_2.toNatClampNeg (-1))) 39 (upd (r1 39) x1_2.toNatClampNeg (vp_nar .boolean 0))) 34 k).toInt = -1 := by
          intro k hk
          show (upd (r1 34) x1_2.toNatClampNeg (-1) k).toInt = -1
          unfold upd
          by_cases h8 : k = x1_2.toNatClampNeg
          · rw [if_pos h8]; rfl
          · rw [if_neg h8]; exact hx1 k (by have h9 : x1_2.toNatClampNeg = x1_2.toInt.toNat := rfl; omega)
        exact ih1 x_13 (va_up (va_up r1 34 (upd (r1 34) x1_2.toNatClampNeg (-1))) 39 (upd (r1 39) x1_2.toNatClampNeg (vp_nar .boolean 0))) _ _ _ (by first | omega | (simp only [Int.toNat]; omega)) (by first | omega | decide) hRr hEr hst hP hD hS (lv_sub hl [0, 1, 2] rfl)
  exact loop_1 _ 0 r _ _ _ (Nat.lt_succ_self _) (by first | omega | decide) hRr hEr (fun k hk => absurd hk (by have : (0 : Int32).toInt = 0 := rfl; omega)) hP hD hS hl
set_option maxHeartbeats 4000000 in
set_option maxRecDepth 100000 in
theorem c_X12_feelsHome (l : Launch) (D : va_G) (cy : Nat → ClassId) (a : Nat → Nat) (i : Nat → Int32) (r : Nat → Nat → Int32) (rl : Nat → Int64) (p0 : Int32) (sz : Nat) (hRi : mRi i) (hRr : mRr r) (q0 : 0 ≤ p0.toInt ∧ p0.toInt ≤ 5) : Met l yX12_feelsHome (Cond.code yX12_feelsHome cX12_feelsHome 3 none :: gT) { frames := 2, cells := 0, slots := 0, locals := 45 } (va_Pc [.ref (a 0), .int p0] (rQ D cy (mW cy a i r rl) sz)) (va_Qv (fun u : Nat → Nat → Int32 => mRr u ∧ mEr [33] r u ∧ True) (fun (u : Nat → Nat → Int32) t => va_P D vwCl (mW cy a i u rl) t.heap ∧ va_K D vwCl (vT cy) t ∧ va_D (va_A (mW cy a i r rl) sz) (mW cy a i u rl)) (va_A (mW cy a i r rl) sz)) 0 0 (va_A (mW cy a i r rl) sz) := by
  refine Met.ofQ (cc := cX12_feelsHome) (maxL := 3) (ret := none) (by decide) rfl ?_
  intro p e s m args below meth c s₁ B hml hv Q hQ
  obtain ⟨rfl, hsz, hP, hK, hD0⟩ := hv
  have hx := B.exec
  have hb := B.bytes
  have hr := B.returns
  have hlocks := B.notSynchronized
  have hT : ∀ w ∈ gT, w.before _ s = true := fun w h => atoms_spec (ws := (Cond.code yX12_feelsHome cX12_feelsHome 3 none :: gT)) B.pre w (List.mem_cons_of_mem _ h)
  have hown : s.vm.findClass RX12 = some m.cls := findClass_of_methodNamed B.named
  subst hsz
  have hD := hD0.self (sz := s.heap.size)
  generalize hAe : va_A (mW cy a i r rl) s.heap.size = A at hD hQ
  have hA : ∀ q : Nat, s.heap.size ≤ q → A q := fun q h => by rw [← hAe]; exact Or.inr h
  have hS : va_S A s.heap s.heap [] := va_S.rf
  have hl := lv_entry ([.ref (a 0), .int p0]) (n := 3) (Nat.le_of_ble_eq_true rfl)
  rw [lg_entry_eq]
  generalize (lg_sl ([.ref (a 0), .int p0]) ++ List.replicate (3 - (lg_sl ([.ref (a 0), .int p0])).length) Slot.unset).toArray = ls at hl ⊢
  have hl : lv_has ls 3 [(0, .ref (a 0)), (1, .int p0)] := hl
  have hEi : mEi [23, 24, 25, 26, 27, 28, 29, 30, 60] i i := Ei_rf
  have hEr : mEr [33] r r := Er_rf
  refine lv_iconst (v := 0) hx hb dX12_feelsHome_0 (by decide) ?_
  refine lv_istore_n (lv' := [(2, .int 0), (0, .ref (a 0)), (1, .int p0)]) hx hb dX12_feelsHome_1 rfl hl (by decide) rfl (fun ls hl => ?_)
  have loop_1 : ∀ (n : Nat) (x1_2 : Int32) (r1 : Nat → Nat → Int32) (H : Heap) (locs : List Loc) (ls : Array Slot), (10 - x1_2.toInt).toNat < n → (0 ≤ x1_2.toInt ∧ x1_2.toInt ≤ 10) → mRr r1 → mEr [33] r r1 → va_P D vwCl (mW cy a i r1 rl) H → va_D A (mW cy a i r1 rl) → va_S A s.heap H locs → lv_has ls 3 [(2, .int x1_2), (0, .ref (a 0)), (1, .int p0)] → W p l e ({ frames := 2, cells := 0, slots := 0, locals := 45 } : Room) s m ([.ref (a 0), .int p0] : List Value).toArray below meth c H locs 0 0 Q (F0 m 2 ls []) := by
    intro n
    induction n with
    | zero =>
      intro x1_2 r1 H locs ls hm1 hf1_0 hRr hEr hP hD hS hl
      exact absurd hm1 (by omega)
    | succ n ih1 =>
      intro x1_2 r1 H locs ls hm1 hf1_0 hRr hEr hP hD hS hl
      refine lv_iload_n hx hb dX12_feelsHome_2 rfl (lv_at hl 0 rfl) ?_
      refine lv_bipush (v := 10) hx hb dX12_feelsHome_3 (by decide) ?_
      refine lv_icmp_ge (tgt := 21) hx hb dX12_feelsHome_5 (by decide) (fun c_2 => ?_) (fun c_2 => ?_)
      · have c_2 : 10 ≤ x1_2.toInt := b_le c_2
        refine lv_aload_n hx hb dX12_feelsHome_21 rfl (lv_at hl 1 rfl) ?_
        refine va_get (D := D) (ci := 12) (v := .ref (a 33)) (C := RX12) (T := TX12) (N := 91) hx hb hT iX12 hown hK hP 0 rfl rfl 44 (by decide) (hT _ t_65) (fun _ h9 => h9) rfl dX12_feelsHome_22 ?_
        refine lv_iconst (v := 5) hx hb dX12_feelsHome_25 (by decide) ?_
        refine lv_aload_n hx hb dX12_feelsHome_26 rfl (lv_at hl 1 rfl) ?_
        refine lv_iload_n hx hb dX12_feelsHome_27 rfl (lv_at hl 2 rfl) ?_
        refine vp_callSi (W.runV (As := [.int p0]) (rest := [.int 5, .ref (a 33)]) ⟨hx, hb, hml, hown, hT⟩ (c_X12_monthsOf l D cy a i r1 rl p0 hRi hRr (by omega)) (cwV 1 hT (gV t_20 t_21 t_22 t_23 t_6) rfl rfl rfl (by decide +kernel) ⟨Nat.le_of_ble_eq_true rfl, Nat.le_of_ble_eq_true rfl⟩) (rP_v hP hK (va_recv hK hP (ci := 12) (q0 := 0) rfl rfl)) rfl rfl hl.1 rfl (lv_room (Nat.le_of_ble_eq_true rfl)) dX12_feelsHome_28 ⟨Nat.le_of_ble_eq_true rfl, Nat.le_of_ble_eq_true rfl⟩) (fun r_3 hr_3 => ?_)
        have hr_3 : -999 ≤ r_3.toInt ∧ r_3.toInt ≤ 999 := hr_3
        refine va_iast hx hb hK hP hD hS 33 0 rfl rfl (vp_inI (by decide) (by decide)) dX12_feelsHome_31 (fun H locs hP hD hS => ?_)
        rw [mS33] at hP hD
        have hRr : mRr (va_up r1 33 (upd (r1 33) ((5 : Int32).toNatClampNeg) r_3)) := Rr_upd hRr 33 ((5 : Int32).toNatClampNeg) r_3 (b_rg _)
        have hEr : mEr [33] _ (va_up r1 33 (upd (r1 33) ((5 : Int32).toNatClampNeg) r_3)) := Er_up hEr 33 _ (by decide)
        refine lv_aload_n hx hb dX12_feelsHome_32 rfl (lv_at hl 1 rfl) ?_
        refine va_get (D := D) (ci := 12) (v := .ref (a 33)) (C := RX12) (T := TX12) (N := 91) hx hb hT iX12 hown hK hP 0 rfl rfl 44 (by decide) (hT _ t_65) (fun _ h9 => h9) rfl dX12_feelsHome_33 ?_
        refine lv_bipush (v := 6) hx hb dX12_feelsHome_36 (by decide) ?_
        refine lv_aload_n hx hb dX12_feelsHome_38 rfl (lv_at hl 1 rfl) ?_
        refine va_get (D := D) (ci := 12) (v := .ref (a 4)) (C := RX12) (T := TX12) (N := 91) hx hb hT iX12 hown hK hP 0 rfl rfl 5 (by decide) (hT _ t_66) (fun _ h9 => h9) rfl dX12_feelsHome_39 ?_
        refine lv_iload_n hx hb dX12_feelsHome_42 rfl (lv_at hl 2 rfl) ?_
        refine va_iald hx hb hK hP 4 0 rfl rfl (vp_inI (by omega) (by omega)) dX12_feelsHome_43 ?_
        refine lv_topi (fun v_4 ev_4 => ?_)
        have hgv_4 : 0 ≤ v_4.toInt ∧ v_4.toInt ≤ 4 := by rw [ev_4]; exact hRr 4 _
        refine va_iast hx hb hK hP hD hS 33 0 rfl rfl (vp_inI (by decide) (by decide)) dX12_feelsHome_44 (fun H locs hP hD hS => ?_)
        rw [mS33] at hP hD
        have hRr : mRr (va_up (va_up r1 33 (upd (r1 33) ((5 : Int32).toNatClampNeg) r_3)) 33 (upd (upd (r1 33) ((5 : Int32).toNatClampNeg) r_3) ((6 : Int32).toNatClampNeg) v_4)) := Rr_upd hRr 33 ((6 : Int32).toNatClampNeg) v_4 (b_rg _)
        have hEr : mEr [33] _ (va_up (va_up r1 33 (upd (r1 33) ((5 : Int32).toNatClampNeg) r_3)) 33 (upd (upd (r1 33) ((5 : Int32).toNatClampNeg) r_3) ((6 : Int32).toNatClampNeg) v_4)) := Er_up hEr 33 _ (by decide)
        refine lv_aload_n hx hb dX12_feelsHome_45 rfl (lv_at hl 1 rfl) ?_
        refine va_get (D := D) (ci := 12) (v := .ref (a 33)) (C := RX12) (T := TX12) (N := 91) hx hb hT iX12 hown hK hP 0 rfl rfl 44 (by decide) (hT _ t_65) (fun _ h9 => h9) rfl dX12_feelsHome_46 ?_
        refine lv_bipush (v := 7) hx hb dX12_feelsHome_49 (by decide) ?_
        refine lv_aload_n hx hb dX12_feelsHome_51 rfl (lv_at hl 1 rfl) ?_
        refine va_get (D := D) (ci := 12) (v := .ref (a 3)) (C := RX12) (T := TX12) (N := 91) hx hb hT iX12 hown hK hP 0 rfl rfl 4 (by decide) (hT _ t_27) (fun _ h9 => h9) rfl dX12_feelsHome_52 ?_
        refine lv_iload_n hx hb dX12_feelsHome_55 rfl (lv_at hl 2 rfl) ?_
        refine va_iald hx hb hK hP 3 0 rfl rfl (vp_inI (by omega) (by omega)) dX12_feelsHome_56 ?_
        refine lv_topi (fun v_5 ev_5 => ?_)
        have hgv_5 : 0 ≤ v_5.toInt ∧ v_5.toInt ≤ 3 := by rw [ev_5]; exact hRr 3 _
        refine va_iast hx hb hK hP hD hS 33 0 rfl rfl (vp_inI (by decide) (by decide)) dX12_feelsHome_57 (fun H locs hP hD hS => ?_)
        rw [mS33] at hP hD
        have hRr : mRr (va_up (va_up (va_up r1 33 (upd (r1 33) ((5 : Int32).toNatClampNeg) r_3)) 33 (upd (upd (r1 33) ((5 : Int32).toNatClampNeg) r_3) ((6 : Int32).toNatClampNeg) v_4)) 33 (upd (upd (upd (r1 33) ((5 : Int32).toNatClampNeg) r_3) ((6 : Int32).toNatClampNeg) v_4) ((7 : Int32).toNatClampNeg) v_5)) := Rr_upd hRr 33 ((7 : Int32).toNatClampNeg) v_5 (b_rg _)
        have hEr : mEr [33] _ (va_up (va_up (va_up r1 33 (upd (r1 33) ((5 : Int32).toNatClampNeg) r_3)) 33 (upd (upd (r1 33) ((5 : Int32).toNatClampNeg) r_3) ((6 : Int32).toNatClampNeg) v_4)) 33 (upd (upd (upd (r1 33) ((5 : Int32).toNatClampNeg) r_3) ((6 : Int32).toNatClampNeg) v_4) ((7 : Int32).toNatClampNeg) v_5)) := Er_up hEr 33 _ (by decide)
        subst hQ
        exact W.vret hx hb hr (fun t ht hW => ⟨⟨(va_up (va_up (va_up r1 33 (upd (r1 33) ((5 : Int32).toNatClampNeg) r_3)) 33 (upd (upd (r1 33) ((5 : Int32).toNatClampNeg) r_3) ((6 : Int32).toNatClampNeg) v_4)) 33 (upd (upd (upd (r1 33) ((5 : Int32).toNatClampNeg) r_3) ((6 : Int32).toNatClampNeg) v_4) ((7 : Int32).toNatClampNeg) v_5)), rfl, ⟨hRr, hEr, trivial⟩, by rw [ht]; exact hP, va_K.moved hW.alike hK, hD⟩, hS.F ht⟩) hS.2.2 dX12_feelsHome_58
      · have c_2 : x1_2.toInt < 10 := b_nle c_2
        refine lv_aload_n hx hb dX12_feelsHome_8 rfl (lv_at hl 1 rfl) ?_
        refine va_get (D := D) (ci := 12) (v := .ref (a 33)) (C := RX12) (T := TX12) (N := 91) hx hb hT iX12 hown hK hP 0 rfl rfl 44 (by decide) (hT _ t_65) (fun _ h9 => h9) rfl dX12_feelsHome_9 ?_
        refine lv_iload_n hx hb dX12_feelsHome_12 rfl (lv_at hl 0 rfl) ?_
        refine lv_iconst (v := 0) hx hb dX12_feelsHome_13 (by decide) ?_
        refine va_iast hx hb hK hP hD hS 33 0 rfl rfl (vp_inI (by omega) (by omega)) dX12_feelsHome_14 (fun H locs hP hD hS => ?_)
        rw [mS33] at hP hD
        have hRr : mRr (va_up r1 33 (upd (r1 33) x1_2.toNatClampNeg 0)) := Rr_upd hRr 33 (x1_2.toNatClampNeg) 0 (b_rg _)
        have hEr : mEr [33] _ (va_up r1 33 (upd (r1 33) x1_2.toNatClampNeg 0)) := Er_up hEr 33 _ (by decide)
        obtain ⟨x_6, ex_6⟩ : ∃ y : Int32, y = x1_2 + 1 := ⟨_, rfl⟩
        refine lv_iinc (v := x_6) (lv' := [(2, .int x_6), (0, .ref (a 0)), (1, .int p0)]) hx hb dX12_feelsHome_15 hl (k := 0) rfl (by rw [ex_6]; rfl) (by decide) rfl (fun ls hl => ?_)
        have hx_6 : x_6.toInt = x1_2.toInt + 1 := by rw [ex_6]; have := b_rg x1_2; exact i_add (a := x1_2.toInt) (b := 1) rfl rfl (by omega) (by omega)
        refine lv_goto (tgt := 2) hx hb dX12_feelsHome_18 (by decide) ?_
        exact ih1 x_6 (va_up r1 33 (upd (r1 33) x1_2.toNatClampNeg 0)) _ _ _ (by first | omega | (simp only [Int.toNat]; omega)) (by first | omega | decide) hRr hEr  hP hD hS (lv_sub hl [0, 1, 2] rfl)
  exact loop_1 _ 0 r _ _ _ (Nat.lt_succ_self _) (by first | omega | decide) hRr hEr  hP hD hS hl
set_option maxHeartbeats 4000000 in
set_option maxRecDepth 100000 in
theorem c_X12_feelsThing (l : Launch) (D : va_G) (cy : Nat → ClassId) (a : Nat → Nat) (i : Nat → Int32) (r : Nat → Nat → Int32) (rl : Nat → Int64) (p0 p1 : Int32) (sz : Nat) (hRi : mRi i) (hRr : mRr r) (q0 : 0 ≤ p0.toInt ∧ p0.toInt ≤ 5) (q1 : 0 ≤ p1.toInt ∧ p1.toInt ≤ 19) (qj : jOK r p1.toNatClampNeg) : Met l yX12_feelsThing (Cond.code yX12_feelsThing cX12_feelsThing 3 none :: gT) { frames := 3, cells := 0, slots := 0, locals := 67 } (va_Pc [.ref (a 0), .int p0, .int p1] (rQ D cy (mW cy a i r rl) sz)) (va_Qv (fun u : Nat → Nat → Int32 => mRr u ∧ mEr [33] r u ∧ True) (fun (u : Nat → Nat → Int32) t => va_P D vwCl (mW cy a i u rl) t.heap ∧ va_K D vwCl (vT cy) t ∧ va_D (va_A (mW cy a i r rl) sz) (mW cy a i u rl)) (va_A (mW cy a i r rl) sz)) 0 0 (va_A (mW cy a i r rl) sz) := by
  refine Met.ofQ (cc := cX12_feelsThing) (maxL := 3) (ret := none) (by decide) rfl ?_
  intro p e s m args below meth c s₁ B hml hv Q hQ
  obtain ⟨rfl, hsz, hP, hK, hD0⟩ := hv
  have hx := B.exec
  have hb := B.bytes
  have hr := B.returns
  have hlocks := B.notSynchronized
  have hT : ∀ w ∈ gT, w.before _ s = true := fun w h => atoms_spec (ws := (Cond.code yX12_feelsThing cX12_feelsThing 3 none :: gT)) B.pre w (List.mem_cons_of_mem _ h)
  have hown : s.vm.findClass RX12 = some m.cls := findClass_of_methodNamed B.named
  subst hsz
  have hD := hD0.self (sz := s.heap.size)
  generalize hAe : va_A (mW cy a i r rl) s.heap.size = A at hD hQ
  have hA : ∀ q : Nat, s.heap.size ≤ q → A q := fun q h => by rw [← hAe]; exact Or.inr h
  have hS : va_S A s.heap s.heap [] := va_S.rf
  have hl := lv_entry ([.ref (a 0), .int p0, .int p1]) (n := 3) (Nat.le_of_ble_eq_true rfl)
  rw [lg_entry_eq]
  generalize (lg_sl ([.ref (a 0), .int p0, .int p1]) ++ List.replicate (3 - (lg_sl ([.ref (a 0), .int p0, .int p1])).length) Slot.unset).toArray = ls at hl ⊢
  have hl : lv_has ls 3 [(0, .ref (a 0)), (1, .int p0), (2, .int p1)] := hl
  have hEi : mEi [23, 24, 25, 26, 27, 28, 29, 30, 60] i i := Ei_rf
  have hEr : mEr [33] r r := Er_rf
  have hJ : r 34 = r 34 := rfl
  refine lv_aload_n hx hb dX12_feelsThing_0 rfl (lv_at hl 0 rfl) ?_
  refine lv_iload_n hx hb dX12_feelsThing_1 rfl (lv_at hl 1 rfl) ?_
  have hF_1 := rF hD hS hA
  refine va_callv (va_runV (As := [.int p0]) (rest := []) ⟨hx, hb, hml, hown, hT⟩ (c_X12_feelsHome l D cy a i r rl p0 _ hRi hRr (by omega)) (cwV 1 hT (gV t_67 t_68 t_69 t_70 t_6) rfl rfl rfl (by decide +kernel) ⟨Nat.le_of_ble_eq_true rfl, Nat.le_of_ble_eq_true rfl⟩) (rQ_v hP hK hD (va_recv hK hP (ci := 12) (q0 := 0) rfl rfl)) rfl rfl hl.1 rfl (lv_room (Nat.le_of_ble_eq_true rfl)) dX12_feelsThing_2 ⟨Nat.le_of_ble_eq_true rfl, Nat.le_of_ble_eq_true rfl⟩) hS (fun q _ h => hF_1 q h) hF_1 (fun u_3 t H1 locs ht hvm hr_2 hB hz1 hk1 hS => ?_)
  obtain ⟨r3, rfl⟩ : ∃ z, z = u_3 := ⟨_, rfl⟩
  obtain ⟨hP, hK1, hD1⟩ := hB
  rw [ht] at hP
  have hD := hD1.weaken (fun k q _ h => hF_1 q.1 h)
  have hP : va_P D vwCl (mW cy a i r3 rl) H1 := hP
  have hD : va_D A (mW cy a i r3 rl) := hD
  obtain ⟨hRr, hE2, hr_2⟩ := hr_2
  have hRr : mRr r3 := hRr
  have hEr : mEr [33] _ r3 := Er_tr hEr hE2 (by decide)
  have hJ : r3 34 = r 34 := (hE2 34 (by decide)).trans hJ
  refine lv_aload_n hx hb dX12_feelsThing_5 rfl (lv_at hl 0 rfl) ?_
  refine va_get (D := D) (ci := 12) (v := .ref (a 33)) (C := RX12) (T := TX12) (N := 91) hx hb hT iX12 hown hK hP 0 rfl rfl 44 (by decide) (hT _ t_65) (fun _ h9 => h9) rfl dX12_feelsThing_6 ?_
  refine lv_iconst (v := 0) hx hb dX12_feelsThing_9 (by decide) ?_
  refine lv_aload_n hx hb dX12_feelsThing_10 rfl (lv_at hl 0 rfl) ?_
  refine va_get (D := D) (ci := 12) (v := .ref (a 13)) (C := RX12) (T := TX12) (N := 91) hx hb hT iX12 hown hK hP 0 rfl rfl 14 (by decide) (hT _ t_24) (fun _ h9 => h9) rfl dX12_feelsThing_11 ?_
  refine lv_bipush (v := 20) hx hb dX12_feelsThing_14 (by decide) ?_
  refine lv_iload_n hx hb dX12_feelsThing_16 rfl (lv_at hl 1 rfl) ?_
  refine lv_imul hx hb dX12_feelsThing_17 ?_
  refine lv_topi (fun v_4 ev_4 => ?_)
  have hv_4 : v_4.toInt = 20 * p0.toInt := by rw [ev_4]; have := b_rg p0; exact i_mul (a := 20) (b := p0.toInt) rfl rfl (by omega) (by omega)
  refine lv_iload_n hx hb dX12_feelsThing_18 rfl (lv_at hl 2 rfl) ?_
  refine lv_iadd hx hb dX12_feelsThing_19 ?_
  refine lv_topi (fun v_5 ev_5 => ?_)
  have hv_5 : v_5.toInt = v_4.toInt + p1.toInt := by rw [ev_5]; have := b_rg v_4; have := b_rg p1; exact i_add (a := v_4.toInt) (b := p1.toInt) rfl rfl (by omega) (by omega)
  refine va_iald hx hb hK hP 13 0 rfl rfl (vp_inI (by omega) (by omega)) dX12_feelsThing_20 ?_
  refine lv_topi (fun v_6 ev_6 => ?_)
  have hgv_6 : 0 ≤ v_6.toInt ∧ v_6.toInt ≤ 7 := by rw [ev_6]; exact hRr 13 _
  refine va_iast hx hb hK hP hD hS 33 0 rfl rfl (vp_inI (by decide) (by decide)) dX12_feelsThing_21 (fun H locs hP hD hS => ?_)
  rw [mS33] at hP hD
  have hRr : mRr (va_up r3 33 (upd (r3 33) ((0 : Int32).toNatClampNeg) v_6)) := Rr_upd hRr 33 ((0 : Int32).toNatClampNeg) v_6 (b_rg _)
  have hEr : mEr [33] _ (va_up r3 33 (upd (r3 33) ((0 : Int32).toNatClampNeg) v_6)) := Er_up hEr 33 _ (by decide)
  refine lv_aload_n hx hb dX12_feelsThing_22 rfl (lv_at hl 0 rfl) ?_
  refine va_get (D := D) (ci := 12) (v := .ref (a 33)) (C := RX12) (T := TX12) (N := 91) hx hb hT iX12 hown hK hP 0 rfl rfl 44 (by decide) (hT _ t_65) (fun _ h9 => h9) rfl dX12_feelsThing_23 ?_
  refine lv_iconst (v := 1) hx hb dX12_feelsThing_26 (by decide) ?_
  refine lv_aload_n hx hb dX12_feelsThing_27 rfl (lv_at hl 0 rfl) ?_
  refine va_get (D := D) (ci := 12) (v := .ref (a 12)) (C := RX12) (T := TX12) (N := 91) hx hb hT iX12 hown hK hP 0 rfl rfl 13 (by decide) (hT _ t_30) (fun _ h9 => h9) rfl dX12_feelsThing_28 ?_
  refine lv_bipush (v := 20) hx hb dX12_feelsThing_31 (by decide) ?_
  refine lv_iload_n hx hb dX12_feelsThing_33 rfl (lv_at hl 1 rfl) ?_
  refine lv_imul hx hb dX12_feelsThing_34 ?_
  refine lv_topi (fun v_7 ev_7 => ?_)
  have hv_7 : v_7.toInt = 20 * p0.toInt := by rw [ev_7]; have := b_rg p0; exact i_mul (a := 20) (b := p0.toInt) rfl rfl (by omega) (by omega)
  refine lv_iload_n hx hb dX12_feelsThing_35 rfl (lv_at hl 2 rfl) ?_
  refine lv_iadd hx hb dX12_feelsThing_36 ?_
  refine lv_topi (fun v_8 ev_8 => ?_)
  have hv_8 : v_8.toInt = v_7.toInt + p1.toInt := by rw [ev_8]; have := b_rg v_7; have := b_rg p1; exact i_add (a := v_7.toInt) (b := p1.toInt) rfl rfl (by omega) (by omega)
  refine va_iald hx hb hK hP 12 0 rfl rfl (vp_inI (by omega) (by omega)) dX12_feelsThing_37 ?_
  refine lv_topi (fun v_9 ev_9 => ?_)
  have hgv_9 : 0 ≤ v_9.toInt ∧ v_9.toInt ≤ 9 := by rw [ev_9]; exact hRr 12 _
  refine va_iast hx hb hK hP hD hS 33 0 rfl rfl (vp_inI (by decide) (by decide)) dX12_feelsThing_38 (fun H locs hP hD hS => ?_)
  rw [mS33] at hP hD
  have hRr : mRr (va_up (va_up r3 33 (upd (r3 33) ((0 : Int32).toNatClampNeg) v_6)) 33 (upd (upd (r3 33) ((0 : Int32).toNatClampNeg) v_6) ((1 : Int32).toNatClampNeg) v_9)) := Rr_upd hRr 33 ((1 : Int32).toNatClampNeg) v_9 (b_rg _)
  have hEr : mEr [33] _ (va_up (va_up r3 33 (upd (r3 33) ((0 : Int32).toNatClampNeg) v_6)) 33 (upd (upd (r3 33) ((0 : Int32).toNatClampNeg) v_6) ((1 : Int32).toNatClampNeg) v_9)) := Er_up hEr 33 _ (by decide)
  refine lv_aload_n hx hb dX12_feelsThing_39 rfl (lv_at hl 0 rfl) ?_
  refine va_get (D := D) (ci := 12) (v := .ref (a 33)) (C := RX12) (T := TX12) (N := 91) hx hb hT iX12 hown hK hP 0 rfl rfl 44 (by decide) (hT _ t_65) (fun _ h9 => h9) rfl dX12_feelsThing_40 ?_
  refine lv_iconst (v := 2) hx hb dX12_feelsThing_43 (by decide) ?_
  refine lv_aload_n hx hb dX12_feelsThing_44 rfl (lv_at hl 0 rfl) ?_
  refine va_get (D := D) (ci := 12) (v := .ref (a 14)) (C := RX12) (T := TX12) (N := 91) hx hb hT iX12 hown hK hP 0 rfl rfl 15 (by decide) (hT _ t_38) (fun _ h9 => h9) rfl dX12_feelsThing_45 ?_
  refine lv_bipush (v := 20) hx hb dX12_feelsThing_48 (by decide) ?_
  refine lv_iload_n hx hb dX12_feelsThing_50 rfl (lv_at hl 1 rfl) ?_
  refine lv_imul hx hb dX12_feelsThing_51 ?_
  refine lv_topi (fun v_10 ev_10 => ?_)
  have hv_10 : v_10.toInt = 20 * p0.toInt := by rw [ev_10]; have := b_rg p0; exact i_mul (a := 20) (b := p0.toInt) rfl rfl (by omega) (by omega)
  refine lv_iload_n hx hb dX12_feelsThing_52 rfl (lv_at hl 2 rfl) ?_
  refine lv_iadd hx hb dX12_feelsThing_53 ?_
  refine lv_topi (fun v_11 ev_11 => ?_)
  have hv_11 : v_11.toInt = v_10.toInt + p1.toInt := by rw [ev_11]; have := b_rg v_10; have := b_rg p1; exact i_add (a := v_10.toInt) (b := p1.toInt) rfl rfl (by omega) (by omega)
  refine va_iald hx hb hK hP 14 0 rfl rfl (vp_inI (by omega) (by omega)) dX12_feelsThing_54 ?_
  refine lv_topi (fun v_12 ev_12 => ?_)
  have hgv_12 : 0 ≤ v_12.toInt ∧ v_12.toInt ≤ 9 := by rw [ev_12]; exact hRr 14 _
  refine va_iast hx hb hK hP hD hS 33 0 rfl rfl (vp_inI (by decide) (by decide)) dX12_feelsThing_55 (fun H locs hP hD hS => ?_)
  rw [mS33] at hP hD
  have hRr : mRr (va_up (va_up (va_up r3 33 (upd (r3 33) ((0 : Int32).toNatClampNeg) v_6)) 33 (upd (upd (r3 33) ((0 : Int32).toNatClampNeg) v_6) ((1 : Int32).toNatClampNeg) v_9)) 33 (upd (upd (upd (r3 33) ((0 : Int32).toNatClampNeg) v_6) ((1 : Int32).toNatClampNeg) v_9) ((2 : Int32).toNatClampNeg) v_12)) := Rr_upd hRr 33 ((2 : Int32).toNatClampNeg) v_12 (b_rg _)
  have hEr : mEr [33] _ (va_up (va_up (va_up r3 33 (upd (r3 33) ((0 : Int32).toNatClampNeg) v_6)) 33 (upd (upd (r3 33) ((0 : Int32).toNatClampNeg) v_6) ((1 : Int32).toNatClampNeg) v_9)) 33 (upd (upd (upd (r3 33) ((0 : Int32).toNatClampNeg) v_6) ((1 : Int32).toNatClampNeg) v_9) ((2 : Int32).toNatClampNeg) v_12)) := Er_up hEr 33 _ (by decide)
  refine lv_aload_n hx hb dX12_feelsThing_56 rfl (lv_at hl 0 rfl) ?_
  refine va_get (D := D) (ci := 12) (v := .ref (a 33)) (C := RX12) (T := TX12) (N := 91) hx hb hT iX12 hown hK hP 0 rfl rfl 44 (by decide) (hT _ t_65) (fun _ h9 => h9) rfl dX12_feelsThing_57 ?_
  refine lv_iconst (v := 3) hx hb dX12_feelsThing_60 (by decide) ?_
  refine lv_aload_n hx hb dX12_feelsThing_61 rfl (lv_at hl 0 rfl) ?_
  refine lv_iload_n hx hb dX12_feelsThing_62 rfl (lv_at hl 1 rfl) ?_
  refine lv_iload_n hx hb dX12_feelsThing_63 rfl (lv_at hl 2 rfl) ?_
  refine vp_callSi (W.runV (As := [.int p0, .int p1]) (rest := [.int 3, .ref (a 33)]) ⟨hx, hb, hml, hown, hT⟩ (c_X12_stateAtLast l D cy a i (va_up (va_up (va_up r3 33 (upd (r3 33) ((0 : Int32).toNatClampNeg) v_6)) 33 (upd (upd (r3 33) ((0 : Int32).toNatClampNeg) v_6) ((1 : Int32).toNatClampNeg) v_9)) 33 (upd (upd (upd (r3 33) ((0 : Int32).toNatClampNeg) v_6) ((1 : Int32).toNatClampNeg) v_9) ((2 : Int32).toNatClampNeg) v_12)) rl p0 p1 hRi hRr (by omega) (by omega) (jOK_ee (congrFun (hJ : (va_up (va_up (va_up r3 33 (upd (r3 33) ((0 : Int32).toNatClampNeg) v_6)) 33 (upd (upd (r3 33) ((0 : Int32).toNatClampNeg) v_6) ((1 : Int32).toNatClampNeg) v_9)) 33 (upd (upd (upd (r3 33) ((0 : Int32).toNatClampNeg) v_6) ((1 : Int32).toNatClampNeg) v_9) ((2 : Int32).toNatClampNeg) v_12)) 34 = r 34) _) qj)) (cwV 2 hT (gV t_34 t_35 t_36 t_37 t_6) rfl rfl rfl (by decide +kernel) ⟨Nat.le_of_ble_eq_true rfl, Nat.le_of_ble_eq_true rfl⟩) (rP_v hP hK (va_recv hK hP (ci := 12) (q0 := 0) rfl rfl)) rfl rfl hl.1 rfl (lv_room (Nat.le_of_ble_eq_true rfl)) dX12_feelsThing_64 ⟨Nat.le_of_ble_eq_true rfl, Nat.le_of_ble_eq_true rfl⟩) (fun r_13 hr_13 => ?_)
  have hr_13 : 0 ≤ r_13.toInt ∧ r_13.toInt ≤ 9 := hr_13
  refine va_iast hx hb hK hP hD hS 33 0 rfl rfl (vp_inI (by decide) (by decide)) dX12_feelsThing_67 (fun H locs hP hD hS => ?_)
  rw [mS33] at hP hD
  have hRr : mRr (va_up (va_up (va_up (va_up r3 33 (upd (r3 33) ((0 : Int32).toNatClampNeg) v_6)) 33 (upd (upd (r3 33) ((0 : Int32).toNatClampNeg) v_6) ((1 : Int32).toNatClampNeg) v_9)) 33 (upd (upd (upd (r3 33) ((0 : Int32).toNatClampNeg) v_6) ((1 : Int32).toNatClampNeg) v_9) ((2 : Int32).toNatClampNeg) v_12)) 33 (upd (upd (upd (upd (r3 33) ((0 : Int32).toNatClampNeg) v_6) ((1 : Int32).toNatClampNeg) v_9) ((2 : Int32).toNatClampNeg) v_12) ((3 : Int32).toNatClampNeg) r_13)) := Rr_upd hRr 33 ((3 : Int32).toNatClampNeg) r_13 (b_rg _)
  have hEr : mEr [33] _ (va_up (va_up (va_up (va_up r3 33 (upd (r3 33) ((0 : Int32).toNatClampNeg) v_6)) 33 (upd (upd (r3 33) ((0 : Int32).toNatClampNeg) v_6) ((1 : Int32).toNatClampNeg) v_9)) 33 (upd (upd (upd (r3 33) ((0 : Int32).toNatClampNeg) v_6) ((1 : Int32).toNatClampNeg) v_9) ((2 : Int32).toNatClampNeg) v_12)) 33 (upd (upd (upd (upd (r3 33) ((0 : Int32).toNatClampNeg) v_6) ((1 : Int32).toNatClampNeg) v_9) ((2 : Int32).toNatClampNeg) v_12) ((3 : Int32).toNatClampNeg) r_13)) := Er_up hEr 33 _ (by decide)
  refine lv_aload_n hx hb dX12_feelsThing_68 rfl (lv_at hl 0 rfl) ?_
  refine va_get (D := D) (ci := 12) (v := .ref (a 33)) (C := RX12) (T := TX12) (N := 91) hx hb hT iX12 hown hK hP 0 rfl rfl 44 (by decide) (hT _ t_65) (fun _ h9 => h9) rfl dX12_feelsThing_69 ?_
  refine lv_iconst (v := 4) hx hb dX12_feelsThing_72 (by decide) ?_
  refine lv_aload_n hx hb dX12_feelsThing_73 rfl (lv_at hl 0 rfl) ?_
  refine lv_iload_n hx hb dX12_feelsThing_74 rfl (lv_at hl 1 rfl) ?_
  refine lv_iload_n hx hb dX12_feelsThing_75 rfl (lv_at hl 2 rfl) ?_
  refine vp_callSi (W.runV (As := [.int p0, .int p1]) (rest := [.int 4, .ref (a 33)]) ⟨hx, hb, hml, hown, hT⟩ (c_X12_agedOf l D cy a i (va_up (va_up (va_up (va_up r3 33 (upd (r3 33) ((0 : Int32).toNatClampNeg) v_6)) 33 (upd (upd (r3 33) ((0 : Int32).toNatClampNeg) v_6) ((1 : Int32).toNatClampNeg) v_9)) 33 (upd (upd (upd (r3 33) ((0 : Int32).toNatClampNeg) v_6) ((1 : Int32).toNatClampNeg) v_9) ((2 : Int32).toNatClampNeg) v_12)) 33 (upd (upd (upd (upd (r3 33) ((0 : Int32).toNatClampNeg) v_6) ((1 : Int32).toNatClampNeg) v_9) ((2 : Int32).toNatClampNeg) v_12) ((3 : Int32).toNatClampNeg) r_13)) rl p0 p1 hRi hRr (by omega) (by omega)) (cwV 2 hT (gV t_71 t_72 t_73 t_74 t_6) rfl rfl rfl (by decide +kernel) ⟨Nat.le_of_ble_eq_true rfl, Nat.le_of_ble_eq_true rfl⟩) (rP_v hP hK (va_recv hK hP (ci := 12) (q0 := 0) rfl rfl)) rfl rfl hl.1 rfl (lv_room (Nat.le_of_ble_eq_true rfl)) dX12_feelsThing_76 ⟨Nat.le_of_ble_eq_true rfl, Nat.le_of_ble_eq_true rfl⟩) (fun r_14 hr_14 => ?_)
  have hr_14 : -999 ≤ r_14.toInt ∧ r_14.toInt ≤ 1359 := hr_14
  refine va_iast hx hb hK hP hD hS 33 0 rfl rfl (vp_inI (by decide) (by decide)) dX12_feelsThing_79 (fun H locs hP hD hS => ?_)
  rw [mS33] at hP hD
  have hRr : mRr (va_up (va_up (va_up (va_up (va_up r3 33 (upd (r3 33) ((0 : Int32).toNatClampNeg) v_6)) 33 (upd (upd (r3 33) ((0 : Int32).toNatClampNeg) v_6) ((1 : Int32).toNatClampNeg) v_9)) 33 (upd (upd (upd (r3 33) ((0 : Int32).toNatClampNeg) v_6) ((1 : Int32).toNatClampNeg) v_9) ((2 : Int32).toNatClampNeg) v_12)) 33 (upd (upd (upd (upd (r3 33) ((0 : Int32).toNatClampNeg) v_6) ((1 : Int32).toNatClampNeg) v_9) ((2 : Int32).toNatClampNeg) v_12) ((3 : Int32).toNatClampNeg) r_13)) 33 (upd (upd (upd (upd (upd (r3 33) ((0 : Int32).toNatClampNeg) v_6) ((1 : Int32).toNatClampNeg) v_9) ((2 : Int32).toNatClampNeg) v_12) ((3 : Int32).toNatClampNeg) r_13) ((4 : Int32).toNatClampNeg) r_14)) := Rr_upd hRr 33 ((4 : Int32).toNatClampNeg) r_14 (b_rg _)
  have hEr : mEr [33] _ (va_up (va_up (va_up (va_up (va_up r3 33 (upd (r3 33) ((0 : Int32).toNatClampNeg) v_6)) 33 (upd (upd (r3 33) ((0 : Int32).toNatClampNeg) v_6) ((1 : Int32).toNatClampNeg) v_9)) 33 (upd (upd (upd (r3 33) ((0 : Int32).toNatClampNeg) v_6) ((1 : Int32).toNatClampNeg) v_9) ((2 : Int32).toNatClampNeg) v_12)) 33 (upd (upd (upd (upd (r3 33) ((0 : Int32).toNatClampNeg) v_6) ((1 : Int32).toNatClampNeg) v_9) ((2 : Int32).toNatClampNeg) v_12) ((3 : Int32).toNatClampNeg) r_13)) 33 (upd (upd (upd (upd (upd (r3 33) ((0 : Int32).toNatClampNeg) v_6) ((1 : Int32).toNatClampNeg) v_9) ((2 : Int32).toNatClampNeg) v_12) ((3 : Int32).toNatClampNeg) r_13) ((4 : Int32).toNatClampNeg) r_14)) := Er_up hEr 33 _ (by decide)
  subst hQ
  exact W.vret hx hb hr (fun t ht hW => ⟨⟨(va_up (va_up (va_up (va_up (va_up r3 33 (upd (r3 33) ((0 : Int32).toNatClampNeg) v_6)) 33 (upd (upd (r3 33) ((0 : Int32).toNatClampNeg) v_6) ((1 : Int32).toNatClampNeg) v_9)) 33 (upd (upd (upd (r3 33) ((0 : Int32).toNatClampNeg) v_6) ((1 : Int32).toNatClampNeg) v_9) ((2 : Int32).toNatClampNeg) v_12)) 33 (upd (upd (upd (upd (r3 33) ((0 : Int32).toNatClampNeg) v_6) ((1 : Int32).toNatClampNeg) v_9) ((2 : Int32).toNatClampNeg) v_12) ((3 : Int32).toNatClampNeg) r_13)) 33 (upd (upd (upd (upd (upd (r3 33) ((0 : Int32).toNatClampNeg) v_6) ((1 : Int32).toNatClampNeg) v_9) ((2 : Int32).toNatClampNeg) v_12) ((3 : Int32).toNatClampNeg) r_13) ((4 : Int32).toNatClampNeg) r_14)), rfl, ⟨hRr, hEr, trivial⟩, by rw [ht]; exact hP, va_K.moved hW.alike hK, hD⟩, hS.F ht⟩) hS.2.2 dX12_feelsThing_80
set_option maxHeartbeats 4000000 in
set_option maxRecDepth 100000 in
theorem c_X12_feelsClaim (l : Launch) (D : va_G) (cy : Nat → ClassId) (a : Nat → Nat) (i : Nat → Int32) (r : Nat → Nat → Int32) (rl : Nat → Int64) (p0 : Int32) (sz : Nat) (hRi : mRi i) (hRr : mRr r) (q0 : 0 ≤ p0.toInt ∧ p0.toInt ≤ 29) (qj : jOK r (r 41 p0.toNatClampNeg).toNatClampNeg) : Met l yX12_feelsClaim (Cond.code yX12_feelsClaim cX12_feelsClaim 2 none :: gT) { frames := 4, cells := 0, slots := 0, locals := 89 } (va_Pc [.ref (a 0), .int p0] (rQ D cy (mW cy a i r rl) sz)) (va_Qv (fun u : Nat → Nat → Int32 => mRr u ∧ mEr [33] r u ∧ True) (fun (u : Nat → Nat → Int32) t => va_P D vwCl (mW cy a i u rl) t.heap ∧ va_K D vwCl (vT cy) t ∧ va_D (va_A (mW cy a i r rl) sz) (mW cy a i u rl)) (va_A (mW cy a i r rl) sz)) 0 0 (va_A (mW cy a i r rl) sz) := by
  refine Met.ofQ (cc := cX12_feelsClaim) (maxL := 2) (ret := none) (by decide) rfl ?_
  intro p e s m args below meth c s₁ B hml hv Q hQ
  obtain ⟨rfl, hsz, hP, hK, hD0⟩ := hv
  have hx := B.exec
  have hb := B.bytes
  have hr := B.returns
  have hlocks := B.notSynchronized
  have hT : ∀ w ∈ gT, w.before _ s = true := fun w h => atoms_spec (ws := (Cond.code yX12_feelsClaim cX12_feelsClaim 2 none :: gT)) B.pre w (List.mem_cons_of_mem _ h)
  have hown : s.vm.findClass RX12 = some m.cls := findClass_of_methodNamed B.named
  subst hsz
  have hD := hD0.self (sz := s.heap.size)
  generalize hAe : va_A (mW cy a i r rl) s.heap.size = A at hD hQ
  have hA : ∀ q : Nat, s.heap.size ≤ q → A q := fun q h => by rw [← hAe]; exact Or.inr h
  have hS : va_S A s.heap s.heap [] := va_S.rf
  have hl := lv_entry ([.ref (a 0), .int p0]) (n := 2) (Nat.le_of_ble_eq_true rfl)
  rw [lg_entry_eq]
  generalize (lg_sl ([.ref (a 0), .int p0]) ++ List.replicate (2 - (lg_sl ([.ref (a 0), .int p0])).length) Slot.unset).toArray = ls at hl ⊢
  have hl : lv_has ls 2 [(0, .ref (a 0)), (1, .int p0)] := hl
  have hEi : mEi [23, 24, 25, 26, 27, 28, 29, 30, 60] i i := Ei_rf
  have hEr : mEr [33] r r := Er_rf
  refine lv_aload_n hx hb dX12_feelsClaim_0 rfl (lv_at hl 0 rfl) ?_
  refine lv_aload_n hx hb dX12_feelsClaim_1 rfl (lv_at hl 0 rfl) ?_
  refine va_get (D := D) (ci := 12) (v := .ref (a 40)) (C := RX12) (T := TX12) (N := 91) hx hb hT iX12 hown hK hP 0 rfl rfl 52 (by decide) (hT _ t_75) (fun _ h9 => h9) rfl dX12_feelsClaim_2 ?_
  refine lv_iload_n hx hb dX12_feelsClaim_5 rfl (lv_at hl 1 rfl) ?_
  refine va_iald hx hb hK hP 40 0 rfl rfl (vp_inI (by omega) (by omega)) dX12_feelsClaim_6 ?_
  refine lv_topi (fun v_1 ev_1 => ?_)
  have hgv_1 : 0 ≤ v_1.toInt ∧ v_1.toInt ≤ 5 := by rw [ev_1]; exact hRr 40 _
  refine lv_aload_n hx hb dX12_feelsClaim_7 rfl (lv_at hl 0 rfl) ?_
  refine va_get (D := D) (ci := 12) (v := .ref (a 41)) (C := RX12) (T := TX12) (N := 91) hx hb hT iX12 hown hK hP 0 rfl rfl 53 (by decide) (hT _ t_76) (fun _ h9 => h9) rfl dX12_feelsClaim_8 ?_
  refine lv_iload_n hx hb dX12_feelsClaim_11 rfl (lv_at hl 1 rfl) ?_
  refine va_iald hx hb hK hP 41 0 rfl rfl (vp_inI (by omega) (by omega)) dX12_feelsClaim_12 ?_
  refine lv_topi (fun v_2 ev_2 => ?_)
  have hgv_2 : 0 ≤ v_2.toInt ∧ v_2.toInt ≤ 19 := by rw [ev_2]; exact hRr 41 _
  have hF_3 := rF hD hS hA
  refine va_callv (va_runV (As := [.int v_1, .int v_2]) (rest := []) ⟨hx, hb, hml, hown, hT⟩ (c_X12_feelsThing l D cy a i r rl v_1 v_2 _ hRi hRr (by omega) (by omega) (by rw [ev_2]; exact qj)) (cwV 2 hT (gV t_77 t_78 t_79 t_80 t_6) rfl rfl rfl (by decide +kernel) ⟨Nat.le_of_ble_eq_true rfl, Nat.le_of_ble_eq_true rfl⟩) (rQ_v hP hK hD (va_recv hK hP (ci := 12) (q0 := 0) rfl rfl)) rfl rfl hl.1 rfl (lv_room (Nat.le_of_ble_eq_true rfl)) dX12_feelsClaim_13 ⟨Nat.le_of_ble_eq_true rfl, Nat.le_of_ble_eq_true rfl⟩) hS (fun q _ h => hF_3 q h) hF_3 (fun u_5 t H1 locs ht hvm hr_4 hB hz1 hk1 hS => ?_)
  obtain ⟨r5, rfl⟩ : ∃ z, z = u_5 := ⟨_, rfl⟩
  obtain ⟨hP, hK1, hD1⟩ := hB
  rw [ht] at hP
  have hD := hD1.weaken (fun k q _ h => hF_3 q.1 h)
  have hP : va_P D vwCl (mW cy a i r5 rl) H1 := hP
  have hD : va_D A (mW cy a i r5 rl) := hD
  obtain ⟨hRr, hE2, hr_4⟩ := hr_4
  have hRr : mRr r5 := hRr
  have hEr : mEr [33] _ r5 := Er_tr hEr hE2 (by decide)
  refine lv_aload_n hx hb dX12_feelsClaim_16 rfl (lv_at hl 0 rfl) ?_
  refine va_get (D := D) (ci := 12) (v := .ref (a 33)) (C := RX12) (T := TX12) (N := 91) hx hb hT iX12 hown hK hP 0 rfl rfl 44 (by decide) (hT _ t_65) (fun _ h9 => h9) rfl dX12_feelsClaim_17 ?_
  refine lv_bipush (v := 8) hx hb dX12_feelsClaim_20 (by decide) ?_
  refine lv_aload_n hx hb dX12_feelsClaim_22 rfl (lv_at hl 0 rfl) ?_
  refine va_get (D := D) (ci := 12) (v := .ref (a 42)) (C := RX12) (T := TX12) (N := 91) hx hb hT iX12 hown hK hP 0 rfl rfl 54 (by decide) (hT _ t_81) (fun _ h9 => h9) rfl dX12_feelsClaim_23 ?_
  refine lv_iload_n hx hb dX12_feelsClaim_26 rfl (lv_at hl 1 rfl) ?_
  refine va_iald hx hb hK hP 42 0 rfl rfl (vp_inI (by omega) (by omega)) dX12_feelsClaim_27 ?_
  refine lv_topi (fun v_6 ev_6 => ?_)
  have hgv_6 : 0 ≤ v_6.toInt ∧ v_6.toInt ≤ 9 := by rw [ev_6]; exact hRr 42 _
  refine va_iast hx hb hK hP hD hS 33 0 rfl rfl (vp_inI (by decide) (by decide)) dX12_feelsClaim_28 (fun H locs hP hD hS => ?_)
  rw [mS33] at hP hD
  have hRr : mRr (va_up r5 33 (upd (r5 33) ((8 : Int32).toNatClampNeg) v_6)) := Rr_upd hRr 33 ((8 : Int32).toNatClampNeg) v_6 (b_rg _)
  have hEr : mEr [33] _ (va_up r5 33 (upd (r5 33) ((8 : Int32).toNatClampNeg) v_6)) := Er_up hEr 33 _ (by decide)
  refine lv_aload_n hx hb dX12_feelsClaim_29 rfl (lv_at hl 0 rfl) ?_
  refine va_get (D := D) (ci := 12) (v := .ref (a 33)) (C := RX12) (T := TX12) (N := 91) hx hb hT iX12 hown hK hP 0 rfl rfl 44 (by decide) (hT _ t_65) (fun _ h9 => h9) rfl dX12_feelsClaim_30 ?_
  refine lv_bipush (v := 9) hx hb dX12_feelsClaim_33 (by decide) ?_
  refine lv_aload_n hx hb dX12_feelsClaim_35 rfl (lv_at hl 0 rfl) ?_
  refine va_get (D := D) (ci := 12) (v := .ref (a 43)) (C := RX12) (T := TX12) (N := 91) hx hb hT iX12 hown hK hP 0 rfl rfl 55 (by decide) (hT _ t_31) (fun _ h9 => h9) rfl dX12_feelsClaim_36 ?_
  refine lv_iload_n hx hb dX12_feelsClaim_39 rfl (lv_at hl 1 rfl) ?_
  refine va_iald hx hb hK hP 43 0 rfl rfl (vp_inI (by omega) (by omega)) dX12_feelsClaim_40 ?_
  refine lv_topi (fun v_7 ev_7 => ?_)
  have hgv_7 : 0 ≤ v_7.toInt ∧ v_7.toInt ≤ 7 := by rw [ev_7]; exact hRr 43 _
  refine va_iast hx hb hK hP hD hS 33 0 rfl rfl (vp_inI (by decide) (by decide)) dX12_feelsClaim_41 (fun H locs hP hD hS => ?_)
  rw [mS33] at hP hD
  have hRr : mRr (va_up (va_up r5 33 (upd (r5 33) ((8 : Int32).toNatClampNeg) v_6)) 33 (upd (upd (r5 33) ((8 : Int32).toNatClampNeg) v_6) ((9 : Int32).toNatClampNeg) v_7)) := Rr_upd hRr 33 ((9 : Int32).toNatClampNeg) v_7 (b_rg _)
  have hEr : mEr [33] _ (va_up (va_up r5 33 (upd (r5 33) ((8 : Int32).toNatClampNeg) v_6)) 33 (upd (upd (r5 33) ((8 : Int32).toNatClampNeg) v_6) ((9 : Int32).toNatClampNeg) v_7)) := Er_up hEr 33 _ (by decide)
  subst hQ
  exact W.vret hx hb hr (fun t ht hW => ⟨⟨(va_up (va_up r5 33 (upd (r5 33) ((8 : Int32).toNatClampNeg) v_6)) 33 (upd (upd (r5 33) ((8 : Int32).toNatClampNeg) v_6) ((9 : Int32).toNatClampNeg) v_7)), rfl, ⟨hRr, hEr, trivial⟩, by rw [ht]; exact hP, va_K.moved hW.alike hK, hD⟩, hS.F ht⟩) hS.2.2 dX12_feelsClaim_42
