set_option maxRecDepth 100000 in
theorem t_88 : Cond.fieldLink RX12 353 "DepositJudgeModel" "clauses" "I" ∈ gT := tm (tb4 (List.mem_of_getElem? (i := 228) (by rfl))) (by decide +kernel)
set_option maxRecDepth 100000 in
theorem t_89 : Cond.fieldLink RX12 93 "DepositJudgeModel" "clauseOf" "[I" ∈ gT := tm (tb4 (List.mem_of_getElem? (i := 236) (by rfl))) (by decide +kernel)
set_option maxRecDepth 100000 in
theorem t_90 : Cond.fieldLink RX12 99 "DepositJudgeModel" "codeHalf" "[I" ∈ gT := tm (tb4 (List.mem_of_getElem? (i := 238) (by rfl))) (by decide +kernel)
set_option maxRecDepth 100000 in
theorem t_91 : Cond.fieldLink RX12 102 "DepositJudgeModel" "codeTo" "[I" ∈ gT := tm (tb4 (List.mem_of_getElem? (i := 239) (by rfl))) (by decide +kernel)
set_option maxRecDepth 100000 in
theorem t_92 : Cond.code yX12_comesTo cX12_comesTo 8 (some .int) ∈ gT := tm (tb6 (List.mem_of_getElem? (i := 196) (by rfl))) (by decide +kernel)
set_option maxRecDepth 100000 in
theorem t_93 : Cond.methodLink RX12 360 yX12_comesTo ∈ gT := tm (tb6 (List.mem_of_getElem? (i := 193) (by rfl))) (by decide +kernel)
set_option maxRecDepth 100000 in
theorem t_94 : Cond.instanceMethod yX12_comesTo ∈ gT := tm (tb6 (List.mem_of_getElem? (i := 195) (by rfl))) (by decide +kernel)
theorem t_95 : Cond.selects RX12 yX12_comesTo yX12_comesTo ∈ gT := tmp (List.mem_of_getElem? (i := 67) (by decide +kernel)) (by decide +kernel)
set_option maxRecDepth 100000 in
theorem t_96 : Cond.fieldLink RX12 96 "DepositJudgeModel" "codeFrom" "[I" ∈ gT := tm (tb4 (List.mem_of_getElem? (i := 237) (by rfl))) (by decide +kernel)
set_option maxRecDepth 100000 in
theorem t_97 : Cond.code yX12_byLaw cX12_byLaw 6 (some .int) ∈ gT := tm (tb6 (List.mem_of_getElem? (i := 192) (by rfl))) (by decide +kernel)
set_option maxRecDepth 100000 in
theorem t_98 : Cond.methodLink RX12 396 yX12_byLaw ∈ gT := tm (tb6 (List.mem_of_getElem? (i := 189) (by rfl))) (by decide +kernel)
set_option maxRecDepth 100000 in
theorem t_99 : Cond.instanceMethod yX12_byLaw ∈ gT := tm (tb6 (List.mem_of_getElem? (i := 191) (by rfl))) (by decide +kernel)
theorem t_100 : Cond.selects RX12 yX12_byLaw yX12_byLaw ∈ gT := tmp (List.mem_of_getElem? (i := 66) (by decide +kernel)) (by decide +kernel)
set_option maxRecDepth 100000 in
theorem t_101 : Cond.code yX12_wearOf cX12_wearOf 3 (some .int) ∈ gT := tm (tb6 (List.mem_of_getElem? (i := 172) (by rfl))) (by decide +kernel)
set_option maxRecDepth 100000 in
theorem t_102 : Cond.methodLink RX12 399 yX12_wearOf ∈ gT := tm (tb6 (List.mem_of_getElem? (i := 169) (by rfl))) (by decide +kernel)
set_option maxRecDepth 100000 in
theorem t_103 : Cond.instanceMethod yX12_wearOf ∈ gT := tm (tb6 (List.mem_of_getElem? (i := 171) (by rfl))) (by decide +kernel)
theorem t_104 : Cond.selects RX12 yX12_wearOf yX12_wearOf ∈ gT := tmp (List.mem_of_getElem? (i := 61) (by decide +kernel)) (by decide +kernel)
set_option maxRecDepth 100000 in
theorem t_105 : Cond.code yX12_worthAt cX12_worthAt 6 (some .int) ∈ gT := tm (tb6 (List.mem_of_getElem? (i := 203) (by rfl))) (by decide +kernel)
set_option maxRecDepth 100000 in
theorem t_106 : Cond.methodLink RX12 402 yX12_worthAt ∈ gT := tm (tb6 (List.mem_of_getElem? (i := 200) (by rfl))) (by decide +kernel)
set_option maxRecDepth 100000 in
theorem t_107 : Cond.instanceMethod yX12_worthAt ∈ gT := tm (tb6 (List.mem_of_getElem? (i := 202) (by rfl))) (by decide +kernel)
theorem t_108 : Cond.selects RX12 yX12_worthAt yX12_worthAt ∈ gT := tmp (List.mem_of_getElem? (i := 68) (by decide +kernel)) (by decide +kernel)
def dl_69 : List (Nat × (Instr × Nat)) := [(0, (.iconst 0, 1)), (1, (.istore_n 1, 1)), (2, (.iload_n 1, 1)), (3, (.aload_n 0, 1)), (4, (.getfield 353, 3)), (7, (.if_icmp .ge 42, 3)), (10, (.aload_n 0, 1)), (11, (.getfield 93, 3)), (14, (.iload_n 1, 1)), (15, (.iaload, 1)), (16, (.bipush 98, 2)), (18, (.if_icmp .ne 25, 3)), (21, (.aload_n 0, 1)), (22, (.aload_n 0, 1)), (23, (.getfield 99, 3)), (26, (.iload_n 1, 1)), (27, (.iaload, 1)), (28, (.aload_n 0, 1)), (29, (.getfield 102, 3)), (32, (.iload_n 1, 1))]
theorem dh_69 : dchk cX12_anyB dl_69 = true := by decide +kernel
theorem dX12_anyB_0 : decode cX12_anyB 0 = .ok (.iconst 0, 1) := dget dh_69 (k := 0) rfl
theorem dX12_anyB_1 : decode cX12_anyB 1 = .ok (.istore_n 1, 1) := dget dh_69 (k := 1) rfl
theorem dX12_anyB_2 : decode cX12_anyB 2 = .ok (.iload_n 1, 1) := dget dh_69 (k := 2) rfl
theorem dX12_anyB_3 : decode cX12_anyB 3 = .ok (.aload_n 0, 1) := dget dh_69 (k := 3) rfl
theorem dX12_anyB_4 : decode cX12_anyB 4 = .ok (.getfield 353, 3) := dget dh_69 (k := 4) rfl
theorem dX12_anyB_7 : decode cX12_anyB 7 = .ok (.if_icmp .ge 42, 3) := dget dh_69 (k := 5) rfl
theorem dX12_anyB_10 : decode cX12_anyB 10 = .ok (.aload_n 0, 1) := dget dh_69 (k := 6) rfl
theorem dX12_anyB_11 : decode cX12_anyB 11 = .ok (.getfield 93, 3) := dget dh_69 (k := 7) rfl
theorem dX12_anyB_14 : decode cX12_anyB 14 = .ok (.iload_n 1, 1) := dget dh_69 (k := 8) rfl
theorem dX12_anyB_15 : decode cX12_anyB 15 = .ok (.iaload, 1) := dget dh_69 (k := 9) rfl
theorem dX12_anyB_16 : decode cX12_anyB 16 = .ok (.bipush 98, 2) := dget dh_69 (k := 10) rfl
theorem dX12_anyB_18 : decode cX12_anyB 18 = .ok (.if_icmp .ne 25, 3) := dget dh_69 (k := 11) rfl
theorem dX12_anyB_21 : decode cX12_anyB 21 = .ok (.aload_n 0, 1) := dget dh_69 (k := 12) rfl
theorem dX12_anyB_22 : decode cX12_anyB 22 = .ok (.aload_n 0, 1) := dget dh_69 (k := 13) rfl
theorem dX12_anyB_23 : decode cX12_anyB 23 = .ok (.getfield 99, 3) := dget dh_69 (k := 14) rfl
theorem dX12_anyB_26 : decode cX12_anyB 26 = .ok (.iload_n 1, 1) := dget dh_69 (k := 15) rfl
theorem dX12_anyB_27 : decode cX12_anyB 27 = .ok (.iaload, 1) := dget dh_69 (k := 16) rfl
theorem dX12_anyB_28 : decode cX12_anyB 28 = .ok (.aload_n 0, 1) := dget dh_69 (k := 17) rfl
theorem dX12_anyB_29 : decode cX12_anyB 29 = .ok (.getfield 102, 3) := dget dh_69 (k := 18) rfl
theorem dX12_anyB_32 : decode cX12_anyB 32 = .ok (.iload_n 1, 1) := dget dh_69 (k := 19) rfl
def dl_70 : List (Nat × (Instr × Nat)) := [(33, (.iaload, 1)), (34, (.invokevirtual 360, 3)), (37, (.iconst 1, 1)), (38, (.if_icmp .ne 5, 3)), (41, (.iconst 1, 1)), (42, (.ireturn, 1)), (43, (.iinc 1 1, 3)), (46, (.goto (-44), 3)), (49, (.iconst 0, 1)), (50, (.ireturn, 1))]
theorem dh_70 : dchk cX12_anyB dl_70 = true := by decide +kernel
theorem dX12_anyB_33 : decode cX12_anyB 33 = .ok (.iaload, 1) := dget dh_70 (k := 0) rfl
theorem dX12_anyB_34 : decode cX12_anyB 34 = .ok (.invokevirtual 360, 3) := dget dh_70 (k := 1) rfl
theorem dX12_anyB_37 : decode cX12_anyB 37 = .ok (.iconst 1, 1) := dget dh_70 (k := 2) rfl
theorem dX12_anyB_38 : decode cX12_anyB 38 = .ok (.if_icmp .ne 5, 3) := dget dh_70 (k := 3) rfl
theorem dX12_anyB_41 : decode cX12_anyB 41 = .ok (.iconst 1, 1) := dget dh_70 (k := 4) rfl
theorem dX12_anyB_42 : decode cX12_anyB 42 = .ok (.ireturn, 1) := dget dh_70 (k := 5) rfl
theorem dX12_anyB_43 : decode cX12_anyB 43 = .ok (.iinc 1 1, 3) := dget dh_70 (k := 6) rfl
theorem dX12_anyB_46 : decode cX12_anyB 46 = .ok (.goto (-44), 3) := dget dh_70 (k := 7) rfl
theorem dX12_anyB_49 : decode cX12_anyB 49 = .ok (.iconst 0, 1) := dget dh_70 (k := 8) rfl
theorem dX12_anyB_50 : decode cX12_anyB 50 = .ok (.ireturn, 1) := dget dh_70 (k := 9) rfl
def dl_71 : List (Nat × (Instr × Nat)) := [(0, (.iconst 0, 1)), (1, (.istore 4, 2)), (3, (.iload 4, 2)), (5, (.aload_n 0, 1)), (6, (.getfield 353, 3)), (9, (.if_icmp .ge 87, 3)), (12, (.aload_n 0, 1)), (13, (.getfield 93, 3)), (16, (.iload 4, 2)), (18, (.iaload, 1)), (19, (.iload_n 1, 1)), (20, (.if_icmp .ne 70, 3)), (23, (.aload_n 0, 1)), (24, (.aload_n 0, 1)), (25, (.getfield 99, 3)), (28, (.iload 4, 2)), (30, (.iaload, 1)), (31, (.aload_n 0, 1)), (32, (.getfield 102, 3)), (35, (.iload 4, 2))]
theorem dh_71 : dchk cX12_byLaw dl_71 = true := by decide +kernel
theorem dX12_byLaw_0 : decode cX12_byLaw 0 = .ok (.iconst 0, 1) := dget dh_71 (k := 0) rfl
theorem dX12_byLaw_1 : decode cX12_byLaw 1 = .ok (.istore 4, 2) := dget dh_71 (k := 1) rfl
theorem dX12_byLaw_3 : decode cX12_byLaw 3 = .ok (.iload 4, 2) := dget dh_71 (k := 2) rfl
theorem dX12_byLaw_5 : decode cX12_byLaw 5 = .ok (.aload_n 0, 1) := dget dh_71 (k := 3) rfl
theorem dX12_byLaw_6 : decode cX12_byLaw 6 = .ok (.getfield 353, 3) := dget dh_71 (k := 4) rfl
theorem dX12_byLaw_9 : decode cX12_byLaw 9 = .ok (.if_icmp .ge 87, 3) := dget dh_71 (k := 5) rfl
theorem dX12_byLaw_12 : decode cX12_byLaw 12 = .ok (.aload_n 0, 1) := dget dh_71 (k := 6) rfl
theorem dX12_byLaw_13 : decode cX12_byLaw 13 = .ok (.getfield 93, 3) := dget dh_71 (k := 7) rfl
theorem dX12_byLaw_16 : decode cX12_byLaw 16 = .ok (.iload 4, 2) := dget dh_71 (k := 8) rfl
theorem dX12_byLaw_18 : decode cX12_byLaw 18 = .ok (.iaload, 1) := dget dh_71 (k := 9) rfl
theorem dX12_byLaw_19 : decode cX12_byLaw 19 = .ok (.iload_n 1, 1) := dget dh_71 (k := 10) rfl
theorem dX12_byLaw_20 : decode cX12_byLaw 20 = .ok (.if_icmp .ne 70, 3) := dget dh_71 (k := 11) rfl
theorem dX12_byLaw_23 : decode cX12_byLaw 23 = .ok (.aload_n 0, 1) := dget dh_71 (k := 12) rfl
theorem dX12_byLaw_24 : decode cX12_byLaw 24 = .ok (.aload_n 0, 1) := dget dh_71 (k := 13) rfl
theorem dX12_byLaw_25 : decode cX12_byLaw 25 = .ok (.getfield 99, 3) := dget dh_71 (k := 14) rfl
theorem dX12_byLaw_28 : decode cX12_byLaw 28 = .ok (.iload 4, 2) := dget dh_71 (k := 15) rfl
theorem dX12_byLaw_30 : decode cX12_byLaw 30 = .ok (.iaload, 1) := dget dh_71 (k := 16) rfl
theorem dX12_byLaw_31 : decode cX12_byLaw 31 = .ok (.aload_n 0, 1) := dget dh_71 (k := 17) rfl
theorem dX12_byLaw_32 : decode cX12_byLaw 32 = .ok (.getfield 102, 3) := dget dh_71 (k := 18) rfl
theorem dX12_byLaw_35 : decode cX12_byLaw 35 = .ok (.iload 4, 2) := dget dh_71 (k := 19) rfl
def dl_72 : List (Nat × (Instr × Nat)) := [(37, (.iaload, 1)), (38, (.invokevirtual 360, 3)), (41, (.iconst 1, 1)), (42, (.if_icmp .eq 6, 3)), (45, (.goto 45, 3)), (48, (.aload_n 0, 1)), (49, (.aload_n 0, 1)), (50, (.getfield 96, 3)), (53, (.iload 4, 2)), (55, (.iaload, 1)), (56, (.aload_n 0, 1)), (57, (.getfield 99, 3)), (60, (.iload 4, 2)), (62, (.iaload, 1)), (63, (.invokevirtual 360, 3)), (66, (.istore 5, 2)), (68, (.iload 5, 2)), (70, (.ifCond .ge 7, 3)), (73, (.iconst 0, 1)), (74, (.goto 15, 3))]
theorem dh_72 : dchk cX12_byLaw dl_72 = true := by decide +kernel
theorem dX12_byLaw_37 : decode cX12_byLaw 37 = .ok (.iaload, 1) := dget dh_72 (k := 0) rfl
theorem dX12_byLaw_38 : decode cX12_byLaw 38 = .ok (.invokevirtual 360, 3) := dget dh_72 (k := 1) rfl
theorem dX12_byLaw_41 : decode cX12_byLaw 41 = .ok (.iconst 1, 1) := dget dh_72 (k := 2) rfl
theorem dX12_byLaw_42 : decode cX12_byLaw 42 = .ok (.if_icmp .eq 6, 3) := dget dh_72 (k := 3) rfl
theorem dX12_byLaw_45 : decode cX12_byLaw 45 = .ok (.goto 45, 3) := dget dh_72 (k := 4) rfl
theorem dX12_byLaw_48 : decode cX12_byLaw 48 = .ok (.aload_n 0, 1) := dget dh_72 (k := 5) rfl
theorem dX12_byLaw_49 : decode cX12_byLaw 49 = .ok (.aload_n 0, 1) := dget dh_72 (k := 6) rfl
theorem dX12_byLaw_50 : decode cX12_byLaw 50 = .ok (.getfield 96, 3) := dget dh_72 (k := 7) rfl
theorem dX12_byLaw_53 : decode cX12_byLaw 53 = .ok (.iload 4, 2) := dget dh_72 (k := 8) rfl
theorem dX12_byLaw_55 : decode cX12_byLaw 55 = .ok (.iaload, 1) := dget dh_72 (k := 9) rfl
theorem dX12_byLaw_56 : decode cX12_byLaw 56 = .ok (.aload_n 0, 1) := dget dh_72 (k := 10) rfl
theorem dX12_byLaw_57 : decode cX12_byLaw 57 = .ok (.getfield 99, 3) := dget dh_72 (k := 11) rfl
theorem dX12_byLaw_60 : decode cX12_byLaw 60 = .ok (.iload 4, 2) := dget dh_72 (k := 12) rfl
theorem dX12_byLaw_62 : decode cX12_byLaw 62 = .ok (.iaload, 1) := dget dh_72 (k := 13) rfl
theorem dX12_byLaw_63 : decode cX12_byLaw 63 = .ok (.invokevirtual 360, 3) := dget dh_72 (k := 14) rfl
theorem dX12_byLaw_66 : decode cX12_byLaw 66 = .ok (.istore 5, 2) := dget dh_72 (k := 15) rfl
theorem dX12_byLaw_68 : decode cX12_byLaw 68 = .ok (.iload 5, 2) := dget dh_72 (k := 16) rfl
theorem dX12_byLaw_70 : decode cX12_byLaw 70 = .ok (.ifCond .ge 7, 3) := dget dh_72 (k := 17) rfl
theorem dX12_byLaw_73 : decode cX12_byLaw 73 = .ok (.iconst 0, 1) := dget dh_72 (k := 18) rfl
theorem dX12_byLaw_74 : decode cX12_byLaw 74 = .ok (.goto 15, 3) := dget dh_72 (k := 19) rfl
def dl_73 : List (Nat × (Instr × Nat)) := [(77, (.iload 5, 2)), (79, (.iload_n 2, 1)), (80, (.if_icmp .le 7, 3)), (83, (.iload_n 2, 1)), (84, (.goto 5, 3)), (87, (.iload 5, 2)), (89, (.ireturn, 1)), (90, (.iinc 4 1, 3)), (93, (.goto (-90), 3)), (96, (.iload_n 3, 1)), (97, (.ireturn, 1))]
theorem dh_73 : dchk cX12_byLaw dl_73 = true := by decide +kernel
theorem dX12_byLaw_77 : decode cX12_byLaw 77 = .ok (.iload 5, 2) := dget dh_73 (k := 0) rfl
theorem dX12_byLaw_79 : decode cX12_byLaw 79 = .ok (.iload_n 2, 1) := dget dh_73 (k := 1) rfl
theorem dX12_byLaw_80 : decode cX12_byLaw 80 = .ok (.if_icmp .le 7, 3) := dget dh_73 (k := 2) rfl
theorem dX12_byLaw_83 : decode cX12_byLaw 83 = .ok (.iload_n 2, 1) := dget dh_73 (k := 3) rfl
theorem dX12_byLaw_84 : decode cX12_byLaw 84 = .ok (.goto 5, 3) := dget dh_73 (k := 4) rfl
theorem dX12_byLaw_87 : decode cX12_byLaw 87 = .ok (.iload 5, 2) := dget dh_73 (k := 5) rfl
theorem dX12_byLaw_89 : decode cX12_byLaw 89 = .ok (.ireturn, 1) := dget dh_73 (k := 6) rfl
theorem dX12_byLaw_90 : decode cX12_byLaw 90 = .ok (.iinc 4 1, 3) := dget dh_73 (k := 7) rfl
theorem dX12_byLaw_93 : decode cX12_byLaw 93 = .ok (.goto (-90), 3) := dget dh_73 (k := 8) rfl
theorem dX12_byLaw_96 : decode cX12_byLaw 96 = .ok (.iload_n 3, 1) := dget dh_73 (k := 9) rfl
theorem dX12_byLaw_97 : decode cX12_byLaw 97 = .ok (.ireturn, 1) := dget dh_73 (k := 10) rfl
def dl_74 : List (Nat × (Instr × Nat)) := [(0, (.aload_n 0, 1)), (1, (.getfield 49, 3)), (4, (.bipush 20, 2)), (6, (.iload_n 1, 1)), (7, (.imul, 1)), (8, (.iload_n 2, 1)), (9, (.iadd, 1)), (10, (.iaload, 1)), (11, (.istore_n 3, 1)), (12, (.iload_n 3, 1)), (13, (.aload_n 0, 1)), (14, (.iload_n 1, 1)), (15, (.iload_n 2, 1)), (16, (.invokevirtual 399, 3)), (19, (.isub, 1)), (20, (.istore 4, 2)), (22, (.iload 4, 2)), (24, (.ifCond .ge 7, 3)), (27, (.iconst 0, 1)), (28, (.goto 5, 3))]
theorem dh_74 : dchk cX12_lostOf dl_74 = true := by decide +kernel
theorem dX12_lostOf_0 : decode cX12_lostOf 0 = .ok (.aload_n 0, 1) := dget dh_74 (k := 0) rfl
theorem dX12_lostOf_1 : decode cX12_lostOf 1 = .ok (.getfield 49, 3) := dget dh_74 (k := 1) rfl
theorem dX12_lostOf_4 : decode cX12_lostOf 4 = .ok (.bipush 20, 2) := dget dh_74 (k := 2) rfl
theorem dX12_lostOf_6 : decode cX12_lostOf 6 = .ok (.iload_n 1, 1) := dget dh_74 (k := 3) rfl
theorem dX12_lostOf_7 : decode cX12_lostOf 7 = .ok (.imul, 1) := dget dh_74 (k := 4) rfl
theorem dX12_lostOf_8 : decode cX12_lostOf 8 = .ok (.iload_n 2, 1) := dget dh_74 (k := 5) rfl
theorem dX12_lostOf_9 : decode cX12_lostOf 9 = .ok (.iadd, 1) := dget dh_74 (k := 6) rfl
theorem dX12_lostOf_10 : decode cX12_lostOf 10 = .ok (.iaload, 1) := dget dh_74 (k := 7) rfl
theorem dX12_lostOf_11 : decode cX12_lostOf 11 = .ok (.istore_n 3, 1) := dget dh_74 (k := 8) rfl
theorem dX12_lostOf_12 : decode cX12_lostOf 12 = .ok (.iload_n 3, 1) := dget dh_74 (k := 9) rfl
theorem dX12_lostOf_13 : decode cX12_lostOf 13 = .ok (.aload_n 0, 1) := dget dh_74 (k := 10) rfl
theorem dX12_lostOf_14 : decode cX12_lostOf 14 = .ok (.iload_n 1, 1) := dget dh_74 (k := 11) rfl
theorem dX12_lostOf_15 : decode cX12_lostOf 15 = .ok (.iload_n 2, 1) := dget dh_74 (k := 12) rfl
theorem dX12_lostOf_16 : decode cX12_lostOf 16 = .ok (.invokevirtual 399, 3) := dget dh_74 (k := 13) rfl
theorem dX12_lostOf_19 : decode cX12_lostOf 19 = .ok (.isub, 1) := dget dh_74 (k := 14) rfl
theorem dX12_lostOf_20 : decode cX12_lostOf 20 = .ok (.istore 4, 2) := dget dh_74 (k := 15) rfl
theorem dX12_lostOf_22 : decode cX12_lostOf 22 = .ok (.iload 4, 2) := dget dh_74 (k := 16) rfl
theorem dX12_lostOf_24 : decode cX12_lostOf 24 = .ok (.ifCond .ge 7, 3) := dget dh_74 (k := 17) rfl
theorem dX12_lostOf_27 : decode cX12_lostOf 27 = .ok (.iconst 0, 1) := dget dh_74 (k := 18) rfl
theorem dX12_lostOf_28 : decode cX12_lostOf 28 = .ok (.goto 5, 3) := dget dh_74 (k := 19) rfl
def dl_75 : List (Nat × (Instr × Nat)) := [(31, (.iload 4, 2)), (33, (.istore 4, 2)), (35, (.iload 4, 2)), (37, (.aload_n 0, 1)), (38, (.iload_n 1, 1)), (39, (.iload_n 2, 1)), (40, (.invokevirtual 370, 3)), (43, (.isub, 1)), (44, (.istore 5, 2)), (46, (.iload 5, 2)), (48, (.ifCond .gt 7, 3)), (51, (.iconst 0, 1)), (52, (.goto 20, 3)), (55, (.aload_n 0, 1)), (56, (.iload_n 1, 1)), (57, (.iload_n 2, 1)), (58, (.aload_n 0, 1)), (59, (.iload_n 1, 1)), (60, (.iload_n 2, 1)), (61, (.invokevirtual 373, 3))]
theorem dh_75 : dchk cX12_lostOf dl_75 = true := by decide +kernel
theorem dX12_lostOf_31 : decode cX12_lostOf 31 = .ok (.iload 4, 2) := dget dh_75 (k := 0) rfl
theorem dX12_lostOf_33 : decode cX12_lostOf 33 = .ok (.istore 4, 2) := dget dh_75 (k := 1) rfl
theorem dX12_lostOf_35 : decode cX12_lostOf 35 = .ok (.iload 4, 2) := dget dh_75 (k := 2) rfl
theorem dX12_lostOf_37 : decode cX12_lostOf 37 = .ok (.aload_n 0, 1) := dget dh_75 (k := 3) rfl
theorem dX12_lostOf_38 : decode cX12_lostOf 38 = .ok (.iload_n 1, 1) := dget dh_75 (k := 4) rfl
theorem dX12_lostOf_39 : decode cX12_lostOf 39 = .ok (.iload_n 2, 1) := dget dh_75 (k := 5) rfl
theorem dX12_lostOf_40 : decode cX12_lostOf 40 = .ok (.invokevirtual 370, 3) := dget dh_75 (k := 6) rfl
theorem dX12_lostOf_43 : decode cX12_lostOf 43 = .ok (.isub, 1) := dget dh_75 (k := 7) rfl
theorem dX12_lostOf_44 : decode cX12_lostOf 44 = .ok (.istore 5, 2) := dget dh_75 (k := 8) rfl
theorem dX12_lostOf_46 : decode cX12_lostOf 46 = .ok (.iload 5, 2) := dget dh_75 (k := 9) rfl
theorem dX12_lostOf_48 : decode cX12_lostOf 48 = .ok (.ifCond .gt 7, 3) := dget dh_75 (k := 10) rfl
theorem dX12_lostOf_51 : decode cX12_lostOf 51 = .ok (.iconst 0, 1) := dget dh_75 (k := 11) rfl
theorem dX12_lostOf_52 : decode cX12_lostOf 52 = .ok (.goto 20, 3) := dget dh_75 (k := 12) rfl
theorem dX12_lostOf_55 : decode cX12_lostOf 55 = .ok (.aload_n 0, 1) := dget dh_75 (k := 13) rfl
theorem dX12_lostOf_56 : decode cX12_lostOf 56 = .ok (.iload_n 1, 1) := dget dh_75 (k := 14) rfl
theorem dX12_lostOf_57 : decode cX12_lostOf 57 = .ok (.iload_n 2, 1) := dget dh_75 (k := 15) rfl
theorem dX12_lostOf_58 : decode cX12_lostOf 58 = .ok (.aload_n 0, 1) := dget dh_75 (k := 16) rfl
theorem dX12_lostOf_59 : decode cX12_lostOf 59 = .ok (.iload_n 1, 1) := dget dh_75 (k := 17) rfl
theorem dX12_lostOf_60 : decode cX12_lostOf 60 = .ok (.iload_n 2, 1) := dget dh_75 (k := 18) rfl
theorem dX12_lostOf_61 : decode cX12_lostOf 61 = .ok (.invokevirtual 373, 3) := dget dh_75 (k := 19) rfl
def dl_76 : List (Nat × (Instr × Nat)) := [(64, (.invokevirtual 402, 3)), (67, (.iload 5, 2)), (69, (.imul, 1)), (70, (.iload_n 3, 1)), (71, (.idiv, 1)), (72, (.ireturn, 1))]
theorem dh_76 : dchk cX12_lostOf dl_76 = true := by decide +kernel
theorem dX12_lostOf_64 : decode cX12_lostOf 64 = .ok (.invokevirtual 402, 3) := dget dh_76 (k := 0) rfl
theorem dX12_lostOf_67 : decode cX12_lostOf 67 = .ok (.iload 5, 2) := dget dh_76 (k := 1) rfl
theorem dX12_lostOf_69 : decode cX12_lostOf 69 = .ok (.imul, 1) := dget dh_76 (k := 2) rfl
theorem dX12_lostOf_70 : decode cX12_lostOf 70 = .ok (.iload_n 3, 1) := dget dh_76 (k := 3) rfl
theorem dX12_lostOf_71 : decode cX12_lostOf 71 = .ok (.idiv, 1) := dget dh_76 (k := 4) rfl
theorem dX12_lostOf_72 : decode cX12_lostOf 72 = .ok (.ireturn, 1) := dget dh_76 (k := 5) rfl
def dl_77 : List (Nat × (Instr × Nat)) := [(0, (.aload_n 0, 1)), (1, (.iload_n 1, 1)), (2, (.iload_n 2, 1)), (3, (.invokevirtual 376, 3)), (6, (.aload_n 0, 1)), (7, (.bipush 102, 2)), (9, (.bipush 9, 2)), (11, (.iconst 0, 1)), (12, (.invokevirtual 396, 3)), (15, (.ireturn, 1))]
theorem dh_77 : dchk cX12_wearOf dl_77 = true := by decide +kernel
theorem dX12_wearOf_0 : decode cX12_wearOf 0 = .ok (.aload_n 0, 1) := dget dh_77 (k := 0) rfl
theorem dX12_wearOf_1 : decode cX12_wearOf 1 = .ok (.iload_n 1, 1) := dget dh_77 (k := 1) rfl
theorem dX12_wearOf_2 : decode cX12_wearOf 2 = .ok (.iload_n 2, 1) := dget dh_77 (k := 2) rfl
theorem dX12_wearOf_3 : decode cX12_wearOf 3 = .ok (.invokevirtual 376, 3) := dget dh_77 (k := 3) rfl
theorem dX12_wearOf_6 : decode cX12_wearOf 6 = .ok (.aload_n 0, 1) := dget dh_77 (k := 4) rfl
theorem dX12_wearOf_7 : decode cX12_wearOf 7 = .ok (.bipush 102, 2) := dget dh_77 (k := 5) rfl
theorem dX12_wearOf_9 : decode cX12_wearOf 9 = .ok (.bipush 9, 2) := dget dh_77 (k := 6) rfl
theorem dX12_wearOf_11 : decode cX12_wearOf 11 = .ok (.iconst 0, 1) := dget dh_77 (k := 7) rfl
theorem dX12_wearOf_12 : decode cX12_wearOf 12 = .ok (.invokevirtual 396, 3) := dget dh_77 (k := 8) rfl
theorem dX12_wearOf_15 : decode cX12_wearOf 15 = .ok (.ireturn, 1) := dget dh_77 (k := 9) rfl
def mE (i : Nat → Int32) (r : Nat → Nat → Int32) : Prop :=
  (∀ h : Nat, (h : Int) < (i 0).toInt → 1 ≤ (r 4 h).toInt) ∧
  (∀ h k : Nat, h < 6 → (k : Int) < (r 10 h).toInt → 1 ≤ (r 14 (20 * h + k)).toInt) ∧
  (∀ c : Nat, (c : Int) < (i 51).toInt → (r 40 c).toInt < (i 0).toInt ∧ (r 41 c).toInt < (r 10 (r 40 c).toNatClampNeg).toInt) ∧
  (∀ c : Nat, (c : Int) < (i 79).toInt → (r 63 c).toInt < (i 0).toInt ∧ (r 64 c).toInt < (r 10 (r 63 c).toNatClampNeg).toInt) ∧
  (∀ q : Nat, (q : Int) < (i 31).toInt → segOK (r 27) (r 30 q).toNatClampNeg (r 31 q).toNatClampNeg ∧ ((r 28 q).toInt ≠ 98 → segOK (r 27) (r 29 q).toNatClampNeg (r 30 q).toNatClampNeg))
theorem mE_same {TI T : List Nat} {i0 i : Nat → Int32} {r0 r : Nat → Nat → Int32} (hEi : mEi TI i0 i) (hEr : mEr T r0 r) (hTI : ∀ p ∈ [0, 31, 51, 79], p ∉ TI) (hT : ∀ p ∈ [4, 10, 14, 27, 28, 29, 30, 31, 40, 41, 63, 64], p ∉ T) (h : mE i0 r0) : mE i r := by
  have e0 := hEi 0 (hTI _ (by decide))
  have e31 := hEi 31 (hTI _ (by decide))
  have e51 := hEi 51 (hTI _ (by decide))
  have e79 := hEi 79 (hTI _ (by decide))
  have h5 := hEr 4 (hT _ (by decide))
  have h11 := hEr 10 (hT _ (by decide))
  have h15 := hEr 14 (hT _ (by decide))
  have h38 := hEr 27 (hT _ (by decide))
  have h39 := hEr 28 (hT _ (by decide))
  have h40 := hEr 29 (hT _ (by decide))
  have h41 := hEr 30 (hT _ (by decide))
  have h42 := hEr 31 (hT _ (by decide))
  have h52 := hEr 40 (hT _ (by decide))
  have h53 := hEr 41 (hT _ (by decide))
  have h81 := hEr 63 (hT _ (by decide))
  have h82 := hEr 64 (hT _ (by decide))
  unfold mE at h ⊢
  rw [e0, e31, e51, e79, h5, h11, h15, h38, h39, h40, h41, h42, h52, h53, h81, h82]
  exact h
set_option maxHeartbeats 4000000 in
set_option maxRecDepth 100000 in
theorem c_X12_byLaw (l : Launch) (D : va_G) (cy : Nat → ClassId) (a : Nat → Nat) (i : Nat → Int32) (r : Nat → Nat → Int32) (rl : Nat → Int64) (p0 p1 p2 : Int32) (sz : Nat) (hRi : mRi i) (hRr : mRr r) (hE : mE i r) (q0 : p0.toInt ≠ 98) : Met l yX12_byLaw (Cond.code yX12_byLaw cX12_byLaw 6 (some .int) :: gT) { frames := 3, cells := 0, slots := 0, locals := 73 } (va_Pc [.ref (a 0), .int p0, .int p1, .int p2] (rQ D cy (mW cy a i r rl) sz)) (va_Qi (fun (z : Int32) (u : Nat → Nat → Int32) => mRr u ∧ mEr [32] r u ∧ True) (fun (u : Nat → Nat → Int32) t => va_P D vwCl (mW cy a i u rl) t.heap ∧ va_K D vwCl (vT cy) t ∧ va_D (va_A (mW cy a i r rl) sz) (mW cy a i u rl)) (va_A (mW cy a i r rl) sz)) 0 0 (va_A (mW cy a i r rl) sz) := by
  refine Met.ofQ (cc := cX12_byLaw) (maxL := 6) (ret := (some .int)) (by decide) rfl ?_
  intro p e s m args below meth c s₁ B hml hv Q hQ
  obtain ⟨rfl, hsz, hP, hK, hD0⟩ := hv
  have hx := B.exec
  have hb := B.bytes
  have hr := B.returns
  have hlocks := B.notSynchronized
  have hT : ∀ w ∈ gT, w.before _ s = true := fun w h => atoms_spec (ws := (Cond.code yX12_byLaw cX12_byLaw 6 (some .int) :: gT)) B.pre w (List.mem_cons_of_mem _ h)
  have hown : s.vm.findClass RX12 = some m.cls := findClass_of_methodNamed B.named
  subst hsz
  have hD := hD0.self (sz := s.heap.size)
  generalize hAe : va_A (mW cy a i r rl) s.heap.size = A at hD hQ
  have hA : ∀ q : Nat, s.heap.size ≤ q → A q := fun q h => by rw [← hAe]; exact Or.inr h
  have hS : va_S A s.heap s.heap [] := va_S.rf
  have hl := lv_entry ([.ref (a 0), .int p0, .int p1, .int p2]) (n := 6) (Nat.le_of_ble_eq_true rfl)
  rw [lg_entry_eq]
  generalize (lg_sl ([.ref (a 0), .int p0, .int p1, .int p2]) ++ List.replicate (6 - (lg_sl ([.ref (a 0), .int p0, .int p1, .int p2])).length) Slot.unset).toArray = ls at hl ⊢
  have hl : lv_has ls 6 [(0, .ref (a 0)), (1, .int p0), (2, .int p1), (3, .int p2)] := hl
  have hEi : mEi [23, 24, 25, 26, 27, 28, 29, 30, 60] i i := Ei_rf
  have hEr : mEr [32] r r := Er_rf
  refine lv_iconst (v := 0) hx hb dX12_byLaw_0 (by decide) ?_
  refine lv_istore (lv' := [(4, .int 0), (0, .ref (a 0)), (1, .int p0), (2, .int p1), (3, .int p2)]) hx hb dX12_byLaw_1 hl (by decide) rfl (fun ls hl => ?_)
  have loop_1 : ∀ (n : Nat) (x1_4 : Int32) (r1 : Nat → Nat → Int32) (H : Heap) (locs : List Loc) (ls : Array Slot), (14 - x1_4.toInt).toNat < n → (0 ≤ x1_4.toInt ∧ x1_4.toInt ≤ 14) → mRr r1 → mEr [32] r r1 → va_P D vwCl (mW cy a i r1 rl) H → va_D A (mW cy a i r1 rl) → va_S A s.heap H locs → lv_has ls 6 [(4, .int x1_4), (0, .ref (a 0)), (1, .int p0), (2, .int p1), (3, .int p2)] → W p l e ({ frames := 3, cells := 0, slots := 0, locals := 73 } : Room) s m ([.ref (a 0), .int p0, .int p1, .int p2] : List Value).toArray below meth c H locs 0 0 Q (F0 m 3 ls []) := by
    intro n
    induction n with
    | zero =>
      intro x1_4 r1 H locs ls hm1 hf1_0 hRr hEr hP hD hS hl
      exact absurd hm1 (by omega)
    | succ n ih1 =>
      intro x1_4 r1 H locs ls hm1 hf1_0 hRr hEr hP hD hS hl
      refine lv_iload hx hb dX12_byLaw_3 (lv_at hl 0 rfl) ?_
      refine lv_aload_n hx hb dX12_byLaw_5 rfl (lv_at hl 1 rfl) ?_
      refine va_get (D := D) (ci := 12) (v := .int (i 31)) (C := RX12) (T := TX12) (N := 91) hx hb hT iX12 hown hK hP 0 rfl rfl 31 (by decide) (hT _ t_88) (fun _ h9 => h9) rfl dX12_byLaw_6 ?_
      have hg_2 : 0 ≤ (i 31).toInt ∧ (i 31).toInt ≤ 14 := hRi 31
      refine lv_icmp_ge (tgt := 96) hx hb dX12_byLaw_9 (by decide) (fun c_3 => ?_) (fun c_3 => ?_)
      · have c_3 : (i 31).toInt ≤ x1_4.toInt := b_le c_3
        refine lv_iload_n hx hb dX12_byLaw_96 rfl (lv_at hl 4 rfl) ?_
        subst hQ
        exact W.iret (v := p2) hx hb hr (fun t ht hW => ⟨⟨_, r1, rfl, ⟨hRr, hEr, trivial⟩, by rw [ht]; exact hP, va_K.moved hW.alike hK, hD⟩, hS.F ht⟩) hS.2.2 dX12_byLaw_97
      · have c_3 : x1_4.toInt < (i 31).toInt := b_nle c_3
        refine lv_aload_n hx hb dX12_byLaw_12 rfl (lv_at hl 1 rfl) ?_
        refine va_get (D := D) (ci := 12) (v := .ref (a 28)) (C := RX12) (T := TX12) (N := 91) hx hb hT iX12 hown hK hP 0 rfl rfl 39 (by decide) (hT _ t_89) (fun _ h9 => h9) rfl dX12_byLaw_13 ?_
        refine lv_iload hx hb dX12_byLaw_16 (lv_at hl 0 rfl) ?_
        refine va_iald hx hb hK hP 28 0 rfl rfl (vp_inI (by omega) (by omega)) dX12_byLaw_18 ?_
        refine lv_topi (fun v_4 ev_4 => ?_)
        refine lv_iload_n hx hb dX12_byLaw_19 rfl (lv_at hl 2 rfl) ?_
        refine lv_icmp_ne (tgt := 90) hx hb dX12_byLaw_20 (by decide) (fun c_5 => ?_) (fun c_5 => ?_)
        · have c_5 : v_4.toInt ≠ p0.toInt := b_ne c_5
          obtain ⟨x_6, ex_6⟩ : ∃ y : Int32, y = x1_4 + 1 := ⟨_, rfl⟩
          refine lv_iinc (v := x_6) (lv' := [(4, .int x_6), (0, .ref (a 0)), (1, .int p0), (2, .int p1), (3, .int p2)]) hx hb dX12_byLaw_90 hl (k := 0) rfl (by rw [ex_6]; rfl) (by decide) rfl (fun ls hl => ?_)
          have hx_6 : x_6.toInt = x1_4.toInt + 1 := by rw [ex_6]; have := b_rg x1_4; exact i_add (a := x1_4.toInt) (b := 1) rfl rfl (by omega) (by omega)
          refine lv_goto (tgt := 3) hx hb dX12_byLaw_93 (by decide) ?_
          exact ih1 x_6 r1 _ _ _ (by first | omega | (simp only [Int.toNat]; omega)) (by first | omega | decide) hRr hEr  hP hD hS (lv_sub hl [0, 1, 2, 3, 4] rfl)
        · have c_5 : v_4.toInt = p0.toInt := b_nne c_5
          have hnb : (r 28 x1_4.toNatClampNeg).toInt ≠ 98 := by have h8 := c_5; rw [ev_4, hEr 28 (by decide)] at h8; omega
          refine lv_aload_n hx hb dX12_byLaw_23 rfl (lv_at hl 1 rfl) ?_
          refine lv_aload_n hx hb dX12_byLaw_24 rfl (lv_at hl 1 rfl) ?_
          refine va_get (D := D) (ci := 12) (v := .ref (a 30)) (C := RX12) (T := TX12) (N := 91) hx hb hT iX12 hown hK hP 0 rfl rfl 41 (by decide) (hT _ t_90) (fun _ h9 => h9) rfl dX12_byLaw_25 ?_
          refine lv_iload hx hb dX12_byLaw_28 (lv_at hl 0 rfl) ?_
          refine va_iald hx hb hK hP 30 0 rfl rfl (vp_inI (by omega) (by omega)) dX12_byLaw_30 ?_
          refine lv_topi (fun v_7 ev_7 => ?_)
          have hgv_7 : 0 ≤ v_7.toInt ∧ v_7.toInt ≤ 220 := by rw [ev_7]; exact hRr 30 _
          refine lv_aload_n hx hb dX12_byLaw_31 rfl (lv_at hl 1 rfl) ?_
          refine va_get (D := D) (ci := 12) (v := .ref (a 31)) (C := RX12) (T := TX12) (N := 91) hx hb hT iX12 hown hK hP 0 rfl rfl 42 (by decide) (hT _ t_91) (fun _ h9 => h9) rfl dX12_byLaw_32 ?_
          refine lv_iload hx hb dX12_byLaw_35 (lv_at hl 0 rfl) ?_
          refine va_iald hx hb hK hP 31 0 rfl rfl (vp_inI (by omega) (by omega)) dX12_byLaw_37 ?_
          refine lv_topi (fun v_8 ev_8 => ?_)
          have hgv_8 : 0 ≤ v_8.toInt ∧ v_8.toInt ≤ 220 := by rw [ev_8]; exact hRr 31 _
          have hF_9 := rF hD hS hA
          refine va_calli (va_runV (As := [.int v_7, .int v_8]) (rest := []) ⟨hx, hb, hml, hown, hT⟩ (c_X12_comesTo l D cy a i r1 rl v_7 v_8 _ hRi hRr (by omega) (by omega) (by rw [ev_7, ev_8, hEr 27 (by decide), hEr 30 (by decide), hEr 31 (by decide)]; exact (hE.2.2.2.2 x1_4.toNatClampNeg (by have h9 : x1_4.toNatClampNeg = x1_4.toInt.toNat := rfl; omega)).1)) (cwV 2 hT (gV t_92 t_93 t_94 t_95 t_6) rfl rfl rfl (by decide +kernel) ⟨Nat.le_of_ble_eq_true rfl, Nat.le_of_ble_eq_true rfl⟩) (rQ_v hP hK hD (va_recv hK hP (ci := 12) (q0 := 0) rfl rfl)) rfl rfl hl.1 rfl (lv_room (Nat.le_of_ble_eq_true rfl)) dX12_byLaw_38 ⟨Nat.le_of_ble_eq_true rfl, Nat.le_of_ble_eq_true rfl⟩) hS (fun q _ h => hF_9 q h) hF_9 (fun r_10 u_11 t H1 locs ht hvm hr_10 hB hz1 hk1 hS => ?_)
          obtain ⟨r11, rfl⟩ : ∃ z, z = u_11 := ⟨_, rfl⟩
          obtain ⟨hP, hK1, hD1⟩ := hB
          rw [ht] at hP
          have hD := hD1.weaken (fun k q _ h => hF_9 q.1 h)
          have hP : va_P D vwCl (mW cy a i r11 rl) H1 := hP
          have hD : va_D A (mW cy a i r11 rl) := hD
          obtain ⟨hRr, hE2, hr_10⟩ := hr_10
          have hRr : mRr r11 := hRr
          have hEr : mEr [32] _ r11 := Er_tr hEr hE2 (by decide)
          refine lv_iconst (v := 1) hx hb dX12_byLaw_41 (by decide) ?_
          refine lv_icmp_eq (tgt := 48) hx hb dX12_byLaw_42 (by decide) (fun c_12 => ?_) (fun c_12 => ?_)
          · have c_12 : r_10.toInt = 1 := b_eq c_12
            refine lv_aload_n hx hb dX12_byLaw_48 rfl (lv_at hl 1 rfl) ?_
            refine lv_aload_n hx hb dX12_byLaw_49 rfl (lv_at hl 1 rfl) ?_
            refine va_get (D := D) (ci := 12) (v := .ref (a 29)) (C := RX12) (T := TX12) (N := 91) hx hb hT iX12 hown hK hP 0 rfl rfl 40 (by decide) (hT _ t_96) (fun _ h9 => h9) rfl dX12_byLaw_50 ?_
            refine lv_iload hx hb dX12_byLaw_53 (lv_at hl 0 rfl) ?_
            refine va_iald hx hb hK hP 29 0 rfl rfl (vp_inI (by omega) (by omega)) dX12_byLaw_55 ?_
            refine lv_topi (fun v_13 ev_13 => ?_)
            have hgv_13 : 0 ≤ v_13.toInt ∧ v_13.toInt ≤ 220 := by rw [ev_13]; exact hRr 29 _
            refine lv_aload_n hx hb dX12_byLaw_56 rfl (lv_at hl 1 rfl) ?_
            refine va_get (D := D) (ci := 12) (v := .ref (a 30)) (C := RX12) (T := TX12) (N := 91) hx hb hT iX12 hown hK hP 0 rfl rfl 41 (by decide) (hT _ t_90) (fun _ h9 => h9) rfl dX12_byLaw_57 ?_
            refine lv_iload hx hb dX12_byLaw_60 (lv_at hl 0 rfl) ?_
            refine va_iald hx hb hK hP 30 0 rfl rfl (vp_inI (by omega) (by omega)) dX12_byLaw_62 ?_
            refine lv_topi (fun v_14 ev_14 => ?_)
            have hgv_14 : 0 ≤ v_14.toInt ∧ v_14.toInt ≤ 220 := by rw [ev_14]; exact hRr 30 _
            have hF_15 := rF hD hS hA
            refine va_calli (va_runV (As := [.int v_13, .int v_14]) (rest := []) ⟨hx, hb, hml, hown, hT⟩ (c_X12_comesTo l D cy a i r11 rl v_13 v_14 _ hRi hRr (by omega) (by omega) (by rw [ev_13, ev_14, hEr 27 (by decide), hEr 29 (by decide), hEr 30 (by decide)]; exact ((hE.2.2.2.2 x1_4.toNatClampNeg (by have h9 : x1_4.toNatClampNeg = x1_4.toInt.toNat := rfl; omega)).2 (by exact hnb)))) (cwV 2 hT (gV t_92 t_93 t_94 t_95 t_6) rfl rfl rfl (by decide +kernel) ⟨Nat.le_of_ble_eq_true rfl, Nat.le_of_ble_eq_true rfl⟩) (rQ_v hP hK hD (va_recv hK hP (ci := 12) (q0 := 0) rfl rfl)) rfl rfl hl.1 rfl (lv_room (Nat.le_of_ble_eq_true rfl)) dX12_byLaw_63 ⟨Nat.le_of_ble_eq_true rfl, Nat.le_of_ble_eq_true rfl⟩) hS (fun q _ h => hF_15 q h) hF_15 (fun r_16 u_17 t H1 locs ht hvm hr_16 hB hz1 hk1 hS => ?_)
            obtain ⟨r17, rfl⟩ : ∃ z, z = u_17 := ⟨_, rfl⟩
            obtain ⟨hP, hK1, hD1⟩ := hB
            rw [ht] at hP
            have hD := hD1.weaken (fun k q _ h => hF_15 q.1 h)
            have hP : va_P D vwCl (mW cy a i r17 rl) H1 := hP
            have hD : va_D A (mW cy a i r17 rl) := hD
            obtain ⟨hRr, hE2, hr_16⟩ := hr_16
            have hRr : mRr r17 := hRr
            have hEr : mEr [32] _ r17 := Er_tr hEr hE2 (by decide)
            refine lv_istore (lv' := [(5, .int r_16), (4, .int x1_4), (0, .ref (a 0)), (1, .int p0), (2, .int p1), (3, .int p2)]) hx hb dX12_byLaw_66 hl (by decide) rfl (fun ls hl => ?_)
            refine lv_iload hx hb dX12_byLaw_68 (lv_at hl 0 rfl) ?_
            refine lv_if_ge (tgt := 77) hx hb dX12_byLaw_70 (by decide) (fun c_18 => ?_) (fun c_18 => ?_)
            · have c_18 : 0 ≤ r_16.toInt := b_le c_18
              refine lv_iload hx hb dX12_byLaw_77 (lv_at hl 0 rfl) ?_
              refine lv_iload_n hx hb dX12_byLaw_79 rfl (lv_at hl 4 rfl) ?_
              refine lv_icmp_le (tgt := 87) hx hb dX12_byLaw_80 (by decide) (fun c_19 => ?_) (fun c_19 => ?_)
              · have c_19 : r_16.toInt ≤ p1.toInt := b_le c_19
                refine lv_iload hx hb dX12_byLaw_87 (lv_at hl 0 rfl) ?_
                subst hQ
                exact W.iret (v := r_16) hx hb hr (fun t ht hW => ⟨⟨_, r17, rfl, ⟨hRr, hEr, trivial⟩, by rw [ht]; exact hP, va_K.moved hW.alike hK, hD⟩, hS.F ht⟩) hS.2.2 dX12_byLaw_89
              · have c_19 : p1.toInt < r_16.toInt := b_nle c_19
                refine lv_iload_n hx hb dX12_byLaw_83 rfl (lv_at hl 4 rfl) ?_
                refine lv_goto (tgt := 89) hx hb dX12_byLaw_84 (by decide) ?_
                subst hQ
                exact W.iret (v := p1) hx hb hr (fun t ht hW => ⟨⟨_, r17, rfl, ⟨hRr, hEr, trivial⟩, by rw [ht]; exact hP, va_K.moved hW.alike hK, hD⟩, hS.F ht⟩) hS.2.2 dX12_byLaw_89
            · have c_18 : r_16.toInt < 0 := b_nle c_18
              refine lv_iconst (v := 0) hx hb dX12_byLaw_73 (by decide) ?_
              refine lv_goto (tgt := 89) hx hb dX12_byLaw_74 (by decide) ?_
              subst hQ
              exact W.iret (v := 0) hx hb hr (fun t ht hW => ⟨⟨_, r17, rfl, ⟨hRr, hEr, trivial⟩, by rw [ht]; exact hP, va_K.moved hW.alike hK, hD⟩, hS.F ht⟩) hS.2.2 dX12_byLaw_89
          · have c_12 : r_10.toInt ≠ 1 := b_ne c_12
            refine lv_goto (tgt := 90) hx hb dX12_byLaw_45 (by decide) ?_
            obtain ⟨x_20, ex_20⟩ : ∃ y : Int32, y = x1_4 + 1 := ⟨_, rfl⟩
            refine lv_iinc (v := x_20) (lv' := [(4, .int x_20), (0, .ref (a 0)), (1, .int p0), (2, .int p1), (3, .int p2)]) hx hb dX12_byLaw_90 hl (k := 0) rfl (by rw [ex_20]; rfl) (by decide) rfl (fun ls hl => ?_)
            have hx_20 : x_20.toInt = x1_4.toInt + 1 := by rw [ex_20]; have := b_rg x1_4; exact i_add (a := x1_4.toInt) (b := 1) rfl rfl (by omega) (by omega)
            refine lv_goto (tgt := 3) hx hb dX12_byLaw_93 (by decide) ?_
            exact ih1 x_20 r11 _ _ _ (by first | omega | (simp only [Int.toNat]; omega)) (by first | omega | decide) hRr hEr  hP hD hS (lv_sub hl [0, 1, 2, 3, 4] rfl)
  exact loop_1 _ 0 r _ _ _ (Nat.lt_succ_self _) (by first | omega | decide) hRr hEr  hP hD hS hl
set_option maxHeartbeats 4000000 in
set_option maxRecDepth 100000 in
theorem c_X12_anyB (l : Launch) (D : va_G) (cy : Nat → ClassId) (a : Nat → Nat) (i : Nat → Int32) (r : Nat → Nat → Int32) (rl : Nat → Int64) (sz : Nat) (hRi : mRi i) (hRr : mRr r) (hE : mE i r) : Met l yX12_anyB (Cond.code yX12_anyB cX12_anyB 2 (some .boolean) :: gT) { frames := 3, cells := 0, slots := 0, locals := 73 } (va_Pc [.ref (a 0)] (rQ D cy (mW cy a i r rl) sz)) (va_Qi (fun (z : Int32) (u : Nat → Nat → Int32) => mRr u ∧ mEr [32] r u ∧ (z = 0 ∨ z = 1)) (fun (u : Nat → Nat → Int32) t => va_P D vwCl (mW cy a i u rl) t.heap ∧ va_K D vwCl (vT cy) t ∧ va_D (va_A (mW cy a i r rl) sz) (mW cy a i u rl)) (va_A (mW cy a i r rl) sz)) 0 0 (va_A (mW cy a i r rl) sz) := by
  refine Met.ofQ (cc := cX12_anyB) (maxL := 2) (ret := (some .boolean)) (by decide) rfl ?_
  intro p e s m args below meth c s₁ B hml hv Q hQ
  obtain ⟨rfl, hsz, hP, hK, hD0⟩ := hv
  have hx := B.exec
  have hb := B.bytes
  have hr := B.returns
  have hlocks := B.notSynchronized
  have hT : ∀ w ∈ gT, w.before _ s = true := fun w h => atoms_spec (ws := (Cond.code yX12_anyB cX12_anyB 2 (some .boolean) :: gT)) B.pre w (List.mem_cons_of_mem _ h)
  have hown : s.vm.findClass RX12 = some m.cls := findClass_of_methodNamed B.named
  subst hsz
  have hD := hD0.self (sz := s.heap.size)
  generalize hAe : va_A (mW cy a i r rl) s.heap.size = A at hD hQ
  have hA : ∀ q : Nat, s.heap.size ≤ q → A q := fun q h => by rw [← hAe]; exact Or.inr h
  have hS : va_S A s.heap s.heap [] := va_S.rf
  have hl := lv_entry ([.ref (a 0)]) (n := 2) (Nat.le_of_ble_eq_true rfl)
  rw [lg_entry_eq]
  generalize (lg_sl ([.ref (a 0)]) ++ List.replicate (2 - (lg_sl ([.ref (a 0)])).length) Slot.unset).toArray = ls at hl ⊢
  have hl : lv_has ls 2 [(0, .ref (a 0))] := hl
  have hEi : mEi [23, 24, 25, 26, 27, 28, 29, 30, 60] i i := Ei_rf
  have hEr : mEr [32] r r := Er_rf
  refine lv_iconst (v := 0) hx hb dX12_anyB_0 (by decide) ?_
  refine lv_istore_n (lv' := [(1, .int 0), (0, .ref (a 0))]) hx hb dX12_anyB_1 rfl hl (by decide) rfl (fun ls hl => ?_)
  have loop_1 : ∀ (n : Nat) (x1_1 : Int32) (r1 : Nat → Nat → Int32) (H : Heap) (locs : List Loc) (ls : Array Slot), (14 - x1_1.toInt).toNat < n → (0 ≤ x1_1.toInt ∧ x1_1.toInt ≤ 14) → mRr r1 → mEr [32] r r1 → va_P D vwCl (mW cy a i r1 rl) H → va_D A (mW cy a i r1 rl) → va_S A s.heap H locs → lv_has ls 2 [(1, .int x1_1), (0, .ref (a 0))] → W p l e ({ frames := 3, cells := 0, slots := 0, locals := 73 } : Room) s m ([.ref (a 0)] : List Value).toArray below meth c H locs 0 0 Q (F0 m 2 ls []) := by
    intro n
    induction n with
    | zero =>
      intro x1_1 r1 H locs ls hm1 hf1_0 hRr hEr hP hD hS hl
      exact absurd hm1 (by omega)
    | succ n ih1 =>
      intro x1_1 r1 H locs ls hm1 hf1_0 hRr hEr hP hD hS hl
      refine lv_iload_n hx hb dX12_anyB_2 rfl (lv_at hl 0 rfl) ?_
      refine lv_aload_n hx hb dX12_anyB_3 rfl (lv_at hl 1 rfl) ?_
      refine va_get (D := D) (ci := 12) (v := .int (i 31)) (C := RX12) (T := TX12) (N := 91) hx hb hT iX12 hown hK hP 0 rfl rfl 31 (by decide) (hT _ t_88) (fun _ h9 => h9) rfl dX12_anyB_4 ?_
      have hg_2 : 0 ≤ (i 31).toInt ∧ (i 31).toInt ≤ 14 := hRi 31
      refine lv_icmp_ge (tgt := 49) hx hb dX12_anyB_7 (by decide) (fun c_3 => ?_) (fun c_3 => ?_)
      · have c_3 : (i 31).toInt ≤ x1_1.toInt := b_le c_3
        refine lv_iconst (v := 0) hx hb dX12_anyB_49 (by decide) ?_
        subst hQ
        exact W.zret hx hb hr rfl (fun t ht hW => ⟨⟨_, r1, rfl, ⟨hRr, hEr, Or.inl rfl⟩, by rw [ht]; exact hP, va_K.moved hW.alike hK, hD⟩, hS.F ht⟩) hS.2.2 dX12_anyB_50
      · have c_3 : x1_1.toInt < (i 31).toInt := b_nle c_3
        refine lv_aload_n hx hb dX12_anyB_10 rfl (lv_at hl 1 rfl) ?_
        refine va_get (D := D) (ci := 12) (v := .ref (a 28)) (C := RX12) (T := TX12) (N := 91) hx hb hT iX12 hown hK hP 0 rfl rfl 39 (by decide) (hT _ t_89) (fun _ h9 => h9) rfl dX12_anyB_11 ?_
        refine lv_iload_n hx hb dX12_anyB_14 rfl (lv_at hl 0 rfl) ?_
        refine va_iald hx hb hK hP 28 0 rfl rfl (vp_inI (by omega) (by omega)) dX12_anyB_15 ?_
        refine lv_topi (fun v_4 ev_4 => ?_)
        refine lv_bipush (v := 98) hx hb dX12_anyB_16 (by decide) ?_
        refine lv_icmp_ne (tgt := 43) hx hb dX12_anyB_18 (by decide) (fun c_5 => ?_) (fun c_5 => ?_)
        · have c_5 : v_4.toInt ≠ 98 := b_ne c_5
          obtain ⟨x_6, ex_6⟩ : ∃ y : Int32, y = x1_1 + 1 := ⟨_, rfl⟩
          refine lv_iinc (v := x_6) (lv' := [(1, .int x_6), (0, .ref (a 0))]) hx hb dX12_anyB_43 hl (k := 0) rfl (by rw [ex_6]; rfl) (by decide) rfl (fun ls hl => ?_)
          have hx_6 : x_6.toInt = x1_1.toInt + 1 := by rw [ex_6]; have := b_rg x1_1; exact i_add (a := x1_1.toInt) (b := 1) rfl rfl (by omega) (by omega)
          refine lv_goto (tgt := 2) hx hb dX12_anyB_46 (by decide) ?_
          exact ih1 x_6 r1 _ _ _ (by first | omega | (simp only [Int.toNat]; omega)) (by first | omega | decide) hRr hEr  hP hD hS (lv_sub hl [0, 1] rfl)
        · have c_5 : v_4.toInt = 98 := b_nne c_5
          refine lv_aload_n hx hb dX12_anyB_21 rfl (lv_at hl 1 rfl) ?_
          refine lv_aload_n hx hb dX12_anyB_22 rfl (lv_at hl 1 rfl) ?_
          refine va_get (D := D) (ci := 12) (v := .ref (a 30)) (C := RX12) (T := TX12) (N := 91) hx hb hT iX12 hown hK hP 0 rfl rfl 41 (by decide) (hT _ t_90) (fun _ h9 => h9) rfl dX12_anyB_23 ?_
          refine lv_iload_n hx hb dX12_anyB_26 rfl (lv_at hl 0 rfl) ?_
          refine va_iald hx hb hK hP 30 0 rfl rfl (vp_inI (by omega) (by omega)) dX12_anyB_27 ?_
          refine lv_topi (fun v_7 ev_7 => ?_)
          have hgv_7 : 0 ≤ v_7.toInt ∧ v_7.toInt ≤ 220 := by rw [ev_7]; exact hRr 30 _
          refine lv_aload_n hx hb dX12_anyB_28 rfl (lv_at hl 1 rfl) ?_
          refine va_get (D := D) (ci := 12) (v := .ref (a 31)) (C := RX12) (T := TX12) (N := 91) hx hb hT iX12 hown hK hP 0 rfl rfl 42 (by decide) (hT _ t_91) (fun _ h9 => h9) rfl dX12_anyB_29 ?_
          refine lv_iload_n hx hb dX12_anyB_32 rfl (lv_at hl 0 rfl) ?_
          refine va_iald hx hb hK hP 31 0 rfl rfl (vp_inI (by omega) (by omega)) dX12_anyB_33 ?_
          refine lv_topi (fun v_8 ev_8 => ?_)
          have hgv_8 : 0 ≤ v_8.toInt ∧ v_8.toInt ≤ 220 := by rw [ev_8]; exact hRr 31 _
          have hF_9 := rF hD hS hA
          refine va_calli (va_runV (As := [.int v_7, .int v_8]) (rest := []) ⟨hx, hb, hml, hown, hT⟩ (c_X12_comesTo l D cy a i r1 rl v_7 v_8 _ hRi hRr (by omega) (by omega) (by rw [ev_7, ev_8, hEr 27 (by decide), hEr 30 (by decide), hEr 31 (by decide)]; exact (hE.2.2.2.2 x1_1.toNatClampNeg (by have h9 : x1_1.toNatClampNeg = x1_1.toInt.toNat := rfl; omega)).1)) (cwV 2 hT (gV t_92 t_93 t_94 t_95 t_6) rfl rfl rfl (by decide +kernel) ⟨Nat.le_of_ble_eq_true rfl, Nat.le_of_ble_eq_true rfl⟩) (rQ_v hP hK hD (va_recv hK hP (ci := 12) (q0 := 0) rfl rfl)) rfl rfl hl.1 rfl (lv_room (Nat.le_of_ble_eq_true rfl)) dX12_anyB_34 ⟨Nat.le_of_ble_eq_true rfl, Nat.le_of_ble_eq_true rfl⟩) hS (fun q _ h => hF_9 q h) hF_9 (fun r_10 u_11 t H1 locs ht hvm hr_10 hB hz1 hk1 hS => ?_)
          obtain ⟨r11, rfl⟩ : ∃ z, z = u_11 := ⟨_, rfl⟩
          obtain ⟨hP, hK1, hD1⟩ := hB
          rw [ht] at hP
          have hD := hD1.weaken (fun k q _ h => hF_9 q.1 h)
          have hP : va_P D vwCl (mW cy a i r11 rl) H1 := hP
          have hD : va_D A (mW cy a i r11 rl) := hD
          obtain ⟨hRr, hE2, hr_10⟩ := hr_10
          have hRr : mRr r11 := hRr
          have hEr : mEr [32] _ r11 := Er_tr hEr hE2 (by decide)
          refine lv_iconst (v := 1) hx hb dX12_anyB_37 (by decide) ?_
          refine lv_icmp_ne (tgt := 43) hx hb dX12_anyB_38 (by decide) (fun c_12 => ?_) (fun c_12 => ?_)
          · have c_12 : r_10.toInt ≠ 1 := b_ne c_12
            obtain ⟨x_13, ex_13⟩ : ∃ y : Int32, y = x1_1 + 1 := ⟨_, rfl⟩
            refine lv_iinc (v := x_13) (lv' := [(1, .int x_13), (0, .ref (a 0))]) hx hb dX12_anyB_43 hl (k := 0) rfl (by rw [ex_13]; rfl) (by decide) rfl (fun ls hl => ?_)
            have hx_13 : x_13.toInt = x1_1.toInt + 1 := by rw [ex_13]; have := b_rg x1_1; exact i_add (a := x1_1.toInt) (b := 1) rfl rfl (by omega) (by omega)
            refine lv_goto (tgt := 2) hx hb dX12_anyB_46 (by decide) ?_
            exact ih1 x_13 r11 _ _ _ (by first | omega | (simp only [Int.toNat]; omega)) (by first | omega | decide) hRr hEr  hP hD hS (lv_sub hl [0, 1] rfl)
          · have c_12 : r_10.toInt = 1 := b_nne c_12
            refine lv_iconst (v := 1) hx hb dX12_anyB_41 (by decide) ?_
            subst hQ
            exact W.zret hx hb hr rfl (fun t ht hW => ⟨⟨_, r11, rfl, ⟨hRr, hEr, Or.inr rfl⟩, by rw [ht]; exact hP, va_K.moved hW.alike hK, hD⟩, hS.F ht⟩) hS.2.2 dX12_anyB_42
  exact loop_1 _ 0 r _ _ _ (Nat.lt_succ_self _) (by first | omega | decide) hRr hEr  hP hD hS hl
set_option maxHeartbeats 4000000 in
set_option maxRecDepth 100000 in
theorem c_X12_wearOf (l : Launch) (D : va_G) (cy : Nat → ClassId) (a : Nat → Nat) (i : Nat → Int32) (r : Nat → Nat → Int32) (rl : Nat → Int64) (p0 p1 : Int32) (sz : Nat) (hRi : mRi i) (hRr : mRr r) (hE : mE i r) (q0 : 0 ≤ p0.toInt ∧ p0.toInt ≤ 5) (q1 : 0 ≤ p1.toInt ∧ p1.toInt ≤ 19) (qj : jOK r p1.toNatClampNeg) : Met l yX12_wearOf (Cond.code yX12_wearOf cX12_wearOf 3 (some .int) :: gT) { frames := 4, cells := 0, slots := 0, locals := 98 } (va_Pc [.ref (a 0), .int p0, .int p1] (rQ D cy (mW cy a i r rl) sz)) (va_Qi (fun (z : Int32) (u : Nat → Nat → Int32) => mRr u ∧ mEr [32, 33] r u ∧ True) (fun (u : Nat → Nat → Int32) t => va_P D vwCl (mW cy a i u rl) t.heap ∧ va_K D vwCl (vT cy) t ∧ va_D (va_A (mW cy a i r rl) sz) (mW cy a i u rl)) (va_A (mW cy a i r rl) sz)) 0 0 (va_A (mW cy a i r rl) sz) := by
  refine Met.ofQ (cc := cX12_wearOf) (maxL := 3) (ret := (some .int)) (by decide) rfl ?_
  intro p e s m args below meth c s₁ B hml hv Q hQ
  obtain ⟨rfl, hsz, hP, hK, hD0⟩ := hv
  have hx := B.exec
  have hb := B.bytes
  have hr := B.returns
  have hlocks := B.notSynchronized
  have hT : ∀ w ∈ gT, w.before _ s = true := fun w h => atoms_spec (ws := (Cond.code yX12_wearOf cX12_wearOf 3 (some .int) :: gT)) B.pre w (List.mem_cons_of_mem _ h)
  have hown : s.vm.findClass RX12 = some m.cls := findClass_of_methodNamed B.named
  subst hsz
  have hD := hD0.self (sz := s.heap.size)
  generalize hAe : va_A (mW cy a i r rl) s.heap.size = A at hD hQ
  have hA : ∀ q : Nat, s.heap.size ≤ q → A q := fun q h => by rw [← hAe]; exact Or.inr h
  have hS : va_S A s.heap s.heap [] := va_S.rf
  have hl := lv_entry ([.ref (a 0), .int p0, .int p1]) (n := 3) (Nat.le_of_ble_eq_true rfl)
  rw [lg_entry_eq]
  generalize (lg_sl ([.ref (a 0), .int p0, .int p1]) ++ List.replicate (3 - (lg_sl ([.ref (a 0), .int p0, .int p1])).length) Slot.unset).toArray = ls at hl ⊢
  have hl : lv_has ls 3 [(0, .ref (a 0)), (1, .int p0), (2, .int p1)] := hl
  have hEi : mEi [23, 24, 25, 26, 27, 28, 29, 30, 60] i i := Ei_rf
  have hEr : mEr [32, 33] r r := Er_rf
  refine lv_aload_n hx hb dX12_wearOf_0 rfl (lv_at hl 0 rfl) ?_
  refine lv_iload_n hx hb dX12_wearOf_1 rfl (lv_at hl 1 rfl) ?_
  refine lv_iload_n hx hb dX12_wearOf_2 rfl (lv_at hl 2 rfl) ?_
  have hF_1 := rF hD hS hA
  refine va_callv (va_runV (As := [.int p0, .int p1]) (rest := []) ⟨hx, hb, hml, hown, hT⟩ (c_X12_feelsThing l D cy a i r rl p0 p1 _ hRi hRr (by omega) (by omega) qj) (cwV 2 hT (gV t_77 t_78 t_79 t_80 t_6) rfl rfl rfl (by decide +kernel) ⟨Nat.le_of_ble_eq_true rfl, Nat.le_of_ble_eq_true rfl⟩) (rQ_v hP hK hD (va_recv hK hP (ci := 12) (q0 := 0) rfl rfl)) rfl rfl hl.1 rfl (lv_room (Nat.le_of_ble_eq_true rfl)) dX12_wearOf_3 ⟨Nat.le_of_ble_eq_true rfl, Nat.le_of_ble_eq_true rfl⟩) hS (fun q _ h => hF_1 q h) hF_1 (fun u_3 t H1 locs ht hvm hr_2 hB hz1 hk1 hS => ?_)
  obtain ⟨r3, rfl⟩ : ∃ z, z = u_3 := ⟨_, rfl⟩
  obtain ⟨hP, hK1, hD1⟩ := hB
  rw [ht] at hP
  have hD := hD1.weaken (fun k q _ h => hF_1 q.1 h)
  have hP : va_P D vwCl (mW cy a i r3 rl) H1 := hP
  have hD : va_D A (mW cy a i r3 rl) := hD
  obtain ⟨hRr, hE2, hr_2⟩ := hr_2
  have hRr : mRr r3 := hRr
  have hEr : mEr [32, 33] _ r3 := Er_tr hEr hE2 (by decide)
  refine lv_aload_n hx hb dX12_wearOf_6 rfl (lv_at hl 0 rfl) ?_
  refine lv_bipush (v := 102) hx hb dX12_wearOf_7 (by decide) ?_
  refine lv_bipush (v := 9) hx hb dX12_wearOf_9 (by decide) ?_
  refine lv_iconst (v := 0) hx hb dX12_wearOf_11 (by decide) ?_
  have hF_4 := rF hD hS hA
  refine va_calli (va_runV (As := [.int 102, .int 9, .int 0]) (rest := []) ⟨hx, hb, hml, hown, hT⟩ (c_X12_byLaw l D cy a i r3 rl 102 9 0 _ hRi hRr (mE_same hEi hEr (by decide) (by decide) hE) (by first | omega | decide)) (cwV 3 hT (gV t_97 t_98 t_99 t_100 t_6) rfl rfl rfl (by decide +kernel) ⟨Nat.le_of_ble_eq_true rfl, Nat.le_of_ble_eq_true rfl⟩) (rQ_v hP hK hD (va_recv hK hP (ci := 12) (q0 := 0) rfl rfl)) rfl rfl hl.1 rfl (lv_room (Nat.le_of_ble_eq_true rfl)) dX12_wearOf_12 ⟨Nat.le_of_ble_eq_true rfl, Nat.le_of_ble_eq_true rfl⟩) hS (fun q _ h => hF_4 q h) hF_4 (fun r_5 u_6 t H1 locs ht hvm hr_5 hB hz1 hk1 hS => ?_)
  obtain ⟨r6, rfl⟩ : ∃ z, z = u_6 := ⟨_, rfl⟩
  obtain ⟨hP, hK1, hD1⟩ := hB
  rw [ht] at hP
  have hD := hD1.weaken (fun k q _ h => hF_4 q.1 h)
  have hP : va_P D vwCl (mW cy a i r6 rl) H1 := hP
  have hD : va_D A (mW cy a i r6 rl) := hD
  obtain ⟨hRr, hE2, hr_5⟩ := hr_5
  have hRr : mRr r6 := hRr
  have hEr : mEr [32, 33] _ r6 := Er_tr hEr hE2 (by decide)
  subst hQ
  exact W.iret (v := r_5) hx hb hr (fun t ht hW => ⟨⟨_, r6, rfl, ⟨hRr, hEr, trivial⟩, by rw [ht]; exact hP, va_K.moved hW.alike hK, hD⟩, hS.F ht⟩) hS.2.2 dX12_wearOf_15
set_option maxHeartbeats 4000000 in
set_option maxRecDepth 100000 in
theorem c_X12_lostOf (l : Launch) (D : va_G) (cy : Nat → ClassId) (a : Nat → Nat) (i : Nat → Int32) (r : Nat → Nat → Int32) (rl : Nat → Int64) (p0 p1 : Int32) (sz : Nat) (hRi : mRi i) (hRr : mRr r) (hE : mE i r) (q0 : 0 ≤ p0.toInt ∧ p0.toInt ≤ 5) (q1 : 0 ≤ p1.toInt ∧ p1.toInt ≤ 19) (qj : jOK r p1.toNatClampNeg) (qs : 1 ≤ (r 14 (20 * p0.toInt + p1.toInt).toNat).toInt) : Met l yX12_lostOf (Cond.code yX12_lostOf cX12_lostOf 6 (some .int) :: gT) { frames := 5, cells := 0, slots := 0, locals := 120 } (va_Pc [.ref (a 0), .int p0, .int p1] (rQ D cy (mW cy a i r rl) sz)) (va_Qi (fun (z : Int32) (u : Nat → Nat → Int32) => mRr u ∧ mEr [32, 33] r u ∧ True) (fun (u : Nat → Nat → Int32) t => va_P D vwCl (mW cy a i u rl) t.heap ∧ va_K D vwCl (vT cy) t ∧ va_D (va_A (mW cy a i r rl) sz) (mW cy a i u rl)) (va_A (mW cy a i r rl) sz)) 0 0 (va_A (mW cy a i r rl) sz) := by
  refine Met.ofQ (cc := cX12_lostOf) (maxL := 6) (ret := (some .int)) (by decide) rfl ?_
  intro p e s m args below meth c s₁ B hml hv Q hQ
  obtain ⟨rfl, hsz, hP, hK, hD0⟩ := hv
  have hx := B.exec
  have hb := B.bytes
  have hr := B.returns
  have hlocks := B.notSynchronized
  have hT : ∀ w ∈ gT, w.before _ s = true := fun w h => atoms_spec (ws := (Cond.code yX12_lostOf cX12_lostOf 6 (some .int) :: gT)) B.pre w (List.mem_cons_of_mem _ h)
  have hown : s.vm.findClass RX12 = some m.cls := findClass_of_methodNamed B.named
  subst hsz
  have hD := hD0.self (sz := s.heap.size)
  generalize hAe : va_A (mW cy a i r rl) s.heap.size = A at hD hQ
  have hA : ∀ q : Nat, s.heap.size ≤ q → A q := fun q h => by rw [← hAe]; exact Or.inr h
  have hS : va_S A s.heap s.heap [] := va_S.rf
  have hl := lv_entry ([.ref (a 0), .int p0, .int p1]) (n := 6) (Nat.le_of_ble_eq_true rfl)
  rw [lg_entry_eq]
  generalize (lg_sl ([.ref (a 0), .int p0, .int p1]) ++ List.replicate (6 - (lg_sl ([.ref (a 0), .int p0, .int p1])).length) Slot.unset).toArray = ls at hl ⊢
  have hl : lv_has ls 6 [(0, .ref (a 0)), (1, .int p0), (2, .int p1)] := hl
  have hEi : mEi [23, 24, 25, 26, 27, 28, 29, 30, 60] i i := Ei_rf
  have hEr : mEr [32, 33] r r := Er_rf
  have hJ : r 34 = r 34 := rfl
  refine lv_aload_n hx hb dX12_lostOf_0 rfl (lv_at hl 0 rfl) ?_
  refine va_get (D := D) (ci := 12) (v := .ref (a 14)) (C := RX12) (T := TX12) (N := 91) hx hb hT iX12 hown hK hP 0 rfl rfl 15 (by decide) (hT _ t_38) (fun _ h9 => h9) rfl dX12_lostOf_1 ?_
  refine lv_bipush (v := 20) hx hb dX12_lostOf_4 (by decide) ?_
  refine lv_iload_n hx hb dX12_lostOf_6 rfl (lv_at hl 1 rfl) ?_
  refine lv_imul hx hb dX12_lostOf_7 ?_
  refine lv_topi (fun v_1 ev_1 => ?_)
  have hv_1 : v_1.toInt = 20 * p0.toInt := by rw [ev_1]; have := b_rg p0; exact i_mul (a := 20) (b := p0.toInt) rfl rfl (by omega) (by omega)
  refine lv_iload_n hx hb dX12_lostOf_8 rfl (lv_at hl 2 rfl) ?_
  refine lv_iadd hx hb dX12_lostOf_9 ?_
  refine lv_topi (fun v_2 ev_2 => ?_)
  have hv_2 : v_2.toInt = v_1.toInt + p1.toInt := by rw [ev_2]; have := b_rg v_1; have := b_rg p1; exact i_add (a := v_1.toInt) (b := p1.toInt) rfl rfl (by omega) (by omega)
  refine va_iald hx hb hK hP 14 0 rfl rfl (vp_inI (by omega) (by omega)) dX12_lostOf_10 ?_
  refine lv_topi (fun v_3 ev_3 => ?_)
  have hgv_3 : 0 ≤ v_3.toInt ∧ v_3.toInt ≤ 9 := by rw [ev_3]; exact hRr 14 _
  have hwv_3 : v_3 = r 14 (((20 * p0.toInt) + p1.toInt)).toNat := by rw [ev_3]; exact congrArg (r 14) (by show v_2.toInt.toNat = _; omega)
  refine lv_istore_n (lv' := [(3, .int v_3), (0, .ref (a 0)), (1, .int p0), (2, .int p1)]) hx hb dX12_lostOf_11 rfl hl (by decide) rfl (fun ls hl => ?_)
  refine lv_iload_n hx hb dX12_lostOf_12 rfl (lv_at hl 0 rfl) ?_
  refine lv_aload_n hx hb dX12_lostOf_13 rfl (lv_at hl 1 rfl) ?_
  refine lv_iload_n hx hb dX12_lostOf_14 rfl (lv_at hl 2 rfl) ?_
  refine lv_iload_n hx hb dX12_lostOf_15 rfl (lv_at hl 3 rfl) ?_
  have hF_4 := rF hD hS hA
  refine va_calli (va_runV (As := [.int p0, .int p1]) (rest := [.int v_3]) ⟨hx, hb, hml, hown, hT⟩ (c_X12_wearOf l D cy a i r rl p0 p1 _ hRi hRr (mE_same hEi hEr (by decide) (by decide) hE) (by omega) (by omega) (jOK_ee (congrFun (hJ : (r) 34 = r 34) _) qj)) (cwV 2 hT (gV t_101 t_102 t_103 t_104 t_6) rfl rfl rfl (by decide +kernel) ⟨Nat.le_of_ble_eq_true rfl, Nat.le_of_ble_eq_true rfl⟩) (rQ_v hP hK hD (va_recv hK hP (ci := 12) (q0 := 0) rfl rfl)) rfl rfl hl.1 rfl (lv_room (Nat.le_of_ble_eq_true rfl)) dX12_lostOf_16 ⟨Nat.le_of_ble_eq_true rfl, Nat.le_of_ble_eq_true rfl⟩) hS (fun q _ h => hF_4 q h) hF_4 (fun r_5 u_6 t H1 locs ht hvm hr_5 hB hz1 hk1 hS => ?_)
  obtain ⟨r6, rfl⟩ : ∃ z, z = u_6 := ⟨_, rfl⟩
  obtain ⟨hP, hK1, hD1⟩ := hB
  rw [ht] at hP
  have hD := hD1.weaken (fun k q _ h => hF_4 q.1 h)
  have hP : va_P D vwCl (mW cy a i r6 rl) H1 := hP
  have hD : va_D A (mW cy a i r6 rl) := hD
  obtain ⟨hRr, hE2, hr_5⟩ := hr_5
  have hRr : mRr r6 := hRr
  have hEr : mEr [32, 33] _ r6 := Er_tr hEr hE2 (by decide)
  have hJ : r6 34 = r 34 := (hE2 34 (by decide)).trans hJ
  refine lv_isub hx hb dX12_lostOf_19 ?_
  refine lv_topi (fun v_7 ev_7 => ?_)
  refine lv_istore (lv' := [(4, .int v_7), (3, .int v_3), (0, .ref (a 0)), (1, .int p0), (2, .int p1)]) hx hb dX12_lostOf_20 hl (by decide) rfl (fun ls hl => ?_)
  refine lv_iload hx hb dX12_lostOf_22 (lv_at hl 0 rfl) ?_
  refine lv_if_ge (tgt := 31) hx hb dX12_lostOf_24 (by decide) (fun c_8 => ?_) (fun c_8 => ?_)
  · have c_8 : 0 ≤ v_7.toInt := b_le c_8
    refine lv_iload hx hb dX12_lostOf_31 (lv_at hl 0 rfl) ?_
    refine lv_istore (lv' := [(4, .int v_7), (3, .int v_3), (0, .ref (a 0)), (1, .int p0), (2, .int p1)]) hx hb dX12_lostOf_33 hl (by decide) rfl (fun ls hl => ?_)
    refine lv_iload hx hb dX12_lostOf_35 (lv_at hl 0 rfl) ?_
    refine lv_aload_n hx hb dX12_lostOf_37 rfl (lv_at hl 2 rfl) ?_
    refine lv_iload_n hx hb dX12_lostOf_38 rfl (lv_at hl 3 rfl) ?_
    refine lv_iload_n hx hb dX12_lostOf_39 rfl (lv_at hl 4 rfl) ?_
    refine vp_callSi (W.runV (As := [.int p0, .int p1]) (rest := [.int v_7]) ⟨hx, hb, hml, hown, hT⟩ (c_X12_stateAtLast l D cy a i r6 rl p0 p1 hRi hRr (by omega) (by omega) (jOK_ee (congrFun (hJ : (r6) 34 = r 34) _) qj)) (cwV 2 hT (gV t_34 t_35 t_36 t_37 t_6) rfl rfl rfl (by decide +kernel) ⟨Nat.le_of_ble_eq_true rfl, Nat.le_of_ble_eq_true rfl⟩) (rP_v hP hK (va_recv hK hP (ci := 12) (q0 := 0) rfl rfl)) rfl rfl hl.1 rfl (lv_room (Nat.le_of_ble_eq_true rfl)) dX12_lostOf_40 ⟨Nat.le_of_ble_eq_true rfl, Nat.le_of_ble_eq_true rfl⟩) (fun r_9 hr_9 => ?_)
    have hr_9 : 0 ≤ r_9.toInt ∧ r_9.toInt ≤ 9 := hr_9
    refine lv_isub hx hb dX12_lostOf_43 ?_
    refine lv_topi (fun v_10 ev_10 => ?_)
    have hv_10 : v_10.toInt = v_7.toInt - r_9.toInt := by rw [ev_10]; have := b_rg v_7; have := b_rg r_9; exact i_sub (a := v_7.toInt) (b := r_9.toInt) rfl rfl (by omega) (by omega)
    refine lv_istore (lv' := [(5, .int v_10), (4, .int v_7), (3, .int v_3), (0, .ref (a 0)), (1, .int p0), (2, .int p1)]) hx hb dX12_lostOf_44 hl (by decide) rfl (fun ls hl => ?_)
    refine lv_iload hx hb dX12_lostOf_46 (lv_at hl 0 rfl) ?_
    refine lv_if_gt (tgt := 55) hx hb dX12_lostOf_48 (by decide) (fun c_11 => ?_) (fun c_11 => ?_)
    · have c_11 : 0 < v_10.toInt := b_lt c_11
      refine lv_aload_n hx hb dX12_lostOf_55 rfl (lv_at hl 3 rfl) ?_
      refine lv_iload_n hx hb dX12_lostOf_56 rfl (lv_at hl 4 rfl) ?_
      refine lv_iload_n hx hb dX12_lostOf_57 rfl (lv_at hl 5 rfl) ?_
      refine lv_aload_n hx hb dX12_lostOf_58 rfl (lv_at hl 3 rfl) ?_
      refine lv_iload_n hx hb dX12_lostOf_59 rfl (lv_at hl 4 rfl) ?_
      refine lv_iload_n hx hb dX12_lostOf_60 rfl (lv_at hl 5 rfl) ?_
      refine vp_callSi (W.runV (As := [.int p0, .int p1]) (rest := [.int p1, .int p0, .ref (a 0)]) ⟨hx, hb, hml, hown, hT⟩ (c_X12_agedOf l D cy a i r6 rl p0 p1 hRi hRr (by omega) (by omega)) (cwV 2 hT (gV t_71 t_72 t_73 t_74 t_6) rfl rfl rfl (by decide +kernel) ⟨Nat.le_of_ble_eq_true rfl, Nat.le_of_ble_eq_true rfl⟩) (rP_v hP hK (va_recv hK hP (ci := 12) (q0 := 0) rfl rfl)) rfl rfl hl.1 rfl (lv_room (Nat.le_of_ble_eq_true rfl)) dX12_lostOf_61 ⟨Nat.le_of_ble_eq_true rfl, Nat.le_of_ble_eq_true rfl⟩) (fun r_12 hr_12 => ?_)
      have hr_12 : -999 ≤ r_12.toInt ∧ r_12.toInt ≤ 1359 := hr_12
      refine vp_callSi (W.runV (As := [.int p0, .int p1, .int r_12]) (rest := []) ⟨hx, hb, hml, hown, hT⟩ (c_X12_worthAt l D cy a i r6 rl p0 p1 r_12 hRi hRr (by omega) (by omega)) (cwV 3 hT (gV t_105 t_106 t_107 t_108 t_6) rfl rfl rfl (by decide +kernel) ⟨Nat.le_of_ble_eq_true rfl, Nat.le_of_ble_eq_true rfl⟩) (rP_v hP hK (va_recv hK hP (ci := 12) (q0 := 0) rfl rfl)) rfl rfl hl.1 rfl (lv_room (Nat.le_of_ble_eq_true rfl)) dX12_lostOf_64 ⟨Nat.le_of_ble_eq_true rfl, Nat.le_of_ble_eq_true rfl⟩) (fun r_13 hr_13 => ?_)
      refine lv_iload hx hb dX12_lostOf_67 (lv_at hl 0 rfl) ?_
      refine lv_imul hx hb dX12_lostOf_69 ?_
      refine lv_topi (fun v_14 ev_14 => ?_)
      refine lv_iload_n hx hb dX12_lostOf_70 rfl (lv_at hl 2 rfl) ?_
      refine lv_idiv hx hb dX12_lostOf_71 (nz (by have := congrArg Int32.toInt hwv_3; omega)) ?_
      refine lv_topi (fun v_15 ev_15 => ?_)
      subst hQ
      exact W.iret (v := v_15) hx hb hr (fun t ht hW => ⟨⟨_, r6, rfl, ⟨hRr, hEr, trivial⟩, by rw [ht]; exact hP, va_K.moved hW.alike hK, hD⟩, hS.F ht⟩) hS.2.2 dX12_lostOf_72
    · have c_11 : v_10.toInt ≤ 0 := b_nlt c_11
      refine lv_iconst (v := 0) hx hb dX12_lostOf_51 (by decide) ?_
      refine lv_goto (tgt := 72) hx hb dX12_lostOf_52 (by decide) ?_
      subst hQ
      exact W.iret (v := 0) hx hb hr (fun t ht hW => ⟨⟨_, r6, rfl, ⟨hRr, hEr, trivial⟩, by rw [ht]; exact hP, va_K.moved hW.alike hK, hD⟩, hS.F ht⟩) hS.2.2 dX12_lostOf_72
  · have c_8 : v_7.toInt < 0 := b_nle c_8
    refine lv_iconst (v := 0) hx hb dX12_lostOf_27 (by decide) ?_
    refine lv_goto (tgt := 33) hx hb dX12_lostOf_28 (by decide) ?_
    refine lv_istore (lv' := [(4, .int 0), (3, .int v_3), (0, .ref (a 0)), (1, .int p0), (2, .int p1)]) hx hb dX12_lostOf_33 hl (by decide) rfl (fun ls hl => ?_)
    refine lv_iload hx hb dX12_lostOf_35 (lv_at hl 0 rfl) ?_
    refine lv_aload_n hx hb dX12_lostOf_37 rfl (lv_at hl 2 rfl) ?_
    refine lv_iload_n hx hb dX12_lostOf_38 rfl (lv_at hl 3 rfl) ?_
    refine lv_iload_n hx hb dX12_lostOf_39 rfl (lv_at hl 4 rfl) ?_
    refine vp_callSi (W.runV (As := [.int p0, .int p1]) (rest := [.int 0]) ⟨hx, hb, hml, hown, hT⟩ (c_X12_stateAtLast l D cy a i r6 rl p0 p1 hRi hRr (by omega) (by omega) (jOK_ee (congrFun (hJ : (r6) 34 = r 34) _) qj)) (cwV 2 hT (gV t_34 t_35 t_36 t_37 t_6) rfl rfl rfl (by decide +kernel) ⟨Nat.le_of_ble_eq_true rfl, Nat.le_of_ble_eq_true rfl⟩) (rP_v hP hK (va_recv hK hP (ci := 12) (q0 := 0) rfl rfl)) rfl rfl hl.1 rfl (lv_room (Nat.le_of_ble_eq_true rfl)) dX12_lostOf_40 ⟨Nat.le_of_ble_eq_true rfl, Nat.le_of_ble_eq_true rfl⟩) (fun r_16 hr_16 => ?_)
    have hr_16 : 0 ≤ r_16.toInt ∧ r_16.toInt ≤ 9 := hr_16
    refine lv_isub hx hb dX12_lostOf_43 ?_
    refine lv_topi (fun v_17 ev_17 => ?_)
    have hv_17 : v_17.toInt = 0 - r_16.toInt := by rw [ev_17]; have := b_rg r_16; exact i_sub (a := 0) (b := r_16.toInt) rfl rfl (by omega) (by omega)
    refine lv_istore (lv' := [(5, .int v_17), (4, .int 0), (3, .int v_3), (0, .ref (a 0)), (1, .int p0), (2, .int p1)]) hx hb dX12_lostOf_44 hl (by decide) rfl (fun ls hl => ?_)
    refine lv_iload hx hb dX12_lostOf_46 (lv_at hl 0 rfl) ?_
    refine lv_if_gt (tgt := 55) hx hb dX12_lostOf_48 (by decide) (fun c_18 => by have c_18 : 0 < v_17.toInt := b_lt c_18; omega) (fun c_18 => ?_)
    have c_18 : v_17.toInt ≤ 0 := b_nlt c_18
    refine lv_iconst (v := 0) hx hb dX12_lostOf_51 (by decide) ?_
    refine lv_goto (tgt := 72) hx hb dX12_lostOf_52 (by decide) ?_
    subst hQ
    exact W.iret (v := 0) hx hb hr (fun t ht hW => ⟨⟨_, r6, rfl, ⟨hRr, hEr, trivial⟩, by rw [ht]; exact hP, va_K.moved hW.alike hK, hD⟩, hS.F ht⟩) hS.2.2 dX12_lostOf_72
