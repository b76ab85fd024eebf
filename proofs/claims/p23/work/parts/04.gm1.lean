set_option maxRecDepth 100000 in
theorem t_0 : Cond.constant RX12 233 (1000000) ∈ gT := tm (tb6 (List.mem_of_getElem? (i := 14) (by rfl))) (by decide +kernel)
set_option maxRecDepth 100000 in
theorem t_1 : Cond.code yX11_within cX11_within 3 (some .boolean) ∈ gT := tm (tb2 (List.mem_of_getElem? (i := 60) (by rfl))) (by decide +kernel)
set_option maxRecDepth 100000 in
theorem t_2 : Cond.initialized RX11 ∈ gT := tm (tb1 (List.mem_of_getElem? (i := 1) (by rfl))) (by decide +kernel)
set_option maxRecDepth 100000 in
theorem t_3 : Cond.methodLink RX11 93 yX11_within ∈ gT := tm (tb2 (List.mem_of_getElem? (i := 58) (by rfl))) (by decide +kernel)
set_option maxRecDepth 100000 in
theorem t_4 : Cond.static yX11_within ∈ gT := tm (tb2 (List.mem_of_getElem? (i := 59) (by rfl))) (by decide +kernel)
set_option maxRecDepth 100000 in
theorem t_5 : Cond.code yX12_isKind cX12_isKind 1 (some .boolean) ∈ gT := tm (tb5 (List.mem_of_getElem? (i := 238) (by rfl))) (by decide +kernel)
set_option maxRecDepth 100000 in
theorem t_6 : Cond.initialized RX12 ∈ gT := tm (tb1 (List.mem_of_getElem? (i := 11) (by rfl))) (by decide +kernel)
set_option maxRecDepth 100000 in
theorem t_7 : Cond.methodLink RX12 237 yX12_isKind ∈ gT := tm (tb5 (List.mem_of_getElem? (i := 236) (by rfl))) (by decide +kernel)
set_option maxRecDepth 100000 in
theorem t_8 : Cond.static yX12_isKind ∈ gT := tm (tb5 (List.mem_of_getElem? (i := 237) (by rfl))) (by decide +kernel)
set_option maxRecDepth 100000 in
theorem t_9 : Cond.constant RX12 489 (-1000000000) ∈ gT := tm (tb7 (List.mem_of_getElem? (i := 113) (by rfl))) (by decide +kernel)
set_option maxRecDepth 100000 in
theorem t_10 : Cond.fieldLink RX12 234 "DepositJudgeModel" "homes" "I" ∈ gT := tm (tb4 (List.mem_of_getElem? (i := 197) (by rfl))) (by decide +kernel)
set_option maxRecDepth 100000 in
theorem t_11 : Cond.fieldLink RX12 417 "DepositJudgeModel" "claims" "I" ∈ gT := tm (tb5 (List.mem_of_getElem? (i := 8) (by rfl))) (by decide +kernel)
def dl_1 : List (Nat × (Instr × Nat)) := [(0, (.iload_n 0, 1)), (1, (.iconst 0, 1)), (2, (.sipush 9999, 3)), (5, (.invokestatic 93, 3)), (8, (.ireturn, 1))]
theorem dh_1 : dchk cX11_isDay dl_1 = true := by decide +kernel
theorem dX11_isDay_0 : decode cX11_isDay 0 = .ok (.iload_n 0, 1) := dget dh_1 (k := 0) rfl
theorem dX11_isDay_1 : decode cX11_isDay 1 = .ok (.iconst 0, 1) := dget dh_1 (k := 1) rfl
theorem dX11_isDay_2 : decode cX11_isDay 2 = .ok (.sipush 9999, 3) := dget dh_1 (k := 2) rfl
theorem dX11_isDay_5 : decode cX11_isDay 5 = .ok (.invokestatic 93, 3) := dget dh_1 (k := 3) rfl
theorem dX11_isDay_8 : decode cX11_isDay 8 = .ok (.ireturn, 1) := dget dh_1 (k := 4) rfl
def dl_2 : List (Nat × (Instr × Nat)) := [(0, (.iload_n 0, 1)), (1, (.iload_n 1, 1)), (2, (.if_icmp .lt 12, 3)), (5, (.iload_n 0, 1)), (6, (.iload_n 2, 1)), (7, (.if_icmp .gt 7, 3)), (10, (.iconst 1, 1)), (11, (.goto 4, 3)), (14, (.iconst 0, 1)), (15, (.ireturn, 1))]
theorem dh_2 : dchk cX11_within dl_2 = true := by decide +kernel
theorem dX11_within_0 : decode cX11_within 0 = .ok (.iload_n 0, 1) := dget dh_2 (k := 0) rfl
theorem dX11_within_1 : decode cX11_within 1 = .ok (.iload_n 1, 1) := dget dh_2 (k := 1) rfl
theorem dX11_within_2 : decode cX11_within 2 = .ok (.if_icmp .lt 12, 3) := dget dh_2 (k := 2) rfl
theorem dX11_within_5 : decode cX11_within 5 = .ok (.iload_n 0, 1) := dget dh_2 (k := 3) rfl
theorem dX11_within_6 : decode cX11_within 6 = .ok (.iload_n 2, 1) := dget dh_2 (k := 4) rfl
theorem dX11_within_7 : decode cX11_within 7 = .ok (.if_icmp .gt 7, 3) := dget dh_2 (k := 5) rfl
theorem dX11_within_10 : decode cX11_within 10 = .ok (.iconst 1, 1) := dget dh_2 (k := 6) rfl
theorem dX11_within_11 : decode cX11_within 11 = .ok (.goto 4, 3) := dget dh_2 (k := 7) rfl
theorem dX11_within_14 : decode cX11_within 14 = .ok (.iconst 0, 1) := dget dh_2 (k := 8) rfl
theorem dX11_within_15 : decode cX11_within 15 = .ok (.ireturn, 1) := dget dh_2 (k := 9) rfl
def dl_3 : List (Nat × (Instr × Nat)) := [(0, (.iload_n 0, 1)), (1, (.tableswitch 127 97 118 #[111, 127, 121, 127, 127, 127, 118, 127, 127, 127, 103, 127, 113, 115, 109, 127, 127, 105, 107, 127, 127, 124], 103)), (104, (.iconst 0, 1)), (105, (.ireturn, 1)), (106, (.iconst 1, 1)), (107, (.ireturn, 1)), (108, (.iconst 2, 1)), (109, (.ireturn, 1)), (110, (.iconst 3, 1)), (111, (.ireturn, 1)), (112, (.iconst 4, 1)), (113, (.ireturn, 1)), (114, (.iconst 5, 1)), (115, (.ireturn, 1)), (116, (.bipush 6, 2)), (118, (.ireturn, 1)), (119, (.bipush 7, 2)), (121, (.ireturn, 1)), (122, (.bipush 8, 2)), (124, (.ireturn, 1))]
theorem dh_3 : dchk cX12_factOf dl_3 = true := by decide +kernel
theorem dX12_factOf_0 : decode cX12_factOf 0 = .ok (.iload_n 0, 1) := dget dh_3 (k := 0) rfl
theorem dX12_factOf_1 : decode cX12_factOf 1 = .ok (.tableswitch 127 97 118 #[111, 127, 121, 127, 127, 127, 118, 127, 127, 127, 103, 127, 113, 115, 109, 127, 127, 105, 107, 127, 127, 124], 103) := dget dh_3 (k := 1) rfl
theorem dX12_factOf_104 : decode cX12_factOf 104 = .ok (.iconst 0, 1) := dget dh_3 (k := 2) rfl
theorem dX12_factOf_105 : decode cX12_factOf 105 = .ok (.ireturn, 1) := dget dh_3 (k := 3) rfl
theorem dX12_factOf_106 : decode cX12_factOf 106 = .ok (.iconst 1, 1) := dget dh_3 (k := 4) rfl
theorem dX12_factOf_107 : decode cX12_factOf 107 = .ok (.ireturn, 1) := dget dh_3 (k := 5) rfl
theorem dX12_factOf_108 : decode cX12_factOf 108 = .ok (.iconst 2, 1) := dget dh_3 (k := 6) rfl
theorem dX12_factOf_109 : decode cX12_factOf 109 = .ok (.ireturn, 1) := dget dh_3 (k := 7) rfl
theorem dX12_factOf_110 : decode cX12_factOf 110 = .ok (.iconst 3, 1) := dget dh_3 (k := 8) rfl
theorem dX12_factOf_111 : decode cX12_factOf 111 = .ok (.ireturn, 1) := dget dh_3 (k := 9) rfl
theorem dX12_factOf_112 : decode cX12_factOf 112 = .ok (.iconst 4, 1) := dget dh_3 (k := 10) rfl
theorem dX12_factOf_113 : decode cX12_factOf 113 = .ok (.ireturn, 1) := dget dh_3 (k := 11) rfl
theorem dX12_factOf_114 : decode cX12_factOf 114 = .ok (.iconst 5, 1) := dget dh_3 (k := 12) rfl
theorem dX12_factOf_115 : decode cX12_factOf 115 = .ok (.ireturn, 1) := dget dh_3 (k := 13) rfl
theorem dX12_factOf_116 : decode cX12_factOf 116 = .ok (.bipush 6, 2) := dget dh_3 (k := 14) rfl
theorem dX12_factOf_118 : decode cX12_factOf 118 = .ok (.ireturn, 1) := dget dh_3 (k := 15) rfl
theorem dX12_factOf_119 : decode cX12_factOf 119 = .ok (.bipush 7, 2) := dget dh_3 (k := 16) rfl
theorem dX12_factOf_121 : decode cX12_factOf 121 = .ok (.ireturn, 1) := dget dh_3 (k := 17) rfl
theorem dX12_factOf_122 : decode cX12_factOf 122 = .ok (.bipush 8, 2) := dget dh_3 (k := 18) rfl
theorem dX12_factOf_124 : decode cX12_factOf 124 = .ok (.ireturn, 1) := dget dh_3 (k := 19) rfl
def dl_4 : List (Nat × (Instr × Nat)) := [(125, (.bipush 9, 2)), (127, (.ireturn, 1)), (128, (.iconst (-1), 1)), (129, (.ireturn, 1))]
theorem dh_4 : dchk cX12_factOf dl_4 = true := by decide +kernel
theorem dX12_factOf_125 : decode cX12_factOf 125 = .ok (.bipush 9, 2) := dget dh_4 (k := 0) rfl
theorem dX12_factOf_127 : decode cX12_factOf 127 = .ok (.ireturn, 1) := dget dh_4 (k := 1) rfl
theorem dX12_factOf_128 : decode cX12_factOf 128 = .ok (.iconst (-1), 1) := dget dh_4 (k := 2) rfl
theorem dX12_factOf_129 : decode cX12_factOf 129 = .ok (.ireturn, 1) := dget dh_4 (k := 3) rfl
def dl_5 : List (Nat × (Instr × Nat)) := [(0, (.iload_n 0, 1)), (1, (.iload_n 1, 1)), (2, (.if_icmp .lt 12, 3)), (5, (.iload_n 0, 1)), (6, (.iload_n 2, 1)), (7, (.if_icmp .gt 7, 3)), (10, (.iconst 1, 1)), (11, (.goto 4, 3)), (14, (.iconst 0, 1)), (15, (.ireturn, 1))]
theorem dh_5 : dchk cX12_in dl_5 = true := by decide +kernel
theorem dX12_in_0 : decode cX12_in 0 = .ok (.iload_n 0, 1) := dget dh_5 (k := 0) rfl
theorem dX12_in_1 : decode cX12_in 1 = .ok (.iload_n 1, 1) := dget dh_5 (k := 1) rfl
theorem dX12_in_2 : decode cX12_in 2 = .ok (.if_icmp .lt 12, 3) := dget dh_5 (k := 2) rfl
theorem dX12_in_5 : decode cX12_in 5 = .ok (.iload_n 0, 1) := dget dh_5 (k := 3) rfl
theorem dX12_in_6 : decode cX12_in 6 = .ok (.iload_n 2, 1) := dget dh_5 (k := 4) rfl
theorem dX12_in_7 : decode cX12_in 7 = .ok (.if_icmp .gt 7, 3) := dget dh_5 (k := 5) rfl
theorem dX12_in_10 : decode cX12_in 10 = .ok (.iconst 1, 1) := dget dh_5 (k := 6) rfl
theorem dX12_in_11 : decode cX12_in 11 = .ok (.goto 4, 3) := dget dh_5 (k := 7) rfl
theorem dX12_in_14 : decode cX12_in 14 = .ok (.iconst 0, 1) := dget dh_5 (k := 8) rfl
theorem dX12_in_15 : decode cX12_in 15 = .ok (.ireturn, 1) := dget dh_5 (k := 9) rfl
def dl_6 : List (Nat × (Instr × Nat)) := [(0, (.iload_n 1, 1)), (1, (.ifCond .lt 15, 3)), (4, (.iload_n 1, 1)), (5, (.aload_n 0, 1)), (6, (.getfield 417, 3)), (9, (.if_icmp .ge 7, 3)), (12, (.iconst 1, 1)), (13, (.goto 4, 3)), (16, (.iconst 0, 1)), (17, (.ireturn, 1))]
theorem dh_6 : dchk cX12_isClaim dl_6 = true := by decide +kernel
theorem dX12_isClaim_0 : decode cX12_isClaim 0 = .ok (.iload_n 1, 1) := dget dh_6 (k := 0) rfl
theorem dX12_isClaim_1 : decode cX12_isClaim 1 = .ok (.ifCond .lt 15, 3) := dget dh_6 (k := 1) rfl
theorem dX12_isClaim_4 : decode cX12_isClaim 4 = .ok (.iload_n 1, 1) := dget dh_6 (k := 2) rfl
theorem dX12_isClaim_5 : decode cX12_isClaim 5 = .ok (.aload_n 0, 1) := dget dh_6 (k := 3) rfl
theorem dX12_isClaim_6 : decode cX12_isClaim 6 = .ok (.getfield 417, 3) := dget dh_6 (k := 4) rfl
theorem dX12_isClaim_9 : decode cX12_isClaim 9 = .ok (.if_icmp .ge 7, 3) := dget dh_6 (k := 5) rfl
theorem dX12_isClaim_12 : decode cX12_isClaim 12 = .ok (.iconst 1, 1) := dget dh_6 (k := 6) rfl
theorem dX12_isClaim_13 : decode cX12_isClaim 13 = .ok (.goto 4, 3) := dget dh_6 (k := 7) rfl
theorem dX12_isClaim_16 : decode cX12_isClaim 16 = .ok (.iconst 0, 1) := dget dh_6 (k := 8) rfl
theorem dX12_isClaim_17 : decode cX12_isClaim 17 = .ok (.ireturn, 1) := dget dh_6 (k := 9) rfl
def dl_7 : List (Nat × (Instr × Nat)) := [(0, (.iload_n 0, 1)), (1, (.ifCond .lt 14, 3)), (4, (.iload_n 0, 1)), (5, (.sipush 10000, 3)), (8, (.if_icmp .ge 7, 3)), (11, (.iconst 1, 1)), (12, (.goto 4, 3)), (15, (.iconst 0, 1)), (16, (.ireturn, 1))]
theorem dh_7 : dchk cX12_isDay dl_7 = true := by decide +kernel
theorem dX12_isDay_0 : decode cX12_isDay 0 = .ok (.iload_n 0, 1) := dget dh_7 (k := 0) rfl
theorem dX12_isDay_1 : decode cX12_isDay 1 = .ok (.ifCond .lt 14, 3) := dget dh_7 (k := 1) rfl
theorem dX12_isDay_4 : decode cX12_isDay 4 = .ok (.iload_n 0, 1) := dget dh_7 (k := 2) rfl
theorem dX12_isDay_5 : decode cX12_isDay 5 = .ok (.sipush 10000, 3) := dget dh_7 (k := 3) rfl
theorem dX12_isDay_8 : decode cX12_isDay 8 = .ok (.if_icmp .ge 7, 3) := dget dh_7 (k := 4) rfl
theorem dX12_isDay_11 : decode cX12_isDay 11 = .ok (.iconst 1, 1) := dget dh_7 (k := 5) rfl
theorem dX12_isDay_12 : decode cX12_isDay 12 = .ok (.goto 4, 3) := dget dh_7 (k := 6) rfl
theorem dX12_isDay_15 : decode cX12_isDay 15 = .ok (.iconst 0, 1) := dget dh_7 (k := 7) rfl
theorem dX12_isDay_16 : decode cX12_isDay 16 = .ok (.ireturn, 1) := dget dh_7 (k := 8) rfl
def dl_8 : List (Nat × (Instr × Nat)) := [(0, (.iload_n 1, 1)), (1, (.ifCond .lt 15, 3)), (4, (.iload_n 1, 1)), (5, (.aload_n 0, 1)), (6, (.getfield 234, 3)), (9, (.if_icmp .ge 7, 3)), (12, (.iconst 1, 1)), (13, (.goto 4, 3)), (16, (.iconst 0, 1)), (17, (.ireturn, 1))]
theorem dh_8 : dchk cX12_isHome dl_8 = true := by decide +kernel
theorem dX12_isHome_0 : decode cX12_isHome 0 = .ok (.iload_n 1, 1) := dget dh_8 (k := 0) rfl
theorem dX12_isHome_1 : decode cX12_isHome 1 = .ok (.ifCond .lt 15, 3) := dget dh_8 (k := 1) rfl
theorem dX12_isHome_4 : decode cX12_isHome 4 = .ok (.iload_n 1, 1) := dget dh_8 (k := 2) rfl
theorem dX12_isHome_5 : decode cX12_isHome 5 = .ok (.aload_n 0, 1) := dget dh_8 (k := 3) rfl
theorem dX12_isHome_6 : decode cX12_isHome 6 = .ok (.getfield 234, 3) := dget dh_8 (k := 4) rfl
theorem dX12_isHome_9 : decode cX12_isHome 9 = .ok (.if_icmp .ge 7, 3) := dget dh_8 (k := 5) rfl
theorem dX12_isHome_12 : decode cX12_isHome 12 = .ok (.iconst 1, 1) := dget dh_8 (k := 6) rfl
theorem dX12_isHome_13 : decode cX12_isHome 13 = .ok (.goto 4, 3) := dget dh_8 (k := 7) rfl
theorem dX12_isHome_16 : decode cX12_isHome 16 = .ok (.iconst 0, 1) := dget dh_8 (k := 8) rfl
theorem dX12_isHome_17 : decode cX12_isHome 17 = .ok (.ireturn, 1) := dget dh_8 (k := 9) rfl
def dl_9 : List (Nat × (Instr × Nat)) := [(0, (.iload_n 0, 1)), (1, (.ifCond .lt 13, 3)), (4, (.iload_n 0, 1)), (5, (.bipush 6, 2)), (7, (.if_icmp .ge 7, 3)), (10, (.iconst 1, 1)), (11, (.goto 4, 3)), (14, (.iconst 0, 1)), (15, (.ireturn, 1))]
theorem dh_9 : dchk cX12_isJudge dl_9 = true := by decide +kernel
theorem dX12_isJudge_0 : decode cX12_isJudge 0 = .ok (.iload_n 0, 1) := dget dh_9 (k := 0) rfl
theorem dX12_isJudge_1 : decode cX12_isJudge 1 = .ok (.ifCond .lt 13, 3) := dget dh_9 (k := 1) rfl
theorem dX12_isJudge_4 : decode cX12_isJudge 4 = .ok (.iload_n 0, 1) := dget dh_9 (k := 2) rfl
theorem dX12_isJudge_5 : decode cX12_isJudge 5 = .ok (.bipush 6, 2) := dget dh_9 (k := 3) rfl
theorem dX12_isJudge_7 : decode cX12_isJudge 7 = .ok (.if_icmp .ge 7, 3) := dget dh_9 (k := 4) rfl
theorem dX12_isJudge_10 : decode cX12_isJudge 10 = .ok (.iconst 1, 1) := dget dh_9 (k := 5) rfl
theorem dX12_isJudge_11 : decode cX12_isJudge 11 = .ok (.goto 4, 3) := dget dh_9 (k := 6) rfl
theorem dX12_isJudge_14 : decode cX12_isJudge 14 = .ok (.iconst 0, 1) := dget dh_9 (k := 7) rfl
theorem dX12_isJudge_15 : decode cX12_isJudge 15 = .ok (.ireturn, 1) := dget dh_9 (k := 8) rfl
def dl_10 : List (Nat × (Instr × Nat)) := [(0, (.iload_n 0, 1)), (1, (.ifCond .lt 13, 3)), (4, (.iload_n 0, 1)), (5, (.bipush 8, 2)), (7, (.if_icmp .ge 7, 3)), (10, (.iconst 1, 1)), (11, (.goto 4, 3)), (14, (.iconst 0, 1)), (15, (.ireturn, 1))]
theorem dh_10 : dchk cX12_isKind dl_10 = true := by decide +kernel
theorem dX12_isKind_0 : decode cX12_isKind 0 = .ok (.iload_n 0, 1) := dget dh_10 (k := 0) rfl
theorem dX12_isKind_1 : decode cX12_isKind 1 = .ok (.ifCond .lt 13, 3) := dget dh_10 (k := 1) rfl
theorem dX12_isKind_4 : decode cX12_isKind 4 = .ok (.iload_n 0, 1) := dget dh_10 (k := 2) rfl
theorem dX12_isKind_5 : decode cX12_isKind 5 = .ok (.bipush 8, 2) := dget dh_10 (k := 3) rfl
theorem dX12_isKind_7 : decode cX12_isKind 7 = .ok (.if_icmp .ge 7, 3) := dget dh_10 (k := 4) rfl
theorem dX12_isKind_10 : decode cX12_isKind 10 = .ok (.iconst 1, 1) := dget dh_10 (k := 5) rfl
theorem dX12_isKind_11 : decode cX12_isKind 11 = .ok (.goto 4, 3) := dget dh_10 (k := 6) rfl
theorem dX12_isKind_14 : decode cX12_isKind 14 = .ok (.iconst 0, 1) := dget dh_10 (k := 7) rfl
theorem dX12_isKind_15 : decode cX12_isKind 15 = .ok (.ireturn, 1) := dget dh_10 (k := 8) rfl
def dl_11 : List (Nat × (Instr × Nat)) := [(0, (.iload_n 0, 1)), (1, (.ifCond .lt 13, 3)), (4, (.iload_n 0, 1)), (5, (.ldc 233, 2)), (7, (.if_icmp .ge 7, 3)), (10, (.iconst 1, 1)), (11, (.goto 4, 3)), (14, (.iconst 0, 1)), (15, (.ireturn, 1))]
theorem dh_11 : dchk cX12_isPence dl_11 = true := by decide +kernel
theorem dX12_isPence_0 : decode cX12_isPence 0 = .ok (.iload_n 0, 1) := dget dh_11 (k := 0) rfl
theorem dX12_isPence_1 : decode cX12_isPence 1 = .ok (.ifCond .lt 13, 3) := dget dh_11 (k := 1) rfl
theorem dX12_isPence_4 : decode cX12_isPence 4 = .ok (.iload_n 0, 1) := dget dh_11 (k := 2) rfl
theorem dX12_isPence_5 : decode cX12_isPence 5 = .ok (.ldc 233, 2) := dget dh_11 (k := 3) rfl
theorem dX12_isPence_7 : decode cX12_isPence 7 = .ok (.if_icmp .ge 7, 3) := dget dh_11 (k := 4) rfl
theorem dX12_isPence_10 : decode cX12_isPence 10 = .ok (.iconst 1, 1) := dget dh_11 (k := 5) rfl
theorem dX12_isPence_11 : decode cX12_isPence 11 = .ok (.goto 4, 3) := dget dh_11 (k := 6) rfl
theorem dX12_isPence_14 : decode cX12_isPence 14 = .ok (.iconst 0, 1) := dget dh_11 (k := 7) rfl
theorem dX12_isPence_15 : decode cX12_isPence 15 = .ok (.ireturn, 1) := dget dh_11 (k := 8) rfl
def dl_12 : List (Nat × (Instr × Nat)) := [(0, (.iload_n 0, 1)), (1, (.ifCond .lt 30, 3)), (4, (.iload_n 0, 1)), (5, (.bipush 10, 2)), (7, (.if_icmp .ge 24, 3)), (10, (.iload_n 1, 1)), (11, (.invokestatic 237, 3)), (14, (.ifCond .eq 17, 3)), (17, (.iload_n 2, 1)), (18, (.ifCond .le 13, 3)), (21, (.iload_n 2, 1)), (22, (.bipush 10, 2)), (24, (.if_icmp .ge 7, 3)), (27, (.iconst 1, 1)), (28, (.goto 4, 3)), (31, (.iconst 0, 1)), (32, (.ireturn, 1))]
theorem dh_12 : dchk cX12_isThing dl_12 = true := by decide +kernel
theorem dX12_isThing_0 : decode cX12_isThing 0 = .ok (.iload_n 0, 1) := dget dh_12 (k := 0) rfl
theorem dX12_isThing_1 : decode cX12_isThing 1 = .ok (.ifCond .lt 30, 3) := dget dh_12 (k := 1) rfl
theorem dX12_isThing_4 : decode cX12_isThing 4 = .ok (.iload_n 0, 1) := dget dh_12 (k := 2) rfl
theorem dX12_isThing_5 : decode cX12_isThing 5 = .ok (.bipush 10, 2) := dget dh_12 (k := 3) rfl
theorem dX12_isThing_7 : decode cX12_isThing 7 = .ok (.if_icmp .ge 24, 3) := dget dh_12 (k := 4) rfl
theorem dX12_isThing_10 : decode cX12_isThing 10 = .ok (.iload_n 1, 1) := dget dh_12 (k := 5) rfl
theorem dX12_isThing_11 : decode cX12_isThing 11 = .ok (.invokestatic 237, 3) := dget dh_12 (k := 6) rfl
theorem dX12_isThing_14 : decode cX12_isThing 14 = .ok (.ifCond .eq 17, 3) := dget dh_12 (k := 7) rfl
theorem dX12_isThing_17 : decode cX12_isThing 17 = .ok (.iload_n 2, 1) := dget dh_12 (k := 8) rfl
theorem dX12_isThing_18 : decode cX12_isThing 18 = .ok (.ifCond .le 13, 3) := dget dh_12 (k := 9) rfl
theorem dX12_isThing_21 : decode cX12_isThing 21 = .ok (.iload_n 2, 1) := dget dh_12 (k := 10) rfl
theorem dX12_isThing_22 : decode cX12_isThing 22 = .ok (.bipush 10, 2) := dget dh_12 (k := 11) rfl
theorem dX12_isThing_24 : decode cX12_isThing 24 = .ok (.if_icmp .ge 7, 3) := dget dh_12 (k := 12) rfl
theorem dX12_isThing_27 : decode cX12_isThing 27 = .ok (.iconst 1, 1) := dget dh_12 (k := 13) rfl
theorem dX12_isThing_28 : decode cX12_isThing 28 = .ok (.goto 4, 3) := dget dh_12 (k := 14) rfl
theorem dX12_isThing_31 : decode cX12_isThing 31 = .ok (.iconst 0, 1) := dget dh_12 (k := 15) rfl
theorem dX12_isThing_32 : decode cX12_isThing 32 = .ok (.ireturn, 1) := dget dh_12 (k := 16) rfl
def dl_13 : List (Nat × (Instr × Nat)) := [(0, (.iload_n 0, 1)), (1, (.ifCond .ge 8, 3)), (4, (.iload_n 0, 1)), (5, (.ineg, 1)), (6, (.goto 4, 3)), (9, (.iload_n 0, 1)), (10, (.ireturn, 1))]
theorem dh_13 : dchk cX12_size dl_13 = true := by decide +kernel
theorem dX12_size_0 : decode cX12_size 0 = .ok (.iload_n 0, 1) := dget dh_13 (k := 0) rfl
theorem dX12_size_1 : decode cX12_size 1 = .ok (.ifCond .ge 8, 3) := dget dh_13 (k := 1) rfl
theorem dX12_size_4 : decode cX12_size 4 = .ok (.iload_n 0, 1) := dget dh_13 (k := 2) rfl
theorem dX12_size_5 : decode cX12_size 5 = .ok (.ineg, 1) := dget dh_13 (k := 3) rfl
theorem dX12_size_6 : decode cX12_size 6 = .ok (.goto 4, 3) := dget dh_13 (k := 4) rfl
theorem dX12_size_9 : decode cX12_size 9 = .ok (.iload_n 0, 1) := dget dh_13 (k := 5) rfl
theorem dX12_size_10 : decode cX12_size 10 = .ok (.ireturn, 1) := dget dh_13 (k := 6) rfl
def dl_14 : List (Nat × (Instr × Nat)) := [(0, (.iload_n 0, 1)), (1, (.ldc_w 489, 3)), (4, (.if_icmp .eq 10, 3)), (7, (.iload_n 1, 1)), (8, (.ldc_w 489, 3)), (11, (.if_icmp .ne 9, 3)), (14, (.ldc_w 489, 3)), (17, (.goto 6, 3)), (20, (.iload_n 0, 1)), (21, (.iload_n 1, 1)), (22, (.iadd, 1)), (23, (.ireturn, 1))]
theorem dh_14 : dchk cX12_sum dl_14 = true := by decide +kernel
theorem dX12_sum_0 : decode cX12_sum 0 = .ok (.iload_n 0, 1) := dget dh_14 (k := 0) rfl
theorem dX12_sum_1 : decode cX12_sum 1 = .ok (.ldc_w 489, 3) := dget dh_14 (k := 1) rfl
theorem dX12_sum_4 : decode cX12_sum 4 = .ok (.if_icmp .eq 10, 3) := dget dh_14 (k := 2) rfl
theorem dX12_sum_7 : decode cX12_sum 7 = .ok (.iload_n 1, 1) := dget dh_14 (k := 3) rfl
theorem dX12_sum_8 : decode cX12_sum 8 = .ok (.ldc_w 489, 3) := dget dh_14 (k := 4) rfl
theorem dX12_sum_11 : decode cX12_sum 11 = .ok (.if_icmp .ne 9, 3) := dget dh_14 (k := 5) rfl
theorem dX12_sum_14 : decode cX12_sum 14 = .ok (.ldc_w 489, 3) := dget dh_14 (k := 6) rfl
theorem dX12_sum_17 : decode cX12_sum 17 = .ok (.goto 6, 3) := dget dh_14 (k := 7) rfl
theorem dX12_sum_20 : decode cX12_sum 20 = .ok (.iload_n 0, 1) := dget dh_14 (k := 8) rfl
theorem dX12_sum_21 : decode cX12_sum 21 = .ok (.iload_n 1, 1) := dget dh_14 (k := 9) rfl
theorem dX12_sum_22 : decode cX12_sum 22 = .ok (.iadd, 1) := dget dh_14 (k := 10) rfl
theorem dX12_sum_23 : decode cX12_sum 23 = .ok (.ireturn, 1) := dget dh_14 (k := 11) rfl
def dl_15 : List (Nat × (Instr × Nat)) := [(0, (.iload_n 0, 1)), (1, (.bipush 43, 2)), (3, (.if_icmp .ne 7, 3)), (6, (.iconst 2, 1)), (7, (.goto 45, 3)), (10, (.iload_n 0, 1)), (11, (.bipush 45, 2)), (13, (.if_icmp .ne 7, 3)), (16, (.iconst 3, 1)), (17, (.goto 35, 3)), (20, (.iload_n 0, 1)), (21, (.bipush 42, 2)), (23, (.if_icmp .ne 7, 3)), (26, (.iconst 4, 1)), (27, (.goto 25, 3)), (30, (.iload_n 0, 1)), (31, (.bipush 47, 2)), (33, (.if_icmp .ne 7, 3)), (36, (.iconst 5, 1)), (37, (.goto 15, 3))]
theorem dh_15 : dchk cX12_sumSign dl_15 = true := by decide +kernel
theorem dX12_sumSign_0 : decode cX12_sumSign 0 = .ok (.iload_n 0, 1) := dget dh_15 (k := 0) rfl
theorem dX12_sumSign_1 : decode cX12_sumSign 1 = .ok (.bipush 43, 2) := dget dh_15 (k := 1) rfl
theorem dX12_sumSign_3 : decode cX12_sumSign 3 = .ok (.if_icmp .ne 7, 3) := dget dh_15 (k := 2) rfl
theorem dX12_sumSign_6 : decode cX12_sumSign 6 = .ok (.iconst 2, 1) := dget dh_15 (k := 3) rfl
theorem dX12_sumSign_7 : decode cX12_sumSign 7 = .ok (.goto 45, 3) := dget dh_15 (k := 4) rfl
theorem dX12_sumSign_10 : decode cX12_sumSign 10 = .ok (.iload_n 0, 1) := dget dh_15 (k := 5) rfl
theorem dX12_sumSign_11 : decode cX12_sumSign 11 = .ok (.bipush 45, 2) := dget dh_15 (k := 6) rfl
theorem dX12_sumSign_13 : decode cX12_sumSign 13 = .ok (.if_icmp .ne 7, 3) := dget dh_15 (k := 7) rfl
theorem dX12_sumSign_16 : decode cX12_sumSign 16 = .ok (.iconst 3, 1) := dget dh_15 (k := 8) rfl
theorem dX12_sumSign_17 : decode cX12_sumSign 17 = .ok (.goto 35, 3) := dget dh_15 (k := 9) rfl
theorem dX12_sumSign_20 : decode cX12_sumSign 20 = .ok (.iload_n 0, 1) := dget dh_15 (k := 10) rfl
theorem dX12_sumSign_21 : decode cX12_sumSign 21 = .ok (.bipush 42, 2) := dget dh_15 (k := 11) rfl
theorem dX12_sumSign_23 : decode cX12_sumSign 23 = .ok (.if_icmp .ne 7, 3) := dget dh_15 (k := 12) rfl
theorem dX12_sumSign_26 : decode cX12_sumSign 26 = .ok (.iconst 4, 1) := dget dh_15 (k := 13) rfl
theorem dX12_sumSign_27 : decode cX12_sumSign 27 = .ok (.goto 25, 3) := dget dh_15 (k := 14) rfl
theorem dX12_sumSign_30 : decode cX12_sumSign 30 = .ok (.iload_n 0, 1) := dget dh_15 (k := 15) rfl
theorem dX12_sumSign_31 : decode cX12_sumSign 31 = .ok (.bipush 47, 2) := dget dh_15 (k := 16) rfl
theorem dX12_sumSign_33 : decode cX12_sumSign 33 = .ok (.if_icmp .ne 7, 3) := dget dh_15 (k := 17) rfl
theorem dX12_sumSign_36 : decode cX12_sumSign 36 = .ok (.iconst 5, 1) := dget dh_15 (k := 18) rfl
theorem dX12_sumSign_37 : decode cX12_sumSign 37 = .ok (.goto 15, 3) := dget dh_15 (k := 19) rfl
def dl_16 : List (Nat × (Instr × Nat)) := [(40, (.iload_n 0, 1)), (41, (.bipush 37, 2)), (43, (.if_icmp .ne 8, 3)), (46, (.bipush 6, 2)), (48, (.goto 4, 3)), (51, (.iconst (-1), 1)), (52, (.ireturn, 1))]
theorem dh_16 : dchk cX12_sumSign dl_16 = true := by decide +kernel
theorem dX12_sumSign_40 : decode cX12_sumSign 40 = .ok (.iload_n 0, 1) := dget dh_16 (k := 0) rfl
theorem dX12_sumSign_41 : decode cX12_sumSign 41 = .ok (.bipush 37, 2) := dget dh_16 (k := 1) rfl
theorem dX12_sumSign_43 : decode cX12_sumSign 43 = .ok (.if_icmp .ne 8, 3) := dget dh_16 (k := 2) rfl
theorem dX12_sumSign_46 : decode cX12_sumSign 46 = .ok (.bipush 6, 2) := dget dh_16 (k := 3) rfl
theorem dX12_sumSign_48 : decode cX12_sumSign 48 = .ok (.goto 4, 3) := dget dh_16 (k := 4) rfl
theorem dX12_sumSign_51 : decode cX12_sumSign 51 = .ok (.iconst (-1), 1) := dget dh_16 (k := 5) rfl
theorem dX12_sumSign_52 : decode cX12_sumSign 52 = .ok (.ireturn, 1) := dget dh_16 (k := 6) rfl
set_option maxHeartbeats 4000000 in
set_option maxRecDepth 100000 in
theorem c_X12_in (l : Launch) (p0 p1 p2 : Int32) : Met l yX12_in (Cond.code yX12_in cX12_in 3 (some .boolean) :: gT) { frames := 1, cells := 0, slots := 0, locals := 24 } (va_Pc [.int p0, .int p1, .int p2] (fun _ => True)) (vp_Si (fun z => BR z (p1.toInt ≤ p0.toInt ∧ p0.toInt ≤ p2.toInt) 1 0)) 0 0 (fun _ => False) := by
  refine Met.ofQ (cc := cX12_in) (maxL := 3) (ret := (some .boolean)) (by decide) rfl ?_
  intro p e s m args below meth c s₁ B hml hv Q hQ
  obtain ⟨rfl, -⟩ := hv
  have hx := B.exec
  have hb := B.bytes
  have hr := B.returns
  have hlocks := B.notSynchronized
  have hT : ∀ w ∈ gT, w.before _ s = true := fun w h => atoms_spec (ws := (Cond.code yX12_in cX12_in 3 (some .boolean) :: gT)) B.pre w (List.mem_cons_of_mem _ h)
  have hown : s.vm.findClass RX12 = some m.cls := findClass_of_methodNamed B.named
  have hl := lv_entry ([.int p0, .int p1, .int p2]) (n := 3) (Nat.le_of_ble_eq_true rfl)
  rw [lg_entry_eq]
  generalize (lg_sl ([.int p0, .int p1, .int p2]) ++ List.replicate (3 - (lg_sl ([.int p0, .int p1, .int p2])).length) Slot.unset).toArray = ls at hl ⊢
  have hl : lv_has ls 3 [(0, .int p0), (1, .int p1), (2, .int p2)] := hl
  refine lv_iload_n hx hb dX12_in_0 rfl (lv_at hl 0 rfl) ?_
  refine lv_iload_n hx hb dX12_in_1 rfl (lv_at hl 1 rfl) ?_
  refine lv_icmp_lt (tgt := 14) hx hb dX12_in_2 (by decide) (fun c_1 => ?_) (fun c_1 => ?_)
  · have c_1 : p0.toInt < p1.toInt := b_lt c_1
    refine lv_iconst (v := 0) hx hb dX12_in_14 (by decide) ?_
    subst hQ
    exact W.zret hx hb hr rfl (fun t ht hW => ⟨_, rfl, Or.inr ⟨rfl, by omega⟩, ht⟩) (fun q hq => absurd hq List.not_mem_nil) dX12_in_15
  · have c_1 : p1.toInt ≤ p0.toInt := b_nlt c_1
    refine lv_iload_n hx hb dX12_in_5 rfl (lv_at hl 0 rfl) ?_
    refine lv_iload_n hx hb dX12_in_6 rfl (lv_at hl 2 rfl) ?_
    refine lv_icmp_gt (tgt := 14) hx hb dX12_in_7 (by decide) (fun c_2 => ?_) (fun c_2 => ?_)
    · have c_2 : p2.toInt < p0.toInt := b_lt c_2
      refine lv_iconst (v := 0) hx hb dX12_in_14 (by decide) ?_
      subst hQ
      exact W.zret hx hb hr rfl (fun t ht hW => ⟨_, rfl, Or.inr ⟨rfl, by omega⟩, ht⟩) (fun q hq => absurd hq List.not_mem_nil) dX12_in_15
    · have c_2 : p0.toInt ≤ p2.toInt := b_nlt c_2
      refine lv_iconst (v := 1) hx hb dX12_in_10 (by decide) ?_
      refine lv_goto (tgt := 15) hx hb dX12_in_11 (by decide) ?_
      subst hQ
      exact W.zret hx hb hr rfl (fun t ht hW => ⟨_, rfl, Or.inl ⟨rfl, by omega⟩, ht⟩) (fun q hq => absurd hq List.not_mem_nil) dX12_in_15
set_option maxHeartbeats 4000000 in
set_option maxRecDepth 100000 in
theorem c_X12_isKind (l : Launch) (p0 : Int32) : Met l yX12_isKind (Cond.code yX12_isKind cX12_isKind 1 (some .boolean) :: gT) { frames := 1, cells := 0, slots := 0, locals := 24 } (va_Pc [.int p0] (fun _ => True)) (vp_Si (fun z => BR z (0 ≤ p0.toInt ∧ p0.toInt ≤ 7) 1 0)) 0 0 (fun _ => False) := by
  refine Met.ofQ (cc := cX12_isKind) (maxL := 1) (ret := (some .boolean)) (by decide) rfl ?_
  intro p e s m args below meth c s₁ B hml hv Q hQ
  obtain ⟨rfl, -⟩ := hv
  have hx := B.exec
  have hb := B.bytes
  have hr := B.returns
  have hlocks := B.notSynchronized
  have hT : ∀ w ∈ gT, w.before _ s = true := fun w h => atoms_spec (ws := (Cond.code yX12_isKind cX12_isKind 1 (some .boolean) :: gT)) B.pre w (List.mem_cons_of_mem _ h)
  have hown : s.vm.findClass RX12 = some m.cls := findClass_of_methodNamed B.named
  have hl := lv_entry ([.int p0]) (n := 1) (Nat.le_of_ble_eq_true rfl)
  rw [lg_entry_eq]
  generalize (lg_sl ([.int p0]) ++ List.replicate (1 - (lg_sl ([.int p0])).length) Slot.unset).toArray = ls at hl ⊢
  have hl : lv_has ls 1 [(0, .int p0)] := hl
  refine lv_iload_n hx hb dX12_isKind_0 rfl (lv_at hl 0 rfl) ?_
  refine lv_if_lt (tgt := 14) hx hb dX12_isKind_1 (by decide) (fun c_1 => ?_) (fun c_1 => ?_)
  · have c_1 : p0.toInt < 0 := b_lt c_1
    refine lv_iconst (v := 0) hx hb dX12_isKind_14 (by decide) ?_
    subst hQ
    exact W.zret hx hb hr rfl (fun t ht hW => ⟨_, rfl, Or.inr ⟨rfl, by omega⟩, ht⟩) (fun q hq => absurd hq List.not_mem_nil) dX12_isKind_15
  · have c_1 : 0 ≤ p0.toInt := b_nlt c_1
    refine lv_iload_n hx hb dX12_isKind_4 rfl (lv_at hl 0 rfl) ?_
    refine lv_bipush (v := 8) hx hb dX12_isKind_5 (by decide) ?_
    refine lv_icmp_ge (tgt := 14) hx hb dX12_isKind_7 (by decide) (fun c_2 => ?_) (fun c_2 => ?_)
    · have c_2 : 8 ≤ p0.toInt := b_le c_2
      refine lv_iconst (v := 0) hx hb dX12_isKind_14 (by decide) ?_
      subst hQ
      exact W.zret hx hb hr rfl (fun t ht hW => ⟨_, rfl, Or.inr ⟨rfl, by omega⟩, ht⟩) (fun q hq => absurd hq List.not_mem_nil) dX12_isKind_15
    · have c_2 : p0.toInt < 8 := b_nle c_2
      refine lv_iconst (v := 1) hx hb dX12_isKind_10 (by decide) ?_
      refine lv_goto (tgt := 15) hx hb dX12_isKind_11 (by decide) ?_
      subst hQ
      exact W.zret hx hb hr rfl (fun t ht hW => ⟨_, rfl, Or.inl ⟨rfl, by omega⟩, ht⟩) (fun q hq => absurd hq List.not_mem_nil) dX12_isKind_15
set_option maxHeartbeats 4000000 in
set_option maxRecDepth 100000 in
theorem c_X12_isPence (l : Launch) (p0 : Int32) : Met l yX12_isPence (Cond.code yX12_isPence cX12_isPence 1 (some .boolean) :: gT) { frames := 1, cells := 0, slots := 0, locals := 24 } (va_Pc [.int p0] (fun _ => True)) (vp_Si (fun z => BR z (0 ≤ p0.toInt ∧ p0.toInt ≤ 999999) 1 0)) 0 0 (fun _ => False) := by
  refine Met.ofQ (cc := cX12_isPence) (maxL := 1) (ret := (some .boolean)) (by decide) rfl ?_
  intro p e s m args below meth c s₁ B hml hv Q hQ
  obtain ⟨rfl, -⟩ := hv
  have hx := B.exec
  have hb := B.bytes
  have hr := B.returns
  have hlocks := B.notSynchronized
  have hT : ∀ w ∈ gT, w.before _ s = true := fun w h => atoms_spec (ws := (Cond.code yX12_isPence cX12_isPence 1 (some .boolean) :: gT)) B.pre w (List.mem_cons_of_mem _ h)
  have hown : s.vm.findClass RX12 = some m.cls := findClass_of_methodNamed B.named
  have hl := lv_entry ([.int p0]) (n := 1) (Nat.le_of_ble_eq_true rfl)
  rw [lg_entry_eq]
  generalize (lg_sl ([.int p0]) ++ List.replicate (1 - (lg_sl ([.int p0])).length) Slot.unset).toArray = ls at hl ⊢
  have hl : lv_has ls 1 [(0, .int p0)] := hl
  refine lv_iload_n hx hb dX12_isPence_0 rfl (lv_at hl 0 rfl) ?_
  refine lv_if_lt (tgt := 14) hx hb dX12_isPence_1 (by decide) (fun c_1 => ?_) (fun c_1 => ?_)
  · have c_1 : p0.toInt < 0 := b_lt c_1
    refine lv_iconst (v := 0) hx hb dX12_isPence_14 (by decide) ?_
    subst hQ
    exact W.zret hx hb hr rfl (fun t ht hW => ⟨_, rfl, Or.inr ⟨rfl, by omega⟩, ht⟩) (fun q hq => absurd hq List.not_mem_nil) dX12_isPence_15
  · have c_1 : 0 ≤ p0.toInt := b_nlt c_1
    refine lv_iload_n hx hb dX12_isPence_4 rfl (lv_at hl 0 rfl) ?_
    refine lv_ldc (v := 1000000) hx hb hown (hT _ t_0) dX12_isPence_5 ?_
    refine lv_icmp_ge (tgt := 14) hx hb dX12_isPence_7 (by decide) (fun c_2 => ?_) (fun c_2 => ?_)
    · have c_2 : 1000000 ≤ p0.toInt := b_le c_2
      refine lv_iconst (v := 0) hx hb dX12_isPence_14 (by decide) ?_
      subst hQ
      exact W.zret hx hb hr rfl (fun t ht hW => ⟨_, rfl, Or.inr ⟨rfl, by omega⟩, ht⟩) (fun q hq => absurd hq List.not_mem_nil) dX12_isPence_15
    · have c_2 : p0.toInt < 1000000 := b_nle c_2
      refine lv_iconst (v := 1) hx hb dX12_isPence_10 (by decide) ?_
      refine lv_goto (tgt := 15) hx hb dX12_isPence_11 (by decide) ?_
      subst hQ
      exact W.zret hx hb hr rfl (fun t ht hW => ⟨_, rfl, Or.inl ⟨rfl, by omega⟩, ht⟩) (fun q hq => absurd hq List.not_mem_nil) dX12_isPence_15
set_option maxHeartbeats 4000000 in
set_option maxRecDepth 100000 in
theorem c_X12_isDay (l : Launch) (p0 : Int32) : Met l yX12_isDay (Cond.code yX12_isDay cX12_isDay 1 (some .boolean) :: gT) { frames := 1, cells := 0, slots := 0, locals := 24 } (va_Pc [.int p0] (fun _ => True)) (vp_Si (fun z => BR z (0 ≤ p0.toInt ∧ p0.toInt ≤ 9999) 1 0)) 0 0 (fun _ => False) := by
  refine Met.ofQ (cc := cX12_isDay) (maxL := 1) (ret := (some .boolean)) (by decide) rfl ?_
  intro p e s m args below meth c s₁ B hml hv Q hQ
  obtain ⟨rfl, -⟩ := hv
  have hx := B.exec
  have hb := B.bytes
  have hr := B.returns
  have hlocks := B.notSynchronized
  have hT : ∀ w ∈ gT, w.before _ s = true := fun w h => atoms_spec (ws := (Cond.code yX12_isDay cX12_isDay 1 (some .boolean) :: gT)) B.pre w (List.mem_cons_of_mem _ h)
  have hown : s.vm.findClass RX12 = some m.cls := findClass_of_methodNamed B.named
  have hl := lv_entry ([.int p0]) (n := 1) (Nat.le_of_ble_eq_true rfl)
  rw [lg_entry_eq]
  generalize (lg_sl ([.int p0]) ++ List.replicate (1 - (lg_sl ([.int p0])).length) Slot.unset).toArray = ls at hl ⊢
  have hl : lv_has ls 1 [(0, .int p0)] := hl
  refine lv_iload_n hx hb dX12_isDay_0 rfl (lv_at hl 0 rfl) ?_
  refine lv_if_lt (tgt := 15) hx hb dX12_isDay_1 (by decide) (fun c_1 => ?_) (fun c_1 => ?_)
  · have c_1 : p0.toInt < 0 := b_lt c_1
    refine lv_iconst (v := 0) hx hb dX12_isDay_15 (by decide) ?_
    subst hQ
    exact W.zret hx hb hr rfl (fun t ht hW => ⟨_, rfl, Or.inr ⟨rfl, by omega⟩, ht⟩) (fun q hq => absurd hq List.not_mem_nil) dX12_isDay_16
  · have c_1 : 0 ≤ p0.toInt := b_nlt c_1
    refine lv_iload_n hx hb dX12_isDay_4 rfl (lv_at hl 0 rfl) ?_
    refine lv_sipush (v := 10000) hx hb dX12_isDay_5 (by decide) ?_
    refine lv_icmp_ge (tgt := 15) hx hb dX12_isDay_8 (by decide) (fun c_2 => ?_) (fun c_2 => ?_)
    · have c_2 : 10000 ≤ p0.toInt := b_le c_2
      refine lv_iconst (v := 0) hx hb dX12_isDay_15 (by decide) ?_
      subst hQ
      exact W.zret hx hb hr rfl (fun t ht hW => ⟨_, rfl, Or.inr ⟨rfl, by omega⟩, ht⟩) (fun q hq => absurd hq List.not_mem_nil) dX12_isDay_16
    · have c_2 : p0.toInt < 10000 := b_nle c_2
      refine lv_iconst (v := 1) hx hb dX12_isDay_11 (by decide) ?_
      refine lv_goto (tgt := 16) hx hb dX12_isDay_12 (by decide) ?_
      subst hQ
      exact W.zret hx hb hr rfl (fun t ht hW => ⟨_, rfl, Or.inl ⟨rfl, by omega⟩, ht⟩) (fun q hq => absurd hq List.not_mem_nil) dX12_isDay_16
set_option maxHeartbeats 4000000 in
set_option maxRecDepth 100000 in
theorem c_X12_isJudge (l : Launch) (p0 : Int32) : Met l yX12_isJudge (Cond.code yX12_isJudge cX12_isJudge 1 (some .boolean) :: gT) { frames := 1, cells := 0, slots := 0, locals := 24 } (va_Pc [.int p0] (fun _ => True)) (vp_Si (fun z => BR z (0 ≤ p0.toInt ∧ p0.toInt ≤ 5) 1 0)) 0 0 (fun _ => False) := by
  refine Met.ofQ (cc := cX12_isJudge) (maxL := 1) (ret := (some .boolean)) (by decide) rfl ?_
  intro p e s m args below meth c s₁ B hml hv Q hQ
  obtain ⟨rfl, -⟩ := hv
  have hx := B.exec
  have hb := B.bytes
  have hr := B.returns
  have hlocks := B.notSynchronized
  have hT : ∀ w ∈ gT, w.before _ s = true := fun w h => atoms_spec (ws := (Cond.code yX12_isJudge cX12_isJudge 1 (some .boolean) :: gT)) B.pre w (List.mem_cons_of_mem _ h)
  have hown : s.vm.findClass RX12 = some m.cls := findClass_of_methodNamed B.named
  have hl := lv_entry ([.int p0]) (n := 1) (Nat.le_of_ble_eq_true rfl)
  rw [lg_entry_eq]
  generalize (lg_sl ([.int p0]) ++ List.replicate (1 - (lg_sl ([.int p0])).length) Slot.unset).toArray = ls at hl ⊢
  have hl : lv_has ls 1 [(0, .int p0)] := hl
  refine lv_iload_n hx hb dX12_isJudge_0 rfl (lv_at hl 0 rfl) ?_
  refine lv_if_lt (tgt := 14) hx hb dX12_isJudge_1 (by decide) (fun c_1 => ?_) (fun c_1 => ?_)
  · have c_1 : p0.toInt < 0 := b_lt c_1
    refine lv_iconst (v := 0) hx hb dX12_isJudge_14 (by decide) ?_
    subst hQ
    exact W.zret hx hb hr rfl (fun t ht hW => ⟨_, rfl, Or.inr ⟨rfl, by omega⟩, ht⟩) (fun q hq => absurd hq List.not_mem_nil) dX12_isJudge_15
  · have c_1 : 0 ≤ p0.toInt := b_nlt c_1
    refine lv_iload_n hx hb dX12_isJudge_4 rfl (lv_at hl 0 rfl) ?_
    refine lv_bipush (v := 6) hx hb dX12_isJudge_5 (by decide) ?_
    refine lv_icmp_ge (tgt := 14) hx hb dX12_isJudge_7 (by decide) (fun c_2 => ?_) (fun c_2 => ?_)
    · have c_2 : 6 ≤ p0.toInt := b_le c_2
      refine lv_iconst (v := 0) hx hb dX12_isJudge_14 (by decide) ?_
      subst hQ
      exact W.zret hx hb hr rfl (fun t ht hW => ⟨_, rfl, Or.inr ⟨rfl, by omega⟩, ht⟩) (fun q hq => absurd hq List.not_mem_nil) dX12_isJudge_15
    · have c_2 : p0.toInt < 6 := b_nle c_2
      refine lv_iconst (v := 1) hx hb dX12_isJudge_10 (by decide) ?_
      refine lv_goto (tgt := 15) hx hb dX12_isJudge_11 (by decide) ?_
      subst hQ
      exact W.zret hx hb hr rfl (fun t ht hW => ⟨_, rfl, Or.inl ⟨rfl, by omega⟩, ht⟩) (fun q hq => absurd hq List.not_mem_nil) dX12_isJudge_15
set_option maxHeartbeats 4000000 in
set_option maxRecDepth 100000 in
theorem c_X11_within (l : Launch) (p0 p1 p2 : Int32) : Met l yX11_within (Cond.code yX11_within cX11_within 3 (some .boolean) :: gT) { frames := 1, cells := 0, slots := 0, locals := 24 } (va_Pc [.int p0, .int p1, .int p2] (fun _ => True)) (vp_Si (fun z => BR z (p1.toInt ≤ p0.toInt ∧ p0.toInt ≤ p2.toInt) 1 0)) 0 0 (fun _ => False) := by
  refine Met.ofQ (cc := cX11_within) (maxL := 3) (ret := (some .boolean)) (by decide) rfl ?_
  intro p e s m args below meth c s₁ B hml hv Q hQ
  obtain ⟨rfl, -⟩ := hv
  have hx := B.exec
  have hb := B.bytes
  have hr := B.returns
  have hlocks := B.notSynchronized
  have hT : ∀ w ∈ gT, w.before _ s = true := fun w h => atoms_spec (ws := (Cond.code yX11_within cX11_within 3 (some .boolean) :: gT)) B.pre w (List.mem_cons_of_mem _ h)
  have hown : s.vm.findClass RX11 = some m.cls := findClass_of_methodNamed B.named
  have hl := lv_entry ([.int p0, .int p1, .int p2]) (n := 3) (Nat.le_of_ble_eq_true rfl)
  rw [lg_entry_eq]
  generalize (lg_sl ([.int p0, .int p1, .int p2]) ++ List.replicate (3 - (lg_sl ([.int p0, .int p1, .int p2])).length) Slot.unset).toArray = ls at hl ⊢
  have hl : lv_has ls 3 [(0, .int p0), (1, .int p1), (2, .int p2)] := hl
  refine lv_iload_n hx hb dX11_within_0 rfl (lv_at hl 0 rfl) ?_
  refine lv_iload_n hx hb dX11_within_1 rfl (lv_at hl 1 rfl) ?_
  refine lv_icmp_lt (tgt := 14) hx hb dX11_within_2 (by decide) (fun c_1 => ?_) (fun c_1 => ?_)
  · have c_1 : p0.toInt < p1.toInt := b_lt c_1
    refine lv_iconst (v := 0) hx hb dX11_within_14 (by decide) ?_
    subst hQ
    exact W.zret hx hb hr rfl (fun t ht hW => ⟨_, rfl, Or.inr ⟨rfl, by omega⟩, ht⟩) (fun q hq => absurd hq List.not_mem_nil) dX11_within_15
  · have c_1 : p1.toInt ≤ p0.toInt := b_nlt c_1
    refine lv_iload_n hx hb dX11_within_5 rfl (lv_at hl 0 rfl) ?_
    refine lv_iload_n hx hb dX11_within_6 rfl (lv_at hl 2 rfl) ?_
    refine lv_icmp_gt (tgt := 14) hx hb dX11_within_7 (by decide) (fun c_2 => ?_) (fun c_2 => ?_)
    · have c_2 : p2.toInt < p0.toInt := b_lt c_2
      refine lv_iconst (v := 0) hx hb dX11_within_14 (by decide) ?_
      subst hQ
      exact W.zret hx hb hr rfl (fun t ht hW => ⟨_, rfl, Or.inr ⟨rfl, by omega⟩, ht⟩) (fun q hq => absurd hq List.not_mem_nil) dX11_within_15
    · have c_2 : p0.toInt ≤ p2.toInt := b_nlt c_2
      refine lv_iconst (v := 1) hx hb dX11_within_10 (by decide) ?_
      refine lv_goto (tgt := 15) hx hb dX11_within_11 (by decide) ?_
      subst hQ
      exact W.zret hx hb hr rfl (fun t ht hW => ⟨_, rfl, Or.inl ⟨rfl, by omega⟩, ht⟩) (fun q hq => absurd hq List.not_mem_nil) dX11_within_15
set_option maxHeartbeats 4000000 in
set_option maxRecDepth 100000 in
theorem c_X11_isDay (l : Launch) (p0 : Int32) : Met l yX11_isDay (Cond.code yX11_isDay cX11_isDay 1 (some .boolean) :: gT) { frames := 2, cells := 0, slots := 0, locals := 46 } (va_Pc [.int p0] (fun _ => True)) (vp_Si (fun z => BR z (0 ≤ p0.toInt ∧ p0.toInt ≤ 9999) 1 0)) 0 0 (fun _ => False) := by
  refine Met.ofQ (cc := cX11_isDay) (maxL := 1) (ret := (some .boolean)) (by decide) rfl ?_
  intro p e s m args below meth c s₁ B hml hv Q hQ
  obtain ⟨rfl, -⟩ := hv
  have hx := B.exec
  have hb := B.bytes
  have hr := B.returns
  have hlocks := B.notSynchronized
  have hT : ∀ w ∈ gT, w.before _ s = true := fun w h => atoms_spec (ws := (Cond.code yX11_isDay cX11_isDay 1 (some .boolean) :: gT)) B.pre w (List.mem_cons_of_mem _ h)
  have hown : s.vm.findClass RX11 = some m.cls := findClass_of_methodNamed B.named
  have hl := lv_entry ([.int p0]) (n := 1) (Nat.le_of_ble_eq_true rfl)
  rw [lg_entry_eq]
  generalize (lg_sl ([.int p0]) ++ List.replicate (1 - (lg_sl ([.int p0])).length) Slot.unset).toArray = ls at hl ⊢
  have hl : lv_has ls 1 [(0, .int p0)] := hl
  refine lv_iload_n hx hb dX11_isDay_0 rfl (lv_at hl 0 rfl) ?_
  refine lv_iconst (v := 0) hx hb dX11_isDay_1 (by decide) ?_
  refine lv_sipush (v := 9999) hx hb dX11_isDay_2 (by decide) ?_
  refine vp_callSi (W.runS (As := [.int p0, .int 0, .int 9999]) (rest := []) ⟨hx, hb, hml, hown, hT⟩ (c_X11_within l p0 0 9999) (va_cwS 3 hT (gS t_1 t_3 t_4 t_2) rfl rfl rfl (by decide +kernel) ⟨Nat.le_of_ble_eq_true rfl, Nat.le_of_ble_eq_true rfl⟩) preT rfl rfl hl.1 rfl (lv_room (Nat.le_of_ble_eq_true rfl)) dX11_isDay_5 ⟨Nat.le_of_ble_eq_true rfl, Nat.le_of_ble_eq_true rfl⟩) (fun r_1 hr_1 => ?_)
  have hr_1 : BR r_1 (0 ≤ p0.toInt ∧ p0.toInt ≤ 9999) 1 0 := hr_1
  rcases hr_1 with ⟨rfl, h_2⟩ | ⟨rfl, h_2⟩
  · skip
    subst hQ
    exact W.zret hx hb hr rfl (fun t ht hW => ⟨_, rfl, Or.inl ⟨rfl, by omega⟩, ht⟩) (fun q hq => absurd hq List.not_mem_nil) dX11_isDay_8
  · skip
    subst hQ
    exact W.zret hx hb hr rfl (fun t ht hW => ⟨_, rfl, Or.inr ⟨rfl, by omega⟩, ht⟩) (fun q hq => absurd hq List.not_mem_nil) dX11_isDay_8
set_option maxHeartbeats 4000000 in
set_option maxRecDepth 100000 in
theorem c_X12_size (l : Launch) (p0 : Int32) : Met l yX12_size (Cond.code yX12_size cX12_size 1 (some .int) :: gT) { frames := 1, cells := 0, slots := 0, locals := 24 } (va_Pc [.int p0] (fun _ => True)) (vp_Si (fun z => True)) 0 0 (fun _ => False) := by
  refine Met.ofQ (cc := cX12_size) (maxL := 1) (ret := (some .int)) (by decide) rfl ?_
  intro p e s m args below meth c s₁ B hml hv Q hQ
  obtain ⟨rfl, -⟩ := hv
  have hx := B.exec
  have hb := B.bytes
  have hr := B.returns
  have hlocks := B.notSynchronized
  have hT : ∀ w ∈ gT, w.before _ s = true := fun w h => atoms_spec (ws := (Cond.code yX12_size cX12_size 1 (some .int) :: gT)) B.pre w (List.mem_cons_of_mem _ h)
  have hown : s.vm.findClass RX12 = some m.cls := findClass_of_methodNamed B.named
  have hl := lv_entry ([.int p0]) (n := 1) (Nat.le_of_ble_eq_true rfl)
  rw [lg_entry_eq]
  generalize (lg_sl ([.int p0]) ++ List.replicate (1 - (lg_sl ([.int p0])).length) Slot.unset).toArray = ls at hl ⊢
  have hl : lv_has ls 1 [(0, .int p0)] := hl
  refine lv_iload_n hx hb dX12_size_0 rfl (lv_at hl 0 rfl) ?_
  refine lv_if_ge (tgt := 9) hx hb dX12_size_1 (by decide) (fun c_1 => ?_) (fun c_1 => ?_)
  · have c_1 : 0 ≤ p0.toInt := b_le c_1
    refine lv_iload_n hx hb dX12_size_9 rfl (lv_at hl 0 rfl) ?_
    subst hQ
    exact W.iret (v := p0) hx hb hr (fun t ht hW => ⟨_, rfl, trivial, ht⟩) (fun q hq => absurd hq List.not_mem_nil) dX12_size_10
  · have c_1 : p0.toInt < 0 := b_nle c_1
    refine lv_iload_n hx hb dX12_size_4 rfl (lv_at hl 0 rfl) ?_
    refine lv_ineg hx hb dX12_size_5 ?_
    refine lv_topi (fun v_2 ev_2 => ?_)
    refine lv_goto (tgt := 10) hx hb dX12_size_6 (by decide) ?_
    subst hQ
    exact W.iret (v := v_2) hx hb hr (fun t ht hW => ⟨_, rfl, trivial, ht⟩) (fun q hq => absurd hq List.not_mem_nil) dX12_size_10
set_option maxHeartbeats 4000000 in
set_option maxRecDepth 100000 in
theorem c_X12_isThing (l : Launch) (p0 p1 p2 : Int32) : Met l yX12_isThing (Cond.code yX12_isThing cX12_isThing 3 (some .boolean) :: gT) { frames := 2, cells := 0, slots := 0, locals := 44 } (va_Pc [.int p0, .int p1, .int p2] (fun _ => True)) (vp_Si (fun z => BR z ((0 ≤ p0.toInt ∧ p0.toInt ≤ 9) ∧ (0 ≤ p1.toInt ∧ p1.toInt ≤ 7) ∧ (1 ≤ p2.toInt ∧ p2.toInt ≤ 9)) 1 0)) 0 0 (fun _ => False) := by
  refine Met.ofQ (cc := cX12_isThing) (maxL := 3) (ret := (some .boolean)) (by decide) rfl ?_
  intro p e s m args below meth c s₁ B hml hv Q hQ
  obtain ⟨rfl, -⟩ := hv
  have hx := B.exec
  have hb := B.bytes
  have hr := B.returns
  have hlocks := B.notSynchronized
  have hT : ∀ w ∈ gT, w.before _ s = true := fun w h => atoms_spec (ws := (Cond.code yX12_isThing cX12_isThing 3 (some .boolean) :: gT)) B.pre w (List.mem_cons_of_mem _ h)
  have hown : s.vm.findClass RX12 = some m.cls := findClass_of_methodNamed B.named
  have hl := lv_entry ([.int p0, .int p1, .int p2]) (n := 3) (Nat.le_of_ble_eq_true rfl)
  rw [lg_entry_eq]
  generalize (lg_sl ([.int p0, .int p1, .int p2]) ++ List.replicate (3 - (lg_sl ([.int p0, .int p1, .int p2])).length) Slot.unset).toArray = ls at hl ⊢
  have hl : lv_has ls 3 [(0, .int p0), (1, .int p1), (2, .int p2)] := hl
  refine lv_iload_n hx hb dX12_isThing_0 rfl (lv_at hl 0 rfl) ?_
  refine lv_if_lt (tgt := 31) hx hb dX12_isThing_1 (by decide) (fun c_1 => ?_) (fun c_1 => ?_)
  · have c_1 : p0.toInt < 0 := b_lt c_1
    refine lv_iconst (v := 0) hx hb dX12_isThing_31 (by decide) ?_
    subst hQ
    exact W.zret hx hb hr rfl (fun t ht hW => ⟨_, rfl, Or.inr ⟨rfl, by omega⟩, ht⟩) (fun q hq => absurd hq List.not_mem_nil) dX12_isThing_32
  · have c_1 : 0 ≤ p0.toInt := b_nlt c_1
    refine lv_iload_n hx hb dX12_isThing_4 rfl (lv_at hl 0 rfl) ?_
    refine lv_bipush (v := 10) hx hb dX12_isThing_5 (by decide) ?_
    refine lv_icmp_ge (tgt := 31) hx hb dX12_isThing_7 (by decide) (fun c_2 => ?_) (fun c_2 => ?_)
    · have c_2 : 10 ≤ p0.toInt := b_le c_2
      refine lv_iconst (v := 0) hx hb dX12_isThing_31 (by decide) ?_
      subst hQ
      exact W.zret hx hb hr rfl (fun t ht hW => ⟨_, rfl, Or.inr ⟨rfl, by omega⟩, ht⟩) (fun q hq => absurd hq List.not_mem_nil) dX12_isThing_32
    · have c_2 : p0.toInt < 10 := b_nle c_2
      refine lv_iload_n hx hb dX12_isThing_10 rfl (lv_at hl 1 rfl) ?_
      refine vp_callSi (W.runS (As := [.int p1]) (rest := []) ⟨hx, hb, hml, hown, hT⟩ (c_X12_isKind l p1) (va_cwS 1 hT (gS t_5 t_7 t_8 t_6) rfl rfl rfl (by decide +kernel) ⟨Nat.le_of_ble_eq_true rfl, Nat.le_of_ble_eq_true rfl⟩) preT rfl rfl hl.1 rfl (lv_room (Nat.le_of_ble_eq_true rfl)) dX12_isThing_11 ⟨Nat.le_of_ble_eq_true rfl, Nat.le_of_ble_eq_true rfl⟩) (fun r_3 hr_3 => ?_)
      have hr_3 : BR r_3 (0 ≤ p1.toInt ∧ p1.toInt ≤ 7) 1 0 := hr_3
      rcases hr_3 with ⟨rfl, h_4⟩ | ⟨rfl, h_4⟩
      · skip
        refine lv_if_eq (tgt := 31) hx hb dX12_isThing_14 (by decide) (fun c_5 => absurd c_5 (by decide)) (fun c_5 => ?_)
        refine lv_iload_n hx hb dX12_isThing_17 rfl (lv_at hl 2 rfl) ?_
        refine lv_if_le (tgt := 31) hx hb dX12_isThing_18 (by decide) (fun c_6 => ?_) (fun c_6 => ?_)
        · have c_6 : p2.toInt ≤ 0 := b_le c_6
          refine lv_iconst (v := 0) hx hb dX12_isThing_31 (by decide) ?_
          subst hQ
          exact W.zret hx hb hr rfl (fun t ht hW => ⟨_, rfl, Or.inr ⟨rfl, by omega⟩, ht⟩) (fun q hq => absurd hq List.not_mem_nil) dX12_isThing_32
        · have c_6 : 0 < p2.toInt := b_nle c_6
          refine lv_iload_n hx hb dX12_isThing_21 rfl (lv_at hl 2 rfl) ?_
          refine lv_bipush (v := 10) hx hb dX12_isThing_22 (by decide) ?_
          refine lv_icmp_ge (tgt := 31) hx hb dX12_isThing_24 (by decide) (fun c_7 => ?_) (fun c_7 => ?_)
          · have c_7 : 10 ≤ p2.toInt := b_le c_7
            refine lv_iconst (v := 0) hx hb dX12_isThing_31 (by decide) ?_
            subst hQ
            exact W.zret hx hb hr rfl (fun t ht hW => ⟨_, rfl, Or.inr ⟨rfl, by omega⟩, ht⟩) (fun q hq => absurd hq List.not_mem_nil) dX12_isThing_32
          · have c_7 : p2.toInt < 10 := b_nle c_7
            refine lv_iconst (v := 1) hx hb dX12_isThing_27 (by decide) ?_
            refine lv_goto (tgt := 32) hx hb dX12_isThing_28 (by decide) ?_
            subst hQ
            exact W.zret hx hb hr rfl (fun t ht hW => ⟨_, rfl, Or.inl ⟨rfl, by omega⟩, ht⟩) (fun q hq => absurd hq List.not_mem_nil) dX12_isThing_32
      · skip
        refine lv_if_eq (tgt := 31) hx hb dX12_isThing_14 (by decide) (fun c_8 => ?_) (fun c_8 => absurd (by decide) c_8)
        refine lv_iconst (v := 0) hx hb dX12_isThing_31 (by decide) ?_
        subst hQ
        exact W.zret hx hb hr rfl (fun t ht hW => ⟨_, rfl, Or.inr ⟨rfl, by omega⟩, ht⟩) (fun q hq => absurd hq List.not_mem_nil) dX12_isThing_32
set_option maxHeartbeats 4000000 in
set_option maxRecDepth 100000 in
theorem c_X12_sum (l : Launch) (p0 p1 : Int32) : Met l yX12_sum (Cond.code yX12_sum cX12_sum 2 (some .int) :: gT) { frames := 1, cells := 0, slots := 0, locals := 24 } (va_Pc [.int p0, .int p1] (fun _ => True)) (vp_Si (fun z => True)) 0 0 (fun _ => False) := by
  refine Met.ofQ (cc := cX12_sum) (maxL := 2) (ret := (some .int)) (by decide) rfl ?_
  intro p e s m args below meth c s₁ B hml hv Q hQ
  obtain ⟨rfl, -⟩ := hv
  have hx := B.exec
  have hb := B.bytes
  have hr := B.returns
  have hlocks := B.notSynchronized
  have hT : ∀ w ∈ gT, w.before _ s = true := fun w h => atoms_spec (ws := (Cond.code yX12_sum cX12_sum 2 (some .int) :: gT)) B.pre w (List.mem_cons_of_mem _ h)
  have hown : s.vm.findClass RX12 = some m.cls := findClass_of_methodNamed B.named
  have hl := lv_entry ([.int p0, .int p1]) (n := 2) (Nat.le_of_ble_eq_true rfl)
  rw [lg_entry_eq]
  generalize (lg_sl ([.int p0, .int p1]) ++ List.replicate (2 - (lg_sl ([.int p0, .int p1])).length) Slot.unset).toArray = ls at hl ⊢
  have hl : lv_has ls 2 [(0, .int p0), (1, .int p1)] := hl
  refine lv_iload_n hx hb dX12_sum_0 rfl (lv_at hl 0 rfl) ?_
  refine lv_ldcw (v := (-1000000000)) hx hb hown (hT _ t_9) dX12_sum_1 ?_
  refine lv_icmp_eq (tgt := 14) hx hb dX12_sum_4 (by decide) (fun c_1 => ?_) (fun c_1 => ?_)
  · have c_1 : p0.toInt = (-1000000000) := b_eq c_1
    refine lv_ldcw (v := (-1000000000)) hx hb hown (hT _ t_9) dX12_sum_14 ?_
    refine lv_goto (tgt := 23) hx hb dX12_sum_17 (by decide) ?_
    subst hQ
    exact W.iret (v := (-1000000000)) hx hb hr (fun t ht hW => ⟨_, rfl, trivial, ht⟩) (fun q hq => absurd hq List.not_mem_nil) dX12_sum_23
  · have c_1 : p0.toInt ≠ (-1000000000) := b_ne c_1
    refine lv_iload_n hx hb dX12_sum_7 rfl (lv_at hl 1 rfl) ?_
    refine lv_ldcw (v := (-1000000000)) hx hb hown (hT _ t_9) dX12_sum_8 ?_
    refine lv_icmp_ne (tgt := 20) hx hb dX12_sum_11 (by decide) (fun c_2 => ?_) (fun c_2 => ?_)
    · have c_2 : p1.toInt ≠ (-1000000000) := b_ne c_2
      refine lv_iload_n hx hb dX12_sum_20 rfl (lv_at hl 0 rfl) ?_
      refine lv_iload_n hx hb dX12_sum_21 rfl (lv_at hl 1 rfl) ?_
      refine lv_iadd hx hb dX12_sum_22 ?_
      refine lv_topi (fun v_3 ev_3 => ?_)
      subst hQ
      exact W.iret (v := v_3) hx hb hr (fun t ht hW => ⟨_, rfl, trivial, ht⟩) (fun q hq => absurd hq List.not_mem_nil) dX12_sum_23
    · have c_2 : p1.toInt = (-1000000000) := b_nne c_2
      refine lv_ldcw (v := (-1000000000)) hx hb hown (hT _ t_9) dX12_sum_14 ?_
      refine lv_goto (tgt := 23) hx hb dX12_sum_17 (by decide) ?_
      subst hQ
      exact W.iret (v := (-1000000000)) hx hb hr (fun t ht hW => ⟨_, rfl, trivial, ht⟩) (fun q hq => absurd hq List.not_mem_nil) dX12_sum_23
set_option maxHeartbeats 4000000 in
set_option maxRecDepth 100000 in
theorem c_X12_isHome (l : Launch) (D : va_G) (cy : Nat → ClassId) (a : Nat → Nat) (i : Nat → Int32) (r : Nat → Nat → Int32) (rl : Nat → Int64) (p0 : Int32) (hRi : mRi i) (hRr : mRr r) : Met l yX12_isHome (Cond.code yX12_isHome cX12_isHome 2 (some .boolean) :: gT) { frames := 1, cells := 0, slots := 0, locals := 24 } (va_Pc [.ref (a 0), .int p0] (rP D cy (mW cy a i r rl))) (vp_Si (fun z => BR z (0 ≤ p0.toInt ∧ p0.toInt < (i 0).toInt) 1 0)) 0 0 (fun _ => False) := by
  refine Met.ofQ (cc := cX12_isHome) (maxL := 2) (ret := (some .boolean)) (by decide) rfl ?_
  intro p e s m args below meth c s₁ B hml hv Q hQ
  obtain ⟨rfl, hP, hK⟩ := hv
  have hx := B.exec
  have hb := B.bytes
  have hr := B.returns
  have hlocks := B.notSynchronized
  have hT : ∀ w ∈ gT, w.before _ s = true := fun w h => atoms_spec (ws := (Cond.code yX12_isHome cX12_isHome 2 (some .boolean) :: gT)) B.pre w (List.mem_cons_of_mem _ h)
  have hown : s.vm.findClass RX12 = some m.cls := findClass_of_methodNamed B.named
  have hl := lv_entry ([.ref (a 0), .int p0]) (n := 2) (Nat.le_of_ble_eq_true rfl)
  rw [lg_entry_eq]
  generalize (lg_sl ([.ref (a 0), .int p0]) ++ List.replicate (2 - (lg_sl ([.ref (a 0), .int p0])).length) Slot.unset).toArray = ls at hl ⊢
  have hl : lv_has ls 2 [(0, .ref (a 0)), (1, .int p0)] := hl
  have hEi : mEi [23, 24, 25, 26, 27, 28, 29, 30, 60] i i := Ei_rf
  have hEr : mEr [21, 22, 23, 24, 25, 26, 32, 33, 34, 35, 36, 37, 38, 39, 48, 49, 57, 61, 62] r r := Er_rf
  refine lv_iload_n hx hb dX12_isHome_0 rfl (lv_at hl 1 rfl) ?_
  refine lv_if_lt (tgt := 16) hx hb dX12_isHome_1 (by decide) (fun c_1 => ?_) (fun c_1 => ?_)
  · have c_1 : p0.toInt < 0 := b_lt c_1
    refine lv_iconst (v := 0) hx hb dX12_isHome_16 (by decide) ?_
    subst hQ
    exact W.zret hx hb hr rfl (fun t ht hW => ⟨_, rfl, Or.inr ⟨rfl, by omega⟩, ht⟩) (fun q hq => absurd hq List.not_mem_nil) dX12_isHome_17
  · have c_1 : 0 ≤ p0.toInt := b_nlt c_1
    refine lv_iload_n hx hb dX12_isHome_4 rfl (lv_at hl 1 rfl) ?_
    refine lv_aload_n hx hb dX12_isHome_5 rfl (lv_at hl 0 rfl) ?_
    refine va_get (D := D) (ci := 12) (v := .int (i 0)) (C := RX12) (T := TX12) (N := 91) hx hb hT iX12 hown hK hP 0 rfl rfl 0 (by decide) (hT _ t_10) (fun _ h9 => h9) rfl dX12_isHome_6 ?_
    have hg_2 : 0 ≤ (i 0).toInt ∧ (i 0).toInt ≤ 6 := hRi 0
    refine lv_icmp_ge (tgt := 16) hx hb dX12_isHome_9 (by decide) (fun c_3 => ?_) (fun c_3 => ?_)
    · have c_3 : (i 0).toInt ≤ p0.toInt := b_le c_3
      refine lv_iconst (v := 0) hx hb dX12_isHome_16 (by decide) ?_
      subst hQ
      exact W.zret hx hb hr rfl (fun t ht hW => ⟨_, rfl, Or.inr ⟨rfl, by omega⟩, ht⟩) (fun q hq => absurd hq List.not_mem_nil) dX12_isHome_17
    · have c_3 : p0.toInt < (i 0).toInt := b_nle c_3
      refine lv_iconst (v := 1) hx hb dX12_isHome_12 (by decide) ?_
      refine lv_goto (tgt := 17) hx hb dX12_isHome_13 (by decide) ?_
      subst hQ
      exact W.zret hx hb hr rfl (fun t ht hW => ⟨_, rfl, Or.inl ⟨rfl, by omega⟩, ht⟩) (fun q hq => absurd hq List.not_mem_nil) dX12_isHome_17
set_option maxHeartbeats 4000000 in
set_option maxRecDepth 100000 in
theorem c_X12_isClaim (l : Launch) (D : va_G) (cy : Nat → ClassId) (a : Nat → Nat) (i : Nat → Int32) (r : Nat → Nat → Int32) (rl : Nat → Int64) (p0 : Int32) (hRi : mRi i) (hRr : mRr r) : Met l yX12_isClaim (Cond.code yX12_isClaim cX12_isClaim 2 (some .boolean) :: gT) { frames := 1, cells := 0, slots := 0, locals := 24 } (va_Pc [.ref (a 0), .int p0] (rP D cy (mW cy a i r rl))) (vp_Si (fun z => BR z (0 ≤ p0.toInt ∧ p0.toInt < (i 51).toInt) 1 0)) 0 0 (fun _ => False) := by
  refine Met.ofQ (cc := cX12_isClaim) (maxL := 2) (ret := (some .boolean)) (by decide) rfl ?_
  intro p e s m args below meth c s₁ B hml hv Q hQ
  obtain ⟨rfl, hP, hK⟩ := hv
  have hx := B.exec
  have hb := B.bytes
  have hr := B.returns
  have hlocks := B.notSynchronized
  have hT : ∀ w ∈ gT, w.before _ s = true := fun w h => atoms_spec (ws := (Cond.code yX12_isClaim cX12_isClaim 2 (some .boolean) :: gT)) B.pre w (List.mem_cons_of_mem _ h)
  have hown : s.vm.findClass RX12 = some m.cls := findClass_of_methodNamed B.named
  have hl := lv_entry ([.ref (a 0), .int p0]) (n := 2) (Nat.le_of_ble_eq_true rfl)
  rw [lg_entry_eq]
  generalize (lg_sl ([.ref (a 0), .int p0]) ++ List.replicate (2 - (lg_sl ([.ref (a 0), .int p0])).length) Slot.unset).toArray = ls at hl ⊢
  have hl : lv_has ls 2 [(0, .ref (a 0)), (1, .int p0)] := hl
  have hEi : mEi [23, 24, 25, 26, 27, 28, 29, 30, 60] i i := Ei_rf
  have hEr : mEr [21, 22, 23, 24, 25, 26, 32, 33, 34, 35, 36, 37, 38, 39, 48, 49, 57, 61, 62] r r := Er_rf
  refine lv_iload_n hx hb dX12_isClaim_0 rfl (lv_at hl 1 rfl) ?_
  refine lv_if_lt (tgt := 16) hx hb dX12_isClaim_1 (by decide) (fun c_1 => ?_) (fun c_1 => ?_)
  · have c_1 : p0.toInt < 0 := b_lt c_1
    refine lv_iconst (v := 0) hx hb dX12_isClaim_16 (by decide) ?_
    subst hQ
    exact W.zret hx hb hr rfl (fun t ht hW => ⟨_, rfl, Or.inr ⟨rfl, by omega⟩, ht⟩) (fun q hq => absurd hq List.not_mem_nil) dX12_isClaim_17
  · have c_1 : 0 ≤ p0.toInt := b_nlt c_1
    refine lv_iload_n hx hb dX12_isClaim_4 rfl (lv_at hl 1 rfl) ?_
    refine lv_aload_n hx hb dX12_isClaim_5 rfl (lv_at hl 0 rfl) ?_
    refine va_get (D := D) (ci := 12) (v := .int (i 51)) (C := RX12) (T := TX12) (N := 91) hx hb hT iX12 hown hK hP 0 rfl rfl 51 (by decide) (hT _ t_11) (fun _ h9 => h9) rfl dX12_isClaim_6 ?_
    have hg_2 : 0 ≤ (i 51).toInt ∧ (i 51).toInt ≤ 30 := hRi 51
    refine lv_icmp_ge (tgt := 16) hx hb dX12_isClaim_9 (by decide) (fun c_3 => ?_) (fun c_3 => ?_)
    · have c_3 : (i 51).toInt ≤ p0.toInt := b_le c_3
      refine lv_iconst (v := 0) hx hb dX12_isClaim_16 (by decide) ?_
      subst hQ
      exact W.zret hx hb hr rfl (fun t ht hW => ⟨_, rfl, Or.inr ⟨rfl, by omega⟩, ht⟩) (fun q hq => absurd hq List.not_mem_nil) dX12_isClaim_17
    · have c_3 : p0.toInt < (i 51).toInt := b_nle c_3
      refine lv_iconst (v := 1) hx hb dX12_isClaim_12 (by decide) ?_
      refine lv_goto (tgt := 17) hx hb dX12_isClaim_13 (by decide) ?_
      subst hQ
      exact W.zret hx hb hr rfl (fun t ht hW => ⟨_, rfl, Or.inl ⟨rfl, by omega⟩, ht⟩) (fun q hq => absurd hq List.not_mem_nil) dX12_isClaim_17
