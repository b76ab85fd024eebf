set_option maxRecDepth 100000 in
theorem t_797 : Cond.methodLink RX10 3 objectInit ∈ gT := tm (tb2 (List.mem_of_getElem? (i := 81) (by rfl))) (by decide +kernel)
set_option maxRecDepth 100000 in
theorem t_798 : Cond.methodLink RX3 3 objectInit ∈ gT := tm (tb2 (List.mem_of_getElem? (i := 75) (by rfl))) (by decide +kernel)
set_option maxRecDepth 100000 in
theorem t_799 : Cond.fieldLink RX3 9 "DepositJudge$Home" "parts" "[I" ∈ gT := tm (tb2 (List.mem_of_getElem? (i := 121) (by rfl))) (by decide +kernel)
set_option maxRecDepth 100000 in
theorem t_800 : Cond.classLink RX3 22 RX10 ∈ gT := tm (tb2 (List.mem_of_getElem? (i := 76) (by rfl))) (by decide +kernel)
set_option maxRecDepth 100000 in
theorem t_801 : Cond.instantiable RX10 5 ∈ gT := tm (tb2 (List.mem_of_getElem? (i := 77) (by rfl))) (by decide +kernel)
set_option maxRecDepth 100000 in
theorem t_802 : Cond.code yX10_init cX10_init 1 none ∈ gT := tm (tb2 (List.mem_of_getElem? (i := 80) (by rfl))) (by decide +kernel)
set_option maxRecDepth 100000 in
theorem t_803 : Cond.instanceMethod yX10_init ∈ gT := tm (tb2 (List.mem_of_getElem? (i := 79) (by rfl))) (by decide +kernel)
set_option maxRecDepth 100000 in
theorem t_804 : Cond.fieldLink RX3 35 "DepositJudge$Home" "region" "I" ∈ gT := tm (tb2 (List.mem_of_getElem? (i := 110) (by rfl))) (by decide +kernel)
set_option maxRecDepth 100000 in
theorem t_805 : Cond.fieldLink RX3 39 "DepositJudge$Home" "tenants" "I" ∈ gT := tm (tb2 (List.mem_of_getElem? (i := 112) (by rfl))) (by decide +kernel)
set_option maxRecDepth 100000 in
theorem t_806 : Cond.fieldLink RX3 42 "DepositJudge$Home" "deposit" "I" ∈ gT := tm (tb2 (List.mem_of_getElem? (i := 115) (by rfl))) (by decide +kernel)
set_option maxRecDepth 100000 in
theorem t_807 : Cond.fieldLink RX3 51 "DepositJudge$Home" "kept" "Z" ∈ gT := tm (tb2 (List.mem_of_getElem? (i := 119) (by rfl))) (by decide +kernel)
set_option maxRecDepth 100000 in
theorem t_808 : Cond.instantiable RX3 12 ∈ gT := tm (tb2 (List.mem_of_getElem? (i := 71) (by rfl))) (by decide +kernel)
set_option maxRecDepth 100000 in
theorem t_809 : Cond.code yX3_init cX3_init 8 none ∈ gT := tm (tb2 (List.mem_of_getElem? (i := 74) (by rfl))) (by decide +kernel)
set_option maxRecDepth 100000 in
theorem t_810 : Cond.methodLink RX11 105 yX3_init ∈ gT := tm (tb2 (List.mem_of_getElem? (i := 72) (by rfl))) (by decide +kernel)
set_option maxRecDepth 100000 in
theorem t_811 : Cond.instanceMethod yX3_init ∈ gT := tm (tb2 (List.mem_of_getElem? (i := 73) (by rfl))) (by decide +kernel)
def dl_461 : List (Nat × (Instr × Nat)) := [(0, (.aload_n 0, 1)), (1, (.invokespecial 3, 3)), (4, (.aload_n 0, 1)), (5, (.iconst 0, 1)), (6, (.putfield 9, 3)), (9, (.aload_n 0, 1)), (10, (.bipush 20, 2)), (12, (.newarray .int, 2)), (14, (.putfield 15, 3)), (17, (.aload_n 0, 1)), (18, (.bipush 20, 2)), (20, (.newarray .int, 2)), (22, (.putfield 19, 3)), (25, (.aload_n 0, 1)), (26, (.bipush 20, 2)), (28, (.newarray .int, 2)), (30, (.putfield 22, 3)), (33, (.aload_n 0, 1)), (34, (.bipush 20, 2)), (36, (.newarray .int, 2))]
theorem dh_461 : dchk cX10_init dl_461 = true := by decide +kernel
theorem dX10_init_0 : decode cX10_init 0 = .ok (.aload_n 0, 1) := dget dh_461 (k := 0) rfl
theorem dX10_init_1 : decode cX10_init 1 = .ok (.invokespecial 3, 3) := dget dh_461 (k := 1) rfl
theorem dX10_init_4 : decode cX10_init 4 = .ok (.aload_n 0, 1) := dget dh_461 (k := 2) rfl
theorem dX10_init_5 : decode cX10_init 5 = .ok (.iconst 0, 1) := dget dh_461 (k := 3) rfl
theorem dX10_init_6 : decode cX10_init 6 = .ok (.putfield 9, 3) := dget dh_461 (k := 4) rfl
theorem dX10_init_9 : decode cX10_init 9 = .ok (.aload_n 0, 1) := dget dh_461 (k := 5) rfl
theorem dX10_init_10 : decode cX10_init 10 = .ok (.bipush 20, 2) := dget dh_461 (k := 6) rfl
theorem dX10_init_12 : decode cX10_init 12 = .ok (.newarray .int, 2) := dget dh_461 (k := 7) rfl
theorem dX10_init_14 : decode cX10_init 14 = .ok (.putfield 15, 3) := dget dh_461 (k := 8) rfl
theorem dX10_init_17 : decode cX10_init 17 = .ok (.aload_n 0, 1) := dget dh_461 (k := 9) rfl
theorem dX10_init_18 : decode cX10_init 18 = .ok (.bipush 20, 2) := dget dh_461 (k := 10) rfl
theorem dX10_init_20 : decode cX10_init 20 = .ok (.newarray .int, 2) := dget dh_461 (k := 11) rfl
theorem dX10_init_22 : decode cX10_init 22 = .ok (.putfield 19, 3) := dget dh_461 (k := 12) rfl
theorem dX10_init_25 : decode cX10_init 25 = .ok (.aload_n 0, 1) := dget dh_461 (k := 13) rfl
theorem dX10_init_26 : decode cX10_init 26 = .ok (.bipush 20, 2) := dget dh_461 (k := 14) rfl
theorem dX10_init_28 : decode cX10_init 28 = .ok (.newarray .int, 2) := dget dh_461 (k := 15) rfl
theorem dX10_init_30 : decode cX10_init 30 = .ok (.putfield 22, 3) := dget dh_461 (k := 16) rfl
theorem dX10_init_33 : decode cX10_init 33 = .ok (.aload_n 0, 1) := dget dh_461 (k := 17) rfl
theorem dX10_init_34 : decode cX10_init 34 = .ok (.bipush 20, 2) := dget dh_461 (k := 18) rfl
theorem dX10_init_36 : decode cX10_init 36 = .ok (.newarray .int, 2) := dget dh_461 (k := 19) rfl
def dl_462 : List (Nat × (Instr × Nat)) := [(38, (.putfield 25, 3)), (41, (.return_, 1))]
theorem dh_462 : dchk cX10_init dl_462 = true := by decide +kernel
theorem dX10_init_38 : decode cX10_init 38 = .ok (.putfield 25, 3) := dget dh_462 (k := 0) rfl
theorem dX10_init_41 : decode cX10_init 41 = .ok (.return_, 1) := dget dh_462 (k := 1) rfl
def dl_463 : List (Nat × (Instr × Nat)) := [(0, (.iload_n 1, 1)), (1, (.iconst 0, 1)), (2, (.iconst 3, 1)), (3, (.invokestatic 93, 3)), (6, (.ifCond .eq 56, 3)), (9, (.iload_n 2, 1)), (10, (.iconst 1, 1)), (11, (.iconst 4, 1)), (12, (.invokestatic 93, 3)), (15, (.ifCond .eq 47, 3)), (18, (.iload_n 3, 1)), (19, (.iconst 0, 1)), (20, (.ldc 104, 2)), (22, (.invokestatic 93, 3)), (25, (.ifCond .eq 37, 3)), (28, (.iload 4, 2)), (30, (.iconst 0, 1)), (31, (.sipush 999, 3)), (34, (.invokestatic 93, 3)), (37, (.ifCond .eq 25, 3))]
theorem dh_463 : dchk cX11_home dl_463 = true := by decide +kernel
theorem dX11_home_0 : decode cX11_home 0 = .ok (.iload_n 1, 1) := dget dh_463 (k := 0) rfl
theorem dX11_home_1 : decode cX11_home 1 = .ok (.iconst 0, 1) := dget dh_463 (k := 1) rfl
theorem dX11_home_2 : decode cX11_home 2 = .ok (.iconst 3, 1) := dget dh_463 (k := 2) rfl
theorem dX11_home_3 : decode cX11_home 3 = .ok (.invokestatic 93, 3) := dget dh_463 (k := 3) rfl
theorem dX11_home_6 : decode cX11_home 6 = .ok (.ifCond .eq 56, 3) := dget dh_463 (k := 4) rfl
theorem dX11_home_9 : decode cX11_home 9 = .ok (.iload_n 2, 1) := dget dh_463 (k := 5) rfl
theorem dX11_home_10 : decode cX11_home 10 = .ok (.iconst 1, 1) := dget dh_463 (k := 6) rfl
theorem dX11_home_11 : decode cX11_home 11 = .ok (.iconst 4, 1) := dget dh_463 (k := 7) rfl
theorem dX11_home_12 : decode cX11_home 12 = .ok (.invokestatic 93, 3) := dget dh_463 (k := 8) rfl
theorem dX11_home_15 : decode cX11_home 15 = .ok (.ifCond .eq 47, 3) := dget dh_463 (k := 9) rfl
theorem dX11_home_18 : decode cX11_home 18 = .ok (.iload_n 3, 1) := dget dh_463 (k := 10) rfl
theorem dX11_home_19 : decode cX11_home 19 = .ok (.iconst 0, 1) := dget dh_463 (k := 11) rfl
theorem dX11_home_20 : decode cX11_home 20 = .ok (.ldc 104, 2) := dget dh_463 (k := 12) rfl
theorem dX11_home_22 : decode cX11_home 22 = .ok (.invokestatic 93, 3) := dget dh_463 (k := 13) rfl
theorem dX11_home_25 : decode cX11_home 25 = .ok (.ifCond .eq 37, 3) := dget dh_463 (k := 14) rfl
theorem dX11_home_28 : decode cX11_home 28 = .ok (.iload 4, 2) := dget dh_463 (k := 15) rfl
theorem dX11_home_30 : decode cX11_home 30 = .ok (.iconst 0, 1) := dget dh_463 (k := 16) rfl
theorem dX11_home_31 : decode cX11_home 31 = .ok (.sipush 999, 3) := dget dh_463 (k := 17) rfl
theorem dX11_home_34 : decode cX11_home 34 = .ok (.invokestatic 93, 3) := dget dh_463 (k := 18) rfl
theorem dX11_home_37 : decode cX11_home 37 = .ok (.ifCond .eq 25, 3) := dget dh_463 (k := 19) rfl
def dl_464 : List (Nat × (Instr × Nat)) := [(40, (.iload 5, 2)), (42, (.iload 4, 2)), (44, (.sipush 999, 3)), (47, (.invokestatic 93, 3)), (50, (.ifCond .eq 12, 3)), (53, (.aload_n 0, 1)), (54, (.getfield 22, 3)), (57, (.bipush 6, 2)), (59, (.if_icmp .lt 5, 3)), (62, (.iconst (-1), 1)), (63, (.ireturn, 1)), (64, (.new 16, 3)), (67, (.dup, 1)), (68, (.iload_n 1, 1)), (69, (.iload_n 2, 1)), (70, (.iload_n 3, 1)), (71, (.iload 4, 2)), (73, (.iload 5, 2)), (75, (.iload 6, 2)), (77, (.invokespecial 105, 3))]
theorem dh_464 : dchk cX11_home dl_464 = true := by decide +kernel
theorem dX11_home_40 : decode cX11_home 40 = .ok (.iload 5, 2) := dget dh_464 (k := 0) rfl
theorem dX11_home_42 : decode cX11_home 42 = .ok (.iload 4, 2) := dget dh_464 (k := 1) rfl
theorem dX11_home_44 : decode cX11_home 44 = .ok (.sipush 999, 3) := dget dh_464 (k := 2) rfl
theorem dX11_home_47 : decode cX11_home 47 = .ok (.invokestatic 93, 3) := dget dh_464 (k := 3) rfl
theorem dX11_home_50 : decode cX11_home 50 = .ok (.ifCond .eq 12, 3) := dget dh_464 (k := 4) rfl
theorem dX11_home_53 : decode cX11_home 53 = .ok (.aload_n 0, 1) := dget dh_464 (k := 5) rfl
theorem dX11_home_54 : decode cX11_home 54 = .ok (.getfield 22, 3) := dget dh_464 (k := 6) rfl
theorem dX11_home_57 : decode cX11_home 57 = .ok (.bipush 6, 2) := dget dh_464 (k := 7) rfl
theorem dX11_home_59 : decode cX11_home 59 = .ok (.if_icmp .lt 5, 3) := dget dh_464 (k := 8) rfl
theorem dX11_home_62 : decode cX11_home 62 = .ok (.iconst (-1), 1) := dget dh_464 (k := 9) rfl
theorem dX11_home_63 : decode cX11_home 63 = .ok (.ireturn, 1) := dget dh_464 (k := 10) rfl
theorem dX11_home_64 : decode cX11_home 64 = .ok (.new 16, 3) := dget dh_464 (k := 11) rfl
theorem dX11_home_67 : decode cX11_home 67 = .ok (.dup, 1) := dget dh_464 (k := 12) rfl
theorem dX11_home_68 : decode cX11_home 68 = .ok (.iload_n 1, 1) := dget dh_464 (k := 13) rfl
theorem dX11_home_69 : decode cX11_home 69 = .ok (.iload_n 2, 1) := dget dh_464 (k := 14) rfl
theorem dX11_home_70 : decode cX11_home 70 = .ok (.iload_n 3, 1) := dget dh_464 (k := 15) rfl
theorem dX11_home_71 : decode cX11_home 71 = .ok (.iload 4, 2) := dget dh_464 (k := 16) rfl
theorem dX11_home_73 : decode cX11_home 73 = .ok (.iload 5, 2) := dget dh_464 (k := 17) rfl
theorem dX11_home_75 : decode cX11_home 75 = .ok (.iload 6, 2) := dget dh_464 (k := 18) rfl
theorem dX11_home_77 : decode cX11_home 77 = .ok (.invokespecial 105, 3) := dget dh_464 (k := 19) rfl
def dl_465 : List (Nat × (Instr × Nat)) := [(80, (.astore 7, 2)), (82, (.aload_n 0, 1)), (83, (.getfield 18, 3)), (86, (.aload_n 0, 1)), (87, (.getfield 22, 3)), (90, (.aload 7, 2)), (92, (.aastore, 1)), (93, (.aload_n 0, 1)), (94, (.dup, 1)), (95, (.getfield 22, 3)), (98, (.iconst 1, 1)), (99, (.iadd, 1)), (100, (.putfield 22, 3)), (103, (.aload_n 0, 1)), (104, (.getfield 22, 3)), (107, (.iconst 1, 1)), (108, (.isub, 1)), (109, (.ireturn, 1))]
theorem dh_465 : dchk cX11_home dl_465 = true := by decide +kernel
theorem dX11_home_80 : decode cX11_home 80 = .ok (.astore 7, 2) := dget dh_465 (k := 0) rfl
theorem dX11_home_82 : decode cX11_home 82 = .ok (.aload_n 0, 1) := dget dh_465 (k := 1) rfl
theorem dX11_home_83 : decode cX11_home 83 = .ok (.getfield 18, 3) := dget dh_465 (k := 2) rfl
theorem dX11_home_86 : decode cX11_home 86 = .ok (.aload_n 0, 1) := dget dh_465 (k := 3) rfl
theorem dX11_home_87 : decode cX11_home 87 = .ok (.getfield 22, 3) := dget dh_465 (k := 4) rfl
theorem dX11_home_90 : decode cX11_home 90 = .ok (.aload 7, 2) := dget dh_465 (k := 5) rfl
theorem dX11_home_92 : decode cX11_home 92 = .ok (.aastore, 1) := dget dh_465 (k := 6) rfl
theorem dX11_home_93 : decode cX11_home 93 = .ok (.aload_n 0, 1) := dget dh_465 (k := 7) rfl
theorem dX11_home_94 : decode cX11_home 94 = .ok (.dup, 1) := dget dh_465 (k := 8) rfl
theorem dX11_home_95 : decode cX11_home 95 = .ok (.getfield 22, 3) := dget dh_465 (k := 9) rfl
theorem dX11_home_98 : decode cX11_home 98 = .ok (.iconst 1, 1) := dget dh_465 (k := 10) rfl
theorem dX11_home_99 : decode cX11_home 99 = .ok (.iadd, 1) := dget dh_465 (k := 11) rfl
theorem dX11_home_100 : decode cX11_home 100 = .ok (.putfield 22, 3) := dget dh_465 (k := 12) rfl
theorem dX11_home_103 : decode cX11_home 103 = .ok (.aload_n 0, 1) := dget dh_465 (k := 13) rfl
theorem dX11_home_104 : decode cX11_home 104 = .ok (.getfield 22, 3) := dget dh_465 (k := 14) rfl
theorem dX11_home_107 : decode cX11_home 107 = .ok (.iconst 1, 1) := dget dh_465 (k := 15) rfl
theorem dX11_home_108 : decode cX11_home 108 = .ok (.isub, 1) := dget dh_465 (k := 16) rfl
theorem dX11_home_109 : decode cX11_home 109 = .ok (.ireturn, 1) := dget dh_465 (k := 17) rfl
def dl_466 : List (Nat × (Instr × Nat)) := [(0, (.aload_n 0, 1)), (1, (.invokespecial 3, 3)), (4, (.aload_n 0, 1)), (5, (.iconst 4, 1)), (6, (.newarray .int, 2)), (8, (.putfield 9, 3)), (11, (.aload_n 0, 1)), (12, (.iconst 3, 1)), (13, (.newarray .int, 2)), (15, (.putfield 15, 3)), (18, (.aload_n 0, 1)), (19, (.bipush 6, 2)), (21, (.newarray .boolean, 2)), (23, (.putfield 18, 3)), (26, (.aload_n 0, 1)), (27, (.new 22, 3)), (30, (.dup, 1)), (31, (.invokespecial 24, 3)), (34, (.putfield 25, 3)), (37, (.aload_n 0, 1))]
theorem dh_466 : dchk cX3_init dl_466 = true := by decide +kernel
theorem dX3_init_0 : decode cX3_init 0 = .ok (.aload_n 0, 1) := dget dh_466 (k := 0) rfl
theorem dX3_init_1 : decode cX3_init 1 = .ok (.invokespecial 3, 3) := dget dh_466 (k := 1) rfl
theorem dX3_init_4 : decode cX3_init 4 = .ok (.aload_n 0, 1) := dget dh_466 (k := 2) rfl
theorem dX3_init_5 : decode cX3_init 5 = .ok (.iconst 4, 1) := dget dh_466 (k := 3) rfl
theorem dX3_init_6 : decode cX3_init 6 = .ok (.newarray .int, 2) := dget dh_466 (k := 4) rfl
theorem dX3_init_8 : decode cX3_init 8 = .ok (.putfield 9, 3) := dget dh_466 (k := 5) rfl
theorem dX3_init_11 : decode cX3_init 11 = .ok (.aload_n 0, 1) := dget dh_466 (k := 6) rfl
theorem dX3_init_12 : decode cX3_init 12 = .ok (.iconst 3, 1) := dget dh_466 (k := 7) rfl
theorem dX3_init_13 : decode cX3_init 13 = .ok (.newarray .int, 2) := dget dh_466 (k := 8) rfl
theorem dX3_init_15 : decode cX3_init 15 = .ok (.putfield 15, 3) := dget dh_466 (k := 9) rfl
theorem dX3_init_18 : decode cX3_init 18 = .ok (.aload_n 0, 1) := dget dh_466 (k := 10) rfl
theorem dX3_init_19 : decode cX3_init 19 = .ok (.bipush 6, 2) := dget dh_466 (k := 11) rfl
theorem dX3_init_21 : decode cX3_init 21 = .ok (.newarray .boolean, 2) := dget dh_466 (k := 12) rfl
theorem dX3_init_23 : decode cX3_init 23 = .ok (.putfield 18, 3) := dget dh_466 (k := 13) rfl
theorem dX3_init_26 : decode cX3_init 26 = .ok (.aload_n 0, 1) := dget dh_466 (k := 14) rfl
theorem dX3_init_27 : decode cX3_init 27 = .ok (.new 22, 3) := dget dh_466 (k := 15) rfl
theorem dX3_init_30 : decode cX3_init 30 = .ok (.dup, 1) := dget dh_466 (k := 16) rfl
theorem dX3_init_31 : decode cX3_init 31 = .ok (.invokespecial 24, 3) := dget dh_466 (k := 17) rfl
theorem dX3_init_34 : decode cX3_init 34 = .ok (.putfield 25, 3) := dget dh_466 (k := 18) rfl
theorem dX3_init_37 : decode cX3_init 37 = .ok (.aload_n 0, 1) := dget dh_466 (k := 19) rfl
def dl_467 : List (Nat × (Instr × Nat)) := [(38, (.new 22, 3)), (41, (.dup, 1)), (42, (.invokespecial 24, 3)), (45, (.putfield 29, 3)), (48, (.aload_n 0, 1)), (49, (.bipush 20, 2)), (51, (.newarray .int, 2)), (53, (.putfield 32, 3)), (56, (.aload_n 0, 1)), (57, (.iload_n 1, 1)), (58, (.putfield 35, 3)), (61, (.aload_n 0, 1)), (62, (.iload_n 2, 1)), (63, (.putfield 39, 3)), (66, (.aload_n 0, 1)), (67, (.iload_n 3, 1)), (68, (.putfield 42, 3)), (71, (.aload_n 0, 1)), (72, (.iload 4, 2)), (74, (.putfield 45, 3))]
theorem dh_467 : dchk cX3_init dl_467 = true := by decide +kernel
theorem dX3_init_38 : decode cX3_init 38 = .ok (.new 22, 3) := dget dh_467 (k := 0) rfl
theorem dX3_init_41 : decode cX3_init 41 = .ok (.dup, 1) := dget dh_467 (k := 1) rfl
theorem dX3_init_42 : decode cX3_init 42 = .ok (.invokespecial 24, 3) := dget dh_467 (k := 2) rfl
theorem dX3_init_45 : decode cX3_init 45 = .ok (.putfield 29, 3) := dget dh_467 (k := 3) rfl
theorem dX3_init_48 : decode cX3_init 48 = .ok (.aload_n 0, 1) := dget dh_467 (k := 4) rfl
theorem dX3_init_49 : decode cX3_init 49 = .ok (.bipush 20, 2) := dget dh_467 (k := 5) rfl
theorem dX3_init_51 : decode cX3_init 51 = .ok (.newarray .int, 2) := dget dh_467 (k := 6) rfl
theorem dX3_init_53 : decode cX3_init 53 = .ok (.putfield 32, 3) := dget dh_467 (k := 7) rfl
theorem dX3_init_56 : decode cX3_init 56 = .ok (.aload_n 0, 1) := dget dh_467 (k := 8) rfl
theorem dX3_init_57 : decode cX3_init 57 = .ok (.iload_n 1, 1) := dget dh_467 (k := 9) rfl
theorem dX3_init_58 : decode cX3_init 58 = .ok (.putfield 35, 3) := dget dh_467 (k := 10) rfl
theorem dX3_init_61 : decode cX3_init 61 = .ok (.aload_n 0, 1) := dget dh_467 (k := 11) rfl
theorem dX3_init_62 : decode cX3_init 62 = .ok (.iload_n 2, 1) := dget dh_467 (k := 12) rfl
theorem dX3_init_63 : decode cX3_init 63 = .ok (.putfield 39, 3) := dget dh_467 (k := 13) rfl
theorem dX3_init_66 : decode cX3_init 66 = .ok (.aload_n 0, 1) := dget dh_467 (k := 14) rfl
theorem dX3_init_67 : decode cX3_init 67 = .ok (.iload_n 3, 1) := dget dh_467 (k := 15) rfl
theorem dX3_init_68 : decode cX3_init 68 = .ok (.putfield 42, 3) := dget dh_467 (k := 16) rfl
theorem dX3_init_71 : decode cX3_init 71 = .ok (.aload_n 0, 1) := dget dh_467 (k := 17) rfl
theorem dX3_init_72 : decode cX3_init 72 = .ok (.iload 4, 2) := dget dh_467 (k := 18) rfl
theorem dX3_init_74 : decode cX3_init 74 = .ok (.putfield 45, 3) := dget dh_467 (k := 19) rfl
def dl_468 : List (Nat × (Instr × Nat)) := [(77, (.aload_n 0, 1)), (78, (.iload 5, 2)), (80, (.putfield 48, 3)), (83, (.aload_n 0, 1)), (84, (.iload 6, 2)), (86, (.putfield 51, 3)), (89, (.iconst 0, 1)), (90, (.istore 7, 2)), (92, (.iload 7, 2)), (94, (.iconst 4, 1)), (95, (.if_icmp .ge 17, 3)), (98, (.aload_n 0, 1)), (99, (.getfield 9, 3)), (102, (.iload 7, 2)), (104, (.iconst 1, 1)), (105, (.iastore, 1)), (106, (.iinc 7 1, 3)), (109, (.goto (-17), 3)), (112, (.return_, 1))]
theorem dh_468 : dchk cX3_init dl_468 = true := by decide +kernel
theorem dX3_init_77 : decode cX3_init 77 = .ok (.aload_n 0, 1) := dget dh_468 (k := 0) rfl
theorem dX3_init_78 : decode cX3_init 78 = .ok (.iload 5, 2) := dget dh_468 (k := 1) rfl
theorem dX3_init_80 : decode cX3_init 80 = .ok (.putfield 48, 3) := dget dh_468 (k := 2) rfl
theorem dX3_init_83 : decode cX3_init 83 = .ok (.aload_n 0, 1) := dget dh_468 (k := 3) rfl
theorem dX3_init_84 : decode cX3_init 84 = .ok (.iload 6, 2) := dget dh_468 (k := 4) rfl
theorem dX3_init_86 : decode cX3_init 86 = .ok (.putfield 51, 3) := dget dh_468 (k := 5) rfl
theorem dX3_init_89 : decode cX3_init 89 = .ok (.iconst 0, 1) := dget dh_468 (k := 6) rfl
theorem dX3_init_90 : decode cX3_init 90 = .ok (.istore 7, 2) := dget dh_468 (k := 7) rfl
theorem dX3_init_92 : decode cX3_init 92 = .ok (.iload 7, 2) := dget dh_468 (k := 8) rfl
theorem dX3_init_94 : decode cX3_init 94 = .ok (.iconst 4, 1) := dget dh_468 (k := 9) rfl
theorem dX3_init_95 : decode cX3_init 95 = .ok (.if_icmp .ge 17, 3) := dget dh_468 (k := 10) rfl
theorem dX3_init_98 : decode cX3_init 98 = .ok (.aload_n 0, 1) := dget dh_468 (k := 11) rfl
theorem dX3_init_99 : decode cX3_init 99 = .ok (.getfield 9, 3) := dget dh_468 (k := 12) rfl
theorem dX3_init_102 : decode cX3_init 102 = .ok (.iload 7, 2) := dget dh_468 (k := 13) rfl
theorem dX3_init_104 : decode cX3_init 104 = .ok (.iconst 1, 1) := dget dh_468 (k := 14) rfl
theorem dX3_init_105 : decode cX3_init 105 = .ok (.iastore, 1) := dget dh_468 (k := 15) rfl
theorem dX3_init_106 : decode cX3_init 106 = .ok (.iinc 7 1, 3) := dget dh_468 (k := 16) rfl
theorem dX3_init_109 : decode cX3_init 109 = .ok (.goto (-17), 3) := dget dh_468 (k := 17) rfl
theorem dX3_init_112 : decode cX3_init 112 = .ok (.return_, 1) := dget dh_468 (k := 18) rfl
theorem vaP_l {D : va_G} {cl : List vw_C} {w1 w2 : va_W} {H : Heap} (h : va_P D cl (w1 ++ w2) H) : va_P D cl w1 H := fun k q hq => h k q (by rw [List.getElem?_append_left (List.getElem?_eq_some_iff.mp hq).1]; exact hq)
theorem vaP_r {D : va_G} {cl : List vw_C} {w1 w2 : va_W} {H : Heap} (h : va_P D cl (w1 ++ w2) H) : va_P D cl w2 H := fun k q hq => h (w1.length + k) q (by rw [List.getElem?_append_right (by omega), show w1.length + k - w1.length = k by omega]; exact hq)
theorem vaD_r {A : Nat → Prop} {w1 w2 : va_W} (h : va_D A (w1 ++ w2)) : va_D A w2 := by
  have key : ∀ (k : Nat) (q : Nat × va_E), w2[k]? = some q → (w1 ++ w2)[w1.length + k]? = some q := fun k q hq => by rw [List.getElem?_append_right (by omega), show w1.length + k - w1.length = k by omega]; exact hq
  exact ⟨fun i j p q hp hq e => by have := h.1 _ _ p q (key i p hp) (key j q hq) e; omega, fun k q hq => h.2 _ q (key k q hq)⟩
def mixA (a b : Nat → Nat) : Nat → Nat := fun p => if p < 61 then a p else b p
def mixI (i j : Nat → Int32) : Nat → Int32 := fun k => if k < 17 then i k else j k
def mixR (r s : Nat → Nat → Int32) : Nat → Nat → Int32 := fun p => if p < 61 then r p else s p
theorem mix_Ri {i j : Nat → Int32} (h : yRi i) (h2 : yRi j) : yRi (mixI i j) := by
  intro k; unfold mixI
  by_cases e : k < 17
  · rw [if_pos e]; exact h k
  · rw [if_neg e]; exact h2 k
theorem mix_Rr {r s : Nat → Nat → Int32} (h : yRr r) (h2 : yRr s) : yRr (mixR r s) := by
  intro p j; unfold mixR
  by_cases e : p < 61
  · rw [if_pos e]; exact h p j
  · rw [if_neg e]; exact h2 p j
/-- the homes' cells -/
def HL (cy : Nat → ClassId) (hb : Nat → Nat → Nat) (hi : Nat → Nat → Int32) (hr : Nat → Nat → Nat → Int32) : Nat → va_W
  | 0 => []
  | n + 1 => HL cy hb hi hr n ++ hW cy (hb n) (hi n) (hr n)
def HX (cy : Nat → ClassId) (hb : Nat → Nat → Nat) (hi : Nat → Nat → Int32) (hr : Nat → Nat → Nat → Int32) (h : Nat) : Nat → va_W
  | 0 => []
  | n + 1 => if n = h then HL cy hb hi hr n else HX cy hb hi hr h n ++ hW cy (hb n) (hi n) (hr n)
def uf {α : Type} (f : Nat → α) (h : Nat) (x : α) : Nat → α := fun k => if k = h then x else f k
theorem HL_perm {cy : Nat → ClassId} {hb : Nat → Nat → Nat} {hi : Nat → Nat → Int32} {hr : Nat → Nat → Nat → Int32} {h : Nat} : ∀ n, h < n → (HL cy hb hi hr n).Perm (hW cy (hb h) (hi h) (hr h) ++ HX cy hb hi hr h n) := by
  intro n
  induction n with
  | zero => intro h0; omega
  | succ n ih =>
    intro h0
    show (HL cy hb hi hr n ++ hW cy (hb n) (hi n) (hr n)).Perm (_ ++ (if n = h then HL cy hb hi hr n else HX cy hb hi hr h n ++ hW cy (hb n) (hi n) (hr n)))
    by_cases e : n = h
    · rw [if_pos e, e]; exact List.perm_append_comm
    · rw [if_neg e, ← List.append_assoc]
      exact (ih (by omega)).append_right _
theorem HL_uf {cy : Nat → ClassId} {hb : Nat → Nat → Nat} {hi : Nat → Nat → Int32} {hr : Nat → Nat → Nat → Int32} {h : Nat} {b : Nat → Nat} {i : Nat → Int32} {r : Nat → Nat → Int32} : ∀ n, n ≤ h → HL cy (uf hb h b) (uf hi h i) (uf hr h r) n = HL cy hb hi hr n := by
  intro n
  induction n with
  | zero => intro _; rfl
  | succ n ih =>
    intro h0
    show HL cy _ _ _ n ++ hW cy (uf hb h b n) (uf hi h i n) (uf hr h r n) = HL cy hb hi hr n ++ hW cy (hb n) (hi n) (hr n)
    rw [ih (by omega)]
    unfold uf
    rw [if_neg (by omega : ¬ n = h), if_neg (by omega : ¬ n = h), if_neg (by omega : ¬ n = h)]
theorem HX_uf {cy : Nat → ClassId} {hb : Nat → Nat → Nat} {hi : Nat → Nat → Int32} {hr : Nat → Nat → Nat → Int32} {h : Nat} {i : Nat → Int32} {r : Nat → Nat → Int32} : ∀ n, HX cy hb (uf hi h i) (uf hr h r) h n = HX cy hb hi hr h n := by
  intro n
  induction n with
  | zero => rfl
  | succ n ih =>
    show (if n = h then HL cy hb (uf hi h i) (uf hr h r) n else HX cy hb _ _ h n ++ hW cy (hb n) (uf hi h i n) (uf hr h r n)) = (if n = h then HL cy hb hi hr n else HX cy hb hi hr h n ++ hW cy (hb n) (hi n) (hr n))
    by_cases e : n = h
    · rw [if_pos e, if_pos e]
      have h2 : uf hb h (hb h) = hb := by
        funext k; unfold uf
        by_cases e2 : k = h
        · rw [if_pos e2, e2]
        · rw [if_neg e2]
      have h3 := HL_uf (cy := cy) (hb := hb) (hi := hi) (hr := hr) (h := h) (b := hb h) (i := i) (r := r) n (by omega)
      rw [h2] at h3; exact h3
    · rw [if_neg e, if_neg e, ih]
      unfold uf
      rw [if_neg e, if_neg e]
theorem vaP_mem {D : va_G} {cl : List vw_C} {w1 w2 : va_W} {H : Heap} (hs : ∀ q ∈ w2, q ∈ w1) (h : va_P D cl w1 H) : va_P D cl w2 H := by
  intro k q hq
  obtain ⟨j, hj⟩ := List.mem_iff_getElem?.mp (hs q (List.mem_of_getElem? hq))
  exact h j q hj
theorem vaP_perm {D : va_G} {cl : List vw_C} {w1 w2 : va_W} {H : Heap} (hp : w1.Perm w2) (h : va_P D cl w1 H) : va_P D cl w2 H := vaP_mem (fun q hq => hp.mem_iff.mpr hq) h
theorem vaD_nd {A : Nat → Prop} {w : va_W} : va_D A w ↔ (w.map Prod.fst).Nodup ∧ ∀ q ∈ w, A q.1 := by
  constructor
  · intro h
    refine ⟨?_, fun q hq => ?_⟩
    · refine List.pairwise_iff_getElem.mpr (fun i j hi hj hij e => ?_)
      rw [List.length_map] at hi hj
      rw [List.getElem_map, List.getElem_map] at e
      have := h.1 i j _ _ (List.getElem?_eq_getElem hi) (List.getElem?_eq_getElem hj) e
      omega
    · obtain ⟨j, hj⟩ := List.mem_iff_getElem?.mp hq
      exact h.2 j q hj
  · rintro ⟨hn, ha⟩
    refine ⟨fun i j p q hp hq e => ?_, fun k q hq => ha q (List.mem_of_getElem? hq)⟩
    obtain ⟨li, hi⟩ := List.getElem?_eq_some_iff.mp hp
    obtain ⟨lj, hj⟩ := List.getElem?_eq_some_iff.mp hq
    have hn2 := List.pairwise_iff_getElem.mp hn
    rcases Nat.lt_trichotomy i j with h | h | h
    · exact absurd (by rw [List.getElem_map, List.getElem_map, hi, hj]; exact e) (hn2 i j (by rw [List.length_map]; exact li) (by rw [List.length_map]; exact lj) h)
    · exact h
    · exact absurd (by rw [List.getElem_map, List.getElem_map, hi, hj]; exact e.symm) (hn2 j i (by rw [List.length_map]; exact lj) (by rw [List.length_map]; exact li) h)
theorem vaD_perm {A : Nat → Prop} {w1 w2 : va_W} (hp : w1.Perm w2) (h : va_D A w1) : va_D A w2 := by
  rw [vaD_nd] at h ⊢
  exact ⟨(hp.map Prod.fst).nodup_iff.mp h.1, fun q hq => h.2 q (hp.mem_iff.mpr hq)⟩
/-- home h beside the class's own cells -/
theorem zoom {cy : Nat → ClassId} {a : Nat → Nat} {i : Nat → Int32} {r : Nat → Nat → Int32} {q : Nat → Option Nat} {hb : Nat → Nat → Nat} {hi : Nat → Nat → Int32} {hr : Nat → Nat → Nat → Int32} {n h : Nat} {tl : va_W} (hn : h < n) :
    (xW cy a i r q (a 20) (a 12) ++ (HL cy hb hi hr n ++ tl)).Perm (xW cy (mixA a (hb h)) (mixI i (hi h)) (mixR r (hr h)) q (mixA a (hb h) 20) (mixA a (hb h) 12) ++ (hW cy (mixA a (hb h)) (mixI i (hi h)) (mixR r (hr h)) ++ (HX cy hb hi hr h n ++ tl))) := by
  show (xW cy a i r q (a 20) (a 12) ++ (HL cy hb hi hr n ++ tl)).Perm (xW cy a i r q (a 20) (a 12) ++ (hW cy (hb h) (hi h) (hr h) ++ (HX cy hb hi hr h n ++ tl)))
  refine List.Perm.append_left _ ?_
  rw [← List.append_assoc]
  exact (HL_perm n hn).append_right _
/-- back again, the home changed -/
theorem unzoom {cy : Nat → ClassId} {a : Nat → Nat} {i i2 : Nat → Int32} {r r2 : Nat → Nat → Int32} {q : Nat → Option Nat} {hb : Nat → Nat → Nat} {hi : Nat → Nat → Int32} {hr : Nat → Nat → Nat → Int32} {n h : Nat} {tl : va_W} (hn : h < n) :
    (xW cy (mixA a (hb h)) i2 r2 q (mixA a (hb h) 20) (mixA a (hb h) 12) ++ (hW cy (mixA a (hb h)) i2 r2 ++ (HX cy hb hi hr h n ++ tl))).Perm (xW cy a i2 r2 q (a 20) (a 12) ++ (HL cy hb (uf hi h i2) (uf hr h r2) n ++ tl)) := by
  show (xW cy a i2 r2 q (a 20) (a 12) ++ (hW cy (hb h) i2 r2 ++ (HX cy hb hi hr h n ++ tl))).Perm (xW cy a i2 r2 q (a 20) (a 12) ++ (HL cy hb (uf hi h i2) (uf hr h r2) n ++ tl))
  refine List.Perm.append_left _ ?_
  rw [← List.append_assoc]
  refine List.Perm.append_right _ ?_
  have h1 := (HL_perm (cy := cy) (hb := hb) (hi := uf hi h i2) (hr := uf hr h r2) n hn).symm
  rw [HX_uf] at h1
  have e1 : uf hi h i2 h = i2 := if_pos rfl
  have e2 : uf hr h r2 h = r2 := if_pos rfl
  rw [e1, e2] at h1
  exact h1
/-- what the other side's cells are when one side's call is over -/
theorem joinR {A : Nat → Prop} {D : va_G} {cl : List vw_C} {X M M2 : va_W} {H H1 : Heap} (hP : va_P D cl (X ++ M) H) (hD : va_D A (X ++ M)) (hk : ∀ q : Nat, q < H.size → ¬ va_A M H.size q → H1[q]? = H[q]?) (hP1 : va_P D cl M2 H1) (hF : M2.map Prod.fst = M.map Prod.fst) : va_P D cl (X ++ M2) H1 ∧ va_D A (X ++ M2) := by
  constructor
  · intro k q hq
    by_cases hlt : k < X.length
    · rw [List.getElem?_append_left hlt] at hq
      have hq2 : (X ++ M)[k]? = some q := by rw [List.getElem?_append_left hlt]; exact hq
      refine (hP k q hq2).kept (hk q.1 (hP k q hq2).lt ?_)
      rintro (⟨j, e, hj⟩ | h)
      · have hj2 : (X ++ M)[X.length + j]? = some (q.1, e) := by rw [List.getElem?_append_right (by omega), show X.length + j - X.length = j by omega]; exact hj
        have := hD.1 k (X.length + j) q (q.1, e) hq2 hj2 rfl
        omega
      · exact absurd (hP k q hq2).lt (by omega)
    · rw [List.getElem?_append_right (by omega)] at hq
      exact hP1 _ q hq
  · refine vaD_fst ?_ hD
    rw [List.map_append, List.map_append, hF]
theorem joinN {A : Nat → Prop} {D : va_G} {cl : List vw_C} {ws w2 w3 wn : va_W} {H H1 : Heap} (hP : va_P D cl ws H) (hD : va_D A ws) (is : List Nat) (hC : is.map (fun i => ws[i]?) = w2.map some) (hF : w3.map Prod.fst = w2.map Prod.fst) (hk : ∀ q : Nat, q < H.size → ¬ va_A w2 H.size q → H1[q]? = H[q]?) (hP1 : va_P D cl (w3 ++ wn) H1) (hD1 : va_D (va_A w2 H.size) (w3 ++ wn)) (hA : ∀ q, H.size ≤ q → A q) : va_P D cl (setL ws is w3 ++ wn) H1 ∧ va_D A (setL ws is w3 ++ wn) := by
  obtain ⟨a1, a2⟩ := rj hP hD is hC hF hk (vaP_l hP1)
  have hfresh : ∀ (j : Nat) (q : Nat × va_E), wn[j]? = some q → H.size ≤ q.1 := by
    intro j q hq
    have hq2 : (w3 ++ wn)[w3.length + j]? = some q := by rw [List.getElem?_append_right (by omega), show w3.length + j - w3.length = j by omega]; exact hq
    rcases hD1.2 _ q hq2 with ⟨k, e, hk2⟩ | h
    · have e1 : (w3.map Prod.fst)[k]? = some q.1 := by rw [hF, List.getElem?_map, hk2]; rfl
      rw [List.getElem?_map] at e1
      cases h3 : w3[k]? with
      | none => rw [h3] at e1; cases e1
      | some q3 =>
        rw [h3] at e1
        have h4 : (w3 ++ wn)[k]? = some q3 := by rw [List.getElem?_append_left (List.getElem?_eq_some_iff.mp h3).1]; exact h3
        have h5 := hD1.1 k (w3.length + j) q3 q h4 hq2 (Option.some.inj e1)
        have h6 := (List.getElem?_eq_some_iff.mp h3).1
        omega
    · exact h
  have hset : ∀ (k : Nat) (q : Nat × va_E), (setL ws is w3)[k]? = some q → q.1 < H.size := by
    intro k q hq
    have hf : (setL ws is w3).map Prod.fst = ws.map Prod.fst := setL_fst is w3 ws (by
      have e1 : is.map (fun i => (ws[i]?).map Prod.fst) = (is.map (fun i => ws[i]?)).map (fun o => o.map Prod.fst) := by rw [List.map_map]; rfl
      rw [e1, hC, List.map_map]
      have e2 : w3.map (fun e => some e.1) = (w3.map Prod.fst).map some := by rw [List.map_map]; rfl
      rw [e2, hF, List.map_map]
      rfl)
    have e1 : ((setL ws is w3).map Prod.fst)[k]? = some q.1 := by rw [List.getElem?_map, hq]; rfl
    rw [hf, List.getElem?_map] at e1
    cases h3 : ws[k]? with
    | none => rw [h3] at e1; cases e1
    | some q3 =>
      rw [h3] at e1
      have := (hP k q3 h3).lt
      rw [Option.some.inj e1] at this
      exact this
  refine ⟨fun k q hq => ?_, ?_, fun k q hq => ?_⟩
  · by_cases hlt : k < (setL ws is w3).length
    · rw [List.getElem?_append_left hlt] at hq; exact a1 k q hq
    · rw [List.getElem?_append_right (by omega)] at hq; exact vaP_r hP1 _ q hq
  · intro i j p q hp hq e
    by_cases hi : i < (setL ws is w3).length <;> by_cases hj : j < (setL ws is w3).length
    · rw [List.getElem?_append_left hi] at hp; rw [List.getElem?_append_left hj] at hq; exact a2.1 i j p q hp hq e
    · rw [List.getElem?_append_left hi] at hp; rw [List.getElem?_append_right (by omega)] at hq
      have h1 := hset i p hp; have h2 := hfresh _ q hq; omega
    · rw [List.getElem?_append_right (by omega)] at hp; rw [List.getElem?_append_left hj] at hq
      have h1 := hset j q hq; have h2 := hfresh _ p hp; omega
    · rw [List.getElem?_append_right (by omega)] at hp hq
      have := (vaD_r hD1).1 _ _ p q hp hq e; omega
  · by_cases hlt : k < (setL ws is w3).length
    · rw [List.getElem?_append_left hlt] at hq; exact a2.2 k q hq
    · rw [List.getElem?_append_right (by omega)] at hq; exact hA _ (hfresh _ q hq)
/-- the two laws in one another's place -/
def swp (p : Nat) : Nat := if 12 ≤ p ∧ p < 20 then p + 8 else if 20 ≤ p ∧ p < 28 then p - 8 else p
def swi (k : Nat) : Nat := if k = 6 then 8 else if k = 7 then 9 else if k = 8 then 6 else if k = 9 then 7 else k
theorem swap_perm {cy : Nat → ClassId} {a : Nat → Nat} {i : Nat → Int32} {r : Nat → Nat → Int32} {q : Nat → Option Nat} {tl : va_W} :
    (xW cy a i r q (a 12) (a 20) ++ tl).Perm (xW cy (fun p => a (swp p)) (fun k => i (swi k)) (fun p => r (swp p)) q (a (swp 20)) (a (swp 12)) ++ tl) := by
  refine List.Perm.append_right _ ?_
  show ((xW cy a i r q (a 12) (a 20)).take 12 ++ (((xW cy a i r q (a 12) (a 20)).drop 12).take 8 ++ (((xW cy a i r q (a 12) (a 20)).drop 20).take 8 ++ (xW cy a i r q (a 12) (a 20)).drop 28))).Perm ((xW cy a i r q (a 12) (a 20)).take 12 ++ (((xW cy a i r q (a 12) (a 20)).drop 20).take 8 ++ (((xW cy a i r q (a 12) (a 20)).drop 12).take 8 ++ (xW cy a i r q (a 12) (a 20)).drop 28)))
  refine List.Perm.append_left _ ?_
  rw [← List.append_assoc, ← List.append_assoc]
  exact List.perm_append_comm.append_right _
theorem swi_yi (k : Nat) : yilo (swi k) = yilo k ∧ yihi (swi k) = yihi k := by
  unfold swi
  by_cases h6 : k = 6
  · subst h6; decide
  by_cases h7 : k = 7
  · subst h7; decide
  by_cases h8 : k = 8
  · subst h8; decide
  by_cases h9 : k = 9
  · subst h9; decide
  rw [if_neg h6, if_neg h7, if_neg h8, if_neg h9]; exact ⟨rfl, rfl⟩
theorem swp_yr (p : Nat) : yrlo (swp p) = yrlo p ∧ yrhi (swp p) = yrhi p := by
  by_cases h : p < 28
  · have : ∀ p, p < 28 → yrlo (swp p) = yrlo p ∧ yrhi (swp p) = yrhi p := by decide
    exact this p h
  · unfold swp
    rw [if_neg (by omega), if_neg (by omega)]; exact ⟨rfl, rfl⟩
theorem swap_Ri {i : Nat → Int32} (h : yRi i) : yRi (fun k => i (swi k)) := fun k => by have := h (swi k); rw [(swi_yi k).1, (swi_yi k).2] at this; exact this
theorem swap_Rr {r : Nat → Nat → Int32} (h : yRr r) : yRr (fun p => r (swp p)) := fun p j => by have := h (swp p) j; rw [(swp_yr p).1, (swp_yr p).2] at this; exact this
def hJ (p0 p1 p2 p3 p4 p5 : Int32) : Nat → Int32 := fun k => if k = 17 then p0 else if k = 18 then p1 else if k = 19 then p2 else if k = 20 then p3 else if k = 21 then p4 else if k = 22 then p5 else 0
def hRw (f : Nat → Int32) : Nat → Nat → Int32 := fun p => if p = 62 then f else fun _ => 0
set_option maxHeartbeats 4000000 in
set_option maxRecDepth 100000 in
theorem c_X10_init (l : Launch) (D : va_G) (cy : Nat → ClassId) (h0 : Nat) (sz : Nat) : Met l yX10_init (Cond.code yX10_init cX10_init 1 none :: gT) { frames := 1, cells := 4, slots := 80, locals := 24 } (va_Pc [.ref h0] (rQ D cy [(h0, .inr (10, [.int 0, .null, .null, .null, .null]))] sz)) (va_Qv (fun u : (Nat → Nat) × (Nat → Nat → Int32) => True) (fun (u : (Nat → Nat) × (Nat → Nat → Int32)) t => va_P D vwCl [(h0, .inr (10, [.int 0, .ref (u.1 1), .ref (u.1 2), .ref (u.1 3), .ref (u.1 4)])), (u.1 1, .inl (cy 0, 20, .inl (fun _ => 0))), (u.1 2, .inl (cy 0, 20, .inl (fun _ => 0))), (u.1 3, .inl (cy 0, 20, .inl (fun _ => 0))), (u.1 4, .inl (cy 0, 20, .inl (fun _ => 0)))] t.heap ∧ va_K D vwCl (vT cy) t ∧ va_D (va_A [(h0, .inr (10, [.int 0, .null, .null, .null, .null]))] sz) [(h0, .inr (10, [.int 0, .ref (u.1 1), .ref (u.1 2), .ref (u.1 3), .ref (u.1 4)])), (u.1 1, .inl (cy 0, 20, .inl (fun _ => 0))), (u.1 2, .inl (cy 0, 20, .inl (fun _ => 0))), (u.1 3, .inl (cy 0, 20, .inl (fun _ => 0))), (u.1 4, .inl (cy 0, 20, .inl (fun _ => 0)))]) (va_A [(h0, .inr (10, [.int 0, .null, .null, .null, .null]))] sz)) 4 80 (va_A [(h0, .inr (10, [.int 0, .null, .null, .null, .null]))] sz) := by
  refine Met.ofQ (cc := cX10_init) (maxL := 1) (ret := none) (by decide) rfl ?_
  intro p e s m args below meth c s₁ B hml hv Q hQ
  obtain ⟨rfl, hsz, hP, hK, hD0⟩ := hv
  have hx := B.exec
  have hb := B.bytes
  have hr := B.returns
  have hlocks := B.notSynchronized
  have hT : ∀ w ∈ gT, w.before _ s = true := fun w h => atoms_spec (ws := (Cond.code yX10_init cX10_init 1 none :: gT)) B.pre w (List.mem_cons_of_mem _ h)
  have hown : s.vm.findClass RX10 = some m.cls := findClass_of_methodNamed B.named
  have hin : meth.name = "<init>" := (name_of_methodNamed B.named B.method).1
  subst hsz
  have hD := hD0.self (sz := s.heap.size)
  generalize hAe : va_A [(h0, .inr (10, [.int 0, .null, .null, .null, .null]))] s.heap.size = A at hD hQ
  have hA : ∀ q : Nat, s.heap.size ≤ q → A q := fun q h => by rw [← hAe]; exact Or.inr h
  have hS : va_S A s.heap s.heap [] := va_S.rf
  have hl := lv_entry ([.ref h0]) (n := 1) (Nat.le_of_ble_eq_true rfl)
  rw [lg_entry_eq]
  generalize (lg_sl ([.ref h0]) ++ List.replicate (1 - (lg_sl ([.ref h0])).length) Slot.unset).toArray = ls at hl ⊢
  have hl : lv_has ls 1 [(0, .ref h0)] := hl
  refine lv_aload_n hx hb dX10_init_0 rfl (lv_at hl 0 rfl) ?_
  refine W.objInit hx hb hown (hT _ t_797) (hT _ t_730) (hT _ t_731) rfl (by rw [hml]; exact hl.1) rfl dX10_init_1 (Nat.le_of_ble_eq_true rfl) (Nat.le_of_ble_eq_true rfl) ?_
  refine W.eq (g2 := F0 m 4 ls []) rfl ?_
  refine lv_aload_n hx hb dX10_init_4 rfl (lv_at hl 0 rfl) ?_
  refine lv_iconst (v := 0) hx hb dX10_init_5 (by decide) ?_
  refine va_put (D := D) (ci := 10) (v := .int 0) (ty := .int) (C := RX10) (T := TX10) (N := 5) hx hb hT iX10 tyX10 tyX10_ok nmX10 hown hK hP hD hS 0 rfl rfl 0 (by decide) (hT _ t_402) (fun _ h9 => h9) rfl (by decide +kernel) rfl rfl (Nat.le_of_ble_eq_true rfl) dX10_init_6 (fun H locs hP hD hS => ?_)
  have hP : va_P D vwCl [(h0, .inr (10, [.int 0, .null, .null, .null, .null]))] H := hP
  have hD : va_D A [(h0, .inr (10, [.int 0, .null, .null, .null, .null]))] := hD
  refine lv_aload_n hx hb dX10_init_9 rfl (lv_at hl 0 rfl) ?_
  refine lv_bipush (v := 20) hx hb dX10_init_10 (by decide) ?_
  refine r_newI (N := 20) hx hb (hT _ t_732) hK hP hD hS hA (by decide) (by decide) (by decide) (Nat.le_of_ble_eq_true rfl) (Nat.le_of_ble_eq_true rfl) dX10_init_12 (fun q_1 H hP hD hS => ?_)
  have hP : va_P D vwCl [(h0, .inr (10, [.int 0, .null, .null, .null, .null])), (q_1, .inl (cy 0, 20, .inl (fun _ => 0)))] H := hP
  have hD : va_D A [(h0, .inr (10, [.int 0, .null, .null, .null, .null])), (q_1, .inl (cy 0, 20, .inl (fun _ => 0)))] := hD
  refine W.widen (k := 1) (n := 20) (Nat.le_of_ble_eq_true rfl) (Nat.le_of_ble_eq_true rfl) ?_
  refine va_putF (D := D) (ci := 10) (v := .ref q_1) (ty := .array .int) (C := RX10) (T := TX10) (N := 5) hx hb hT iX10 tyX10 tyX10_ok nmX10 hown hK hP hD hS 0 rfl rfl 1 (by decide) (hT _ t_403) (fun _ h9 => h9) rfl hin rfl (by decide +kernel) rfl rfl (Nat.le_of_ble_eq_true rfl) dX10_init_14 (fun H locs hP hD hS => ?_)
  have hP : va_P D vwCl [(h0, .inr (10, [.int 0, .ref q_1, .null, .null, .null])), (q_1, .inl (cy 0, 20, .inl (fun _ => 0)))] H := hP
  have hD : va_D A [(h0, .inr (10, [.int 0, .ref q_1, .null, .null, .null])), (q_1, .inl (cy 0, 20, .inl (fun _ => 0)))] := hD
  refine lv_aload_n hx hb dX10_init_17 rfl (lv_at hl 0 rfl) ?_
  refine lv_bipush (v := 20) hx hb dX10_init_18 (by decide) ?_
  refine r_newI (N := 20) hx hb (hT _ t_732) hK hP hD hS hA (by decide) (by decide) (by decide) (Nat.le_of_ble_eq_true rfl) (Nat.le_of_ble_eq_true rfl) dX10_init_20 (fun q_2 H hP hD hS => ?_)
  have hP : va_P D vwCl [(h0, .inr (10, [.int 0, .ref q_1, .null, .null, .null])), (q_1, .inl (cy 0, 20, .inl (fun _ => 0))), (q_2, .inl (cy 0, 20, .inl (fun _ => 0)))] H := hP
  have hD : va_D A [(h0, .inr (10, [.int 0, .ref q_1, .null, .null, .null])), (q_1, .inl (cy 0, 20, .inl (fun _ => 0))), (q_2, .inl (cy 0, 20, .inl (fun _ => 0)))] := hD
  refine W.widen (k := 2) (n := 40) (Nat.le_of_ble_eq_true rfl) (Nat.le_of_ble_eq_true rfl) ?_
  refine va_putF (D := D) (ci := 10) (v := .ref q_2) (ty := .array .int) (C := RX10) (T := TX10) (N := 5) hx hb hT iX10 tyX10 tyX10_ok nmX10 hown hK hP hD hS 0 rfl rfl 2 (by decide) (hT _ t_404) (fun _ h9 => h9) rfl hin rfl (by decide +kernel) rfl rfl (Nat.le_of_ble_eq_true rfl) dX10_init_22 (fun H locs hP hD hS => ?_)
  have hP : va_P D vwCl [(h0, .inr (10, [.int 0, .ref q_1, .ref q_2, .null, .null])), (q_1, .inl (cy 0, 20, .inl (fun _ => 0))), (q_2, .inl (cy 0, 20, .inl (fun _ => 0)))] H := hP
  have hD : va_D A [(h0, .inr (10, [.int 0, .ref q_1, .ref q_2, .null, .null])), (q_1, .inl (cy 0, 20, .inl (fun _ => 0))), (q_2, .inl (cy 0, 20, .inl (fun _ => 0)))] := hD
  refine lv_aload_n hx hb dX10_init_25 rfl (lv_at hl 0 rfl) ?_
  refine lv_bipush (v := 20) hx hb dX10_init_26 (by decide) ?_
  refine r_newI (N := 20) hx hb (hT _ t_732) hK hP hD hS hA (by decide) (by decide) (by decide) (Nat.le_of_ble_eq_true rfl) (Nat.le_of_ble_eq_true rfl) dX10_init_28 (fun q_3 H hP hD hS => ?_)
  have hP : va_P D vwCl [(h0, .inr (10, [.int 0, .ref q_1, .ref q_2, .null, .null])), (q_1, .inl (cy 0, 20, .inl (fun _ => 0))), (q_2, .inl (cy 0, 20, .inl (fun _ => 0))), (q_3, .inl (cy 0, 20, .inl (fun _ => 0)))] H := hP
  have hD : va_D A [(h0, .inr (10, [.int 0, .ref q_1, .ref q_2, .null, .null])), (q_1, .inl (cy 0, 20, .inl (fun _ => 0))), (q_2, .inl (cy 0, 20, .inl (fun _ => 0))), (q_3, .inl (cy 0, 20, .inl (fun _ => 0)))] := hD
  refine W.widen (k := 3) (n := 60) (Nat.le_of_ble_eq_true rfl) (Nat.le_of_ble_eq_true rfl) ?_
  refine va_putF (D := D) (ci := 10) (v := .ref q_3) (ty := .array .int) (C := RX10) (T := TX10) (N := 5) hx hb hT iX10 tyX10 tyX10_ok nmX10 hown hK hP hD hS 0 rfl rfl 3 (by decide) (hT _ t_405) (fun _ h9 => h9) rfl hin rfl (by decide +kernel) rfl rfl (Nat.le_of_ble_eq_true rfl) dX10_init_30 (fun H locs hP hD hS => ?_)
  have hP : va_P D vwCl [(h0, .inr (10, [.int 0, .ref q_1, .ref q_2, .ref q_3, .null])), (q_1, .inl (cy 0, 20, .inl (fun _ => 0))), (q_2, .inl (cy 0, 20, .inl (fun _ => 0))), (q_3, .inl (cy 0, 20, .inl (fun _ => 0)))] H := hP
  have hD : va_D A [(h0, .inr (10, [.int 0, .ref q_1, .ref q_2, .ref q_3, .null])), (q_1, .inl (cy 0, 20, .inl (fun _ => 0))), (q_2, .inl (cy 0, 20, .inl (fun _ => 0))), (q_3, .inl (cy 0, 20, .inl (fun _ => 0)))] := hD
  refine lv_aload_n hx hb dX10_init_33 rfl (lv_at hl 0 rfl) ?_
  refine lv_bipush (v := 20) hx hb dX10_init_34 (by decide) ?_
  refine r_newI (N := 20) hx hb (hT _ t_732) hK hP hD hS hA (by decide) (by decide) (by decide) (Nat.le_of_ble_eq_true rfl) (Nat.le_of_ble_eq_true rfl) dX10_init_36 (fun q_4 H hP hD hS => ?_)
  have hP : va_P D vwCl [(h0, .inr (10, [.int 0, .ref q_1, .ref q_2, .ref q_3, .null])), (q_1, .inl (cy 0, 20, .inl (fun _ => 0))), (q_2, .inl (cy 0, 20, .inl (fun _ => 0))), (q_3, .inl (cy 0, 20, .inl (fun _ => 0))), (q_4, .inl (cy 0, 20, .inl (fun _ => 0)))] H := hP
  have hD : va_D A [(h0, .inr (10, [.int 0, .ref q_1, .ref q_2, .ref q_3, .null])), (q_1, .inl (cy 0, 20, .inl (fun _ => 0))), (q_2, .inl (cy 0, 20, .inl (fun _ => 0))), (q_3, .inl (cy 0, 20, .inl (fun _ => 0))), (q_4, .inl (cy 0, 20, .inl (fun _ => 0)))] := hD
  refine W.widen (k := 4) (n := 80) (Nat.le_of_ble_eq_true rfl) (Nat.le_of_ble_eq_true rfl) ?_
  refine va_putF (D := D) (ci := 10) (v := .ref q_4) (ty := .array .int) (C := RX10) (T := TX10) (N := 5) hx hb hT iX10 tyX10 tyX10_ok nmX10 hown hK hP hD hS 0 rfl rfl 4 (by decide) (hT _ t_406) (fun _ h9 => h9) rfl hin rfl (by decide +kernel) rfl rfl (Nat.le_of_ble_eq_true rfl) dX10_init_38 (fun H locs hP hD hS => ?_)
  have hP : va_P D vwCl [(h0, .inr (10, [.int 0, .ref q_1, .ref q_2, .ref q_3, .ref q_4])), (q_1, .inl (cy 0, 20, .inl (fun _ => 0))), (q_2, .inl (cy 0, 20, .inl (fun _ => 0))), (q_3, .inl (cy 0, 20, .inl (fun _ => 0))), (q_4, .inl (cy 0, 20, .inl (fun _ => 0)))] H := hP
  have hD : va_D A [(h0, .inr (10, [.int 0, .ref q_1, .ref q_2, .ref q_3, .ref q_4])), (q_1, .inl (cy 0, 20, .inl (fun _ => 0))), (q_2, .inl (cy 0, 20, .inl (fun _ => 0))), (q_3, .inl (cy 0, 20, .inl (fun _ => 0))), (q_4, .inl (cy 0, 20, .inl (fun _ => 0)))] := hD
  subst hQ
  have hP9 := hP.sub (ws' := [(h0, .inr (10, [.int 0, .ref q_1, .ref q_2, .ref q_3, .ref q_4])), (q_1, .inl (cy 0, 20, .inl (fun _ => 0))), (q_2, .inl (cy 0, 20, .inl (fun _ => 0))), (q_3, .inl (cy 0, 20, .inl (fun _ => 0))), (q_4, .inl (cy 0, 20, .inl (fun _ => 0)))]) [0, 1, 2, 3, 4] rfl
  have hD9 := hD.sub (ws' := [(h0, .inr (10, [.int 0, .ref q_1, .ref q_2, .ref q_3, .ref q_4])), (q_1, .inl (cy 0, 20, .inl (fun _ => 0))), (q_2, .inl (cy 0, 20, .inl (fun _ => 0))), (q_3, .inl (cy 0, 20, .inl (fun _ => 0))), (q_4, .inl (cy 0, 20, .inl (fun _ => 0)))]) [0, 1, 2, 3, 4] (by decide) rfl
  exact W.vret hx hb hr (fun t ht hW => ⟨⟨((fun k => [h0, q_1, q_2, q_3, q_4].getD k 0), (fun k => [fun _ => 0, fun _ => 0, fun _ => 0, fun _ => 0, fun _ => 0].getD k (fun _ => 0))), rfl, trivial, by rw [ht]; exact hP9, va_K.moved hW.alike hK, hD9⟩, hS.F ht⟩) hS.2.2 dX10_init_41
set_option maxHeartbeats 4000000 in
set_option maxRecDepth 100000 in
theorem c_X3_init (l : Launch) (D : va_G) (cy : Nat → ClassId) (h0 : Nat) (p0 p1 p2 p3 p4 p5 : Int32) (sz : Nat) (hk : p5 = 0 ∨ p5 = 1) : Met l yX3_init (Cond.code yX3_init cX3_init 8 none :: gT) { frames := 2, cells := 14, slots := 203, locals := 44 } (va_Pc [.ref h0, .int p0, .int p1, .int p2, .int p3, .int p4, .int p5] (rN D cy [(h0, .inr (3, [.int 0, .int 0, .int 0, .int 0, .int 0, .int 0, .null, .null, .null, .null, .null, .null]))] sz)) (va_Qv (fun u : (Nat → Nat) × (Nat → Int32) => u.1 61 = h0 ∧ ∀ t, u.2 t = if t < 4 then 1 else 0) (fun (u : (Nat → Nat) × (Nat → Int32)) t => va_P D vwCl (hW cy u.1 (hJ p0 p1 p2 p3 p4 p5) (hRw u.2)) t.heap ∧ va_K D vwCl (vT cy) t ∧ va_D (va_A [(h0, .inr (3, [.int 0, .int 0, .int 0, .int 0, .int 0, .int 0, .null, .null, .null, .null, .null, .null]))] sz) (hW cy u.1 (hJ p0 p1 p2 p3 p4 p5) (hRw u.2))) (va_A [(h0, .inr (3, [.int 0, .int 0, .int 0, .int 0, .int 0, .int 0, .null, .null, .null, .null, .null, .null]))] sz)) 14 203 (va_A [(h0, .inr (3, [.int 0, .int 0, .int 0, .int 0, .int 0, .int 0, .null, .null, .null, .null, .null, .null]))] sz) := by
  refine Met.ofQ (cc := cX3_init) (maxL := 8) (ret := none) (by decide) rfl ?_
  intro p e s m args below meth c s₁ B hml hv Q hQ
  obtain ⟨rfl, hnw, hsz, hP, hK, hD0⟩ := hv
  have hx := B.exec
  have hb := B.bytes
  have hr := B.returns
  have hlocks := B.notSynchronized
  have hT : ∀ w ∈ gT, w.before _ s = true := fun w h => atoms_spec (ws := (Cond.code yX3_init cX3_init 8 none :: gT)) B.pre w (List.mem_cons_of_mem _ h)
  have hown : s.vm.findClass RX3 = some m.cls := findClass_of_methodNamed B.named
  have hin : meth.name = "<init>" := (name_of_methodNamed B.named B.method).1
  subst hsz
  have hD := hD0.self (sz := s.heap.size)
  generalize hAe : va_A [(h0, .inr (3, [.int 0, .int 0, .int 0, .int 0, .int 0, .int 0, .null, .null, .null, .null, .null, .null]))] s.heap.size = A at hD hQ
  have hA : ∀ q : Nat, s.heap.size ≤ q → A q := fun q h => by rw [← hAe]; exact Or.inr h
  have hS : va_S A s.heap s.heap [] := va_S.rf
  have hl := lv_entry ([.ref h0, .int p0, .int p1, .int p2, .int p3, .int p4, .int p5]) (n := 8) (Nat.le_of_ble_eq_true rfl)
  rw [lg_entry_eq]
  generalize (lg_sl ([.ref h0, .int p0, .int p1, .int p2, .int p3, .int p4, .int p5]) ++ List.replicate (8 - (lg_sl ([.ref h0, .int p0, .int p1, .int p2, .int p3, .int p4, .int p5])).length) Slot.unset).toArray = ls at hl ⊢
  have hl : lv_has ls 8 [(0, .ref h0), (1, .int p0), (2, .int p1), (3, .int p2), (4, .int p3), (5, .int p4), (6, .int p5)] := hl
  refine lv_aload_n hx hb dX3_init_0 rfl (lv_at hl 0 rfl) ?_
  refine W.objInit hx hb hown (hT _ t_798) (hT _ t_730) (hT _ t_731) rfl (by rw [hml]; exact hl.1) rfl dX3_init_1 (Nat.le_of_ble_eq_true rfl) (Nat.le_of_ble_eq_true rfl) ?_
  refine W.eq (g2 := F0 m 4 ls []) rfl ?_
  refine lv_aload_n hx hb dX3_init_4 rfl (lv_at hl 0 rfl) ?_
  refine lv_iconst (v := 4) hx hb dX3_init_5 (by decide) ?_
  refine r_newI (N := 4) hx hb (hT _ t_732) hK hP hD hS hA (by decide) (by decide) (by decide) (Nat.le_of_ble_eq_true rfl) (Nat.le_of_ble_eq_true rfl) dX3_init_6 (fun q_1 H hP hD hS => ?_)
  have hP : va_P D vwCl [(h0, .inr (3, [.int 0, .int 0, .int 0, .int 0, .int 0, .int 0, .null, .null, .null, .null, .null, .null])), (q_1, .inl (cy 0, 4, .inl (fun _ => 0)))] H := hP
  have hD : va_D A [(h0, .inr (3, [.int 0, .int 0, .int 0, .int 0, .int 0, .int 0, .null, .null, .null, .null, .null, .null])), (q_1, .inl (cy 0, 4, .inl (fun _ => 0)))] := hD
  refine W.widen (k := 1) (n := 4) (Nat.le_of_ble_eq_true rfl) (Nat.le_of_ble_eq_true rfl) ?_
  refine va_putF (D := D) (ci := 3) (v := .ref q_1) (ty := .array .int) (C := RX3) (T := TX3) (N := 12) hx hb hT iX3 tyX3 tyX3_ok nmX3 hown hK hP hD hS 0 rfl rfl 6 (by decide) (hT _ t_799) (fun _ h9 => h9) rfl hin rfl (by decide +kernel) rfl rfl (Nat.le_of_ble_eq_true rfl) dX3_init_8 (fun H locs hP hD hS => ?_)
  have hP : va_P D vwCl [(h0, .inr (3, [.int 0, .int 0, .int 0, .int 0, .int 0, .int 0, .ref q_1, .null, .null, .null, .null, .null])), (q_1, .inl (cy 0, 4, .inl (fun _ => 0)))] H := hP
  have hD : va_D A [(h0, .inr (3, [.int 0, .int 0, .int 0, .int 0, .int 0, .int 0, .ref q_1, .null, .null, .null, .null, .null])), (q_1, .inl (cy 0, 4, .inl (fun _ => 0)))] := hD
  refine lv_aload_n hx hb dX3_init_11 rfl (lv_at hl 0 rfl) ?_
  refine lv_iconst (v := 3) hx hb dX3_init_12 (by decide) ?_
  refine r_newI (N := 3) hx hb (hT _ t_732) hK hP hD hS hA (by decide) (by decide) (by decide) (Nat.le_of_ble_eq_true rfl) (Nat.le_of_ble_eq_true rfl) dX3_init_13 (fun q_2 H hP hD hS => ?_)
  have hP : va_P D vwCl [(h0, .inr (3, [.int 0, .int 0, .int 0, .int 0, .int 0, .int 0, .ref q_1, .null, .null, .null, .null, .null])), (q_1, .inl (cy 0, 4, .inl (fun _ => 0))), (q_2, .inl (cy 0, 3, .inl (fun _ => 0)))] H := hP
  have hD : va_D A [(h0, .inr (3, [.int 0, .int 0, .int 0, .int 0, .int 0, .int 0, .ref q_1, .null, .null, .null, .null, .null])), (q_1, .inl (cy 0, 4, .inl (fun _ => 0))), (q_2, .inl (cy 0, 3, .inl (fun _ => 0)))] := hD
  refine W.widen (k := 2) (n := 7) (Nat.le_of_ble_eq_true rfl) (Nat.le_of_ble_eq_true rfl) ?_
  refine va_putF (D := D) (ci := 3) (v := .ref q_2) (ty := .array .int) (C := RX3) (T := TX3) (N := 12) hx hb hT iX3 tyX3 tyX3_ok nmX3 hown hK hP hD hS 0 rfl rfl 7 (by decide) (hT _ t_385) (fun _ h9 => h9) rfl hin rfl (by decide +kernel) rfl rfl (Nat.le_of_ble_eq_true rfl) dX3_init_15 (fun H locs hP hD hS => ?_)
  have hP : va_P D vwCl [(h0, .inr (3, [.int 0, .int 0, .int 0, .int 0, .int 0, .int 0, .ref q_1, .ref q_2, .null, .null, .null, .null])), (q_1, .inl (cy 0, 4, .inl (fun _ => 0))), (q_2, .inl (cy 0, 3, .inl (fun _ => 0)))] H := hP
  have hD : va_D A [(h0, .inr (3, [.int 0, .int 0, .int 0, .int 0, .int 0, .int 0, .ref q_1, .ref q_2, .null, .null, .null, .null])), (q_1, .inl (cy 0, 4, .inl (fun _ => 0))), (q_2, .inl (cy 0, 3, .inl (fun _ => 0)))] := hD
  refine lv_aload_n hx hb dX3_init_18 rfl (lv_at hl 0 rfl) ?_
  refine lv_bipush (v := 6) hx hb dX3_init_19 (by decide) ?_
  refine r_newZ (N := 6) hx hb (hT _ t_734) hK hP hD hS hA (by decide) (by decide) (by decide) (Nat.le_of_ble_eq_true rfl) (Nat.le_of_ble_eq_true rfl) dX3_init_21 (fun q_3 H hP hD hS => ?_)
  have hP : va_P D vwCl [(h0, .inr (3, [.int 0, .int 0, .int 0, .int 0, .int 0, .int 0, .ref q_1, .ref q_2, .null, .null, .null, .null])), (q_1, .inl (cy 0, 4, .inl (fun _ => 0))), (q_2, .inl (cy 0, 3, .inl (fun _ => 0))), (q_3, .inl (cy 2, 6, .inl (fun _ => 0)))] H := hP
  have hD : va_D A [(h0, .inr (3, [.int 0, .int 0, .int 0, .int 0, .int 0, .int 0, .ref q_1, .ref q_2, .null, .null, .null, .null])), (q_1, .inl (cy 0, 4, .inl (fun _ => 0))), (q_2, .inl (cy 0, 3, .inl (fun _ => 0))), (q_3, .inl (cy 2, 6, .inl (fun _ => 0)))] := hD
  refine W.widen (k := 3) (n := 13) (Nat.le_of_ble_eq_true rfl) (Nat.le_of_ble_eq_true rfl) ?_
  refine va_putF (D := D) (ci := 3) (v := .ref q_3) (ty := .array .boolean) (C := RX3) (T := TX3) (N := 12) hx hb hT iX3 tyX3 tyX3_ok nmX3 hown hK hP hD hS 0 rfl rfl 8 (by decide) (hT _ t_386) (fun _ h9 => h9) rfl hin rfl (by decide +kernel) rfl rfl (Nat.le_of_ble_eq_true rfl) dX3_init_23 (fun H locs hP hD hS => ?_)
  have hP : va_P D vwCl [(h0, .inr (3, [.int 0, .int 0, .int 0, .int 0, .int 0, .int 0, .ref q_1, .ref q_2, .ref q_3, .null, .null, .null])), (q_1, .inl (cy 0, 4, .inl (fun _ => 0))), (q_2, .inl (cy 0, 3, .inl (fun _ => 0))), (q_3, .inl (cy 2, 6, .inl (fun _ => 0)))] H := hP
  have hD : va_D A [(h0, .inr (3, [.int 0, .int 0, .int 0, .int 0, .int 0, .int 0, .ref q_1, .ref q_2, .ref q_3, .null, .null, .null])), (q_1, .inl (cy 0, 4, .inl (fun _ => 0))), (q_2, .inl (cy 0, 3, .inl (fun _ => 0))), (q_3, .inl (cy 2, 6, .inl (fun _ => 0)))] := hD
  refine lv_aload_n hx hb dX3_init_26 rfl (lv_at hl 0 rfl) ?_
  refine va_new (ci := 10) (fs := [.int 0, .null, .null, .null, .null]) (C := RX10) (T := TX10) (N := 5) hx hb hT iX10 tyX10 tyX10_ok hown (hT _ t_800) (hT _ t_801) (hT _ t_413) hK hP hD hS hA rfl (fun j hj => dfl10 j hj) (Nat.le_of_ble_eq_true rfl) (Nat.le_of_ble_eq_true rfl) dX3_init_27 (fun q_4 H hP hD hS => ?_)
  have hP : va_P D vwCl [(h0, .inr (3, [.int 0, .int 0, .int 0, .int 0, .int 0, .int 0, .ref q_1, .ref q_2, .ref q_3, .null, .null, .null])), (q_1, .inl (cy 0, 4, .inl (fun _ => 0))), (q_2, .inl (cy 0, 3, .inl (fun _ => 0))), (q_3, .inl (cy 2, 6, .inl (fun _ => 0))), (q_4, .inr (10, [.int 0, .null, .null, .null, .null]))] H := hP
  have hD : va_D A [(h0, .inr (3, [.int 0, .int 0, .int 0, .int 0, .int 0, .int 0, .ref q_1, .ref q_2, .ref q_3, .null, .null, .null])), (q_1, .inl (cy 0, 4, .inl (fun _ => 0))), (q_2, .inl (cy 0, 3, .inl (fun _ => 0))), (q_3, .inl (cy 2, 6, .inl (fun _ => 0))), (q_4, .inr (10, [.int 0, .null, .null, .null, .null]))] := hD
  refine W.widen (k := 4) (n := 18) (Nat.le_of_ble_eq_true rfl) (Nat.le_of_ble_eq_true rfl) ?_
  refine lv_dup hx hb dX3_init_30 rfl ?_
  have hP_5 := hP.sub (ws' := [(q_4, .inr (10, [.int 0, .null, .null, .null, .null]))]) [4] rfl
  have hD_7 := hD.sub (ws' := [(q_4, .inr (10, [.int 0, .null, .null, .null, .null]))]) [4] (by decide) rfl
  have hF_6 := va_free (wc := [(q_4, .inr (10, [.int 0, .null, .null, .null, .null]))]) hD hS hA [4] rfl
  refine va_callv (va_runIN (As := []) (rest := [.ref q_4, .ref h0]) ⟨hx, hb, hml, hown, hT⟩ (c_X10_init l D cy q_4 _) ⟨va_cnB 0 hT (gI t_802) rfl rfl rfl (hnw.2.2.2.2.2.2.2.1) (hT _ t_413) (by decide +kernel) ⟨Nat.le_of_ble_eq_true rfl, Nat.le_of_ble_eq_true rfl⟩, rfl, (hT _ t_803)⟩ (rQ_s hP_5 hK hD_7) rfl rfl hl.1 rfl (lv_room (Nat.le_of_ble_eq_true rfl)) dX3_init_31 ⟨Nat.le_of_ble_eq_true rfl, Nat.le_of_ble_eq_true rfl⟩) hS (fun q _ h => hF_6 q h) hF_6 (fun u_9 t H1 locs ht hvm hr_8 hB hz1 hk1 hS => ?_)
  obtain ⟨hP1, hK1, hD1⟩ := hB
  rw [ht] at hP1
  obtain ⟨hP, hD⟩ := va_join (wr := [(h0, .inr (3, [.int 0, .int 0, .int 0, .int 0, .int 0, .int 0, .ref q_1, .ref q_2, .ref q_3, .null, .null, .null])), (q_1, .inl (cy 0, 4, .inl (fun _ => 0))), (q_2, .inl (cy 0, 3, .inl (fun _ => 0))), (q_3, .inl (cy 2, 6, .inl (fun _ => 0)))]) (w1 := [(q_4, .inr (10, [.int 0, .ref (u_9.1 1), .ref (u_9.1 2), .ref (u_9.1 3), .ref (u_9.1 4)])), (u_9.1 1, .inl (cy 0, 20, .inl (fun _ => 0))), (u_9.1 2, .inl (cy 0, 20, .inl (fun _ => 0))), (u_9.1 3, .inl (cy 0, 20, .inl (fun _ => 0))), (u_9.1 4, .inl (cy 0, 20, .inl (fun _ => 0)))]) hP hD [4] [0, 1, 2, 3] rfl rfl (by decide) (by decide) hk1 hF_6 hP1 hD1
  have hP : va_P D vwCl [(h0, .inr (3, [.int 0, .int 0, .int 0, .int 0, .int 0, .int 0, .ref q_1, .ref q_2, .ref q_3, .null, .null, .null])), (q_1, .inl (cy 0, 4, .inl (fun _ => 0))), (q_2, .inl (cy 0, 3, .inl (fun _ => 0))), (q_3, .inl (cy 2, 6, .inl (fun _ => 0))), (q_4, .inr (10, [.int 0, .ref (u_9.1 1), .ref (u_9.1 2), .ref (u_9.1 3), .ref (u_9.1 4)])), (u_9.1 1, .inl (cy 0, 20, .inl (fun _ => 0))), (u_9.1 2, .inl (cy 0, 20, .inl (fun _ => 0))), (u_9.1 3, .inl (cy 0, 20, .inl (fun _ => 0))), (u_9.1 4, .inl (cy 0, 20, .inl (fun _ => 0)))] H1 := hP
  have hD : va_D A [(h0, .inr (3, [.int 0, .int 0, .int 0, .int 0, .int 0, .int 0, .ref q_1, .ref q_2, .ref q_3, .null, .null, .null])), (q_1, .inl (cy 0, 4, .inl (fun _ => 0))), (q_2, .inl (cy 0, 3, .inl (fun _ => 0))), (q_3, .inl (cy 2, 6, .inl (fun _ => 0))), (q_4, .inr (10, [.int 0, .ref (u_9.1 1), .ref (u_9.1 2), .ref (u_9.1 3), .ref (u_9.1 4)])), (u_9.1 1, .inl (cy 0, 20, .inl (fun _ => 0))), (u_9.1 2, .inl (cy 0, 20, .inl (fun _ => 0))), (u_9.1 3, .inl (cy 0, 20, .inl (fun _ => 0))), (u_9.1 4, .inl (cy 0, 20, .inl (fun _ => 0)))] := hD
  refine W.widen (k := 8) (n := 98) (Nat.le_of_ble_eq_true rfl) (Nat.le_of_ble_eq_true rfl) ?_
  refine va_putF (D := D) (ci := 3) (v := .ref q_4) (ty := .object "DepositJudge$Things") (C := RX3) (T := TX3) (N := 12) hx hb hT iX3 tyX3 tyX3_ok nmX3 hown hK hP hD hS 0 rfl rfl 9 (by decide) (hT _ t_396) (fun _ h9 => h9) rfl hin rfl (by decide +kernel) rfl rfl (Nat.le_of_ble_eq_true rfl) dX3_init_34 (fun H locs hP hD hS => ?_)
  have hP : va_P D vwCl [(h0, .inr (3, [.int 0, .int 0, .int 0, .int 0, .int 0, .int 0, .ref q_1, .ref q_2, .ref q_3, .ref q_4, .null, .null])), (q_1, .inl (cy 0, 4, .inl (fun _ => 0))), (q_2, .inl (cy 0, 3, .inl (fun _ => 0))), (q_3, .inl (cy 2, 6, .inl (fun _ => 0))), (q_4, .inr (10, [.int 0, .ref (u_9.1 1), .ref (u_9.1 2), .ref (u_9.1 3), .ref (u_9.1 4)])), (u_9.1 1, .inl (cy 0, 20, .inl (fun _ => 0))), (u_9.1 2, .inl (cy 0, 20, .inl (fun _ => 0))), (u_9.1 3, .inl (cy 0, 20, .inl (fun _ => 0))), (u_9.1 4, .inl (cy 0, 20, .inl (fun _ => 0)))] H := hP
  have hD : va_D A [(h0, .inr (3, [.int 0, .int 0, .int 0, .int 0, .int 0, .int 0, .ref q_1, .ref q_2, .ref q_3, .ref q_4, .null, .null])), (q_1, .inl (cy 0, 4, .inl (fun _ => 0))), (q_2, .inl (cy 0, 3, .inl (fun _ => 0))), (q_3, .inl (cy 2, 6, .inl (fun _ => 0))), (q_4, .inr (10, [.int 0, .ref (u_9.1 1), .ref (u_9.1 2), .ref (u_9.1 3), .ref (u_9.1 4)])), (u_9.1 1, .inl (cy 0, 20, .inl (fun _ => 0))), (u_9.1 2, .inl (cy 0, 20, .inl (fun _ => 0))), (u_9.1 3, .inl (cy 0, 20, .inl (fun _ => 0))), (u_9.1 4, .inl (cy 0, 20, .inl (fun _ => 0)))] := hD
  refine lv_aload_n hx hb dX3_init_37 rfl (lv_at hl 0 rfl) ?_
  refine va_new (ci := 10) (fs := [.int 0, .null, .null, .null, .null]) (C := RX10) (T := TX10) (N := 5) hx hb hT iX10 tyX10 tyX10_ok hown (hT _ t_800) (hT _ t_801) (hT _ t_413) hK hP hD hS hA rfl (fun j hj => dfl10 j hj) (Nat.le_of_ble_eq_true rfl) (Nat.le_of_ble_eq_true rfl) dX3_init_38 (fun q_10 H hP hD hS => ?_)
  have hP : va_P D vwCl [(h0, .inr (3, [.int 0, .int 0, .int 0, .int 0, .int 0, .int 0, .ref q_1, .ref q_2, .ref q_3, .ref q_4, .null, .null])), (q_1, .inl (cy 0, 4, .inl (fun _ => 0))), (q_2, .inl (cy 0, 3, .inl (fun _ => 0))), (q_3, .inl (cy 2, 6, .inl (fun _ => 0))), (q_4, .inr (10, [.int 0, .ref (u_9.1 1), .ref (u_9.1 2), .ref (u_9.1 3), .ref (u_9.1 4)])), (u_9.1 1, .inl (cy 0, 20, .inl (fun _ => 0))), (u_9.1 2, .inl (cy 0, 20, .inl (fun _ => 0))), (u_9.1 3, .inl (cy 0, 20, .inl (fun _ => 0))), (u_9.1 4, .inl (cy 0, 20, .inl (fun _ => 0))), (q_10, .inr (10, [.int 0, .null, .null, .null, .null]))] H := hP
  have hD : va_D A [(h0, .inr (3, [.int 0, .int 0, .int 0, .int 0, .int 0, .int 0, .ref q_1, .ref q_2, .ref q_3, .ref q_4, .null, .null])), (q_1, .inl (cy 0, 4, .inl (fun _ => 0))), (q_2, .inl (cy 0, 3, .inl (fun _ => 0))), (q_3, .inl (cy 2, 6, .inl (fun _ => 0))), (q_4, .inr (10, [.int 0, .ref (u_9.1 1), .ref (u_9.1 2), .ref (u_9.1 3), .ref (u_9.1 4)])), (u_9.1 1, .inl (cy 0, 20, .inl (fun _ => 0))), (u_9.1 2, .inl (cy 0, 20, .inl (fun _ => 0))), (u_9.1 3, .inl (cy 0, 20, .inl (fun _ => 0))), (u_9.1 4, .inl (cy 0, 20, .inl (fun _ => 0))), (q_10, .inr (10, [.int 0, .null, .null, .null, .null]))] := hD
  refine W.widen (k := 9) (n := 103) (Nat.le_of_ble_eq_true rfl) (Nat.le_of_ble_eq_true rfl) ?_
  refine lv_dup hx hb dX3_init_41 rfl ?_
  have hP_11 := hP.sub (ws' := [(q_10, .inr (10, [.int 0, .null, .null, .null, .null]))]) [9] rfl
  have hD_13 := hD.sub (ws' := [(q_10, .inr (10, [.int 0, .null, .null, .null, .null]))]) [9] (by decide) rfl
  have hF_12 := va_free (wc := [(q_10, .inr (10, [.int 0, .null, .null, .null, .null]))]) hD hS hA [9] rfl
  refine va_callv (va_runIN (As := []) (rest := [.ref q_10, .ref h0]) ⟨hx, hb, hml, hown, hT⟩ (c_X10_init l D cy q_10 _) ⟨va_cnB 0 hT (gI t_802) rfl rfl rfl (hnw.2.2.2.2.2.2.2.1) (hT _ t_413) (by decide +kernel) ⟨Nat.le_of_ble_eq_true rfl, Nat.le_of_ble_eq_true rfl⟩, rfl, (hT _ t_803)⟩ (rQ_s hP_11 hK hD_13) rfl rfl hl.1 rfl (lv_room (Nat.le_of_ble_eq_true rfl)) dX3_init_42 ⟨Nat.le_of_ble_eq_true rfl, Nat.le_of_ble_eq_true rfl⟩) hS (fun q _ h => hF_12 q h) hF_12 (fun u_15 t H1 locs ht hvm hr_14 hB hz1 hk1 hS => ?_)
  obtain ⟨hP1, hK1, hD1⟩ := hB
  rw [ht] at hP1
  obtain ⟨hP, hD⟩ := va_join (wr := [(h0, .inr (3, [.int 0, .int 0, .int 0, .int 0, .int 0, .int 0, .ref q_1, .ref q_2, .ref q_3, .ref q_4, .null, .null])), (q_1, .inl (cy 0, 4, .inl (fun _ => 0))), (q_2, .inl (cy 0, 3, .inl (fun _ => 0))), (q_3, .inl (cy 2, 6, .inl (fun _ => 0))), (q_4, .inr (10, [.int 0, .ref (u_9.1 1), .ref (u_9.1 2), .ref (u_9.1 3), .ref (u_9.1 4)])), (u_9.1 1, .inl (cy 0, 20, .inl (fun _ => 0))), (u_9.1 2, .inl (cy 0, 20, .inl (fun _ => 0))), (u_9.1 3, .inl (cy 0, 20, .inl (fun _ => 0))), (u_9.1 4, .inl (cy 0, 20, .inl (fun _ => 0)))]) (w1 := [(q_10, .inr (10, [.int 0, .ref (u_15.1 1), .ref (u_15.1 2), .ref (u_15.1 3), .ref (u_15.1 4)])), (u_15.1 1, .inl (cy 0, 20, .inl (fun _ => 0))), (u_15.1 2, .inl (cy 0, 20, .inl (fun _ => 0))), (u_15.1 3, .inl (cy 0, 20, .inl (fun _ => 0))), (u_15.1 4, .inl (cy 0, 20, .inl (fun _ => 0)))]) hP hD [9] [0, 1, 2, 3, 4, 5, 6, 7, 8] rfl rfl (by decide) (by decide) hk1 hF_12 hP1 hD1
  have hP : va_P D vwCl [(h0, .inr (3, [.int 0, .int 0, .int 0, .int 0, .int 0, .int 0, .ref q_1, .ref q_2, .ref q_3, .ref q_4, .null, .null])), (q_1, .inl (cy 0, 4, .inl (fun _ => 0))), (q_2, .inl (cy 0, 3, .inl (fun _ => 0))), (q_3, .inl (cy 2, 6, .inl (fun _ => 0))), (q_4, .inr (10, [.int 0, .ref (u_9.1 1), .ref (u_9.1 2), .ref (u_9.1 3), .ref (u_9.1 4)])), (u_9.1 1, .inl (cy 0, 20, .inl (fun _ => 0))), (u_9.1 2, .inl (cy 0, 20, .inl (fun _ => 0))), (u_9.1 3, .inl (cy 0, 20, .inl (fun _ => 0))), (u_9.1 4, .inl (cy 0, 20, .inl (fun _ => 0))), (q_10, .inr (10, [.int 0, .ref (u_15.1 1), .ref (u_15.1 2), .ref (u_15.1 3), .ref (u_15.1 4)])), (u_15.1 1, .inl (cy 0, 20, .inl (fun _ => 0))), (u_15.1 2, .inl (cy 0, 20, .inl (fun _ => 0))), (u_15.1 3, .inl (cy 0, 20, .inl (fun _ => 0))), (u_15.1 4, .inl (cy 0, 20, .inl (fun _ => 0)))] H1 := hP
  have hD : va_D A [(h0, .inr (3, [.int 0, .int 0, .int 0, .int 0, .int 0, .int 0, .ref q_1, .ref q_2, .ref q_3, .ref q_4, .null, .null])), (q_1, .inl (cy 0, 4, .inl (fun _ => 0))), (q_2, .inl (cy 0, 3, .inl (fun _ => 0))), (q_3, .inl (cy 2, 6, .inl (fun _ => 0))), (q_4, .inr (10, [.int 0, .ref (u_9.1 1), .ref (u_9.1 2), .ref (u_9.1 3), .ref (u_9.1 4)])), (u_9.1 1, .inl (cy 0, 20, .inl (fun _ => 0))), (u_9.1 2, .inl (cy 0, 20, .inl (fun _ => 0))), (u_9.1 3, .inl (cy 0, 20, .inl (fun _ => 0))), (u_9.1 4, .inl (cy 0, 20, .inl (fun _ => 0))), (q_10, .inr (10, [.int 0, .ref (u_15.1 1), .ref (u_15.1 2), .ref (u_15.1 3), .ref (u_15.1 4)])), (u_15.1 1, .inl (cy 0, 20, .inl (fun _ => 0))), (u_15.1 2, .inl (cy 0, 20, .inl (fun _ => 0))), (u_15.1 3, .inl (cy 0, 20, .inl (fun _ => 0))), (u_15.1 4, .inl (cy 0, 20, .inl (fun _ => 0)))] := hD
  refine W.widen (k := 13) (n := 183) (Nat.le_of_ble_eq_true rfl) (Nat.le_of_ble_eq_true rfl) ?_
  refine va_putF (D := D) (ci := 3) (v := .ref q_10) (ty := .object "DepositJudge$Things") (C := RX3) (T := TX3) (N := 12) hx hb hT iX3 tyX3 tyX3_ok nmX3 hown hK hP hD hS 0 rfl rfl 10 (by decide) (hT _ t_388) (fun _ h9 => h9) rfl hin rfl (by decide +kernel) rfl rfl (Nat.le_of_ble_eq_true rfl) dX3_init_45 (fun H locs hP hD hS => ?_)
  have hP : va_P D vwCl [(h0, .inr (3, [.int 0, .int 0, .int 0, .int 0, .int 0, .int 0, .ref q_1, .ref q_2, .ref q_3, .ref q_4, .ref q_10, .null])), (q_1, .inl (cy 0, 4, .inl (fun _ => 0))), (q_2, .inl (cy 0, 3, .inl (fun _ => 0))), (q_3, .inl (cy 2, 6, .inl (fun _ => 0))), (q_4, .inr (10, [.int 0, .ref (u_9.1 1), .ref (u_9.1 2), .ref (u_9.1 3), .ref (u_9.1 4)])), (u_9.1 1, .inl (cy 0, 20, .inl (fun _ => 0))), (u_9.1 2, .inl (cy 0, 20, .inl (fun _ => 0))), (u_9.1 3, .inl (cy 0, 20, .inl (fun _ => 0))), (u_9.1 4, .inl (cy 0, 20, .inl (fun _ => 0))), (q_10, .inr (10, [.int 0, .ref (u_15.1 1), .ref (u_15.1 2), .ref (u_15.1 3), .ref (u_15.1 4)])), (u_15.1 1, .inl (cy 0, 20, .inl (fun _ => 0))), (u_15.1 2, .inl (cy 0, 20, .inl (fun _ => 0))), (u_15.1 3, .inl (cy 0, 20, .inl (fun _ => 0))), (u_15.1 4, .inl (cy 0, 20, .inl (fun _ => 0)))] H := hP
  have hD : va_D A [(h0, .inr (3, [.int 0, .int 0, .int 0, .int 0, .int 0, .int 0, .ref q_1, .ref q_2, .ref q_3, .ref q_4, .ref q_10, .null])), (q_1, .inl (cy 0, 4, .inl (fun _ => 0))), (q_2, .inl (cy 0, 3, .inl (fun _ => 0))), (q_3, .inl (cy 2, 6, .inl (fun _ => 0))), (q_4, .inr (10, [.int 0, .ref (u_9.1 1), .ref (u_9.1 2), .ref (u_9.1 3), .ref (u_9.1 4)])), (u_9.1 1, .inl (cy 0, 20, .inl (fun _ => 0))), (u_9.1 2, .inl (cy 0, 20, .inl (fun _ => 0))), (u_9.1 3, .inl (cy 0, 20, .inl (fun _ => 0))), (u_9.1 4, .inl (cy 0, 20, .inl (fun _ => 0))), (q_10, .inr (10, [.int 0, .ref (u_15.1 1), .ref (u_15.1 2), .ref (u_15.1 3), .ref (u_15.1 4)])), (u_15.1 1, .inl (cy 0, 20, .inl (fun _ => 0))), (u_15.1 2, .inl (cy 0, 20, .inl (fun _ => 0))), (u_15.1 3, .inl (cy 0, 20, .inl (fun _ => 0))), (u_15.1 4, .inl (cy 0, 20, .inl (fun _ => 0)))] := hD
  refine lv_aload_n hx hb dX3_init_48 rfl (lv_at hl 0 rfl) ?_
  refine lv_bipush (v := 20) hx hb dX3_init_49 (by decide) ?_
  refine r_newI (N := 20) hx hb (hT _ t_732) hK hP hD hS hA (by decide) (by decide) (by decide) (Nat.le_of_ble_eq_true rfl) (Nat.le_of_ble_eq_true rfl) dX3_init_51 (fun q_16 H hP hD hS => ?_)
  have hP : va_P D vwCl [(h0, .inr (3, [.int 0, .int 0, .int 0, .int 0, .int 0, .int 0, .ref q_1, .ref q_2, .ref q_3, .ref q_4, .ref q_10, .null])), (q_1, .inl (cy 0, 4, .inl (fun _ => 0))), (q_2, .inl (cy 0, 3, .inl (fun _ => 0))), (q_3, .inl (cy 2, 6, .inl (fun _ => 0))), (q_4, .inr (10, [.int 0, .ref (u_9.1 1), .ref (u_9.1 2), .ref (u_9.1 3), .ref (u_9.1 4)])), (u_9.1 1, .inl (cy 0, 20, .inl (fun _ => 0))), (u_9.1 2, .inl (cy 0, 20, .inl (fun _ => 0))), (u_9.1 3, .inl (cy 0, 20, .inl (fun _ => 0))), (u_9.1 4, .inl (cy 0, 20, .inl (fun _ => 0))), (q_10, .inr (10, [.int 0, .ref (u_15.1 1), .ref (u_15.1 2), .ref (u_15.1 3), .ref (u_15.1 4)])), (u_15.1 1, .inl (cy 0, 20, .inl (fun _ => 0))), (u_15.1 2, .inl (cy 0, 20, .inl (fun _ => 0))), (u_15.1 3, .inl (cy 0, 20, .inl (fun _ => 0))), (u_15.1 4, .inl (cy 0, 20, .inl (fun _ => 0))), (q_16, .inl (cy 0, 20, .inl (fun _ => 0)))] H := hP
  have hD : va_D A [(h0, .inr (3, [.int 0, .int 0, .int 0, .int 0, .int 0, .int 0, .ref q_1, .ref q_2, .ref q_3, .ref q_4, .ref q_10, .null])), (q_1, .inl (cy 0, 4, .inl (fun _ => 0))), (q_2, .inl (cy 0, 3, .inl (fun _ => 0))), (q_3, .inl (cy 2, 6, .inl (fun _ => 0))), (q_4, .inr (10, [.int 0, .ref (u_9.1 1), .ref (u_9.1 2), .ref (u_9.1 3), .ref (u_9.1 4)])), (u_9.1 1, .inl (cy 0, 20, .inl (fun _ => 0))), (u_9.1 2, .inl (cy 0, 20, .inl (fun _ => 0))), (u_9.1 3, .inl (cy 0, 20, .inl (fun _ => 0))), (u_9.1 4, .inl (cy 0, 20, .inl (fun _ => 0))), (q_10, .inr (10, [.int 0, .ref (u_15.1 1), .ref (u_15.1 2), .ref (u_15.1 3), .ref (u_15.1 4)])), (u_15.1 1, .inl (cy 0, 20, .inl (fun _ => 0))), (u_15.1 2, .inl (cy 0, 20, .inl (fun _ => 0))), (u_15.1 3, .inl (cy 0, 20, .inl (fun _ => 0))), (u_15.1 4, .inl (cy 0, 20, .inl (fun _ => 0))), (q_16, .inl (cy 0, 20, .inl (fun _ => 0)))] := hD
  refine W.widen (k := 14) (n := 203) (Nat.le_of_ble_eq_true rfl) (Nat.le_of_ble_eq_true rfl) ?_
  refine va_putF (D := D) (ci := 3) (v := .ref q_16) (ty := .array .int) (C := RX3) (T := TX3) (N := 12) hx hb hT iX3 tyX3 tyX3_ok nmX3 hown hK hP hD hS 0 rfl rfl 11 (by decide) (hT _ t_387) (fun _ h9 => h9) rfl hin rfl (by decide +kernel) rfl rfl (Nat.le_of_ble_eq_true rfl) dX3_init_53 (fun H locs hP hD hS => ?_)
  have hP : va_P D vwCl [(h0, .inr (3, [.int 0, .int 0, .int 0, .int 0, .int 0, .int 0, .ref q_1, .ref q_2, .ref q_3, .ref q_4, .ref q_10, .ref q_16])), (q_1, .inl (cy 0, 4, .inl (fun _ => 0))), (q_2, .inl (cy 0, 3, .inl (fun _ => 0))), (q_3, .inl (cy 2, 6, .inl (fun _ => 0))), (q_4, .inr (10, [.int 0, .ref (u_9.1 1), .ref (u_9.1 2), .ref (u_9.1 3), .ref (u_9.1 4)])), (u_9.1 1, .inl (cy 0, 20, .inl (fun _ => 0))), (u_9.1 2, .inl (cy 0, 20, .inl (fun _ => 0))), (u_9.1 3, .inl (cy 0, 20, .inl (fun _ => 0))), (u_9.1 4, .inl (cy 0, 20, .inl (fun _ => 0))), (q_10, .inr (10, [.int 0, .ref (u_15.1 1), .ref (u_15.1 2), .ref (u_15.1 3), .ref (u_15.1 4)])), (u_15.1 1, .inl (cy 0, 20, .inl (fun _ => 0))), (u_15.1 2, .inl (cy 0, 20, .inl (fun _ => 0))), (u_15.1 3, .inl (cy 0, 20, .inl (fun _ => 0))), (u_15.1 4, .inl (cy 0, 20, .inl (fun _ => 0))), (q_16, .inl (cy 0, 20, .inl (fun _ => 0)))] H := hP
  have hD : va_D A [(h0, .inr (3, [.int 0, .int 0, .int 0, .int 0, .int 0, .int 0, .ref q_1, .ref q_2, .ref q_3, .ref q_4, .ref q_10, .ref q_16])), (q_1, .inl (cy 0, 4, .inl (fun _ => 0))), (q_2, .inl (cy 0, 3, .inl (fun _ => 0))), (q_3, .inl (cy 2, 6, .inl (fun _ => 0))), (q_4, .inr (10, [.int 0, .ref (u_9.1 1), .ref (u_9.1 2), .ref (u_9.1 3), .ref (u_9.1 4)])), (u_9.1 1, .inl (cy 0, 20, .inl (fun _ => 0))), (u_9.1 2, .inl (cy 0, 20, .inl (fun _ => 0))), (u_9.1 3, .inl (cy 0, 20, .inl (fun _ => 0))), (u_9.1 4, .inl (cy 0, 20, .inl (fun _ => 0))), (q_10, .inr (10, [.int 0, .ref (u_15.1 1), .ref (u_15.1 2), .ref (u_15.1 3), .ref (u_15.1 4)])), (u_15.1 1, .inl (cy 0, 20, .inl (fun _ => 0))), (u_15.1 2, .inl (cy 0, 20, .inl (fun _ => 0))), (u_15.1 3, .inl (cy 0, 20, .inl (fun _ => 0))), (u_15.1 4, .inl (cy 0, 20, .inl (fun _ => 0))), (q_16, .inl (cy 0, 20, .inl (fun _ => 0)))] := hD
  refine lv_aload_n hx hb dX3_init_56 rfl (lv_at hl 0 rfl) ?_
  refine lv_iload_n hx hb dX3_init_57 rfl (lv_at hl 1 rfl) ?_
  refine va_putF (D := D) (ci := 3) (v := .int p0) (ty := .int) (C := RX3) (T := TX3) (N := 12) hx hb hT iX3 tyX3 tyX3_ok nmX3 hown hK hP hD hS 0 rfl rfl 0 (by decide) (hT _ t_804) (fun _ h9 => h9) rfl hin rfl (by decide +kernel) rfl rfl (Nat.le_of_ble_eq_true rfl) dX3_init_58 (fun H locs hP hD hS => ?_)
  have hP : va_P D vwCl [(h0, .inr (3, [.int p0, .int 0, .int 0, .int 0, .int 0, .int 0, .ref q_1, .ref q_2, .ref q_3, .ref q_4, .ref q_10, .ref q_16])), (q_1, .inl (cy 0, 4, .inl (fun _ => 0))), (q_2, .inl (cy 0, 3, .inl (fun _ => 0))), (q_3, .inl (cy 2, 6, .inl (fun _ => 0))), (q_4, .inr (10, [.int 0, .ref (u_9.1 1), .ref (u_9.1 2), .ref (u_9.1 3), .ref (u_9.1 4)])), (u_9.1 1, .inl (cy 0, 20, .inl (fun _ => 0))), (u_9.1 2, .inl (cy 0, 20, .inl (fun _ => 0))), (u_9.1 3, .inl (cy 0, 20, .inl (fun _ => 0))), (u_9.1 4, .inl (cy 0, 20, .inl (fun _ => 0))), (q_10, .inr (10, [.int 0, .ref (u_15.1 1), .ref (u_15.1 2), .ref (u_15.1 3), .ref (u_15.1 4)])), (u_15.1 1, .inl (cy 0, 20, .inl (fun _ => 0))), (u_15.1 2, .inl (cy 0, 20, .inl (fun _ => 0))), (u_15.1 3, .inl (cy 0, 20, .inl (fun _ => 0))), (u_15.1 4, .inl (cy 0, 20, .inl (fun _ => 0))), (q_16, .inl (cy 0, 20, .inl (fun _ => 0)))] H := hP
  have hD : va_D A [(h0, .inr (3, [.int p0, .int 0, .int 0, .int 0, .int 0, .int 0, .ref q_1, .ref q_2, .ref q_3, .ref q_4, .ref q_10, .ref q_16])), (q_1, .inl (cy 0, 4, .inl (fun _ => 0))), (q_2, .inl (cy 0, 3, .inl (fun _ => 0))), (q_3, .inl (cy 2, 6, .inl (fun _ => 0))), (q_4, .inr (10, [.int 0, .ref (u_9.1 1), .ref (u_9.1 2), .ref (u_9.1 3), .ref (u_9.1 4)])), (u_9.1 1, .inl (cy 0, 20, .inl (fun _ => 0))), (u_9.1 2, .inl (cy 0, 20, .inl (fun _ => 0))), (u_9.1 3, .inl (cy 0, 20, .inl (fun _ => 0))), (u_9.1 4, .inl (cy 0, 20, .inl (fun _ => 0))), (q_10, .inr (10, [.int 0, .ref (u_15.1 1), .ref (u_15.1 2), .ref (u_15.1 3), .ref (u_15.1 4)])), (u_15.1 1, .inl (cy 0, 20, .inl (fun _ => 0))), (u_15.1 2, .inl (cy 0, 20, .inl (fun _ => 0))), (u_15.1 3, .inl (cy 0, 20, .inl (fun _ => 0))), (u_15.1 4, .inl (cy 0, 20, .inl (fun _ => 0))), (q_16, .inl (cy 0, 20, .inl (fun _ => 0)))] := hD
  refine lv_aload_n hx hb dX3_init_61 rfl (lv_at hl 0 rfl) ?_
  refine lv_iload_n hx hb dX3_init_62 rfl (lv_at hl 2 rfl) ?_
  refine va_putF (D := D) (ci := 3) (v := .int p1) (ty := .int) (C := RX3) (T := TX3) (N := 12) hx hb hT iX3 tyX3 tyX3_ok nmX3 hown hK hP hD hS 0 rfl rfl 1 (by decide) (hT _ t_805) (fun _ h9 => h9) rfl hin rfl (by decide +kernel) rfl rfl (Nat.le_of_ble_eq_true rfl) dX3_init_63 (fun H locs hP hD hS => ?_)
  have hP : va_P D vwCl [(h0, .inr (3, [.int p0, .int p1, .int 0, .int 0, .int 0, .int 0, .ref q_1, .ref q_2, .ref q_3, .ref q_4, .ref q_10, .ref q_16])), (q_1, .inl (cy 0, 4, .inl (fun _ => 0))), (q_2, .inl (cy 0, 3, .inl (fun _ => 0))), (q_3, .inl (cy 2, 6, .inl (fun _ => 0))), (q_4, .inr (10, [.int 0, .ref (u_9.1 1), .ref (u_9.1 2), .ref (u_9.1 3), .ref (u_9.1 4)])), (u_9.1 1, .inl (cy 0, 20, .inl (fun _ => 0))), (u_9.1 2, .inl (cy 0, 20, .inl (fun _ => 0))), (u_9.1 3, .inl (cy 0, 20, .inl (fun _ => 0))), (u_9.1 4, .inl (cy 0, 20, .inl (fun _ => 0))), (q_10, .inr (10, [.int 0, .ref (u_15.1 1), .ref (u_15.1 2), .ref (u_15.1 3), .ref (u_15.1 4)])), (u_15.1 1, .inl (cy 0, 20, .inl (fun _ => 0))), (u_15.1 2, .inl (cy 0, 20, .inl (fun _ => 0))), (u_15.1 3, .inl (cy 0, 20, .inl (fun _ => 0))), (u_15.1 4, .inl (cy 0, 20, .inl (fun _ => 0))), (q_16, .inl (cy 0, 20, .inl (fun _ => 0)))] H := hP
  have hD : va_D A [(h0, .inr (3, [.int p0, .int p1, .int 0, .int 0, .int 0, .int 0, .ref q_1, .ref q_2, .ref q_3, .ref q_4, .ref q_10, .ref q_16])), (q_1, .inl (cy 0, 4, .inl (fun _ => 0))), (q_2, .inl (cy 0, 3, .inl (fun _ => 0))), (q_3, .inl (cy 2, 6, .inl (fun _ => 0))), (q_4, .inr (10, [.int 0, .ref (u_9.1 1), .ref (u_9.1 2), .ref (u_9.1 3), .ref (u_9.1 4)])), (u_9.1 1, .inl (cy 0, 20, .inl (fun _ => 0))), (u_9.1 2, .inl (cy 0, 20, .inl (fun _ => 0))), (u_9.1 3, .inl (cy 0, 20, .inl (fun _ => 0))), (u_9.1 4, .inl (cy 0, 20, .inl (fun _ => 0))), (q_10, .inr (10, [.int 0, .ref (u_15.1 1), .ref (u_15.1 2), .ref (u_15.1 3), .ref (u_15.1 4)])), (u_15.1 1, .inl (cy 0, 20, .inl (fun _ => 0))), (u_15.1 2, .inl (cy 0, 20, .inl (fun _ => 0))), (u_15.1 3, .inl (cy 0, 20, .inl (fun _ => 0))), (u_15.1 4, .inl (cy 0, 20, .inl (fun _ => 0))), (q_16, .inl (cy 0, 20, .inl (fun _ => 0)))] := hD
  refine lv_aload_n hx hb dX3_init_66 rfl (lv_at hl 0 rfl) ?_
  refine lv_iload_n hx hb dX3_init_67 rfl (lv_at hl 3 rfl) ?_
  refine va_putF (D := D) (ci := 3) (v := .int p2) (ty := .int) (C := RX3) (T := TX3) (N := 12) hx hb hT iX3 tyX3 tyX3_ok nmX3 hown hK hP hD hS 0 rfl rfl 2 (by decide) (hT _ t_806) (fun _ h9 => h9) rfl hin rfl (by decide +kernel) rfl rfl (Nat.le_of_ble_eq_true rfl) dX3_init_68 (fun H locs hP hD hS => ?_)
  have hP : va_P D vwCl [(h0, .inr (3, [.int p0, .int p1, .int p2, .int 0, .int 0, .int 0, .ref q_1, .ref q_2, .ref q_3, .ref q_4, .ref q_10, .ref q_16])), (q_1, .inl (cy 0, 4, .inl (fun _ => 0))), (q_2, .inl (cy 0, 3, .inl (fun _ => 0))), (q_3, .inl (cy 2, 6, .inl (fun _ => 0))), (q_4, .inr (10, [.int 0, .ref (u_9.1 1), .ref (u_9.1 2), .ref (u_9.1 3), .ref (u_9.1 4)])), (u_9.1 1, .inl (cy 0, 20, .inl (fun _ => 0))), (u_9.1 2, .inl (cy 0, 20, .inl (fun _ => 0))), (u_9.1 3, .inl (cy 0, 20, .inl (fun _ => 0))), (u_9.1 4, .inl (cy 0, 20, .inl (fun _ => 0))), (q_10, .inr (10, [.int 0, .ref (u_15.1 1), .ref (u_15.1 2), .ref (u_15.1 3), .ref (u_15.1 4)])), (u_15.1 1, .inl (cy 0, 20, .inl (fun _ => 0))), (u_15.1 2, .inl (cy 0, 20, .inl (fun _ => 0))), (u_15.1 3, .inl (cy 0, 20, .inl (fun _ => 0))), (u_15.1 4, .inl (cy 0, 20, .inl (fun _ => 0))), (q_16, .inl (cy 0, 20, .inl (fun _ => 0)))] H := hP
  have hD : va_D A [(h0, .inr (3, [.int p0, .int p1, .int p2, .int 0, .int 0, .int 0, .ref q_1, .ref q_2, .ref q_3, .ref q_4, .ref q_10, .ref q_16])), (q_1, .inl (cy 0, 4, .inl (fun _ => 0))), (q_2, .inl (cy 0, 3, .inl (fun _ => 0))), (q_3, .inl (cy 2, 6, .inl (fun _ => 0))), (q_4, .inr (10, [.int 0, .ref (u_9.1 1), .ref (u_9.1 2), .ref (u_9.1 3), .ref (u_9.1 4)])), (u_9.1 1, .inl (cy 0, 20, .inl (fun _ => 0))), (u_9.1 2, .inl (cy 0, 20, .inl (fun _ => 0))), (u_9.1 3, .inl (cy 0, 20, .inl (fun _ => 0))), (u_9.1 4, .inl (cy 0, 20, .inl (fun _ => 0))), (q_10, .inr (10, [.int 0, .ref (u_15.1 1), .ref (u_15.1 2), .ref (u_15.1 3), .ref (u_15.1 4)])), (u_15.1 1, .inl (cy 0, 20, .inl (fun _ => 0))), (u_15.1 2, .inl (cy 0, 20, .inl (fun _ => 0))), (u_15.1 3, .inl (cy 0, 20, .inl (fun _ => 0))), (u_15.1 4, .inl (cy 0, 20, .inl (fun _ => 0))), (q_16, .inl (cy 0, 20, .inl (fun _ => 0)))] := hD
  refine lv_aload_n hx hb dX3_init_71 rfl (lv_at hl 0 rfl) ?_
  refine lv_iload hx hb dX3_init_72 (lv_at hl 4 rfl) ?_
  refine va_putF (D := D) (ci := 3) (v := .int p3) (ty := .int) (C := RX3) (T := TX3) (N := 12) hx hb hT iX3 tyX3 tyX3_ok nmX3 hown hK hP hD hS 0 rfl rfl 3 (by decide) (hT _ t_384) (fun _ h9 => h9) rfl hin rfl (by decide +kernel) rfl rfl (Nat.le_of_ble_eq_true rfl) dX3_init_74 (fun H locs hP hD hS => ?_)
  have hP : va_P D vwCl [(h0, .inr (3, [.int p0, .int p1, .int p2, .int p3, .int 0, .int 0, .ref q_1, .ref q_2, .ref q_3, .ref q_4, .ref q_10, .ref q_16])), (q_1, .inl (cy 0, 4, .inl (fun _ => 0))), (q_2, .inl (cy 0, 3, .inl (fun _ => 0))), (q_3, .inl (cy 2, 6, .inl (fun _ => 0))), (q_4, .inr (10, [.int 0, .ref (u_9.1 1), .ref (u_9.1 2), .ref (u_9.1 3), .ref (u_9.1 4)])), (u_9.1 1, .inl (cy 0, 20, .inl (fun _ => 0))), (u_9.1 2, .inl (cy 0, 20, .inl (fun _ => 0))), (u_9.1 3, .inl (cy 0, 20, .inl (fun _ => 0))), (u_9.1 4, .inl (cy 0, 20, .inl (fun _ => 0))), (q_10, .inr (10, [.int 0, .ref (u_15.1 1), .ref (u_15.1 2), .ref (u_15.1 3), .ref (u_15.1 4)])), (u_15.1 1, .inl (cy 0, 20, .inl (fun _ => 0))), (u_15.1 2, .inl (cy 0, 20, .inl (fun _ => 0))), (u_15.1 3, .inl (cy 0, 20, .inl (fun _ => 0))), (u_15.1 4, .inl (cy 0, 20, .inl (fun _ => 0))), (q_16, .inl (cy 0, 20, .inl (fun _ => 0)))] H := hP
  have hD : va_D A [(h0, .inr (3, [.int p0, .int p1, .int p2, .int p3, .int 0, .int 0, .ref q_1, .ref q_2, .ref q_3, .ref q_4, .ref q_10, .ref q_16])), (q_1, .inl (cy 0, 4, .inl (fun _ => 0))), (q_2, .inl (cy 0, 3, .inl (fun _ => 0))), (q_3, .inl (cy 2, 6, .inl (fun _ => 0))), (q_4, .inr (10, [.int 0, .ref (u_9.1 1), .ref (u_9.1 2), .ref (u_9.1 3), .ref (u_9.1 4)])), (u_9.1 1, .inl (cy 0, 20, .inl (fun _ => 0))), (u_9.1 2, .inl (cy 0, 20, .inl (fun _ => 0))), (u_9.1 3, .inl (cy 0, 20, .inl (fun _ => 0))), (u_9.1 4, .inl (cy 0, 20, .inl (fun _ => 0))), (q_10, .inr (10, [.int 0, .ref (u_15.1 1), .ref (u_15.1 2), .ref (u_15.1 3), .ref (u_15.1 4)])), (u_15.1 1, .inl (cy 0, 20, .inl (fun _ => 0))), (u_15.1 2, .inl (cy 0, 20, .inl (fun _ => 0))), (u_15.1 3, .inl (cy 0, 20, .inl (fun _ => 0))), (u_15.1 4, .inl (cy 0, 20, .inl (fun _ => 0))), (q_16, .inl (cy 0, 20, .inl (fun _ => 0)))] := hD
  refine lv_aload_n hx hb dX3_init_77 rfl (lv_at hl 0 rfl) ?_
  refine lv_iload hx hb dX3_init_78 (lv_at hl 5 rfl) ?_
  refine va_putF (D := D) (ci := 3) (v := .int p4) (ty := .int) (C := RX3) (T := TX3) (N := 12) hx hb hT iX3 tyX3 tyX3_ok nmX3 hown hK hP hD hS 0 rfl rfl 4 (by decide) (hT _ t_383) (fun _ h9 => h9) rfl hin rfl (by decide +kernel) rfl rfl (Nat.le_of_ble_eq_true rfl) dX3_init_80 (fun H locs hP hD hS => ?_)
  have hP : va_P D vwCl [(h0, .inr (3, [.int p0, .int p1, .int p2, .int p3, .int p4, .int 0, .ref q_1, .ref q_2, .ref q_3, .ref q_4, .ref q_10, .ref q_16])), (q_1, .inl (cy 0, 4, .inl (fun _ => 0))), (q_2, .inl (cy 0, 3, .inl (fun _ => 0))), (q_3, .inl (cy 2, 6, .inl (fun _ => 0))), (q_4, .inr (10, [.int 0, .ref (u_9.1 1), .ref (u_9.1 2), .ref (u_9.1 3), .ref (u_9.1 4)])), (u_9.1 1, .inl (cy 0, 20, .inl (fun _ => 0))), (u_9.1 2, .inl (cy 0, 20, .inl (fun _ => 0))), (u_9.1 3, .inl (cy 0, 20, .inl (fun _ => 0))), (u_9.1 4, .inl (cy 0, 20, .inl (fun _ => 0))), (q_10, .inr (10, [.int 0, .ref (u_15.1 1), .ref (u_15.1 2), .ref (u_15.1 3), .ref (u_15.1 4)])), (u_15.1 1, .inl (cy 0, 20, .inl (fun _ => 0))), (u_15.1 2, .inl (cy 0, 20, .inl (fun _ => 0))), (u_15.1 3, .inl (cy 0, 20, .inl (fun _ => 0))), (u_15.1 4, .inl (cy 0, 20, .inl (fun _ => 0))), (q_16, .inl (cy 0, 20, .inl (fun _ => 0)))] H := hP
  have hD : va_D A [(h0, .inr (3, [.int p0, .int p1, .int p2, .int p3, .int p4, .int 0, .ref q_1, .ref q_2, .ref q_3, .ref q_4, .ref q_10, .ref q_16])), (q_1, .inl (cy 0, 4, .inl (fun _ => 0))), (q_2, .inl (cy 0, 3, .inl (fun _ => 0))), (q_3, .inl (cy 2, 6, .inl (fun _ => 0))), (q_4, .inr (10, [.int 0, .ref (u_9.1 1), .ref (u_9.1 2), .ref (u_9.1 3), .ref (u_9.1 4)])), (u_9.1 1, .inl (cy 0, 20, .inl (fun _ => 0))), (u_9.1 2, .inl (cy 0, 20, .inl (fun _ => 0))), (u_9.1 3, .inl (cy 0, 20, .inl (fun _ => 0))), (u_9.1 4, .inl (cy 0, 20, .inl (fun _ => 0))), (q_10, .inr (10, [.int 0, .ref (u_15.1 1), .ref (u_15.1 2), .ref (u_15.1 3), .ref (u_15.1 4)])), (u_15.1 1, .inl (cy 0, 20, .inl (fun _ => 0))), (u_15.1 2, .inl (cy 0, 20, .inl (fun _ => 0))), (u_15.1 3, .inl (cy 0, 20, .inl (fun _ => 0))), (u_15.1 4, .inl (cy 0, 20, .inl (fun _ => 0))), (q_16, .inl (cy 0, 20, .inl (fun _ => 0)))] := hD
  refine lv_aload_n hx hb dX3_init_83 rfl (lv_at hl 0 rfl) ?_
  refine lv_iload hx hb dX3_init_84 (lv_at hl 6 rfl) ?_
  refine va_putF (D := D) (ci := 3) (v := .int p5) (ty := .boolean) (C := RX3) (T := TX3) (N := 12) hx hb hT iX3 tyX3 tyX3_ok nmX3 hown hK hP hD hS 0 rfl rfl 5 (by decide) (hT _ t_807) (fun _ h9 => h9) rfl hin rfl (by decide +kernel) (by rcases hk with rfl | rfl <;> rfl) (by rcases hk with rfl | rfl <;> rfl) (Nat.le_of_ble_eq_true rfl) dX3_init_86 (fun H locs hP hD hS => ?_)
  have hP : va_P D vwCl [(h0, .inr (3, [.int p0, .int p1, .int p2, .int p3, .int p4, .int p5, .ref q_1, .ref q_2, .ref q_3, .ref q_4, .ref q_10, .ref q_16])), (q_1, .inl (cy 0, 4, .inl (fun _ => 0))), (q_2, .inl (cy 0, 3, .inl (fun _ => 0))), (q_3, .inl (cy 2, 6, .inl (fun _ => 0))), (q_4, .inr (10, [.int 0, .ref (u_9.1 1), .ref (u_9.1 2), .ref (u_9.1 3), .ref (u_9.1 4)])), (u_9.1 1, .inl (cy 0, 20, .inl (fun _ => 0))), (u_9.1 2, .inl (cy 0, 20, .inl (fun _ => 0))), (u_9.1 3, .inl (cy 0, 20, .inl (fun _ => 0))), (u_9.1 4, .inl (cy 0, 20, .inl (fun _ => 0))), (q_10, .inr (10, [.int 0, .ref (u_15.1 1), .ref (u_15.1 2), .ref (u_15.1 3), .ref (u_15.1 4)])), (u_15.1 1, .inl (cy 0, 20, .inl (fun _ => 0))), (u_15.1 2, .inl (cy 0, 20, .inl (fun _ => 0))), (u_15.1 3, .inl (cy 0, 20, .inl (fun _ => 0))), (u_15.1 4, .inl (cy 0, 20, .inl (fun _ => 0))), (q_16, .inl (cy 0, 20, .inl (fun _ => 0)))] H := hP
  have hD : va_D A [(h0, .inr (3, [.int p0, .int p1, .int p2, .int p3, .int p4, .int p5, .ref q_1, .ref q_2, .ref q_3, .ref q_4, .ref q_10, .ref q_16])), (q_1, .inl (cy 0, 4, .inl (fun _ => 0))), (q_2, .inl (cy 0, 3, .inl (fun _ => 0))), (q_3, .inl (cy 2, 6, .inl (fun _ => 0))), (q_4, .inr (10, [.int 0, .ref (u_9.1 1), .ref (u_9.1 2), .ref (u_9.1 3), .ref (u_9.1 4)])), (u_9.1 1, .inl (cy 0, 20, .inl (fun _ => 0))), (u_9.1 2, .inl (cy 0, 20, .inl (fun _ => 0))), (u_9.1 3, .inl (cy 0, 20, .inl (fun _ => 0))), (u_9.1 4, .inl (cy 0, 20, .inl (fun _ => 0))), (q_10, .inr (10, [.int 0, .ref (u_15.1 1), .ref (u_15.1 2), .ref (u_15.1 3), .ref (u_15.1 4)])), (u_15.1 1, .inl (cy 0, 20, .inl (fun _ => 0))), (u_15.1 2, .inl (cy 0, 20, .inl (fun _ => 0))), (u_15.1 3, .inl (cy 0, 20, .inl (fun _ => 0))), (u_15.1 4, .inl (cy 0, 20, .inl (fun _ => 0))), (q_16, .inl (cy 0, 20, .inl (fun _ => 0)))] := hD
  refine lv_iconst (v := 0) hx hb dX3_init_89 (by decide) ?_
  refine lv_istore (lv' := [(7, .int 0), (0, .ref h0), (1, .int p0), (2, .int p1), (3, .int p2), (4, .int p3), (5, .int p4), (6, .int p5)]) hx hb dX3_init_90 hl (by decide) rfl (fun ls hl => ?_)
  have loop_17 : ∀ (n j17 : Nat) (x17 : Int32) (g17_1 : Nat → Int32) (H : Heap) (locs : List Loc) (ls : Array Slot), j17 + n = 4 → x17 = nI j17 → ((∀ t, g17_1 t = if t < j17 then 1 else 0)) → va_P D vwCl [(h0, .inr (3, [.int p0, .int p1, .int p2, .int p3, .int p4, .int p5, .ref q_1, .ref q_2, .ref q_3, .ref q_4, .ref q_10, .ref q_16])), (q_1, .inl (cy 0, 4, .inl g17_1)), (q_2, .inl (cy 0, 3, .inl (fun _ => 0))), (q_3, .inl (cy 2, 6, .inl (fun _ => 0))), (q_4, .inr (10, [.int 0, .ref (u_9.1 1), .ref (u_9.1 2), .ref (u_9.1 3), .ref (u_9.1 4)])), (u_9.1 1, .inl (cy 0, 20, .inl (fun _ => 0))), (u_9.1 2, .inl (cy 0, 20, .inl (fun _ => 0))), (u_9.1 3, .inl (cy 0, 20, .inl (fun _ => 0))), (u_9.1 4, .inl (cy 0, 20, .inl (fun _ => 0))), (q_10, .inr (10, [.int 0, .ref (u_15.1 1), .ref (u_15.1 2), .ref (u_15.1 3), .ref (u_15.1 4)])), (u_15.1 1, .inl (cy 0, 20, .inl (fun _ => 0))), (u_15.1 2, .inl (cy 0, 20, .inl (fun _ => 0))), (u_15.1 3, .inl (cy 0, 20, .inl (fun _ => 0))), (u_15.1 4, .inl (cy 0, 20, .inl (fun _ => 0))), (q_16, .inl (cy 0, 20, .inl (fun _ => 0)))] H → va_D A [(h0, .inr (3, [.int p0, .int p1, .int p2, .int p3, .int p4, .int p5, .ref q_1, .ref q_2, .ref q_3, .ref q_4, .ref q_10, .ref q_16])), (q_1, .inl (cy 0, 4, .inl g17_1)), (q_2, .inl (cy 0, 3, .inl (fun _ => 0))), (q_3, .inl (cy 2, 6, .inl (fun _ => 0))), (q_4, .inr (10, [.int 0, .ref (u_9.1 1), .ref (u_9.1 2), .ref (u_9.1 3), .ref (u_9.1 4)])), (u_9.1 1, .inl (cy 0, 20, .inl (fun _ => 0))), (u_9.1 2, .inl (cy 0, 20, .inl (fun _ => 0))), (u_9.1 3, .inl (cy 0, 20, .inl (fun _ => 0))), (u_9.1 4, .inl (cy 0, 20, .inl (fun _ => 0))), (q_10, .inr (10, [.int 0, .ref (u_15.1 1), .ref (u_15.1 2), .ref (u_15.1 3), .ref (u_15.1 4)])), (u_15.1 1, .inl (cy 0, 20, .inl (fun _ => 0))), (u_15.1 2, .inl (cy 0, 20, .inl (fun _ => 0))), (u_15.1 3, .inl (cy 0, 20, .inl (fun _ => 0))), (u_15.1 4, .inl (cy 0, 20, .inl (fun _ => 0))), (q_16, .inl (cy 0, 20, .inl (fun _ => 0)))] → va_S A s.heap H locs → lv_has ls 8 [(7, .int x17), (0, .ref h0), (1, .int p0), (2, .int p1), (3, .int p2), (4, .int p3), (5, .int p4), (6, .int p5)] → W p l e ({ frames := 2, cells := 14, slots := 203, locals := 44 } : Room) s m ([.ref h0, .int p0, .int p1, .int p2, .int p3, .int p4, .int p5] : List Value).toArray below meth c H locs 14 203 Q (F0 m 92 ls []) := by
    intro n
    induction n with
    | zero =>
      intro j17 x17 g17_1 H locs ls hj17 hq17 hi17 hP hD hS hl
      obtain rfl : j17 = 4 := by omega
      obtain rfl : x17 = 4 := hq17.trans (by decide)
      refine lv_iload hx hb dX3_init_92 (lv_at hl 0 rfl) ?_
      refine lv_iconst (v := 4) hx hb dX3_init_94 (by decide) ?_
      refine lv_icmp_ge (tgt := 112) hx hb dX3_init_95 (by decide) (fun c_18 => ?_) (fun c_18 => absurd (by decide) c_18)
      subst hQ
      have hP9 := hP.sub (ws' := [(h0, .inr (3, [.int p0, .int p1, .int p2, .int p3, .int p4, .int p5, .ref q_1, .ref q_2, .ref q_3, .ref q_4, .ref q_10, .ref q_16])), (q_1, .inl (cy 0, 4, .inl g17_1)), (q_2, .inl (cy 0, 3, .inl (fun _ => 0))), (q_3, .inl (cy 2, 6, .inl (fun _ => 0))), (q_4, .inr (10, [.int 0, .ref (u_9.1 1), .ref (u_9.1 2), .ref (u_9.1 3), .ref (u_9.1 4)])), (u_9.1 1, .inl (cy 0, 20, .inl (fun _ => 0))), (u_9.1 2, .inl (cy 0, 20, .inl (fun _ => 0))), (u_9.1 3, .inl (cy 0, 20, .inl (fun _ => 0))), (u_9.1 4, .inl (cy 0, 20, .inl (fun _ => 0))), (q_10, .inr (10, [.int 0, .ref (u_15.1 1), .ref (u_15.1 2), .ref (u_15.1 3), .ref (u_15.1 4)])), (u_15.1 1, .inl (cy 0, 20, .inl (fun _ => 0))), (u_15.1 2, .inl (cy 0, 20, .inl (fun _ => 0))), (u_15.1 3, .inl (cy 0, 20, .inl (fun _ => 0))), (u_15.1 4, .inl (cy 0, 20, .inl (fun _ => 0))), (q_16, .inl (cy 0, 20, .inl (fun _ => 0)))]) [0, 1, 2, 3, 4, 5, 6, 7, 8, 9, 10, 11, 12, 13, 14] rfl
      have hD9 := hD.sub (ws' := [(h0, .inr (3, [.int p0, .int p1, .int p2, .int p3, .int p4, .int p5, .ref q_1, .ref q_2, .ref q_3, .ref q_4, .ref q_10, .ref q_16])), (q_1, .inl (cy 0, 4, .inl g17_1)), (q_2, .inl (cy 0, 3, .inl (fun _ => 0))), (q_3, .inl (cy 2, 6, .inl (fun _ => 0))), (q_4, .inr (10, [.int 0, .ref (u_9.1 1), .ref (u_9.1 2), .ref (u_9.1 3), .ref (u_9.1 4)])), (u_9.1 1, .inl (cy 0, 20, .inl (fun _ => 0))), (u_9.1 2, .inl (cy 0, 20, .inl (fun _ => 0))), (u_9.1 3, .inl (cy 0, 20, .inl (fun _ => 0))), (u_9.1 4, .inl (cy 0, 20, .inl (fun _ => 0))), (q_10, .inr (10, [.int 0, .ref (u_15.1 1), .ref (u_15.1 2), .ref (u_15.1 3), .ref (u_15.1 4)])), (u_15.1 1, .inl (cy 0, 20, .inl (fun _ => 0))), (u_15.1 2, .inl (cy 0, 20, .inl (fun _ => 0))), (u_15.1 3, .inl (cy 0, 20, .inl (fun _ => 0))), (u_15.1 4, .inl (cy 0, 20, .inl (fun _ => 0))), (q_16, .inl (cy 0, 20, .inl (fun _ => 0)))]) [0, 1, 2, 3, 4, 5, 6, 7, 8, 9, 10, 11, 12, 13, 14] (by decide) rfl
      have hP8 : va_P D vwCl (hW cy (fun k => [h0, q_1, q_2, q_3, q_4, u_9.1 1, u_9.1 2, u_9.1 3, u_9.1 4, q_10, u_15.1 1, u_15.1 2, u_15.1 3, u_15.1 4, q_16].getD (k - 61) 0) (hJ p0 p1 p2 p3 p4 p5) (hRw g17_1)) H := hP9
      have hD8 : va_D A (hW cy (fun k => [h0, q_1, q_2, q_3, q_4, u_9.1 1, u_9.1 2, u_9.1 3, u_9.1 4, q_10, u_15.1 1, u_15.1 2, u_15.1 3, u_15.1 4, q_16].getD (k - 61) 0) (hJ p0 p1 p2 p3 p4 p5) (hRw g17_1)) := hD9
      exact W.vret hx hb hr (fun t ht hW => ⟨⟨((fun k => [h0, q_1, q_2, q_3, q_4, u_9.1 1, u_9.1 2, u_9.1 3, u_9.1 4, q_10, u_15.1 1, u_15.1 2, u_15.1 3, u_15.1 4, q_16].getD (k - 61) 0), g17_1), rfl, ⟨rfl, hi17⟩, by rw [ht]; exact hP8, va_K.moved hW.alike hK, hD8⟩, hS.F ht⟩) hS.2.2 dX3_init_112
    | succ n ih17 =>
      intro j17 x17 g17_1 H locs ls hj17 hq17 hi17 hP hD hS hl
      have hx17 : x17.toInt = (j17 : Int) := by rw [hq17]; exact nI_toInt (by omega)
      have hcx17 : x17.toNatClampNeg = j17 := by rw [hq17]; exact nI_clamp (by omega)
      refine lv_iload hx hb dX3_init_92 (lv_at hl 0 rfl) ?_
      refine lv_iconst (v := 4) hx hb dX3_init_94 (by decide) ?_
      refine lv_icmp_ge (tgt := 112) hx hb dX3_init_95 (by decide) (fun c_19 => by have c_19 : 4 ≤ x17.toInt := b_le c_19; omega) (fun c_19 => ?_)
      have c_19 : x17.toInt < 4 := b_nle c_19
      refine lv_aload_n hx hb dX3_init_98 rfl (lv_at hl 1 rfl) ?_
      refine va_get (D := D) (ci := 3) (v := .ref q_1) (C := RX3) (T := TX3) (N := 12) hx hb hT iX3 hown hK hP 0 rfl rfl 6 (by decide) (hT _ t_799) (fun _ h9 => h9) rfl dX3_init_99 ?_
      refine lv_iload hx hb dX3_init_102 (lv_at hl 0 rfl) ?_
      refine lv_iconst (v := 1) hx hb dX3_init_104 (by decide) ?_
      refine va_iast hx hb hK hP hD hS 1 0 rfl rfl (vp_inI (by omega) (by omega)) dX3_init_105 (fun H locs hP hD hS => ?_)
      have hP : va_P D vwCl [(h0, .inr (3, [.int p0, .int p1, .int p2, .int p3, .int p4, .int p5, .ref q_1, .ref q_2, .ref q_3, .ref q_4, .ref q_10, .ref q_16])), (q_1, .inl (cy 0, 4, .inl (upd g17_1 x17.toNatClampNeg 1))), (q_2, .inl (cy 0, 3, .inl (fun _ => 0))), (q_3, .inl (cy 2, 6, .inl (fun _ => 0))), (q_4, .inr (10, [.int 0, .ref (u_9.1 1), .ref (u_9.1 2), .ref (u_9.1 3), .ref (u_9.1 4)])), (u_9.1 1, .inl (cy 0, 20, .inl (fun _ => 0))), (u_9.1 2, .inl (cy 0, 20, .inl (fun _ => 0))), (u_9.1 3, .inl (cy 0, 20, .inl (fun _ => 0))), (u_9.1 4, .inl (cy 0, 20, .inl (fun _ => 0))), (q_10, .inr (10, [.int 0, .ref (u_15.1 1), .ref (u_15.1 2), .ref (u_15.1 3), .ref (u_15.1 4)])), (u_15.1 1, .inl (cy 0, 20, .inl (fun _ => 0))), (u_15.1 2, .inl (cy 0, 20, .inl (fun _ => 0))), (u_15.1 3, .inl (cy 0, 20, .inl (fun _ => 0))), (u_15.1 4, .inl (cy 0, 20, .inl (fun _ => 0))), (q_16, .inl (cy 0, 20, .inl (fun _ => 0)))] H := hP
      have hD : va_D A [(h0, .inr (3, [.int p0, .int p1, .int p2, .int p3, .int p4, .int p5, .ref q_1, .ref q_2, .ref q_3, .ref q_4, .ref q_10, .ref q_16])), (q_1, .inl (cy 0, 4, .inl (upd g17_1 x17.toNatClampNeg 1))), (q_2, .inl (cy 0, 3, .inl (fun _ => 0))), (q_3, .inl (cy 2, 6, .inl (fun _ => 0))), (q_4, .inr (10, [.int 0, .ref (u_9.1 1), .ref (u_9.1 2), .ref (u_9.1 3), .ref (u_9.1 4)])), (u_9.1 1, .inl (cy 0, 20, .inl (fun _ => 0))), (u_9.1 2, .inl (cy 0, 20, .inl (fun _ => 0))), (u_9.1 3, .inl (cy 0, 20, .inl (fun _ => 0))), (u_9.1 4, .inl (cy 0, 20, .inl (fun _ => 0))), (q_10, .inr (10, [.int 0, .ref (u_15.1 1), .ref (u_15.1 2), .ref (u_15.1 3), .ref (u_15.1 4)])), (u_15.1 1, .inl (cy 0, 20, .inl (fun _ => 0))), (u_15.1 2, .inl (cy 0, 20, .inl (fun _ => 0))), (u_15.1 3, .inl (cy 0, 20, .inl (fun _ => 0))), (u_15.1 4, .inl (cy 0, 20, .inl (fun _ => 0))), (q_16, .inl (cy 0, 20, .inl (fun _ => 0)))] := hD
      obtain ⟨x_20, ex_20⟩ : ∃ y : Int32, y = x17 + 1 := ⟨_, rfl⟩
      refine lv_iinc (v := x_20) (lv' := [(7, .int x_20), (0, .ref h0), (1, .int p0), (2, .int p1), (3, .int p2), (4, .int p3), (5, .int p4), (6, .int p5)]) hx hb dX3_init_106 hl (k := 0) rfl (by rw [ex_20]; rfl) (by decide) rfl (fun ls hl => ?_)
      refine lv_goto (tgt := 92) hx hb dX3_init_109 (by decide) ?_
      have hst_21 : ∀ t, (upd g17_1 x17.toNatClampNeg 1) t = if t < j17 + 1 then 1 else 0 := by
        intro t
        rw [hcx17]; unfold upd
        by_cases h9 : t = j17
        · rw [if_pos h9, if_pos (by omega)]
        · rw [if_neg h9, hi17]
          by_cases h8 : t < j17
          · rw [if_pos h8, if_pos (by omega)]
          · rw [if_neg h8, if_neg (by omega)]
      exact ih17 (j17 + 1) x_20 (upd g17_1 x17.toNatClampNeg 1) _ _ _ (by omega) (by rw [ex_20, hq17]; exact nI_1 j17) hst_21 hP hD hS (lv_sub hl [0, 1, 2, 3, 4, 5, 6, 7] rfl)
  exact loop_17 4 0 0 (fun _ => 0) _ _ _ (by omega) rfl (fun t => rfl) hP hD hS hl
set_option maxHeartbeats 4000000 in
set_option maxRecDepth 100000 in
theorem c_X11_home_ok (l : Launch) (D : va_G) (cy : Nat → ClassId) (h0 : Nat) (k0 : Nat) (k1 : Nat) (f2 : Int32) (k3 : Nat) (k4 : Nat) (k5 : Nat) (k6 : Nat) (k7 : Nat) (k8 : Nat) (k9 : Nat) (f10 : Int32) (k11 : Nat) (k12 : Nat) (k13 : Nat) (q : Nat → Option Nat) (p0 p1 p2 p3 p4 p5 : Int32) (sz : Nat) (hc : (0 ≤ p0.toInt ∧ p0.toInt ≤ 3) ∧ (1 ≤ p1.toInt ∧ p1.toInt ≤ 4) ∧ (0 ≤ p2.toInt ∧ p2.toInt ≤ 999999) ∧ (0 ≤ p3.toInt ∧ p3.toInt ≤ 999) ∧ p3.toInt ≤ p4.toInt ∧ p4.toInt ≤ 999) (hn : 0 ≤ f2.toInt ∧ f2.toInt ≤ 5) (hk : p5 = 0 ∨ p5 = 1) : Met l yX11_home (Cond.code yX11_home cX11_home 8 (some .int) :: gT) { frames := 3, cells := 15, slots := 215, locals := 71 } (va_Pc [.ref h0, .int p0, .int p1, .int p2, .int p3, .int p4, .int p5] (rN D cy [(h0, .inr (11, [.ref k0, .ref k1, .int f2, .ref k3, .ref k4, .ref k5, .ref k6, .ref k7, .ref k8, .ref k9, .int f10, .ref k11, .ref k12, .ref k13])), (k1, .inl (cy 4, 6, .inr (.inr (.inr (.inr q)))))] sz)) (va_Qi (fun (z : Int32) (u : (Nat → Nat) × (Nat → Int32) × Int32) => z = f2 ∧ u.2.2.toInt = f2.toInt + 1 ∧ ∀ t, u.2.1 t = if t < 4 then 1 else 0) (fun (u : (Nat → Nat) × (Nat → Int32) × Int32) t => va_P D vwCl ([(h0, .inr (11, [.ref k0, .ref k1, .int u.2.2, .ref k3, .ref k4, .ref k5, .ref k6, .ref k7, .ref k8, .ref k9, .int f10, .ref k11, .ref k12, .ref k13])), (k1, .inl (cy 4, 6, .inr (.inr (.inr (.inr (va_up q f2.toNatClampNeg (some (u.1 61))))))))] ++ hW cy u.1 (hJ p0 p1 p2 p3 p4 p5) (hRw u.2.1)) t.heap ∧ va_K D vwCl (vT cy) t ∧ va_D (va_A [(h0, .inr (11, [.ref k0, .ref k1, .int f2, .ref k3, .ref k4, .ref k5, .ref k6, .ref k7, .ref k8, .ref k9, .int f10, .ref k11, .ref k12, .ref k13])), (k1, .inl (cy 4, 6, .inr (.inr (.inr (.inr q)))))] sz) ([(h0, .inr (11, [.ref k0, .ref k1, .int u.2.2, .ref k3, .ref k4, .ref k5, .ref k6, .ref k7, .ref k8, .ref k9, .int f10, .ref k11, .ref k12, .ref k13])), (k1, .inl (cy 4, 6, .inr (.inr (.inr (.inr (va_up q f2.toNatClampNeg (some (u.1 61))))))))] ++ hW cy u.1 (hJ p0 p1 p2 p3 p4 p5) (hRw u.2.1))) (va_A [(h0, .inr (11, [.ref k0, .ref k1, .int f2, .ref k3, .ref k4, .ref k5, .ref k6, .ref k7, .ref k8, .ref k9, .int f10, .ref k11, .ref k12, .ref k13])), (k1, .inl (cy 4, 6, .inr (.inr (.inr (.inr q)))))] sz)) 15 215 (va_A [(h0, .inr (11, [.ref k0, .ref k1, .int f2, .ref k3, .ref k4, .ref k5, .ref k6, .ref k7, .ref k8, .ref k9, .int f10, .ref k11, .ref k12, .ref k13])), (k1, .inl (cy 4, 6, .inr (.inr (.inr (.inr q)))))] sz) := by
  refine Met.ofQ (cc := cX11_home) (maxL := 8) (ret := (some .int)) (by decide) rfl ?_
  intro p e s m args below meth c s₁ B hml hv Q hQ
  obtain ⟨rfl, hnw, hsz, hP, hK, hD0⟩ := hv
  have hx := B.exec
  have hb := B.bytes
  have hr := B.returns
  have hlocks := B.notSynchronized
  have hT : ∀ w ∈ gT, w.before _ s = true := fun w h => atoms_spec (ws := (Cond.code yX11_home cX11_home 8 (some .int) :: gT)) B.pre w (List.mem_cons_of_mem _ h)
  have hown : s.vm.findClass RX11 = some m.cls := findClass_of_methodNamed B.named
  subst hsz
  have hD := hD0.self (sz := s.heap.size)
  generalize hAe : va_A [(h0, .inr (11, [.ref k0, .ref k1, .int f2, .ref k3, .ref k4, .ref k5, .ref k6, .ref k7, .ref k8, .ref k9, .int f10, .ref k11, .ref k12, .ref k13])), (k1, .inl (cy 4, 6, .inr (.inr (.inr (.inr q)))))] s.heap.size = A at hD hQ
  have hA : ∀ q : Nat, s.heap.size ≤ q → A q := fun q h => by rw [← hAe]; exact Or.inr h
  have hS : va_S A s.heap s.heap [] := va_S.rf
  have hl := lv_entry ([.ref h0, .int p0, .int p1, .int p2, .int p3, .int p4, .int p5]) (n := 8) (Nat.le_of_ble_eq_true rfl)
  rw [lg_entry_eq]
  generalize (lg_sl ([.ref h0, .int p0, .int p1, .int p2, .int p3, .int p4, .int p5]) ++ List.replicate (8 - (lg_sl ([.ref h0, .int p0, .int p1, .int p2, .int p3, .int p4, .int p5])).length) Slot.unset).toArray = ls at hl ⊢
  have hl : lv_has ls 8 [(0, .ref h0), (1, .int p0), (2, .int p1), (3, .int p2), (4, .int p3), (5, .int p4), (6, .int p5)] := hl
  refine lv_iload_n hx hb dX11_home_0 rfl (lv_at hl 1 rfl) ?_
  refine lv_iconst (v := 0) hx hb dX11_home_1 (by decide) ?_
  refine lv_iconst (v := 3) hx hb dX11_home_2 (by decide) ?_
  refine vp_callSi (W.runS (As := [.int p0, .int 0, .int 3]) (rest := []) ⟨hx, hb, hml, hown, hT⟩ (c_X11_within l p0 0 3) (va_cwS 3 hT (gS t_1 t_3 t_4 t_2) rfl rfl rfl (by decide +kernel) ⟨Nat.le_of_ble_eq_true rfl, Nat.le_of_ble_eq_true rfl⟩) preT rfl rfl hl.1 rfl (lv_room (Nat.le_of_ble_eq_true rfl)) dX11_home_3 ⟨Nat.le_of_ble_eq_true rfl, Nat.le_of_ble_eq_true rfl⟩) (fun r_1 hr_1 => ?_)
  have hr_1 : BR r_1 (0 ≤ p0.toInt ∧ p0.toInt ≤ 3) 1 0 := hr_1
  rcases hr_1 with ⟨rfl, h_2⟩ | ⟨rfl, h_2⟩
  · skip
    refine lv_if_eq (tgt := 62) hx hb dX11_home_6 (by decide) (fun c_3 => absurd c_3 (by decide)) (fun c_3 => ?_)
    refine lv_iload_n hx hb dX11_home_9 rfl (lv_at hl 2 rfl) ?_
    refine lv_iconst (v := 1) hx hb dX11_home_10 (by decide) ?_
    refine lv_iconst (v := 4) hx hb dX11_home_11 (by decide) ?_
    refine vp_callSi (W.runS (As := [.int p1, .int 1, .int 4]) (rest := []) ⟨hx, hb, hml, hown, hT⟩ (c_X11_within l p1 1 4) (va_cwS 3 hT (gS t_1 t_3 t_4 t_2) rfl rfl rfl (by decide +kernel) ⟨Nat.le_of_ble_eq_true rfl, Nat.le_of_ble_eq_true rfl⟩) preT rfl rfl hl.1 rfl (lv_room (Nat.le_of_ble_eq_true rfl)) dX11_home_12 ⟨Nat.le_of_ble_eq_true rfl, Nat.le_of_ble_eq_true rfl⟩) (fun r_4 hr_4 => ?_)
    have hr_4 : BR r_4 (1 ≤ p1.toInt ∧ p1.toInt ≤ 4) 1 0 := hr_4
    rcases hr_4 with ⟨rfl, h_5⟩ | ⟨rfl, h_5⟩
    · skip
      refine lv_if_eq (tgt := 62) hx hb dX11_home_15 (by decide) (fun c_6 => absurd c_6 (by decide)) (fun c_6 => ?_)
      refine lv_iload_n hx hb dX11_home_18 rfl (lv_at hl 3 rfl) ?_
      refine lv_iconst (v := 0) hx hb dX11_home_19 (by decide) ?_
      refine lv_ldc (v := 999999) hx hb hown (hT _ t_277) dX11_home_20 ?_
      refine vp_callSi (W.runS (As := [.int p2, .int 0, .int 999999]) (rest := []) ⟨hx, hb, hml, hown, hT⟩ (c_X11_within l p2 0 999999) (va_cwS 3 hT (gS t_1 t_3 t_4 t_2) rfl rfl rfl (by decide +kernel) ⟨Nat.le_of_ble_eq_true rfl, Nat.le_of_ble_eq_true rfl⟩) preT rfl rfl hl.1 rfl (lv_room (Nat.le_of_ble_eq_true rfl)) dX11_home_22 ⟨Nat.le_of_ble_eq_true rfl, Nat.le_of_ble_eq_true rfl⟩) (fun r_7 hr_7 => ?_)
      have hr_7 : BR r_7 (0 ≤ p2.toInt ∧ p2.toInt ≤ 999999) 1 0 := hr_7
      rcases hr_7 with ⟨rfl, h_8⟩ | ⟨rfl, h_8⟩
      · skip
        refine lv_if_eq (tgt := 62) hx hb dX11_home_25 (by decide) (fun c_9 => absurd c_9 (by decide)) (fun c_9 => ?_)
        refine lv_iload hx hb dX11_home_28 (lv_at hl 4 rfl) ?_
        refine lv_iconst (v := 0) hx hb dX11_home_30 (by decide) ?_
        refine lv_sipush (v := 999) hx hb dX11_home_31 (by decide) ?_
        refine vp_callSi (W.runS (As := [.int p3, .int 0, .int 999]) (rest := []) ⟨hx, hb, hml, hown, hT⟩ (c_X11_within l p3 0 999) (va_cwS 3 hT (gS t_1 t_3 t_4 t_2) rfl rfl rfl (by decide +kernel) ⟨Nat.le_of_ble_eq_true rfl, Nat.le_of_ble_eq_true rfl⟩) preT rfl rfl hl.1 rfl (lv_room (Nat.le_of_ble_eq_true rfl)) dX11_home_34 ⟨Nat.le_of_ble_eq_true rfl, Nat.le_of_ble_eq_true rfl⟩) (fun r_10 hr_10 => ?_)
        have hr_10 : BR r_10 (0 ≤ p3.toInt ∧ p3.toInt ≤ 999) 1 0 := hr_10
        rcases hr_10 with ⟨rfl, h_11⟩ | ⟨rfl, h_11⟩
        · skip
          refine lv_if_eq (tgt := 62) hx hb dX11_home_37 (by decide) (fun c_12 => absurd c_12 (by decide)) (fun c_12 => ?_)
          refine lv_iload hx hb dX11_home_40 (lv_at hl 5 rfl) ?_
          refine lv_iload hx hb dX11_home_42 (lv_at hl 4 rfl) ?_
          refine lv_sipush (v := 999) hx hb dX11_home_44 (by decide) ?_
          refine vp_callSi (W.runS (As := [.int p4, .int p3, .int 999]) (rest := []) ⟨hx, hb, hml, hown, hT⟩ (c_X11_within l p4 p3 999) (va_cwS 3 hT (gS t_1 t_3 t_4 t_2) rfl rfl rfl (by decide +kernel) ⟨Nat.le_of_ble_eq_true rfl, Nat.le_of_ble_eq_true rfl⟩) preT rfl rfl hl.1 rfl (lv_room (Nat.le_of_ble_eq_true rfl)) dX11_home_47 ⟨Nat.le_of_ble_eq_true rfl, Nat.le_of_ble_eq_true rfl⟩) (fun r_13 hr_13 => ?_)
          have hr_13 : BR r_13 (p3.toInt ≤ p4.toInt ∧ p4.toInt ≤ 999) 1 0 := hr_13
          rcases hr_13 with ⟨rfl, h_14⟩ | ⟨rfl, h_14⟩
          · skip
            refine lv_if_eq (tgt := 62) hx hb dX11_home_50 (by decide) (fun c_15 => absurd c_15 (by decide)) (fun c_15 => ?_)
            refine lv_aload_n hx hb dX11_home_53 rfl (lv_at hl 0 rfl) ?_
            refine va_get (D := D) (ci := 11) (v := .int f2) (C := RX11) (T := TX11) (N := 14) hx hb hT iX11 hown hK hP 0 rfl rfl 2 (by decide) (hT _ t_263) (fun _ h9 => h9) rfl dX11_home_54 ?_
            refine lv_bipush (v := 6) hx hb dX11_home_57 (by decide) ?_
            refine lv_icmp_lt (tgt := 64) hx hb dX11_home_59 (by decide) (fun c_16 => ?_) (fun c_16 => by have c_16 : 6 ≤ f2.toInt := b_nlt c_16; omega)
            have c_16 : f2.toInt < 6 := b_lt c_16
            refine va_new (ci := 3) (fs := [.int 0, .int 0, .int 0, .int 0, .int 0, .int 0, .null, .null, .null, .null, .null, .null]) (C := RX3) (T := TX3) (N := 12) hx hb hT iX3 tyX3 tyX3_ok hown (hT _ t_754) (hT _ t_808) (hT _ t_391) hK hP hD hS hA rfl (fun j hj => dfl3 j hj) (Nat.le_of_ble_eq_true rfl) (Nat.le_of_ble_eq_true rfl) dX11_home_64 (fun q_17 H hP hD hS => ?_)
            have hP : va_P D vwCl [(h0, .inr (11, [.ref k0, .ref k1, .int f2, .ref k3, .ref k4, .ref k5, .ref k6, .ref k7, .ref k8, .ref k9, .int f10, .ref k11, .ref k12, .ref k13])), (k1, .inl (cy 4, 6, .inr (.inr (.inr (.inr q))))), (q_17, .inr (3, [.int 0, .int 0, .int 0, .int 0, .int 0, .int 0, .null, .null, .null, .null, .null, .null]))] H := hP
            have hD : va_D A [(h0, .inr (11, [.ref k0, .ref k1, .int f2, .ref k3, .ref k4, .ref k5, .ref k6, .ref k7, .ref k8, .ref k9, .int f10, .ref k11, .ref k12, .ref k13])), (k1, .inl (cy 4, 6, .inr (.inr (.inr (.inr q))))), (q_17, .inr (3, [.int 0, .int 0, .int 0, .int 0, .int 0, .int 0, .null, .null, .null, .null, .null, .null]))] := hD
            refine W.widen (k := 1) (n := 12) (Nat.le_of_ble_eq_true rfl) (Nat.le_of_ble_eq_true rfl) ?_
            refine lv_dup hx hb dX11_home_67 rfl ?_
            refine lv_iload_n hx hb dX11_home_68 rfl (lv_at hl 1 rfl) ?_
            refine lv_iload_n hx hb dX11_home_69 rfl (lv_at hl 2 rfl) ?_
            refine lv_iload_n hx hb dX11_home_70 rfl (lv_at hl 3 rfl) ?_
            refine lv_iload hx hb dX11_home_71 (lv_at hl 4 rfl) ?_
            refine lv_iload hx hb dX11_home_73 (lv_at hl 5 rfl) ?_
            refine lv_iload hx hb dX11_home_75 (lv_at hl 6 rfl) ?_
            have hP_18 := hP.sub (ws' := [(q_17, .inr (3, [.int 0, .int 0, .int 0, .int 0, .int 0, .int 0, .null, .null, .null, .null, .null, .null]))]) [2] rfl
            have hD_20 := hD.sub (ws' := [(q_17, .inr (3, [.int 0, .int 0, .int 0, .int 0, .int 0, .int 0, .null, .null, .null, .null, .null, .null]))]) [2] (by decide) rfl
            have hF_19 := va_free (wc := [(q_17, .inr (3, [.int 0, .int 0, .int 0, .int 0, .int 0, .int 0, .null, .null, .null, .null, .null, .null]))]) hD hS hA [2] rfl
            refine va_callv (va_runI (As := [.int p0, .int p1, .int p2, .int p3, .int p4, .int p5]) (rest := [.ref q_17]) ⟨hx, hb, hml, hown, hT⟩ (c_X3_init l D cy q_17 p0 p1 p2 p3 p4 p5 _ hk) (cwI 6 hT (gI t_809) rfl rfl rfl (hT _ t_391) (hT _ t_810) (hT _ t_811) rfl (by decide +kernel) ⟨Nat.le_of_ble_eq_true rfl, Nat.le_of_ble_eq_true rfl⟩) (rN_s hnw hP_18 hK hD_20) rfl rfl hl.1 rfl (lv_room (Nat.le_of_ble_eq_true rfl)) dX11_home_77 ⟨Nat.le_of_ble_eq_true rfl, Nat.le_of_ble_eq_true rfl⟩) hS (fun q _ h => hF_19 q h) hF_19 (fun u_22 t H1 locs ht hvm hr_21 hB hz1 hk1 hS => ?_)
            obtain ⟨hP1, hK1, hD1⟩ := hB
            rw [ht] at hP1
            obtain ⟨u_22a, u_22f⟩ := u_22
            obtain ⟨h61, hf62⟩ := hr_21
            have h61 : u_22a 61 = q_17 := h61
            subst h61
            have hD1 : va_D (va_A [(u_22a 61, .inr (3, [.int 0, .int 0, .int 0, .int 0, .int 0, .int 0, .null, .null, .null, .null, .null, .null]))] H.size) [(u_22a 61, .inr (3, [.int p0, .int p1, .int p2, .int p3, .int p4, .int p5, .ref (u_22a 62), .ref (u_22a 63), .ref (u_22a 64), .ref (u_22a 65), .ref (u_22a 70), .ref (u_22a 75)])), (u_22a 62, .inl (cy 0, 4, .inl u_22f)), (u_22a 63, .inl (cy 0, 3, .inl (fun _ => 0))), (u_22a 64, .inl (cy 2, 6, .inl (fun _ => 0))), (u_22a 65, .inr (10, [.int 0, .ref (u_22a 66), .ref (u_22a 67), .ref (u_22a 68), .ref (u_22a 69)])), (u_22a 66, .inl (cy 0, 20, .inl (fun _ => 0))), (u_22a 67, .inl (cy 0, 20, .inl (fun _ => 0))), (u_22a 68, .inl (cy 0, 20, .inl (fun _ => 0))), (u_22a 69, .inl (cy 0, 20, .inl (fun _ => 0))), (u_22a 70, .inr (10, [.int 0, .ref (u_22a 71), .ref (u_22a 72), .ref (u_22a 73), .ref (u_22a 74)])), (u_22a 71, .inl (cy 0, 20, .inl (fun _ => 0))), (u_22a 72, .inl (cy 0, 20, .inl (fun _ => 0))), (u_22a 73, .inl (cy 0, 20, .inl (fun _ => 0))), (u_22a 74, .inl (cy 0, 20, .inl (fun _ => 0))), (u_22a 75, .inl (cy 0, 20, .inl (fun _ => 0)))] := hD1
            obtain ⟨hP, hD⟩ := va_join (wr := [(h0, .inr (11, [.ref k0, .ref k1, .int f2, .ref k3, .ref k4, .ref k5, .ref k6, .ref k7, .ref k8, .ref k9, .int f10, .ref k11, .ref k12, .ref k13])), (k1, .inl (cy 4, 6, .inr (.inr (.inr (.inr q)))))]) (w1 := [(u_22a 61, .inr (3, [.int p0, .int p1, .int p2, .int p3, .int p4, .int p5, .ref (u_22a 62), .ref (u_22a 63), .ref (u_22a 64), .ref (u_22a 65), .ref (u_22a 70), .ref (u_22a 75)])), (u_22a 62, .inl (cy 0, 4, .inl u_22f)), (u_22a 63, .inl (cy 0, 3, .inl (fun _ => 0))), (u_22a 64, .inl (cy 2, 6, .inl (fun _ => 0))), (u_22a 65, .inr (10, [.int 0, .ref (u_22a 66), .ref (u_22a 67), .ref (u_22a 68), .ref (u_22a 69)])), (u_22a 66, .inl (cy 0, 20, .inl (fun _ => 0))), (u_22a 67, .inl (cy 0, 20, .inl (fun _ => 0))), (u_22a 68, .inl (cy 0, 20, .inl (fun _ => 0))), (u_22a 69, .inl (cy 0, 20, .inl (fun _ => 0))), (u_22a 70, .inr (10, [.int 0, .ref (u_22a 71), .ref (u_22a 72), .ref (u_22a 73), .ref (u_22a 74)])), (u_22a 71, .inl (cy 0, 20, .inl (fun _ => 0))), (u_22a 72, .inl (cy 0, 20, .inl (fun _ => 0))), (u_22a 73, .inl (cy 0, 20, .inl (fun _ => 0))), (u_22a 74, .inl (cy 0, 20, .inl (fun _ => 0))), (u_22a 75, .inl (cy 0, 20, .inl (fun _ => 0)))]) hP hD [2] [0, 1] rfl rfl (by decide) (by decide) hk1 hF_19 hP1 hD1
            have hP : va_P D vwCl [(h0, .inr (11, [.ref k0, .ref k1, .int f2, .ref k3, .ref k4, .ref k5, .ref k6, .ref k7, .ref k8, .ref k9, .int f10, .ref k11, .ref k12, .ref k13])), (k1, .inl (cy 4, 6, .inr (.inr (.inr (.inr q))))), (u_22a 61, .inr (3, [.int p0, .int p1, .int p2, .int p3, .int p4, .int p5, .ref (u_22a 62), .ref (u_22a 63), .ref (u_22a 64), .ref (u_22a 65), .ref (u_22a 70), .ref (u_22a 75)])), (u_22a 62, .inl (cy 0, 4, .inl u_22f)), (u_22a 63, .inl (cy 0, 3, .inl (fun _ => 0))), (u_22a 64, .inl (cy 2, 6, .inl (fun _ => 0))), (u_22a 65, .inr (10, [.int 0, .ref (u_22a 66), .ref (u_22a 67), .ref (u_22a 68), .ref (u_22a 69)])), (u_22a 66, .inl (cy 0, 20, .inl (fun _ => 0))), (u_22a 67, .inl (cy 0, 20, .inl (fun _ => 0))), (u_22a 68, .inl (cy 0, 20, .inl (fun _ => 0))), (u_22a 69, .inl (cy 0, 20, .inl (fun _ => 0))), (u_22a 70, .inr (10, [.int 0, .ref (u_22a 71), .ref (u_22a 72), .ref (u_22a 73), .ref (u_22a 74)])), (u_22a 71, .inl (cy 0, 20, .inl (fun _ => 0))), (u_22a 72, .inl (cy 0, 20, .inl (fun _ => 0))), (u_22a 73, .inl (cy 0, 20, .inl (fun _ => 0))), (u_22a 74, .inl (cy 0, 20, .inl (fun _ => 0))), (u_22a 75, .inl (cy 0, 20, .inl (fun _ => 0)))] H1 := hP
            have hD : va_D A [(h0, .inr (11, [.ref k0, .ref k1, .int f2, .ref k3, .ref k4, .ref k5, .ref k6, .ref k7, .ref k8, .ref k9, .int f10, .ref k11, .ref k12, .ref k13])), (k1, .inl (cy 4, 6, .inr (.inr (.inr (.inr q))))), (u_22a 61, .inr (3, [.int p0, .int p1, .int p2, .int p3, .int p4, .int p5, .ref (u_22a 62), .ref (u_22a 63), .ref (u_22a 64), .ref (u_22a 65), .ref (u_22a 70), .ref (u_22a 75)])), (u_22a 62, .inl (cy 0, 4, .inl u_22f)), (u_22a 63, .inl (cy 0, 3, .inl (fun _ => 0))), (u_22a 64, .inl (cy 2, 6, .inl (fun _ => 0))), (u_22a 65, .inr (10, [.int 0, .ref (u_22a 66), .ref (u_22a 67), .ref (u_22a 68), .ref (u_22a 69)])), (u_22a 66, .inl (cy 0, 20, .inl (fun _ => 0))), (u_22a 67, .inl (cy 0, 20, .inl (fun _ => 0))), (u_22a 68, .inl (cy 0, 20, .inl (fun _ => 0))), (u_22a 69, .inl (cy 0, 20, .inl (fun _ => 0))), (u_22a 70, .inr (10, [.int 0, .ref (u_22a 71), .ref (u_22a 72), .ref (u_22a 73), .ref (u_22a 74)])), (u_22a 71, .inl (cy 0, 20, .inl (fun _ => 0))), (u_22a 72, .inl (cy 0, 20, .inl (fun _ => 0))), (u_22a 73, .inl (cy 0, 20, .inl (fun _ => 0))), (u_22a 74, .inl (cy 0, 20, .inl (fun _ => 0))), (u_22a 75, .inl (cy 0, 20, .inl (fun _ => 0)))] := hD
            refine W.widen (k := 15) (n := 215) (Nat.le_of_ble_eq_true rfl) (Nat.le_of_ble_eq_true rfl) ?_
            refine lv_astore (lv' := [(7, .ref (u_22a 61)), (0, .ref h0), (1, .int p0), (2, .int p1), (3, .int p2), (4, .int p3), (5, .int p4), (6, .int p5)]) hx hb dX11_home_80 hl (by decide) rfl (fun ls hl => ?_)
            refine lv_aload_n hx hb dX11_home_82 rfl (lv_at hl 1 rfl) ?_
            refine va_get (D := D) (ci := 11) (v := .ref k1) (C := RX11) (T := TX11) (N := 14) hx hb hT iX11 hown hK hP 0 rfl rfl 1 (by decide) (hT _ t_264) (fun _ h9 => h9) rfl dX11_home_83 ?_
            refine lv_aload_n hx hb dX11_home_86 rfl (lv_at hl 1 rfl) ?_
            refine va_get (D := D) (ci := 11) (v := .int f2) (C := RX11) (T := TX11) (N := 14) hx hb hT iX11 hown hK hP 0 rfl rfl 2 (by decide) (hT _ t_263) (fun _ h9 => h9) rfl dX11_home_87 ?_
            refine lv_aload hx hb dX11_home_90 (lv_at hl 0 rfl) ?_
            refine va_astq hx hb hK hP hD hS 1 4 2 3 rfl rfl rfl rfl (vp_inI (by omega) (by omega)) dX11_home_92 (fun H locs hP hD hS => ?_)
            have hP : va_P D vwCl [(h0, .inr (11, [.ref k0, .ref k1, .int f2, .ref k3, .ref k4, .ref k5, .ref k6, .ref k7, .ref k8, .ref k9, .int f10, .ref k11, .ref k12, .ref k13])), (k1, .inl (cy 4, 6, .inr (.inr (.inr (.inr (va_up q f2.toNatClampNeg (some (u_22a 61)))))))), (u_22a 61, .inr (3, [.int p0, .int p1, .int p2, .int p3, .int p4, .int p5, .ref (u_22a 62), .ref (u_22a 63), .ref (u_22a 64), .ref (u_22a 65), .ref (u_22a 70), .ref (u_22a 75)])), (u_22a 62, .inl (cy 0, 4, .inl u_22f)), (u_22a 63, .inl (cy 0, 3, .inl (fun _ => 0))), (u_22a 64, .inl (cy 2, 6, .inl (fun _ => 0))), (u_22a 65, .inr (10, [.int 0, .ref (u_22a 66), .ref (u_22a 67), .ref (u_22a 68), .ref (u_22a 69)])), (u_22a 66, .inl (cy 0, 20, .inl (fun _ => 0))), (u_22a 67, .inl (cy 0, 20, .inl (fun _ => 0))), (u_22a 68, .inl (cy 0, 20, .inl (fun _ => 0))), (u_22a 69, .inl (cy 0, 20, .inl (fun _ => 0))), (u_22a 70, .inr (10, [.int 0, .ref (u_22a 71), .ref (u_22a 72), .ref (u_22a 73), .ref (u_22a 74)])), (u_22a 71, .inl (cy 0, 20, .inl (fun _ => 0))), (u_22a 72, .inl (cy 0, 20, .inl (fun _ => 0))), (u_22a 73, .inl (cy 0, 20, .inl (fun _ => 0))), (u_22a 74, .inl (cy 0, 20, .inl (fun _ => 0))), (u_22a 75, .inl (cy 0, 20, .inl (fun _ => 0)))] H := hP
            have hD : va_D A [(h0, .inr (11, [.ref k0, .ref k1, .int f2, .ref k3, .ref k4, .ref k5, .ref k6, .ref k7, .ref k8, .ref k9, .int f10, .ref k11, .ref k12, .ref k13])), (k1, .inl (cy 4, 6, .inr (.inr (.inr (.inr (va_up q f2.toNatClampNeg (some (u_22a 61)))))))), (u_22a 61, .inr (3, [.int p0, .int p1, .int p2, .int p3, .int p4, .int p5, .ref (u_22a 62), .ref (u_22a 63), .ref (u_22a 64), .ref (u_22a 65), .ref (u_22a 70), .ref (u_22a 75)])), (u_22a 62, .inl (cy 0, 4, .inl u_22f)), (u_22a 63, .inl (cy 0, 3, .inl (fun _ => 0))), (u_22a 64, .inl (cy 2, 6, .inl (fun _ => 0))), (u_22a 65, .inr (10, [.int 0, .ref (u_22a 66), .ref (u_22a 67), .ref (u_22a 68), .ref (u_22a 69)])), (u_22a 66, .inl (cy 0, 20, .inl (fun _ => 0))), (u_22a 67, .inl (cy 0, 20, .inl (fun _ => 0))), (u_22a 68, .inl (cy 0, 20, .inl (fun _ => 0))), (u_22a 69, .inl (cy 0, 20, .inl (fun _ => 0))), (u_22a 70, .inr (10, [.int 0, .ref (u_22a 71), .ref (u_22a 72), .ref (u_22a 73), .ref (u_22a 74)])), (u_22a 71, .inl (cy 0, 20, .inl (fun _ => 0))), (u_22a 72, .inl (cy 0, 20, .inl (fun _ => 0))), (u_22a 73, .inl (cy 0, 20, .inl (fun _ => 0))), (u_22a 74, .inl (cy 0, 20, .inl (fun _ => 0))), (u_22a 75, .inl (cy 0, 20, .inl (fun _ => 0)))] := hD
            refine lv_aload_n hx hb dX11_home_93 rfl (lv_at hl 1 rfl) ?_
            refine lv_dup hx hb dX11_home_94 rfl ?_
            refine va_get (D := D) (ci := 11) (v := .int f2) (C := RX11) (T := TX11) (N := 14) hx hb hT iX11 hown hK hP 0 rfl rfl 2 (by decide) (hT _ t_263) (fun _ h9 => h9) rfl dX11_home_95 ?_
            refine lv_iconst (v := 1) hx hb dX11_home_98 (by decide) ?_
            refine lv_iadd hx hb dX11_home_99 ?_
            refine lv_topi (fun v_23 ev_23 => ?_)
            have hv_23 : v_23.toInt = f2.toInt + 1 := by rw [ev_23]; have := b_rg f2; exact i_add (a := f2.toInt) (b := 1) rfl rfl (by omega) (by omega)
            refine va_put (D := D) (ci := 11) (v := .int v_23) (ty := .int) (C := RX11) (T := TX11) (N := 14) hx hb hT iX11 tyX11 tyX11_ok nmX11 hown hK hP hD hS 0 rfl rfl 2 (by decide) (hT _ t_263) (fun _ h9 => h9) rfl (by decide +kernel) rfl rfl (Nat.le_of_ble_eq_true rfl) dX11_home_100 (fun H locs hP hD hS => ?_)
            have hP : va_P D vwCl [(h0, .inr (11, [.ref k0, .ref k1, .int v_23, .ref k3, .ref k4, .ref k5, .ref k6, .ref k7, .ref k8, .ref k9, .int f10, .ref k11, .ref k12, .ref k13])), (k1, .inl (cy 4, 6, .inr (.inr (.inr (.inr (va_up q f2.toNatClampNeg (some (u_22a 61)))))))), (u_22a 61, .inr (3, [.int p0, .int p1, .int p2, .int p3, .int p4, .int p5, .ref (u_22a 62), .ref (u_22a 63), .ref (u_22a 64), .ref (u_22a 65), .ref (u_22a 70), .ref (u_22a 75)])), (u_22a 62, .inl (cy 0, 4, .inl u_22f)), (u_22a 63, .inl (cy 0, 3, .inl (fun _ => 0))), (u_22a 64, .inl (cy 2, 6, .inl (fun _ => 0))), (u_22a 65, .inr (10, [.int 0, .ref (u_22a 66), .ref (u_22a 67), .ref (u_22a 68), .ref (u_22a 69)])), (u_22a 66, .inl (cy 0, 20, .inl (fun _ => 0))), (u_22a 67, .inl (cy 0, 20, .inl (fun _ => 0))), (u_22a 68, .inl (cy 0, 20, .inl (fun _ => 0))), (u_22a 69, .inl (cy 0, 20, .inl (fun _ => 0))), (u_22a 70, .inr (10, [.int 0, .ref (u_22a 71), .ref (u_22a 72), .ref (u_22a 73), .ref (u_22a 74)])), (u_22a 71, .inl (cy 0, 20, .inl (fun _ => 0))), (u_22a 72, .inl (cy 0, 20, .inl (fun _ => 0))), (u_22a 73, .inl (cy 0, 20, .inl (fun _ => 0))), (u_22a 74, .inl (cy 0, 20, .inl (fun _ => 0))), (u_22a 75, .inl (cy 0, 20, .inl (fun _ => 0)))] H := hP
            have hD : va_D A [(h0, .inr (11, [.ref k0, .ref k1, .int v_23, .ref k3, .ref k4, .ref k5, .ref k6, .ref k7, .ref k8, .ref k9, .int f10, .ref k11, .ref k12, .ref k13])), (k1, .inl (cy 4, 6, .inr (.inr (.inr (.inr (va_up q f2.toNatClampNeg (some (u_22a 61)))))))), (u_22a 61, .inr (3, [.int p0, .int p1, .int p2, .int p3, .int p4, .int p5, .ref (u_22a 62), .ref (u_22a 63), .ref (u_22a 64), .ref (u_22a 65), .ref (u_22a 70), .ref (u_22a 75)])), (u_22a 62, .inl (cy 0, 4, .inl u_22f)), (u_22a 63, .inl (cy 0, 3, .inl (fun _ => 0))), (u_22a 64, .inl (cy 2, 6, .inl (fun _ => 0))), (u_22a 65, .inr (10, [.int 0, .ref (u_22a 66), .ref (u_22a 67), .ref (u_22a 68), .ref (u_22a 69)])), (u_22a 66, .inl (cy 0, 20, .inl (fun _ => 0))), (u_22a 67, .inl (cy 0, 20, .inl (fun _ => 0))), (u_22a 68, .inl (cy 0, 20, .inl (fun _ => 0))), (u_22a 69, .inl (cy 0, 20, .inl (fun _ => 0))), (u_22a 70, .inr (10, [.int 0, .ref (u_22a 71), .ref (u_22a 72), .ref (u_22a 73), .ref (u_22a 74)])), (u_22a 71, .inl (cy 0, 20, .inl (fun _ => 0))), (u_22a 72, .inl (cy 0, 20, .inl (fun _ => 0))), (u_22a 73, .inl (cy 0, 20, .inl (fun _ => 0))), (u_22a 74, .inl (cy 0, 20, .inl (fun _ => 0))), (u_22a 75, .inl (cy 0, 20, .inl (fun _ => 0)))] := hD
            refine lv_aload_n hx hb dX11_home_103 rfl (lv_at hl 1 rfl) ?_
            refine va_get (D := D) (ci := 11) (v := .int v_23) (C := RX11) (T := TX11) (N := 14) hx hb hT iX11 hown hK hP 0 rfl rfl 2 (by decide) (hT _ t_263) (fun _ h9 => h9) rfl dX11_home_104 ?_
            refine lv_iconst (v := 1) hx hb dX11_home_107 (by decide) ?_
            refine lv_isub hx hb dX11_home_108 ?_
            refine lv_topi (fun v_24 ev_24 => ?_)
            have hv_24 : v_24.toInt = v_23.toInt - 1 := by rw [ev_24]; have := b_rg v_23; exact i_sub (a := v_23.toInt) (b := 1) rfl rfl (by omega) (by omega)
            subst hQ
            have hP8 : va_P D vwCl ([(h0, .inr (11, [.ref k0, .ref k1, .int v_23, .ref k3, .ref k4, .ref k5, .ref k6, .ref k7, .ref k8, .ref k9, .int f10, .ref k11, .ref k12, .ref k13])), (k1, .inl (cy 4, 6, .inr (.inr (.inr (.inr (va_up q f2.toNatClampNeg (some (u_22a 61))))))))] ++ hW cy u_22a (hJ p0 p1 p2 p3 p4 p5) (hRw u_22f)) H := hP
            have hD8 : va_D A ([(h0, .inr (11, [.ref k0, .ref k1, .int v_23, .ref k3, .ref k4, .ref k5, .ref k6, .ref k7, .ref k8, .ref k9, .int f10, .ref k11, .ref k12, .ref k13])), (k1, .inl (cy 4, 6, .inr (.inr (.inr (.inr (va_up q f2.toNatClampNeg (some (u_22a 61))))))))] ++ hW cy u_22a (hJ p0 p1 p2 p3 p4 p5) (hRw u_22f)) := hD
            have hzz : v_24 = f2 := Int32.toInt_inj.mp (by omega)
            exact W.iret (v := v_24) hx hb hr (fun t ht hW => ⟨⟨_, (u_22a, u_22f, v_23), rfl, ⟨hzz, by show v_23.toInt = _; omega, hf62⟩, by rw [ht]; exact hP8, va_K.moved hW.alike hK, hD8⟩, hS.F ht⟩) hS.2.2 dX11_home_109
          · exact absurd h_14 (by omega)
        · exact absurd h_11 (by omega)
      · exact absurd h_8 (by omega)
    · exact absurd h_5 (by omega)
  · exact absurd h_2 (by omega)
set_option maxHeartbeats 4000000 in
set_option maxRecDepth 100000 in
theorem c_X11_home.b (l : Launch) (D : va_G) (cy : Nat → ClassId) (a : Nat → Nat) (i : Nat → Int32) (r : Nat → Nat → Int32) (q : Nat → Option Nat) (tl : va_W) (p0 p1 p2 p3 p4 p5 : Int32) (hRi : yRi i) (hRr : yRr r) (hh : ¬ (((0 ≤ p0.toInt ∧ p0.toInt ≤ 3) ∧ (1 ≤ p1.toInt ∧ p1.toInt ≤ 4) ∧ (0 ≤ p2.toInt ∧ p2.toInt ≤ 999999) ∧ (0 ≤ p3.toInt ∧ p3.toInt ≤ 999) ∧ p3.toInt ≤ p4.toInt ∧ p4.toInt ≤ 999) ∧ (i 0).toInt ≤ 5)) : Met l yX11_home (Cond.code yX11_home cX11_home 8 (some .int) :: gT) { frames := 2, cells := 0, slots := 0, locals := 46 } (va_Pc [.ref (a 0), .int p0, .int p1, .int p2, .int p3, .int p4, .int p5] (rP D cy (xW cy a i r q (a 20) (a 12) ++ tl))) (vp_Si (fun z => z = -1)) 0 0 (fun _ => False) := by
  refine Met.ofQ (cc := cX11_home) (maxL := 8) (ret := (some .int)) (by decide) rfl ?_
  intro p e s m args below meth c s₁ B hml hv Q hQ
  obtain ⟨rfl, hP, hK⟩ := hv
  have hx := B.exec
  have hb := B.bytes
  have hr := B.returns
  have hlocks := B.notSynchronized
  have hT : ∀ w ∈ gT, w.before _ s = true := fun w h => atoms_spec (ws := (Cond.code yX11_home cX11_home 8 (some .int) :: gT)) B.pre w (List.mem_cons_of_mem _ h)
  have hown : s.vm.findClass RX11 = some m.cls := findClass_of_methodNamed B.named
  have hl := lv_entry ([.ref (a 0), .int p0, .int p1, .int p2, .int p3, .int p4, .int p5]) (n := 8) (Nat.le_of_ble_eq_true rfl)
  rw [lg_entry_eq]
  generalize (lg_sl ([.ref (a 0), .int p0, .int p1, .int p2, .int p3, .int p4, .int p5]) ++ List.replicate (8 - (lg_sl ([.ref (a 0), .int p0, .int p1, .int p2, .int p3, .int p4, .int p5])).length) Slot.unset).toArray = ls at hl ⊢
  have hl : lv_has ls 8 [(0, .ref (a 0)), (1, .int p0), (2, .int p1), (3, .int p2), (4, .int p3), (5, .int p4), (6, .int p5)] := hl
  have hEi : mEi [] i i := Ei_rf
  have hEr : mEr [] r r := Er_rf
  have hg0 : 0 ≤ (i 0).toInt ∧ (i 0).toInt ≤ 6 := hRi 0
  refine lv_iload_n hx hb dX11_home_0 rfl (lv_at hl 1 rfl) ?_
  refine lv_iconst (v := 0) hx hb dX11_home_1 (by decide) ?_
  refine lv_iconst (v := 3) hx hb dX11_home_2 (by decide) ?_
  refine vp_callSi (W.runS (As := [.int p0, .int 0, .int 3]) (rest := []) ⟨hx, hb, hml, hown, hT⟩ (c_X11_within l p0 0 3) (va_cwS 3 hT (gS t_1 t_3 t_4 t_2) rfl rfl rfl (by decide +kernel) ⟨Nat.le_of_ble_eq_true rfl, Nat.le_of_ble_eq_true rfl⟩) preT rfl rfl hl.1 rfl (lv_room (Nat.le_of_ble_eq_true rfl)) dX11_home_3 ⟨Nat.le_of_ble_eq_true rfl, Nat.le_of_ble_eq_true rfl⟩) (fun r_1 hr_1 => ?_)
  have hr_1 : BR r_1 (0 ≤ p0.toInt ∧ p0.toInt ≤ 3) 1 0 := hr_1
  rcases hr_1 with ⟨rfl, h_2⟩ | ⟨rfl, h_2⟩
  · skip
    refine lv_if_eq (tgt := 62) hx hb dX11_home_6 (by decide) (fun c_3 => absurd c_3 (by decide)) (fun c_3 => ?_)
    refine lv_iload_n hx hb dX11_home_9 rfl (lv_at hl 2 rfl) ?_
    refine lv_iconst (v := 1) hx hb dX11_home_10 (by decide) ?_
    refine lv_iconst (v := 4) hx hb dX11_home_11 (by decide) ?_
    refine vp_callSi (W.runS (As := [.int p1, .int 1, .int 4]) (rest := []) ⟨hx, hb, hml, hown, hT⟩ (c_X11_within l p1 1 4) (va_cwS 3 hT (gS t_1 t_3 t_4 t_2) rfl rfl rfl (by decide +kernel) ⟨Nat.le_of_ble_eq_true rfl, Nat.le_of_ble_eq_true rfl⟩) preT rfl rfl hl.1 rfl (lv_room (Nat.le_of_ble_eq_true rfl)) dX11_home_12 ⟨Nat.le_of_ble_eq_true rfl, Nat.le_of_ble_eq_true rfl⟩) (fun r_4 hr_4 => ?_)
    have hr_4 : BR r_4 (1 ≤ p1.toInt ∧ p1.toInt ≤ 4) 1 0 := hr_4
    rcases hr_4 with ⟨rfl, h_5⟩ | ⟨rfl, h_5⟩
    · skip
      refine lv_if_eq (tgt := 62) hx hb dX11_home_15 (by decide) (fun c_6 => absurd c_6 (by decide)) (fun c_6 => ?_)
      refine lv_iload_n hx hb dX11_home_18 rfl (lv_at hl 3 rfl) ?_
      refine lv_iconst (v := 0) hx hb dX11_home_19 (by decide) ?_
      refine lv_ldc (v := 999999) hx hb hown (hT _ t_277) dX11_home_20 ?_
      refine vp_callSi (W.runS (As := [.int p2, .int 0, .int 999999]) (rest := []) ⟨hx, hb, hml, hown, hT⟩ (c_X11_within l p2 0 999999) (va_cwS 3 hT (gS t_1 t_3 t_4 t_2) rfl rfl rfl (by decide +kernel) ⟨Nat.le_of_ble_eq_true rfl, Nat.le_of_ble_eq_true rfl⟩) preT rfl rfl hl.1 rfl (lv_room (Nat.le_of_ble_eq_true rfl)) dX11_home_22 ⟨Nat.le_of_ble_eq_true rfl, Nat.le_of_ble_eq_true rfl⟩) (fun r_7 hr_7 => ?_)
      have hr_7 : BR r_7 (0 ≤ p2.toInt ∧ p2.toInt ≤ 999999) 1 0 := hr_7
      rcases hr_7 with ⟨rfl, h_8⟩ | ⟨rfl, h_8⟩
      · skip
        refine lv_if_eq (tgt := 62) hx hb dX11_home_25 (by decide) (fun c_9 => absurd c_9 (by decide)) (fun c_9 => ?_)
        refine lv_iload hx hb dX11_home_28 (lv_at hl 4 rfl) ?_
        refine lv_iconst (v := 0) hx hb dX11_home_30 (by decide) ?_
        refine lv_sipush (v := 999) hx hb dX11_home_31 (by decide) ?_
        refine vp_callSi (W.runS (As := [.int p3, .int 0, .int 999]) (rest := []) ⟨hx, hb, hml, hown, hT⟩ (c_X11_within l p3 0 999) (va_cwS 3 hT (gS t_1 t_3 t_4 t_2) rfl rfl rfl (by decide +kernel) ⟨Nat.le_of_ble_eq_true rfl, Nat.le_of_ble_eq_true rfl⟩) preT rfl rfl hl.1 rfl (lv_room (Nat.le_of_ble_eq_true rfl)) dX11_home_34 ⟨Nat.le_of_ble_eq_true rfl, Nat.le_of_ble_eq_true rfl⟩) (fun r_10 hr_10 => ?_)
        have hr_10 : BR r_10 (0 ≤ p3.toInt ∧ p3.toInt ≤ 999) 1 0 := hr_10
        rcases hr_10 with ⟨rfl, h_11⟩ | ⟨rfl, h_11⟩
        · skip
          refine lv_if_eq (tgt := 62) hx hb dX11_home_37 (by decide) (fun c_12 => absurd c_12 (by decide)) (fun c_12 => ?_)
          refine lv_iload hx hb dX11_home_40 (lv_at hl 5 rfl) ?_
          refine lv_iload hx hb dX11_home_42 (lv_at hl 4 rfl) ?_
          refine lv_sipush (v := 999) hx hb dX11_home_44 (by decide) ?_
          refine vp_callSi (W.runS (As := [.int p4, .int p3, .int 999]) (rest := []) ⟨hx, hb, hml, hown, hT⟩ (c_X11_within l p4 p3 999) (va_cwS 3 hT (gS t_1 t_3 t_4 t_2) rfl rfl rfl (by decide +kernel) ⟨Nat.le_of_ble_eq_true rfl, Nat.le_of_ble_eq_true rfl⟩) preT rfl rfl hl.1 rfl (lv_room (Nat.le_of_ble_eq_true rfl)) dX11_home_47 ⟨Nat.le_of_ble_eq_true rfl, Nat.le_of_ble_eq_true rfl⟩) (fun r_13 hr_13 => ?_)
          have hr_13 : BR r_13 (p3.toInt ≤ p4.toInt ∧ p4.toInt ≤ 999) 1 0 := hr_13
          rcases hr_13 with ⟨rfl, h_14⟩ | ⟨rfl, h_14⟩
          · skip
            refine lv_if_eq (tgt := 62) hx hb dX11_home_50 (by decide) (fun c_15 => absurd c_15 (by decide)) (fun c_15 => ?_)
            refine lv_aload_n hx hb dX11_home_53 rfl (lv_at hl 0 rfl) ?_
            refine va_get (D := D) (ci := 11) (v := .int (i 0)) (C := RX11) (T := TX11) (N := 14) hx hb hT iX11 hown hK hP 0 rfl rfl 2 (by decide) (hT _ t_263) (fun _ h9 => h9) rfl dX11_home_54 ?_
            have hg_16 : 0 ≤ (i 0).toInt ∧ (i 0).toInt ≤ 6 := hRi 0
            refine lv_bipush (v := 6) hx hb dX11_home_57 (by decide) ?_
            refine lv_icmp_lt (tgt := 64) hx hb dX11_home_59 (by decide) (fun c_17 => ?_) (fun c_17 => ?_)
            · have c_17 : (i 0).toInt < 6 := b_lt c_17
              exact absurd (by omega) hh
            · have c_17 : 6 ≤ (i 0).toInt := b_nlt c_17
              refine lv_iconst (v := (-1)) hx hb dX11_home_62 (by decide) ?_
              subst hQ
              exact W.iret (v := (-1)) hx hb hr (fun t ht hW => ⟨_, rfl, rfl, ht⟩) (fun q hq => absurd hq List.not_mem_nil) dX11_home_63
          · skip
            refine lv_if_eq (tgt := 62) hx hb dX11_home_50 (by decide) (fun c_18 => ?_) (fun c_18 => absurd (by decide) c_18)
            refine lv_iconst (v := (-1)) hx hb dX11_home_62 (by decide) ?_
            subst hQ
            exact W.iret (v := (-1)) hx hb hr (fun t ht hW => ⟨_, rfl, rfl, ht⟩) (fun q hq => absurd hq List.not_mem_nil) dX11_home_63
        · skip
          refine lv_if_eq (tgt := 62) hx hb dX11_home_37 (by decide) (fun c_19 => ?_) (fun c_19 => absurd (by decide) c_19)
          refine lv_iconst (v := (-1)) hx hb dX11_home_62 (by decide) ?_
          subst hQ
          exact W.iret (v := (-1)) hx hb hr (fun t ht hW => ⟨_, rfl, rfl, ht⟩) (fun q hq => absurd hq List.not_mem_nil) dX11_home_63
      · skip
        refine lv_if_eq (tgt := 62) hx hb dX11_home_25 (by decide) (fun c_20 => ?_) (fun c_20 => absurd (by decide) c_20)
        refine lv_iconst (v := (-1)) hx hb dX11_home_62 (by decide) ?_
        subst hQ
        exact W.iret (v := (-1)) hx hb hr (fun t ht hW => ⟨_, rfl, rfl, ht⟩) (fun q hq => absurd hq List.not_mem_nil) dX11_home_63
    · skip
      refine lv_if_eq (tgt := 62) hx hb dX11_home_15 (by decide) (fun c_21 => ?_) (fun c_21 => absurd (by decide) c_21)
      refine lv_iconst (v := (-1)) hx hb dX11_home_62 (by decide) ?_
      subst hQ
      exact W.iret (v := (-1)) hx hb hr (fun t ht hW => ⟨_, rfl, rfl, ht⟩) (fun q hq => absurd hq List.not_mem_nil) dX11_home_63
  · skip
    refine lv_if_eq (tgt := 62) hx hb dX11_home_6 (by decide) (fun c_22 => ?_) (fun c_22 => absurd (by decide) c_22)
    refine lv_iconst (v := (-1)) hx hb dX11_home_62 (by decide) ?_
    subst hQ
    exact W.iret (v := (-1)) hx hb hr (fun t ht hW => ⟨_, rfl, rfl, ht⟩) (fun q hq => absurd hq List.not_mem_nil) dX11_home_63
