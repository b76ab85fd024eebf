set_option maxRecDepth 100000 in
theorem t_686 : Cond.code yX6_piece cX6_piece 4 (some .boolean) ∈ gT := tm (tb3 (List.mem_of_getElem? (i := 141) (by rfl))) (by decide +kernel)
set_option maxRecDepth 100000 in
theorem t_687 : Cond.methodLink RX6 86 yX6_piece ∈ gT := tm (tb3 (List.mem_of_getElem? (i := 138) (by rfl))) (by decide +kernel)
set_option maxRecDepth 100000 in
theorem t_688 : Cond.instanceMethod yX6_piece ∈ gT := tm (tb3 (List.mem_of_getElem? (i := 140) (by rfl))) (by decide +kernel)
theorem t_689 : Cond.selects RX6 yX6_piece yX6_piece ∈ gT := tmp (List.mem_of_getElem? (i := 15) (by decide +kernel)) (by decide +kernel)
set_option maxRecDepth 100000 in
theorem t_690 : Cond.code yX6_condition cX6_condition 6 (some .boolean) ∈ gT := tm (tb3 (List.mem_of_getElem? (i := 137) (by rfl))) (by decide +kernel)
set_option maxRecDepth 100000 in
theorem t_691 : Cond.methodLink RX6 62 yX6_condition ∈ gT := tm (tb3 (List.mem_of_getElem? (i := 134) (by rfl))) (by decide +kernel)
set_option maxRecDepth 100000 in
theorem t_692 : Cond.instanceMethod yX6_condition ∈ gT := tm (tb3 (List.mem_of_getElem? (i := 136) (by rfl))) (by decide +kernel)
theorem t_693 : Cond.selects RX6 yX6_condition yX6_condition ∈ gT := tmp (List.mem_of_getElem? (i := 14) (by decide +kernel)) (by decide +kernel)
set_option maxRecDepth 100000 in
theorem t_694 : Cond.code yX5_aim cX5_aim 2 none ∈ gT := tm (tb3 (List.mem_of_getElem? (i := 145) (by rfl))) (by decide +kernel)
set_option maxRecDepth 100000 in
theorem t_695 : Cond.methodLink RX6 89 yX5_aim ∈ gT := tm (tb3 (List.mem_of_getElem? (i := 142) (by rfl))) (by decide +kernel)
set_option maxRecDepth 100000 in
theorem t_696 : Cond.instanceMethod yX5_aim ∈ gT := tm (tb3 (List.mem_of_getElem? (i := 143) (by rfl))) (by decide +kernel)
set_option maxRecDepth 100000 in
theorem t_697 : Cond.selects RX5 yX5_aim yX5_aim ∈ gT := tm (tb3 (List.mem_of_getElem? (i := 144) (by rfl))) (by decide +kernel)
set_option maxRecDepth 100000 in
theorem t_698 : Cond.methodLink RX6 76 yX5_isFull ∈ gT := tm (tb3 (List.mem_of_getElem? (i := 12) (by rfl))) (by decide +kernel)
set_option maxRecDepth 100000 in
theorem t_699 : Cond.code yX5_beginClause cX5_beginClause 2 none ∈ gT := tm (tb3 (List.mem_of_getElem? (i := 19) (by rfl))) (by decide +kernel)
set_option maxRecDepth 100000 in
theorem t_700 : Cond.methodLink RX6 79 yX5_beginClause ∈ gT := tm (tb3 (List.mem_of_getElem? (i := 16) (by rfl))) (by decide +kernel)
set_option maxRecDepth 100000 in
theorem t_701 : Cond.instanceMethod yX5_beginClause ∈ gT := tm (tb3 (List.mem_of_getElem? (i := 17) (by rfl))) (by decide +kernel)
set_option maxRecDepth 100000 in
theorem t_702 : Cond.selects RX5 yX5_beginClause yX5_beginClause ∈ gT := tm (tb3 (List.mem_of_getElem? (i := 18) (by rfl))) (by decide +kernel)
set_option maxRecDepth 100000 in
theorem t_703 : Cond.code yX5_beginTest cX5_beginTest 1 none ∈ gT := tm (tb3 (List.mem_of_getElem? (i := 133) (by rfl))) (by decide +kernel)
set_option maxRecDepth 100000 in
theorem t_704 : Cond.methodLink RX6 82 yX5_beginTest ∈ gT := tm (tb3 (List.mem_of_getElem? (i := 130) (by rfl))) (by decide +kernel)
set_option maxRecDepth 100000 in
theorem t_705 : Cond.instanceMethod yX5_beginTest ∈ gT := tm (tb3 (List.mem_of_getElem? (i := 131) (by rfl))) (by decide +kernel)
set_option maxRecDepth 100000 in
theorem t_706 : Cond.selects RX5 yX5_beginTest yX5_beginTest ∈ gT := tm (tb3 (List.mem_of_getElem? (i := 132) (by rfl))) (by decide +kernel)
set_option maxRecDepth 100000 in
theorem t_707 : Cond.code yX5_endClause cX5_endClause 1 none ∈ gT := tm (tb3 (List.mem_of_getElem? (i := 153) (by rfl))) (by decide +kernel)
set_option maxRecDepth 100000 in
theorem t_708 : Cond.methodLink RX6 84 yX5_endClause ∈ gT := tm (tb3 (List.mem_of_getElem? (i := 150) (by rfl))) (by decide +kernel)
set_option maxRecDepth 100000 in
theorem t_709 : Cond.instanceMethod yX5_endClause ∈ gT := tm (tb3 (List.mem_of_getElem? (i := 151) (by rfl))) (by decide +kernel)
set_option maxRecDepth 100000 in
theorem t_710 : Cond.selects RX5 yX5_endClause yX5_endClause ∈ gT := tm (tb3 (List.mem_of_getElem? (i := 152) (by rfl))) (by decide +kernel)
set_option maxRecDepth 100000 in
theorem t_711 : Cond.code yX5_clear cX5_clear 1 none ∈ gT := tm (tb2 (List.mem_of_getElem? (i := 236) (by rfl))) (by decide +kernel)
set_option maxRecDepth 100000 in
theorem t_712 : Cond.methodLink RX6 32 yX5_clear ∈ gT := tm (tb2 (List.mem_of_getElem? (i := 233) (by rfl))) (by decide +kernel)
set_option maxRecDepth 100000 in
theorem t_713 : Cond.instanceMethod yX5_clear ∈ gT := tm (tb2 (List.mem_of_getElem? (i := 234) (by rfl))) (by decide +kernel)
set_option maxRecDepth 100000 in
theorem t_714 : Cond.selects RX5 yX5_clear yX5_clear ∈ gT := tm (tb2 (List.mem_of_getElem? (i := 235) (by rfl))) (by decide +kernel)
set_option maxRecDepth 100000 in
theorem t_715 : Cond.methodLink RX6 35 Lib.Math.min.name ∈ gT := tm (tb2 (List.mem_of_getElem? (i := 237) (by rfl))) (by decide +kernel)
set_option maxRecDepth 100000 in
theorem t_716 : Cond.code yX6_beginClause cX6_beginClause 2 (some .boolean) ∈ gT := tm (tb3 (List.mem_of_getElem? (i := 7) (by rfl))) (by decide +kernel)
set_option maxRecDepth 100000 in
theorem t_717 : Cond.methodLink RX6 50 yX6_beginClause ∈ gT := tm (tb3 (List.mem_of_getElem? (i := 4) (by rfl))) (by decide +kernel)
set_option maxRecDepth 100000 in
theorem t_718 : Cond.instanceMethod yX6_beginClause ∈ gT := tm (tb3 (List.mem_of_getElem? (i := 6) (by rfl))) (by decide +kernel)
theorem t_719 : Cond.selects RX6 yX6_beginClause yX6_beginClause ∈ gT := tmp (List.mem_of_getElem? (i := 7) (by decide +kernel)) (by decide +kernel)
set_option maxRecDepth 100000 in
theorem t_720 : Cond.code yX6_beginTest cX6_beginTest 1 (some .boolean) ∈ gT := tm (tb3 (List.mem_of_getElem? (i := 129) (by rfl))) (by decide +kernel)
set_option maxRecDepth 100000 in
theorem t_721 : Cond.methodLink RX6 58 yX6_beginTest ∈ gT := tm (tb3 (List.mem_of_getElem? (i := 126) (by rfl))) (by decide +kernel)
set_option maxRecDepth 100000 in
theorem t_722 : Cond.instanceMethod yX6_beginTest ∈ gT := tm (tb3 (List.mem_of_getElem? (i := 128) (by rfl))) (by decide +kernel)
theorem t_723 : Cond.selects RX6 yX6_beginTest yX6_beginTest ∈ gT := tmp (List.mem_of_getElem? (i := 13) (by decide +kernel)) (by decide +kernel)
set_option maxRecDepth 100000 in
theorem t_724 : Cond.code yX6_endClause cX6_endClause 1 (some .boolean) ∈ gT := tm (tb3 (List.mem_of_getElem? (i := 149) (by rfl))) (by decide +kernel)
set_option maxRecDepth 100000 in
theorem t_725 : Cond.methodLink RX6 66 yX6_endClause ∈ gT := tm (tb3 (List.mem_of_getElem? (i := 146) (by rfl))) (by decide +kernel)
set_option maxRecDepth 100000 in
theorem t_726 : Cond.instanceMethod yX6_endClause ∈ gT := tm (tb3 (List.mem_of_getElem? (i := 148) (by rfl))) (by decide +kernel)
theorem t_727 : Cond.selects RX6 yX6_endClause yX6_endClause ∈ gT := tmp (List.mem_of_getElem? (i := 16) (by decide +kernel)) (by decide +kernel)
set_option maxRecDepth 100000 in
theorem t_728 : Cond.fieldLink RX6 41 "DepositJudge$Tape" "bytes" "[B" ∈ gT := tm (tb1 (List.mem_of_getElem? (i := 67) (by rfl))) (by decide +kernel)
def dl_408 : List (Nat × (Instr × Nat)) := [(0, (.iload_n 1, 1)), (1, (.bipush 102, 2)), (3, (.if_icmp .eq 33, 3)), (6, (.iload_n 1, 1)), (7, (.bipush 112, 2)), (9, (.if_icmp .eq 27, 3)), (12, (.iload_n 1, 1)), (13, (.bipush 100, 2)), (15, (.if_icmp .eq 21, 3)), (18, (.iload_n 1, 1)), (19, (.bipush 116, 2)), (21, (.if_icmp .eq 15, 3)), (24, (.iload_n 1, 1)), (25, (.bipush 98, 2)), (27, (.if_icmp .eq 9, 3)), (30, (.aload_n 0, 1)), (31, (.iconst 1, 1)), (32, (.invokevirtual 73, 3)), (35, (.ireturn, 1)), (36, (.aload_n 0, 1))]
theorem dh_408 : dchk cX6_beginClause dl_408 = true := by decide +kernel
theorem dX6_beginClause_0 : decode cX6_beginClause 0 = .ok (.iload_n 1, 1) := dget dh_408 (k := 0) rfl
theorem dX6_beginClause_1 : decode cX6_beginClause 1 = .ok (.bipush 102, 2) := dget dh_408 (k := 1) rfl
theorem dX6_beginClause_3 : decode cX6_beginClause 3 = .ok (.if_icmp .eq 33, 3) := dget dh_408 (k := 2) rfl
theorem dX6_beginClause_6 : decode cX6_beginClause 6 = .ok (.iload_n 1, 1) := dget dh_408 (k := 3) rfl
theorem dX6_beginClause_7 : decode cX6_beginClause 7 = .ok (.bipush 112, 2) := dget dh_408 (k := 4) rfl
theorem dX6_beginClause_9 : decode cX6_beginClause 9 = .ok (.if_icmp .eq 27, 3) := dget dh_408 (k := 5) rfl
theorem dX6_beginClause_12 : decode cX6_beginClause 12 = .ok (.iload_n 1, 1) := dget dh_408 (k := 6) rfl
theorem dX6_beginClause_13 : decode cX6_beginClause 13 = .ok (.bipush 100, 2) := dget dh_408 (k := 7) rfl
theorem dX6_beginClause_15 : decode cX6_beginClause 15 = .ok (.if_icmp .eq 21, 3) := dget dh_408 (k := 8) rfl
theorem dX6_beginClause_18 : decode cX6_beginClause 18 = .ok (.iload_n 1, 1) := dget dh_408 (k := 9) rfl
theorem dX6_beginClause_19 : decode cX6_beginClause 19 = .ok (.bipush 116, 2) := dget dh_408 (k := 10) rfl
theorem dX6_beginClause_21 : decode cX6_beginClause 21 = .ok (.if_icmp .eq 15, 3) := dget dh_408 (k := 11) rfl
theorem dX6_beginClause_24 : decode cX6_beginClause 24 = .ok (.iload_n 1, 1) := dget dh_408 (k := 12) rfl
theorem dX6_beginClause_25 : decode cX6_beginClause 25 = .ok (.bipush 98, 2) := dget dh_408 (k := 13) rfl
theorem dX6_beginClause_27 : decode cX6_beginClause 27 = .ok (.if_icmp .eq 9, 3) := dget dh_408 (k := 14) rfl
theorem dX6_beginClause_30 : decode cX6_beginClause 30 = .ok (.aload_n 0, 1) := dget dh_408 (k := 15) rfl
theorem dX6_beginClause_31 : decode cX6_beginClause 31 = .ok (.iconst 1, 1) := dget dh_408 (k := 16) rfl
theorem dX6_beginClause_32 : decode cX6_beginClause 32 = .ok (.invokevirtual 73, 3) := dget dh_408 (k := 17) rfl
theorem dX6_beginClause_35 : decode cX6_beginClause 35 = .ok (.ireturn, 1) := dget dh_408 (k := 18) rfl
theorem dX6_beginClause_36 : decode cX6_beginClause 36 = .ok (.aload_n 0, 1) := dget dh_408 (k := 19) rfl
def dl_409 : List (Nat × (Instr × Nat)) := [(37, (.getfield 12, 3)), (40, (.invokevirtual 76, 3)), (43, (.ifCond .eq 9, 3)), (46, (.aload_n 0, 1)), (47, (.iconst 4, 1)), (48, (.invokevirtual 73, 3)), (51, (.ireturn, 1)), (52, (.aload_n 0, 1)), (53, (.dup, 1)), (54, (.getfield 26, 3)), (57, (.iconst 1, 1)), (58, (.iadd, 1)), (59, (.putfield 26, 3)), (62, (.aload_n 0, 1)), (63, (.getfield 12, 3)), (66, (.iload_n 1, 1)), (67, (.invokevirtual 79, 3)), (70, (.iconst 1, 1)), (71, (.ireturn, 1))]
theorem dh_409 : dchk cX6_beginClause dl_409 = true := by decide +kernel
theorem dX6_beginClause_37 : decode cX6_beginClause 37 = .ok (.getfield 12, 3) := dget dh_409 (k := 0) rfl
theorem dX6_beginClause_40 : decode cX6_beginClause 40 = .ok (.invokevirtual 76, 3) := dget dh_409 (k := 1) rfl
theorem dX6_beginClause_43 : decode cX6_beginClause 43 = .ok (.ifCond .eq 9, 3) := dget dh_409 (k := 2) rfl
theorem dX6_beginClause_46 : decode cX6_beginClause 46 = .ok (.aload_n 0, 1) := dget dh_409 (k := 3) rfl
theorem dX6_beginClause_47 : decode cX6_beginClause 47 = .ok (.iconst 4, 1) := dget dh_409 (k := 4) rfl
theorem dX6_beginClause_48 : decode cX6_beginClause 48 = .ok (.invokevirtual 73, 3) := dget dh_409 (k := 5) rfl
theorem dX6_beginClause_51 : decode cX6_beginClause 51 = .ok (.ireturn, 1) := dget dh_409 (k := 6) rfl
theorem dX6_beginClause_52 : decode cX6_beginClause 52 = .ok (.aload_n 0, 1) := dget dh_409 (k := 7) rfl
theorem dX6_beginClause_53 : decode cX6_beginClause 53 = .ok (.dup, 1) := dget dh_409 (k := 8) rfl
theorem dX6_beginClause_54 : decode cX6_beginClause 54 = .ok (.getfield 26, 3) := dget dh_409 (k := 9) rfl
theorem dX6_beginClause_57 : decode cX6_beginClause 57 = .ok (.iconst 1, 1) := dget dh_409 (k := 10) rfl
theorem dX6_beginClause_58 : decode cX6_beginClause 58 = .ok (.iadd, 1) := dget dh_409 (k := 11) rfl
theorem dX6_beginClause_59 : decode cX6_beginClause 59 = .ok (.putfield 26, 3) := dget dh_409 (k := 12) rfl
theorem dX6_beginClause_62 : decode cX6_beginClause 62 = .ok (.aload_n 0, 1) := dget dh_409 (k := 13) rfl
theorem dX6_beginClause_63 : decode cX6_beginClause 63 = .ok (.getfield 12, 3) := dget dh_409 (k := 14) rfl
theorem dX6_beginClause_66 : decode cX6_beginClause 66 = .ok (.iload_n 1, 1) := dget dh_409 (k := 15) rfl
theorem dX6_beginClause_67 : decode cX6_beginClause 67 = .ok (.invokevirtual 79, 3) := dget dh_409 (k := 16) rfl
theorem dX6_beginClause_70 : decode cX6_beginClause 70 = .ok (.iconst 1, 1) := dget dh_409 (k := 17) rfl
theorem dX6_beginClause_71 : decode cX6_beginClause 71 = .ok (.ireturn, 1) := dget dh_409 (k := 18) rfl
def dl_410 : List (Nat × (Instr × Nat)) := [(0, (.aload_n 0, 1)), (1, (.getfield 12, 3)), (4, (.invokevirtual 82, 3)), (7, (.aload_n 0, 1)), (8, (.bipush 40, 2)), (10, (.invokevirtual 69, 3)), (13, (.ireturn, 1))]
theorem dh_410 : dchk cX6_beginTest dl_410 = true := by decide +kernel
theorem dX6_beginTest_0 : decode cX6_beginTest 0 = .ok (.aload_n 0, 1) := dget dh_410 (k := 0) rfl
theorem dX6_beginTest_1 : decode cX6_beginTest 1 = .ok (.getfield 12, 3) := dget dh_410 (k := 1) rfl
theorem dX6_beginTest_4 : decode cX6_beginTest 4 = .ok (.invokevirtual 82, 3) := dget dh_410 (k := 2) rfl
theorem dX6_beginTest_7 : decode cX6_beginTest 7 = .ok (.aload_n 0, 1) := dget dh_410 (k := 3) rfl
theorem dX6_beginTest_8 : decode cX6_beginTest 8 = .ok (.bipush 40, 2) := dget dh_410 (k := 4) rfl
theorem dX6_beginTest_10 : decode cX6_beginTest 10 = .ok (.invokevirtual 69, 3) := dget dh_410 (k := 5) rfl
theorem dX6_beginTest_13 : decode cX6_beginTest 13 = .ok (.ireturn, 1) := dget dh_410 (k := 6) rfl
def dl_411 : List (Nat × (Instr × Nat)) := [(0, (.iconst (-1), 1)), (1, (.istore_n 3, 1)), (2, (.iconst 0, 1)), (3, (.istore 4, 2)), (5, (.iload 4, 2)), (7, (.sipush 200, 3)), (10, (.if_icmp .ge 77, 3)), (13, (.iload_n 2, 1)), (14, (.bipush 124, 2)), (16, (.if_icmp .ne 13, 3)), (19, (.aload_n 0, 1)), (20, (.iload_n 1, 1)), (21, (.bipush 38, 2)), (23, (.invokevirtual 62, 3)), (26, (.goto 8, 3)), (29, (.aload_n 0, 1)), (30, (.iload_n 1, 1)), (31, (.invokevirtual 86, 3)), (34, (.istore 5, 2)), (36, (.iload 5, 2))]
theorem dh_411 : dchk cX6_condition dl_411 = true := by decide +kernel
theorem dX6_condition_0 : decode cX6_condition 0 = .ok (.iconst (-1), 1) := dget dh_411 (k := 0) rfl
theorem dX6_condition_1 : decode cX6_condition 1 = .ok (.istore_n 3, 1) := dget dh_411 (k := 1) rfl
theorem dX6_condition_2 : decode cX6_condition 2 = .ok (.iconst 0, 1) := dget dh_411 (k := 2) rfl
theorem dX6_condition_3 : decode cX6_condition 3 = .ok (.istore 4, 2) := dget dh_411 (k := 3) rfl
theorem dX6_condition_5 : decode cX6_condition 5 = .ok (.iload 4, 2) := dget dh_411 (k := 4) rfl
theorem dX6_condition_7 : decode cX6_condition 7 = .ok (.sipush 200, 3) := dget dh_411 (k := 5) rfl
theorem dX6_condition_10 : decode cX6_condition 10 = .ok (.if_icmp .ge 77, 3) := dget dh_411 (k := 6) rfl
theorem dX6_condition_13 : decode cX6_condition 13 = .ok (.iload_n 2, 1) := dget dh_411 (k := 7) rfl
theorem dX6_condition_14 : decode cX6_condition 14 = .ok (.bipush 124, 2) := dget dh_411 (k := 8) rfl
theorem dX6_condition_16 : decode cX6_condition 16 = .ok (.if_icmp .ne 13, 3) := dget dh_411 (k := 9) rfl
theorem dX6_condition_19 : decode cX6_condition 19 = .ok (.aload_n 0, 1) := dget dh_411 (k := 10) rfl
theorem dX6_condition_20 : decode cX6_condition 20 = .ok (.iload_n 1, 1) := dget dh_411 (k := 11) rfl
theorem dX6_condition_21 : decode cX6_condition 21 = .ok (.bipush 38, 2) := dget dh_411 (k := 12) rfl
theorem dX6_condition_23 : decode cX6_condition 23 = .ok (.invokevirtual 62, 3) := dget dh_411 (k := 13) rfl
theorem dX6_condition_26 : decode cX6_condition 26 = .ok (.goto 8, 3) := dget dh_411 (k := 14) rfl
theorem dX6_condition_29 : decode cX6_condition 29 = .ok (.aload_n 0, 1) := dget dh_411 (k := 15) rfl
theorem dX6_condition_30 : decode cX6_condition 30 = .ok (.iload_n 1, 1) := dget dh_411 (k := 16) rfl
theorem dX6_condition_31 : decode cX6_condition 31 = .ok (.invokevirtual 86, 3) := dget dh_411 (k := 17) rfl
theorem dX6_condition_34 : decode cX6_condition 34 = .ok (.istore 5, 2) := dget dh_411 (k := 18) rfl
theorem dX6_condition_36 : decode cX6_condition 36 = .ok (.iload 5, 2) := dget dh_411 (k := 19) rfl
def dl_412 : List (Nat × (Instr × Nat)) := [(38, (.ifCond .ne 5, 3)), (41, (.iconst 0, 1)), (42, (.ireturn, 1)), (43, (.aload_n 0, 1)), (44, (.getfield 12, 3)), (47, (.iload_n 3, 1)), (48, (.invokevirtual 89, 3)), (51, (.aload_n 0, 1)), (52, (.invokevirtual 46, 3)), (55, (.iload_n 2, 1)), (56, (.if_icmp .eq 5, 3)), (59, (.iconst 1, 1)), (60, (.ireturn, 1)), (61, (.aload_n 0, 1)), (62, (.dup, 1)), (63, (.getfield 26, 3)), (66, (.iconst 1, 1)), (67, (.iadd, 1)), (68, (.putfield 26, 3)), (71, (.aload_n 0, 1))]
theorem dh_412 : dchk cX6_condition dl_412 = true := by decide +kernel
theorem dX6_condition_38 : decode cX6_condition 38 = .ok (.ifCond .ne 5, 3) := dget dh_412 (k := 0) rfl
theorem dX6_condition_41 : decode cX6_condition 41 = .ok (.iconst 0, 1) := dget dh_412 (k := 1) rfl
theorem dX6_condition_42 : decode cX6_condition 42 = .ok (.ireturn, 1) := dget dh_412 (k := 2) rfl
theorem dX6_condition_43 : decode cX6_condition 43 = .ok (.aload_n 0, 1) := dget dh_412 (k := 3) rfl
theorem dX6_condition_44 : decode cX6_condition 44 = .ok (.getfield 12, 3) := dget dh_412 (k := 4) rfl
theorem dX6_condition_47 : decode cX6_condition 47 = .ok (.iload_n 3, 1) := dget dh_412 (k := 5) rfl
theorem dX6_condition_48 : decode cX6_condition 48 = .ok (.invokevirtual 89, 3) := dget dh_412 (k := 6) rfl
theorem dX6_condition_51 : decode cX6_condition 51 = .ok (.aload_n 0, 1) := dget dh_412 (k := 7) rfl
theorem dX6_condition_52 : decode cX6_condition 52 = .ok (.invokevirtual 46, 3) := dget dh_412 (k := 8) rfl
theorem dX6_condition_55 : decode cX6_condition 55 = .ok (.iload_n 2, 1) := dget dh_412 (k := 9) rfl
theorem dX6_condition_56 : decode cX6_condition 56 = .ok (.if_icmp .eq 5, 3) := dget dh_412 (k := 10) rfl
theorem dX6_condition_59 : decode cX6_condition 59 = .ok (.iconst 1, 1) := dget dh_412 (k := 11) rfl
theorem dX6_condition_60 : decode cX6_condition 60 = .ok (.ireturn, 1) := dget dh_412 (k := 12) rfl
theorem dX6_condition_61 : decode cX6_condition 61 = .ok (.aload_n 0, 1) := dget dh_412 (k := 13) rfl
theorem dX6_condition_62 : decode cX6_condition 62 = .ok (.dup, 1) := dget dh_412 (k := 14) rfl
theorem dX6_condition_63 : decode cX6_condition 63 = .ok (.getfield 26, 3) := dget dh_412 (k := 15) rfl
theorem dX6_condition_66 : decode cX6_condition 66 = .ok (.iconst 1, 1) := dget dh_412 (k := 16) rfl
theorem dX6_condition_67 : decode cX6_condition 67 = .ok (.iadd, 1) := dget dh_412 (k := 17) rfl
theorem dX6_condition_68 : decode cX6_condition 68 = .ok (.putfield 26, 3) := dget dh_412 (k := 18) rfl
theorem dX6_condition_71 : decode cX6_condition 71 = .ok (.aload_n 0, 1) := dget dh_412 (k := 19) rfl
def dl_413 : List (Nat × (Instr × Nat)) := [(72, (.getfield 12, 3)), (75, (.iload_n 2, 1)), (76, (.iconst 0, 1)), (77, (.invokevirtual 92, 3)), (80, (.istore_n 3, 1)), (81, (.iinc 4 1, 3)), (84, (.goto (-79), 3)), (87, (.iconst 1, 1)), (88, (.ireturn, 1))]
theorem dh_413 : dchk cX6_condition dl_413 = true := by decide +kernel
theorem dX6_condition_72 : decode cX6_condition 72 = .ok (.getfield 12, 3) := dget dh_413 (k := 0) rfl
theorem dX6_condition_75 : decode cX6_condition 75 = .ok (.iload_n 2, 1) := dget dh_413 (k := 1) rfl
theorem dX6_condition_76 : decode cX6_condition 76 = .ok (.iconst 0, 1) := dget dh_413 (k := 2) rfl
theorem dX6_condition_77 : decode cX6_condition 77 = .ok (.invokevirtual 92, 3) := dget dh_413 (k := 3) rfl
theorem dX6_condition_80 : decode cX6_condition 80 = .ok (.istore_n 3, 1) := dget dh_413 (k := 4) rfl
theorem dX6_condition_81 : decode cX6_condition 81 = .ok (.iinc 4 1, 3) := dget dh_413 (k := 5) rfl
theorem dX6_condition_84 : decode cX6_condition 84 = .ok (.goto (-79), 3) := dget dh_413 (k := 6) rfl
theorem dX6_condition_87 : decode cX6_condition 87 = .ok (.iconst 1, 1) := dget dh_413 (k := 7) rfl
theorem dX6_condition_88 : decode cX6_condition 88 = .ok (.ireturn, 1) := dget dh_413 (k := 8) rfl
def dl_414 : List (Nat × (Instr × Nat)) := [(0, (.aload_n 0, 1)), (1, (.bipush 41, 2)), (3, (.invokevirtual 69, 3)), (6, (.ifCond .ne 5, 3)), (9, (.iconst 0, 1)), (10, (.ireturn, 1)), (11, (.aload_n 0, 1)), (12, (.getfield 12, 3)), (15, (.invokevirtual 84, 3)), (18, (.iconst 1, 1)), (19, (.ireturn, 1))]
theorem dh_414 : dchk cX6_endClause dl_414 = true := by decide +kernel
theorem dX6_endClause_0 : decode cX6_endClause 0 = .ok (.aload_n 0, 1) := dget dh_414 (k := 0) rfl
theorem dX6_endClause_1 : decode cX6_endClause 1 = .ok (.bipush 41, 2) := dget dh_414 (k := 1) rfl
theorem dX6_endClause_3 : decode cX6_endClause 3 = .ok (.invokevirtual 69, 3) := dget dh_414 (k := 2) rfl
theorem dX6_endClause_6 : decode cX6_endClause 6 = .ok (.ifCond .ne 5, 3) := dget dh_414 (k := 3) rfl
theorem dX6_endClause_9 : decode cX6_endClause 9 = .ok (.iconst 0, 1) := dget dh_414 (k := 4) rfl
theorem dX6_endClause_10 : decode cX6_endClause 10 = .ok (.ireturn, 1) := dget dh_414 (k := 5) rfl
theorem dX6_endClause_11 : decode cX6_endClause 11 = .ok (.aload_n 0, 1) := dget dh_414 (k := 6) rfl
theorem dX6_endClause_12 : decode cX6_endClause 12 = .ok (.getfield 12, 3) := dget dh_414 (k := 7) rfl
theorem dX6_endClause_15 : decode cX6_endClause 15 = .ok (.invokevirtual 84, 3) := dget dh_414 (k := 8) rfl
theorem dX6_endClause_18 : decode cX6_endClause 18 = .ok (.iconst 1, 1) := dget dh_414 (k := 9) rfl
theorem dX6_endClause_19 : decode cX6_endClause 19 = .ok (.ireturn, 1) := dget dh_414 (k := 10) rfl
def dl_415 : List (Nat × (Instr × Nat)) := [(0, (.aload_n 0, 1)), (1, (.invokevirtual 46, 3)), (4, (.istore_n 2, 1)), (5, (.iload_n 2, 1)), (6, (.bipush 33, 2)), (8, (.if_icmp .eq 9, 3)), (11, (.iload_n 2, 1)), (12, (.bipush 40, 2)), (14, (.if_icmp .ne 83, 3)), (17, (.iload_n 1, 1)), (18, (.bipush 6, 2)), (20, (.if_icmp .lt 9, 3)), (23, (.aload_n 0, 1)), (24, (.iconst 5, 1)), (25, (.invokevirtual 73, 3)), (28, (.ireturn, 1)), (29, (.aload_n 0, 1)), (30, (.dup, 1)), (31, (.getfield 26, 3)), (34, (.iconst 1, 1))]
theorem dh_415 : dchk cX6_piece dl_415 = true := by decide +kernel
theorem dX6_piece_0 : decode cX6_piece 0 = .ok (.aload_n 0, 1) := dget dh_415 (k := 0) rfl
theorem dX6_piece_1 : decode cX6_piece 1 = .ok (.invokevirtual 46, 3) := dget dh_415 (k := 1) rfl
theorem dX6_piece_4 : decode cX6_piece 4 = .ok (.istore_n 2, 1) := dget dh_415 (k := 2) rfl
theorem dX6_piece_5 : decode cX6_piece 5 = .ok (.iload_n 2, 1) := dget dh_415 (k := 3) rfl
theorem dX6_piece_6 : decode cX6_piece 6 = .ok (.bipush 33, 2) := dget dh_415 (k := 4) rfl
theorem dX6_piece_8 : decode cX6_piece 8 = .ok (.if_icmp .eq 9, 3) := dget dh_415 (k := 5) rfl
theorem dX6_piece_11 : decode cX6_piece 11 = .ok (.iload_n 2, 1) := dget dh_415 (k := 6) rfl
theorem dX6_piece_12 : decode cX6_piece 12 = .ok (.bipush 40, 2) := dget dh_415 (k := 7) rfl
theorem dX6_piece_14 : decode cX6_piece 14 = .ok (.if_icmp .ne 83, 3) := dget dh_415 (k := 8) rfl
theorem dX6_piece_17 : decode cX6_piece 17 = .ok (.iload_n 1, 1) := dget dh_415 (k := 9) rfl
theorem dX6_piece_18 : decode cX6_piece 18 = .ok (.bipush 6, 2) := dget dh_415 (k := 10) rfl
theorem dX6_piece_20 : decode cX6_piece 20 = .ok (.if_icmp .lt 9, 3) := dget dh_415 (k := 11) rfl
theorem dX6_piece_23 : decode cX6_piece 23 = .ok (.aload_n 0, 1) := dget dh_415 (k := 12) rfl
theorem dX6_piece_24 : decode cX6_piece 24 = .ok (.iconst 5, 1) := dget dh_415 (k := 13) rfl
theorem dX6_piece_25 : decode cX6_piece 25 = .ok (.invokevirtual 73, 3) := dget dh_415 (k := 14) rfl
theorem dX6_piece_28 : decode cX6_piece 28 = .ok (.ireturn, 1) := dget dh_415 (k := 15) rfl
theorem dX6_piece_29 : decode cX6_piece 29 = .ok (.aload_n 0, 1) := dget dh_415 (k := 16) rfl
theorem dX6_piece_30 : decode cX6_piece 30 = .ok (.dup, 1) := dget dh_415 (k := 17) rfl
theorem dX6_piece_31 : decode cX6_piece 31 = .ok (.getfield 26, 3) := dget dh_415 (k := 18) rfl
theorem dX6_piece_34 : decode cX6_piece 34 = .ok (.iconst 1, 1) := dget dh_415 (k := 19) rfl
def dl_416 : List (Nat × (Instr × Nat)) := [(35, (.iadd, 1)), (36, (.putfield 26, 3)), (39, (.iload_n 2, 1)), (40, (.bipush 40, 2)), (42, (.if_icmp .ne 30, 3)), (45, (.aload_n 0, 1)), (46, (.iload_n 1, 1)), (47, (.iconst 1, 1)), (48, (.iadd, 1)), (49, (.bipush 124, 2)), (51, (.invokevirtual 62, 3)), (54, (.ifCond .eq 16, 3)), (57, (.aload_n 0, 1)), (58, (.bipush 41, 2)), (60, (.invokevirtual 69, 3)), (63, (.ifCond .eq 7, 3)), (66, (.iconst 1, 1)), (67, (.goto 4, 3)), (70, (.iconst 0, 1)), (71, (.ireturn, 1))]
theorem dh_416 : dchk cX6_piece dl_416 = true := by decide +kernel
theorem dX6_piece_35 : decode cX6_piece 35 = .ok (.iadd, 1) := dget dh_416 (k := 0) rfl
theorem dX6_piece_36 : decode cX6_piece 36 = .ok (.putfield 26, 3) := dget dh_416 (k := 1) rfl
theorem dX6_piece_39 : decode cX6_piece 39 = .ok (.iload_n 2, 1) := dget dh_416 (k := 2) rfl
theorem dX6_piece_40 : decode cX6_piece 40 = .ok (.bipush 40, 2) := dget dh_416 (k := 3) rfl
theorem dX6_piece_42 : decode cX6_piece 42 = .ok (.if_icmp .ne 30, 3) := dget dh_416 (k := 4) rfl
theorem dX6_piece_45 : decode cX6_piece 45 = .ok (.aload_n 0, 1) := dget dh_416 (k := 5) rfl
theorem dX6_piece_46 : decode cX6_piece 46 = .ok (.iload_n 1, 1) := dget dh_416 (k := 6) rfl
theorem dX6_piece_47 : decode cX6_piece 47 = .ok (.iconst 1, 1) := dget dh_416 (k := 7) rfl
theorem dX6_piece_48 : decode cX6_piece 48 = .ok (.iadd, 1) := dget dh_416 (k := 8) rfl
theorem dX6_piece_49 : decode cX6_piece 49 = .ok (.bipush 124, 2) := dget dh_416 (k := 9) rfl
theorem dX6_piece_51 : decode cX6_piece 51 = .ok (.invokevirtual 62, 3) := dget dh_416 (k := 10) rfl
theorem dX6_piece_54 : decode cX6_piece 54 = .ok (.ifCond .eq 16, 3) := dget dh_416 (k := 11) rfl
theorem dX6_piece_57 : decode cX6_piece 57 = .ok (.aload_n 0, 1) := dget dh_416 (k := 12) rfl
theorem dX6_piece_58 : decode cX6_piece 58 = .ok (.bipush 41, 2) := dget dh_416 (k := 13) rfl
theorem dX6_piece_60 : decode cX6_piece 60 = .ok (.invokevirtual 69, 3) := dget dh_416 (k := 14) rfl
theorem dX6_piece_63 : decode cX6_piece 63 = .ok (.ifCond .eq 7, 3) := dget dh_416 (k := 15) rfl
theorem dX6_piece_66 : decode cX6_piece 66 = .ok (.iconst 1, 1) := dget dh_416 (k := 16) rfl
theorem dX6_piece_67 : decode cX6_piece 67 = .ok (.goto 4, 3) := dget dh_416 (k := 17) rfl
theorem dX6_piece_70 : decode cX6_piece 70 = .ok (.iconst 0, 1) := dget dh_416 (k := 18) rfl
theorem dX6_piece_71 : decode cX6_piece 71 = .ok (.ireturn, 1) := dget dh_416 (k := 19) rfl
def dl_417 : List (Nat × (Instr × Nat)) := [(72, (.aload_n 0, 1)), (73, (.iload_n 1, 1)), (74, (.iconst 1, 1)), (75, (.iadd, 1)), (76, (.invokevirtual 86, 3)), (79, (.ifCond .ne 5, 3)), (82, (.iconst 0, 1)), (83, (.ireturn, 1)), (84, (.aload_n 0, 1)), (85, (.getfield 12, 3)), (88, (.bipush 33, 2)), (90, (.iconst 0, 1)), (91, (.invokevirtual 92, 3)), (94, (.pop, 1)), (95, (.iconst 1, 1)), (96, (.ireturn, 1)), (97, (.aload_n 0, 1)), (98, (.iload_n 1, 1)), (99, (.iconst 1, 1)), (100, (.invokevirtual 54, 3))]
theorem dh_417 : dchk cX6_piece dl_417 = true := by decide +kernel
theorem dX6_piece_72 : decode cX6_piece 72 = .ok (.aload_n 0, 1) := dget dh_417 (k := 0) rfl
theorem dX6_piece_73 : decode cX6_piece 73 = .ok (.iload_n 1, 1) := dget dh_417 (k := 1) rfl
theorem dX6_piece_74 : decode cX6_piece 74 = .ok (.iconst 1, 1) := dget dh_417 (k := 2) rfl
theorem dX6_piece_75 : decode cX6_piece 75 = .ok (.iadd, 1) := dget dh_417 (k := 3) rfl
theorem dX6_piece_76 : decode cX6_piece 76 = .ok (.invokevirtual 86, 3) := dget dh_417 (k := 4) rfl
theorem dX6_piece_79 : decode cX6_piece 79 = .ok (.ifCond .ne 5, 3) := dget dh_417 (k := 5) rfl
theorem dX6_piece_82 : decode cX6_piece 82 = .ok (.iconst 0, 1) := dget dh_417 (k := 6) rfl
theorem dX6_piece_83 : decode cX6_piece 83 = .ok (.ireturn, 1) := dget dh_417 (k := 7) rfl
theorem dX6_piece_84 : decode cX6_piece 84 = .ok (.aload_n 0, 1) := dget dh_417 (k := 8) rfl
theorem dX6_piece_85 : decode cX6_piece 85 = .ok (.getfield 12, 3) := dget dh_417 (k := 9) rfl
theorem dX6_piece_88 : decode cX6_piece 88 = .ok (.bipush 33, 2) := dget dh_417 (k := 10) rfl
theorem dX6_piece_90 : decode cX6_piece 90 = .ok (.iconst 0, 1) := dget dh_417 (k := 11) rfl
theorem dX6_piece_91 : decode cX6_piece 91 = .ok (.invokevirtual 92, 3) := dget dh_417 (k := 12) rfl
theorem dX6_piece_94 : decode cX6_piece 94 = .ok (.pop, 1) := dget dh_417 (k := 13) rfl
theorem dX6_piece_95 : decode cX6_piece 95 = .ok (.iconst 1, 1) := dget dh_417 (k := 14) rfl
theorem dX6_piece_96 : decode cX6_piece 96 = .ok (.ireturn, 1) := dget dh_417 (k := 15) rfl
theorem dX6_piece_97 : decode cX6_piece 97 = .ok (.aload_n 0, 1) := dget dh_417 (k := 16) rfl
theorem dX6_piece_98 : decode cX6_piece 98 = .ok (.iload_n 1, 1) := dget dh_417 (k := 17) rfl
theorem dX6_piece_99 : decode cX6_piece 99 = .ok (.iconst 1, 1) := dget dh_417 (k := 18) rfl
theorem dX6_piece_100 : decode cX6_piece 100 = .ok (.invokevirtual 54, 3) := dget dh_417 (k := 19) rfl
def dl_418 : List (Nat × (Instr × Nat)) := [(103, (.ifCond .ne 5, 3)), (106, (.iconst 0, 1)), (107, (.ireturn, 1)), (108, (.aload_n 0, 1)), (109, (.invokevirtual 46, 3)), (112, (.istore_n 3, 1)), (113, (.iload_n 3, 1)), (114, (.bipush 60, 2)), (116, (.if_icmp .eq 21, 3)), (119, (.iload_n 3, 1)), (120, (.bipush 62, 2)), (122, (.if_icmp .eq 15, 3)), (125, (.iload_n 3, 1)), (126, (.bipush 61, 2)), (128, (.if_icmp .eq 9, 3)), (131, (.aload_n 0, 1)), (132, (.iconst 1, 1)), (133, (.invokevirtual 73, 3)), (136, (.ireturn, 1)), (137, (.aload_n 0, 1))]
theorem dh_418 : dchk cX6_piece dl_418 = true := by decide +kernel
theorem dX6_piece_103 : decode cX6_piece 103 = .ok (.ifCond .ne 5, 3) := dget dh_418 (k := 0) rfl
theorem dX6_piece_106 : decode cX6_piece 106 = .ok (.iconst 0, 1) := dget dh_418 (k := 1) rfl
theorem dX6_piece_107 : decode cX6_piece 107 = .ok (.ireturn, 1) := dget dh_418 (k := 2) rfl
theorem dX6_piece_108 : decode cX6_piece 108 = .ok (.aload_n 0, 1) := dget dh_418 (k := 3) rfl
theorem dX6_piece_109 : decode cX6_piece 109 = .ok (.invokevirtual 46, 3) := dget dh_418 (k := 4) rfl
theorem dX6_piece_112 : decode cX6_piece 112 = .ok (.istore_n 3, 1) := dget dh_418 (k := 5) rfl
theorem dX6_piece_113 : decode cX6_piece 113 = .ok (.iload_n 3, 1) := dget dh_418 (k := 6) rfl
theorem dX6_piece_114 : decode cX6_piece 114 = .ok (.bipush 60, 2) := dget dh_418 (k := 7) rfl
theorem dX6_piece_116 : decode cX6_piece 116 = .ok (.if_icmp .eq 21, 3) := dget dh_418 (k := 8) rfl
theorem dX6_piece_119 : decode cX6_piece 119 = .ok (.iload_n 3, 1) := dget dh_418 (k := 9) rfl
theorem dX6_piece_120 : decode cX6_piece 120 = .ok (.bipush 62, 2) := dget dh_418 (k := 10) rfl
theorem dX6_piece_122 : decode cX6_piece 122 = .ok (.if_icmp .eq 15, 3) := dget dh_418 (k := 11) rfl
theorem dX6_piece_125 : decode cX6_piece 125 = .ok (.iload_n 3, 1) := dget dh_418 (k := 12) rfl
theorem dX6_piece_126 : decode cX6_piece 126 = .ok (.bipush 61, 2) := dget dh_418 (k := 13) rfl
theorem dX6_piece_128 : decode cX6_piece 128 = .ok (.if_icmp .eq 9, 3) := dget dh_418 (k := 14) rfl
theorem dX6_piece_131 : decode cX6_piece 131 = .ok (.aload_n 0, 1) := dget dh_418 (k := 15) rfl
theorem dX6_piece_132 : decode cX6_piece 132 = .ok (.iconst 1, 1) := dget dh_418 (k := 16) rfl
theorem dX6_piece_133 : decode cX6_piece 133 = .ok (.invokevirtual 73, 3) := dget dh_418 (k := 17) rfl
theorem dX6_piece_136 : decode cX6_piece 136 = .ok (.ireturn, 1) := dget dh_418 (k := 18) rfl
theorem dX6_piece_137 : decode cX6_piece 137 = .ok (.aload_n 0, 1) := dget dh_418 (k := 19) rfl
def dl_419 : List (Nat × (Instr × Nat)) := [(138, (.dup, 1)), (139, (.getfield 26, 3)), (142, (.iconst 1, 1)), (143, (.iadd, 1)), (144, (.putfield 26, 3)), (147, (.aload_n 0, 1)), (148, (.iload_n 1, 1)), (149, (.iconst 1, 1)), (150, (.invokevirtual 54, 3)), (153, (.ifCond .ne 5, 3)), (156, (.iconst 0, 1)), (157, (.ireturn, 1)), (158, (.aload_n 0, 1)), (159, (.getfield 12, 3)), (162, (.iload_n 3, 1)), (163, (.iconst 0, 1)), (164, (.invokevirtual 92, 3)), (167, (.pop, 1)), (168, (.iconst 1, 1)), (169, (.ireturn, 1))]
theorem dh_419 : dchk cX6_piece dl_419 = true := by decide +kernel
theorem dX6_piece_138 : decode cX6_piece 138 = .ok (.dup, 1) := dget dh_419 (k := 0) rfl
theorem dX6_piece_139 : decode cX6_piece 139 = .ok (.getfield 26, 3) := dget dh_419 (k := 1) rfl
theorem dX6_piece_142 : decode cX6_piece 142 = .ok (.iconst 1, 1) := dget dh_419 (k := 2) rfl
theorem dX6_piece_143 : decode cX6_piece 143 = .ok (.iadd, 1) := dget dh_419 (k := 3) rfl
theorem dX6_piece_144 : decode cX6_piece 144 = .ok (.putfield 26, 3) := dget dh_419 (k := 4) rfl
theorem dX6_piece_147 : decode cX6_piece 147 = .ok (.aload_n 0, 1) := dget dh_419 (k := 5) rfl
theorem dX6_piece_148 : decode cX6_piece 148 = .ok (.iload_n 1, 1) := dget dh_419 (k := 6) rfl
theorem dX6_piece_149 : decode cX6_piece 149 = .ok (.iconst 1, 1) := dget dh_419 (k := 7) rfl
theorem dX6_piece_150 : decode cX6_piece 150 = .ok (.invokevirtual 54, 3) := dget dh_419 (k := 8) rfl
theorem dX6_piece_153 : decode cX6_piece 153 = .ok (.ifCond .ne 5, 3) := dget dh_419 (k := 9) rfl
theorem dX6_piece_156 : decode cX6_piece 156 = .ok (.iconst 0, 1) := dget dh_419 (k := 10) rfl
theorem dX6_piece_157 : decode cX6_piece 157 = .ok (.ireturn, 1) := dget dh_419 (k := 11) rfl
theorem dX6_piece_158 : decode cX6_piece 158 = .ok (.aload_n 0, 1) := dget dh_419 (k := 12) rfl
theorem dX6_piece_159 : decode cX6_piece 159 = .ok (.getfield 12, 3) := dget dh_419 (k := 13) rfl
theorem dX6_piece_162 : decode cX6_piece 162 = .ok (.iload_n 3, 1) := dget dh_419 (k := 14) rfl
theorem dX6_piece_163 : decode cX6_piece 163 = .ok (.iconst 0, 1) := dget dh_419 (k := 15) rfl
theorem dX6_piece_164 : decode cX6_piece 164 = .ok (.invokevirtual 92, 3) := dget dh_419 (k := 16) rfl
theorem dX6_piece_167 : decode cX6_piece 167 = .ok (.pop, 1) := dget dh_419 (k := 17) rfl
theorem dX6_piece_168 : decode cX6_piece 168 = .ok (.iconst 1, 1) := dget dh_419 (k := 18) rfl
theorem dX6_piece_169 : decode cX6_piece 169 = .ok (.ireturn, 1) := dget dh_419 (k := 19) rfl
def dl_420 : List (Nat × (Instr × Nat)) := [(0, (.aload_n 0, 1)), (1, (.getfield 12, 3)), (4, (.invokevirtual 32, 3)), (7, (.aload_n 0, 1)), (8, (.iload_n 2, 1)), (9, (.sipush 200, 3)), (12, (.invokestatic 35, 3)), (15, (.putfield 22, 3)), (18, (.iconst 0, 1)), (19, (.istore_n 3, 1)), (20, (.iload_n 3, 1)), (21, (.aload_n 0, 1)), (22, (.getfield 22, 3)), (25, (.if_icmp .ge 21, 3)), (28, (.aload_n 0, 1)), (29, (.getfield 18, 3)), (32, (.iload_n 3, 1)), (33, (.aload_n 1, 1)), (34, (.getfield 41, 3)), (37, (.iload_n 3, 1))]
theorem dh_420 : dchk cX6_read dl_420 = true := by decide +kernel
theorem dX6_read_0 : decode cX6_read 0 = .ok (.aload_n 0, 1) := dget dh_420 (k := 0) rfl
theorem dX6_read_1 : decode cX6_read 1 = .ok (.getfield 12, 3) := dget dh_420 (k := 1) rfl
theorem dX6_read_4 : decode cX6_read 4 = .ok (.invokevirtual 32, 3) := dget dh_420 (k := 2) rfl
theorem dX6_read_7 : decode cX6_read 7 = .ok (.aload_n 0, 1) := dget dh_420 (k := 3) rfl
theorem dX6_read_8 : decode cX6_read 8 = .ok (.iload_n 2, 1) := dget dh_420 (k := 4) rfl
theorem dX6_read_9 : decode cX6_read 9 = .ok (.sipush 200, 3) := dget dh_420 (k := 5) rfl
theorem dX6_read_12 : decode cX6_read 12 = .ok (.invokestatic 35, 3) := dget dh_420 (k := 6) rfl
theorem dX6_read_15 : decode cX6_read 15 = .ok (.putfield 22, 3) := dget dh_420 (k := 7) rfl
theorem dX6_read_18 : decode cX6_read 18 = .ok (.iconst 0, 1) := dget dh_420 (k := 8) rfl
theorem dX6_read_19 : decode cX6_read 19 = .ok (.istore_n 3, 1) := dget dh_420 (k := 9) rfl
theorem dX6_read_20 : decode cX6_read 20 = .ok (.iload_n 3, 1) := dget dh_420 (k := 10) rfl
theorem dX6_read_21 : decode cX6_read 21 = .ok (.aload_n 0, 1) := dget dh_420 (k := 11) rfl
theorem dX6_read_22 : decode cX6_read 22 = .ok (.getfield 22, 3) := dget dh_420 (k := 12) rfl
theorem dX6_read_25 : decode cX6_read 25 = .ok (.if_icmp .ge 21, 3) := dget dh_420 (k := 13) rfl
theorem dX6_read_28 : decode cX6_read 28 = .ok (.aload_n 0, 1) := dget dh_420 (k := 14) rfl
theorem dX6_read_29 : decode cX6_read 29 = .ok (.getfield 18, 3) := dget dh_420 (k := 15) rfl
theorem dX6_read_32 : decode cX6_read 32 = .ok (.iload_n 3, 1) := dget dh_420 (k := 16) rfl
theorem dX6_read_33 : decode cX6_read 33 = .ok (.aload_n 1, 1) := dget dh_420 (k := 17) rfl
theorem dX6_read_34 : decode cX6_read 34 = .ok (.getfield 41, 3) := dget dh_420 (k := 18) rfl
theorem dX6_read_37 : decode cX6_read 37 = .ok (.iload_n 3, 1) := dget dh_420 (k := 19) rfl
def dl_421 : List (Nat × (Instr × Nat)) := [(38, (.baload, 1)), (39, (.bastore, 1)), (40, (.iinc 3 1, 3)), (43, (.goto (-23), 3)), (46, (.aload_n 0, 1)), (47, (.iconst 0, 1)), (48, (.putfield 26, 3)), (51, (.aload_n 0, 1)), (52, (.iconst 0, 1)), (53, (.putfield 29, 3)), (56, (.iconst 0, 1)), (57, (.istore_n 3, 1)), (58, (.iload_n 3, 1)), (59, (.bipush 14, 2)), (61, (.if_icmp .gt 89, 3)), (64, (.aload_n 0, 1)), (65, (.invokevirtual 46, 3)), (68, (.istore 4, 2)), (70, (.aload_n 0, 1)), (71, (.iload 4, 2))]
theorem dh_421 : dchk cX6_read dl_421 = true := by decide +kernel
theorem dX6_read_38 : decode cX6_read 38 = .ok (.baload, 1) := dget dh_421 (k := 0) rfl
theorem dX6_read_39 : decode cX6_read 39 = .ok (.bastore, 1) := dget dh_421 (k := 1) rfl
theorem dX6_read_40 : decode cX6_read 40 = .ok (.iinc 3 1, 3) := dget dh_421 (k := 2) rfl
theorem dX6_read_43 : decode cX6_read 43 = .ok (.goto (-23), 3) := dget dh_421 (k := 3) rfl
theorem dX6_read_46 : decode cX6_read 46 = .ok (.aload_n 0, 1) := dget dh_421 (k := 4) rfl
theorem dX6_read_47 : decode cX6_read 47 = .ok (.iconst 0, 1) := dget dh_421 (k := 5) rfl
theorem dX6_read_48 : decode cX6_read 48 = .ok (.putfield 26, 3) := dget dh_421 (k := 6) rfl
theorem dX6_read_51 : decode cX6_read 51 = .ok (.aload_n 0, 1) := dget dh_421 (k := 7) rfl
theorem dX6_read_52 : decode cX6_read 52 = .ok (.iconst 0, 1) := dget dh_421 (k := 8) rfl
theorem dX6_read_53 : decode cX6_read 53 = .ok (.putfield 29, 3) := dget dh_421 (k := 9) rfl
theorem dX6_read_56 : decode cX6_read 56 = .ok (.iconst 0, 1) := dget dh_421 (k := 10) rfl
theorem dX6_read_57 : decode cX6_read 57 = .ok (.istore_n 3, 1) := dget dh_421 (k := 11) rfl
theorem dX6_read_58 : decode cX6_read 58 = .ok (.iload_n 3, 1) := dget dh_421 (k := 12) rfl
theorem dX6_read_59 : decode cX6_read 59 = .ok (.bipush 14, 2) := dget dh_421 (k := 13) rfl
theorem dX6_read_61 : decode cX6_read 61 = .ok (.if_icmp .gt 89, 3) := dget dh_421 (k := 14) rfl
theorem dX6_read_64 : decode cX6_read 64 = .ok (.aload_n 0, 1) := dget dh_421 (k := 15) rfl
theorem dX6_read_65 : decode cX6_read 65 = .ok (.invokevirtual 46, 3) := dget dh_421 (k := 16) rfl
theorem dX6_read_68 : decode cX6_read 68 = .ok (.istore 4, 2) := dget dh_421 (k := 17) rfl
theorem dX6_read_70 : decode cX6_read 70 = .ok (.aload_n 0, 1) := dget dh_421 (k := 18) rfl
theorem dX6_read_71 : decode cX6_read 71 = .ok (.iload 4, 2) := dget dh_421 (k := 19) rfl
def dl_422 : List (Nat × (Instr × Nat)) := [(73, (.invokevirtual 50, 3)), (76, (.ifCond .eq 63, 3)), (79, (.iload 4, 2)), (81, (.bipush 98, 2)), (83, (.if_icmp .eq 12, 3)), (86, (.aload_n 0, 1)), (87, (.iconst 0, 1)), (88, (.iconst 1, 1)), (89, (.invokevirtual 54, 3)), (92, (.ifCond .eq 47, 3)), (95, (.aload_n 0, 1)), (96, (.invokevirtual 58, 3)), (99, (.ifCond .eq 40, 3)), (102, (.aload_n 0, 1)), (103, (.iconst 1, 1)), (104, (.bipush 124, 2)), (106, (.invokevirtual 62, 3)), (109, (.ifCond .eq 30, 3)), (112, (.aload_n 0, 1)), (113, (.invokevirtual 66, 3))]
theorem dh_422 : dchk cX6_read dl_422 = true := by decide +kernel
theorem dX6_read_73 : decode cX6_read 73 = .ok (.invokevirtual 50, 3) := dget dh_422 (k := 0) rfl
theorem dX6_read_76 : decode cX6_read 76 = .ok (.ifCond .eq 63, 3) := dget dh_422 (k := 1) rfl
theorem dX6_read_79 : decode cX6_read 79 = .ok (.iload 4, 2) := dget dh_422 (k := 2) rfl
theorem dX6_read_81 : decode cX6_read 81 = .ok (.bipush 98, 2) := dget dh_422 (k := 3) rfl
theorem dX6_read_83 : decode cX6_read 83 = .ok (.if_icmp .eq 12, 3) := dget dh_422 (k := 4) rfl
theorem dX6_read_86 : decode cX6_read 86 = .ok (.aload_n 0, 1) := dget dh_422 (k := 5) rfl
theorem dX6_read_87 : decode cX6_read 87 = .ok (.iconst 0, 1) := dget dh_422 (k := 6) rfl
theorem dX6_read_88 : decode cX6_read 88 = .ok (.iconst 1, 1) := dget dh_422 (k := 7) rfl
theorem dX6_read_89 : decode cX6_read 89 = .ok (.invokevirtual 54, 3) := dget dh_422 (k := 8) rfl
theorem dX6_read_92 : decode cX6_read 92 = .ok (.ifCond .eq 47, 3) := dget dh_422 (k := 9) rfl
theorem dX6_read_95 : decode cX6_read 95 = .ok (.aload_n 0, 1) := dget dh_422 (k := 10) rfl
theorem dX6_read_96 : decode cX6_read 96 = .ok (.invokevirtual 58, 3) := dget dh_422 (k := 11) rfl
theorem dX6_read_99 : decode cX6_read 99 = .ok (.ifCond .eq 40, 3) := dget dh_422 (k := 12) rfl
theorem dX6_read_102 : decode cX6_read 102 = .ok (.aload_n 0, 1) := dget dh_422 (k := 13) rfl
theorem dX6_read_103 : decode cX6_read 103 = .ok (.iconst 1, 1) := dget dh_422 (k := 14) rfl
theorem dX6_read_104 : decode cX6_read 104 = .ok (.bipush 124, 2) := dget dh_422 (k := 15) rfl
theorem dX6_read_106 : decode cX6_read 106 = .ok (.invokevirtual 62, 3) := dget dh_422 (k := 16) rfl
theorem dX6_read_109 : decode cX6_read 109 = .ok (.ifCond .eq 30, 3) := dget dh_422 (k := 17) rfl
theorem dX6_read_112 : decode cX6_read 112 = .ok (.aload_n 0, 1) := dget dh_422 (k := 18) rfl
theorem dX6_read_113 : decode cX6_read 113 = .ok (.invokevirtual 66, 3) := dget dh_422 (k := 19) rfl
def dl_423 : List (Nat × (Instr × Nat)) := [(116, (.ifCond .eq 23, 3)), (119, (.aload_n 0, 1)), (120, (.getfield 26, 3)), (123, (.aload_n 0, 1)), (124, (.getfield 22, 3)), (127, (.if_icmp .eq 12, 3)), (130, (.aload_n 0, 1)), (131, (.bipush 59, 2)), (133, (.invokevirtual 69, 3)), (136, (.ifCond .ne 8, 3)), (139, (.aload_n 0, 1)), (140, (.getfield 29, 3)), (143, (.ireturn, 1)), (144, (.iinc 3 1, 3)), (147, (.goto (-89), 3)), (150, (.aload_n 0, 1)), (151, (.getfield 29, 3)), (154, (.ireturn, 1))]
theorem dh_423 : dchk cX6_read dl_423 = true := by decide +kernel
theorem dX6_read_116 : decode cX6_read 116 = .ok (.ifCond .eq 23, 3) := dget dh_423 (k := 0) rfl
theorem dX6_read_119 : decode cX6_read 119 = .ok (.aload_n 0, 1) := dget dh_423 (k := 1) rfl
theorem dX6_read_120 : decode cX6_read 120 = .ok (.getfield 26, 3) := dget dh_423 (k := 2) rfl
theorem dX6_read_123 : decode cX6_read 123 = .ok (.aload_n 0, 1) := dget dh_423 (k := 3) rfl
theorem dX6_read_124 : decode cX6_read 124 = .ok (.getfield 22, 3) := dget dh_423 (k := 4) rfl
theorem dX6_read_127 : decode cX6_read 127 = .ok (.if_icmp .eq 12, 3) := dget dh_423 (k := 5) rfl
theorem dX6_read_130 : decode cX6_read 130 = .ok (.aload_n 0, 1) := dget dh_423 (k := 6) rfl
theorem dX6_read_131 : decode cX6_read 131 = .ok (.bipush 59, 2) := dget dh_423 (k := 7) rfl
theorem dX6_read_133 : decode cX6_read 133 = .ok (.invokevirtual 69, 3) := dget dh_423 (k := 8) rfl
theorem dX6_read_136 : decode cX6_read 136 = .ok (.ifCond .ne 8, 3) := dget dh_423 (k := 9) rfl
theorem dX6_read_139 : decode cX6_read 139 = .ok (.aload_n 0, 1) := dget dh_423 (k := 10) rfl
theorem dX6_read_140 : decode cX6_read 140 = .ok (.getfield 29, 3) := dget dh_423 (k := 11) rfl
theorem dX6_read_143 : decode cX6_read 143 = .ok (.ireturn, 1) := dget dh_423 (k := 12) rfl
theorem dX6_read_144 : decode cX6_read 144 = .ok (.iinc 3 1, 3) := dget dh_423 (k := 13) rfl
theorem dX6_read_147 : decode cX6_read 147 = .ok (.goto (-89), 3) := dget dh_423 (k := 14) rfl
theorem dX6_read_150 : decode cX6_read 150 = .ok (.aload_n 0, 1) := dget dh_423 (k := 15) rfl
theorem dX6_read_151 : decode cX6_read 151 = .ok (.getfield 29, 3) := dget dh_423 (k := 16) rfl
theorem dX6_read_154 : decode cX6_read 154 = .ok (.ireturn, 1) := dget dh_423 (k := 17) rfl
set_option maxHeartbeats 4000000 in
set_option maxRecDepth 100000 in
theorem c_X6_piece_kg (l : Launch) (D : va_G) (cy : Nat → ClassId) (a : Nat → Nat) (i : Nat → Int32) (r : Nat → Nat → Int32) (q : Nat → Option Nat) (tl : va_W) (kq vq : Nat) (p0 : Int32) (sz : Nat) (hRi : yRi i) (hRr : yRr r) (F9 L9 F1 L1 F2 L2 F3 L3 : Nat) (hF9 : 3 ≤ F9 ∧ 66 ≤ L9) (q0 : 1 ≤ p0.toInt ∧ p0.toInt ≤ 6) (hX1 : ∀ k9 : Int32, k9.toInt = p0.toInt + 1 → k9.toInt ≤ 6 → ∀ (i : Nat → Int32) (r : Nat → Nat → Int32) (sz : Nat) (hRi : yRi i) (hRr : yRr r), Met l yX6_condition (Cond.code yX6_condition cX6_condition 6 (some .boolean) :: gT) { frames := F1, cells := 0, slots := 0, locals := L1 } (va_Pc [.ref (a 10), .int k9, .int 124] (rS D cy (xW cy a i r q (a 20) (a 12) ++ tl) sz kq vq)) (va_Qi (fun (z : Int32) (u : (Nat → Int32) × (Nat → Nat → Int32)) => yRi u.1 ∧ yRr u.2 ∧ mEi [4, 5, 7] i u.1 ∧ mEr [17, 18] r u.2 ∧ (z = 0 ∨ z = 1)) (fun (u : (Nat → Int32) × (Nat → Nat → Int32)) t => va_P D vwCl (xW cy a u.1 u.2 q (a 20) (a 12) ++ tl) t.heap ∧ va_K D vwCl (vT cy) t ∧ va_D (va_A (xW cy a i r q (a 20) (a 12) ++ tl) sz) (xW cy a u.1 u.2 q (a 20) (a 12) ++ tl)) (va_A (xW cy a i r q (a 20) (a 12) ++ tl) sz)) 0 0 (va_A (xW cy a i r q (a 20) (a 12) ++ tl) sz)) (hR1 : F1 + 1 ≤ F9 ∧ 8 + (6 + 11) + L1 ≤ L9) (hX2 : ∀ k9 : Int32, k9.toInt = p0.toInt + 1 → k9.toInt ≤ 6 → ∀ (i : Nat → Int32) (r : Nat → Nat → Int32) (sz : Nat) (hRi : yRi i) (hRr : yRr r), Met l yX6_piece (Cond.code yX6_piece cX6_piece 4 (some .boolean) :: gT) { frames := F2, cells := 0, slots := 0, locals := L2 } (va_Pc [.ref (a 10), .int k9] (rS D cy (xW cy a i r q (a 20) (a 12) ++ tl) sz kq vq)) (va_Qi (fun (z : Int32) (u : (Nat → Int32) × (Nat → Nat → Int32)) => yRi u.1 ∧ yRr u.2 ∧ mEi [4, 5, 7] i u.1 ∧ mEr [17, 18] r u.2 ∧ (z = 0 ∨ z = 1)) (fun (u : (Nat → Int32) × (Nat → Nat → Int32)) t => va_P D vwCl (xW cy a u.1 u.2 q (a 20) (a 12) ++ tl) t.heap ∧ va_K D vwCl (vT cy) t ∧ va_D (va_A (xW cy a i r q (a 20) (a 12) ++ tl) sz) (xW cy a u.1 u.2 q (a 20) (a 12) ++ tl)) (va_A (xW cy a i r q (a 20) (a 12) ++ tl) sz)) 0 0 (va_A (xW cy a i r q (a 20) (a 12) ++ tl) sz)) (hR2 : F2 + 1 ≤ F9 ∧ 8 + (4 + 11) + L2 ≤ L9) (hX3 : ∀ k9 : Int32, k9 = p0 → ∀ (i : Nat → Int32) (r : Nat → Nat → Int32) (sz : Nat) (hRi : yRi i) (hRr : yRr r), Met l yX6_expression (Cond.code yX6_expression cX6_expression 7 (some .boolean) :: gT) { frames := F3, cells := 0, slots := 0, locals := L3 } (va_Pc [.ref (a 10), .int k9, .int 1] (rS D cy (xW cy a i r q (a 20) (a 12) ++ tl) sz kq vq)) (va_Qi (fun (z : Int32) (u : (Nat → Int32) × (Nat → Nat → Int32)) => yRi u.1 ∧ yRr u.2 ∧ mEi [4, 5, 7] i u.1 ∧ mEr [17, 18] r u.2 ∧ (z = 0 ∨ z = 1)) (fun (u : (Nat → Int32) × (Nat → Nat → Int32)) t => va_P D vwCl (xW cy a u.1 u.2 q (a 20) (a 12) ++ tl) t.heap ∧ va_K D vwCl (vT cy) t ∧ va_D (va_A (xW cy a i r q (a 20) (a 12) ++ tl) sz) (xW cy a u.1 u.2 q (a 20) (a 12) ++ tl)) (va_A (xW cy a i r q (a 20) (a 12) ++ tl) sz)) 0 0 (va_A (xW cy a i r q (a 20) (a 12) ++ tl) sz)) (hR3 : F3 + 1 ≤ F9 ∧ 8 + (7 + 11) + L3 ≤ L9) : Met l yX6_piece (Cond.code yX6_piece cX6_piece 4 (some .boolean) :: gT) { frames := F9, cells := 0, slots := 0, locals := L9 } (va_Pc [.ref (a 10), .int p0] (rS D cy (xW cy a i r q (a 20) (a 12) ++ tl) sz kq vq)) (va_Qi (fun (z : Int32) (u : (Nat → Int32) × (Nat → Nat → Int32)) => yRi u.1 ∧ yRr u.2 ∧ mEi [4, 5, 7] i u.1 ∧ mEr [17, 18] r u.2 ∧ (z = 0 ∨ z = 1)) (fun (u : (Nat → Int32) × (Nat → Nat → Int32)) t => va_P D vwCl (xW cy a u.1 u.2 q (a 20) (a 12) ++ tl) t.heap ∧ va_K D vwCl (vT cy) t ∧ va_D (va_A (xW cy a i r q (a 20) (a 12) ++ tl) sz) (xW cy a u.1 u.2 q (a 20) (a 12) ++ tl)) (va_A (xW cy a i r q (a 20) (a 12) ++ tl) sz)) 0 0 (va_A (xW cy a i r q (a 20) (a 12) ++ tl) sz) := by
  refine Met.ofQ (cc := cX6_piece) (maxL := 4) (ret := (some .boolean)) (by decide) rfl ?_
  intro p e s m args below meth c s₁ B hml hv Q hQ
  obtain ⟨rfl, hsk, hsz, hP, hK, hD0⟩ := hv
  have hx := B.exec
  have hb := B.bytes
  have hr := B.returns
  have hlocks := B.notSynchronized
  have hT : ∀ w ∈ gT, w.before _ s = true := fun w h => atoms_spec (ws := (Cond.code yX6_piece cX6_piece 4 (some .boolean) :: gT)) B.pre w (List.mem_cons_of_mem _ h)
  have hown : s.vm.findClass RX6 = some m.cls := findClass_of_methodNamed B.named
  subst hsz
  have hD := hD0.self (sz := s.heap.size)
  generalize hAe : va_A (xW cy a i r q (a 20) (a 12) ++ tl) s.heap.size = A at hD hQ hsk
  have hA : ∀ q : Nat, s.heap.size ≤ q → A q := fun q h => by rw [← hAe]; exact Or.inr h
  have hS : va_S A s.heap s.heap [] := va_S.rf
  have hl := lv_entry ([.ref (a 10), .int p0]) (n := 4) (Nat.le_of_ble_eq_true rfl)
  rw [lg_entry_eq]
  generalize (lg_sl ([.ref (a 10), .int p0]) ++ List.replicate (4 - (lg_sl ([.ref (a 10), .int p0])).length) Slot.unset).toArray = ls at hl ⊢
  have hl : lv_has ls 4 [(0, .ref (a 10)), (1, .int p0)] := hl
  have hEi : mEi [4, 5, 7] i i := Ei_rf
  have hEr : mEr [17, 18] r r := Er_rf
  refine lv_aload_n hx hb dX6_piece_0 rfl (lv_at hl 0 rfl) ?_
  refine vp_callSi (W.runV (As := []) (rest := []) ⟨hx, hb, hml, hown, hT⟩ (c_X6_peek l D cy a i r q tl hRi hRr) (cwV 0 hT (gV t_652 t_654 t_655 t_656 t_653) rfl rfl rfl (by decide +kernel) ⟨Nat.le_trans (m := 3) (Nat.le_of_ble_eq_true rfl) hF9.1, Nat.le_trans (m := 66) (Nat.le_of_ble_eq_true rfl) hF9.2⟩) (rP_v hP hK (va_recv hK hP (ci := 6) (q0 := 10) rfl rfl)) rfl rfl hl.1 rfl (lv_room (Nat.le_of_ble_eq_true rfl)) dX6_piece_1 ⟨Nat.le_of_ble_eq_true rfl, Nat.le_of_ble_eq_true rfl⟩) (fun r_1 hr_1 => ?_)
  have hr_1 : -1 ≤ r_1.toInt ∧ r_1.toInt ≤ 255 := hr_1
  refine lv_istore_n (lv' := [(2, .int r_1), (0, .ref (a 10)), (1, .int p0)]) hx hb dX6_piece_4 rfl hl (by decide) rfl (fun ls hl => ?_)
  refine lv_iload_n hx hb dX6_piece_5 rfl (lv_at hl 0 rfl) ?_
  refine lv_bipush (v := 33) hx hb dX6_piece_6 (by decide) ?_
  refine lv_icmp_eq (tgt := 17) hx hb dX6_piece_8 (by decide) (fun c_2 => ?_) (fun c_2 => ?_)
  · have c_2 : r_1.toInt = 33 := b_eq c_2
    refine lv_iload_n hx hb dX6_piece_17 rfl (lv_at hl 2 rfl) ?_
    refine lv_bipush (v := 6) hx hb dX6_piece_18 (by decide) ?_
    refine lv_icmp_lt (tgt := 29) hx hb dX6_piece_20 (by decide) (fun c_3 => ?_) (fun c_3 => ?_)
    · have c_3 : p0.toInt < 6 := b_lt c_3
      refine lv_aload_n hx hb dX6_piece_29 rfl (lv_at hl 1 rfl) ?_
      refine lv_dup hx hb dX6_piece_30 rfl ?_
      refine va_get (D := D) (ci := 6) (v := .int (i 4)) (C := RX6) (T := TX6) (N := 5) hx hb hT iX6 hown hK hP 10 rfl rfl 3 (by decide) (hT _ t_648) (fun _ h9 => h9) rfl dX6_piece_31 ?_
      refine lv_iconst (v := 1) hx hb dX6_piece_34 (by decide) ?_
      refine lv_iadd hx hb dX6_piece_35 ?_
      refine lv_topi (fun v_4 ev_4 => ?_)
      refine va_put (D := D) (ci := 6) (v := .int v_4) (ty := .int) (C := RX6) (T := TX6) (N := 5) hx hb hT iX6 tyX6 tyX6_ok nmX6 hown hK hP hD hS 10 rfl rfl 3 (by decide) (hT _ t_648) (fun _ h9 => h9) rfl (by decide +kernel) rfl rfl (Nat.le_of_ble_eq_true rfl) dX6_piece_36 (fun H locs hP hD hS => ?_)
      rw [zP4] at hP hD
      have hRi := Yi_upd hRi 4 v_4 (b_rg _)
      have hEi := Ei_upd hEi 4 v_4 (by decide)
      refine lv_iload_n hx hb dX6_piece_39 rfl (lv_at hl 0 rfl) ?_
      refine lv_bipush (v := 40) hx hb dX6_piece_40 (by decide) ?_
      refine lv_icmp_ne (tgt := 72) hx hb dX6_piece_42 (by decide) (fun c_5 => ?_) (fun c_5 => by have c_5 : r_1.toInt = 40 := b_nne c_5; omega)
      have c_5 : r_1.toInt ≠ 40 := b_ne c_5
      refine lv_aload_n hx hb dX6_piece_72 rfl (lv_at hl 1 rfl) ?_
      refine lv_iload_n hx hb dX6_piece_73 rfl (lv_at hl 2 rfl) ?_
      refine lv_iconst (v := 1) hx hb dX6_piece_74 (by decide) ?_
      refine lv_iadd hx hb dX6_piece_75 ?_
      refine lv_topi (fun v_6 ev_6 => ?_)
      have hv_6 : v_6.toInt = p0.toInt + 1 := by rw [ev_6]; have := b_rg p0; exact i_add (a := p0.toInt) (b := 1) rfl rfl (by omega) (by omega)
      have hF_7 := rF hD hS hA
      refine va_calli (va_runV (As := [.int v_6]) (rest := []) ⟨hx, hb, hml, hown, hT⟩ (hX2 v_6 (by omega) (by omega) (upd i 4 v_4) r _ hRi hRr) (cwV 1 hT (gV t_686 t_687 t_688 t_689 t_653) rfl rfl rfl (by decide +kernel) hR2) (rS_v hsk hS hF_7 hP hK hD (va_recv hK hP (ci := 6) (q0 := 10) rfl rfl)) rfl rfl hl.1 rfl (lv_room (Nat.le_of_ble_eq_true rfl)) dX6_piece_76 ⟨Nat.le_of_ble_eq_true rfl, Nat.le_of_ble_eq_true rfl⟩) hS (fun q _ h => hF_7 q h) hF_7 (fun r_8 u_9 t H1 locs ht hvm hr_8 hB hz1 hk1 hS => ?_)
      obtain ⟨i9, r9⟩ := u_9
      obtain ⟨hP, hK1, hD1⟩ := hB
      rw [ht] at hP
      have hD := hD1.weaken (fun k q _ h => hF_7 q.1 h)
      obtain ⟨hRi, hRr, hE1, hE2, hr_8⟩ := hr_8
      have hRi : yRi i9 := hRi
      have hE1 : mEi [4, 5, 7] (upd i 4 v_4) i9 := hE1
      have hRr : yRr r9 := hRr
      have hE2 : mEr [17, 18] r r9 := hE2
      have hP : va_P D vwCl (xW cy a i9 r9 q (a 20) (a 12) ++ tl) H1 := hP
      have hD : va_D A (xW cy a i9 r9 q (a 20) (a 12) ++ tl) := hD
      have hEi : mEi [4, 5, 7] _ i9 := Ei_tr hEi hE1 (by decide)
      have hEr : mEr [17, 18] _ r9 := Er_tr hEr hE2 (by decide)
      rcases hr_8 with rfl | rfl
      · skip
        refine lv_if_ne (tgt := 84) hx hb dX6_piece_79 (by decide) (fun c_10 => absurd (by decide) c_10) (fun c_10 => ?_)
        refine lv_iconst (v := 0) hx hb dX6_piece_82 (by decide) ?_
        subst hQ
        exact W.zret hx hb hr rfl (fun t ht hW => ⟨⟨_, (i9, r9), rfl, ⟨hRi, hRr, hEi, hEr, Or.inl rfl⟩, by rw [ht]; exact hP, va_K.moved hW.alike hK, hD⟩, hS.F ht⟩) hS.2.2 dX6_piece_83
      · skip
        refine lv_if_ne (tgt := 84) hx hb dX6_piece_79 (by decide) (fun c_11 => ?_) (fun c_11 => absurd c_11 (by decide))
        refine lv_aload_n hx hb dX6_piece_84 rfl (lv_at hl 1 rfl) ?_
        refine va_get (D := D) (ci := 6) (v := .ref (a 12)) (C := RX6) (T := TX6) (N := 5) hx hb hT iX6 hown hK hP 10 rfl rfl 0 (by decide) (hT _ t_661) (fun _ h9 => h9) rfl dX6_piece_85 ?_
        refine lv_bipush (v := 33) hx hb dX6_piece_88 (by decide) ?_
        refine lv_iconst (v := 0) hx hb dX6_piece_90 (by decide) ?_
        have hF_12 := rF hD hS hA
        refine va_calli (va_runV (As := [.int 33, .int 0]) (rest := []) ⟨hx, hb, hml, hown, hT⟩ (c_X5_add l D cy a i9 r9 q tl 33 0 _ hRi hRr) (cwV 2 hT (gV t_662 t_663 t_664 t_665 t_367) rfl rfl rfl (by decide +kernel) ⟨Nat.le_trans (m := 3) (Nat.le_of_ble_eq_true rfl) hF9.1, Nat.le_trans (m := 66) (Nat.le_of_ble_eq_true rfl) hF9.2⟩) (rQ_v hP hK hD (va_recv hK hP (ci := 5) (q0 := 12) rfl rfl)) rfl rfl hl.1 rfl (lv_room (Nat.le_of_ble_eq_true rfl)) dX6_piece_91 ⟨Nat.le_of_ble_eq_true rfl, Nat.le_of_ble_eq_true rfl⟩) hS (fun q _ h => hF_12 q h) hF_12 (fun r_13 u_14 t H1 locs ht hvm hr_13 hB hz1 hk1 hS => ?_)
        obtain ⟨i14, r14⟩ := u_14
        obtain ⟨hP, hK1, hD1⟩ := hB
        rw [ht] at hP
        have hD := hD1.weaken (fun k q _ h => hF_12 q.1 h)
        obtain ⟨hRi, hRr, hE1, hE2, hr_13⟩ := hr_13
        have hRi : yRi i14 := hRi
        have hE1 : mEi [7] i9 i14 := hE1
        have hRr : yRr r14 := hRr
        have hE2 : mEr [17, 18] r9 r14 := hE2
        have hP : va_P D vwCl (xW cy a i14 r14 q (a 20) (a 12) ++ tl) H1 := hP
        have hD : va_D A (xW cy a i14 r14 q (a 20) (a 12) ++ tl) := hD
        have hEi : mEi [4, 5, 7] _ i14 := Ei_tr hEi hE1 (by decide)
        have hEr : mEr [17, 18] _ r14 := Er_tr hEr hE2 (by decide)
        refine lv_pop hx hb dX6_piece_94 rfl ?_
        refine lv_iconst (v := 1) hx hb dX6_piece_95 (by decide) ?_
        subst hQ
        exact W.zret hx hb hr rfl (fun t ht hW => ⟨⟨_, (i14, r14), rfl, ⟨hRi, hRr, hEi, hEr, Or.inr rfl⟩, by rw [ht]; exact hP, va_K.moved hW.alike hK, hD⟩, hS.F ht⟩) hS.2.2 dX6_piece_96
    · have c_3 : 6 ≤ p0.toInt := b_nlt c_3
      refine lv_aload_n hx hb dX6_piece_23 rfl (lv_at hl 1 rfl) ?_
      refine lv_iconst (v := 5) hx hb dX6_piece_24 (by decide) ?_
      have hF_15 := rF hD hS hA
      refine va_calli (va_runV (As := [.int 5]) (rest := []) ⟨hx, hb, hml, hown, hT⟩ (c_X6_refuse l D cy a i r q tl 5 _ hRi hRr) (cwV 1 hT (gV t_657 t_658 t_659 t_660 t_653) rfl rfl rfl (by decide +kernel) ⟨Nat.le_trans (m := 3) (Nat.le_of_ble_eq_true rfl) hF9.1, Nat.le_trans (m := 66) (Nat.le_of_ble_eq_true rfl) hF9.2⟩) (rQ_v hP hK hD (va_recv hK hP (ci := 6) (q0 := 10) rfl rfl)) rfl rfl hl.1 rfl (lv_room (Nat.le_of_ble_eq_true rfl)) dX6_piece_25 ⟨Nat.le_of_ble_eq_true rfl, Nat.le_of_ble_eq_true rfl⟩) hS (fun q _ h => hF_15 q h) hF_15 (fun r_16 u_17 t H1 locs ht hvm hr_16 hB hz1 hk1 hS => ?_)
      obtain ⟨i17, r17⟩ := u_17
      obtain ⟨hP, hK1, hD1⟩ := hB
      rw [ht] at hP
      have hD := hD1.weaken (fun k q _ h => hF_15 q.1 h)
      obtain ⟨hRi, hRr, hE1, hE2, hr_16⟩ := hr_16
      have hRi : yRi i17 := hRi
      have hE1 : mEi [5] i i17 := hE1
      have hRr : yRr r17 := hRr
      have hE2 : mEr [] r r17 := hE2
      have hP : va_P D vwCl (xW cy a i17 r17 q (a 20) (a 12) ++ tl) H1 := hP
      have hD : va_D A (xW cy a i17 r17 q (a 20) (a 12) ++ tl) := hD
      have hEi : mEi [4, 5, 7] _ i17 := Ei_tr hEi hE1 (by decide)
      have hEr : mEr [17, 18] _ r17 := Er_tr hEr hE2 (by decide)
      subst hr_16
      subst hQ
      exact W.zret hx hb hr rfl (fun t ht hW => ⟨⟨_, (i17, r17), rfl, ⟨hRi, hRr, hEi, hEr, Or.inl rfl⟩, by rw [ht]; exact hP, va_K.moved hW.alike hK, hD⟩, hS.F ht⟩) hS.2.2 dX6_piece_28
  · have c_2 : r_1.toInt ≠ 33 := b_ne c_2
    refine lv_iload_n hx hb dX6_piece_11 rfl (lv_at hl 0 rfl) ?_
    refine lv_bipush (v := 40) hx hb dX6_piece_12 (by decide) ?_
    refine lv_icmp_ne (tgt := 97) hx hb dX6_piece_14 (by decide) (fun c_18 => ?_) (fun c_18 => ?_)
    · have c_18 : r_1.toInt ≠ 40 := b_ne c_18
      refine lv_aload_n hx hb dX6_piece_97 rfl (lv_at hl 1 rfl) ?_
      refine lv_iload_n hx hb dX6_piece_98 rfl (lv_at hl 2 rfl) ?_
      refine lv_iconst (v := 1) hx hb dX6_piece_99 (by decide) ?_
      have hF_19 := rF hD hS hA
      refine va_calli (va_runV (As := [.int p0, .int 1]) (rest := []) ⟨hx, hb, hml, hown, hT⟩ (hX3 p0 rfl i r _ hRi hRr) (cwV 2 hT (gV t_674 t_675 t_676 t_677 t_653) rfl rfl rfl (by decide +kernel) hR3) (rS_v hsk hS hF_19 hP hK hD (va_recv hK hP (ci := 6) (q0 := 10) rfl rfl)) rfl rfl hl.1 rfl (lv_room (Nat.le_of_ble_eq_true rfl)) dX6_piece_100 ⟨Nat.le_of_ble_eq_true rfl, Nat.le_of_ble_eq_true rfl⟩) hS (fun q _ h => hF_19 q h) hF_19 (fun r_20 u_21 t H1 locs ht hvm hr_20 hB hz1 hk1 hS => ?_)
      obtain ⟨i21, r21⟩ := u_21
      obtain ⟨hP, hK1, hD1⟩ := hB
      rw [ht] at hP
      have hD := hD1.weaken (fun k q _ h => hF_19 q.1 h)
      obtain ⟨hRi, hRr, hE1, hE2, hr_20⟩ := hr_20
      have hRi : yRi i21 := hRi
      have hE1 : mEi [4, 5, 7] i i21 := hE1
      have hRr : yRr r21 := hRr
      have hE2 : mEr [17, 18] r r21 := hE2
      have hP : va_P D vwCl (xW cy a i21 r21 q (a 20) (a 12) ++ tl) H1 := hP
      have hD : va_D A (xW cy a i21 r21 q (a 20) (a 12) ++ tl) := hD
      have hEi : mEi [4, 5, 7] _ i21 := Ei_tr hEi hE1 (by decide)
      have hEr : mEr [17, 18] _ r21 := Er_tr hEr hE2 (by decide)
      rcases hr_20 with rfl | rfl
      · skip
        refine lv_if_ne (tgt := 108) hx hb dX6_piece_103 (by decide) (fun c_22 => absurd (by decide) c_22) (fun c_22 => ?_)
        refine lv_iconst (v := 0) hx hb dX6_piece_106 (by decide) ?_
        subst hQ
        exact W.zret hx hb hr rfl (fun t ht hW => ⟨⟨_, (i21, r21), rfl, ⟨hRi, hRr, hEi, hEr, Or.inl rfl⟩, by rw [ht]; exact hP, va_K.moved hW.alike hK, hD⟩, hS.F ht⟩) hS.2.2 dX6_piece_107
      · skip
        refine lv_if_ne (tgt := 108) hx hb dX6_piece_103 (by decide) (fun c_23 => ?_) (fun c_23 => absurd c_23 (by decide))
        refine lv_aload_n hx hb dX6_piece_108 rfl (lv_at hl 1 rfl) ?_
        refine vp_callSi (W.runV (As := []) (rest := []) ⟨hx, hb, hml, hown, hT⟩ (c_X6_peek l D cy a i21 r21 q tl hRi hRr) (cwV 0 hT (gV t_652 t_654 t_655 t_656 t_653) rfl rfl rfl (by decide +kernel) ⟨Nat.le_trans (m := 3) (Nat.le_of_ble_eq_true rfl) hF9.1, Nat.le_trans (m := 66) (Nat.le_of_ble_eq_true rfl) hF9.2⟩) (rP_v hP hK (va_recv hK hP (ci := 6) (q0 := 10) rfl rfl)) rfl rfl hl.1 rfl (lv_room (Nat.le_of_ble_eq_true rfl)) dX6_piece_109 ⟨Nat.le_of_ble_eq_true rfl, Nat.le_of_ble_eq_true rfl⟩) (fun r_24 hr_24 => ?_)
        have hr_24 : -1 ≤ r_24.toInt ∧ r_24.toInt ≤ 255 := hr_24
        refine lv_istore_n (lv' := [(3, .int r_24), (2, .int r_1), (0, .ref (a 10)), (1, .int p0)]) hx hb dX6_piece_112 rfl hl (by decide) rfl (fun ls hl => ?_)
        refine lv_iload_n hx hb dX6_piece_113 rfl (lv_at hl 0 rfl) ?_
        refine lv_bipush (v := 60) hx hb dX6_piece_114 (by decide) ?_
        refine lv_icmp_eq (tgt := 137) hx hb dX6_piece_116 (by decide) (fun c_25 => ?_) (fun c_25 => ?_)
        · have c_25 : r_24.toInt = 60 := b_eq c_25
          refine lv_aload_n hx hb dX6_piece_137 rfl (lv_at hl 2 rfl) ?_
          refine lv_dup hx hb dX6_piece_138 rfl ?_
          refine va_get (D := D) (ci := 6) (v := .int (i21 4)) (C := RX6) (T := TX6) (N := 5) hx hb hT iX6 hown hK hP 10 rfl rfl 3 (by decide) (hT _ t_648) (fun _ h9 => h9) rfl dX6_piece_139 ?_
          refine lv_iconst (v := 1) hx hb dX6_piece_142 (by decide) ?_
          refine lv_iadd hx hb dX6_piece_143 ?_
          refine lv_topi (fun v_26 ev_26 => ?_)
          refine va_put (D := D) (ci := 6) (v := .int v_26) (ty := .int) (C := RX6) (T := TX6) (N := 5) hx hb hT iX6 tyX6 tyX6_ok nmX6 hown hK hP hD hS 10 rfl rfl 3 (by decide) (hT _ t_648) (fun _ h9 => h9) rfl (by decide +kernel) rfl rfl (Nat.le_of_ble_eq_true rfl) dX6_piece_144 (fun H locs hP hD hS => ?_)
          rw [zP4] at hP hD
          have hRi := Yi_upd hRi 4 v_26 (b_rg _)
          have hEi := Ei_upd hEi 4 v_26 (by decide)
          refine lv_aload_n hx hb dX6_piece_147 rfl (lv_at hl 2 rfl) ?_
          refine lv_iload_n hx hb dX6_piece_148 rfl (lv_at hl 3 rfl) ?_
          refine lv_iconst (v := 1) hx hb dX6_piece_149 (by decide) ?_
          have hF_27 := rF hD hS hA
          refine va_calli (va_runV (As := [.int p0, .int 1]) (rest := []) ⟨hx, hb, hml, hown, hT⟩ (hX3 p0 rfl (upd i21 4 v_26) r21 _ hRi hRr) (cwV 2 hT (gV t_674 t_675 t_676 t_677 t_653) rfl rfl rfl (by decide +kernel) hR3) (rS_v hsk hS hF_27 hP hK hD (va_recv hK hP (ci := 6) (q0 := 10) rfl rfl)) rfl rfl hl.1 rfl (lv_room (Nat.le_of_ble_eq_true rfl)) dX6_piece_150 ⟨Nat.le_of_ble_eq_true rfl, Nat.le_of_ble_eq_true rfl⟩) hS (fun q _ h => hF_27 q h) hF_27 (fun r_28 u_29 t H1 locs ht hvm hr_28 hB hz1 hk1 hS => ?_)
          obtain ⟨i29, r29⟩ := u_29
          obtain ⟨hP, hK1, hD1⟩ := hB
          rw [ht] at hP
          have hD := hD1.weaken (fun k q _ h => hF_27 q.1 h)
          obtain ⟨hRi, hRr, hE1, hE2, hr_28⟩ := hr_28
          have hRi : yRi i29 := hRi
          have hE1 : mEi [4, 5, 7] (upd i21 4 v_26) i29 := hE1
          have hRr : yRr r29 := hRr
          have hE2 : mEr [17, 18] r21 r29 := hE2
          have hP : va_P D vwCl (xW cy a i29 r29 q (a 20) (a 12) ++ tl) H1 := hP
          have hD : va_D A (xW cy a i29 r29 q (a 20) (a 12) ++ tl) := hD
          have hEi : mEi [4, 5, 7] _ i29 := Ei_tr hEi hE1 (by decide)
          have hEr : mEr [17, 18] _ r29 := Er_tr hEr hE2 (by decide)
          rcases hr_28 with rfl | rfl
          · skip
            refine lv_if_ne (tgt := 158) hx hb dX6_piece_153 (by decide) (fun c_30 => absurd (by decide) c_30) (fun c_30 => ?_)
            refine lv_iconst (v := 0) hx hb dX6_piece_156 (by decide) ?_
            subst hQ
            exact W.zret hx hb hr rfl (fun t ht hW => ⟨⟨_, (i29, r29), rfl, ⟨hRi, hRr, hEi, hEr, Or.inl rfl⟩, by rw [ht]; exact hP, va_K.moved hW.alike hK, hD⟩, hS.F ht⟩) hS.2.2 dX6_piece_157
          · skip
            refine lv_if_ne (tgt := 158) hx hb dX6_piece_153 (by decide) (fun c_31 => ?_) (fun c_31 => absurd c_31 (by decide))
            refine lv_aload_n hx hb dX6_piece_158 rfl (lv_at hl 2 rfl) ?_
            refine va_get (D := D) (ci := 6) (v := .ref (a 12)) (C := RX6) (T := TX6) (N := 5) hx hb hT iX6 hown hK hP 10 rfl rfl 0 (by decide) (hT _ t_661) (fun _ h9 => h9) rfl dX6_piece_159 ?_
            refine lv_iload_n hx hb dX6_piece_162 rfl (lv_at hl 0 rfl) ?_
            refine lv_iconst (v := 0) hx hb dX6_piece_163 (by decide) ?_
            have hF_32 := rF hD hS hA
            refine va_calli (va_runV (As := [.int r_24, .int 0]) (rest := []) ⟨hx, hb, hml, hown, hT⟩ (c_X5_add l D cy a i29 r29 q tl r_24 0 _ hRi hRr) (cwV 2 hT (gV t_662 t_663 t_664 t_665 t_367) rfl rfl rfl (by decide +kernel) ⟨Nat.le_trans (m := 3) (Nat.le_of_ble_eq_true rfl) hF9.1, Nat.le_trans (m := 66) (Nat.le_of_ble_eq_true rfl) hF9.2⟩) (rQ_v hP hK hD (va_recv hK hP (ci := 5) (q0 := 12) rfl rfl)) rfl rfl hl.1 rfl (lv_room (Nat.le_of_ble_eq_true rfl)) dX6_piece_164 ⟨Nat.le_of_ble_eq_true rfl, Nat.le_of_ble_eq_true rfl⟩) hS (fun q _ h => hF_32 q h) hF_32 (fun r_33 u_34 t H1 locs ht hvm hr_33 hB hz1 hk1 hS => ?_)
            obtain ⟨i34, r34⟩ := u_34
            obtain ⟨hP, hK1, hD1⟩ := hB
            rw [ht] at hP
            have hD := hD1.weaken (fun k q _ h => hF_32 q.1 h)
            obtain ⟨hRi, hRr, hE1, hE2, hr_33⟩ := hr_33
            have hRi : yRi i34 := hRi
            have hE1 : mEi [7] i29 i34 := hE1
            have hRr : yRr r34 := hRr
            have hE2 : mEr [17, 18] r29 r34 := hE2
            have hP : va_P D vwCl (xW cy a i34 r34 q (a 20) (a 12) ++ tl) H1 := hP
            have hD : va_D A (xW cy a i34 r34 q (a 20) (a 12) ++ tl) := hD
            have hEi : mEi [4, 5, 7] _ i34 := Ei_tr hEi hE1 (by decide)
            have hEr : mEr [17, 18] _ r34 := Er_tr hEr hE2 (by decide)
            refine lv_pop hx hb dX6_piece_167 rfl ?_
            refine lv_iconst (v := 1) hx hb dX6_piece_168 (by decide) ?_
            subst hQ
            exact W.zret hx hb hr rfl (fun t ht hW => ⟨⟨_, (i34, r34), rfl, ⟨hRi, hRr, hEi, hEr, Or.inr rfl⟩, by rw [ht]; exact hP, va_K.moved hW.alike hK, hD⟩, hS.F ht⟩) hS.2.2 dX6_piece_169
        · have c_25 : r_24.toInt ≠ 60 := b_ne c_25
          refine lv_iload_n hx hb dX6_piece_119 rfl (lv_at hl 0 rfl) ?_
          refine lv_bipush (v := 62) hx hb dX6_piece_120 (by decide) ?_
          refine lv_icmp_eq (tgt := 137) hx hb dX6_piece_122 (by decide) (fun c_35 => ?_) (fun c_35 => ?_)
          · have c_35 : r_24.toInt = 62 := b_eq c_35
            refine lv_aload_n hx hb dX6_piece_137 rfl (lv_at hl 2 rfl) ?_
            refine lv_dup hx hb dX6_piece_138 rfl ?_
            refine va_get (D := D) (ci := 6) (v := .int (i21 4)) (C := RX6) (T := TX6) (N := 5) hx hb hT iX6 hown hK hP 10 rfl rfl 3 (by decide) (hT _ t_648) (fun _ h9 => h9) rfl dX6_piece_139 ?_
            refine lv_iconst (v := 1) hx hb dX6_piece_142 (by decide) ?_
            refine lv_iadd hx hb dX6_piece_143 ?_
            refine lv_topi (fun v_36 ev_36 => ?_)
            refine va_put (D := D) (ci := 6) (v := .int v_36) (ty := .int) (C := RX6) (T := TX6) (N := 5) hx hb hT iX6 tyX6 tyX6_ok nmX6 hown hK hP hD hS 10 rfl rfl 3 (by decide) (hT _ t_648) (fun _ h9 => h9) rfl (by decide +kernel) rfl rfl (Nat.le_of_ble_eq_true rfl) dX6_piece_144 (fun H locs hP hD hS => ?_)
            rw [zP4] at hP hD
            have hRi := Yi_upd hRi 4 v_36 (b_rg _)
            have hEi := Ei_upd hEi 4 v_36 (by decide)
            refine lv_aload_n hx hb dX6_piece_147 rfl (lv_at hl 2 rfl) ?_
            refine lv_iload_n hx hb dX6_piece_148 rfl (lv_at hl 3 rfl) ?_
            refine lv_iconst (v := 1) hx hb dX6_piece_149 (by decide) ?_
            have hF_37 := rF hD hS hA
            refine va_calli (va_runV (As := [.int p0, .int 1]) (rest := []) ⟨hx, hb, hml, hown, hT⟩ (hX3 p0 rfl (upd i21 4 v_36) r21 _ hRi hRr) (cwV 2 hT (gV t_674 t_675 t_676 t_677 t_653) rfl rfl rfl (by decide +kernel) hR3) (rS_v hsk hS hF_37 hP hK hD (va_recv hK hP (ci := 6) (q0 := 10) rfl rfl)) rfl rfl hl.1 rfl (lv_room (Nat.le_of_ble_eq_true rfl)) dX6_piece_150 ⟨Nat.le_of_ble_eq_true rfl, Nat.le_of_ble_eq_true rfl⟩) hS (fun q _ h => hF_37 q h) hF_37 (fun r_38 u_39 t H1 locs ht hvm hr_38 hB hz1 hk1 hS => ?_)
            obtain ⟨i39, r39⟩ := u_39
            obtain ⟨hP, hK1, hD1⟩ := hB
            rw [ht] at hP
            have hD := hD1.weaken (fun k q _ h => hF_37 q.1 h)
            obtain ⟨hRi, hRr, hE1, hE2, hr_38⟩ := hr_38
            have hRi : yRi i39 := hRi
            have hE1 : mEi [4, 5, 7] (upd i21 4 v_36) i39 := hE1
            have hRr : yRr r39 := hRr
            have hE2 : mEr [17, 18] r21 r39 := hE2
            have hP : va_P D vwCl (xW cy a i39 r39 q (a 20) (a 12) ++ tl) H1 := hP
            have hD : va_D A (xW cy a i39 r39 q (a 20) (a 12) ++ tl) := hD
            have hEi : mEi [4, 5, 7] _ i39 := Ei_tr hEi hE1 (by decide)
            have hEr : mEr [17, 18] _ r39 := Er_tr hEr hE2 (by decide)
            rcases hr_38 with rfl | rfl
            · skip
              refine lv_if_ne (tgt := 158) hx hb dX6_piece_153 (by decide) (fun c_40 => absurd (by decide) c_40) (fun c_40 => ?_)
              refine lv_iconst (v := 0) hx hb dX6_piece_156 (by decide) ?_
              subst hQ
              exact W.zret hx hb hr rfl (fun t ht hW => ⟨⟨_, (i39, r39), rfl, ⟨hRi, hRr, hEi, hEr, Or.inl rfl⟩, by rw [ht]; exact hP, va_K.moved hW.alike hK, hD⟩, hS.F ht⟩) hS.2.2 dX6_piece_157
            · skip
              refine lv_if_ne (tgt := 158) hx hb dX6_piece_153 (by decide) (fun c_41 => ?_) (fun c_41 => absurd c_41 (by decide))
              refine lv_aload_n hx hb dX6_piece_158 rfl (lv_at hl 2 rfl) ?_
              refine va_get (D := D) (ci := 6) (v := .ref (a 12)) (C := RX6) (T := TX6) (N := 5) hx hb hT iX6 hown hK hP 10 rfl rfl 0 (by decide) (hT _ t_661) (fun _ h9 => h9) rfl dX6_piece_159 ?_
              refine lv_iload_n hx hb dX6_piece_162 rfl (lv_at hl 0 rfl) ?_
              refine lv_iconst (v := 0) hx hb dX6_piece_163 (by decide) ?_
              have hF_42 := rF hD hS hA
              refine va_calli (va_runV (As := [.int r_24, .int 0]) (rest := []) ⟨hx, hb, hml, hown, hT⟩ (c_X5_add l D cy a i39 r39 q tl r_24 0 _ hRi hRr) (cwV 2 hT (gV t_662 t_663 t_664 t_665 t_367) rfl rfl rfl (by decide +kernel) ⟨Nat.le_trans (m := 3) (Nat.le_of_ble_eq_true rfl) hF9.1, Nat.le_trans (m := 66) (Nat.le_of_ble_eq_true rfl) hF9.2⟩) (rQ_v hP hK hD (va_recv hK hP (ci := 5) (q0 := 12) rfl rfl)) rfl rfl hl.1 rfl (lv_room (Nat.le_of_ble_eq_true rfl)) dX6_piece_164 ⟨Nat.le_of_ble_eq_true rfl, Nat.le_of_ble_eq_true rfl⟩) hS (fun q _ h => hF_42 q h) hF_42 (fun r_43 u_44 t H1 locs ht hvm hr_43 hB hz1 hk1 hS => ?_)
              obtain ⟨i44, r44⟩ := u_44
              obtain ⟨hP, hK1, hD1⟩ := hB
              rw [ht] at hP
              have hD := hD1.weaken (fun k q _ h => hF_42 q.1 h)
              obtain ⟨hRi, hRr, hE1, hE2, hr_43⟩ := hr_43
              have hRi : yRi i44 := hRi
              have hE1 : mEi [7] i39 i44 := hE1
              have hRr : yRr r44 := hRr
              have hE2 : mEr [17, 18] r39 r44 := hE2
              have hP : va_P D vwCl (xW cy a i44 r44 q (a 20) (a 12) ++ tl) H1 := hP
              have hD : va_D A (xW cy a i44 r44 q (a 20) (a 12) ++ tl) := hD
              have hEi : mEi [4, 5, 7] _ i44 := Ei_tr hEi hE1 (by decide)
              have hEr : mEr [17, 18] _ r44 := Er_tr hEr hE2 (by decide)
              refine lv_pop hx hb dX6_piece_167 rfl ?_
              refine lv_iconst (v := 1) hx hb dX6_piece_168 (by decide) ?_
              subst hQ
              exact W.zret hx hb hr rfl (fun t ht hW => ⟨⟨_, (i44, r44), rfl, ⟨hRi, hRr, hEi, hEr, Or.inr rfl⟩, by rw [ht]; exact hP, va_K.moved hW.alike hK, hD⟩, hS.F ht⟩) hS.2.2 dX6_piece_169
          · have c_35 : r_24.toInt ≠ 62 := b_ne c_35
            refine lv_iload_n hx hb dX6_piece_125 rfl (lv_at hl 0 rfl) ?_
            refine lv_bipush (v := 61) hx hb dX6_piece_126 (by decide) ?_
            refine lv_icmp_eq (tgt := 137) hx hb dX6_piece_128 (by decide) (fun c_45 => ?_) (fun c_45 => ?_)
            · have c_45 : r_24.toInt = 61 := b_eq c_45
              refine lv_aload_n hx hb dX6_piece_137 rfl (lv_at hl 2 rfl) ?_
              refine lv_dup hx hb dX6_piece_138 rfl ?_
              refine va_get (D := D) (ci := 6) (v := .int (i21 4)) (C := RX6) (T := TX6) (N := 5) hx hb hT iX6 hown hK hP 10 rfl rfl 3 (by decide) (hT _ t_648) (fun _ h9 => h9) rfl dX6_piece_139 ?_
              refine lv_iconst (v := 1) hx hb dX6_piece_142 (by decide) ?_
              refine lv_iadd hx hb dX6_piece_143 ?_
              refine lv_topi (fun v_46 ev_46 => ?_)
              refine va_put (D := D) (ci := 6) (v := .int v_46) (ty := .int) (C := RX6) (T := TX6) (N := 5) hx hb hT iX6 tyX6 tyX6_ok nmX6 hown hK hP hD hS 10 rfl rfl 3 (by decide) (hT _ t_648) (fun _ h9 => h9) rfl (by decide +kernel) rfl rfl (Nat.le_of_ble_eq_true rfl) dX6_piece_144 (fun H locs hP hD hS => ?_)
              rw [zP4] at hP hD
              have hRi := Yi_upd hRi 4 v_46 (b_rg _)
              have hEi := Ei_upd hEi 4 v_46 (by decide)
              refine lv_aload_n hx hb dX6_piece_147 rfl (lv_at hl 2 rfl) ?_
              refine lv_iload_n hx hb dX6_piece_148 rfl (lv_at hl 3 rfl) ?_
              refine lv_iconst (v := 1) hx hb dX6_piece_149 (by decide) ?_
              have hF_47 := rF hD hS hA
              refine va_calli (va_runV (As := [.int p0, .int 1]) (rest := []) ⟨hx, hb, hml, hown, hT⟩ (hX3 p0 rfl (upd i21 4 v_46) r21 _ hRi hRr) (cwV 2 hT (gV t_674 t_675 t_676 t_677 t_653) rfl rfl rfl (by decide +kernel) hR3) (rS_v hsk hS hF_47 hP hK hD (va_recv hK hP (ci := 6) (q0 := 10) rfl rfl)) rfl rfl hl.1 rfl (lv_room (Nat.le_of_ble_eq_true rfl)) dX6_piece_150 ⟨Nat.le_of_ble_eq_true rfl, Nat.le_of_ble_eq_true rfl⟩) hS (fun q _ h => hF_47 q h) hF_47 (fun r_48 u_49 t H1 locs ht hvm hr_48 hB hz1 hk1 hS => ?_)
              obtain ⟨i49, r49⟩ := u_49
              obtain ⟨hP, hK1, hD1⟩ := hB
              rw [ht] at hP
              have hD := hD1.weaken (fun k q _ h => hF_47 q.1 h)
              obtain ⟨hRi, hRr, hE1, hE2, hr_48⟩ := hr_48
              have hRi : yRi i49 := hRi
              have hE1 : mEi [4, 5, 7] (upd i21 4 v_46) i49 := hE1
              have hRr : yRr r49 := hRr
              have hE2 : mEr [17, 18] r21 r49 := hE2
              have hP : va_P D vwCl (xW cy a i49 r49 q (a 20) (a 12) ++ tl) H1 := hP
              have hD : va_D A (xW cy a i49 r49 q (a 20) (a 12) ++ tl) := hD
              have hEi : mEi [4, 5, 7] _ i49 := Ei_tr hEi hE1 (by decide)
              have hEr : mEr [17, 18] _ r49 := Er_tr hEr hE2 (by decide)
              rcases hr_48 with rfl | rfl
              · skip
                refine lv_if_ne (tgt := 158) hx hb dX6_piece_153 (by decide) (fun c_50 => absurd (by decide) c_50) (fun c_50 => ?_)
                refine lv_iconst (v := 0) hx hb dX6_piece_156 (by decide) ?_
                subst hQ
                exact W.zret hx hb hr rfl (fun t ht hW => ⟨⟨_, (i49, r49), rfl, ⟨hRi, hRr, hEi, hEr, Or.inl rfl⟩, by rw [ht]; exact hP, va_K.moved hW.alike hK, hD⟩, hS.F ht⟩) hS.2.2 dX6_piece_157
              · skip
                refine lv_if_ne (tgt := 158) hx hb dX6_piece_153 (by decide) (fun c_51 => ?_) (fun c_51 => absurd c_51 (by decide))
                refine lv_aload_n hx hb dX6_piece_158 rfl (lv_at hl 2 rfl) ?_
                refine va_get (D := D) (ci := 6) (v := .ref (a 12)) (C := RX6) (T := TX6) (N := 5) hx hb hT iX6 hown hK hP 10 rfl rfl 0 (by decide) (hT _ t_661) (fun _ h9 => h9) rfl dX6_piece_159 ?_
                refine lv_iload_n hx hb dX6_piece_162 rfl (lv_at hl 0 rfl) ?_
                refine lv_iconst (v := 0) hx hb dX6_piece_163 (by decide) ?_
                have hF_52 := rF hD hS hA
                refine va_calli (va_runV (As := [.int r_24, .int 0]) (rest := []) ⟨hx, hb, hml, hown, hT⟩ (c_X5_add l D cy a i49 r49 q tl r_24 0 _ hRi hRr) (cwV 2 hT (gV t_662 t_663 t_664 t_665 t_367) rfl rfl rfl (by decide +kernel) ⟨Nat.le_trans (m := 3) (Nat.le_of_ble_eq_true rfl) hF9.1, Nat.le_trans (m := 66) (Nat.le_of_ble_eq_true rfl) hF9.2⟩) (rQ_v hP hK hD (va_recv hK hP (ci := 5) (q0 := 12) rfl rfl)) rfl rfl hl.1 rfl (lv_room (Nat.le_of_ble_eq_true rfl)) dX6_piece_164 ⟨Nat.le_of_ble_eq_true rfl, Nat.le_of_ble_eq_true rfl⟩) hS (fun q _ h => hF_52 q h) hF_52 (fun r_53 u_54 t H1 locs ht hvm hr_53 hB hz1 hk1 hS => ?_)
                obtain ⟨i54, r54⟩ := u_54
                obtain ⟨hP, hK1, hD1⟩ := hB
                rw [ht] at hP
                have hD := hD1.weaken (fun k q _ h => hF_52 q.1 h)
                obtain ⟨hRi, hRr, hE1, hE2, hr_53⟩ := hr_53
                have hRi : yRi i54 := hRi
                have hE1 : mEi [7] i49 i54 := hE1
                have hRr : yRr r54 := hRr
                have hE2 : mEr [17, 18] r49 r54 := hE2
                have hP : va_P D vwCl (xW cy a i54 r54 q (a 20) (a 12) ++ tl) H1 := hP
                have hD : va_D A (xW cy a i54 r54 q (a 20) (a 12) ++ tl) := hD
                have hEi : mEi [4, 5, 7] _ i54 := Ei_tr hEi hE1 (by decide)
                have hEr : mEr [17, 18] _ r54 := Er_tr hEr hE2 (by decide)
                refine lv_pop hx hb dX6_piece_167 rfl ?_
                refine lv_iconst (v := 1) hx hb dX6_piece_168 (by decide) ?_
                subst hQ
                exact W.zret hx hb hr rfl (fun t ht hW => ⟨⟨_, (i54, r54), rfl, ⟨hRi, hRr, hEi, hEr, Or.inr rfl⟩, by rw [ht]; exact hP, va_K.moved hW.alike hK, hD⟩, hS.F ht⟩) hS.2.2 dX6_piece_169
            · have c_45 : r_24.toInt ≠ 61 := b_ne c_45
              refine lv_aload_n hx hb dX6_piece_131 rfl (lv_at hl 2 rfl) ?_
              refine lv_iconst (v := 1) hx hb dX6_piece_132 (by decide) ?_
              have hF_55 := rF hD hS hA
              refine va_calli (va_runV (As := [.int 1]) (rest := []) ⟨hx, hb, hml, hown, hT⟩ (c_X6_refuse l D cy a i21 r21 q tl 1 _ hRi hRr) (cwV 1 hT (gV t_657 t_658 t_659 t_660 t_653) rfl rfl rfl (by decide +kernel) ⟨Nat.le_trans (m := 3) (Nat.le_of_ble_eq_true rfl) hF9.1, Nat.le_trans (m := 66) (Nat.le_of_ble_eq_true rfl) hF9.2⟩) (rQ_v hP hK hD (va_recv hK hP (ci := 6) (q0 := 10) rfl rfl)) rfl rfl hl.1 rfl (lv_room (Nat.le_of_ble_eq_true rfl)) dX6_piece_133 ⟨Nat.le_of_ble_eq_true rfl, Nat.le_of_ble_eq_true rfl⟩) hS (fun q _ h => hF_55 q h) hF_55 (fun r_56 u_57 t H1 locs ht hvm hr_56 hB hz1 hk1 hS => ?_)
              obtain ⟨i57, r57⟩ := u_57
              obtain ⟨hP, hK1, hD1⟩ := hB
              rw [ht] at hP
              have hD := hD1.weaken (fun k q _ h => hF_55 q.1 h)
              obtain ⟨hRi, hRr, hE1, hE2, hr_56⟩ := hr_56
              have hRi : yRi i57 := hRi
              have hE1 : mEi [5] i21 i57 := hE1
              have hRr : yRr r57 := hRr
              have hE2 : mEr [] r21 r57 := hE2
              have hP : va_P D vwCl (xW cy a i57 r57 q (a 20) (a 12) ++ tl) H1 := hP
              have hD : va_D A (xW cy a i57 r57 q (a 20) (a 12) ++ tl) := hD
              have hEi : mEi [4, 5, 7] _ i57 := Ei_tr hEi hE1 (by decide)
              have hEr : mEr [17, 18] _ r57 := Er_tr hEr hE2 (by decide)
              subst hr_56
              subst hQ
              exact W.zret hx hb hr rfl (fun t ht hW => ⟨⟨_, (i57, r57), rfl, ⟨hRi, hRr, hEi, hEr, Or.inl rfl⟩, by rw [ht]; exact hP, va_K.moved hW.alike hK, hD⟩, hS.F ht⟩) hS.2.2 dX6_piece_136
    · have c_18 : r_1.toInt = 40 := b_nne c_18
      refine lv_iload_n hx hb dX6_piece_17 rfl (lv_at hl 2 rfl) ?_
      refine lv_bipush (v := 6) hx hb dX6_piece_18 (by decide) ?_
      refine lv_icmp_lt (tgt := 29) hx hb dX6_piece_20 (by decide) (fun c_58 => ?_) (fun c_58 => ?_)
      · have c_58 : p0.toInt < 6 := b_lt c_58
        refine lv_aload_n hx hb dX6_piece_29 rfl (lv_at hl 1 rfl) ?_
        refine lv_dup hx hb dX6_piece_30 rfl ?_
        refine va_get (D := D) (ci := 6) (v := .int (i 4)) (C := RX6) (T := TX6) (N := 5) hx hb hT iX6 hown hK hP 10 rfl rfl 3 (by decide) (hT _ t_648) (fun _ h9 => h9) rfl dX6_piece_31 ?_
        refine lv_iconst (v := 1) hx hb dX6_piece_34 (by decide) ?_
        refine lv_iadd hx hb dX6_piece_35 ?_
        refine lv_topi (fun v_59 ev_59 => ?_)
        refine va_put (D := D) (ci := 6) (v := .int v_59) (ty := .int) (C := RX6) (T := TX6) (N := 5) hx hb hT iX6 tyX6 tyX6_ok nmX6 hown hK hP hD hS 10 rfl rfl 3 (by decide) (hT _ t_648) (fun _ h9 => h9) rfl (by decide +kernel) rfl rfl (Nat.le_of_ble_eq_true rfl) dX6_piece_36 (fun H locs hP hD hS => ?_)
        rw [zP4] at hP hD
        have hRi := Yi_upd hRi 4 v_59 (b_rg _)
        have hEi := Ei_upd hEi 4 v_59 (by decide)
        refine lv_iload_n hx hb dX6_piece_39 rfl (lv_at hl 0 rfl) ?_
        refine lv_bipush (v := 40) hx hb dX6_piece_40 (by decide) ?_
        refine lv_icmp_ne (tgt := 72) hx hb dX6_piece_42 (by decide) (fun c_60 => by have c_60 : r_1.toInt ≠ 40 := b_ne c_60; omega) (fun c_60 => ?_)
        have c_60 : r_1.toInt = 40 := b_nne c_60
        refine lv_aload_n hx hb dX6_piece_45 rfl (lv_at hl 1 rfl) ?_
        refine lv_iload_n hx hb dX6_piece_46 rfl (lv_at hl 2 rfl) ?_
        refine lv_iconst (v := 1) hx hb dX6_piece_47 (by decide) ?_
        refine lv_iadd hx hb dX6_piece_48 ?_
        refine lv_topi (fun v_61 ev_61 => ?_)
        have hv_61 : v_61.toInt = p0.toInt + 1 := by rw [ev_61]; have := b_rg p0; exact i_add (a := p0.toInt) (b := 1) rfl rfl (by omega) (by omega)
        refine lv_bipush (v := 124) hx hb dX6_piece_49 (by decide) ?_
        have hF_62 := rF hD hS hA
        refine va_calli (va_runV (As := [.int v_61, .int 124]) (rest := []) ⟨hx, hb, hml, hown, hT⟩ (hX1 v_61 (by omega) (by omega) (upd i 4 v_59) r _ hRi hRr) (cwV 2 hT (gV t_690 t_691 t_692 t_693 t_653) rfl rfl rfl (by decide +kernel) hR1) (rS_v hsk hS hF_62 hP hK hD (va_recv hK hP (ci := 6) (q0 := 10) rfl rfl)) rfl rfl hl.1 rfl (lv_room (Nat.le_of_ble_eq_true rfl)) dX6_piece_51 ⟨Nat.le_of_ble_eq_true rfl, Nat.le_of_ble_eq_true rfl⟩) hS (fun q _ h => hF_62 q h) hF_62 (fun r_63 u_64 t H1 locs ht hvm hr_63 hB hz1 hk1 hS => ?_)
        obtain ⟨i64, r64⟩ := u_64
        obtain ⟨hP, hK1, hD1⟩ := hB
        rw [ht] at hP
        have hD := hD1.weaken (fun k q _ h => hF_62 q.1 h)
        obtain ⟨hRi, hRr, hE1, hE2, hr_63⟩ := hr_63
        have hRi : yRi i64 := hRi
        have hE1 : mEi [4, 5, 7] (upd i 4 v_59) i64 := hE1
        have hRr : yRr r64 := hRr
        have hE2 : mEr [17, 18] r r64 := hE2
        have hP : va_P D vwCl (xW cy a i64 r64 q (a 20) (a 12) ++ tl) H1 := hP
        have hD : va_D A (xW cy a i64 r64 q (a 20) (a 12) ++ tl) := hD
        have hEi : mEi [4, 5, 7] _ i64 := Ei_tr hEi hE1 (by decide)
        have hEr : mEr [17, 18] _ r64 := Er_tr hEr hE2 (by decide)
        rcases hr_63 with rfl | rfl
        · skip
          refine lv_if_eq (tgt := 70) hx hb dX6_piece_54 (by decide) (fun c_65 => ?_) (fun c_65 => absurd (by decide) c_65)
          refine lv_iconst (v := 0) hx hb dX6_piece_70 (by decide) ?_
          subst hQ
          exact W.zret hx hb hr rfl (fun t ht hW => ⟨⟨_, (i64, r64), rfl, ⟨hRi, hRr, hEi, hEr, Or.inl rfl⟩, by rw [ht]; exact hP, va_K.moved hW.alike hK, hD⟩, hS.F ht⟩) hS.2.2 dX6_piece_71
        · skip
          refine lv_if_eq (tgt := 70) hx hb dX6_piece_54 (by decide) (fun c_66 => absurd c_66 (by decide)) (fun c_66 => ?_)
          refine lv_aload_n hx hb dX6_piece_57 rfl (lv_at hl 1 rfl) ?_
          refine lv_bipush (v := 41) hx hb dX6_piece_58 (by decide) ?_
          have hF_67 := rF hD hS hA
          refine va_calli (va_runV (As := [.int 41]) (rest := []) ⟨hx, hb, hml, hown, hT⟩ (c_X6_pass l D cy a i64 r64 q tl 41 _ hRi hRr) (cwV 1 hT (gV t_678 t_679 t_680 t_681 t_653) rfl rfl rfl (by decide +kernel) ⟨Nat.le_trans (m := 3) (Nat.le_of_ble_eq_true rfl) hF9.1, Nat.le_trans (m := 66) (Nat.le_of_ble_eq_true rfl) hF9.2⟩) (rQ_v hP hK hD (va_recv hK hP (ci := 6) (q0 := 10) rfl rfl)) rfl rfl hl.1 rfl (lv_room (Nat.le_of_ble_eq_true rfl)) dX6_piece_60 ⟨Nat.le_of_ble_eq_true rfl, Nat.le_of_ble_eq_true rfl⟩) hS (fun q _ h => hF_67 q h) hF_67 (fun r_68 u_69 t H1 locs ht hvm hr_68 hB hz1 hk1 hS => ?_)
          obtain ⟨i69, r69⟩ := u_69
          obtain ⟨hP, hK1, hD1⟩ := hB
          rw [ht] at hP
          have hD := hD1.weaken (fun k q _ h => hF_67 q.1 h)
          obtain ⟨hRi, hRr, hE1, hE2, hr_68⟩ := hr_68
          have hRi : yRi i69 := hRi
          have hE1 : mEi [4, 5] i64 i69 := hE1
          have hRr : yRr r69 := hRr
          have hE2 : mEr [] r64 r69 := hE2
          have hP : va_P D vwCl (xW cy a i69 r69 q (a 20) (a 12) ++ tl) H1 := hP
          have hD : va_D A (xW cy a i69 r69 q (a 20) (a 12) ++ tl) := hD
          have hEi : mEi [4, 5, 7] _ i69 := Ei_tr hEi hE1 (by decide)
          have hEr : mEr [17, 18] _ r69 := Er_tr hEr hE2 (by decide)
          rcases hr_68 with rfl | rfl
          · skip
            refine lv_if_eq (tgt := 70) hx hb dX6_piece_63 (by decide) (fun c_70 => ?_) (fun c_70 => absurd (by decide) c_70)
            refine lv_iconst (v := 0) hx hb dX6_piece_70 (by decide) ?_
            subst hQ
            exact W.zret hx hb hr rfl (fun t ht hW => ⟨⟨_, (i69, r69), rfl, ⟨hRi, hRr, hEi, hEr, Or.inl rfl⟩, by rw [ht]; exact hP, va_K.moved hW.alike hK, hD⟩, hS.F ht⟩) hS.2.2 dX6_piece_71
          · skip
            refine lv_if_eq (tgt := 70) hx hb dX6_piece_63 (by decide) (fun c_71 => absurd c_71 (by decide)) (fun c_71 => ?_)
            refine lv_iconst (v := 1) hx hb dX6_piece_66 (by decide) ?_
            refine lv_goto (tgt := 71) hx hb dX6_piece_67 (by decide) ?_
            subst hQ
            exact W.zret hx hb hr rfl (fun t ht hW => ⟨⟨_, (i69, r69), rfl, ⟨hRi, hRr, hEi, hEr, Or.inr rfl⟩, by rw [ht]; exact hP, va_K.moved hW.alike hK, hD⟩, hS.F ht⟩) hS.2.2 dX6_piece_71
      · have c_58 : 6 ≤ p0.toInt := b_nlt c_58
        refine lv_aload_n hx hb dX6_piece_23 rfl (lv_at hl 1 rfl) ?_
        refine lv_iconst (v := 5) hx hb dX6_piece_24 (by decide) ?_
        have hF_72 := rF hD hS hA
        refine va_calli (va_runV (As := [.int 5]) (rest := []) ⟨hx, hb, hml, hown, hT⟩ (c_X6_refuse l D cy a i r q tl 5 _ hRi hRr) (cwV 1 hT (gV t_657 t_658 t_659 t_660 t_653) rfl rfl rfl (by decide +kernel) ⟨Nat.le_trans (m := 3) (Nat.le_of_ble_eq_true rfl) hF9.1, Nat.le_trans (m := 66) (Nat.le_of_ble_eq_true rfl) hF9.2⟩) (rQ_v hP hK hD (va_recv hK hP (ci := 6) (q0 := 10) rfl rfl)) rfl rfl hl.1 rfl (lv_room (Nat.le_of_ble_eq_true rfl)) dX6_piece_25 ⟨Nat.le_of_ble_eq_true rfl, Nat.le_of_ble_eq_true rfl⟩) hS (fun q _ h => hF_72 q h) hF_72 (fun r_73 u_74 t H1 locs ht hvm hr_73 hB hz1 hk1 hS => ?_)
        obtain ⟨i74, r74⟩ := u_74
        obtain ⟨hP, hK1, hD1⟩ := hB
        rw [ht] at hP
        have hD := hD1.weaken (fun k q _ h => hF_72 q.1 h)
        obtain ⟨hRi, hRr, hE1, hE2, hr_73⟩ := hr_73
        have hRi : yRi i74 := hRi
        have hE1 : mEi [5] i i74 := hE1
        have hRr : yRr r74 := hRr
        have hE2 : mEr [] r r74 := hE2
        have hP : va_P D vwCl (xW cy a i74 r74 q (a 20) (a 12) ++ tl) H1 := hP
        have hD : va_D A (xW cy a i74 r74 q (a 20) (a 12) ++ tl) := hD
        have hEi : mEi [4, 5, 7] _ i74 := Ei_tr hEi hE1 (by decide)
        have hEr : mEr [17, 18] _ r74 := Er_tr hEr hE2 (by decide)
        subst hr_73
        subst hQ
        exact W.zret hx hb hr rfl (fun t ht hW => ⟨⟨_, (i74, r74), rfl, ⟨hRi, hRr, hEi, hEr, Or.inl rfl⟩, by rw [ht]; exact hP, va_K.moved hW.alike hK, hD⟩, hS.F ht⟩) hS.2.2 dX6_piece_28
set_option maxHeartbeats 4000000 in
set_option maxRecDepth 100000 in
theorem c_X6_condition_kg38 (l : Launch) (D : va_G) (cy : Nat → ClassId) (a : Nat → Nat) (i : Nat → Int32) (r : Nat → Nat → Int32) (q : Nat → Option Nat) (tl : va_W) (kq vq : Nat) (p0 : Int32) (sz : Nat) (hRi : yRi i) (hRr : yRr r) (F9 L9 F1 L1 : Nat) (hF9 : 2 ≤ F9 ∧ 46 ≤ L9) (q0 : 1 ≤ p0.toInt ∧ p0.toInt ≤ 6) (hX1 : ∀ k9 : Int32, k9 = p0 → ∀ (i : Nat → Int32) (r : Nat → Nat → Int32) (sz : Nat) (hRi : yRi i) (hRr : yRr r), Met l yX6_piece (Cond.code yX6_piece cX6_piece 4 (some .boolean) :: gT) { frames := F1, cells := 0, slots := 0, locals := L1 } (va_Pc [.ref (a 10), .int k9] (rS D cy (xW cy a i r q (a 20) (a 12) ++ tl) sz kq vq)) (va_Qi (fun (z : Int32) (u : (Nat → Int32) × (Nat → Nat → Int32)) => yRi u.1 ∧ yRr u.2 ∧ mEi [4, 5, 7] i u.1 ∧ mEr [17, 18] r u.2 ∧ (z = 0 ∨ z = 1)) (fun (u : (Nat → Int32) × (Nat → Nat → Int32)) t => va_P D vwCl (xW cy a u.1 u.2 q (a 20) (a 12) ++ tl) t.heap ∧ va_K D vwCl (vT cy) t ∧ va_D (va_A (xW cy a i r q (a 20) (a 12) ++ tl) sz) (xW cy a u.1 u.2 q (a 20) (a 12) ++ tl)) (va_A (xW cy a i r q (a 20) (a 12) ++ tl) sz)) 0 0 (va_A (xW cy a i r q (a 20) (a 12) ++ tl) sz)) (hR1 : F1 + 1 ≤ F9 ∧ 8 + (4 + 11) + L1 ≤ L9) : Met l yX6_condition (Cond.code yX6_condition cX6_condition 6 (some .boolean) :: gT) { frames := F9, cells := 0, slots := 0, locals := L9 } (va_Pc [.ref (a 10), .int p0, .int 38] (rS D cy (xW cy a i r q (a 20) (a 12) ++ tl) sz kq vq)) (va_Qi (fun (z : Int32) (u : (Nat → Int32) × (Nat → Nat → Int32)) => yRi u.1 ∧ yRr u.2 ∧ mEi [4, 5, 7] i u.1 ∧ mEr [17, 18] r u.2 ∧ (z = 0 ∨ z = 1)) (fun (u : (Nat → Int32) × (Nat → Nat → Int32)) t => va_P D vwCl (xW cy a u.1 u.2 q (a 20) (a 12) ++ tl) t.heap ∧ va_K D vwCl (vT cy) t ∧ va_D (va_A (xW cy a i r q (a 20) (a 12) ++ tl) sz) (xW cy a u.1 u.2 q (a 20) (a 12) ++ tl)) (va_A (xW cy a i r q (a 20) (a 12) ++ tl) sz)) 0 0 (va_A (xW cy a i r q (a 20) (a 12) ++ tl) sz) := by
  refine Met.ofQ (cc := cX6_condition) (maxL := 6) (ret := (some .boolean)) (by decide) rfl ?_
  intro p e s m args below meth c s₁ B hml hv Q hQ
  obtain ⟨rfl, hsk, hsz, hP, hK, hD0⟩ := hv
  have hx := B.exec
  have hb := B.bytes
  have hr := B.returns
  have hlocks := B.notSynchronized
  have hT : ∀ w ∈ gT, w.before _ s = true := fun w h => atoms_spec (ws := (Cond.code yX6_condition cX6_condition 6 (some .boolean) :: gT)) B.pre w (List.mem_cons_of_mem _ h)
  have hown : s.vm.findClass RX6 = some m.cls := findClass_of_methodNamed B.named
  subst hsz
  have hD := hD0.self (sz := s.heap.size)
  generalize hAe : va_A (xW cy a i r q (a 20) (a 12) ++ tl) s.heap.size = A at hD hQ hsk
  have hA : ∀ q : Nat, s.heap.size ≤ q → A q := fun q h => by rw [← hAe]; exact Or.inr h
  have hS : va_S A s.heap s.heap [] := va_S.rf
  have hl := lv_entry ([.ref (a 10), .int p0, .int 38]) (n := 6) (Nat.le_of_ble_eq_true rfl)
  rw [lg_entry_eq]
  generalize (lg_sl ([.ref (a 10), .int p0, .int 38]) ++ List.replicate (6 - (lg_sl ([.ref (a 10), .int p0, .int 38])).length) Slot.unset).toArray = ls at hl ⊢
  have hl : lv_has ls 6 [(0, .ref (a 10)), (1, .int p0), (2, .int 38)] := hl
  have hEi : mEi [4, 5, 7] i i := Ei_rf
  have hEr : mEr [17, 18] r r := Er_rf
  refine lv_iconst (v := (-1)) hx hb dX6_condition_0 (by decide) ?_
  refine lv_istore_n (lv' := [(3, .int (-1)), (0, .ref (a 10)), (1, .int p0), (2, .int 38)]) hx hb dX6_condition_1 rfl hl (by decide) rfl (fun ls hl => ?_)
  refine lv_iconst (v := 0) hx hb dX6_condition_2 (by decide) ?_
  refine lv_istore (lv' := [(4, .int 0), (3, .int (-1)), (0, .ref (a 10)), (1, .int p0), (2, .int 38)]) hx hb dX6_condition_3 hl (by decide) rfl (fun ls hl => ?_)
  have loop_1 : ∀ (n : Nat) (x1_4 : Int32) (x1_3 : Int32) (i1 : Nat → Int32) (r1 : Nat → Nat → Int32) (H : Heap) (locs : List Loc) (ls : Array Slot), (200 - x1_4.toInt).toNat < n → (0 ≤ x1_4.toInt ∧ x1_4.toInt ≤ 200) → yRi i1 → mEi [4, 5, 7] i i1 → yRr r1 → mEr [17, 18] r r1 → va_P D vwCl (xW cy a i1 r1 q (a 20) (a 12) ++ tl) H → va_D A (xW cy a i1 r1 q (a 20) (a 12) ++ tl) → va_S A s.heap H locs → lv_has ls 6 [(4, .int x1_4), (3, .int x1_3), (0, .ref (a 10)), (1, .int p0), (2, .int 38)] → W p l e ({ frames := F9, cells := 0, slots := 0, locals := L9 } : Room) s m ([.ref (a 10), .int p0, .int 38] : List Value).toArray below meth c H locs 0 0 Q (F0 m 5 ls []) := by
    intro n
    induction n with
    | zero =>
      intro x1_4 x1_3 i1 r1 H locs ls hm1 hf1_0 hRi hEi hRr hEr hP hD hS hl
      exact absurd hm1 (by omega)
    | succ n ih1 =>
      intro x1_4 x1_3 i1 r1 H locs ls hm1 hf1_0 hRi hEi hRr hEr hP hD hS hl
      refine lv_iload hx hb dX6_condition_5 (lv_at hl 0 rfl) ?_
      refine lv_sipush (v := 200) hx hb dX6_condition_7 (by decide) ?_
      refine lv_icmp_ge (tgt := 87) hx hb dX6_condition_10 (by decide) (fun c_2 => ?_) (fun c_2 => ?_)
      · have c_2 : 200 ≤ x1_4.toInt := b_le c_2
        refine lv_iconst (v := 1) hx hb dX6_condition_87 (by decide) ?_
        subst hQ
        exact W.zret hx hb hr rfl (fun t ht hW => ⟨⟨_, (i1, r1), rfl, ⟨hRi, hRr, hEi, hEr, Or.inr rfl⟩, by rw [ht]; exact hP, va_K.moved hW.alike hK, hD⟩, hS.F ht⟩) hS.2.2 dX6_condition_88
      · have c_2 : x1_4.toInt < 200 := b_nle c_2
        refine lv_iload_n hx hb dX6_condition_13 rfl (lv_at hl 4 rfl) ?_
        refine lv_bipush (v := 124) hx hb dX6_condition_14 (by decide) ?_
        refine lv_icmp_ne (tgt := 29) hx hb dX6_condition_16 (by decide) (fun c_3 => ?_) (fun c_3 => absurd c_3 (by decide))
        refine lv_aload_n hx hb dX6_condition_29 rfl (lv_at hl 2 rfl) ?_
        refine lv_iload_n hx hb dX6_condition_30 rfl (lv_at hl 3 rfl) ?_
        have hF_4 := rF hD hS hA
        refine va_calli (va_runV (As := [.int p0]) (rest := []) ⟨hx, hb, hml, hown, hT⟩ (hX1 p0 rfl i1 r1 _ hRi hRr) (cwV 1 hT (gV t_686 t_687 t_688 t_689 t_653) rfl rfl rfl (by decide +kernel) hR1) (rS_v hsk hS hF_4 hP hK hD (va_recv hK hP (ci := 6) (q0 := 10) rfl rfl)) rfl rfl hl.1 rfl (lv_room (Nat.le_of_ble_eq_true rfl)) dX6_condition_31 ⟨Nat.le_of_ble_eq_true rfl, Nat.le_of_ble_eq_true rfl⟩) hS (fun q _ h => hF_4 q h) hF_4 (fun r_5 u_6 t H1 locs ht hvm hr_5 hB hz1 hk1 hS => ?_)
        obtain ⟨i6, r6⟩ := u_6
        obtain ⟨hP, hK1, hD1⟩ := hB
        rw [ht] at hP
        have hD := hD1.weaken (fun k q _ h => hF_4 q.1 h)
        obtain ⟨hRi, hRr, hE1, hE2, hr_5⟩ := hr_5
        have hRi : yRi i6 := hRi
        have hE1 : mEi [4, 5, 7] i1 i6 := hE1
        have hRr : yRr r6 := hRr
        have hE2 : mEr [17, 18] r1 r6 := hE2
        have hP : va_P D vwCl (xW cy a i6 r6 q (a 20) (a 12) ++ tl) H1 := hP
        have hD : va_D A (xW cy a i6 r6 q (a 20) (a 12) ++ tl) := hD
        have hEi : mEi [4, 5, 7] _ i6 := Ei_tr hEi hE1 (by decide)
        have hEr : mEr [17, 18] _ r6 := Er_tr hEr hE2 (by decide)
        rcases hr_5 with rfl | rfl
        · skip
          refine lv_istore (lv' := [(5, .int 0), (4, .int x1_4), (3, .int x1_3), (0, .ref (a 10)), (1, .int p0), (2, .int 38)]) hx hb dX6_condition_34 hl (by decide) rfl (fun ls hl => ?_)
          refine lv_iload hx hb dX6_condition_36 (lv_at hl 0 rfl) ?_
          refine lv_if_ne (tgt := 43) hx hb dX6_condition_38 (by decide) (fun c_7 => absurd (by decide) c_7) (fun c_7 => ?_)
          refine lv_iconst (v := 0) hx hb dX6_condition_41 (by decide) ?_
          subst hQ
          exact W.zret hx hb hr rfl (fun t ht hW => ⟨⟨_, (i6, r6), rfl, ⟨hRi, hRr, hEi, hEr, Or.inl rfl⟩, by rw [ht]; exact hP, va_K.moved hW.alike hK, hD⟩, hS.F ht⟩) hS.2.2 dX6_condition_42
        · skip
          refine lv_istore (lv' := [(5, .int 1), (4, .int x1_4), (3, .int x1_3), (0, .ref (a 10)), (1, .int p0), (2, .int 38)]) hx hb dX6_condition_34 hl (by decide) rfl (fun ls hl => ?_)
          refine lv_iload hx hb dX6_condition_36 (lv_at hl 0 rfl) ?_
          refine lv_if_ne (tgt := 43) hx hb dX6_condition_38 (by decide) (fun c_8 => ?_) (fun c_8 => absurd c_8 (by decide))
          refine lv_aload_n hx hb dX6_condition_43 rfl (lv_at hl 3 rfl) ?_
          refine va_get (D := D) (ci := 6) (v := .ref (a 12)) (C := RX6) (T := TX6) (N := 5) hx hb hT iX6 hown hK hP 10 rfl rfl 0 (by decide) (hT _ t_661) (fun _ h9 => h9) rfl dX6_condition_44 ?_
          refine lv_iload_n hx hb dX6_condition_47 rfl (lv_at hl 2 rfl) ?_
          have hF_9 := rF hD hS hA
          refine va_callv (va_runV (As := [.int x1_3]) (rest := []) ⟨hx, hb, hml, hown, hT⟩ (c_X5_aim l D cy a i6 r6 q tl x1_3 _ hRi hRr) (cwV 1 hT (gV t_694 t_695 t_696 t_697 t_367) rfl rfl rfl (by decide +kernel) ⟨Nat.le_trans (m := 2) (Nat.le_of_ble_eq_true rfl) hF9.1, Nat.le_trans (m := 46) (Nat.le_of_ble_eq_true rfl) hF9.2⟩) (rQ_v hP hK hD (va_recv hK hP (ci := 5) (q0 := 12) rfl rfl)) rfl rfl hl.1 rfl (lv_room (Nat.le_of_ble_eq_true rfl)) dX6_condition_48 ⟨Nat.le_of_ble_eq_true rfl, Nat.le_of_ble_eq_true rfl⟩) hS (fun q _ h => hF_9 q h) hF_9 (fun u_11 t H1 locs ht hvm hr_10 hB hz1 hk1 hS => ?_)
          obtain ⟨r11, rfl⟩ : ∃ z, z = u_11 := ⟨_, rfl⟩
          obtain ⟨hP, hK1, hD1⟩ := hB
          rw [ht] at hP
          have hD := hD1.weaken (fun k q _ h => hF_9 q.1 h)
          obtain ⟨hRr, hE2, hr_10⟩ := hr_10
          have hRr : yRr r11 := hRr
          have hE2 : mEr [18] r6 r11 := hE2
          have hP : va_P D vwCl (xW cy a i6 r11 q (a 20) (a 12) ++ tl) H1 := hP
          have hD : va_D A (xW cy a i6 r11 q (a 20) (a 12) ++ tl) := hD
          have hEr : mEr [17, 18] _ r11 := Er_tr hEr hE2 (by decide)
          refine lv_aload_n hx hb dX6_condition_51 rfl (lv_at hl 3 rfl) ?_
          refine vp_callSi (W.runV (As := []) (rest := []) ⟨hx, hb, hml, hown, hT⟩ (c_X6_peek l D cy a i6 r11 q tl hRi hRr) (cwV 0 hT (gV t_652 t_654 t_655 t_656 t_653) rfl rfl rfl (by decide +kernel) ⟨Nat.le_trans (m := 2) (Nat.le_of_ble_eq_true rfl) hF9.1, Nat.le_trans (m := 46) (Nat.le_of_ble_eq_true rfl) hF9.2⟩) (rP_v hP hK (va_recv hK hP (ci := 6) (q0 := 10) rfl rfl)) rfl rfl hl.1 rfl (lv_room (Nat.le_of_ble_eq_true rfl)) dX6_condition_52 ⟨Nat.le_of_ble_eq_true rfl, Nat.le_of_ble_eq_true rfl⟩) (fun r_12 hr_12 => ?_)
          have hr_12 : -1 ≤ r_12.toInt ∧ r_12.toInt ≤ 255 := hr_12
          refine lv_iload_n hx hb dX6_condition_55 rfl (lv_at hl 5 rfl) ?_
          refine lv_icmp_eq (tgt := 61) hx hb dX6_condition_56 (by decide) (fun c_13 => ?_) (fun c_13 => ?_)
          · have c_13 : r_12.toInt = 38 := b_eq c_13
            refine lv_aload_n hx hb dX6_condition_61 rfl (lv_at hl 3 rfl) ?_
            refine lv_dup hx hb dX6_condition_62 rfl ?_
            refine va_get (D := D) (ci := 6) (v := .int (i6 4)) (C := RX6) (T := TX6) (N := 5) hx hb hT iX6 hown hK hP 10 rfl rfl 3 (by decide) (hT _ t_648) (fun _ h9 => h9) rfl dX6_condition_63 ?_
            refine lv_iconst (v := 1) hx hb dX6_condition_66 (by decide) ?_
            refine lv_iadd hx hb dX6_condition_67 ?_
            refine lv_topi (fun v_14 ev_14 => ?_)
            refine va_put (D := D) (ci := 6) (v := .int v_14) (ty := .int) (C := RX6) (T := TX6) (N := 5) hx hb hT iX6 tyX6 tyX6_ok nmX6 hown hK hP hD hS 10 rfl rfl 3 (by decide) (hT _ t_648) (fun _ h9 => h9) rfl (by decide +kernel) rfl rfl (Nat.le_of_ble_eq_true rfl) dX6_condition_68 (fun H locs hP hD hS => ?_)
            rw [zP4] at hP hD
            have hRi := Yi_upd hRi 4 v_14 (b_rg _)
            have hEi := Ei_upd hEi 4 v_14 (by decide)
            refine lv_aload_n hx hb dX6_condition_71 rfl (lv_at hl 3 rfl) ?_
            refine va_get (D := D) (ci := 6) (v := .ref (a 12)) (C := RX6) (T := TX6) (N := 5) hx hb hT iX6 hown hK hP 10 rfl rfl 0 (by decide) (hT _ t_661) (fun _ h9 => h9) rfl dX6_condition_72 ?_
            refine lv_iload_n hx hb dX6_condition_75 rfl (lv_at hl 5 rfl) ?_
            refine lv_iconst (v := 0) hx hb dX6_condition_76 (by decide) ?_
            have hF_15 := rF hD hS hA
            refine va_calli (va_runV (As := [.int 38, .int 0]) (rest := []) ⟨hx, hb, hml, hown, hT⟩ (c_X5_add l D cy a (upd i6 4 v_14) r11 q tl 38 0 _ hRi hRr) (cwV 2 hT (gV t_662 t_663 t_664 t_665 t_367) rfl rfl rfl (by decide +kernel) ⟨Nat.le_trans (m := 2) (Nat.le_of_ble_eq_true rfl) hF9.1, Nat.le_trans (m := 46) (Nat.le_of_ble_eq_true rfl) hF9.2⟩) (rQ_v hP hK hD (va_recv hK hP (ci := 5) (q0 := 12) rfl rfl)) rfl rfl hl.1 rfl (lv_room (Nat.le_of_ble_eq_true rfl)) dX6_condition_77 ⟨Nat.le_of_ble_eq_true rfl, Nat.le_of_ble_eq_true rfl⟩) hS (fun q _ h => hF_15 q h) hF_15 (fun r_16 u_17 t H1 locs ht hvm hr_16 hB hz1 hk1 hS => ?_)
            obtain ⟨i17, r17⟩ := u_17
            obtain ⟨hP, hK1, hD1⟩ := hB
            rw [ht] at hP
            have hD := hD1.weaken (fun k q _ h => hF_15 q.1 h)
            obtain ⟨hRi, hRr, hE1, hE2, hr_16⟩ := hr_16
            have hRi : yRi i17 := hRi
            have hE1 : mEi [7] (upd i6 4 v_14) i17 := hE1
            have hRr : yRr r17 := hRr
            have hE2 : mEr [17, 18] r11 r17 := hE2
            have hP : va_P D vwCl (xW cy a i17 r17 q (a 20) (a 12) ++ tl) H1 := hP
            have hD : va_D A (xW cy a i17 r17 q (a 20) (a 12) ++ tl) := hD
            have hEi : mEi [4, 5, 7] _ i17 := Ei_tr hEi hE1 (by decide)
            have hEr : mEr [17, 18] _ r17 := Er_tr hEr hE2 (by decide)
            refine lv_istore_n (lv' := [(3, .int r_16), (5, .int 1), (4, .int x1_4), (0, .ref (a 10)), (1, .int p0), (2, .int 38)]) hx hb dX6_condition_80 rfl hl (by decide) rfl (fun ls hl => ?_)
            obtain ⟨x_18, ex_18⟩ : ∃ y : Int32, y = x1_4 + 1 := ⟨_, rfl⟩
            refine lv_iinc (v := x_18) (lv' := [(4, .int x_18), (3, .int r_16), (5, .int 1), (0, .ref (a 10)), (1, .int p0), (2, .int 38)]) hx hb dX6_condition_81 hl (k := 2) rfl (by rw [ex_18]; rfl) (by decide) rfl (fun ls hl => ?_)
            have hx_18 : x_18.toInt = x1_4.toInt + 1 := by rw [ex_18]; have := b_rg x1_4; exact i_add (a := x1_4.toInt) (b := 1) rfl rfl (by omega) (by omega)
            refine lv_goto (tgt := 5) hx hb dX6_condition_84 (by decide) ?_
            exact ih1 x_18 r_16 i17 r17 _ _ _ (by first | omega | (simp only [Int.toNat]; omega)) (by first | omega | decide) hRi hEi hRr hEr  hP hD hS (lv_sub hl [0, 1, 3, 4, 5] rfl)
          · have c_13 : r_12.toInt ≠ 38 := b_ne c_13
            refine lv_iconst (v := 1) hx hb dX6_condition_59 (by decide) ?_
            subst hQ
            exact W.zret hx hb hr rfl (fun t ht hW => ⟨⟨_, (i6, r11), rfl, ⟨hRi, hRr, hEi, hEr, Or.inr rfl⟩, by rw [ht]; exact hP, va_K.moved hW.alike hK, hD⟩, hS.F ht⟩) hS.2.2 dX6_condition_60
  exact loop_1 _ 0 (-1) i r _ _ _ (Nat.lt_succ_self _) (by first | omega | decide) hRi hEi hRr hEr  hP hD hS hl
set_option maxHeartbeats 4000000 in
set_option maxRecDepth 100000 in
theorem c_X6_condition_kg124 (l : Launch) (D : va_G) (cy : Nat → ClassId) (a : Nat → Nat) (i : Nat → Int32) (r : Nat → Nat → Int32) (q : Nat → Option Nat) (tl : va_W) (kq vq : Nat) (p0 : Int32) (sz : Nat) (hRi : yRi i) (hRr : yRr r) (F9 L9 F1 L1 : Nat) (hF9 : 2 ≤ F9 ∧ 46 ≤ L9) (q0 : 1 ≤ p0.toInt ∧ p0.toInt ≤ 6) (hX1 : ∀ k9 : Int32, k9 = p0 → ∀ (i : Nat → Int32) (r : Nat → Nat → Int32) (sz : Nat) (hRi : yRi i) (hRr : yRr r), Met l yX6_condition (Cond.code yX6_condition cX6_condition 6 (some .boolean) :: gT) { frames := F1, cells := 0, slots := 0, locals := L1 } (va_Pc [.ref (a 10), .int k9, .int 38] (rS D cy (xW cy a i r q (a 20) (a 12) ++ tl) sz kq vq)) (va_Qi (fun (z : Int32) (u : (Nat → Int32) × (Nat → Nat → Int32)) => yRi u.1 ∧ yRr u.2 ∧ mEi [4, 5, 7] i u.1 ∧ mEr [17, 18] r u.2 ∧ (z = 0 ∨ z = 1)) (fun (u : (Nat → Int32) × (Nat → Nat → Int32)) t => va_P D vwCl (xW cy a u.1 u.2 q (a 20) (a 12) ++ tl) t.heap ∧ va_K D vwCl (vT cy) t ∧ va_D (va_A (xW cy a i r q (a 20) (a 12) ++ tl) sz) (xW cy a u.1 u.2 q (a 20) (a 12) ++ tl)) (va_A (xW cy a i r q (a 20) (a 12) ++ tl) sz)) 0 0 (va_A (xW cy a i r q (a 20) (a 12) ++ tl) sz)) (hR1 : F1 + 1 ≤ F9 ∧ 8 + (6 + 11) + L1 ≤ L9) : Met l yX6_condition (Cond.code yX6_condition cX6_condition 6 (some .boolean) :: gT) { frames := F9, cells := 0, slots := 0, locals := L9 } (va_Pc [.ref (a 10), .int p0, .int 124] (rS D cy (xW cy a i r q (a 20) (a 12) ++ tl) sz kq vq)) (va_Qi (fun (z : Int32) (u : (Nat → Int32) × (Nat → Nat → Int32)) => yRi u.1 ∧ yRr u.2 ∧ mEi [4, 5, 7] i u.1 ∧ mEr [17, 18] r u.2 ∧ (z = 0 ∨ z = 1)) (fun (u : (Nat → Int32) × (Nat → Nat → Int32)) t => va_P D vwCl (xW cy a u.1 u.2 q (a 20) (a 12) ++ tl) t.heap ∧ va_K D vwCl (vT cy) t ∧ va_D (va_A (xW cy a i r q (a 20) (a 12) ++ tl) sz) (xW cy a u.1 u.2 q (a 20) (a 12) ++ tl)) (va_A (xW cy a i r q (a 20) (a 12) ++ tl) sz)) 0 0 (va_A (xW cy a i r q (a 20) (a 12) ++ tl) sz) := by
  refine Met.ofQ (cc := cX6_condition) (maxL := 6) (ret := (some .boolean)) (by decide) rfl ?_
  intro p e s m args below meth c s₁ B hml hv Q hQ
  obtain ⟨rfl, hsk, hsz, hP, hK, hD0⟩ := hv
  have hx := B.exec
  have hb := B.bytes
  have hr := B.returns
  have hlocks := B.notSynchronized
  have hT : ∀ w ∈ gT, w.before _ s = true := fun w h => atoms_spec (ws := (Cond.code yX6_condition cX6_condition 6 (some .boolean) :: gT)) B.pre w (List.mem_cons_of_mem _ h)
  have hown : s.vm.findClass RX6 = some m.cls := findClass_of_methodNamed B.named
  subst hsz
  have hD := hD0.self (sz := s.heap.size)
  generalize hAe : va_A (xW cy a i r q (a 20) (a 12) ++ tl) s.heap.size = A at hD hQ hsk
  have hA : ∀ q : Nat, s.heap.size ≤ q → A q := fun q h => by rw [← hAe]; exact Or.inr h
  have hS : va_S A s.heap s.heap [] := va_S.rf
  have hl := lv_entry ([.ref (a 10), .int p0, .int 124]) (n := 6) (Nat.le_of_ble_eq_true rfl)
  rw [lg_entry_eq]
  generalize (lg_sl ([.ref (a 10), .int p0, .int 124]) ++ List.replicate (6 - (lg_sl ([.ref (a 10), .int p0, .int 124])).length) Slot.unset).toArray = ls at hl ⊢
  have hl : lv_has ls 6 [(0, .ref (a 10)), (1, .int p0), (2, .int 124)] := hl
  have hEi : mEi [4, 5, 7] i i := Ei_rf
  have hEr : mEr [17, 18] r r := Er_rf
  refine lv_iconst (v := (-1)) hx hb dX6_condition_0 (by decide) ?_
  refine lv_istore_n (lv' := [(3, .int (-1)), (0, .ref (a 10)), (1, .int p0), (2, .int 124)]) hx hb dX6_condition_1 rfl hl (by decide) rfl (fun ls hl => ?_)
  refine lv_iconst (v := 0) hx hb dX6_condition_2 (by decide) ?_
  refine lv_istore (lv' := [(4, .int 0), (3, .int (-1)), (0, .ref (a 10)), (1, .int p0), (2, .int 124)]) hx hb dX6_condition_3 hl (by decide) rfl (fun ls hl => ?_)
  have loop_1 : ∀ (n : Nat) (x1_4 : Int32) (x1_3 : Int32) (i1 : Nat → Int32) (r1 : Nat → Nat → Int32) (H : Heap) (locs : List Loc) (ls : Array Slot), (200 - x1_4.toInt).toNat < n → (0 ≤ x1_4.toInt ∧ x1_4.toInt ≤ 200) → yRi i1 → mEi [4, 5, 7] i i1 → yRr r1 → mEr [17, 18] r r1 → va_P D vwCl (xW cy a i1 r1 q (a 20) (a 12) ++ tl) H → va_D A (xW cy a i1 r1 q (a 20) (a 12) ++ tl) → va_S A s.heap H locs → lv_has ls 6 [(4, .int x1_4), (3, .int x1_3), (0, .ref (a 10)), (1, .int p0), (2, .int 124)] → W p l e ({ frames := F9, cells := 0, slots := 0, locals := L9 } : Room) s m ([.ref (a 10), .int p0, .int 124] : List Value).toArray below meth c H locs 0 0 Q (F0 m 5 ls []) := by
    intro n
    induction n with
    | zero =>
      intro x1_4 x1_3 i1 r1 H locs ls hm1 hf1_0 hRi hEi hRr hEr hP hD hS hl
      exact absurd hm1 (by omega)
    | succ n ih1 =>
      intro x1_4 x1_3 i1 r1 H locs ls hm1 hf1_0 hRi hEi hRr hEr hP hD hS hl
      refine lv_iload hx hb dX6_condition_5 (lv_at hl 0 rfl) ?_
      refine lv_sipush (v := 200) hx hb dX6_condition_7 (by decide) ?_
      refine lv_icmp_ge (tgt := 87) hx hb dX6_condition_10 (by decide) (fun c_2 => ?_) (fun c_2 => ?_)
      · have c_2 : 200 ≤ x1_4.toInt := b_le c_2
        refine lv_iconst (v := 1) hx hb dX6_condition_87 (by decide) ?_
        subst hQ
        exact W.zret hx hb hr rfl (fun t ht hW => ⟨⟨_, (i1, r1), rfl, ⟨hRi, hRr, hEi, hEr, Or.inr rfl⟩, by rw [ht]; exact hP, va_K.moved hW.alike hK, hD⟩, hS.F ht⟩) hS.2.2 dX6_condition_88
      · have c_2 : x1_4.toInt < 200 := b_nle c_2
        refine lv_iload_n hx hb dX6_condition_13 rfl (lv_at hl 4 rfl) ?_
        refine lv_bipush (v := 124) hx hb dX6_condition_14 (by decide) ?_
        refine lv_icmp_ne (tgt := 29) hx hb dX6_condition_16 (by decide) (fun c_3 => absurd (by decide) c_3) (fun c_3 => ?_)
        refine lv_aload_n hx hb dX6_condition_19 rfl (lv_at hl 2 rfl) ?_
        refine lv_iload_n hx hb dX6_condition_20 rfl (lv_at hl 3 rfl) ?_
        refine lv_bipush (v := 38) hx hb dX6_condition_21 (by decide) ?_
        have hF_4 := rF hD hS hA
        refine va_calli (va_runV (As := [.int p0, .int 38]) (rest := []) ⟨hx, hb, hml, hown, hT⟩ (hX1 p0 rfl i1 r1 _ hRi hRr) (cwV 2 hT (gV t_690 t_691 t_692 t_693 t_653) rfl rfl rfl (by decide +kernel) hR1) (rS_v hsk hS hF_4 hP hK hD (va_recv hK hP (ci := 6) (q0 := 10) rfl rfl)) rfl rfl hl.1 rfl (lv_room (Nat.le_of_ble_eq_true rfl)) dX6_condition_23 ⟨Nat.le_of_ble_eq_true rfl, Nat.le_of_ble_eq_true rfl⟩) hS (fun q _ h => hF_4 q h) hF_4 (fun r_5 u_6 t H1 locs ht hvm hr_5 hB hz1 hk1 hS => ?_)
        obtain ⟨i6, r6⟩ := u_6
        obtain ⟨hP, hK1, hD1⟩ := hB
        rw [ht] at hP
        have hD := hD1.weaken (fun k q _ h => hF_4 q.1 h)
        obtain ⟨hRi, hRr, hE1, hE2, hr_5⟩ := hr_5
        have hRi : yRi i6 := hRi
        have hE1 : mEi [4, 5, 7] i1 i6 := hE1
        have hRr : yRr r6 := hRr
        have hE2 : mEr [17, 18] r1 r6 := hE2
        have hP : va_P D vwCl (xW cy a i6 r6 q (a 20) (a 12) ++ tl) H1 := hP
        have hD : va_D A (xW cy a i6 r6 q (a 20) (a 12) ++ tl) := hD
        have hEi : mEi [4, 5, 7] _ i6 := Ei_tr hEi hE1 (by decide)
        have hEr : mEr [17, 18] _ r6 := Er_tr hEr hE2 (by decide)
        rcases hr_5 with rfl | rfl
        · skip
          refine lv_goto (tgt := 34) hx hb dX6_condition_26 (by decide) ?_
          refine lv_istore (lv' := [(5, .int 0), (4, .int x1_4), (3, .int x1_3), (0, .ref (a 10)), (1, .int p0), (2, .int 124)]) hx hb dX6_condition_34 hl (by decide) rfl (fun ls hl => ?_)
          refine lv_iload hx hb dX6_condition_36 (lv_at hl 0 rfl) ?_
          refine lv_if_ne (tgt := 43) hx hb dX6_condition_38 (by decide) (fun c_7 => absurd (by decide) c_7) (fun c_7 => ?_)
          refine lv_iconst (v := 0) hx hb dX6_condition_41 (by decide) ?_
          subst hQ
          exact W.zret hx hb hr rfl (fun t ht hW => ⟨⟨_, (i6, r6), rfl, ⟨hRi, hRr, hEi, hEr, Or.inl rfl⟩, by rw [ht]; exact hP, va_K.moved hW.alike hK, hD⟩, hS.F ht⟩) hS.2.2 dX6_condition_42
        · skip
          refine lv_goto (tgt := 34) hx hb dX6_condition_26 (by decide) ?_
          refine lv_istore (lv' := [(5, .int 1), (4, .int x1_4), (3, .int x1_3), (0, .ref (a 10)), (1, .int p0), (2, .int 124)]) hx hb dX6_condition_34 hl (by decide) rfl (fun ls hl => ?_)
          refine lv_iload hx hb dX6_condition_36 (lv_at hl 0 rfl) ?_
          refine lv_if_ne (tgt := 43) hx hb dX6_condition_38 (by decide) (fun c_8 => ?_) (fun c_8 => absurd c_8 (by decide))
          refine lv_aload_n hx hb dX6_condition_43 rfl (lv_at hl 3 rfl) ?_
          refine va_get (D := D) (ci := 6) (v := .ref (a 12)) (C := RX6) (T := TX6) (N := 5) hx hb hT iX6 hown hK hP 10 rfl rfl 0 (by decide) (hT _ t_661) (fun _ h9 => h9) rfl dX6_condition_44 ?_
          refine lv_iload_n hx hb dX6_condition_47 rfl (lv_at hl 2 rfl) ?_
          have hF_9 := rF hD hS hA
          refine va_callv (va_runV (As := [.int x1_3]) (rest := []) ⟨hx, hb, hml, hown, hT⟩ (c_X5_aim l D cy a i6 r6 q tl x1_3 _ hRi hRr) (cwV 1 hT (gV t_694 t_695 t_696 t_697 t_367) rfl rfl rfl (by decide +kernel) ⟨Nat.le_trans (m := 2) (Nat.le_of_ble_eq_true rfl) hF9.1, Nat.le_trans (m := 46) (Nat.le_of_ble_eq_true rfl) hF9.2⟩) (rQ_v hP hK hD (va_recv hK hP (ci := 5) (q0 := 12) rfl rfl)) rfl rfl hl.1 rfl (lv_room (Nat.le_of_ble_eq_true rfl)) dX6_condition_48 ⟨Nat.le_of_ble_eq_true rfl, Nat.le_of_ble_eq_true rfl⟩) hS (fun q _ h => hF_9 q h) hF_9 (fun u_11 t H1 locs ht hvm hr_10 hB hz1 hk1 hS => ?_)
          obtain ⟨r11, rfl⟩ : ∃ z, z = u_11 := ⟨_, rfl⟩
          obtain ⟨hP, hK1, hD1⟩ := hB
          rw [ht] at hP
          have hD := hD1.weaken (fun k q _ h => hF_9 q.1 h)
          obtain ⟨hRr, hE2, hr_10⟩ := hr_10
          have hRr : yRr r11 := hRr
          have hE2 : mEr [18] r6 r11 := hE2
          have hP : va_P D vwCl (xW cy a i6 r11 q (a 20) (a 12) ++ tl) H1 := hP
          have hD : va_D A (xW cy a i6 r11 q (a 20) (a 12) ++ tl) := hD
          have hEr : mEr [17, 18] _ r11 := Er_tr hEr hE2 (by decide)
          refine lv_aload_n hx hb dX6_condition_51 rfl (lv_at hl 3 rfl) ?_
          refine vp_callSi (W.runV (As := []) (rest := []) ⟨hx, hb, hml, hown, hT⟩ (c_X6_peek l D cy a i6 r11 q tl hRi hRr) (cwV 0 hT (gV t_652 t_654 t_655 t_656 t_653) rfl rfl rfl (by decide +kernel) ⟨Nat.le_trans (m := 2) (Nat.le_of_ble_eq_true rfl) hF9.1, Nat.le_trans (m := 46) (Nat.le_of_ble_eq_true rfl) hF9.2⟩) (rP_v hP hK (va_recv hK hP (ci := 6) (q0 := 10) rfl rfl)) rfl rfl hl.1 rfl (lv_room (Nat.le_of_ble_eq_true rfl)) dX6_condition_52 ⟨Nat.le_of_ble_eq_true rfl, Nat.le_of_ble_eq_true rfl⟩) (fun r_12 hr_12 => ?_)
          have hr_12 : -1 ≤ r_12.toInt ∧ r_12.toInt ≤ 255 := hr_12
          refine lv_iload_n hx hb dX6_condition_55 rfl (lv_at hl 5 rfl) ?_
          refine lv_icmp_eq (tgt := 61) hx hb dX6_condition_56 (by decide) (fun c_13 => ?_) (fun c_13 => ?_)
          · have c_13 : r_12.toInt = 124 := b_eq c_13
            refine lv_aload_n hx hb dX6_condition_61 rfl (lv_at hl 3 rfl) ?_
            refine lv_dup hx hb dX6_condition_62 rfl ?_
            refine va_get (D := D) (ci := 6) (v := .int (i6 4)) (C := RX6) (T := TX6) (N := 5) hx hb hT iX6 hown hK hP 10 rfl rfl 3 (by decide) (hT _ t_648) (fun _ h9 => h9) rfl dX6_condition_63 ?_
            refine lv_iconst (v := 1) hx hb dX6_condition_66 (by decide) ?_
            refine lv_iadd hx hb dX6_condition_67 ?_
            refine lv_topi (fun v_14 ev_14 => ?_)
            refine va_put (D := D) (ci := 6) (v := .int v_14) (ty := .int) (C := RX6) (T := TX6) (N := 5) hx hb hT iX6 tyX6 tyX6_ok nmX6 hown hK hP hD hS 10 rfl rfl 3 (by decide) (hT _ t_648) (fun _ h9 => h9) rfl (by decide +kernel) rfl rfl (Nat.le_of_ble_eq_true rfl) dX6_condition_68 (fun H locs hP hD hS => ?_)
            rw [zP4] at hP hD
            have hRi := Yi_upd hRi 4 v_14 (b_rg _)
            have hEi := Ei_upd hEi 4 v_14 (by decide)
            refine lv_aload_n hx hb dX6_condition_71 rfl (lv_at hl 3 rfl) ?_
            refine va_get (D := D) (ci := 6) (v := .ref (a 12)) (C := RX6) (T := TX6) (N := 5) hx hb hT iX6 hown hK hP 10 rfl rfl 0 (by decide) (hT _ t_661) (fun _ h9 => h9) rfl dX6_condition_72 ?_
            refine lv_iload_n hx hb dX6_condition_75 rfl (lv_at hl 5 rfl) ?_
            refine lv_iconst (v := 0) hx hb dX6_condition_76 (by decide) ?_
            have hF_15 := rF hD hS hA
            refine va_calli (va_runV (As := [.int 124, .int 0]) (rest := []) ⟨hx, hb, hml, hown, hT⟩ (c_X5_add l D cy a (upd i6 4 v_14) r11 q tl 124 0 _ hRi hRr) (cwV 2 hT (gV t_662 t_663 t_664 t_665 t_367) rfl rfl rfl (by decide +kernel) ⟨Nat.le_trans (m := 2) (Nat.le_of_ble_eq_true rfl) hF9.1, Nat.le_trans (m := 46) (Nat.le_of_ble_eq_true rfl) hF9.2⟩) (rQ_v hP hK hD (va_recv hK hP (ci := 5) (q0 := 12) rfl rfl)) rfl rfl hl.1 rfl (lv_room (Nat.le_of_ble_eq_true rfl)) dX6_condition_77 ⟨Nat.le_of_ble_eq_true rfl, Nat.le_of_ble_eq_true rfl⟩) hS (fun q _ h => hF_15 q h) hF_15 (fun r_16 u_17 t H1 locs ht hvm hr_16 hB hz1 hk1 hS => ?_)
            obtain ⟨i17, r17⟩ := u_17
            obtain ⟨hP, hK1, hD1⟩ := hB
            rw [ht] at hP
            have hD := hD1.weaken (fun k q _ h => hF_15 q.1 h)
            obtain ⟨hRi, hRr, hE1, hE2, hr_16⟩ := hr_16
            have hRi : yRi i17 := hRi
            have hE1 : mEi [7] (upd i6 4 v_14) i17 := hE1
            have hRr : yRr r17 := hRr
            have hE2 : mEr [17, 18] r11 r17 := hE2
            have hP : va_P D vwCl (xW cy a i17 r17 q (a 20) (a 12) ++ tl) H1 := hP
            have hD : va_D A (xW cy a i17 r17 q (a 20) (a 12) ++ tl) := hD
            have hEi : mEi [4, 5, 7] _ i17 := Ei_tr hEi hE1 (by decide)
            have hEr : mEr [17, 18] _ r17 := Er_tr hEr hE2 (by decide)
            refine lv_istore_n (lv' := [(3, .int r_16), (5, .int 1), (4, .int x1_4), (0, .ref (a 10)), (1, .int p0), (2, .int 124)]) hx hb dX6_condition_80 rfl hl (by decide) rfl (fun ls hl => ?_)
            obtain ⟨x_18, ex_18⟩ : ∃ y : Int32, y = x1_4 + 1 := ⟨_, rfl⟩
            refine lv_iinc (v := x_18) (lv' := [(4, .int x_18), (3, .int r_16), (5, .int 1), (0, .ref (a 10)), (1, .int p0), (2, .int 124)]) hx hb dX6_condition_81 hl (k := 2) rfl (by rw [ex_18]; rfl) (by decide) rfl (fun ls hl => ?_)
            have hx_18 : x_18.toInt = x1_4.toInt + 1 := by rw [ex_18]; have := b_rg x1_4; exact i_add (a := x1_4.toInt) (b := 1) rfl rfl (by omega) (by omega)
            refine lv_goto (tgt := 5) hx hb dX6_condition_84 (by decide) ?_
            exact ih1 x_18 r_16 i17 r17 _ _ _ (by first | omega | (simp only [Int.toNat]; omega)) (by first | omega | decide) hRi hEi hRr hEr  hP hD hS (lv_sub hl [0, 1, 3, 4, 5] rfl)
          · have c_13 : r_12.toInt ≠ 124 := b_ne c_13
            refine lv_iconst (v := 1) hx hb dX6_condition_59 (by decide) ?_
            subst hQ
            exact W.zret hx hb hr rfl (fun t ht hW => ⟨⟨_, (i6, r11), rfl, ⟨hRi, hRr, hEi, hEr, Or.inr rfl⟩, by rw [ht]; exact hP, va_K.moved hW.alike hK, hD⟩, hS.F ht⟩) hS.2.2 dX6_condition_60
  exact loop_1 _ 0 (-1) i r _ _ _ (Nat.lt_succ_self _) (by first | omega | decide) hRi hEi hRr hEr  hP hD hS hl
theorem c_X6_piece_k6 (l : Launch) (D : va_G) (cy : Nat → ClassId) (a : Nat → Nat) (i : Nat → Int32) (r : Nat → Nat → Int32) (q : Nat → Option Nat) (tl : va_W) (kq vq : Nat) (sz : Nat) (hRi : yRi i) (hRr : yRr r) : Met l yX6_piece (Cond.code yX6_piece cX6_piece 4 (some .boolean) :: gT) { frames := 8, cells := 0, slots := 0, locals := 190 } (va_Pc [.ref (a 10), .int 6] (rS D cy (xW cy a i r q (a 20) (a 12) ++ tl) sz kq vq)) (va_Qi (fun (z : Int32) (u : (Nat → Int32) × (Nat → Nat → Int32)) => yRi u.1 ∧ yRr u.2 ∧ mEi [4, 5, 7] i u.1 ∧ mEr [17, 18] r u.2 ∧ (z = 0 ∨ z = 1)) (fun (u : (Nat → Int32) × (Nat → Nat → Int32)) t => va_P D vwCl (xW cy a u.1 u.2 q (a 20) (a 12) ++ tl) t.heap ∧ va_K D vwCl (vT cy) t ∧ va_D (va_A (xW cy a i r q (a 20) (a 12) ++ tl) sz) (xW cy a u.1 u.2 q (a 20) (a 12) ++ tl)) (va_A (xW cy a i r q (a 20) (a 12) ++ tl) sz)) 0 0 (va_A (xW cy a i r q (a 20) (a 12) ++ tl) sz) := c_X6_piece_kg l D cy a i r q tl kq vq 6 sz hRi hRr 8 190 0 0 0 0 7 164 ⟨Nat.le_of_ble_eq_true rfl, Nat.le_of_ble_eq_true rfl⟩ ⟨by decide, by decide⟩ (fun k9 e9 h9 => absurd h9 (by rw [e9]; decide)) ⟨Nat.le_of_ble_eq_true rfl, Nat.le_of_ble_eq_true rfl⟩ (fun k9 e9 h9 => absurd h9 (by rw [e9]; decide)) ⟨Nat.le_of_ble_eq_true rfl, Nat.le_of_ble_eq_true rfl⟩ (fun k9 e9 i r sz hRi hRr => by subst e9; exact c_X6_expression_k6_1 l D cy a i r q tl kq vq sz hRi hRr) ⟨Nat.le_of_ble_eq_true rfl, Nat.le_of_ble_eq_true rfl⟩
theorem c_X6_condition_k6_38 (l : Launch) (D : va_G) (cy : Nat → ClassId) (a : Nat → Nat) (i : Nat → Int32) (r : Nat → Nat → Int32) (q : Nat → Option Nat) (tl : va_W) (kq vq : Nat) (sz : Nat) (hRi : yRi i) (hRr : yRr r) : Met l yX6_condition (Cond.code yX6_condition cX6_condition 6 (some .boolean) :: gT) { frames := 9, cells := 0, slots := 0, locals := 213 } (va_Pc [.ref (a 10), .int 6, .int 38] (rS D cy (xW cy a i r q (a 20) (a 12) ++ tl) sz kq vq)) (va_Qi (fun (z : Int32) (u : (Nat → Int32) × (Nat → Nat → Int32)) => yRi u.1 ∧ yRr u.2 ∧ mEi [4, 5, 7] i u.1 ∧ mEr [17, 18] r u.2 ∧ (z = 0 ∨ z = 1)) (fun (u : (Nat → Int32) × (Nat → Nat → Int32)) t => va_P D vwCl (xW cy a u.1 u.2 q (a 20) (a 12) ++ tl) t.heap ∧ va_K D vwCl (vT cy) t ∧ va_D (va_A (xW cy a i r q (a 20) (a 12) ++ tl) sz) (xW cy a u.1 u.2 q (a 20) (a 12) ++ tl)) (va_A (xW cy a i r q (a 20) (a 12) ++ tl) sz)) 0 0 (va_A (xW cy a i r q (a 20) (a 12) ++ tl) sz) := c_X6_condition_kg38 l D cy a i r q tl kq vq 6 sz hRi hRr 9 213 8 190 ⟨Nat.le_of_ble_eq_true rfl, Nat.le_of_ble_eq_true rfl⟩ ⟨by decide, by decide⟩ (fun k9 e9 i r sz hRi hRr => by subst e9; exact c_X6_piece_k6 l D cy a i r q tl kq vq sz hRi hRr) ⟨Nat.le_of_ble_eq_true rfl, Nat.le_of_ble_eq_true rfl⟩
theorem c_X6_condition_k6_124 (l : Launch) (D : va_G) (cy : Nat → ClassId) (a : Nat → Nat) (i : Nat → Int32) (r : Nat → Nat → Int32) (q : Nat → Option Nat) (tl : va_W) (kq vq : Nat) (sz : Nat) (hRi : yRi i) (hRr : yRr r) : Met l yX6_condition (Cond.code yX6_condition cX6_condition 6 (some .boolean) :: gT) { frames := 10, cells := 0, slots := 0, locals := 238 } (va_Pc [.ref (a 10), .int 6, .int 124] (rS D cy (xW cy a i r q (a 20) (a 12) ++ tl) sz kq vq)) (va_Qi (fun (z : Int32) (u : (Nat → Int32) × (Nat → Nat → Int32)) => yRi u.1 ∧ yRr u.2 ∧ mEi [4, 5, 7] i u.1 ∧ mEr [17, 18] r u.2 ∧ (z = 0 ∨ z = 1)) (fun (u : (Nat → Int32) × (Nat → Nat → Int32)) t => va_P D vwCl (xW cy a u.1 u.2 q (a 20) (a 12) ++ tl) t.heap ∧ va_K D vwCl (vT cy) t ∧ va_D (va_A (xW cy a i r q (a 20) (a 12) ++ tl) sz) (xW cy a u.1 u.2 q (a 20) (a 12) ++ tl)) (va_A (xW cy a i r q (a 20) (a 12) ++ tl) sz)) 0 0 (va_A (xW cy a i r q (a 20) (a 12) ++ tl) sz) := c_X6_condition_kg124 l D cy a i r q tl kq vq 6 sz hRi hRr 10 238 9 213 ⟨Nat.le_of_ble_eq_true rfl, Nat.le_of_ble_eq_true rfl⟩ ⟨by decide, by decide⟩ (fun k9 e9 i r sz hRi hRr => by subst e9; exact c_X6_condition_k6_38 l D cy a i r q tl kq vq sz hRi hRr) ⟨Nat.le_of_ble_eq_true rfl, Nat.le_of_ble_eq_true rfl⟩
theorem c_X6_piece_k5 (l : Launch) (D : va_G) (cy : Nat → ClassId) (a : Nat → Nat) (i : Nat → Int32) (r : Nat → Nat → Int32) (q : Nat → Option Nat) (tl : va_W) (kq vq : Nat) (sz : Nat) (hRi : yRi i) (hRr : yRr r) : Met l yX6_piece (Cond.code yX6_piece cX6_piece 4 (some .boolean) :: gT) { frames := 11, cells := 0, slots := 0, locals := 265 } (va_Pc [.ref (a 10), .int 5] (rS D cy (xW cy a i r q (a 20) (a 12) ++ tl) sz kq vq)) (va_Qi (fun (z : Int32) (u : (Nat → Int32) × (Nat → Nat → Int32)) => yRi u.1 ∧ yRr u.2 ∧ mEi [4, 5, 7] i u.1 ∧ mEr [17, 18] r u.2 ∧ (z = 0 ∨ z = 1)) (fun (u : (Nat → Int32) × (Nat → Nat → Int32)) t => va_P D vwCl (xW cy a u.1 u.2 q (a 20) (a 12) ++ tl) t.heap ∧ va_K D vwCl (vT cy) t ∧ va_D (va_A (xW cy a i r q (a 20) (a 12) ++ tl) sz) (xW cy a u.1 u.2 q (a 20) (a 12) ++ tl)) (va_A (xW cy a i r q (a 20) (a 12) ++ tl) sz)) 0 0 (va_A (xW cy a i r q (a 20) (a 12) ++ tl) sz) := c_X6_piece_kg l D cy a i r q tl kq vq 5 sz hRi hRr 11 265 10 238 8 190 10 239 ⟨Nat.le_of_ble_eq_true rfl, Nat.le_of_ble_eq_true rfl⟩ ⟨by decide, by decide⟩ (fun k9 e9 _ i r sz hRi hRr => by obtain rfl : k9 = 6 := Int32.toInt_inj.mp (e9.trans (by decide)); exact c_X6_condition_k6_124 l D cy a i r q tl kq vq sz hRi hRr) ⟨Nat.le_of_ble_eq_true rfl, Nat.le_of_ble_eq_true rfl⟩ (fun k9 e9 _ i r sz hRi hRr => by obtain rfl : k9 = 6 := Int32.toInt_inj.mp (e9.trans (by decide)); exact c_X6_piece_k6 l D cy a i r q tl kq vq sz hRi hRr) ⟨Nat.le_of_ble_eq_true rfl, Nat.le_of_ble_eq_true rfl⟩ (fun k9 e9 i r sz hRi hRr => by subst e9; exact c_X6_expression_k5_1 l D cy a i r q tl kq vq sz hRi hRr) ⟨Nat.le_of_ble_eq_true rfl, Nat.le_of_ble_eq_true rfl⟩
theorem c_X6_condition_k5_38 (l : Launch) (D : va_G) (cy : Nat → ClassId) (a : Nat → Nat) (i : Nat → Int32) (r : Nat → Nat → Int32) (q : Nat → Option Nat) (tl : va_W) (kq vq : Nat) (sz : Nat) (hRi : yRi i) (hRr : yRr r) : Met l yX6_condition (Cond.code yX6_condition cX6_condition 6 (some .boolean) :: gT) { frames := 12, cells := 0, slots := 0, locals := 288 } (va_Pc [.ref (a 10), .int 5, .int 38] (rS D cy (xW cy a i r q (a 20) (a 12) ++ tl) sz kq vq)) (va_Qi (fun (z : Int32) (u : (Nat → Int32) × (Nat → Nat → Int32)) => yRi u.1 ∧ yRr u.2 ∧ mEi [4, 5, 7] i u.1 ∧ mEr [17, 18] r u.2 ∧ (z = 0 ∨ z = 1)) (fun (u : (Nat → Int32) × (Nat → Nat → Int32)) t => va_P D vwCl (xW cy a u.1 u.2 q (a 20) (a 12) ++ tl) t.heap ∧ va_K D vwCl (vT cy) t ∧ va_D (va_A (xW cy a i r q (a 20) (a 12) ++ tl) sz) (xW cy a u.1 u.2 q (a 20) (a 12) ++ tl)) (va_A (xW cy a i r q (a 20) (a 12) ++ tl) sz)) 0 0 (va_A (xW cy a i r q (a 20) (a 12) ++ tl) sz) := c_X6_condition_kg38 l D cy a i r q tl kq vq 5 sz hRi hRr 12 288 11 265 ⟨Nat.le_of_ble_eq_true rfl, Nat.le_of_ble_eq_true rfl⟩ ⟨by decide, by decide⟩ (fun k9 e9 i r sz hRi hRr => by subst e9; exact c_X6_piece_k5 l D cy a i r q tl kq vq sz hRi hRr) ⟨Nat.le_of_ble_eq_true rfl, Nat.le_of_ble_eq_true rfl⟩
theorem c_X6_condition_k5_124 (l : Launch) (D : va_G) (cy : Nat → ClassId) (a : Nat → Nat) (i : Nat → Int32) (r : Nat → Nat → Int32) (q : Nat → Option Nat) (tl : va_W) (kq vq : Nat) (sz : Nat) (hRi : yRi i) (hRr : yRr r) : Met l yX6_condition (Cond.code yX6_condition cX6_condition 6 (some .boolean) :: gT) { frames := 13, cells := 0, slots := 0, locals := 313 } (va_Pc [.ref (a 10), .int 5, .int 124] (rS D cy (xW cy a i r q (a 20) (a 12) ++ tl) sz kq vq)) (va_Qi (fun (z : Int32) (u : (Nat → Int32) × (Nat → Nat → Int32)) => yRi u.1 ∧ yRr u.2 ∧ mEi [4, 5, 7] i u.1 ∧ mEr [17, 18] r u.2 ∧ (z = 0 ∨ z = 1)) (fun (u : (Nat → Int32) × (Nat → Nat → Int32)) t => va_P D vwCl (xW cy a u.1 u.2 q (a 20) (a 12) ++ tl) t.heap ∧ va_K D vwCl (vT cy) t ∧ va_D (va_A (xW cy a i r q (a 20) (a 12) ++ tl) sz) (xW cy a u.1 u.2 q (a 20) (a 12) ++ tl)) (va_A (xW cy a i r q (a 20) (a 12) ++ tl) sz)) 0 0 (va_A (xW cy a i r q (a 20) (a 12) ++ tl) sz) := c_X6_condition_kg124 l D cy a i r q tl kq vq 5 sz hRi hRr 13 313 12 288 ⟨Nat.le_of_ble_eq_true rfl, Nat.le_of_ble_eq_true rfl⟩ ⟨by decide, by decide⟩ (fun k9 e9 i r sz hRi hRr => by subst e9; exact c_X6_condition_k5_38 l D cy a i r q tl kq vq sz hRi hRr) ⟨Nat.le_of_ble_eq_true rfl, Nat.le_of_ble_eq_true rfl⟩
theorem c_X6_piece_k4 (l : Launch) (D : va_G) (cy : Nat → ClassId) (a : Nat → Nat) (i : Nat → Int32) (r : Nat → Nat → Int32) (q : Nat → Option Nat) (tl : va_W) (kq vq : Nat) (sz : Nat) (hRi : yRi i) (hRr : yRr r) : Met l yX6_piece (Cond.code yX6_piece cX6_piece 4 (some .boolean) :: gT) { frames := 14, cells := 0, slots := 0, locals := 340 } (va_Pc [.ref (a 10), .int 4] (rS D cy (xW cy a i r q (a 20) (a 12) ++ tl) sz kq vq)) (va_Qi (fun (z : Int32) (u : (Nat → Int32) × (Nat → Nat → Int32)) => yRi u.1 ∧ yRr u.2 ∧ mEi [4, 5, 7] i u.1 ∧ mEr [17, 18] r u.2 ∧ (z = 0 ∨ z = 1)) (fun (u : (Nat → Int32) × (Nat → Nat → Int32)) t => va_P D vwCl (xW cy a u.1 u.2 q (a 20) (a 12) ++ tl) t.heap ∧ va_K D vwCl (vT cy) t ∧ va_D (va_A (xW cy a i r q (a 20) (a 12) ++ tl) sz) (xW cy a u.1 u.2 q (a 20) (a 12) ++ tl)) (va_A (xW cy a i r q (a 20) (a 12) ++ tl) sz)) 0 0 (va_A (xW cy a i r q (a 20) (a 12) ++ tl) sz) := c_X6_piece_kg l D cy a i r q tl kq vq 4 sz hRi hRr 14 340 13 313 11 265 13 314 ⟨Nat.le_of_ble_eq_true rfl, Nat.le_of_ble_eq_true rfl⟩ ⟨by decide, by decide⟩ (fun k9 e9 _ i r sz hRi hRr => by obtain rfl : k9 = 5 := Int32.toInt_inj.mp (e9.trans (by decide)); exact c_X6_condition_k5_124 l D cy a i r q tl kq vq sz hRi hRr) ⟨Nat.le_of_ble_eq_true rfl, Nat.le_of_ble_eq_true rfl⟩ (fun k9 e9 _ i r sz hRi hRr => by obtain rfl : k9 = 5 := Int32.toInt_inj.mp (e9.trans (by decide)); exact c_X6_piece_k5 l D cy a i r q tl kq vq sz hRi hRr) ⟨Nat.le_of_ble_eq_true rfl, Nat.le_of_ble_eq_true rfl⟩ (fun k9 e9 i r sz hRi hRr => by subst e9; exact c_X6_expression_k4_1 l D cy a i r q tl kq vq sz hRi hRr) ⟨Nat.le_of_ble_eq_true rfl, Nat.le_of_ble_eq_true rfl⟩
theorem c_X6_condition_k4_38 (l : Launch) (D : va_G) (cy : Nat → ClassId) (a : Nat → Nat) (i : Nat → Int32) (r : Nat → Nat → Int32) (q : Nat → Option Nat) (tl : va_W) (kq vq : Nat) (sz : Nat) (hRi : yRi i) (hRr : yRr r) : Met l yX6_condition (Cond.code yX6_condition cX6_condition 6 (some .boolean) :: gT) { frames := 15, cells := 0, slots := 0, locals := 363 } (va_Pc [.ref (a 10), .int 4, .int 38] (rS D cy (xW cy a i r q (a 20) (a 12) ++ tl) sz kq vq)) (va_Qi (fun (z : Int32) (u : (Nat → Int32) × (Nat → Nat → Int32)) => yRi u.1 ∧ yRr u.2 ∧ mEi [4, 5, 7] i u.1 ∧ mEr [17, 18] r u.2 ∧ (z = 0 ∨ z = 1)) (fun (u : (Nat → Int32) × (Nat → Nat → Int32)) t => va_P D vwCl (xW cy a u.1 u.2 q (a 20) (a 12) ++ tl) t.heap ∧ va_K D vwCl (vT cy) t ∧ va_D (va_A (xW cy a i r q (a 20) (a 12) ++ tl) sz) (xW cy a u.1 u.2 q (a 20) (a 12) ++ tl)) (va_A (xW cy a i r q (a 20) (a 12) ++ tl) sz)) 0 0 (va_A (xW cy a i r q (a 20) (a 12) ++ tl) sz) := c_X6_condition_kg38 l D cy a i r q tl kq vq 4 sz hRi hRr 15 363 14 340 ⟨Nat.le_of_ble_eq_true rfl, Nat.le_of_ble_eq_true rfl⟩ ⟨by decide, by decide⟩ (fun k9 e9 i r sz hRi hRr => by subst e9; exact c_X6_piece_k4 l D cy a i r q tl kq vq sz hRi hRr) ⟨Nat.le_of_ble_eq_true rfl, Nat.le_of_ble_eq_true rfl⟩
theorem c_X6_condition_k4_124 (l : Launch) (D : va_G) (cy : Nat → ClassId) (a : Nat → Nat) (i : Nat → Int32) (r : Nat → Nat → Int32) (q : Nat → Option Nat) (tl : va_W) (kq vq : Nat) (sz : Nat) (hRi : yRi i) (hRr : yRr r) : Met l yX6_condition (Cond.code yX6_condition cX6_condition 6 (some .boolean) :: gT) { frames := 16, cells := 0, slots := 0, locals := 388 } (va_Pc [.ref (a 10), .int 4, .int 124] (rS D cy (xW cy a i r q (a 20) (a 12) ++ tl) sz kq vq)) (va_Qi (fun (z : Int32) (u : (Nat → Int32) × (Nat → Nat → Int32)) => yRi u.1 ∧ yRr u.2 ∧ mEi [4, 5, 7] i u.1 ∧ mEr [17, 18] r u.2 ∧ (z = 0 ∨ z = 1)) (fun (u : (Nat → Int32) × (Nat → Nat → Int32)) t => va_P D vwCl (xW cy a u.1 u.2 q (a 20) (a 12) ++ tl) t.heap ∧ va_K D vwCl (vT cy) t ∧ va_D (va_A (xW cy a i r q (a 20) (a 12) ++ tl) sz) (xW cy a u.1 u.2 q (a 20) (a 12) ++ tl)) (va_A (xW cy a i r q (a 20) (a 12) ++ tl) sz)) 0 0 (va_A (xW cy a i r q (a 20) (a 12) ++ tl) sz) := c_X6_condition_kg124 l D cy a i r q tl kq vq 4 sz hRi hRr 16 388 15 363 ⟨Nat.le_of_ble_eq_true rfl, Nat.le_of_ble_eq_true rfl⟩ ⟨by decide, by decide⟩ (fun k9 e9 i r sz hRi hRr => by subst e9; exact c_X6_condition_k4_38 l D cy a i r q tl kq vq sz hRi hRr) ⟨Nat.le_of_ble_eq_true rfl, Nat.le_of_ble_eq_true rfl⟩
theorem c_X6_piece_k3 (l : Launch) (D : va_G) (cy : Nat → ClassId) (a : Nat → Nat) (i : Nat → Int32) (r : Nat → Nat → Int32) (q : Nat → Option Nat) (tl : va_W) (kq vq : Nat) (sz : Nat) (hRi : yRi i) (hRr : yRr r) : Met l yX6_piece (Cond.code yX6_piece cX6_piece 4 (some .boolean) :: gT) { frames := 17, cells := 0, slots := 0, locals := 415 } (va_Pc [.ref (a 10), .int 3] (rS D cy (xW cy a i r q (a 20) (a 12) ++ tl) sz kq vq)) (va_Qi (fun (z : Int32) (u : (Nat → Int32) × (Nat → Nat → Int32)) => yRi u.1 ∧ yRr u.2 ∧ mEi [4, 5, 7] i u.1 ∧ mEr [17, 18] r u.2 ∧ (z = 0 ∨ z = 1)) (fun (u : (Nat → Int32) × (Nat → Nat → Int32)) t => va_P D vwCl (xW cy a u.1 u.2 q (a 20) (a 12) ++ tl) t.heap ∧ va_K D vwCl (vT cy) t ∧ va_D (va_A (xW cy a i r q (a 20) (a 12) ++ tl) sz) (xW cy a u.1 u.2 q (a 20) (a 12) ++ tl)) (va_A (xW cy a i r q (a 20) (a 12) ++ tl) sz)) 0 0 (va_A (xW cy a i r q (a 20) (a 12) ++ tl) sz) := c_X6_piece_kg l D cy a i r q tl kq vq 3 sz hRi hRr 17 415 16 388 14 340 16 389 ⟨Nat.le_of_ble_eq_true rfl, Nat.le_of_ble_eq_true rfl⟩ ⟨by decide, by decide⟩ (fun k9 e9 _ i r sz hRi hRr => by obtain rfl : k9 = 4 := Int32.toInt_inj.mp (e9.trans (by decide)); exact c_X6_condition_k4_124 l D cy a i r q tl kq vq sz hRi hRr) ⟨Nat.le_of_ble_eq_true rfl, Nat.le_of_ble_eq_true rfl⟩ (fun k9 e9 _ i r sz hRi hRr => by obtain rfl : k9 = 4 := Int32.toInt_inj.mp (e9.trans (by decide)); exact c_X6_piece_k4 l D cy a i r q tl kq vq sz hRi hRr) ⟨Nat.le_of_ble_eq_true rfl, Nat.le_of_ble_eq_true rfl⟩ (fun k9 e9 i r sz hRi hRr => by subst e9; exact c_X6_expression_k3_1 l D cy a i r q tl kq vq sz hRi hRr) ⟨Nat.le_of_ble_eq_true rfl, Nat.le_of_ble_eq_true rfl⟩
theorem c_X6_condition_k3_38 (l : Launch) (D : va_G) (cy : Nat → ClassId) (a : Nat → Nat) (i : Nat → Int32) (r : Nat → Nat → Int32) (q : Nat → Option Nat) (tl : va_W) (kq vq : Nat) (sz : Nat) (hRi : yRi i) (hRr : yRr r) : Met l yX6_condition (Cond.code yX6_condition cX6_condition 6 (some .boolean) :: gT) { frames := 18, cells := 0, slots := 0, locals := 438 } (va_Pc [.ref (a 10), .int 3, .int 38] (rS D cy (xW cy a i r q (a 20) (a 12) ++ tl) sz kq vq)) (va_Qi (fun (z : Int32) (u : (Nat → Int32) × (Nat → Nat → Int32)) => yRi u.1 ∧ yRr u.2 ∧ mEi [4, 5, 7] i u.1 ∧ mEr [17, 18] r u.2 ∧ (z = 0 ∨ z = 1)) (fun (u : (Nat → Int32) × (Nat → Nat → Int32)) t => va_P D vwCl (xW cy a u.1 u.2 q (a 20) (a 12) ++ tl) t.heap ∧ va_K D vwCl (vT cy) t ∧ va_D (va_A (xW cy a i r q (a 20) (a 12) ++ tl) sz) (xW cy a u.1 u.2 q (a 20) (a 12) ++ tl)) (va_A (xW cy a i r q (a 20) (a 12) ++ tl) sz)) 0 0 (va_A (xW cy a i r q (a 20) (a 12) ++ tl) sz) := c_X6_condition_kg38 l D cy a i r q tl kq vq 3 sz hRi hRr 18 438 17 415 ⟨Nat.le_of_ble_eq_true rfl, Nat.le_of_ble_eq_true rfl⟩ ⟨by decide, by decide⟩ (fun k9 e9 i r sz hRi hRr => by subst e9; exact c_X6_piece_k3 l D cy a i r q tl kq vq sz hRi hRr) ⟨Nat.le_of_ble_eq_true rfl, Nat.le_of_ble_eq_true rfl⟩
theorem c_X6_condition_k3_124 (l : Launch) (D : va_G) (cy : Nat → ClassId) (a : Nat → Nat) (i : Nat → Int32) (r : Nat → Nat → Int32) (q : Nat → Option Nat) (tl : va_W) (kq vq : Nat) (sz : Nat) (hRi : yRi i) (hRr : yRr r) : Met l yX6_condition (Cond.code yX6_condition cX6_condition 6 (some .boolean) :: gT) { frames := 19, cells := 0, slots := 0, locals := 463 } (va_Pc [.ref (a 10), .int 3, .int 124] (rS D cy (xW cy a i r q (a 20) (a 12) ++ tl) sz kq vq)) (va_Qi (fun (z : Int32) (u : (Nat → Int32) × (Nat → Nat → Int32)) => yRi u.1 ∧ yRr u.2 ∧ mEi [4, 5, 7] i u.1 ∧ mEr [17, 18] r u.2 ∧ (z = 0 ∨ z = 1)) (fun (u : (Nat → Int32) × (Nat → Nat → Int32)) t => va_P D vwCl (xW cy a u.1 u.2 q (a 20) (a 12) ++ tl) t.heap ∧ va_K D vwCl (vT cy) t ∧ va_D (va_A (xW cy a i r q (a 20) (a 12) ++ tl) sz) (xW cy a u.1 u.2 q (a 20) (a 12) ++ tl)) (va_A (xW cy a i r q (a 20) (a 12) ++ tl) sz)) 0 0 (va_A (xW cy a i r q (a 20) (a 12) ++ tl) sz) := c_X6_condition_kg124 l D cy a i r q tl kq vq 3 sz hRi hRr 19 463 18 438 ⟨Nat.le_of_ble_eq_true rfl, Nat.le_of_ble_eq_true rfl⟩ ⟨by decide, by decide⟩ (fun k9 e9 i r sz hRi hRr => by subst e9; exact c_X6_condition_k3_38 l D cy a i r q tl kq vq sz hRi hRr) ⟨Nat.le_of_ble_eq_true rfl, Nat.le_of_ble_eq_true rfl⟩
theorem c_X6_piece_k2 (l : Launch) (D : va_G) (cy : Nat → ClassId) (a : Nat → Nat) (i : Nat → Int32) (r : Nat → Nat → Int32) (q : Nat → Option Nat) (tl : va_W) (kq vq : Nat) (sz : Nat) (hRi : yRi i) (hRr : yRr r) : Met l yX6_piece (Cond.code yX6_piece cX6_piece 4 (some .boolean) :: gT) { frames := 20, cells := 0, slots := 0, locals := 490 } (va_Pc [.ref (a 10), .int 2] (rS D cy (xW cy a i r q (a 20) (a 12) ++ tl) sz kq vq)) (va_Qi (fun (z : Int32) (u : (Nat → Int32) × (Nat → Nat → Int32)) => yRi u.1 ∧ yRr u.2 ∧ mEi [4, 5, 7] i u.1 ∧ mEr [17, 18] r u.2 ∧ (z = 0 ∨ z = 1)) (fun (u : (Nat → Int32) × (Nat → Nat → Int32)) t => va_P D vwCl (xW cy a u.1 u.2 q (a 20) (a 12) ++ tl) t.heap ∧ va_K D vwCl (vT cy) t ∧ va_D (va_A (xW cy a i r q (a 20) (a 12) ++ tl) sz) (xW cy a u.1 u.2 q (a 20) (a 12) ++ tl)) (va_A (xW cy a i r q (a 20) (a 12) ++ tl) sz)) 0 0 (va_A (xW cy a i r q (a 20) (a 12) ++ tl) sz) := c_X6_piece_kg l D cy a i r q tl kq vq 2 sz hRi hRr 20 490 19 463 17 415 19 464 ⟨Nat.le_of_ble_eq_true rfl, Nat.le_of_ble_eq_true rfl⟩ ⟨by decide, by decide⟩ (fun k9 e9 _ i r sz hRi hRr => by obtain rfl : k9 = 3 := Int32.toInt_inj.mp (e9.trans (by decide)); exact c_X6_condition_k3_124 l D cy a i r q tl kq vq sz hRi hRr) ⟨Nat.le_of_ble_eq_true rfl, Nat.le_of_ble_eq_true rfl⟩ (fun k9 e9 _ i r sz hRi hRr => by obtain rfl : k9 = 3 := Int32.toInt_inj.mp (e9.trans (by decide)); exact c_X6_piece_k3 l D cy a i r q tl kq vq sz hRi hRr) ⟨Nat.le_of_ble_eq_true rfl, Nat.le_of_ble_eq_true rfl⟩ (fun k9 e9 i r sz hRi hRr => by subst e9; exact c_X6_expression_k2_1 l D cy a i r q tl kq vq sz hRi hRr) ⟨Nat.le_of_ble_eq_true rfl, Nat.le_of_ble_eq_true rfl⟩
theorem c_X6_condition_k2_38 (l : Launch) (D : va_G) (cy : Nat → ClassId) (a : Nat → Nat) (i : Nat → Int32) (r : Nat → Nat → Int32) (q : Nat → Option Nat) (tl : va_W) (kq vq : Nat) (sz : Nat) (hRi : yRi i) (hRr : yRr r) : Met l yX6_condition (Cond.code yX6_condition cX6_condition 6 (some .boolean) :: gT) { frames := 21, cells := 0, slots := 0, locals := 513 } (va_Pc [.ref (a 10), .int 2, .int 38] (rS D cy (xW cy a i r q (a 20) (a 12) ++ tl) sz kq vq)) (va_Qi (fun (z : Int32) (u : (Nat → Int32) × (Nat → Nat → Int32)) => yRi u.1 ∧ yRr u.2 ∧ mEi [4, 5, 7] i u.1 ∧ mEr [17, 18] r u.2 ∧ (z = 0 ∨ z = 1)) (fun (u : (Nat → Int32) × (Nat → Nat → Int32)) t => va_P D vwCl (xW cy a u.1 u.2 q (a 20) (a 12) ++ tl) t.heap ∧ va_K D vwCl (vT cy) t ∧ va_D (va_A (xW cy a i r q (a 20) (a 12) ++ tl) sz) (xW cy a u.1 u.2 q (a 20) (a 12) ++ tl)) (va_A (xW cy a i r q (a 20) (a 12) ++ tl) sz)) 0 0 (va_A (xW cy a i r q (a 20) (a 12) ++ tl) sz) := c_X6_condition_kg38 l D cy a i r q tl kq vq 2 sz hRi hRr 21 513 20 490 ⟨Nat.le_of_ble_eq_true rfl, Nat.le_of_ble_eq_true rfl⟩ ⟨by decide, by decide⟩ (fun k9 e9 i r sz hRi hRr => by subst e9; exact c_X6_piece_k2 l D cy a i r q tl kq vq sz hRi hRr) ⟨Nat.le_of_ble_eq_true rfl, Nat.le_of_ble_eq_true rfl⟩
theorem c_X6_condition_k2_124 (l : Launch) (D : va_G) (cy : Nat → ClassId) (a : Nat → Nat) (i : Nat → Int32) (r : Nat → Nat → Int32) (q : Nat → Option Nat) (tl : va_W) (kq vq : Nat) (sz : Nat) (hRi : yRi i) (hRr : yRr r) : Met l yX6_condition (Cond.code yX6_condition cX6_condition 6 (some .boolean) :: gT) { frames := 22, cells := 0, slots := 0, locals := 538 } (va_Pc [.ref (a 10), .int 2, .int 124] (rS D cy (xW cy a i r q (a 20) (a 12) ++ tl) sz kq vq)) (va_Qi (fun (z : Int32) (u : (Nat → Int32) × (Nat → Nat → Int32)) => yRi u.1 ∧ yRr u.2 ∧ mEi [4, 5, 7] i u.1 ∧ mEr [17, 18] r u.2 ∧ (z = 0 ∨ z = 1)) (fun (u : (Nat → Int32) × (Nat → Nat → Int32)) t => va_P D vwCl (xW cy a u.1 u.2 q (a 20) (a 12) ++ tl) t.heap ∧ va_K D vwCl (vT cy) t ∧ va_D (va_A (xW cy a i r q (a 20) (a 12) ++ tl) sz) (xW cy a u.1 u.2 q (a 20) (a 12) ++ tl)) (va_A (xW cy a i r q (a 20) (a 12) ++ tl) sz)) 0 0 (va_A (xW cy a i r q (a 20) (a 12) ++ tl) sz) := c_X6_condition_kg124 l D cy a i r q tl kq vq 2 sz hRi hRr 22 538 21 513 ⟨Nat.le_of_ble_eq_true rfl, Nat.le_of_ble_eq_true rfl⟩ ⟨by decide, by decide⟩ (fun k9 e9 i r sz hRi hRr => by subst e9; exact c_X6_condition_k2_38 l D cy a i r q tl kq vq sz hRi hRr) ⟨Nat.le_of_ble_eq_true rfl, Nat.le_of_ble_eq_true rfl⟩
theorem c_X6_piece_k1 (l : Launch) (D : va_G) (cy : Nat → ClassId) (a : Nat → Nat) (i : Nat → Int32) (r : Nat → Nat → Int32) (q : Nat → Option Nat) (tl : va_W) (kq vq : Nat) (sz : Nat) (hRi : yRi i) (hRr : yRr r) : Met l yX6_piece (Cond.code yX6_piece cX6_piece 4 (some .boolean) :: gT) { frames := 23, cells := 0, slots := 0, locals := 565 } (va_Pc [.ref (a 10), .int 1] (rS D cy (xW cy a i r q (a 20) (a 12) ++ tl) sz kq vq)) (va_Qi (fun (z : Int32) (u : (Nat → Int32) × (Nat → Nat → Int32)) => yRi u.1 ∧ yRr u.2 ∧ mEi [4, 5, 7] i u.1 ∧ mEr [17, 18] r u.2 ∧ (z = 0 ∨ z = 1)) (fun (u : (Nat → Int32) × (Nat → Nat → Int32)) t => va_P D vwCl (xW cy a u.1 u.2 q (a 20) (a 12) ++ tl) t.heap ∧ va_K D vwCl (vT cy) t ∧ va_D (va_A (xW cy a i r q (a 20) (a 12) ++ tl) sz) (xW cy a u.1 u.2 q (a 20) (a 12) ++ tl)) (va_A (xW cy a i r q (a 20) (a 12) ++ tl) sz)) 0 0 (va_A (xW cy a i r q (a 20) (a 12) ++ tl) sz) := c_X6_piece_kg l D cy a i r q tl kq vq 1 sz hRi hRr 23 565 22 538 20 490 22 539 ⟨Nat.le_of_ble_eq_true rfl, Nat.le_of_ble_eq_true rfl⟩ ⟨by decide, by decide⟩ (fun k9 e9 _ i r sz hRi hRr => by obtain rfl : k9 = 2 := Int32.toInt_inj.mp (e9.trans (by decide)); exact c_X6_condition_k2_124 l D cy a i r q tl kq vq sz hRi hRr) ⟨Nat.le_of_ble_eq_true rfl, Nat.le_of_ble_eq_true rfl⟩ (fun k9 e9 _ i r sz hRi hRr => by obtain rfl : k9 = 2 := Int32.toInt_inj.mp (e9.trans (by decide)); exact c_X6_piece_k2 l D cy a i r q tl kq vq sz hRi hRr) ⟨Nat.le_of_ble_eq_true rfl, Nat.le_of_ble_eq_true rfl⟩ (fun k9 e9 i r sz hRi hRr => by subst e9; exact c_X6_expression_k1_1 l D cy a i r q tl kq vq sz hRi hRr) ⟨Nat.le_of_ble_eq_true rfl, Nat.le_of_ble_eq_true rfl⟩
theorem c_X6_condition_k1_38 (l : Launch) (D : va_G) (cy : Nat → ClassId) (a : Nat → Nat) (i : Nat → Int32) (r : Nat → Nat → Int32) (q : Nat → Option Nat) (tl : va_W) (kq vq : Nat) (sz : Nat) (hRi : yRi i) (hRr : yRr r) : Met l yX6_condition (Cond.code yX6_condition cX6_condition 6 (some .boolean) :: gT) { frames := 24, cells := 0, slots := 0, locals := 588 } (va_Pc [.ref (a 10), .int 1, .int 38] (rS D cy (xW cy a i r q (a 20) (a 12) ++ tl) sz kq vq)) (va_Qi (fun (z : Int32) (u : (Nat → Int32) × (Nat → Nat → Int32)) => yRi u.1 ∧ yRr u.2 ∧ mEi [4, 5, 7] i u.1 ∧ mEr [17, 18] r u.2 ∧ (z = 0 ∨ z = 1)) (fun (u : (Nat → Int32) × (Nat → Nat → Int32)) t => va_P D vwCl (xW cy a u.1 u.2 q (a 20) (a 12) ++ tl) t.heap ∧ va_K D vwCl (vT cy) t ∧ va_D (va_A (xW cy a i r q (a 20) (a 12) ++ tl) sz) (xW cy a u.1 u.2 q (a 20) (a 12) ++ tl)) (va_A (xW cy a i r q (a 20) (a 12) ++ tl) sz)) 0 0 (va_A (xW cy a i r q (a 20) (a 12) ++ tl) sz) := c_X6_condition_kg38 l D cy a i r q tl kq vq 1 sz hRi hRr 24 588 23 565 ⟨Nat.le_of_ble_eq_true rfl, Nat.le_of_ble_eq_true rfl⟩ ⟨by decide, by decide⟩ (fun k9 e9 i r sz hRi hRr => by subst e9; exact c_X6_piece_k1 l D cy a i r q tl kq vq sz hRi hRr) ⟨Nat.le_of_ble_eq_true rfl, Nat.le_of_ble_eq_true rfl⟩
theorem c_X6_condition_k1_124 (l : Launch) (D : va_G) (cy : Nat → ClassId) (a : Nat → Nat) (i : Nat → Int32) (r : Nat → Nat → Int32) (q : Nat → Option Nat) (tl : va_W) (kq vq : Nat) (sz : Nat) (hRi : yRi i) (hRr : yRr r) : Met l yX6_condition (Cond.code yX6_condition cX6_condition 6 (some .boolean) :: gT) { frames := 25, cells := 0, slots := 0, locals := 613 } (va_Pc [.ref (a 10), .int 1, .int 124] (rS D cy (xW cy a i r q (a 20) (a 12) ++ tl) sz kq vq)) (va_Qi (fun (z : Int32) (u : (Nat → Int32) × (Nat → Nat → Int32)) => yRi u.1 ∧ yRr u.2 ∧ mEi [4, 5, 7] i u.1 ∧ mEr [17, 18] r u.2 ∧ (z = 0 ∨ z = 1)) (fun (u : (Nat → Int32) × (Nat → Nat → Int32)) t => va_P D vwCl (xW cy a u.1 u.2 q (a 20) (a 12) ++ tl) t.heap ∧ va_K D vwCl (vT cy) t ∧ va_D (va_A (xW cy a i r q (a 20) (a 12) ++ tl) sz) (xW cy a u.1 u.2 q (a 20) (a 12) ++ tl)) (va_A (xW cy a i r q (a 20) (a 12) ++ tl) sz)) 0 0 (va_A (xW cy a i r q (a 20) (a 12) ++ tl) sz) := c_X6_condition_kg124 l D cy a i r q tl kq vq 1 sz hRi hRr 25 613 24 588 ⟨Nat.le_of_ble_eq_true rfl, Nat.le_of_ble_eq_true rfl⟩ ⟨by decide, by decide⟩ (fun k9 e9 i r sz hRi hRr => by subst e9; exact c_X6_condition_k1_38 l D cy a i r q tl kq vq sz hRi hRr) ⟨Nat.le_of_ble_eq_true rfl, Nat.le_of_ble_eq_true rfl⟩
set_option maxHeartbeats 4000000 in
set_option maxRecDepth 100000 in
theorem c_X6_beginClause (l : Launch) (D : va_G) (cy : Nat → ClassId) (a : Nat → Nat) (i : Nat → Int32) (r : Nat → Nat → Int32) (q : Nat → Option Nat) (tl : va_W) (p0 : Int32) (sz : Nat) (hRi : yRi i) (hRr : yRr r) : Met l yX6_beginClause (Cond.code yX6_beginClause cX6_beginClause 2 (some .boolean) :: gT) { frames := 3, cells := 0, slots := 0, locals := 65 } (va_Pc [.ref (a 10), .int p0] (rQ D cy (xW cy a i r q (a 20) (a 12) ++ tl) sz)) (va_Qi (fun (z : Int32) (u : (Nat → Int32) × (Nat → Nat → Int32)) => yRi u.1 ∧ yRr u.2 ∧ mEi [4, 5] i u.1 ∧ mEr [13, 14] r u.2 ∧ (z = 0 ∨ z = 1)) (fun (u : (Nat → Int32) × (Nat → Nat → Int32)) t => va_P D vwCl (xW cy a u.1 u.2 q (a 20) (a 12) ++ tl) t.heap ∧ va_K D vwCl (vT cy) t ∧ va_D (va_A (xW cy a i r q (a 20) (a 12) ++ tl) sz) (xW cy a u.1 u.2 q (a 20) (a 12) ++ tl)) (va_A (xW cy a i r q (a 20) (a 12) ++ tl) sz)) 0 0 (va_A (xW cy a i r q (a 20) (a 12) ++ tl) sz) := by
  refine Met.ofQ (cc := cX6_beginClause) (maxL := 2) (ret := (some .boolean)) (by decide) rfl ?_
  intro p e s m args below meth c s₁ B hml hv Q hQ
  obtain ⟨rfl, hsz, hP, hK, hD0⟩ := hv
  have hx := B.exec
  have hb := B.bytes
  have hr := B.returns
  have hlocks := B.notSynchronized
  have hT : ∀ w ∈ gT, w.before _ s = true := fun w h => atoms_spec (ws := (Cond.code yX6_beginClause cX6_beginClause 2 (some .boolean) :: gT)) B.pre w (List.mem_cons_of_mem _ h)
  have hown : s.vm.findClass RX6 = some m.cls := findClass_of_methodNamed B.named
  subst hsz
  have hD := hD0.self (sz := s.heap.size)
  generalize hAe : va_A (xW cy a i r q (a 20) (a 12) ++ tl) s.heap.size = A at hD hQ
  have hA : ∀ q : Nat, s.heap.size ≤ q → A q := fun q h => by rw [← hAe]; exact Or.inr h
  have hS : va_S A s.heap s.heap [] := va_S.rf
  have hl := lv_entry ([.ref (a 10), .int p0]) (n := 2) (Nat.le_of_ble_eq_true rfl)
  rw [lg_entry_eq]
  generalize (lg_sl ([.ref (a 10), .int p0]) ++ List.replicate (2 - (lg_sl ([.ref (a 10), .int p0])).length) Slot.unset).toArray = ls at hl ⊢
  have hl : lv_has ls 2 [(0, .ref (a 10)), (1, .int p0)] := hl
  have hEi : mEi [4, 5] i i := Ei_rf
  have hEr : mEr [13, 14] r r := Er_rf
  refine lv_iload_n hx hb dX6_beginClause_0 rfl (lv_at hl 1 rfl) ?_
  refine lv_bipush (v := 102) hx hb dX6_beginClause_1 (by decide) ?_
  refine lv_icmp_eq (tgt := 36) hx hb dX6_beginClause_3 (by decide) (fun c_1 => ?_) (fun c_1 => ?_)
  · have c_1 : p0.toInt = 102 := b_eq c_1
    refine lv_aload_n hx hb dX6_beginClause_36 rfl (lv_at hl 0 rfl) ?_
    refine va_get (D := D) (ci := 6) (v := .ref (a 12)) (C := RX6) (T := TX6) (N := 5) hx hb hT iX6 hown hK hP 10 rfl rfl 0 (by decide) (hT _ t_661) (fun _ h9 => h9) rfl dX6_beginClause_37 ?_
    refine vp_callSi (W.runV (As := []) (rest := []) ⟨hx, hb, hml, hown, hT⟩ (c_X5_isFull l D cy a i r q tl hRi hRr) (cwV 0 hT (gV t_644 t_698 t_646 t_647 t_367) rfl rfl rfl (by decide +kernel) ⟨Nat.le_of_ble_eq_true rfl, Nat.le_of_ble_eq_true rfl⟩) (rP_v hP hK (va_recv hK hP (ci := 5) (q0 := 12) rfl rfl)) rfl rfl hl.1 rfl (lv_room (Nat.le_of_ble_eq_true rfl)) dX6_beginClause_40 ⟨Nat.le_of_ble_eq_true rfl, Nat.le_of_ble_eq_true rfl⟩) (fun r_2 hr_2 => ?_)
    have hg_3 : 0 ≤ (i 6).toInt ∧ (i 6).toInt ≤ 14 := hRi 6
    have hr_2 : BR r_2 (14 ≤ (i 6).toInt) 1 0 := hr_2
    rcases hr_2 with ⟨rfl, h_4⟩ | ⟨rfl, h_4⟩
    · skip
      refine lv_if_eq (tgt := 52) hx hb dX6_beginClause_43 (by decide) (fun c_5 => absurd c_5 (by decide)) (fun c_5 => ?_)
      refine lv_aload_n hx hb dX6_beginClause_46 rfl (lv_at hl 0 rfl) ?_
      refine lv_iconst (v := 4) hx hb dX6_beginClause_47 (by decide) ?_
      have hF_6 := rF hD hS hA
      refine va_calli (va_runV (As := [.int 4]) (rest := []) ⟨hx, hb, hml, hown, hT⟩ (c_X6_refuse l D cy a i r q tl 4 _ hRi hRr) (cwV 1 hT (gV t_657 t_658 t_659 t_660 t_653) rfl rfl rfl (by decide +kernel) ⟨Nat.le_of_ble_eq_true rfl, Nat.le_of_ble_eq_true rfl⟩) (rQ_v hP hK hD (va_recv hK hP (ci := 6) (q0 := 10) rfl rfl)) rfl rfl hl.1 rfl (lv_room (Nat.le_of_ble_eq_true rfl)) dX6_beginClause_48 ⟨Nat.le_of_ble_eq_true rfl, Nat.le_of_ble_eq_true rfl⟩) hS (fun q _ h => hF_6 q h) hF_6 (fun r_7 u_8 t H1 locs ht hvm hr_7 hB hz1 hk1 hS => ?_)
      obtain ⟨i8, r8⟩ := u_8
      obtain ⟨hP, hK1, hD1⟩ := hB
      rw [ht] at hP
      have hD := hD1.weaken (fun k q _ h => hF_6 q.1 h)
      obtain ⟨hRi, hRr, hE1, hE2, hr_7⟩ := hr_7
      have hRi : yRi i8 := hRi
      have hE1 : mEi [5] i i8 := hE1
      have hRr : yRr r8 := hRr
      have hE2 : mEr [] r r8 := hE2
      have hP : va_P D vwCl (xW cy a i8 r8 q (a 20) (a 12) ++ tl) H1 := hP
      have hD : va_D A (xW cy a i8 r8 q (a 20) (a 12) ++ tl) := hD
      have hEi : mEi [4, 5] _ i8 := Ei_tr hEi hE1 (by decide)
      have hEr : mEr [13, 14] _ r8 := Er_tr hEr hE2 (by decide)
      subst hr_7
      subst hQ
      exact W.zret hx hb hr rfl (fun t ht hW => ⟨⟨_, (i8, r8), rfl, ⟨hRi, hRr, hEi, hEr, Or.inl rfl⟩, by rw [ht]; exact hP, va_K.moved hW.alike hK, hD⟩, hS.F ht⟩) hS.2.2 dX6_beginClause_51
    · skip
      refine lv_if_eq (tgt := 52) hx hb dX6_beginClause_43 (by decide) (fun c_9 => ?_) (fun c_9 => absurd (by decide) c_9)
      refine lv_aload_n hx hb dX6_beginClause_52 rfl (lv_at hl 0 rfl) ?_
      refine lv_dup hx hb dX6_beginClause_53 rfl ?_
      refine va_get (D := D) (ci := 6) (v := .int (i 4)) (C := RX6) (T := TX6) (N := 5) hx hb hT iX6 hown hK hP 10 rfl rfl 3 (by decide) (hT _ t_648) (fun _ h9 => h9) rfl dX6_beginClause_54 ?_
      refine lv_iconst (v := 1) hx hb dX6_beginClause_57 (by decide) ?_
      refine lv_iadd hx hb dX6_beginClause_58 ?_
      refine lv_topi (fun v_10 ev_10 => ?_)
      refine va_put (D := D) (ci := 6) (v := .int v_10) (ty := .int) (C := RX6) (T := TX6) (N := 5) hx hb hT iX6 tyX6 tyX6_ok nmX6 hown hK hP hD hS 10 rfl rfl 3 (by decide) (hT _ t_648) (fun _ h9 => h9) rfl (by decide +kernel) rfl rfl (Nat.le_of_ble_eq_true rfl) dX6_beginClause_59 (fun H locs hP hD hS => ?_)
      rw [zP4] at hP hD
      have hRi := Yi_upd hRi 4 v_10 (b_rg _)
      have hEi := Ei_upd hEi 4 v_10 (by decide)
      refine lv_aload_n hx hb dX6_beginClause_62 rfl (lv_at hl 0 rfl) ?_
      refine va_get (D := D) (ci := 6) (v := .ref (a 12)) (C := RX6) (T := TX6) (N := 5) hx hb hT iX6 hown hK hP 10 rfl rfl 0 (by decide) (hT _ t_661) (fun _ h9 => h9) rfl dX6_beginClause_63 ?_
      refine lv_iload_n hx hb dX6_beginClause_66 rfl (lv_at hl 1 rfl) ?_
      have hF_11 := rF hD hS hA
      refine va_callv (va_runV (As := [.int p0]) (rest := []) ⟨hx, hb, hml, hown, hT⟩ (c_X5_beginClause l D cy a (upd i 4 v_10) r q tl p0 _ hRi hRr) (cwV 1 hT (gV t_699 t_700 t_701 t_702 t_367) rfl rfl rfl (by decide +kernel) ⟨Nat.le_of_ble_eq_true rfl, Nat.le_of_ble_eq_true rfl⟩) (rQ_v hP hK hD (va_recv hK hP (ci := 5) (q0 := 12) rfl rfl)) rfl rfl hl.1 rfl (lv_room (Nat.le_of_ble_eq_true rfl)) dX6_beginClause_67 ⟨Nat.le_of_ble_eq_true rfl, Nat.le_of_ble_eq_true rfl⟩) hS (fun q _ h => hF_11 q h) hF_11 (fun u_13 t H1 locs ht hvm hr_12 hB hz1 hk1 hS => ?_)
      obtain ⟨r13, rfl⟩ : ∃ z, z = u_13 := ⟨_, rfl⟩
      obtain ⟨hP, hK1, hD1⟩ := hB
      rw [ht] at hP
      have hD := hD1.weaken (fun k q _ h => hF_11 q.1 h)
      obtain ⟨hRr, hE2, hr_12⟩ := hr_12
      have hRr : yRr r13 := hRr
      have hE2 : mEr [13, 14] r r13 := hE2
      have hP : va_P D vwCl (xW cy a (upd i 4 v_10) r13 q (a 20) (a 12) ++ tl) H1 := hP
      have hD : va_D A (xW cy a (upd i 4 v_10) r13 q (a 20) (a 12) ++ tl) := hD
      have hEr : mEr [13, 14] _ r13 := Er_tr hEr hE2 (by decide)
      refine lv_iconst (v := 1) hx hb dX6_beginClause_70 (by decide) ?_
      subst hQ
      exact W.zret hx hb hr rfl (fun t ht hW => ⟨⟨_, (upd i 4 v_10, r13), rfl, ⟨hRi, hRr, hEi, hEr, Or.inr rfl⟩, by rw [ht]; exact hP, va_K.moved hW.alike hK, hD⟩, hS.F ht⟩) hS.2.2 dX6_beginClause_71
  · have c_1 : p0.toInt ≠ 102 := b_ne c_1
    refine lv_iload_n hx hb dX6_beginClause_6 rfl (lv_at hl 1 rfl) ?_
    refine lv_bipush (v := 112) hx hb dX6_beginClause_7 (by decide) ?_
    refine lv_icmp_eq (tgt := 36) hx hb dX6_beginClause_9 (by decide) (fun c_14 => ?_) (fun c_14 => ?_)
    · have c_14 : p0.toInt = 112 := b_eq c_14
      refine lv_aload_n hx hb dX6_beginClause_36 rfl (lv_at hl 0 rfl) ?_
      refine va_get (D := D) (ci := 6) (v := .ref (a 12)) (C := RX6) (T := TX6) (N := 5) hx hb hT iX6 hown hK hP 10 rfl rfl 0 (by decide) (hT _ t_661) (fun _ h9 => h9) rfl dX6_beginClause_37 ?_
      refine vp_callSi (W.runV (As := []) (rest := []) ⟨hx, hb, hml, hown, hT⟩ (c_X5_isFull l D cy a i r q tl hRi hRr) (cwV 0 hT (gV t_644 t_698 t_646 t_647 t_367) rfl rfl rfl (by decide +kernel) ⟨Nat.le_of_ble_eq_true rfl, Nat.le_of_ble_eq_true rfl⟩) (rP_v hP hK (va_recv hK hP (ci := 5) (q0 := 12) rfl rfl)) rfl rfl hl.1 rfl (lv_room (Nat.le_of_ble_eq_true rfl)) dX6_beginClause_40 ⟨Nat.le_of_ble_eq_true rfl, Nat.le_of_ble_eq_true rfl⟩) (fun r_15 hr_15 => ?_)
      have hg_16 : 0 ≤ (i 6).toInt ∧ (i 6).toInt ≤ 14 := hRi 6
      have hr_15 : BR r_15 (14 ≤ (i 6).toInt) 1 0 := hr_15
      rcases hr_15 with ⟨rfl, h_17⟩ | ⟨rfl, h_17⟩
      · skip
        refine lv_if_eq (tgt := 52) hx hb dX6_beginClause_43 (by decide) (fun c_18 => absurd c_18 (by decide)) (fun c_18 => ?_)
        refine lv_aload_n hx hb dX6_beginClause_46 rfl (lv_at hl 0 rfl) ?_
        refine lv_iconst (v := 4) hx hb dX6_beginClause_47 (by decide) ?_
        have hF_19 := rF hD hS hA
        refine va_calli (va_runV (As := [.int 4]) (rest := []) ⟨hx, hb, hml, hown, hT⟩ (c_X6_refuse l D cy a i r q tl 4 _ hRi hRr) (cwV 1 hT (gV t_657 t_658 t_659 t_660 t_653) rfl rfl rfl (by decide +kernel) ⟨Nat.le_of_ble_eq_true rfl, Nat.le_of_ble_eq_true rfl⟩) (rQ_v hP hK hD (va_recv hK hP (ci := 6) (q0 := 10) rfl rfl)) rfl rfl hl.1 rfl (lv_room (Nat.le_of_ble_eq_true rfl)) dX6_beginClause_48 ⟨Nat.le_of_ble_eq_true rfl, Nat.le_of_ble_eq_true rfl⟩) hS (fun q _ h => hF_19 q h) hF_19 (fun r_20 u_21 t H1 locs ht hvm hr_20 hB hz1 hk1 hS => ?_)
        obtain ⟨i21, r21⟩ := u_21
        obtain ⟨hP, hK1, hD1⟩ := hB
        rw [ht] at hP
        have hD := hD1.weaken (fun k q _ h => hF_19 q.1 h)
        obtain ⟨hRi, hRr, hE1, hE2, hr_20⟩ := hr_20
        have hRi : yRi i21 := hRi
        have hE1 : mEi [5] i i21 := hE1
        have hRr : yRr r21 := hRr
        have hE2 : mEr [] r r21 := hE2
        have hP : va_P D vwCl (xW cy a i21 r21 q (a 20) (a 12) ++ tl) H1 := hP
        have hD : va_D A (xW cy a i21 r21 q (a 20) (a 12) ++ tl) := hD
        have hEi : mEi [4, 5] _ i21 := Ei_tr hEi hE1 (by decide)
        have hEr : mEr [13, 14] _ r21 := Er_tr hEr hE2 (by decide)
        subst hr_20
        subst hQ
        exact W.zret hx hb hr rfl (fun t ht hW => ⟨⟨_, (i21, r21), rfl, ⟨hRi, hRr, hEi, hEr, Or.inl rfl⟩, by rw [ht]; exact hP, va_K.moved hW.alike hK, hD⟩, hS.F ht⟩) hS.2.2 dX6_beginClause_51
      · skip
        refine lv_if_eq (tgt := 52) hx hb dX6_beginClause_43 (by decide) (fun c_22 => ?_) (fun c_22 => absurd (by decide) c_22)
        refine lv_aload_n hx hb dX6_beginClause_52 rfl (lv_at hl 0 rfl) ?_
        refine lv_dup hx hb dX6_beginClause_53 rfl ?_
        refine va_get (D := D) (ci := 6) (v := .int (i 4)) (C := RX6) (T := TX6) (N := 5) hx hb hT iX6 hown hK hP 10 rfl rfl 3 (by decide) (hT _ t_648) (fun _ h9 => h9) rfl dX6_beginClause_54 ?_
        refine lv_iconst (v := 1) hx hb dX6_beginClause_57 (by decide) ?_
        refine lv_iadd hx hb dX6_beginClause_58 ?_
        refine lv_topi (fun v_23 ev_23 => ?_)
        refine va_put (D := D) (ci := 6) (v := .int v_23) (ty := .int) (C := RX6) (T := TX6) (N := 5) hx hb hT iX6 tyX6 tyX6_ok nmX6 hown hK hP hD hS 10 rfl rfl 3 (by decide) (hT _ t_648) (fun _ h9 => h9) rfl (by decide +kernel) rfl rfl (Nat.le_of_ble_eq_true rfl) dX6_beginClause_59 (fun H locs hP hD hS => ?_)
        rw [zP4] at hP hD
        have hRi := Yi_upd hRi 4 v_23 (b_rg _)
        have hEi := Ei_upd hEi 4 v_23 (by decide)
        refine lv_aload_n hx hb dX6_beginClause_62 rfl (lv_at hl 0 rfl) ?_
        refine va_get (D := D) (ci := 6) (v := .ref (a 12)) (C := RX6) (T := TX6) (N := 5) hx hb hT iX6 hown hK hP 10 rfl rfl 0 (by decide) (hT _ t_661) (fun _ h9 => h9) rfl dX6_beginClause_63 ?_
        refine lv_iload_n hx hb dX6_beginClause_66 rfl (lv_at hl 1 rfl) ?_
        have hF_24 := rF hD hS hA
        refine va_callv (va_runV (As := [.int p0]) (rest := []) ⟨hx, hb, hml, hown, hT⟩ (c_X5_beginClause l D cy a (upd i 4 v_23) r q tl p0 _ hRi hRr) (cwV 1 hT (gV t_699 t_700 t_701 t_702 t_367) rfl rfl rfl (by decide +kernel) ⟨Nat.le_of_ble_eq_true rfl, Nat.le_of_ble_eq_true rfl⟩) (rQ_v hP hK hD (va_recv hK hP (ci := 5) (q0 := 12) rfl rfl)) rfl rfl hl.1 rfl (lv_room (Nat.le_of_ble_eq_true rfl)) dX6_beginClause_67 ⟨Nat.le_of_ble_eq_true rfl, Nat.le_of_ble_eq_true rfl⟩) hS (fun q _ h => hF_24 q h) hF_24 (fun u_26 t H1 locs ht hvm hr_25 hB hz1 hk1 hS => ?_)
        obtain ⟨r26, rfl⟩ : ∃ z, z = u_26 := ⟨_, rfl⟩
        obtain ⟨hP, hK1, hD1⟩ := hB
        rw [ht] at hP
        have hD := hD1.weaken (fun k q _ h => hF_24 q.1 h)
        obtain ⟨hRr, hE2, hr_25⟩ := hr_25
        have hRr : yRr r26 := hRr
        have hE2 : mEr [13, 14] r r26 := hE2
        have hP : va_P D vwCl (xW cy a (upd i 4 v_23) r26 q (a 20) (a 12) ++ tl) H1 := hP
        have hD : va_D A (xW cy a (upd i 4 v_23) r26 q (a 20) (a 12) ++ tl) := hD
        have hEr : mEr [13, 14] _ r26 := Er_tr hEr hE2 (by decide)
        refine lv_iconst (v := 1) hx hb dX6_beginClause_70 (by decide) ?_
        subst hQ
        exact W.zret hx hb hr rfl (fun t ht hW => ⟨⟨_, (upd i 4 v_23, r26), rfl, ⟨hRi, hRr, hEi, hEr, Or.inr rfl⟩, by rw [ht]; exact hP, va_K.moved hW.alike hK, hD⟩, hS.F ht⟩) hS.2.2 dX6_beginClause_71
    · have c_14 : p0.toInt ≠ 112 := b_ne c_14
      refine lv_iload_n hx hb dX6_beginClause_12 rfl (lv_at hl 1 rfl) ?_
      refine lv_bipush (v := 100) hx hb dX6_beginClause_13 (by decide) ?_
      refine lv_icmp_eq (tgt := 36) hx hb dX6_beginClause_15 (by decide) (fun c_27 => ?_) (fun c_27 => ?_)
      · have c_27 : p0.toInt = 100 := b_eq c_27
        refine lv_aload_n hx hb dX6_beginClause_36 rfl (lv_at hl 0 rfl) ?_
        refine va_get (D := D) (ci := 6) (v := .ref (a 12)) (C := RX6) (T := TX6) (N := 5) hx hb hT iX6 hown hK hP 10 rfl rfl 0 (by decide) (hT _ t_661) (fun _ h9 => h9) rfl dX6_beginClause_37 ?_
        refine vp_callSi (W.runV (As := []) (rest := []) ⟨hx, hb, hml, hown, hT⟩ (c_X5_isFull l D cy a i r q tl hRi hRr) (cwV 0 hT (gV t_644 t_698 t_646 t_647 t_367) rfl rfl rfl (by decide +kernel) ⟨Nat.le_of_ble_eq_true rfl, Nat.le_of_ble_eq_true rfl⟩) (rP_v hP hK (va_recv hK hP (ci := 5) (q0 := 12) rfl rfl)) rfl rfl hl.1 rfl (lv_room (Nat.le_of_ble_eq_true rfl)) dX6_beginClause_40 ⟨Nat.le_of_ble_eq_true rfl, Nat.le_of_ble_eq_true rfl⟩) (fun r_28 hr_28 => ?_)
        have hg_29 : 0 ≤ (i 6).toInt ∧ (i 6).toInt ≤ 14 := hRi 6
        have hr_28 : BR r_28 (14 ≤ (i 6).toInt) 1 0 := hr_28
        rcases hr_28 with ⟨rfl, h_30⟩ | ⟨rfl, h_30⟩
        · skip
          refine lv_if_eq (tgt := 52) hx hb dX6_beginClause_43 (by decide) (fun c_31 => absurd c_31 (by decide)) (fun c_31 => ?_)
          refine lv_aload_n hx hb dX6_beginClause_46 rfl (lv_at hl 0 rfl) ?_
          refine lv_iconst (v := 4) hx hb dX6_beginClause_47 (by decide) ?_
          have hF_32 := rF hD hS hA
          refine va_calli (va_runV (As := [.int 4]) (rest := []) ⟨hx, hb, hml, hown, hT⟩ (c_X6_refuse l D cy a i r q tl 4 _ hRi hRr) (cwV 1 hT (gV t_657 t_658 t_659 t_660 t_653) rfl rfl rfl (by decide +kernel) ⟨Nat.le_of_ble_eq_true rfl, Nat.le_of_ble_eq_true rfl⟩) (rQ_v hP hK hD (va_recv hK hP (ci := 6) (q0 := 10) rfl rfl)) rfl rfl hl.1 rfl (lv_room (Nat.le_of_ble_eq_true rfl)) dX6_beginClause_48 ⟨Nat.le_of_ble_eq_true rfl, Nat.le_of_ble_eq_true rfl⟩) hS (fun q _ h => hF_32 q h) hF_32 (fun r_33 u_34 t H1 locs ht hvm hr_33 hB hz1 hk1 hS => ?_)
          obtain ⟨i34, r34⟩ := u_34
          obtain ⟨hP, hK1, hD1⟩ := hB
          rw [ht] at hP
          have hD := hD1.weaken (fun k q _ h => hF_32 q.1 h)
          obtain ⟨hRi, hRr, hE1, hE2, hr_33⟩ := hr_33
          have hRi : yRi i34 := hRi
          have hE1 : mEi [5] i i34 := hE1
          have hRr : yRr r34 := hRr
          have hE2 : mEr [] r r34 := hE2
          have hP : va_P D vwCl (xW cy a i34 r34 q (a 20) (a 12) ++ tl) H1 := hP
          have hD : va_D A (xW cy a i34 r34 q (a 20) (a 12) ++ tl) := hD
          have hEi : mEi [4, 5] _ i34 := Ei_tr hEi hE1 (by decide)
          have hEr : mEr [13, 14] _ r34 := Er_tr hEr hE2 (by decide)
          subst hr_33
          subst hQ
          exact W.zret hx hb hr rfl (fun t ht hW => ⟨⟨_, (i34, r34), rfl, ⟨hRi, hRr, hEi, hEr, Or.inl rfl⟩, by rw [ht]; exact hP, va_K.moved hW.alike hK, hD⟩, hS.F ht⟩) hS.2.2 dX6_beginClause_51
        · skip
          refine lv_if_eq (tgt := 52) hx hb dX6_beginClause_43 (by decide) (fun c_35 => ?_) (fun c_35 => absurd (by decide) c_35)
          refine lv_aload_n hx hb dX6_beginClause_52 rfl (lv_at hl 0 rfl) ?_
          refine lv_dup hx hb dX6_beginClause_53 rfl ?_
          refine va_get (D := D) (ci := 6) (v := .int (i 4)) (C := RX6) (T := TX6) (N := 5) hx hb hT iX6 hown hK hP 10 rfl rfl 3 (by decide) (hT _ t_648) (fun _ h9 => h9) rfl dX6_beginClause_54 ?_
          refine lv_iconst (v := 1) hx hb dX6_beginClause_57 (by decide) ?_
          refine lv_iadd hx hb dX6_beginClause_58 ?_
          refine lv_topi (fun v_36 ev_36 => ?_)
          refine va_put (D := D) (ci := 6) (v := .int v_36) (ty := .int) (C := RX6) (T := TX6) (N := 5) hx hb hT iX6 tyX6 tyX6_ok nmX6 hown hK hP hD hS 10 rfl rfl 3 (by decide) (hT _ t_648) (fun _ h9 => h9) rfl (by decide +kernel) rfl rfl (Nat.le_of_ble_eq_true rfl) dX6_beginClause_59 (fun H locs hP hD hS => ?_)
          rw [zP4] at hP hD
          have hRi := Yi_upd hRi 4 v_36 (b_rg _)
          have hEi := Ei_upd hEi 4 v_36 (by decide)
          refine lv_aload_n hx hb dX6_beginClause_62 rfl (lv_at hl 0 rfl) ?_
          refine va_get (D := D) (ci := 6) (v := .ref (a 12)) (C := RX6) (T := TX6) (N := 5) hx hb hT iX6 hown hK hP 10 rfl rfl 0 (by decide) (hT _ t_661) (fun _ h9 => h9) rfl dX6_beginClause_63 ?_
          refine lv_iload_n hx hb dX6_beginClause_66 rfl (lv_at hl 1 rfl) ?_
          have hF_37 := rF hD hS hA
          refine va_callv (va_runV (As := [.int p0]) (rest := []) ⟨hx, hb, hml, hown, hT⟩ (c_X5_beginClause l D cy a (upd i 4 v_36) r q tl p0 _ hRi hRr) (cwV 1 hT (gV t_699 t_700 t_701 t_702 t_367) rfl rfl rfl (by decide +kernel) ⟨Nat.le_of_ble_eq_true rfl, Nat.le_of_ble_eq_true rfl⟩) (rQ_v hP hK hD (va_recv hK hP (ci := 5) (q0 := 12) rfl rfl)) rfl rfl hl.1 rfl (lv_room (Nat.le_of_ble_eq_true rfl)) dX6_beginClause_67 ⟨Nat.le_of_ble_eq_true rfl, Nat.le_of_ble_eq_true rfl⟩) hS (fun q _ h => hF_37 q h) hF_37 (fun u_39 t H1 locs ht hvm hr_38 hB hz1 hk1 hS => ?_)
          obtain ⟨r39, rfl⟩ : ∃ z, z = u_39 := ⟨_, rfl⟩
          obtain ⟨hP, hK1, hD1⟩ := hB
          rw [ht] at hP
          have hD := hD1.weaken (fun k q _ h => hF_37 q.1 h)
          obtain ⟨hRr, hE2, hr_38⟩ := hr_38
          have hRr : yRr r39 := hRr
          have hE2 : mEr [13, 14] r r39 := hE2
          have hP : va_P D vwCl (xW cy a (upd i 4 v_36) r39 q (a 20) (a 12) ++ tl) H1 := hP
          have hD : va_D A (xW cy a (upd i 4 v_36) r39 q (a 20) (a 12) ++ tl) := hD
          have hEr : mEr [13, 14] _ r39 := Er_tr hEr hE2 (by decide)
          refine lv_iconst (v := 1) hx hb dX6_beginClause_70 (by decide) ?_
          subst hQ
          exact W.zret hx hb hr rfl (fun t ht hW => ⟨⟨_, (upd i 4 v_36, r39), rfl, ⟨hRi, hRr, hEi, hEr, Or.inr rfl⟩, by rw [ht]; exact hP, va_K.moved hW.alike hK, hD⟩, hS.F ht⟩) hS.2.2 dX6_beginClause_71
      · have c_27 : p0.toInt ≠ 100 := b_ne c_27
        refine lv_iload_n hx hb dX6_beginClause_18 rfl (lv_at hl 1 rfl) ?_
        refine lv_bipush (v := 116) hx hb dX6_beginClause_19 (by decide) ?_
        refine lv_icmp_eq (tgt := 36) hx hb dX6_beginClause_21 (by decide) (fun c_40 => ?_) (fun c_40 => ?_)
        · have c_40 : p0.toInt = 116 := b_eq c_40
          refine lv_aload_n hx hb dX6_beginClause_36 rfl (lv_at hl 0 rfl) ?_
          refine va_get (D := D) (ci := 6) (v := .ref (a 12)) (C := RX6) (T := TX6) (N := 5) hx hb hT iX6 hown hK hP 10 rfl rfl 0 (by decide) (hT _ t_661) (fun _ h9 => h9) rfl dX6_beginClause_37 ?_
          refine vp_callSi (W.runV (As := []) (rest := []) ⟨hx, hb, hml, hown, hT⟩ (c_X5_isFull l D cy a i r q tl hRi hRr) (cwV 0 hT (gV t_644 t_698 t_646 t_647 t_367) rfl rfl rfl (by decide +kernel) ⟨Nat.le_of_ble_eq_true rfl, Nat.le_of_ble_eq_true rfl⟩) (rP_v hP hK (va_recv hK hP (ci := 5) (q0 := 12) rfl rfl)) rfl rfl hl.1 rfl (lv_room (Nat.le_of_ble_eq_true rfl)) dX6_beginClause_40 ⟨Nat.le_of_ble_eq_true rfl, Nat.le_of_ble_eq_true rfl⟩) (fun r_41 hr_41 => ?_)
          have hg_42 : 0 ≤ (i 6).toInt ∧ (i 6).toInt ≤ 14 := hRi 6
          have hr_41 : BR r_41 (14 ≤ (i 6).toInt) 1 0 := hr_41
          rcases hr_41 with ⟨rfl, h_43⟩ | ⟨rfl, h_43⟩
          · skip
            refine lv_if_eq (tgt := 52) hx hb dX6_beginClause_43 (by decide) (fun c_44 => absurd c_44 (by decide)) (fun c_44 => ?_)
            refine lv_aload_n hx hb dX6_beginClause_46 rfl (lv_at hl 0 rfl) ?_
            refine lv_iconst (v := 4) hx hb dX6_beginClause_47 (by decide) ?_
            have hF_45 := rF hD hS hA
            refine va_calli (va_runV (As := [.int 4]) (rest := []) ⟨hx, hb, hml, hown, hT⟩ (c_X6_refuse l D cy a i r q tl 4 _ hRi hRr) (cwV 1 hT (gV t_657 t_658 t_659 t_660 t_653) rfl rfl rfl (by decide +kernel) ⟨Nat.le_of_ble_eq_true rfl, Nat.le_of_ble_eq_true rfl⟩) (rQ_v hP hK hD (va_recv hK hP (ci := 6) (q0 := 10) rfl rfl)) rfl rfl hl.1 rfl (lv_room (Nat.le_of_ble_eq_true rfl)) dX6_beginClause_48 ⟨Nat.le_of_ble_eq_true rfl, Nat.le_of_ble_eq_true rfl⟩) hS (fun q _ h => hF_45 q h) hF_45 (fun r_46 u_47 t H1 locs ht hvm hr_46 hB hz1 hk1 hS => ?_)
            obtain ⟨i47, r47⟩ := u_47
            obtain ⟨hP, hK1, hD1⟩ := hB
            rw [ht] at hP
            have hD := hD1.weaken (fun k q _ h => hF_45 q.1 h)
            obtain ⟨hRi, hRr, hE1, hE2, hr_46⟩ := hr_46
            have hRi : yRi i47 := hRi
            have hE1 : mEi [5] i i47 := hE1
            have hRr : yRr r47 := hRr
            have hE2 : mEr [] r r47 := hE2
            have hP : va_P D vwCl (xW cy a i47 r47 q (a 20) (a 12) ++ tl) H1 := hP
            have hD : va_D A (xW cy a i47 r47 q (a 20) (a 12) ++ tl) := hD
            have hEi : mEi [4, 5] _ i47 := Ei_tr hEi hE1 (by decide)
            have hEr : mEr [13, 14] _ r47 := Er_tr hEr hE2 (by decide)
            subst hr_46
            subst hQ
            exact W.zret hx hb hr rfl (fun t ht hW => ⟨⟨_, (i47, r47), rfl, ⟨hRi, hRr, hEi, hEr, Or.inl rfl⟩, by rw [ht]; exact hP, va_K.moved hW.alike hK, hD⟩, hS.F ht⟩) hS.2.2 dX6_beginClause_51
          · skip
            refine lv_if_eq (tgt := 52) hx hb dX6_beginClause_43 (by decide) (fun c_48 => ?_) (fun c_48 => absurd (by decide) c_48)
            refine lv_aload_n hx hb dX6_beginClause_52 rfl (lv_at hl 0 rfl) ?_
            refine lv_dup hx hb dX6_beginClause_53 rfl ?_
            refine va_get (D := D) (ci := 6) (v := .int (i 4)) (C := RX6) (T := TX6) (N := 5) hx hb hT iX6 hown hK hP 10 rfl rfl 3 (by decide) (hT _ t_648) (fun _ h9 => h9) rfl dX6_beginClause_54 ?_
            refine lv_iconst (v := 1) hx hb dX6_beginClause_57 (by decide) ?_
            refine lv_iadd hx hb dX6_beginClause_58 ?_
            refine lv_topi (fun v_49 ev_49 => ?_)
            refine va_put (D := D) (ci := 6) (v := .int v_49) (ty := .int) (C := RX6) (T := TX6) (N := 5) hx hb hT iX6 tyX6 tyX6_ok nmX6 hown hK hP hD hS 10 rfl rfl 3 (by decide) (hT _ t_648) (fun _ h9 => h9) rfl (by decide +kernel) rfl rfl (Nat.le_of_ble_eq_true rfl) dX6_beginClause_59 (fun H locs hP hD hS => ?_)
            rw [zP4] at hP hD
            have hRi := Yi_upd hRi 4 v_49 (b_rg _)
            have hEi := Ei_upd hEi 4 v_49 (by decide)
            refine lv_aload_n hx hb dX6_beginClause_62 rfl (lv_at hl 0 rfl) ?_
            refine va_get (D := D) (ci := 6) (v := .ref (a 12)) (C := RX6) (T := TX6) (N := 5) hx hb hT iX6 hown hK hP 10 rfl rfl 0 (by decide) (hT _ t_661) (fun _ h9 => h9) rfl dX6_beginClause_63 ?_
            refine lv_iload_n hx hb dX6_beginClause_66 rfl (lv_at hl 1 rfl) ?_
            have hF_50 := rF hD hS hA
            refine va_callv (va_runV (As := [.int p0]) (rest := []) ⟨hx, hb, hml, hown, hT⟩ (c_X5_beginClause l D cy a (upd i 4 v_49) r q tl p0 _ hRi hRr) (cwV 1 hT (gV t_699 t_700 t_701 t_702 t_367) rfl rfl rfl (by decide +kernel) ⟨Nat.le_of_ble_eq_true rfl, Nat.le_of_ble_eq_true rfl⟩) (rQ_v hP hK hD (va_recv hK hP (ci := 5) (q0 := 12) rfl rfl)) rfl rfl hl.1 rfl (lv_room (Nat.le_of_ble_eq_true rfl)) dX6_beginClause_67 ⟨Nat.le_of_ble_eq_true rfl, Nat.le_of_ble_eq_true rfl⟩) hS (fun q _ h => hF_50 q h) hF_50 (fun u_52 t H1 locs ht hvm hr_51 hB hz1 hk1 hS => ?_)
            obtain ⟨r52, rfl⟩ : ∃ z, z = u_52 := ⟨_, rfl⟩
            obtain ⟨hP, hK1, hD1⟩ := hB
            rw [ht] at hP
            have hD := hD1.weaken (fun k q _ h => hF_50 q.1 h)
            obtain ⟨hRr, hE2, hr_51⟩ := hr_51
            have hRr : yRr r52 := hRr
            have hE2 : mEr [13, 14] r r52 := hE2
            have hP : va_P D vwCl (xW cy a (upd i 4 v_49) r52 q (a 20) (a 12) ++ tl) H1 := hP
            have hD : va_D A (xW cy a (upd i 4 v_49) r52 q (a 20) (a 12) ++ tl) := hD
            have hEr : mEr [13, 14] _ r52 := Er_tr hEr hE2 (by decide)
            refine lv_iconst (v := 1) hx hb dX6_beginClause_70 (by decide) ?_
            subst hQ
            exact W.zret hx hb hr rfl (fun t ht hW => ⟨⟨_, (upd i 4 v_49, r52), rfl, ⟨hRi, hRr, hEi, hEr, Or.inr rfl⟩, by rw [ht]; exact hP, va_K.moved hW.alike hK, hD⟩, hS.F ht⟩) hS.2.2 dX6_beginClause_71
        · have c_40 : p0.toInt ≠ 116 := b_ne c_40
          refine lv_iload_n hx hb dX6_beginClause_24 rfl (lv_at hl 1 rfl) ?_
          refine lv_bipush (v := 98) hx hb dX6_beginClause_25 (by decide) ?_
          refine lv_icmp_eq (tgt := 36) hx hb dX6_beginClause_27 (by decide) (fun c_53 => ?_) (fun c_53 => ?_)
          · have c_53 : p0.toInt = 98 := b_eq c_53
            refine lv_aload_n hx hb dX6_beginClause_36 rfl (lv_at hl 0 rfl) ?_
            refine va_get (D := D) (ci := 6) (v := .ref (a 12)) (C := RX6) (T := TX6) (N := 5) hx hb hT iX6 hown hK hP 10 rfl rfl 0 (by decide) (hT _ t_661) (fun _ h9 => h9) rfl dX6_beginClause_37 ?_
            refine vp_callSi (W.runV (As := []) (rest := []) ⟨hx, hb, hml, hown, hT⟩ (c_X5_isFull l D cy a i r q tl hRi hRr) (cwV 0 hT (gV t_644 t_698 t_646 t_647 t_367) rfl rfl rfl (by decide +kernel) ⟨Nat.le_of_ble_eq_true rfl, Nat.le_of_ble_eq_true rfl⟩) (rP_v hP hK (va_recv hK hP (ci := 5) (q0 := 12) rfl rfl)) rfl rfl hl.1 rfl (lv_room (Nat.le_of_ble_eq_true rfl)) dX6_beginClause_40 ⟨Nat.le_of_ble_eq_true rfl, Nat.le_of_ble_eq_true rfl⟩) (fun r_54 hr_54 => ?_)
            have hg_55 : 0 ≤ (i 6).toInt ∧ (i 6).toInt ≤ 14 := hRi 6
            have hr_54 : BR r_54 (14 ≤ (i 6).toInt) 1 0 := hr_54
            rcases hr_54 with ⟨rfl, h_56⟩ | ⟨rfl, h_56⟩
            · skip
              refine lv_if_eq (tgt := 52) hx hb dX6_beginClause_43 (by decide) (fun c_57 => absurd c_57 (by decide)) (fun c_57 => ?_)
              refine lv_aload_n hx hb dX6_beginClause_46 rfl (lv_at hl 0 rfl) ?_
              refine lv_iconst (v := 4) hx hb dX6_beginClause_47 (by decide) ?_
              have hF_58 := rF hD hS hA
              refine va_calli (va_runV (As := [.int 4]) (rest := []) ⟨hx, hb, hml, hown, hT⟩ (c_X6_refuse l D cy a i r q tl 4 _ hRi hRr) (cwV 1 hT (gV t_657 t_658 t_659 t_660 t_653) rfl rfl rfl (by decide +kernel) ⟨Nat.le_of_ble_eq_true rfl, Nat.le_of_ble_eq_true rfl⟩) (rQ_v hP hK hD (va_recv hK hP (ci := 6) (q0 := 10) rfl rfl)) rfl rfl hl.1 rfl (lv_room (Nat.le_of_ble_eq_true rfl)) dX6_beginClause_48 ⟨Nat.le_of_ble_eq_true rfl, Nat.le_of_ble_eq_true rfl⟩) hS (fun q _ h => hF_58 q h) hF_58 (fun r_59 u_60 t H1 locs ht hvm hr_59 hB hz1 hk1 hS => ?_)
              obtain ⟨i60, r60⟩ := u_60
              obtain ⟨hP, hK1, hD1⟩ := hB
              rw [ht] at hP
              have hD := hD1.weaken (fun k q _ h => hF_58 q.1 h)
              obtain ⟨hRi, hRr, hE1, hE2, hr_59⟩ := hr_59
              have hRi : yRi i60 := hRi
              have hE1 : mEi [5] i i60 := hE1
              have hRr : yRr r60 := hRr
              have hE2 : mEr [] r r60 := hE2
              have hP : va_P D vwCl (xW cy a i60 r60 q (a 20) (a 12) ++ tl) H1 := hP
              have hD : va_D A (xW cy a i60 r60 q (a 20) (a 12) ++ tl) := hD
              have hEi : mEi [4, 5] _ i60 := Ei_tr hEi hE1 (by decide)
              have hEr : mEr [13, 14] _ r60 := Er_tr hEr hE2 (by decide)
              subst hr_59
              subst hQ
              exact W.zret hx hb hr rfl (fun t ht hW => ⟨⟨_, (i60, r60), rfl, ⟨hRi, hRr, hEi, hEr, Or.inl rfl⟩, by rw [ht]; exact hP, va_K.moved hW.alike hK, hD⟩, hS.F ht⟩) hS.2.2 dX6_beginClause_51
            · skip
              refine lv_if_eq (tgt := 52) hx hb dX6_beginClause_43 (by decide) (fun c_61 => ?_) (fun c_61 => absurd (by decide) c_61)
              refine lv_aload_n hx hb dX6_beginClause_52 rfl (lv_at hl 0 rfl) ?_
              refine lv_dup hx hb dX6_beginClause_53 rfl ?_
              refine va_get (D := D) (ci := 6) (v := .int (i 4)) (C := RX6) (T := TX6) (N := 5) hx hb hT iX6 hown hK hP 10 rfl rfl 3 (by decide) (hT _ t_648) (fun _ h9 => h9) rfl dX6_beginClause_54 ?_
              refine lv_iconst (v := 1) hx hb dX6_beginClause_57 (by decide) ?_
              refine lv_iadd hx hb dX6_beginClause_58 ?_
              refine lv_topi (fun v_62 ev_62 => ?_)
              refine va_put (D := D) (ci := 6) (v := .int v_62) (ty := .int) (C := RX6) (T := TX6) (N := 5) hx hb hT iX6 tyX6 tyX6_ok nmX6 hown hK hP hD hS 10 rfl rfl 3 (by decide) (hT _ t_648) (fun _ h9 => h9) rfl (by decide +kernel) rfl rfl (Nat.le_of_ble_eq_true rfl) dX6_beginClause_59 (fun H locs hP hD hS => ?_)
              rw [zP4] at hP hD
              have hRi := Yi_upd hRi 4 v_62 (b_rg _)
              have hEi := Ei_upd hEi 4 v_62 (by decide)
              refine lv_aload_n hx hb dX6_beginClause_62 rfl (lv_at hl 0 rfl) ?_
              refine va_get (D := D) (ci := 6) (v := .ref (a 12)) (C := RX6) (T := TX6) (N := 5) hx hb hT iX6 hown hK hP 10 rfl rfl 0 (by decide) (hT _ t_661) (fun _ h9 => h9) rfl dX6_beginClause_63 ?_
              refine lv_iload_n hx hb dX6_beginClause_66 rfl (lv_at hl 1 rfl) ?_
              have hF_63 := rF hD hS hA
              refine va_callv (va_runV (As := [.int p0]) (rest := []) ⟨hx, hb, hml, hown, hT⟩ (c_X5_beginClause l D cy a (upd i 4 v_62) r q tl p0 _ hRi hRr) (cwV 1 hT (gV t_699 t_700 t_701 t_702 t_367) rfl rfl rfl (by decide +kernel) ⟨Nat.le_of_ble_eq_true rfl, Nat.le_of_ble_eq_true rfl⟩) (rQ_v hP hK hD (va_recv hK hP (ci := 5) (q0 := 12) rfl rfl)) rfl rfl hl.1 rfl (lv_room (Nat.le_of_ble_eq_true rfl)) dX6_beginClause_67 ⟨Nat.le_of_ble_eq_true rfl, Nat.le_of_ble_eq_true rfl⟩) hS (fun q _ h => hF_63 q h) hF_63 (fun u_65 t H1 locs ht hvm hr_64 hB hz1 hk1 hS => ?_)
              obtain ⟨r65, rfl⟩ : ∃ z, z = u_65 := ⟨_, rfl⟩
              obtain ⟨hP, hK1, hD1⟩ := hB
              rw [ht] at hP
              have hD := hD1.weaken (fun k q _ h => hF_63 q.1 h)
              obtain ⟨hRr, hE2, hr_64⟩ := hr_64
              have hRr : yRr r65 := hRr
              have hE2 : mEr [13, 14] r r65 := hE2
              have hP : va_P D vwCl (xW cy a (upd i 4 v_62) r65 q (a 20) (a 12) ++ tl) H1 := hP
              have hD : va_D A (xW cy a (upd i 4 v_62) r65 q (a 20) (a 12) ++ tl) := hD
              have hEr : mEr [13, 14] _ r65 := Er_tr hEr hE2 (by decide)
              refine lv_iconst (v := 1) hx hb dX6_beginClause_70 (by decide) ?_
              subst hQ
              exact W.zret hx hb hr rfl (fun t ht hW => ⟨⟨_, (upd i 4 v_62, r65), rfl, ⟨hRi, hRr, hEi, hEr, Or.inr rfl⟩, by rw [ht]; exact hP, va_K.moved hW.alike hK, hD⟩, hS.F ht⟩) hS.2.2 dX6_beginClause_71
          · have c_53 : p0.toInt ≠ 98 := b_ne c_53
            refine lv_aload_n hx hb dX6_beginClause_30 rfl (lv_at hl 0 rfl) ?_
            refine lv_iconst (v := 1) hx hb dX6_beginClause_31 (by decide) ?_
            have hF_66 := rF hD hS hA
            refine va_calli (va_runV (As := [.int 1]) (rest := []) ⟨hx, hb, hml, hown, hT⟩ (c_X6_refuse l D cy a i r q tl 1 _ hRi hRr) (cwV 1 hT (gV t_657 t_658 t_659 t_660 t_653) rfl rfl rfl (by decide +kernel) ⟨Nat.le_of_ble_eq_true rfl, Nat.le_of_ble_eq_true rfl⟩) (rQ_v hP hK hD (va_recv hK hP (ci := 6) (q0 := 10) rfl rfl)) rfl rfl hl.1 rfl (lv_room (Nat.le_of_ble_eq_true rfl)) dX6_beginClause_32 ⟨Nat.le_of_ble_eq_true rfl, Nat.le_of_ble_eq_true rfl⟩) hS (fun q _ h => hF_66 q h) hF_66 (fun r_67 u_68 t H1 locs ht hvm hr_67 hB hz1 hk1 hS => ?_)
            obtain ⟨i68, r68⟩ := u_68
            obtain ⟨hP, hK1, hD1⟩ := hB
            rw [ht] at hP
            have hD := hD1.weaken (fun k q _ h => hF_66 q.1 h)
            obtain ⟨hRi, hRr, hE1, hE2, hr_67⟩ := hr_67
            have hRi : yRi i68 := hRi
            have hE1 : mEi [5] i i68 := hE1
            have hRr : yRr r68 := hRr
            have hE2 : mEr [] r r68 := hE2
            have hP : va_P D vwCl (xW cy a i68 r68 q (a 20) (a 12) ++ tl) H1 := hP
            have hD : va_D A (xW cy a i68 r68 q (a 20) (a 12) ++ tl) := hD
            have hEi : mEi [4, 5] _ i68 := Ei_tr hEi hE1 (by decide)
            have hEr : mEr [13, 14] _ r68 := Er_tr hEr hE2 (by decide)
            subst hr_67
            subst hQ
            exact W.zret hx hb hr rfl (fun t ht hW => ⟨⟨_, (i68, r68), rfl, ⟨hRi, hRr, hEi, hEr, Or.inl rfl⟩, by rw [ht]; exact hP, va_K.moved hW.alike hK, hD⟩, hS.F ht⟩) hS.2.2 dX6_beginClause_35
set_option maxHeartbeats 4000000 in
set_option maxRecDepth 100000 in
theorem c_X6_beginTest (l : Launch) (D : va_G) (cy : Nat → ClassId) (a : Nat → Nat) (i : Nat → Int32) (r : Nat → Nat → Int32) (q : Nat → Option Nat) (tl : va_W) (sz : Nat) (hRi : yRi i) (hRr : yRr r) : Met l yX6_beginTest (Cond.code yX6_beginTest cX6_beginTest 1 (some .boolean) :: gT) { frames := 3, cells := 0, slots := 0, locals := 66 } (va_Pc [.ref (a 10)] (rQ D cy (xW cy a i r q (a 20) (a 12) ++ tl) sz)) (va_Qi (fun (z : Int32) (u : (Nat → Int32) × (Nat → Nat → Int32)) => yRi u.1 ∧ yRr u.2 ∧ mEi [4, 5] i u.1 ∧ mEr [15] r u.2 ∧ (z = 0 ∨ z = 1)) (fun (u : (Nat → Int32) × (Nat → Nat → Int32)) t => va_P D vwCl (xW cy a u.1 u.2 q (a 20) (a 12) ++ tl) t.heap ∧ va_K D vwCl (vT cy) t ∧ va_D (va_A (xW cy a i r q (a 20) (a 12) ++ tl) sz) (xW cy a u.1 u.2 q (a 20) (a 12) ++ tl)) (va_A (xW cy a i r q (a 20) (a 12) ++ tl) sz)) 0 0 (va_A (xW cy a i r q (a 20) (a 12) ++ tl) sz) := by
  refine Met.ofQ (cc := cX6_beginTest) (maxL := 1) (ret := (some .boolean)) (by decide) rfl ?_
  intro p e s m args below meth c s₁ B hml hv Q hQ
  obtain ⟨rfl, hsz, hP, hK, hD0⟩ := hv
  have hx := B.exec
  have hb := B.bytes
  have hr := B.returns
  have hlocks := B.notSynchronized
  have hT : ∀ w ∈ gT, w.before _ s = true := fun w h => atoms_spec (ws := (Cond.code yX6_beginTest cX6_beginTest 1 (some .boolean) :: gT)) B.pre w (List.mem_cons_of_mem _ h)
  have hown : s.vm.findClass RX6 = some m.cls := findClass_of_methodNamed B.named
  subst hsz
  have hD := hD0.self (sz := s.heap.size)
  generalize hAe : va_A (xW cy a i r q (a 20) (a 12) ++ tl) s.heap.size = A at hD hQ
  have hA : ∀ q : Nat, s.heap.size ≤ q → A q := fun q h => by rw [← hAe]; exact Or.inr h
  have hS : va_S A s.heap s.heap [] := va_S.rf
  have hl := lv_entry ([.ref (a 10)]) (n := 1) (Nat.le_of_ble_eq_true rfl)
  rw [lg_entry_eq]
  generalize (lg_sl ([.ref (a 10)]) ++ List.replicate (1 - (lg_sl ([.ref (a 10)])).length) Slot.unset).toArray = ls at hl ⊢
  have hl : lv_has ls 1 [(0, .ref (a 10))] := hl
  have hEi : mEi [4, 5] i i := Ei_rf
  have hEr : mEr [15] r r := Er_rf
  refine lv_aload_n hx hb dX6_beginTest_0 rfl (lv_at hl 0 rfl) ?_
  refine va_get (D := D) (ci := 6) (v := .ref (a 12)) (C := RX6) (T := TX6) (N := 5) hx hb hT iX6 hown hK hP 10 rfl rfl 0 (by decide) (hT _ t_661) (fun _ h9 => h9) rfl dX6_beginTest_1 ?_
  have hF_1 := rF hD hS hA
  refine va_callv (va_runV (As := []) (rest := []) ⟨hx, hb, hml, hown, hT⟩ (c_X5_beginTest l D cy a i r q tl _ hRi hRr) (cwV 0 hT (gV t_703 t_704 t_705 t_706 t_367) rfl rfl rfl (by decide +kernel) ⟨Nat.le_of_ble_eq_true rfl, Nat.le_of_ble_eq_true rfl⟩) (rQ_v hP hK hD (va_recv hK hP (ci := 5) (q0 := 12) rfl rfl)) rfl rfl hl.1 rfl (lv_room (Nat.le_of_ble_eq_true rfl)) dX6_beginTest_4 ⟨Nat.le_of_ble_eq_true rfl, Nat.le_of_ble_eq_true rfl⟩) hS (fun q _ h => hF_1 q h) hF_1 (fun u_3 t H1 locs ht hvm hr_2 hB hz1 hk1 hS => ?_)
  obtain ⟨r3, rfl⟩ : ∃ z, z = u_3 := ⟨_, rfl⟩
  obtain ⟨hP, hK1, hD1⟩ := hB
  rw [ht] at hP
  have hD := hD1.weaken (fun k q _ h => hF_1 q.1 h)
  obtain ⟨hRr, hE2, hr_2⟩ := hr_2
  have hRr : yRr r3 := hRr
  have hE2 : mEr [15] r r3 := hE2
  have hP : va_P D vwCl (xW cy a i r3 q (a 20) (a 12) ++ tl) H1 := hP
  have hD : va_D A (xW cy a i r3 q (a 20) (a 12) ++ tl) := hD
  have hEr : mEr [15] _ r3 := Er_tr hEr hE2 (by decide)
  refine lv_aload_n hx hb dX6_beginTest_7 rfl (lv_at hl 0 rfl) ?_
  refine lv_bipush (v := 40) hx hb dX6_beginTest_8 (by decide) ?_
  have hF_4 := rF hD hS hA
  refine va_calli (va_runV (As := [.int 40]) (rest := []) ⟨hx, hb, hml, hown, hT⟩ (c_X6_pass l D cy a i r3 q tl 40 _ hRi hRr) (cwV 1 hT (gV t_678 t_679 t_680 t_681 t_653) rfl rfl rfl (by decide +kernel) ⟨Nat.le_of_ble_eq_true rfl, Nat.le_of_ble_eq_true rfl⟩) (rQ_v hP hK hD (va_recv hK hP (ci := 6) (q0 := 10) rfl rfl)) rfl rfl hl.1 rfl (lv_room (Nat.le_of_ble_eq_true rfl)) dX6_beginTest_10 ⟨Nat.le_of_ble_eq_true rfl, Nat.le_of_ble_eq_true rfl⟩) hS (fun q _ h => hF_4 q h) hF_4 (fun r_5 u_6 t H1 locs ht hvm hr_5 hB hz1 hk1 hS => ?_)
  obtain ⟨i6, r6⟩ := u_6
  obtain ⟨hP, hK1, hD1⟩ := hB
  rw [ht] at hP
  have hD := hD1.weaken (fun k q _ h => hF_4 q.1 h)
  obtain ⟨hRi, hRr, hE1, hE2, hr_5⟩ := hr_5
  have hRi : yRi i6 := hRi
  have hE1 : mEi [4, 5] i i6 := hE1
  have hRr : yRr r6 := hRr
  have hE2 : mEr [] r3 r6 := hE2
  have hP : va_P D vwCl (xW cy a i6 r6 q (a 20) (a 12) ++ tl) H1 := hP
  have hD : va_D A (xW cy a i6 r6 q (a 20) (a 12) ++ tl) := hD
  have hEi : mEi [4, 5] _ i6 := Ei_tr hEi hE1 (by decide)
  have hEr : mEr [15] _ r6 := Er_tr hEr hE2 (by decide)
  rcases hr_5 with rfl | rfl
  · skip
    subst hQ
    exact W.zret hx hb hr rfl (fun t ht hW => ⟨⟨_, (i6, r6), rfl, ⟨hRi, hRr, hEi, hEr, Or.inl rfl⟩, by rw [ht]; exact hP, va_K.moved hW.alike hK, hD⟩, hS.F ht⟩) hS.2.2 dX6_beginTest_13
  · skip
    subst hQ
    exact W.zret hx hb hr rfl (fun t ht hW => ⟨⟨_, (i6, r6), rfl, ⟨hRi, hRr, hEi, hEr, Or.inr rfl⟩, by rw [ht]; exact hP, va_K.moved hW.alike hK, hD⟩, hS.F ht⟩) hS.2.2 dX6_beginTest_13
set_option maxHeartbeats 4000000 in
set_option maxRecDepth 100000 in
theorem c_X6_endClause (l : Launch) (D : va_G) (cy : Nat → ClassId) (a : Nat → Nat) (i : Nat → Int32) (r : Nat → Nat → Int32) (q : Nat → Option Nat) (tl : va_W) (sz : Nat) (hRi : yRi i) (hRr : yRr r) : Met l yX6_endClause (Cond.code yX6_endClause cX6_endClause 1 (some .boolean) :: gT) { frames := 3, cells := 0, slots := 0, locals := 66 } (va_Pc [.ref (a 10)] (rQ D cy (xW cy a i r q (a 20) (a 12) ++ tl) sz)) (va_Qi (fun (z : Int32) (u : (Nat → Int32) × (Nat → Nat → Int32)) => yRi u.1 ∧ yRr u.2 ∧ mEi [4, 5, 6] i u.1 ∧ mEr [16] r u.2 ∧ (z = 0 ∨ z = 1)) (fun (u : (Nat → Int32) × (Nat → Nat → Int32)) t => va_P D vwCl (xW cy a u.1 u.2 q (a 20) (a 12) ++ tl) t.heap ∧ va_K D vwCl (vT cy) t ∧ va_D (va_A (xW cy a i r q (a 20) (a 12) ++ tl) sz) (xW cy a u.1 u.2 q (a 20) (a 12) ++ tl)) (va_A (xW cy a i r q (a 20) (a 12) ++ tl) sz)) 0 0 (va_A (xW cy a i r q (a 20) (a 12) ++ tl) sz) := by
  refine Met.ofQ (cc := cX6_endClause) (maxL := 1) (ret := (some .boolean)) (by decide) rfl ?_
  intro p e s m args below meth c s₁ B hml hv Q hQ
  obtain ⟨rfl, hsz, hP, hK, hD0⟩ := hv
  have hx := B.exec
  have hb := B.bytes
  have hr := B.returns
  have hlocks := B.notSynchronized
  have hT : ∀ w ∈ gT, w.before _ s = true := fun w h => atoms_spec (ws := (Cond.code yX6_endClause cX6_endClause 1 (some .boolean) :: gT)) B.pre w (List.mem_cons_of_mem _ h)
  have hown : s.vm.findClass RX6 = some m.cls := findClass_of_methodNamed B.named
  subst hsz
  have hD := hD0.self (sz := s.heap.size)
  generalize hAe : va_A (xW cy a i r q (a 20) (a 12) ++ tl) s.heap.size = A at hD hQ
  have hA : ∀ q : Nat, s.heap.size ≤ q → A q := fun q h => by rw [← hAe]; exact Or.inr h
  have hS : va_S A s.heap s.heap [] := va_S.rf
  have hl := lv_entry ([.ref (a 10)]) (n := 1) (Nat.le_of_ble_eq_true rfl)
  rw [lg_entry_eq]
  generalize (lg_sl ([.ref (a 10)]) ++ List.replicate (1 - (lg_sl ([.ref (a 10)])).length) Slot.unset).toArray = ls at hl ⊢
  have hl : lv_has ls 1 [(0, .ref (a 10))] := hl
  have hEi : mEi [4, 5, 6] i i := Ei_rf
  have hEr : mEr [16] r r := Er_rf
  refine lv_aload_n hx hb dX6_endClause_0 rfl (lv_at hl 0 rfl) ?_
  refine lv_bipush (v := 41) hx hb dX6_endClause_1 (by decide) ?_
  have hF_1 := rF hD hS hA
  refine va_calli (va_runV (As := [.int 41]) (rest := []) ⟨hx, hb, hml, hown, hT⟩ (c_X6_pass l D cy a i r q tl 41 _ hRi hRr) (cwV 1 hT (gV t_678 t_679 t_680 t_681 t_653) rfl rfl rfl (by decide +kernel) ⟨Nat.le_of_ble_eq_true rfl, Nat.le_of_ble_eq_true rfl⟩) (rQ_v hP hK hD (va_recv hK hP (ci := 6) (q0 := 10) rfl rfl)) rfl rfl hl.1 rfl (lv_room (Nat.le_of_ble_eq_true rfl)) dX6_endClause_3 ⟨Nat.le_of_ble_eq_true rfl, Nat.le_of_ble_eq_true rfl⟩) hS (fun q _ h => hF_1 q h) hF_1 (fun r_2 u_3 t H1 locs ht hvm hr_2 hB hz1 hk1 hS => ?_)
  obtain ⟨i3, r3⟩ := u_3
  obtain ⟨hP, hK1, hD1⟩ := hB
  rw [ht] at hP
  have hD := hD1.weaken (fun k q _ h => hF_1 q.1 h)
  obtain ⟨hRi, hRr, hE1, hE2, hr_2⟩ := hr_2
  have hRi : yRi i3 := hRi
  have hE1 : mEi [4, 5] i i3 := hE1
  have hRr : yRr r3 := hRr
  have hE2 : mEr [] r r3 := hE2
  have hP : va_P D vwCl (xW cy a i3 r3 q (a 20) (a 12) ++ tl) H1 := hP
  have hD : va_D A (xW cy a i3 r3 q (a 20) (a 12) ++ tl) := hD
  have hEi : mEi [4, 5, 6] _ i3 := Ei_tr hEi hE1 (by decide)
  have hEr : mEr [16] _ r3 := Er_tr hEr hE2 (by decide)
  rcases hr_2 with rfl | rfl
  · skip
    refine lv_if_ne (tgt := 11) hx hb dX6_endClause_6 (by decide) (fun c_4 => absurd (by decide) c_4) (fun c_4 => ?_)
    refine lv_iconst (v := 0) hx hb dX6_endClause_9 (by decide) ?_
    subst hQ
    exact W.zret hx hb hr rfl (fun t ht hW => ⟨⟨_, (i3, r3), rfl, ⟨hRi, hRr, hEi, hEr, Or.inl rfl⟩, by rw [ht]; exact hP, va_K.moved hW.alike hK, hD⟩, hS.F ht⟩) hS.2.2 dX6_endClause_10
  · skip
    refine lv_if_ne (tgt := 11) hx hb dX6_endClause_6 (by decide) (fun c_5 => ?_) (fun c_5 => absurd c_5 (by decide))
    refine lv_aload_n hx hb dX6_endClause_11 rfl (lv_at hl 0 rfl) ?_
    refine va_get (D := D) (ci := 6) (v := .ref (a 12)) (C := RX6) (T := TX6) (N := 5) hx hb hT iX6 hown hK hP 10 rfl rfl 0 (by decide) (hT _ t_661) (fun _ h9 => h9) rfl dX6_endClause_12 ?_
    have hF_6 := rF hD hS hA
    refine va_callv (va_runV (As := []) (rest := []) ⟨hx, hb, hml, hown, hT⟩ (c_X5_endClause l D cy a i3 r3 q tl _ hRi hRr) (cwV 0 hT (gV t_707 t_708 t_709 t_710 t_367) rfl rfl rfl (by decide +kernel) ⟨Nat.le_of_ble_eq_true rfl, Nat.le_of_ble_eq_true rfl⟩) (rQ_v hP hK hD (va_recv hK hP (ci := 5) (q0 := 12) rfl rfl)) rfl rfl hl.1 rfl (lv_room (Nat.le_of_ble_eq_true rfl)) dX6_endClause_15 ⟨Nat.le_of_ble_eq_true rfl, Nat.le_of_ble_eq_true rfl⟩) hS (fun q _ h => hF_6 q h) hF_6 (fun u_8 t H1 locs ht hvm hr_7 hB hz1 hk1 hS => ?_)
    obtain ⟨i8, r8⟩ := u_8
    obtain ⟨hP, hK1, hD1⟩ := hB
    rw [ht] at hP
    have hD := hD1.weaken (fun k q _ h => hF_6 q.1 h)
    obtain ⟨hRi, hRr, hE1, hE2, hr_7⟩ := hr_7
    have hRi : yRi i8 := hRi
    have hE1 : mEi [6] i3 i8 := hE1
    have hRr : yRr r8 := hRr
    have hE2 : mEr [16] r3 r8 := hE2
    have hP : va_P D vwCl (xW cy a i8 r8 q (a 20) (a 12) ++ tl) H1 := hP
    have hD : va_D A (xW cy a i8 r8 q (a 20) (a 12) ++ tl) := hD
    have hEi : mEi [4, 5, 6] _ i8 := Ei_tr hEi hE1 (by decide)
    have hEr : mEr [16] _ r8 := Er_tr hEr hE2 (by decide)
    refine lv_iconst (v := 1) hx hb dX6_endClause_18 (by decide) ?_
    subst hQ
    exact W.zret hx hb hr rfl (fun t ht hW => ⟨⟨_, (i8, r8), rfl, ⟨hRi, hRr, hEi, hEr, Or.inr rfl⟩, by rw [ht]; exact hP, va_K.moved hW.alike hK, hD⟩, hS.F ht⟩) hS.2.2 dX6_endClause_19
set_option maxHeartbeats 4000000 in
set_option maxRecDepth 100000 in
theorem c_X6_read (l : Launch) (D : va_G) (cy : Nat → ClassId) (a : Nat → Nat) (i : Nat → Int32) (r : Nat → Nat → Int32) (q : Nat → Option Nat) (tl : va_W) (kq vq : Nat) (p0 : Int32) (sz : Nat) (hRi : yRi i) (hRr : yRr r) (q0 : 1 ≤ p0.toInt ∧ p0.toInt ≤ 200) : Met l yX6_read (Cond.code yX6_read cX6_read 5 (some .int) :: gT) { frames := 26, cells := 0, slots := 0, locals := 640 } (va_Pc [.ref (a 10), .ref (a 8), .int p0] (rS D cy (xW cy a i r q (a 20) (a 12) ++ tl) sz kq vq)) (va_Qi (fun (z : Int32) (u : (Nat → Int32) × (Nat → Nat → Int32)) => yRi u.1 ∧ yRr u.2 ∧ mEi [3, 4, 5, 6, 7] i u.1 ∧ mEr [11, 13, 14, 15, 16, 17, 18] r u.2 ∧ True) (fun (u : (Nat → Int32) × (Nat → Nat → Int32)) t => va_P D vwCl (xW cy a u.1 u.2 q (a 20) (a 12) ++ tl) t.heap ∧ va_K D vwCl (vT cy) t ∧ va_D (va_A (xW cy a i r q (a 20) (a 12) ++ tl) sz) (xW cy a u.1 u.2 q (a 20) (a 12) ++ tl)) (va_A (xW cy a i r q (a 20) (a 12) ++ tl) sz)) 0 0 (va_A (xW cy a i r q (a 20) (a 12) ++ tl) sz) := by
  refine Met.ofQ (cc := cX6_read) (maxL := 5) (ret := (some .int)) (by decide) rfl ?_
  intro p e s m args below meth c s₁ B hml hv Q hQ
  obtain ⟨rfl, hsk, hsz, hP, hK, hD0⟩ := hv
  have hx := B.exec
  have hb := B.bytes
  have hr := B.returns
  have hlocks := B.notSynchronized
  have hT : ∀ w ∈ gT, w.before _ s = true := fun w h => atoms_spec (ws := (Cond.code yX6_read cX6_read 5 (some .int) :: gT)) B.pre w (List.mem_cons_of_mem _ h)
  have hown : s.vm.findClass RX6 = some m.cls := findClass_of_methodNamed B.named
  subst hsz
  have hD := hD0.self (sz := s.heap.size)
  generalize hAe : va_A (xW cy a i r q (a 20) (a 12) ++ tl) s.heap.size = A at hD hQ hsk
  have hA : ∀ q : Nat, s.heap.size ≤ q → A q := fun q h => by rw [← hAe]; exact Or.inr h
  have hS : va_S A s.heap s.heap [] := va_S.rf
  have hl := lv_entry ([.ref (a 10), .ref (a 8), .int p0]) (n := 5) (Nat.le_of_ble_eq_true rfl)
  rw [lg_entry_eq]
  generalize (lg_sl ([.ref (a 10), .ref (a 8), .int p0]) ++ List.replicate (5 - (lg_sl ([.ref (a 10), .ref (a 8), .int p0])).length) Slot.unset).toArray = ls at hl ⊢
  have hl : lv_has ls 5 [(0, .ref (a 10)), (1, .ref (a 8)), (2, .int p0)] := hl
  have hEi : mEi [3, 4, 5, 6, 7] i i := Ei_rf
  have hEr : mEr [11, 13, 14, 15, 16, 17, 18] r r := Er_rf
  refine lv_aload_n hx hb dX6_read_0 rfl (lv_at hl 0 rfl) ?_
  refine va_get (D := D) (ci := 6) (v := .ref (a 12)) (C := RX6) (T := TX6) (N := 5) hx hb hT iX6 hown hK hP 10 rfl rfl 0 (by decide) (hT _ t_661) (fun _ h9 => h9) rfl dX6_read_1 ?_
  have hF_1 := rF hD hS hA
  refine va_callv (va_runV (As := []) (rest := []) ⟨hx, hb, hml, hown, hT⟩ (c_X5_clear l D cy a i r q tl _ hRi hRr) (cwV 0 hT (gV t_711 t_712 t_713 t_714 t_367) rfl rfl rfl (by decide +kernel) ⟨Nat.le_of_ble_eq_true rfl, Nat.le_of_ble_eq_true rfl⟩) (rQ_v hP hK hD (va_recv hK hP (ci := 5) (q0 := 12) rfl rfl)) rfl rfl hl.1 rfl (lv_room (Nat.le_of_ble_eq_true rfl)) dX6_read_4 ⟨Nat.le_of_ble_eq_true rfl, Nat.le_of_ble_eq_true rfl⟩) hS (fun q _ h => hF_1 q h) hF_1 (fun u_3 t H1 locs ht hvm hr_2 hB hz1 hk1 hS => ?_)
  obtain ⟨i3, r3⟩ := u_3
  obtain ⟨hP, hK1, hD1⟩ := hB
  rw [ht] at hP
  have hD := hD1.weaken (fun k q _ h => hF_1 q.1 h)
  obtain ⟨hRi, hRr, hE1, hE2, hr_2⟩ := hr_2
  have hRi : yRi i3 := hRi
  have hE1 : mEi [6, 7] i i3 := hE1
  have hRr : yRr r3 := hRr
  have hE2 : mEr [] r r3 := hE2
  have hP : va_P D vwCl (xW cy a i3 r3 q (a 20) (a 12) ++ tl) H1 := hP
  have hD : va_D A (xW cy a i3 r3 q (a 20) (a 12) ++ tl) := hD
  have hEi : mEi [3, 4, 5, 6, 7] _ i3 := Ei_tr hEi hE1 (by decide)
  have hEr : mEr [11, 13, 14, 15, 16, 17, 18] _ r3 := Er_tr hEr hE2 (by decide)
  refine lv_aload_n hx hb dX6_read_7 rfl (lv_at hl 0 rfl) ?_
  refine lv_iload_n hx hb dX6_read_8 rfl (lv_at hl 2 rfl) ?_
  refine lv_sipush (v := 200) hx hb dX6_read_9 (by decide) ?_
  refine va_mmin hx hb (by rw [hml]; exact hl.1.symm) hown (hT _ t_715) (hT _ t_380) (hT _ t_289) (hT _ t_381) (Nat.le_of_ble_eq_true rfl) (Nat.le_of_ble_eq_true rfl) (Nat.le_of_ble_eq_true rfl) (Nat.le_of_ble_eq_true rfl) dX6_read_12 ?_
  refine lv_topi (fun v_4 ev_4 => ?_)
  have hmv_4 : 0 ≤ v_4.toInt ∧ v_4.toInt ≤ 200 := by rw [ev_4]; exact min_rg (by omega)
  refine va_put (D := D) (ci := 6) (v := .int v_4) (ty := .int) (C := RX6) (T := TX6) (N := 5) hx hb hT iX6 tyX6 tyX6_ok nmX6 hown hK hP hD hS 10 rfl rfl 2 (by decide) (hT _ t_649) (fun _ h9 => h9) rfl (by decide +kernel) rfl rfl (Nat.le_of_ble_eq_true rfl) dX6_read_15 (fun H locs hP hD hS => ?_)
  rw [zP3] at hP hD
  have hRi := Yi_upd hRi 3 v_4 ⟨by show (0 : Int) ≤ v_4.toInt; omega, by show v_4.toInt ≤ (200 : Int); omega⟩
  have hEi := Ei_upd hEi 3 v_4 (by decide)
  refine lv_iconst (v := 0) hx hb dX6_read_18 (by decide) ?_
  refine lv_istore_n (lv' := [(3, .int 0), (0, .ref (a 10)), (1, .ref (a 8)), (2, .int p0)]) hx hb dX6_read_19 rfl hl (by decide) rfl (fun ls hl => ?_)
  have loop_5 : ∀ (n : Nat) (x5_3 : Int32) (r5 : Nat → Nat → Int32) (H : Heap) (locs : List Loc) (ls : Array Slot), (200 - x5_3.toInt).toNat < n → (0 ≤ x5_3.toInt ∧ x5_3.toInt ≤ 200) → yRr r5 → mEr [11, 13, 14, 15, 16, 17, 18] r r5 → va_P D vwCl (xW cy a (upd i3 3 v_4) r5 q (a 20) (a 12) ++ tl) H → va_D A (xW cy a (upd i3 3 v_4) r5 q (a 20) (a 12) ++ tl) → va_S A s.heap H locs → lv_has ls 5 [(3, .int x5_3), (0, .ref (a 10)), (1, .ref (a 8)), (2, .int p0)] → W p l e ({ frames := 26, cells := 0, slots := 0, locals := 640 } : Room) s m ([.ref (a 10), .ref (a 8), .int p0] : List Value).toArray below meth c H locs 0 0 Q (F0 m 20 ls []) := by
    intro n
    induction n with
    | zero =>
      intro x5_3 r5 H locs ls hm5 hf5_0 hRr hEr hP hD hS hl
      exact absurd hm5 (by omega)
    | succ n ih5 =>
      intro x5_3 r5 H locs ls hm5 hf5_0 hRr hEr hP hD hS hl
      refine lv_iload_n hx hb dX6_read_20 rfl (lv_at hl 0 rfl) ?_
      refine lv_aload_n hx hb dX6_read_21 rfl (lv_at hl 1 rfl) ?_
      refine va_get (D := D) (ci := 6) (v := .int v_4) (C := RX6) (T := TX6) (N := 5) hx hb hT iX6 hown hK hP 10 rfl rfl 2 (by decide) (hT _ t_649) (fun _ h9 => h9) rfl dX6_read_22 ?_
      refine lv_icmp_ge (tgt := 46) hx hb dX6_read_25 (by decide) (fun c_6 => ?_) (fun c_6 => ?_)
      · have c_6 : v_4.toInt ≤ x5_3.toInt := b_le c_6
        refine lv_aload_n hx hb dX6_read_46 rfl (lv_at hl 1 rfl) ?_
        refine lv_iconst (v := 0) hx hb dX6_read_47 (by decide) ?_
        refine va_put (D := D) (ci := 6) (v := .int 0) (ty := .int) (C := RX6) (T := TX6) (N := 5) hx hb hT iX6 tyX6 tyX6_ok nmX6 hown hK hP hD hS 10 rfl rfl 3 (by decide) (hT _ t_648) (fun _ h9 => h9) rfl (by decide +kernel) rfl rfl (Nat.le_of_ble_eq_true rfl) dX6_read_48 (fun H locs hP hD hS => ?_)
        rw [zP4] at hP hD
        have hRi := Yi_upd hRi 4 0 (b_rg _)
        have hEi := Ei_upd hEi 4 0 (by decide)
        refine lv_aload_n hx hb dX6_read_51 rfl (lv_at hl 1 rfl) ?_
        refine lv_iconst (v := 0) hx hb dX6_read_52 (by decide) ?_
        refine va_put (D := D) (ci := 6) (v := .int 0) (ty := .int) (C := RX6) (T := TX6) (N := 5) hx hb hT iX6 tyX6 tyX6_ok nmX6 hown hK hP hD hS 10 rfl rfl 4 (by decide) (hT _ t_651) (fun _ h9 => h9) rfl (by decide +kernel) rfl rfl (Nat.le_of_ble_eq_true rfl) dX6_read_53 (fun H locs hP hD hS => ?_)
        rw [zP5] at hP hD
        have hRi := Yi_upd hRi 5 0 (b_rg _)
        have hEi := Ei_upd hEi 5 0 (by decide)
        refine lv_iconst (v := 0) hx hb dX6_read_56 (by decide) ?_
        refine lv_istore_n (lv' := [(3, .int 0), (0, .ref (a 10)), (1, .ref (a 8)), (2, .int p0)]) hx hb dX6_read_57 rfl hl (by decide) rfl (fun ls hl => ?_)
        have loop_7 : ∀ (n : Nat) (x7_3 : Int32) (i7 : Nat → Int32) (r7 : Nat → Nat → Int32) (H : Heap) (locs : List Loc) (ls : Array Slot), (15 - x7_3.toInt).toNat < n → (0 ≤ x7_3.toInt ∧ x7_3.toInt ≤ 15) → yRi i7 → mEi [3, 4, 5, 6, 7] i i7 → yRr r7 → mEr [11, 13, 14, 15, 16, 17, 18] r r7 → va_P D vwCl (xW cy a i7 r7 q (a 20) (a 12) ++ tl) H → va_D A (xW cy a i7 r7 q (a 20) (a 12) ++ tl) → va_S A s.heap H locs → lv_has ls 5 [(3, .int x7_3), (0, .ref (a 10)), (1, .ref (a 8)), (2, .int p0)] → W p l e ({ frames := 26, cells := 0, slots := 0, locals := 640 } : Room) s m ([.ref (a 10), .ref (a 8), .int p0] : List Value).toArray below meth c H locs 0 0 Q (F0 m 58 ls []) := by
          intro n
          induction n with
          | zero =>
            intro x7_3 i7 r7 H locs ls hm7 hf7_0 hRi hEi hRr hEr hP hD hS hl
            exact absurd hm7 (by omega)
          | succ n ih7 =>
            intro x7_3 i7 r7 H locs ls hm7 hf7_0 hRi hEi hRr hEr hP hD hS hl
            refine lv_iload_n hx hb dX6_read_58 rfl (lv_at hl 0 rfl) ?_
            refine lv_bipush (v := 14) hx hb dX6_read_59 (by decide) ?_
            refine lv_icmp_gt (tgt := 150) hx hb dX6_read_61 (by decide) (fun c_8 => ?_) (fun c_8 => ?_)
            · have c_8 : 14 < x7_3.toInt := b_lt c_8
              refine lv_aload_n hx hb dX6_read_150 rfl (lv_at hl 1 rfl) ?_
              refine va_get (D := D) (ci := 6) (v := .int (i7 5)) (C := RX6) (T := TX6) (N := 5) hx hb hT iX6 hown hK hP 10 rfl rfl 4 (by decide) (hT _ t_651) (fun _ h9 => h9) rfl dX6_read_151 ?_
              subst hQ
              exact W.iret (v := i7 5) hx hb hr (fun t ht hW => ⟨⟨_, (i7, r7), rfl, ⟨hRi, hRr, hEi, hEr, trivial⟩, by rw [ht]; exact hP, va_K.moved hW.alike hK, hD⟩, hS.F ht⟩) hS.2.2 dX6_read_154
            · have c_8 : x7_3.toInt ≤ 14 := b_nlt c_8
              refine lv_aload_n hx hb dX6_read_64 rfl (lv_at hl 1 rfl) ?_
              refine vp_callSi (W.runV (As := []) (rest := []) ⟨hx, hb, hml, hown, hT⟩ (c_X6_peek l D cy a i7 r7 q tl hRi hRr) (cwV 0 hT (gV t_652 t_654 t_655 t_656 t_653) rfl rfl rfl (by decide +kernel) ⟨Nat.le_of_ble_eq_true rfl, Nat.le_of_ble_eq_true rfl⟩) (rP_v hP hK (va_recv hK hP (ci := 6) (q0 := 10) rfl rfl)) rfl rfl hl.1 rfl (lv_room (Nat.le_of_ble_eq_true rfl)) dX6_read_65 ⟨Nat.le_of_ble_eq_true rfl, Nat.le_of_ble_eq_true rfl⟩) (fun r_9 hr_9 => ?_)
              have hr_9 : -1 ≤ r_9.toInt ∧ r_9.toInt ≤ 255 := hr_9
              refine lv_istore (lv' := [(4, .int r_9), (3, .int x7_3), (0, .ref (a 10)), (1, .ref (a 8)), (2, .int p0)]) hx hb dX6_read_68 hl (by decide) rfl (fun ls hl => ?_)
              refine lv_aload_n hx hb dX6_read_70 rfl (lv_at hl 2 rfl) ?_
              refine lv_iload hx hb dX6_read_71 (lv_at hl 0 rfl) ?_
              have hF_10 := rF hD hS hA
              refine va_calli (va_runV (As := [.int r_9]) (rest := []) ⟨hx, hb, hml, hown, hT⟩ (c_X6_beginClause l D cy a i7 r7 q tl r_9 _ hRi hRr) (cwV 1 hT (gV t_716 t_717 t_718 t_719 t_653) rfl rfl rfl (by decide +kernel) ⟨Nat.le_of_ble_eq_true rfl, Nat.le_of_ble_eq_true rfl⟩) (rQ_v hP hK hD (va_recv hK hP (ci := 6) (q0 := 10) rfl rfl)) rfl rfl hl.1 rfl (lv_room (Nat.le_of_ble_eq_true rfl)) dX6_read_73 ⟨Nat.le_of_ble_eq_true rfl, Nat.le_of_ble_eq_true rfl⟩) hS (fun q _ h => hF_10 q h) hF_10 (fun r_11 u_12 t H1 locs ht hvm hr_11 hB hz1 hk1 hS => ?_)
              obtain ⟨i12, r12⟩ := u_12
              obtain ⟨hP, hK1, hD1⟩ := hB
              rw [ht] at hP
              have hD := hD1.weaken (fun k q _ h => hF_10 q.1 h)
              obtain ⟨hRi, hRr, hE1, hE2, hr_11⟩ := hr_11
              have hRi : yRi i12 := hRi
              have hE1 : mEi [4, 5] i7 i12 := hE1
              have hRr : yRr r12 := hRr
              have hE2 : mEr [13, 14] r7 r12 := hE2
              have hP : va_P D vwCl (xW cy a i12 r12 q (a 20) (a 12) ++ tl) H1 := hP
              have hD : va_D A (xW cy a i12 r12 q (a 20) (a 12) ++ tl) := hD
              have hEi : mEi [3, 4, 5, 6, 7] _ i12 := Ei_tr hEi hE1 (by decide)
              have hEr : mEr [11, 13, 14, 15, 16, 17, 18] _ r12 := Er_tr hEr hE2 (by decide)
              rcases hr_11 with rfl | rfl
              · skip
                refine lv_if_eq (tgt := 139) hx hb dX6_read_76 (by decide) (fun c_13 => ?_) (fun c_13 => absurd (by decide) c_13)
                refine lv_aload_n hx hb dX6_read_139 rfl (lv_at hl 2 rfl) ?_
                refine va_get (D := D) (ci := 6) (v := .int (i12 5)) (C := RX6) (T := TX6) (N := 5) hx hb hT iX6 hown hK hP 10 rfl rfl 4 (by decide) (hT _ t_651) (fun _ h9 => h9) rfl dX6_read_140 ?_
                subst hQ
                exact W.iret (v := i12 5) hx hb hr (fun t ht hW => ⟨⟨_, (i12, r12), rfl, ⟨hRi, hRr, hEi, hEr, trivial⟩, by rw [ht]; exact hP, va_K.moved hW.alike hK, hD⟩, hS.F ht⟩) hS.2.2 dX6_read_143
              · skip
                refine lv_if_eq (tgt := 139) hx hb dX6_read_76 (by decide) (fun c_14 => absurd c_14 (by decide)) (fun c_14 => ?_)
                refine lv_iload hx hb dX6_read_79 (lv_at hl 0 rfl) ?_
                refine lv_bipush (v := 98) hx hb dX6_read_81 (by decide) ?_
                refine lv_icmp_eq (tgt := 95) hx hb dX6_read_83 (by decide) (fun c_15 => ?_) (fun c_15 => ?_)
                · have c_15 : r_9.toInt = 98 := b_eq c_15
                  refine lv_aload_n hx hb dX6_read_95 rfl (lv_at hl 2 rfl) ?_
                  have hF_16 := rF hD hS hA
                  refine va_calli (va_runV (As := []) (rest := []) ⟨hx, hb, hml, hown, hT⟩ (c_X6_beginTest l D cy a i12 r12 q tl _ hRi hRr) (cwV 0 hT (gV t_720 t_721 t_722 t_723 t_653) rfl rfl rfl (by decide +kernel) ⟨Nat.le_of_ble_eq_true rfl, Nat.le_of_ble_eq_true rfl⟩) (rQ_v hP hK hD (va_recv hK hP (ci := 6) (q0 := 10) rfl rfl)) rfl rfl hl.1 rfl (lv_room (Nat.le_of_ble_eq_true rfl)) dX6_read_96 ⟨Nat.le_of_ble_eq_true rfl, Nat.le_of_ble_eq_true rfl⟩) hS (fun q _ h => hF_16 q h) hF_16 (fun r_17 u_18 t H1 locs ht hvm hr_17 hB hz1 hk1 hS => ?_)
                  obtain ⟨i18, r18⟩ := u_18
                  obtain ⟨hP, hK1, hD1⟩ := hB
                  rw [ht] at hP
                  have hD := hD1.weaken (fun k q _ h => hF_16 q.1 h)
                  obtain ⟨hRi, hRr, hE1, hE2, hr_17⟩ := hr_17
                  have hRi : yRi i18 := hRi
                  have hE1 : mEi [4, 5] i12 i18 := hE1
                  have hRr : yRr r18 := hRr
                  have hE2 : mEr [15] r12 r18 := hE2
                  have hP : va_P D vwCl (xW cy a i18 r18 q (a 20) (a 12) ++ tl) H1 := hP
                  have hD : va_D A (xW cy a i18 r18 q (a 20) (a 12) ++ tl) := hD
                  have hEi : mEi [3, 4, 5, 6, 7] _ i18 := Ei_tr hEi hE1 (by decide)
                  have hEr : mEr [11, 13, 14, 15, 16, 17, 18] _ r18 := Er_tr hEr hE2 (by decide)
                  rcases hr_17 with rfl | rfl
                  · skip
                    refine lv_if_eq (tgt := 139) hx hb dX6_read_99 (by decide) (fun c_19 => ?_) (fun c_19 => absurd (by decide) c_19)
                    refine lv_aload_n hx hb dX6_read_139 rfl (lv_at hl 2 rfl) ?_
                    refine va_get (D := D) (ci := 6) (v := .int (i18 5)) (C := RX6) (T := TX6) (N := 5) hx hb hT iX6 hown hK hP 10 rfl rfl 4 (by decide) (hT _ t_651) (fun _ h9 => h9) rfl dX6_read_140 ?_
                    subst hQ
                    exact W.iret (v := i18 5) hx hb hr (fun t ht hW => ⟨⟨_, (i18, r18), rfl, ⟨hRi, hRr, hEi, hEr, trivial⟩, by rw [ht]; exact hP, va_K.moved hW.alike hK, hD⟩, hS.F ht⟩) hS.2.2 dX6_read_143
                  · skip
                    refine lv_if_eq (tgt := 139) hx hb dX6_read_99 (by decide) (fun c_20 => absurd c_20 (by decide)) (fun c_20 => ?_)
                    refine lv_aload_n hx hb dX6_read_102 rfl (lv_at hl 2 rfl) ?_
                    refine lv_iconst (v := 1) hx hb dX6_read_103 (by decide) ?_
                    refine lv_bipush (v := 124) hx hb dX6_read_104 (by decide) ?_
                    have hF_21 := rF hD hS hA
                    refine va_calli (va_runV (As := [.int 1, .int 124]) (rest := []) ⟨hx, hb, hml, hown, hT⟩ (c_X6_condition_k1_124 l D cy a i18 r18 q tl kq vq _ hRi hRr) (cwV 2 hT (gV t_690 t_691 t_692 t_693 t_653) rfl rfl rfl (by decide +kernel) ⟨Nat.le_of_ble_eq_true rfl, Nat.le_of_ble_eq_true rfl⟩) (rS_v hsk hS hF_21 hP hK hD (va_recv hK hP (ci := 6) (q0 := 10) rfl rfl)) rfl rfl hl.1 rfl (lv_room (Nat.le_of_ble_eq_true rfl)) dX6_read_106 ⟨Nat.le_of_ble_eq_true rfl, Nat.le_of_ble_eq_true rfl⟩) hS (fun q _ h => hF_21 q h) hF_21 (fun r_22 u_23 t H1 locs ht hvm hr_22 hB hz1 hk1 hS => ?_)
                    obtain ⟨i23, r23⟩ := u_23
                    obtain ⟨hP, hK1, hD1⟩ := hB
                    rw [ht] at hP
                    have hD := hD1.weaken (fun k q _ h => hF_21 q.1 h)
                    obtain ⟨hRi, hRr, hE1, hE2, hr_22⟩ := hr_22
                    have hRi : yRi i23 := hRi
                    have hE1 : mEi [4, 5, 7] i18 i23 := hE1
                    have hRr : yRr r23 := hRr
                    have hE2 : mEr [17, 18] r18 r23 := hE2
                    have hP : va_P D vwCl (xW cy a i23 r23 q (a 20) (a 12) ++ tl) H1 := hP
                    have hD : va_D A (xW cy a i23 r23 q (a 20) (a 12) ++ tl) := hD
                    have hEi : mEi [3, 4, 5, 6, 7] _ i23 := Ei_tr hEi hE1 (by decide)
                    have hEr : mEr [11, 13, 14, 15, 16, 17, 18] _ r23 := Er_tr hEr hE2 (by decide)
                    rcases hr_22 with rfl | rfl
                    · skip
                      refine lv_if_eq (tgt := 139) hx hb dX6_read_109 (by decide) (fun c_24 => ?_) (fun c_24 => absurd (by decide) c_24)
                      refine lv_aload_n hx hb dX6_read_139 rfl (lv_at hl 2 rfl) ?_
                      refine va_get (D := D) (ci := 6) (v := .int (i23 5)) (C := RX6) (T := TX6) (N := 5) hx hb hT iX6 hown hK hP 10 rfl rfl 4 (by decide) (hT _ t_651) (fun _ h9 => h9) rfl dX6_read_140 ?_
                      subst hQ
                      exact W.iret (v := i23 5) hx hb hr (fun t ht hW => ⟨⟨_, (i23, r23), rfl, ⟨hRi, hRr, hEi, hEr, trivial⟩, by rw [ht]; exact hP, va_K.moved hW.alike hK, hD⟩, hS.F ht⟩) hS.2.2 dX6_read_143
                    · skip
                      refine lv_if_eq (tgt := 139) hx hb dX6_read_109 (by decide) (fun c_25 => absurd c_25 (by decide)) (fun c_25 => ?_)
                      refine lv_aload_n hx hb dX6_read_112 rfl (lv_at hl 2 rfl) ?_
                      have hF_26 := rF hD hS hA
                      refine va_calli (va_runV (As := []) (rest := []) ⟨hx, hb, hml, hown, hT⟩ (c_X6_endClause l D cy a i23 r23 q tl _ hRi hRr) (cwV 0 hT (gV t_724 t_725 t_726 t_727 t_653) rfl rfl rfl (by decide +kernel) ⟨Nat.le_of_ble_eq_true rfl, Nat.le_of_ble_eq_true rfl⟩) (rQ_v hP hK hD (va_recv hK hP (ci := 6) (q0 := 10) rfl rfl)) rfl rfl hl.1 rfl (lv_room (Nat.le_of_ble_eq_true rfl)) dX6_read_113 ⟨Nat.le_of_ble_eq_true rfl, Nat.le_of_ble_eq_true rfl⟩) hS (fun q _ h => hF_26 q h) hF_26 (fun r_27 u_28 t H1 locs ht hvm hr_27 hB hz1 hk1 hS => ?_)
                      obtain ⟨i28, r28⟩ := u_28
                      obtain ⟨hP, hK1, hD1⟩ := hB
                      rw [ht] at hP
                      have hD := hD1.weaken (fun k q _ h => hF_26 q.1 h)
                      obtain ⟨hRi, hRr, hE1, hE2, hr_27⟩ := hr_27
                      have hRi : yRi i28 := hRi
                      have hE1 : mEi [4, 5, 6] i23 i28 := hE1
                      have hRr : yRr r28 := hRr
                      have hE2 : mEr [16] r23 r28 := hE2
                      have hP : va_P D vwCl (xW cy a i28 r28 q (a 20) (a 12) ++ tl) H1 := hP
                      have hD : va_D A (xW cy a i28 r28 q (a 20) (a 12) ++ tl) := hD
                      have hEi : mEi [3, 4, 5, 6, 7] _ i28 := Ei_tr hEi hE1 (by decide)
                      have hEr : mEr [11, 13, 14, 15, 16, 17, 18] _ r28 := Er_tr hEr hE2 (by decide)
                      rcases hr_27 with rfl | rfl
                      · skip
                        refine lv_if_eq (tgt := 139) hx hb dX6_read_116 (by decide) (fun c_29 => ?_) (fun c_29 => absurd (by decide) c_29)
                        refine lv_aload_n hx hb dX6_read_139 rfl (lv_at hl 2 rfl) ?_
                        refine va_get (D := D) (ci := 6) (v := .int (i28 5)) (C := RX6) (T := TX6) (N := 5) hx hb hT iX6 hown hK hP 10 rfl rfl 4 (by decide) (hT _ t_651) (fun _ h9 => h9) rfl dX6_read_140 ?_
                        subst hQ
                        exact W.iret (v := i28 5) hx hb hr (fun t ht hW => ⟨⟨_, (i28, r28), rfl, ⟨hRi, hRr, hEi, hEr, trivial⟩, by rw [ht]; exact hP, va_K.moved hW.alike hK, hD⟩, hS.F ht⟩) hS.2.2 dX6_read_143
                      · skip
                        refine lv_if_eq (tgt := 139) hx hb dX6_read_116 (by decide) (fun c_30 => absurd c_30 (by decide)) (fun c_30 => ?_)
                        refine lv_aload_n hx hb dX6_read_119 rfl (lv_at hl 2 rfl) ?_
                        refine va_get (D := D) (ci := 6) (v := .int (i28 4)) (C := RX6) (T := TX6) (N := 5) hx hb hT iX6 hown hK hP 10 rfl rfl 3 (by decide) (hT _ t_648) (fun _ h9 => h9) rfl dX6_read_120 ?_
                        refine lv_aload_n hx hb dX6_read_123 rfl (lv_at hl 2 rfl) ?_
                        refine va_get (D := D) (ci := 6) (v := .int (i28 3)) (C := RX6) (T := TX6) (N := 5) hx hb hT iX6 hown hK hP 10 rfl rfl 2 (by decide) (hT _ t_649) (fun _ h9 => h9) rfl dX6_read_124 ?_
                        have hg_31 : 0 ≤ (i28 3).toInt ∧ (i28 3).toInt ≤ 200 := hRi 3
                        refine lv_icmp_eq (tgt := 139) hx hb dX6_read_127 (by decide) (fun c_32 => ?_) (fun c_32 => ?_)
                        · have c_32 : (i28 4).toInt = (i28 3).toInt := b_eq c_32
                          refine lv_aload_n hx hb dX6_read_139 rfl (lv_at hl 2 rfl) ?_
                          refine va_get (D := D) (ci := 6) (v := .int (i28 5)) (C := RX6) (T := TX6) (N := 5) hx hb hT iX6 hown hK hP 10 rfl rfl 4 (by decide) (hT _ t_651) (fun _ h9 => h9) rfl dX6_read_140 ?_
                          subst hQ
                          exact W.iret (v := i28 5) hx hb hr (fun t ht hW => ⟨⟨_, (i28, r28), rfl, ⟨hRi, hRr, hEi, hEr, trivial⟩, by rw [ht]; exact hP, va_K.moved hW.alike hK, hD⟩, hS.F ht⟩) hS.2.2 dX6_read_143
                        · have c_32 : (i28 4).toInt ≠ (i28 3).toInt := b_ne c_32
                          refine lv_aload_n hx hb dX6_read_130 rfl (lv_at hl 2 rfl) ?_
                          refine lv_bipush (v := 59) hx hb dX6_read_131 (by decide) ?_
                          have hF_33 := rF hD hS hA
                          refine va_calli (va_runV (As := [.int 59]) (rest := []) ⟨hx, hb, hml, hown, hT⟩ (c_X6_pass l D cy a i28 r28 q tl 59 _ hRi hRr) (cwV 1 hT (gV t_678 t_679 t_680 t_681 t_653) rfl rfl rfl (by decide +kernel) ⟨Nat.le_of_ble_eq_true rfl, Nat.le_of_ble_eq_true rfl⟩) (rQ_v hP hK hD (va_recv hK hP (ci := 6) (q0 := 10) rfl rfl)) rfl rfl hl.1 rfl (lv_room (Nat.le_of_ble_eq_true rfl)) dX6_read_133 ⟨Nat.le_of_ble_eq_true rfl, Nat.le_of_ble_eq_true rfl⟩) hS (fun q _ h => hF_33 q h) hF_33 (fun r_34 u_35 t H1 locs ht hvm hr_34 hB hz1 hk1 hS => ?_)
                          obtain ⟨i35, r35⟩ := u_35
                          obtain ⟨hP, hK1, hD1⟩ := hB
                          rw [ht] at hP
                          have hD := hD1.weaken (fun k q _ h => hF_33 q.1 h)
                          obtain ⟨hRi, hRr, hE1, hE2, hr_34⟩ := hr_34
                          have hRi : yRi i35 := hRi
                          have hE1 : mEi [4, 5] i28 i35 := hE1
                          have hRr : yRr r35 := hRr
                          have hE2 : mEr [] r28 r35 := hE2
                          have hP : va_P D vwCl (xW cy a i35 r35 q (a 20) (a 12) ++ tl) H1 := hP
                          have hD : va_D A (xW cy a i35 r35 q (a 20) (a 12) ++ tl) := hD
                          have hEi : mEi [3, 4, 5, 6, 7] _ i35 := Ei_tr hEi hE1 (by decide)
                          have hEr : mEr [11, 13, 14, 15, 16, 17, 18] _ r35 := Er_tr hEr hE2 (by decide)
                          rcases hr_34 with rfl | rfl
                          · skip
                            refine lv_if_ne (tgt := 144) hx hb dX6_read_136 (by decide) (fun c_36 => absurd (by decide) c_36) (fun c_36 => ?_)
                            refine lv_aload_n hx hb dX6_read_139 rfl (lv_at hl 2 rfl) ?_
                            refine va_get (D := D) (ci := 6) (v := .int (i35 5)) (C := RX6) (T := TX6) (N := 5) hx hb hT iX6 hown hK hP 10 rfl rfl 4 (by decide) (hT _ t_651) (fun _ h9 => h9) rfl dX6_read_140 ?_
                            subst hQ
                            exact W.iret (v := i35 5) hx hb hr (fun t ht hW => ⟨⟨_, (i35, r35), rfl, ⟨hRi, hRr, hEi, hEr, trivial⟩, by rw [ht]; exact hP, va_K.moved hW.alike hK, hD⟩, hS.F ht⟩) hS.2.2 dX6_read_143
                          · skip
                            refine lv_if_ne (tgt := 144) hx hb dX6_read_136 (by decide) (fun c_37 => ?_) (fun c_37 => absurd c_37 (by decide))
                            obtain ⟨x_38, ex_38⟩ : ∃ y : Int32, y = x7_3 + 1 := ⟨_, rfl⟩
                            refine lv_iinc (v := x_38) (lv' := [(3, .int x_38), (4, .int r_9), (0, .ref (a 10)), (1, .ref (a 8)), (2, .int p0)]) hx hb dX6_read_144 hl (k := 1) rfl (by rw [ex_38]; rfl) (by decide) rfl (fun ls hl => ?_)
                            have hx_38 : x_38.toInt = x7_3.toInt + 1 := by rw [ex_38]; have := b_rg x7_3; exact i_add (a := x7_3.toInt) (b := 1) rfl rfl (by omega) (by omega)
                            refine lv_goto (tgt := 58) hx hb dX6_read_147 (by decide) ?_
                            exact ih7 x_38 i35 r35 _ _ _ (by first | omega | (simp only [Int.toNat]; omega)) (by first | omega | decide) hRi hEi hRr hEr  hP hD hS (lv_sub hl [0, 2, 3, 4] rfl)
                · have c_15 : r_9.toInt ≠ 98 := b_ne c_15
                  refine lv_aload_n hx hb dX6_read_86 rfl (lv_at hl 2 rfl) ?_
                  refine lv_iconst (v := 0) hx hb dX6_read_87 (by decide) ?_
                  refine lv_iconst (v := 1) hx hb dX6_read_88 (by decide) ?_
                  have hF_39 := rF hD hS hA
                  refine va_calli (va_runV (As := [.int 0, .int 1]) (rest := []) ⟨hx, hb, hml, hown, hT⟩ (c_X6_expression_k0_1 l D cy a i12 r12 q tl kq vq _ hRi hRr) (cwV 2 hT (gV t_674 t_675 t_676 t_677 t_653) rfl rfl rfl (by decide +kernel) ⟨Nat.le_of_ble_eq_true rfl, Nat.le_of_ble_eq_true rfl⟩) (rS_v hsk hS hF_39 hP hK hD (va_recv hK hP (ci := 6) (q0 := 10) rfl rfl)) rfl rfl hl.1 rfl (lv_room (Nat.le_of_ble_eq_true rfl)) dX6_read_89 ⟨Nat.le_of_ble_eq_true rfl, Nat.le_of_ble_eq_true rfl⟩) hS (fun q _ h => hF_39 q h) hF_39 (fun r_40 u_41 t H1 locs ht hvm hr_40 hB hz1 hk1 hS => ?_)
                  obtain ⟨i41, r41⟩ := u_41
                  obtain ⟨hP, hK1, hD1⟩ := hB
                  rw [ht] at hP
                  have hD := hD1.weaken (fun k q _ h => hF_39 q.1 h)
                  obtain ⟨hRi, hRr, hE1, hE2, hr_40⟩ := hr_40
                  have hRi : yRi i41 := hRi
                  have hE1 : mEi [4, 5, 7] i12 i41 := hE1
                  have hRr : yRr r41 := hRr
                  have hE2 : mEr [17, 18] r12 r41 := hE2
                  have hP : va_P D vwCl (xW cy a i41 r41 q (a 20) (a 12) ++ tl) H1 := hP
                  have hD : va_D A (xW cy a i41 r41 q (a 20) (a 12) ++ tl) := hD
                  have hEi : mEi [3, 4, 5, 6, 7] _ i41 := Ei_tr hEi hE1 (by decide)
                  have hEr : mEr [11, 13, 14, 15, 16, 17, 18] _ r41 := Er_tr hEr hE2 (by decide)
                  rcases hr_40 with rfl | rfl
                  · skip
                    refine lv_if_eq (tgt := 139) hx hb dX6_read_92 (by decide) (fun c_42 => ?_) (fun c_42 => absurd (by decide) c_42)
                    refine lv_aload_n hx hb dX6_read_139 rfl (lv_at hl 2 rfl) ?_
                    refine va_get (D := D) (ci := 6) (v := .int (i41 5)) (C := RX6) (T := TX6) (N := 5) hx hb hT iX6 hown hK hP 10 rfl rfl 4 (by decide) (hT _ t_651) (fun _ h9 => h9) rfl dX6_read_140 ?_
                    subst hQ
                    exact W.iret (v := i41 5) hx hb hr (fun t ht hW => ⟨⟨_, (i41, r41), rfl, ⟨hRi, hRr, hEi, hEr, trivial⟩, by rw [ht]; exact hP, va_K.moved hW.alike hK, hD⟩, hS.F ht⟩) hS.2.2 dX6_read_143
                  · skip
                    refine lv_if_eq (tgt := 139) hx hb dX6_read_92 (by decide) (fun c_43 => absurd c_43 (by decide)) (fun c_43 => ?_)
                    refine lv_aload_n hx hb dX6_read_95 rfl (lv_at hl 2 rfl) ?_
                    have hF_44 := rF hD hS hA
                    refine va_calli (va_runV (As := []) (rest := []) ⟨hx, hb, hml, hown, hT⟩ (c_X6_beginTest l D cy a i41 r41 q tl _ hRi hRr) (cwV 0 hT (gV t_720 t_721 t_722 t_723 t_653) rfl rfl rfl (by decide +kernel) ⟨Nat.le_of_ble_eq_true rfl, Nat.le_of_ble_eq_true rfl⟩) (rQ_v hP hK hD (va_recv hK hP (ci := 6) (q0 := 10) rfl rfl)) rfl rfl hl.1 rfl (lv_room (Nat.le_of_ble_eq_true rfl)) dX6_read_96 ⟨Nat.le_of_ble_eq_true rfl, Nat.le_of_ble_eq_true rfl⟩) hS (fun q _ h => hF_44 q h) hF_44 (fun r_45 u_46 t H1 locs ht hvm hr_45 hB hz1 hk1 hS => ?_)
                    obtain ⟨i46, r46⟩ := u_46
                    obtain ⟨hP, hK1, hD1⟩ := hB
                    rw [ht] at hP
                    have hD := hD1.weaken (fun k q _ h => hF_44 q.1 h)
                    obtain ⟨hRi, hRr, hE1, hE2, hr_45⟩ := hr_45
                    have hRi : yRi i46 := hRi
                    have hE1 : mEi [4, 5] i41 i46 := hE1
                    have hRr : yRr r46 := hRr
                    have hE2 : mEr [15] r41 r46 := hE2
                    have hP : va_P D vwCl (xW cy a i46 r46 q (a 20) (a 12) ++ tl) H1 := hP
                    have hD : va_D A (xW cy a i46 r46 q (a 20) (a 12) ++ tl) := hD
                    have hEi : mEi [3, 4, 5, 6, 7] _ i46 := Ei_tr hEi hE1 (by decide)
                    have hEr : mEr [11, 13, 14, 15, 16, 17, 18] _ r46 := Er_tr hEr hE2 (by decide)
                    rcases hr_45 with rfl | rfl
                    · skip
                      refine lv_if_eq (tgt := 139) hx hb dX6_read_99 (by decide) (fun c_47 => ?_) (fun c_47 => absurd (by decide) c_47)
                      refine lv_aload_n hx hb dX6_read_139 rfl (lv_at hl 2 rfl) ?_
                      refine va_get (D := D) (ci := 6) (v := .int (i46 5)) (C := RX6) (T := TX6) (N := 5) hx hb hT iX6 hown hK hP 10 rfl rfl 4 (by decide) (hT _ t_651) (fun _ h9 => h9) rfl dX6_read_140 ?_
                      subst hQ
                      exact W.iret (v := i46 5) hx hb hr (fun t ht hW => ⟨⟨_, (i46, r46), rfl, ⟨hRi, hRr, hEi, hEr, trivial⟩, by rw [ht]; exact hP, va_K.moved hW.alike hK, hD⟩, hS.F ht⟩) hS.2.2 dX6_read_143
                    · skip
                      refine lv_if_eq (tgt := 139) hx hb dX6_read_99 (by decide) (fun c_48 => absurd c_48 (by decide)) (fun c_48 => ?_)
                      refine lv_aload_n hx hb dX6_read_102 rfl (lv_at hl 2 rfl) ?_
                      refine lv_iconst (v := 1) hx hb dX6_read_103 (by decide) ?_
                      refine lv_bipush (v := 124) hx hb dX6_read_104 (by decide) ?_
                      have hF_49 := rF hD hS hA
                      refine va_calli (va_runV (As := [.int 1, .int 124]) (rest := []) ⟨hx, hb, hml, hown, hT⟩ (c_X6_condition_k1_124 l D cy a i46 r46 q tl kq vq _ hRi hRr) (cwV 2 hT (gV t_690 t_691 t_692 t_693 t_653) rfl rfl rfl (by decide +kernel) ⟨Nat.le_of_ble_eq_true rfl, Nat.le_of_ble_eq_true rfl⟩) (rS_v hsk hS hF_49 hP hK hD (va_recv hK hP (ci := 6) (q0 := 10) rfl rfl)) rfl rfl hl.1 rfl (lv_room (Nat.le_of_ble_eq_true rfl)) dX6_read_106 ⟨Nat.le_of_ble_eq_true rfl, Nat.le_of_ble_eq_true rfl⟩) hS (fun q _ h => hF_49 q h) hF_49 (fun r_50 u_51 t H1 locs ht hvm hr_50 hB hz1 hk1 hS => ?_)
                      obtain ⟨i51, r51⟩ := u_51
                      obtain ⟨hP, hK1, hD1⟩ := hB
                      rw [ht] at hP
                      have hD := hD1.weaken (fun k q _ h => hF_49 q.1 h)
                      obtain ⟨hRi, hRr, hE1, hE2, hr_50⟩ := hr_50
                      have hRi : yRi i51 := hRi
                      have hE1 : mEi [4, 5, 7] i46 i51 := hE1
                      have hRr : yRr r51 := hRr
                      have hE2 : mEr [17, 18] r46 r51 := hE2
                      have hP : va_P D vwCl (xW cy a i51 r51 q (a 20) (a 12) ++ tl) H1 := hP
                      have hD : va_D A (xW cy a i51 r51 q (a 20) (a 12) ++ tl) := hD
                      have hEi : mEi [3, 4, 5, 6, 7] _ i51 := Ei_tr hEi hE1 (by decide)
                      have hEr : mEr [11, 13, 14, 15, 16, 17, 18] _ r51 := Er_tr hEr hE2 (by decide)
                      rcases hr_50 with rfl | rfl
                      · skip
                        refine lv_if_eq (tgt := 139) hx hb dX6_read_109 (by decide) (fun c_52 => ?_) (fun c_52 => absurd (by decide) c_52)
                        refine lv_aload_n hx hb dX6_read_139 rfl (lv_at hl 2 rfl) ?_
                        refine va_get (D := D) (ci := 6) (v := .int (i51 5)) (C := RX6) (T := TX6) (N := 5) hx hb hT iX6 hown hK hP 10 rfl rfl 4 (by decide) (hT _ t_651) (fun _ h9 => h9) rfl dX6_read_140 ?_
                        subst hQ
                        exact W.iret (v := i51 5) hx hb hr (fun t ht hW => ⟨⟨_, (i51, r51), rfl, ⟨hRi, hRr, hEi, hEr, trivial⟩, by rw [ht]; exact hP, va_K.moved hW.alike hK, hD⟩, hS.F ht⟩) hS.2.2 dX6_read_143
                      · skip
                        refine lv_if_eq (tgt := 139) hx hb dX6_read_109 (by decide) (fun c_53 => absurd c_53 (by decide)) (fun c_53 => ?_)
                        refine lv_aload_n hx hb dX6_read_112 rfl (lv_at hl 2 rfl) ?_
                        have hF_54 := rF hD hS hA
                        refine va_calli (va_runV (As := []) (rest := []) ⟨hx, hb, hml, hown, hT⟩ (c_X6_endClause l D cy a i51 r51 q tl _ hRi hRr) (cwV 0 hT (gV t_724 t_725 t_726 t_727 t_653) rfl rfl rfl (by decide +kernel) ⟨Nat.le_of_ble_eq_true rfl, Nat.le_of_ble_eq_true rfl⟩) (rQ_v hP hK hD (va_recv hK hP (ci := 6) (q0 := 10) rfl rfl)) rfl rfl hl.1 rfl (lv_room (Nat.le_of_ble_eq_true rfl)) dX6_read_113 ⟨Nat.le_of_ble_eq_true rfl, Nat.le_of_ble_eq_true rfl⟩) hS (fun q _ h => hF_54 q h) hF_54 (fun r_55 u_56 t H1 locs ht hvm hr_55 hB hz1 hk1 hS => ?_)
                        obtain ⟨i56, r56⟩ := u_56
                        obtain ⟨hP, hK1, hD1⟩ := hB
                        rw [ht] at hP
                        have hD := hD1.weaken (fun k q _ h => hF_54 q.1 h)
                        obtain ⟨hRi, hRr, hE1, hE2, hr_55⟩ := hr_55
                        have hRi : yRi i56 := hRi
                        have hE1 : mEi [4, 5, 6] i51 i56 := hE1
                        have hRr : yRr r56 := hRr
                        have hE2 : mEr [16] r51 r56 := hE2
                        have hP : va_P D vwCl (xW cy a i56 r56 q (a 20) (a 12) ++ tl) H1 := hP
                        have hD : va_D A (xW cy a i56 r56 q (a 20) (a 12) ++ tl) := hD
                        have hEi : mEi [3, 4, 5, 6, 7] _ i56 := Ei_tr hEi hE1 (by decide)
                        have hEr : mEr [11, 13, 14, 15, 16, 17, 18] _ r56 := Er_tr hEr hE2 (by decide)
                        rcases hr_55 with rfl | rfl
                        · skip
                          refine lv_if_eq (tgt := 139) hx hb dX6_read_116 (by decide) (fun c_57 => ?_) (fun c_57 => absurd (by decide) c_57)
                          refine lv_aload_n hx hb dX6_read_139 rfl (lv_at hl 2 rfl) ?_
                          refine va_get (D := D) (ci := 6) (v := .int (i56 5)) (C := RX6) (T := TX6) (N := 5) hx hb hT iX6 hown hK hP 10 rfl rfl 4 (by decide) (hT _ t_651) (fun _ h9 => h9) rfl dX6_read_140 ?_
                          subst hQ
                          exact W.iret (v := i56 5) hx hb hr (fun t ht hW => ⟨⟨_, (i56, r56), rfl, ⟨hRi, hRr, hEi, hEr, trivial⟩, by rw [ht]; exact hP, va_K.moved hW.alike hK, hD⟩, hS.F ht⟩) hS.2.2 dX6_read_143
                        · skip
                          refine lv_if_eq (tgt := 139) hx hb dX6_read_116 (by decide) (fun c_58 => absurd c_58 (by decide)) (fun c_58 => ?_)
                          refine lv_aload_n hx hb dX6_read_119 rfl (lv_at hl 2 rfl) ?_
                          refine va_get (D := D) (ci := 6) (v := .int (i56 4)) (C := RX6) (T := TX6) (N := 5) hx hb hT iX6 hown hK hP 10 rfl rfl 3 (by decide) (hT _ t_648) (fun _ h9 => h9) rfl dX6_read_120 ?_
                          refine lv_aload_n hx hb dX6_read_123 rfl (lv_at hl 2 rfl) ?_
                          refine va_get (D := D) (ci := 6) (v := .int (i56 3)) (C := RX6) (T := TX6) (N := 5) hx hb hT iX6 hown hK hP 10 rfl rfl 2 (by decide) (hT _ t_649) (fun _ h9 => h9) rfl dX6_read_124 ?_
                          have hg_59 : 0 ≤ (i56 3).toInt ∧ (i56 3).toInt ≤ 200 := hRi 3
                          refine lv_icmp_eq (tgt := 139) hx hb dX6_read_127 (by decide) (fun c_60 => ?_) (fun c_60 => ?_)
                          · have c_60 : (i56 4).toInt = (i56 3).toInt := b_eq c_60
                            refine lv_aload_n hx hb dX6_read_139 rfl (lv_at hl 2 rfl) ?_
                            refine va_get (D := D) (ci := 6) (v := .int (i56 5)) (C := RX6) (T := TX6) (N := 5) hx hb hT iX6 hown hK hP 10 rfl rfl 4 (by decide) (hT _ t_651) (fun _ h9 => h9) rfl dX6_read_140 ?_
                            subst hQ
                            exact W.iret (v := i56 5) hx hb hr (fun t ht hW => ⟨⟨_, (i56, r56), rfl, ⟨hRi, hRr, hEi, hEr, trivial⟩, by rw [ht]; exact hP, va_K.moved hW.alike hK, hD⟩, hS.F ht⟩) hS.2.2 dX6_read_143
                          · have c_60 : (i56 4).toInt ≠ (i56 3).toInt := b_ne c_60
                            refine lv_aload_n hx hb dX6_read_130 rfl (lv_at hl 2 rfl) ?_
                            refine lv_bipush (v := 59) hx hb dX6_read_131 (by decide) ?_
                            have hF_61 := rF hD hS hA
                            refine va_calli (va_runV (As := [.int 59]) (rest := []) ⟨hx, hb, hml, hown, hT⟩ (c_X6_pass l D cy a i56 r56 q tl 59 _ hRi hRr) (cwV 1 hT (gV t_678 t_679 t_680 t_681 t_653) rfl rfl rfl (by decide +kernel) ⟨Nat.le_of_ble_eq_true rfl, Nat.le_of_ble_eq_true rfl⟩) (rQ_v hP hK hD (va_recv hK hP (ci := 6) (q0 := 10) rfl rfl)) rfl rfl hl.1 rfl (lv_room (Nat.le_of_ble_eq_true rfl)) dX6_read_133 ⟨Nat.le_of_ble_eq_true rfl, Nat.le_of_ble_eq_true rfl⟩) hS (fun q _ h => hF_61 q h) hF_61 (fun r_62 u_63 t H1 locs ht hvm hr_62 hB hz1 hk1 hS => ?_)
                            obtain ⟨i63, r63⟩ := u_63
                            obtain ⟨hP, hK1, hD1⟩ := hB
                            rw [ht] at hP
                            have hD := hD1.weaken (fun k q _ h => hF_61 q.1 h)
                            obtain ⟨hRi, hRr, hE1, hE2, hr_62⟩ := hr_62
                            have hRi : yRi i63 := hRi
                            have hE1 : mEi [4, 5] i56 i63 := hE1
                            have hRr : yRr r63 := hRr
                            have hE2 : mEr [] r56 r63 := hE2
                            have hP : va_P D vwCl (xW cy a i63 r63 q (a 20) (a 12) ++ tl) H1 := hP
                            have hD : va_D A (xW cy a i63 r63 q (a 20) (a 12) ++ tl) := hD
                            have hEi : mEi [3, 4, 5, 6, 7] _ i63 := Ei_tr hEi hE1 (by decide)
                            have hEr : mEr [11, 13, 14, 15, 16, 17, 18] _ r63 := Er_tr hEr hE2 (by decide)
                            rcases hr_62 with rfl | rfl
                            · skip
                              refine lv_if_ne (tgt := 144) hx hb dX6_read_136 (by decide) (fun c_64 => absurd (by decide) c_64) (fun c_64 => ?_)
                              refine lv_aload_n hx hb dX6_read_139 rfl (lv_at hl 2 rfl) ?_
                              refine va_get (D := D) (ci := 6) (v := .int (i63 5)) (C := RX6) (T := TX6) (N := 5) hx hb hT iX6 hown hK hP 10 rfl rfl 4 (by decide) (hT _ t_651) (fun _ h9 => h9) rfl dX6_read_140 ?_
                              subst hQ
                              exact W.iret (v := i63 5) hx hb hr (fun t ht hW => ⟨⟨_, (i63, r63), rfl, ⟨hRi, hRr, hEi, hEr, trivial⟩, by rw [ht]; exact hP, va_K.moved hW.alike hK, hD⟩, hS.F ht⟩) hS.2.2 dX6_read_143
                            · skip
                              refine lv_if_ne (tgt := 144) hx hb dX6_read_136 (by decide) (fun c_65 => ?_) (fun c_65 => absurd c_65 (by decide))
                              obtain ⟨x_66, ex_66⟩ : ∃ y : Int32, y = x7_3 + 1 := ⟨_, rfl⟩
                              refine lv_iinc (v := x_66) (lv' := [(3, .int x_66), (4, .int r_9), (0, .ref (a 10)), (1, .ref (a 8)), (2, .int p0)]) hx hb dX6_read_144 hl (k := 1) rfl (by rw [ex_66]; rfl) (by decide) rfl (fun ls hl => ?_)
                              have hx_66 : x_66.toInt = x7_3.toInt + 1 := by rw [ex_66]; have := b_rg x7_3; exact i_add (a := x7_3.toInt) (b := 1) rfl rfl (by omega) (by omega)
                              refine lv_goto (tgt := 58) hx hb dX6_read_147 (by decide) ?_
                              exact ih7 x_66 i63 r63 _ _ _ (by first | omega | (simp only [Int.toNat]; omega)) (by first | omega | decide) hRi hEi hRr hEr  hP hD hS (lv_sub hl [0, 2, 3, 4] rfl)
        exact loop_7 _ 0 (upd (upd (upd i3 3 v_4) 4 0) 5 0) r5 _ _ _ (Nat.lt_succ_self _) (by first | omega | decide) hRi hEi hRr hEr  hP hD hS hl
      · have c_6 : x5_3.toInt < v_4.toInt := b_nle c_6
        refine lv_aload_n hx hb dX6_read_28 rfl (lv_at hl 1 rfl) ?_
        refine va_get (D := D) (ci := 6) (v := .ref (a 11)) (C := RX6) (T := TX6) (N := 5) hx hb hT iX6 hown hK hP 10 rfl rfl 1 (by decide) (hT _ t_650) (fun _ h9 => h9) rfl dX6_read_29 ?_
        refine lv_iload_n hx hb dX6_read_32 rfl (lv_at hl 0 rfl) ?_
        refine lv_aload_n hx hb dX6_read_33 rfl (lv_at hl 2 rfl) ?_
        refine va_get (D := D) (ci := 9) (v := .ref (a 9)) (C := RX9) (T := TX9) (N := 2) hx hb hT iX9 hown hK hP 8 rfl rfl 0 (by decide) (hT _ t_728) (fun _ h9 => h9) rfl dX6_read_34 ?_
        refine lv_iload_n hx hb dX6_read_37 rfl (lv_at hl 0 rfl) ?_
        refine va_bald hx hb hK hP 9 1 rfl rfl (vp_inI (by omega) (by omega)) dX6_read_38 ?_
        refine lv_topi (fun v_67 ev_67 => ?_)
        refine va_bast hx hb hK hP hD hS 11 1 rfl rfl (vp_inI (by omega) (by omega)) dX6_read_39 (fun H locs hP hD hS => ?_)
        rw [zS11] at hP hD
        have hRr : yRr (va_up r5 11 (upd (r5 11) x5_3.toNatClampNeg (vp_nar .byte v_67))) := Yr_upd hRr 11 (x5_3.toNatClampNeg) (vp_nar .byte v_67) (b_rg _)
        have hEr : mEr [11, 13, 14, 15, 16, 17, 18] _ (va_up r5 11 (upd (r5 11) x5_3.toNatClampNeg (vp_nar .byte v_67))) := Er_up hEr 11 _ (by decide)
        obtain ⟨x_68, ex_68⟩ : ∃ y : Int32, y = x5_3 + 1 := ⟨_, rfl⟩
        refine lv_iinc (v := x_68) (lv' := [(3, .int x_68), (0, .ref (a 10)), (1, .ref (a 8)), (2, .int p0)]) hx hb dX6_read_40 hl (k := 0) rfl (by rw [ex_68]; rfl) (by decide) rfl (fun ls hl => ?_)
        have hx_68 : x_68.toInt = x5_3.toInt + 1 := by rw [ex_68]; have := b_rg x5_3; exact i_add (a := x5_3.toInt) (b := 1) rfl rfl (by omega) (by omega)
        refine lv_goto (tgt := 20) hx hb dX6_read_43 (by decide) ?_
        exact ih5 x_68 (va_up r5 11 (upd (r5 11) x5_3.toNatClampNeg (vp_nar .byte v_67))) _ _ _ (by first | omega | (simp only [Int.toNat]; omega)) (by first | omega | decide) hRr hEr  hP hD hS (lv_sub hl [0, 1, 2, 3] rfl)
  exact loop_5 _ 0 r3 _ _ _ (Nat.lt_succ_self _) (by first | omega | decide) hRr hEr  hP hD hS hl
