set_option maxRecDepth 100000 in
theorem t_686 : Cond.code yX6_piece cX6_piece 4 (some .boolean) ∈ gT := tm (tb3 (List.mem_of_getElem? (i := 141) (by rfl))) (by decide +kernel)
set_option maxRecDepth 100000 in
theorem t_687 : Cond.methodLink RX6 86 yX6_piece ∈ gT := tm (tb3 (List.mem_of_getElem? (i := 138) (by rfl))) (by decide +kernel)
set_option maxRecDepth 100000 in
theorem t_688 : Cond.instanceMethod yX6_piece ∈ gT := tm (tb3 (List.mem_of_getElem? (i := 140) (by rfl))) (by decide +kernel)
theorem t_689 : Cond.selects RX6 yX6_piece yX6_piece ∈ gT := tmp (List.mem_of_getElem? (i := 15) (by decide +kernel)) (by decide +kernel)
set_option maxRecDepth 100000 in
theorem t_690 : Cond.code yX6_condition cX6_condition 6 (some .boolean) ∈ gT := tm (tb3 (List.mem_of_getElem? (i := 137) (by rfl))) (by decide +kernel)
set_option maxRecDepth 100000 in
theorem t_691 : Cond.methodLink RX6 62 yX6_condition ∈ gT := tm (tb3 (List.mem_of_getElem? (i := 134) (by rfl))) (by decide +kernel)
set_option maxRecDepth 100000 in
theorem t_692 : Cond.instanceMethod yX6_condition ∈ gT := tm (tb3 (List.mem_of_getElem? (i := 136) (by rfl))) (by decide +kernel)
theorem t_693 : Cond.selects RX6 yX6_condition yX6_condition ∈ gT := tmp (List.mem_of_getElem? (i := 14) (by decide +kernel)) (by decide +kernel)
set_option maxRecDepth 100000 in
theorem t_694 : Cond.code yX5_aim cX5_aim 2 none ∈ gT := tm (tb3 (List.mem_of_getElem? (i := 145) (by rfl))) (by decide +kernel)
set_option maxRecDepth 100000 in
theorem t_695 : Cond.methodLink RX6 89 yX5_aim ∈ gT := tm (tb3 (List.mem_of_getElem? (i := 142) (by rfl))) (by decide +kernel)
set_option maxRecDepth 100000 in
theorem t_696 : Cond.instanceMethod yX5_aim ∈ gT := tm (tb3 (List.mem_of_getElem? (i := 143) (by rfl))) (by decide +kernel)
set_option maxRecDepth 100000 in
theorem t_697 : Cond.selects RX5 yX5_aim yX5_aim ∈ gT := tm (tb3 (List.mem_of_getElem? (i := 144) (by rfl))) (by decide +kernel)
set_option maxRecDepth 100000 in
theorem t_698 : Cond.methodLink RX6 76 yX5_isFull ∈ gT := tm (tb3 (List.mem_of_getElem? (i := 12) (by rfl))) (by decide +kernel)
set_option maxRecDepth 100000 in
theorem t_699 : Cond.code yX5_beginClause cX5_beginClause 2 none ∈ gT := tm (tb3 (List.mem_of_getElem? (i := 19) (by rfl))) (by decide +kernel)
set_option maxRecDepth 100000 in
theorem t_700 : Cond.methodLink RX6 79 yX5_beginClause ∈ gT := tm (tb3 (List.mem_of_getElem? (i := 16) (by rfl))) (by decide +kernel)
set_option maxRecDepth 100000 in
theorem t_701 : Cond.instanceMethod yX5_beginClause ∈ gT := tm (tb3 (List.mem_of_getElem? (i := 17) (by rfl))) (by decide +kernel)
set_option maxRecDepth 100000 in
theorem t_702 : Cond.selects RX5 yX5_beginClause yX5_beginClause ∈ gT := tm (tb3 (List.mem_of_getElem? (i := 18) (by rfl))) (by decide +kernel)
set_option maxRecDepth 100000 in
theorem t_703 : Cond.code yX5_beginTest cX5_beginTest 1 none ∈ gT := tm (tb3 (List.mem_of_getElem? (i := 133) (by rfl))) (by decide +kernel)
set_option maxRecDepth 100000 in
theorem t_704 : Cond.methodLink RX6 82 yX5_beginTest ∈ gT := tm (tb3 (List.mem_of_getElem? (i := 130) (by rfl))) (by decide +kernel)
set_option maxRecDepth 100000 in
theorem t_705 : Cond.instanceMethod yX5_beginTest ∈ gT := tm (tb3 (List.mem_of_getElem? (i := 131) (by rfl))) (by decide +kernel)
set_option maxRecDepth 100000 in
theorem t_706 : Cond.selects RX5 yX5_beginTest yX5_beginTest ∈ gT := tm (tb3 (List.mem_of_getElem? (i := 132) (by rfl))) (by decide +kernel)
set_option maxRecDepth 100000 in
theorem t_707 : Cond.code yX5_endClause cX5_endClause 1 none ∈ gT := tm (tb3 (List.mem_of_getElem? (i := 153) (by rfl))) (by decide +kernel)
set_option maxRecDepth 100000 in
theorem t_708 : Cond.methodLink RX6 84 yX5_endClause ∈ gT := tm (tb3 (List.mem_of_getElem? (i := 150) (by rfl))) (by decide +kernel)
set_option maxRecDepth 100000 in
theorem t_709 : Cond.instanceMethod yX5_endClause ∈ gT := tm (tb3 (List.mem_of_getElem? (i := 151) (by rfl))) (by decide +kernel)
set_option maxRecDepth 100000 in
theorem t_710 : Cond.selects RX5 yX5_endClause yX5_endClause ∈ gT := tm (tb3 (List.mem_of_getElem? (i := 152) (by rfl))) (by decide +kernel)
set_option maxRecDepth 100000 in
theorem t_711 : Cond.code yX5_clear cX5_clear 1 none ∈ gT := tm (tb2 (List.mem_of_getElem? (i := 236) (by rfl))) (by decide +kernel)
set_option maxRecDepth 100000 in
theorem t_712 : Cond.methodLink RX6 32 yX5_clear ∈ gT := tm (tb2 (List.mem_of_getElem? (i := 233) (by rfl))) (by decide +kernel)
set_option maxRecDepth 100000 in
theorem t_713 : Cond.instanceMethod yX5_clear ∈ gT := tm (tb2 (List.mem_of_getElem? (i := 234) (by rfl))) (by decide +kernel)
set_option maxRecDepth 100000 in
theorem t_714 : Cond.selects RX5 yX5_clear yX5_clear ∈ gT := tm (tb2 (List.mem_of_getElem? (i := 235) (by rfl))) (by decide +kernel)
set_option maxRecDepth 100000 in
theorem t_715 : Cond.methodLink RX6 35 Lib.Math.min.name ∈ gT := tm (tb2 (List.mem_of_getElem? (i := 237) (by rfl))) (by decide +kernel)
set_option maxRecDepth 100000 in
theorem t_716 : Cond.code yX6_beginClause cX6_beginClause 2 (some .boolean) ∈ gT := tm (tb3 (List.mem_of_getElem? (i := 7) (by rfl))) (by decide +kernel)
set_option maxRecDepth 100000 in
theorem t_717 : Cond.methodLink RX6 50 yX6_beginClause ∈ gT := tm (tb3 (List.mem_of_getElem? (i := 4) (by rfl))) (by decide +kernel)
set_option maxRecDepth 100000 in
theorem t_718 : Cond.instanceMethod yX6_beginClause ∈ gT := tm (tb3 (List.mem_of_getElem? (i := 6) (by rfl))) (by decide +kernel)
theorem t_719 : Cond.selects RX6 yX6_beginClause yX6_beginClause ∈ gT := tmp (List.mem_of_getElem? (i := 7) (by decide +kernel)) (by decide +kernel)
set_option maxRecDepth 100000 in
theorem t_720 : Cond.code yX6_beginTest cX6_beginTest 1 (some .boolean) ∈ gT := tm (tb3 (List.mem_of_getElem? (i := 129) (by rfl))) (by decide +kernel)
set_option maxRecDepth 100000 in
theorem t_721 : Cond.methodLink RX6 58 yX6_beginTest ∈ gT := tm (tb3 (List.mem_of_getElem? (i := 126) (by rfl))) (by decide +kernel)
set_option maxRecDepth 100000 in
theorem t_722 : Cond.instanceMethod yX6_beginTest ∈ gT := tm (tb3 (List.mem_of_getElem? (i := 128) (by rfl))) (by decide +kernel)
theorem t_723 : Cond.selects RX6 yX6_beginTest yX6_beginTest ∈ gT := tmp (List.mem_of_getElem? (i := 13) (by decide +kernel)) (by decide +kernel)
set_option maxRecDepth 100000 in
theorem t_724 : Cond.code yX6_endClause cX6_endClause 1 (some .boolean) ∈ gT := tm (tb3 (List.mem_of_getElem? (i := 149) (by rfl))) (by decide +kernel)
set_option maxRecDepth 100000 in
theorem t_725 : Cond.methodLink RX6 66 yX6_endClause ∈ gT := tm (tb3 (List.mem_of_getElem? (i := 146) (by rfl))) (by decide +kernel)
set_option maxRecDepth 100000 in
theorem t_726 : Cond.instanceMethod yX6_endClause ∈ gT := tm (tb3 (List.mem_of_getElem? (i := 148) (by rfl))) (by decide +kernel)
theorem t_727 : Cond.selects RX6 yX6_endClause yX6_endClause ∈ gT := tmp (List.mem_of_getElem? (i := 16) (by decide +kernel)) (by decide +kernel)
set_option maxRecDepth 100000 in
theorem t_728 : Cond.fieldLink RX6 41 "DepositJudge$Tape" "bytes" "[B" ∈ gT := tm (tb1 (List.mem_of_getElem? (i := 67) (by rfl))) (by decide +kernel)
def dl_408 : List (Nat × (Instr × Nat)) := [(0, (.iload_n 1, 1)), (1, (.bipush 102, 2)), (3, (.if_icmp .eq 33, 3)), (6, (.iload_n 1, 1)), (7, (.bipush 112, 2)), (9, (.if_icmp .eq 27, 3)), (12, (.iload_n 1, 1)), (13, (.bipush 100, 2)), (15, (.if_icmp .eq 21, 3)), (18, (.iload_n 1, 1)), (19, (.bipush 116, 2)), (21, (.if_icmp .eq 15, 3)), (24, (.iload_n 1, 1)), (25, (.bipush 98, 2)), (27, (.if_icmp .eq 9, 3)), (30, (.aload_n 0, 1)), (31, (.iconst 1, 1)), (32, (.invokevirtual 73, 3)), (35, (.ireturn, 1)), (36, (.aload_n 0, 1))]
theorem dh_408 : dchk cX6_beginClause dl_408 = true := by decide +kernel
theorem dX6_beginClause_0 : decode cX6_beginClause 0 = .ok (.iload_n 1, 1) := dget dh_408 (k := 0) rfl
theorem dX6_beginClause_1 : decode cX6_beginClause 1 = .ok (.bipush 102, 2) := dget dh_408 (k := 1) rfl
theorem dX6_beginClause_3 : decode cX6_beginClause 3 = .ok (.if_icmp .eq 33, 3) := dget dh_408 (k := 2) rfl
theorem dX6_beginClause_6 : decode cX6_beginClause 6 = .ok (.iload_n 1, 1) := dget dh_408 (k := 3) rfl
theorem dX6_beginClause_7 : decode cX6_beginClause 7 = .ok (.bipush 112, 2) := dget dh_408 (k := 4) rfl
theorem dX6_beginClause_9 : decode cX6_beginClause 9 = .ok (.if_icmp .eq 27, 3) := dget dh_408 (k := 5) rfl
theorem dX6_beginClause_12 : decode cX6_beginClause 12 = .ok (.iload_n 1, 1) := dget dh_408 (k := 6) rfl
theorem dX6_beginClause_13 : decode cX6_beginClause 13 = .ok (.bipush 100, 2) := dget dh_408 (k := 7) rfl
theorem dX6_beginClause_15 : decode cX6_beginClause 15 = .ok (.if_icmp .eq 21, 3) := dget dh_408 (k := 8) rfl
theorem dX6_beginClause_18 : decode cX6_beginClause 18 = .ok (.iload_n 1, 1) := dget dh_408 (k := 9) rfl
theorem dX6_beginClause_19 : decode cX6_beginClause 19 = .ok (.bipush 116, 2) := dget dh_408 (k := 10) rfl
theorem dX6_beginClause_21 : decode cX6_beginClause 21 = .ok (.if_icmp .eq 15, 3) := dget dh_408 (k := 11) rfl
theorem dX6_beginClause_24 : decode cX6_beginClause 24 = .ok (.iload_n 1, 1) := dget dh_408 (k := 12) rfl
theorem dX6_beginClause_25 : decode cX6_beginClause 25 = .ok (.bipush 98, 2) := dget dh_408 (k := 13) rfl
theorem dX6_beginClause_27 : decode cX6_beginClause 27 = .ok (.if_icmp .eq 9, 3) := dget dh_408 (k := 14) rfl
theorem dX6_beginClause_30 : decode cX6_beginClause 30 = .ok (.aload_n 0, 1) := dget dh_408 (k := 15) rfl
theorem dX6_beginClause_31 : decode cX6_beginClause 31 = .ok (.iconst 1, 1) := dget dh_408 (k := 16) rfl
theorem dX6_beginClause_32 : decode cX6_beginClause 32 = .ok (.invokevirtual 73, 3) := dget dh_408 (k := 17) rfl
theorem dX6_beginClause_35 : decode cX6_beginClause 35 = .ok (.ireturn, 1) := dget dh_408 (k := 18) rfl
theorem dX6_beginClause_36 : decode cX6_beginClause 36 = .ok (.aload_n 0, 1) := dget dh_408 (k := 19) rfl
def dl_409 : List (Nat × (Instr × Nat)) := [(37, (.getfield 12, 3)), (40, (.invokevirtual 76, 3)), (43, (.ifCond .eq 9, 3)), (46, (.aload_n 0, 1)), (47, (.iconst 4, 1)), (48, (.invokevirtual 73, 3)), (51, (.ireturn, 1)), (52, (.aload_n 0, 1)), (53, (.dup, 1)), (54, (.getfield 26, 3)), (57, (.iconst 1, 1)), (58, (.iadd, 1)), (59, (.putfield 26, 3)), (62, (.aload_n 0, 1)), (63, (.getfield 12, 3)), (66, (.iload_n 1, 1)), (67, (.invokevirtual 79, 3)), (70, (.iconst 1, 1)), (71, (.ireturn, 1))]
theorem dh_409 : dchk cX6_beginClause dl_409 = true := by decide +kernel
theorem dX6_beginClause_37 : decode cX6_beginClause 37 = .ok (.getfield 12, 3) := dget dh_409 (k := 0) rfl
theorem dX6_beginClause_40 : decode cX6_beginClause 40 = .ok (.invokevirtual 76, 3) := dget dh_409 (k := 1) rfl
theorem dX6_beginClause_43 : decode cX6_beginClause 43 = .ok (.ifCond .eq 9, 3) := dget dh_409 (k := 2) rfl
theorem dX6_beginClause_46 : decode cX6_beginClause 46 = .ok (.aload_n 0, 1) := dget dh_409 (k := 3) rfl
theorem dX6_beginClause_47 : decode cX6_beginClause 47 = .ok (.iconst 4, 1) := dget dh_409 (k := 4) rfl
theorem dX6_beginClause_48 : decode cX6_beginClause 48 = .ok (.invokevirtual 73, 3) := dget dh_409 (k := 5) rfl
theorem dX6_beginClause_51 : decode cX6_beginClause 51 = .ok (.ireturn, 1) := dget dh_409 (k := 6) rfl
theorem dX6_beginClause_52 : decode cX6_beginClause 52 = .ok (.aload_n 0, 1) := dget dh_409 (k := 7) rfl
theorem dX6_beginClause_53 : decode cX6_beginClause 53 = .ok (.dup, 1) := dget dh_409 (k := 8) rfl
theorem dX6_beginClause_54 : decode cX6_beginClause 54 = .ok (.getfield 26, 3) := dget dh_409 (k := 9) rfl
theorem dX6_beginClause_57 : decode cX6_beginClause 57 = .ok (.iconst 1, 1) := dget dh_409 (k := 10) rfl
theorem dX6_beginClause_58 : decode cX6_beginClause 58 = .ok (.iadd, 1) := dget dh_409 (k := 11) rfl
theorem dX6_beginClause_59 : decode cX6_beginClause 59 = .ok (.putfield 26, 3) := dget dh_409 (k := 12) rfl
theorem dX6_beginClause_62 : decode cX6_beginClause 62 = .ok (.aload_n 0, 1) := dget dh_409 (k := 13) rfl
theorem dX6_beginClause_63 : decode cX6_beginClause 63 = .ok (.getfield 12, 3) := dget dh_409 (k := 14) rfl
theorem dX6_beginClause_66 : decode cX6_beginClause 66 = .ok (.iload_n 1, 1) := dget dh_409 (k := 15) rfl
theorem dX6_beginClause_67 : decode cX6_beginClause 67 = .ok (.invokevirtual 79, 3) := dget dh_409 (k := 16) rfl
theorem dX6_beginClause_70 : decode cX6_beginClause 70 = .ok (.iconst 1, 1) := dget dh_409 (k := 17) rfl
theorem dX6_beginClause_71 : decode cX6_beginClause 71 = .ok (.ireturn, 1) := dget dh_409 (k := 18) rfl
def dl_410 : List (Nat × (Instr × Nat)) := [(0, (.aload_n 0, 1)), (1, (.getfield 12, 3)), (4, (.invokevirtual 82, 3)), (7, (.aload_n 0, 1)), (8, (.bipush 40, 2)), (10, (.invokevirtual 69, 3)), (13, (.ireturn, 1))]
theorem dh_410 : dchk cX6_beginTest dl_410 = true := by decide +kernel
theorem dX6_beginTest_0 : decode cX6_beginTest 0 = .ok (.aload_n 0, 1) := dget dh_410 (k := 0) rfl
theorem dX6_beginTest_1 : decode cX6_beginTest 1 = .ok (.getfield 12, 3) := dget dh_410 (k := 1) rfl
theorem dX6_beginTest_4 : decode cX6_beginTest 4 = .ok (.invokevirtual 82, 3) := dget dh_410 (k := 2) rfl
theorem dX6_beginTest_7 : decode cX6_beginTest 7 = .ok (.aload_n 0, 1) := dget dh_410 (k := 3) rfl
theorem dX6_beginTest_8 : decode cX6_beginTest 8 = .ok (.bipush 40, 2) := dget dh_410 (k := 4) rfl
theorem dX6_beginTest_10 : decode cX6_beginTest 10 = .ok (.invokevirtual 69, 3) := dget dh_410 (k := 5) rfl
theorem dX6_beginTest_13 : decode cX6_beginTest 13 = .ok (.ireturn, 1) := dget dh_410 (k := 6) rfl
def dl_411 : List (Nat × (Instr × Nat)) := [(0, (.iconst (-1), 1)), (1, (.istore_n 3, 1)), (2, (.iconst 0, 1)), (3, (.istore 4, 2)), (5, (.iload 4, 2)), (7, (.sipush 200, 3)), (10, (.if_icmp .ge 77, 3)), (13, (.iload_n 2, 1)), (14, (.bipush 124, 2)), (16, (.if_icmp .ne 13, 3)), (19, (.aload_n 0, 1)), (20, (.iload_n 1, 1)), (21, (.bipush 38, 2)), (23, (.invokevirtual 62, 3)), (26, (.goto 8, 3)), (29, (.aload_n 0, 1)), (30, (.iload_n 1, 1)), (31, (.invokevirtual 86, 3)), (34, (.istore 5, 2)), (36, (.iload 5, 2))]
theorem dh_411 : dchk cX6_condition dl_411 = true := by decide +kernel
theorem dX6_condition_0 : decode cX6_condition 0 = .ok (.iconst (-1), 1) := dget dh_411 (k := 0) rfl
theorem dX6_condition_1 : decode cX6_condition 1 = .ok (.istore_n 3, 1) := dget dh_411 (k := 1) rfl
theorem dX6_condition_2 : decode cX6_condition 2 = .ok (.iconst 0, 1) := dget dh_411 (k := 2) rfl
theorem dX6_condition_3 : decode cX6_condition 3 = .ok (.istore 4, 2) := dget dh_411 (k := 3) rfl
theorem dX6_condition_5 : decode cX6_condition 5 = .ok (.iload 4, 2) := dget dh_411 (k := 4) rfl
theorem dX6_condition_7 : decode cX6_condition 7 = .ok (.sipush 200, 3) := dget dh_411 (k := 5) rfl
theorem dX6_condition_10 : decode cX6_condition 10 = .ok (.if_icmp .ge 77, 3) := dget dh_411 (k := 6) rfl
theorem dX6_condition_13 : decode cX6_condition 13 = .ok (.iload_n 2, 1) := dget dh_411 (k := 7) rfl
theorem dX6_condition_14 : decode cX6_condition 14 = .ok (.bipush 124, 2) := dget dh_411 (k := 8) rfl
theorem dX6_condition_16 : decode cX6_condition 16 = .ok (.if_icmp .ne 13, 3) := dget dh_411 (k := 9) rfl
theorem dX6_condition_19 : decode cX6_condition 19 = .ok (.aload_n 0, 1) := dget dh_411 (k := 10) rfl
theorem dX6_condition_20 : decode cX6_condition 20 = .ok (.iload_n 1, 1) := dget dh_411 (k := 11) rfl
theorem dX6_condition_21 : decode cX6_condition 21 = .ok (.bipush 38, 2) := dget dh_411 (k := 12) rfl
theorem dX6_condition_23 : decode cX6_condition 23 = .ok (.invokevirtual 62, 3) := dget dh_411 (k := 13) rfl
theorem dX6_condition_26 : decode cX6_condition 26 = .ok (.goto 8, 3) := dget dh_411 (k := 14) rfl
theorem dX6_condition_29 : decode cX6_condition 29 = .ok (.aload_n 0, 1) := dget dh_411 (k := 15) rfl
theorem dX6_condition_30 : decode cX6_condition 30 = .ok (.iload_n 1, 1) := dget dh_411 (k := 16) rfl
theorem dX6_condition_31 : decode cX6_condition 31 = .ok (.invokevirtual 86, 3) := dget dh_411 (k := 17) rfl
theorem dX6_condition_34 : decode cX6_condition 34 = .ok (.istore 5, 2) := dget dh_411 (k := 18) rfl
theorem dX6_condition_36 : decode cX6_condition 36 = .ok (.iload 5, 2) := dget dh_411 (k := 19) rfl
def dl_412 : List (Nat × (Instr × Nat)) := [(38, (.ifCond .ne 5, 3)), (41, (.iconst 0, 1)), (42, (.ireturn, 1)), (43, (.aload_n 0, 1)), (44, (.getfield 12, 3)), (47, (.iload_n 3, 1)), (48, (.invokevirtual 89, 3)), (51, (.aload_n 0, 1)), (52, (.invokevirtual 46, 3)), (55, (.iload_n 2, 1)), (56, (.if_icmp .eq 5, 3)), (59, (.iconst 1, 1)), (60, (.ireturn, 1)), (61, (.aload_n 0, 1)), (62, (.dup, 1)), (63, (.getfield 26, 3)), (66, (.iconst 1, 1)), (67, (.iadd, 1)), (68, (.putfield 26, 3)), (71, (.aload_n 0, 1))]
theorem dh_412 : dchk cX6_condition dl_412 = true := by decide +kernel
theorem dX6_condition_38 : decode cX6_condition 38 = .ok (.ifCond .ne 5, 3) := dget dh_412 (k := 0) rfl
theorem dX6_condition_41 : decode cX6_condition 41 = .ok (.iconst 0, 1) := dget dh_412 (k := 1) rfl
theorem dX6_condition_42 : decode cX6_condition 42 = .ok (.ireturn, 1) := dget dh_412 (k := 2) rfl
theorem dX6_condition_43 : decode cX6_condition 43 = .ok (.aload_n 0, 1) := dget dh_412 (k := 3) rfl
theorem dX6_condition_44 : decode cX6_condition 44 = .ok (.getfield 12, 3) := dget dh_412 (k := 4) rfl
theorem dX6_condition_47 : decode cX6_condition 47 = .ok (.iload_n 3, 1) := dget dh_412 (k := 5) rfl
theorem dX6_condition_48 : decode cX6_condition 48 = .ok (.invokevirtual 89, 3) := dget dh_412 (k := 6) rfl
theorem dX6_condition_51 : decode cX6_condition 51 = .ok (.aload_n 0, 1) := dget dh_412 (k := 7) rfl
theorem dX6_condition_52 : decode cX6_condition 52 = .ok (.invokevirtual 46, 3) := dget dh_412 (k := 8) rfl
theorem dX6_condition_55 : decode cX6_condition 55 = .ok (.iload_n 2, 1) := dget dh_412 (k := 9) rfl
theorem dX6_condition_56 : decode cX6_condition 56 = .ok (.if_icmp .eq 5, 3) := dget dh_412 (k := 10) rfl
theorem dX6_condition_59 : decode cX6_condition 59 = .ok (.iconst 1, 1) := dget dh_412 (k := 11) rfl
theorem dX6_condition_60 : decode cX6_condition 60 = .ok (.ireturn, 1) := dget dh_412 (k := 12) rfl
theorem dX6_condition_61 : decode cX6_condition 61 = .ok (.aload_n 0, 1) := dget dh_412 (k := 13) rfl
theorem dX6_condition_62 : decode cX6_condition 62 = .ok (.dup, 1) := dget dh_412 (k := 14) rfl
theorem dX6_condition_63 : decode cX6_condition 63 = .ok (.getfield 26, 3) := dget dh_412 (k := 15) rfl
theorem dX6_condition_66 : decode cX6_condition 66 = .ok (.iconst 1, 1) := dget dh_412 (k := 16) rfl
theorem dX6_condition_67 : decode cX6_condition 67 = .ok (.iadd, 1) := dget dh_412 (k := 17) rfl
theorem dX6_condition_68 : decode cX6_condition 68 = .ok (.putfield 26, 3) := dget dh_412 (k := 18) rfl
theorem dX6_condition_71 : decode cX6_condition 71 = .ok (.aload_n 0, 1) := dget dh_412 (k := 19) rfl
def dl_413 : List (Nat × (Instr × Nat)) := [(72, (.getfield 12, 3)), (75, (.iload_n 2, 1)), (76, (.iconst 0, 1)), (77, (.invokevirtual 92, 3)), (80, (.istore_n 3, 1)), (81, (.iinc 4 1, 3)), (84, (.goto (-79), 3)), (87, (.iconst 1, 1)), (88, (.ireturn, 1))]
theorem dh_413 : dchk cX6_condition dl_413 = true := by decide +kernel
theorem dX6_condition_72 : decode cX6_condition 72 = .ok (.getfield 12, 3) := dget dh_413 (k := 0) rfl
theorem dX6_condition_75 : decode cX6_condition 75 = .ok (.iload_n 2, 1) := dget dh_413 (k := 1) rfl
theorem dX6_condition_76 : decode cX6_condition 76 = .ok (.iconst 0, 1) := dget dh_413 (k := 2) rfl
theorem dX6_condition_77 : decode cX6_condition 77 = .ok (.invokevirtual 92, 3) := dget dh_413 (k := 3) rfl
theorem dX6_condition_80 : decode cX6_condition 80 = .ok (.istore_n 3, 1) := dget dh_413 (k := 4) rfl
theorem dX6_condition_81 : decode cX6_condition 81 = .ok (.iinc 4 1, 3) := dget dh_413 (k := 5) rfl
theorem dX6_condition_84 : decode cX6_condition 84 = .ok (.goto (-79), 3) := dget dh_413 (k := 6) rfl
def dl_414 : List (Nat × (Instr × Nat)) := [(0, (.aload_n 0, 1)), (1, (.bipush 41, 2)), (3, (.invokevirtual 69, 3)), (6, (.ifCond .ne 5, 3)), (9, (.iconst 0, 1)), (10, (.ireturn, 1)), (11, (.aload_n 0, 1)), (12, (.getfield 12, 3)), (15, (.invokevirtual 84, 3)), (18, (.iconst 1, 1)), (19, (.ireturn, 1))]
theorem dh_414 : dchk cX6_endClause dl_414 = true := by decide +kernel
theorem dX6_endClause_0 : decode cX6_endClause 0 = .ok (.aload_n 0, 1) := dget dh_414 (k := 0) rfl
theorem dX6_endClause_1 : decode cX6_endClause 1 = .ok (.bipush 41, 2) := dget dh_414 (k := 1) rfl
theorem dX6_endClause_3 : decode cX6_endClause 3 = .ok (.invokevirtual 69, 3) := dget dh_414 (k := 2) rfl
theorem dX6_endClause_6 : decode cX6_endClause 6 = .ok (.ifCond .ne 5, 3) := dget dh_414 (k := 3) rfl
theorem dX6_endClause_9 : decode cX6_endClause 9 = .ok (.iconst 0, 1) := dget dh_414 (k := 4) rfl
theorem dX6_endClause_10 : decode cX6_endClause 10 = .ok (.ireturn, 1) := dget dh_414 (k := 5) rfl
theorem dX6_endClause_11 : decode cX6_endClause 11 = .ok (.aload_n 0, 1) := dget dh_414 (k := 6) rfl
theorem dX6_endClause_12 : decode cX6_endClause 12 = .ok (.getfield 12, 3) := dget dh_414 (k := 7) rfl
theorem dX6_endClause_15 : decode cX6_endClause 15 = .ok (.invokevirtual 84, 3) := dget dh_414 (k := 8) rfl
theorem dX6_endClause_18 : decode cX6_endClause 18 = .ok (.iconst 1, 1) := dget dh_414 (k := 9) rfl
theorem dX6_endClause_19 : decode cX6_endClause 19 = .ok (.ireturn, 1) := dget dh_414 (k := 10) rfl
def dl_415 : List (Nat × (Instr × Nat)) := [(0, (.aload_n 0, 1)), (1, (.invokevirtual 46, 3)), (4, (.istore_n 2, 1)), (5, (.iload_n 2, 1)), (6, (.bipush 33, 2)), (8, (.if_icmp .eq 9, 3)), (11, (.iload_n 2, 1)), (12, (.bipush 40, 2)), (14, (.if_icmp .ne 83, 3)), (17, (.iload_n 1, 1)), (18, (.bipush 6, 2)), (20, (.if_icmp .lt 9, 3)), (23, (.aload_n 0, 1)), (24, (.iconst 5, 1)), (25, (.invokevirtual 73, 3)), (28, (.ireturn, 1)), (29, (.aload_n 0, 1)), (30, (.dup, 1)), (31, (.getfield 26, 3)), (34, (.iconst 1, 1))]
theorem dh_415 : dchk cX6_piece dl_415 = true := by decide +kernel
theorem dX6_piece_0 : decode cX6_piece 0 = .ok (.aload_n 0, 1) := dget dh_415 (k := 0) rfl
theorem dX6_piece_1 : decode cX6_piece 1 = .ok (.invokevirtual 46, 3) := dget dh_415 (k := 1) rfl
theorem dX6_piece_4 : decode cX6_piece 4 = .ok (.istore_n 2, 1) := dget dh_415 (k := 2) rfl
theorem dX6_piece_5 : decode cX6_piece 5 = .ok (.iload_n 2, 1) := dget dh_415 (k := 3) rfl
theorem dX6_piece_6 : decode cX6_piece 6 = .ok (.bipush 33, 2) := dget dh_415 (k := 4) rfl
theorem dX6_piece_8 : decode cX6_piece 8 = .ok (.if_icmp .eq 9, 3) := dget dh_415 (k := 5) rfl
theorem dX6_piece_11 : decode cX6_piece 11 = .ok (.iload_n 2, 1) := dget dh_415 (k := 6) rfl
theorem dX6_piece_12 : decode cX6_piece 12 = .ok (.bipush 40, 2) := dget dh_415 (k := 7) rfl
theorem dX6_piece_14 : decode cX6_piece 14 = .ok (.if_icmp .ne 83, 3) := dget dh_415 (k := 8) rfl
theorem dX6_piece_17 : decode cX6_piece 17 = .ok (.iload_n 1, 1) := dget dh_415 (k := 9) rfl
theorem dX6_piece_18 : decode cX6_piece 18 = .ok (.bipush 6, 2) := dget dh_415 (k := 10) rfl
theorem dX6_piece_20 : decode cX6_piece 20 = .ok (.if_icmp .lt 9, 3) := dget dh_415 (k := 11) rfl
theorem dX6_piece_23 : decode cX6_piece 23 = .ok (.aload_n 0, 1) := dget dh_415 (k := 12) rfl
theorem dX6_piece_24 : decode cX6_piece 24 = .ok (.iconst 5, 1) := dget dh_415 (k := 13) rfl
theorem dX6_piece_25 : decode cX6_piece 25 = .ok (.invokevirtual 73, 3) := dget dh_415 (k := 14) rfl
theorem dX6_piece_28 : decode cX6_piece 28 = .ok (.ireturn, 1) := dget dh_415 (k := 15) rfl
theorem dX6_piece_29 : decode cX6_piece 29 = .ok (.aload_n 0, 1) := dget dh_415 (k := 16) rfl
theorem dX6_piece_30 : decode cX6_piece 30 = .ok (.dup, 1) := dget dh_415 (k := 17) rfl
theorem dX6_piece_31 : decode cX6_piece 31 = .ok (.getfield 26, 3) := dget dh_415 (k := 18) rfl
theorem dX6_piece_34 : decode cX6_piece 34 = .ok (.iconst 1, 1) := dget dh_415 (k := 19) rfl
def dl_416 : List (Nat × (Instr × Nat)) := [(35, (.iadd, 1)), (36, (.putfield 26, 3)), (39, (.iload_n 2, 1)), (40, (.bipush 40, 2)), (42, (.if_icmp .ne 30, 3)), (45, (.aload_n 0, 1)), (46, (.iload_n 1, 1)), (47, (.iconst 1, 1)), (48, (.iadd, 1)), (49, (.bipush 124, 2)), (51, (.invokevirtual 62, 3)), (54, (.ifCond .eq 16, 3)), (57, (.aload_n 0, 1)), (58, (.bipush 41, 2)), (60, (.invokevirtual 69, 3)), (63, (.ifCond .eq 7, 3)), (66, (.iconst 1, 1)), (67, (.goto 4, 3)), (70, (.iconst 0, 1)), (71, (.ireturn, 1))]
theorem dh_416 : dchk cX6_piece dl_416 = true := by decide +kernel
theorem dX6_piece_35 : decode cX6_piece 35 = .ok (.iadd, 1) := dget dh_416 (k := 0) rfl
theorem dX6_piece_36 : decode cX6_piece 36 = .ok (.putfield 26, 3) := dget dh_416 (k := 1) rfl
theorem dX6_piece_39 : decode cX6_piece 39 = .ok (.iload_n 2, 1) := dget dh_416 (k := 2) rfl
theorem dX6_piece_40 : decode cX6_piece 40 = .ok (.bipush 40, 2) := dget dh_416 (k := 3) rfl
theorem dX6_piece_42 : decode cX6_piece 42 = .ok (.if_icmp .ne 30, 3) := dget dh_416 (k := 4) rfl
theorem dX6_piece_45 : decode cX6_piece 45 = .ok (.aload_n 0, 1) := dget dh_416 (k := 5) rfl
theorem dX6_piece_46 : decode cX6_piece 46 = .ok (.iload_n 1, 1) := dget dh_416 (k := 6) rfl
theorem dX6_piece_47 : decode cX6_piece 47 = .ok (.iconst 1, 1) := dget dh_416 (k := 7) rfl
theorem dX6_piece_48 : decode cX6_piece 48 = .ok (.iadd, 1) := dget dh_416 (k := 8) rfl
theorem dX6_piece_49 : decode cX6_piece 49 = .ok (.bipush 124, 2) := dget dh_416 (k := 9) rfl
theorem dX6_piece_51 : decode cX6_piece 51 = .ok (.invokevirtual 62, 3) := dget dh_416 (k := 10) rfl
theorem dX6_piece_54 : decode cX6_piece 54 = .ok (.ifCond .eq 16, 3) := dget dh_416 (k := 11) rfl
theorem dX6_piece_57 : decode cX6_piece 57 = .ok (.aload_n 0, 1) := dget dh_416 (k := 12) rfl
theorem dX6_piece_58 : decode cX6_piece 58 = .ok (.bipush 41, 2) := dget dh_416 (k := 13) rfl
theorem dX6_piece_60 : decode cX6_piece 60 = .ok (.invokevirtual 69, 3) := dget dh_416 (k := 14) rfl
theorem dX6_piece_63 : decode cX6_piece 63 = .ok (.ifCond .eq 7, 3) := dget dh_416 (k := 15) rfl
theorem dX6_piece_66 : decode cX6_piece 66 = .ok (.iconst 1, 1) := dget dh_416 (k := 16) rfl
theorem dX6_piece_67 : decode cX6_piece 67 = .ok (.goto 4, 3) := dget dh_416 (k := 17) rfl
theorem dX6_piece_70 : decode cX6_piece 70 = .ok (.iconst 0, 1) := dget dh_416 (k := 18) rfl
theorem dX6_piece_71 : decode cX6_piece 71 = .ok (.ireturn, 1) := dget dh_416 (k := 19) rfl
def dl_417 : List (Nat × (Instr × Nat)) := [(72, (.aload_n 0, 1)), (73, (.iload_n 1, 1)), (74, (.iconst 1, 1)), (75, (.iadd, 1)), (76, (.invokevirtual 86, 3)), (79, (.ifCond .ne 5, 3)), (82, (.iconst 0, 1)), (83, (.ireturn, 1)), (84, (.aload_n 0, 1)), (85, (.getfield 12, 3)), (88, (.bipush 33, 2)), (90, (.iconst 0, 1)), (91, (.invokevirtual 92, 3)), (94, (.pop, 1)), (95, (.iconst 1, 1)), (96, (.ireturn, 1)), (97, (.aload_n 0, 1)), (98, (.iload_n 1, 1)), (99, (.iconst 1, 1)), (100, (.invokevirtual 54, 3))]
theorem dh_417 : dchk cX6_piece dl_417 = true := by decide +kernel
theorem dX6_piece_72 : decode cX6_piece 72 = .ok (.aload_n 0, 1) := dget dh_417 (k := 0) rfl
theorem dX6_piece_73 : decode cX6_piece 73 = .ok (.iload_n 1, 1) := dget dh_417 (k := 1) rfl
theorem dX6_piece_74 : decode cX6_piece 74 = .ok (.iconst 1, 1) := dget dh_417 (k := 2) rfl
theorem dX6_piece_75 : decode cX6_piece 75 = .ok (.iadd, 1) := dget dh_417 (k := 3) rfl
theorem dX6_piece_76 : decode cX6_piece 76 = .ok (.invokevirtual 86, 3) := dget dh_417 (k := 4) rfl
theorem dX6_piece_79 : decode cX6_piece 79 = .ok (.ifCond .ne 5, 3) := dget dh_417 (k := 5) rfl
theorem dX6_piece_82 : decode cX6_piece 82 = .ok (.iconst 0, 1) := dget dh_417 (k := 6) rfl
theorem dX6_piece_83 : decode cX6_piece 83 = .ok (.ireturn, 1) := dget dh_417 (k := 7) rfl
theorem dX6_piece_84 : decode cX6_piece 84 = .ok (.aload_n 0, 1) := dget dh_417 (k := 8) rfl
theorem dX6_piece_85 : decode cX6_piece 85 = .ok (.getfield 12, 3) := dget dh_417 (k := 9) rfl
theorem dX6_piece_88 : decode cX6_piece 88 = .ok (.bipush 33, 2) := dget dh_417 (k := 10) rfl
theorem dX6_piece_90 : decode cX6_piece 90 = .ok (.iconst 0, 1) := dget dh_417 (k := 11) rfl
theorem dX6_piece_91 : decode cX6_piece 91 = .ok (.invokevirtual 92, 3) := dget dh_417 (k := 12) rfl
theorem dX6_piece_94 : decode cX6_piece 94 = .ok (.pop, 1) := dget dh_417 (k := 13) rfl
theorem dX6_piece_95 : decode cX6_piece 95 = .ok (.iconst 1, 1) := dget dh_417 (k := 14) rfl
theorem dX6_piece_96 : decode cX6_piece 96 = .ok (.ireturn, 1) := dget dh_417 (k := 15) rfl
theorem dX6_piece_97 : decode cX6_piece 97 = .ok (.aload_n 0, 1) := dget dh_417 (k := 16) rfl
theorem dX6_piece_98 : decode cX6_piece 98 = .ok (.iload_n 1, 1) := dget dh_417 (k := 17) rfl
theorem dX6_piece_99 : decode cX6_piece 99 = .ok (.iconst 1, 1) := dget dh_417 (k := 18) rfl
theorem dX6_piece_100 : decode cX6_piece 100 = .ok (.invokevirtual 54, 3) := dget dh_417 (k := 19) rfl
def dl_418 : List (Nat × (Instr × Nat)) := [(103, (.ifCond .ne 5, 3)), (106, (.iconst 0, 1)), (107, (.ireturn, 1)), (108, (.aload_n 0, 1)), (109, (.invokevirtual 46, 3)), (112, (.istore_n 3, 1)), (113, (.iload_n 3, 1)), (114, (.bipush 60, 2)), (116, (.if_icmp .eq 21, 3)), (119, (.iload_n 3, 1)), (120, (.bipush 62, 2)), (122, (.if_icmp .eq 15, 3)), (125, (.iload_n 3, 1)), (126, (.bipush 61, 2)), (128, (.if_icmp .eq 9, 3)), (131, (.aload_n 0, 1)), (132, (.iconst 1, 1)), (133, (.invokevirtual 73, 3)), (136, (.ireturn, 1)), (137, (.aload_n 0, 1))]
theorem dh_418 : dchk cX6_piece dl_418 = true := by decide +kernel
theorem dX6_piece_103 : decode cX6_piece 103 = .ok (.ifCond .ne 5, 3) := dget dh_418 (k := 0) rfl
theorem dX6_piece_106 : decode cX6_piece 106 = .ok (.iconst 0, 1) := dget dh_418 (k := 1) rfl
theorem dX6_piece_107 : decode cX6_piece 107 = .ok (.ireturn, 1) := dget dh_418 (k := 2) rfl
theorem dX6_piece_108 : decode cX6_piece 108 = .ok (.aload_n 0, 1) := dget dh_418 (k := 3) rfl
theorem dX6_piece_109 : decode cX6_piece 109 = .ok (.invokevirtual 46, 3) := dget dh_418 (k := 4) rfl
theorem dX6_piece_112 : decode cX6_piece 112 = .ok (.istore_n 3, 1) := dget dh_418 (k := 5) rfl
theorem dX6_piece_113 : decode cX6_piece 113 = .ok (.iload_n 3, 1) := dget dh_418 (k := 6) rfl
theorem dX6_piece_114 : decode cX6_piece 114 = .ok (.bipush 60, 2) := dget dh_418 (k := 7) rfl
theorem dX6_piece_116 : decode cX6_piece 116 = .ok (.if_icmp .eq 21, 3) := dget dh_418 (k := 8) rfl
theorem dX6_piece_119 : decode cX6_piece 119 = .ok (.iload_n 3, 1) := dget dh_418 (k := 9) rfl
theorem dX6_piece_120 : decode cX6_piece 120 = .ok (.bipush 62, 2) := dget dh_418 (k := 10) rfl
theorem dX6_piece_122 : decode cX6_piece 122 = .ok (.if_icmp .eq 15, 3) := dget dh_418 (k := 11) rfl
theorem dX6_piece_125 : decode cX6_piece 125 = .ok (.iload_n 3, 1) := dget dh_418 (k := 12) rfl
theorem dX6_piece_126 : decode cX6_piece 126 = .ok (.bipush 61, 2) := dget dh_418 (k := 13) rfl
theorem dX6_piece_128 : decode cX6_piece 128 = .ok (.if_icmp .eq 9, 3) := dget dh_418 (k := 14) rfl
theorem dX6_piece_131 : decode cX6_piece 131 = .ok (.aload_n 0, 1) := dget dh_418 (k := 15) rfl
theorem dX6_piece_132 : decode cX6_piece 132 = .ok (.iconst 1, 1) := dget dh_418 (k := 16) rfl
theorem dX6_piece_133 : decode cX6_piece 133 = .ok (.invokevirtual 73, 3) := dget dh_418 (k := 17) rfl
theorem dX6_piece_136 : decode cX6_piece 136 = .ok (.ireturn, 1) := dget dh_418 (k := 18) rfl
theorem dX6_piece_137 : decode cX6_piece 137 = .ok (.aload_n 0, 1) := dget dh_418 (k := 19) rfl
def dl_419 : List (Nat × (Instr × Nat)) := [(138, (.dup, 1)), (139, (.getfield 26, 3)), (142, (.iconst 1, 1)), (143, (.iadd, 1)), (144, (.putfield 26, 3)), (147, (.aload_n 0, 1)), (148, (.iload_n 1, 1)), (149, (.iconst 1, 1)), (150, (.invokevirtual 54, 3)), (153, (.ifCond .ne 5, 3)), (156, (.iconst 0, 1)), (157, (.ireturn, 1)), (158, (.aload_n 0, 1)), (159, (.getfield 12, 3)), (162, (.iload_n 3, 1)), (163, (.iconst 0, 1)), (164, (.invokevirtual 92, 3)), (167, (.pop, 1)), (168, (.iconst 1, 1)), (169, (.ireturn, 1))]
theorem dh_419 : dchk cX6_piece dl_419 = true := by decide +kernel
theorem dX6_piece_138 : decode cX6_piece 138 = .ok (.dup, 1) := dget dh_419 (k := 0) rfl
theorem dX6_piece_139 : decode cX6_piece 139 = .ok (.getfield 26, 3) := dget dh_419 (k := 1) rfl
theorem dX6_piece_142 : decode cX6_piece 142 = .ok (.iconst 1, 1) := dget dh_419 (k := 2) rfl
theorem dX6_piece_143 : decode cX6_piece 143 = .ok (.iadd, 1) := dget dh_419 (k := 3) rfl
theorem dX6_piece_144 : decode cX6_piece 144 = .ok (.putfield 26, 3) := dget dh_419 (k := 4) rfl
theorem dX6_piece_147 : decode cX6_piece 147 = .ok (.aload_n 0, 1) := dget dh_419 (k := 5) rfl
theorem dX6_piece_148 : decode cX6_piece 148 = .ok (.iload_n 1, 1) := dget dh_419 (k := 6) rfl
theorem dX6_piece_149 : decode cX6_piece 149 = .ok (.iconst 1, 1) := dget dh_419 (k := 7) rfl
theorem dX6_piece_150 : decode cX6_piece 150 = .ok (.invokevirtual 54, 3) := dget dh_419 (k := 8) rfl
theorem dX6_piece_153 : decode cX6_piece 153 = .ok (.ifCond .ne 5, 3) := dget dh_419 (k := 9) rfl
theorem dX6_piece_156 : decode cX6_piece 156 = .ok (.iconst 0, 1) := dget dh_419 (k := 10) rfl
theorem dX6_piece_157 : decode cX6_piece 157 = .ok (.ireturn, 1) := dget dh_419 (k := 11) rfl
theorem dX6_piece_158 : decode cX6_piece 158 = .ok (.aload_n 0, 1) := dget dh_419 (k := 12) rfl
theorem dX6_piece_159 : decode cX6_piece 159 = .ok (.getfield 12, 3) := dget dh_419 (k := 13) rfl
theorem dX6_piece_162 : decode cX6_piece 162 = .ok (.iload_n 3, 1) := dget dh_419 (k := 14) rfl
theorem dX6_piece_163 : decode cX6_piece 163 = .ok (.iconst 0, 1) := dget dh_419 (k := 15) rfl
theorem dX6_piece_164 : decode cX6_piece 164 = .ok (.invokevirtual 92, 3) := dget dh_419 (k := 16) rfl
theorem dX6_piece_167 : decode cX6_piece 167 = .ok (.pop, 1) := dget dh_419 (k := 17) rfl
theorem dX6_piece_168 : decode cX6_piece 168 = .ok (.iconst 1, 1) := dget dh_419 (k := 18) rfl
theorem dX6_piece_169 : decode cX6_piece 169 = .ok (.ireturn, 1) := dget dh_419 (k := 19) rfl
def dl_420 : List (Nat × (Instr × Nat)) := [(0, (.aload_n 0, 1)), (1, (.getfield 12, 3)), (4, (.invokevirtual 32, 3)), (7, (.aload_n 0, 1)), (8, (.iload_n 2, 1)), (9, (.sipush 200, 3)), (12, (.invokestatic 35, 3)), (15, (.putfield 22, 3)), (18, (.iconst 0, 1)), (19, (.istore_n 3, 1)), (20, (.iload_n 3, 1)), (21, (.aload_n 0, 1)), (22, (.getfield 22, 3)), (25, (.if_icmp .ge 21, 3)), (28, (.aload_n 0, 1)), (29, (.getfield 18, 3)), (32, (.iload_n 3, 1)), (33, (.aload_n 1, 1)), (34, (.getfield 41, 3)), (37, (.iload_n 3, 1))]
theorem dh_420 : dchk cX6_read dl_420 = true := by decide +kernel
theorem dX6_read_0 : decode cX6_read 0 = .ok (.aload_n 0, 1) := dget dh_420 (k := 0) rfl
theorem dX6_read_1 : decode cX6_read 1 = .ok (.getfield 12, 3) := dget dh_420 (k := 1) rfl
theorem dX6_read_4 : decode cX6_read 4 = .ok (.invokevirtual 32, 3) := dget dh_420 (k := 2) rfl
theorem dX6_read_7 : decode cX6_read 7 = .ok (.aload_n 0, 1) := dget dh_420 (k := 3) rfl
theorem dX6_read_8 : decode cX6_read 8 = .ok (.iload_n 2, 1) := dget dh_420 (k := 4) rfl
theorem dX6_read_9 : decode cX6_read 9 = .ok (.sipush 200, 3) := dget dh_420 (k := 5) rfl
theorem dX6_read_12 : decode cX6_read 12 = .ok (.invokestatic 35, 3) := dget dh_420 (k := 6) rfl
theorem dX6_read_15 : decode cX6_read 15 = .ok (.putfield 22, 3) := dget dh_420 (k := 7) rfl
theorem dX6_read_18 : decode cX6_read 18 = .ok (.iconst 0, 1) := dget dh_420 (k := 8) rfl
theorem dX6_read_19 : decode cX6_read 19 = .ok (.istore_n 3, 1) := dget dh_420 (k := 9) rfl
theorem dX6_read_20 : decode cX6_read 20 = .ok (.iload_n 3, 1) := dget dh_420 (k := 10) rfl
theorem dX6_read_21 : decode cX6_read 21 = .ok (.aload_n 0, 1) := dget dh_420 (k := 11) rfl
theorem dX6_read_22 : decode cX6_read 22 = .ok (.getfield 22, 3) := dget dh_420 (k := 12) rfl
theorem dX6_read_25 : decode cX6_read 25 = .ok (.if_icmp .ge 21, 3) := dget dh_420 (k := 13) rfl
theorem dX6_read_28 : decode cX6_read 28 = .ok (.aload_n 0, 1) := dget dh_420 (k := 14) rfl
theorem dX6_read_29 : decode cX6_read 29 = .ok (.getfield 18, 3) := dget dh_420 (k := 15) rfl
theorem dX6_read_32 : decode cX6_read 32 = .ok (.iload_n 3, 1) := dget dh_420 (k := 16) rfl
theorem dX6_read_33 : decode cX6_read 33 = .ok (.aload_n 1, 1) := dget dh_420 (k := 17) rfl
theorem dX6_read_34 : decode cX6_read 34 = .ok (.getfield 41, 3) := dget dh_420 (k := 18) rfl
theorem dX6_read_37 : decode cX6_read 37 = .ok (.iload_n 3, 1) := dget dh_420 (k := 19) rfl
def dl_421 : List (Nat × (Instr × Nat)) := [(38, (.baload, 1)), (39, (.bastore, 1)), (40, (.iinc 3 1, 3)), (43, (.goto (-23), 3)), (46, (.aload_n 0, 1)), (47, (.iconst 0, 1)), (48, (.putfield 26, 3)), (51, (.aload_n 0, 1)), (52, (.iconst 0, 1)), (53, (.putfield 29, 3)), (56, (.iconst 0, 1)), (57, (.istore_n 3, 1)), (58, (.iload_n 3, 1)), (59, (.bipush 14, 2)), (61, (.if_icmp .gt 89, 3)), (64, (.aload_n 0, 1)), (65, (.invokevirtual 46, 3)), (68, (.istore 4, 2)), (70, (.aload_n 0, 1)), (71, (.iload 4, 2))]
theorem dh_421 : dchk cX6_read dl_421 = true := by decide +kernel
theorem dX6_read_38 : decode cX6_read 38 = .ok (.baload, 1) := dget dh_421 (k := 0) rfl
theorem dX6_read_39 : decode cX6_read 39 = .ok (.bastore, 1) := dget dh_421 (k := 1) rfl
theorem dX6_read_40 : decode cX6_read 40 = .ok (.iinc 3 1, 3) := dget dh_421 (k := 2) rfl
theorem dX6_read_43 : decode cX6_read 43 = .ok (.goto (-23), 3) := dget dh_421 (k := 3) rfl
theorem dX6_read_46 : decode cX6_read 46 = .ok (.aload_n 0, 1) := dget dh_421 (k := 4) rfl
theorem dX6_read_47 : decode cX6_read 47 = .ok (.iconst 0, 1) := dget dh_421 (k := 5) rfl
theorem dX6_read_48 : decode cX6_read 48 = .ok (.putfield 26, 3) := dget dh_421 (k := 6) rfl
theorem dX6_read_51 : decode cX6_read 51 = .ok (.aload_n 0, 1) := dget dh_421 (k := 7) rfl
theorem dX6_read_52 : decode cX6_read 52 = .ok (.iconst 0, 1) := dget dh_421 (k := 8) rfl
theorem dX6_read_53 : decode cX6_read 53 = .ok (.putfield 29, 3) := dget dh_421 (k := 9) rfl
theorem dX6_read_56 : decode cX6_read 56 = .ok (.iconst 0, 1) := dget dh_421 (k := 10) rfl
theorem dX6_read_57 : decode cX6_read 57 = .ok (.istore_n 3, 1) := dget dh_421 (k := 11) rfl
theorem dX6_read_58 : decode cX6_read 58 = .ok (.iload_n 3, 1) := dget dh_421 (k := 12) rfl
theorem dX6_read_59 : decode cX6_read 59 = .ok (.bipush 14, 2) := dget dh_421 (k := 13) rfl
theorem dX6_read_61 : decode cX6_read 61 = .ok (.if_icmp .gt 89, 3) := dget dh_421 (k := 14) rfl
theorem dX6_read_64 : decode cX6_read 64 = .ok (.aload_n 0, 1) := dget dh_421 (k := 15) rfl
theorem dX6_read_65 : decode cX6_read 65 = .ok (.invokevirtual 46, 3) := dget dh_421 (k := 16) rfl
theorem dX6_read_68 : decode cX6_read 68 = .ok (.istore 4, 2) := dget dh_421 (k := 17) rfl
theorem dX6_read_70 : decode cX6_read 70 = .ok (.aload_n 0, 1) := dget dh_421 (k := 18) rfl
theorem dX6_read_71 : decode cX6_read 71 = .ok (.iload 4, 2) := dget dh_421 (k := 19) rfl
def dl_422 : List (Nat × (Instr × Nat)) := [(73, (.invokevirtual 50, 3)), (76, (.ifCond .eq 63, 3)), (79, (.iload 4, 2)), (81, (.bipush 98, 2)), (83, (.if_icmp .eq 12, 3)), (86, (.aload_n 0, 1)), (87, (.iconst 0, 1)), (88, (.iconst 1, 1)), (89, (.invokevirtual 54, 3)), (92, (.ifCond .eq 47, 3)), (95, (.aload_n 0, 1)), (96, (.invokevirtual 58, 3)), (99, (.ifCond .eq 40, 3)), (102, (.aload_n 0, 1)), (103, (.iconst 1, 1)), (104, (.bipush 124, 2)), (106, (.invokevirtual 62, 3)), (109, (.ifCond .eq 30, 3)), (112, (.aload_n 0, 1)), (113, (.invokevirtual 66, 3))]
theorem dh_422 : dchk cX6_read dl_422 = true := by decide +kernel
theorem dX6_read_73 : decode cX6_read 73 = .ok (.invokevirtual 50, 3) := dget dh_422 (k := 0) rfl
theorem dX6_read_76 : decode cX6_read 76 = .ok (.ifCond .eq 63, 3) := dget dh_422 (k := 1) rfl
theorem dX6_read_79 : decode cX6_read 79 = .ok (.iload 4, 2) := dget dh_422 (k := 2) rfl
theorem dX6_read_81 : decode cX6_read 81 = .ok (.bipush 98, 2) := dget dh_422 (k := 3) rfl
theorem dX6_read_83 : decode cX6_read 83 = .ok (.if_icmp .eq 12, 3) := dget dh_422 (k := 4) rfl
theorem dX6_read_86 : decode cX6_read 86 = .ok (.aload_n 0, 1) := dget dh_422 (k := 5) rfl
theorem dX6_read_87 : decode cX6_read 87 = .ok (.iconst 0, 1) := dget dh_422 (k := 6) rfl
theorem dX6_read_88 : decode cX6_read 88 = .ok (.iconst 1, 1) := dget dh_422 (k := 7) rfl
theorem dX6_read_89 : decode cX6_read 89 = .ok (.invokevirtual 54, 3) := dget dh_422 (k := 8) rfl
theorem dX6_read_92 : decode cX6_read 92 = .ok (.ifCond .eq 47, 3) := dget dh_422 (k := 9) rfl
theorem dX6_read_95 : decode cX6_read 95 = .ok (.aload_n 0, 1) := dget dh_422 (k := 10) rfl
theorem dX6_read_96 : decode cX6_read 96 = .ok (.invokevirtual 58, 3) := dget dh_422 (k := 11) rfl
theorem dX6_read_99 : decode cX6_read 99 = .ok (.ifCond .eq 40, 3) := dget dh_422 (k := 12) rfl
theorem dX6_read_102 : decode cX6_read 102 = .ok (.aload_n 0, 1) := dget dh_422 (k := 13) rfl
theorem dX6_read_103 : decode cX6_read 103 = .ok (.iconst 1, 1) := dget dh_422 (k := 14) rfl
theorem dX6_read_104 : decode cX6_read 104 = .ok (.bipush 124, 2) := dget dh_422 (k := 15) rfl
theorem dX6_read_106 : decode cX6_read 106 = .ok (.invokevirtual 62, 3) := dget dh_422 (k := 16) rfl
theorem dX6_read_109 : decode cX6_read 109 = .ok (.ifCond .eq 30, 3) := dget dh_422 (k := 17) rfl
theorem dX6_read_112 : decode cX6_read 112 = .ok (.aload_n 0, 1) := dget dh_422 (k := 18) rfl
theorem dX6_read_113 : decode cX6_read 113 = .ok (.invokevirtual 66, 3) := dget dh_422 (k := 19) rfl
def dl_423 : List (Nat × (Instr × Nat)) := [(116, (.ifCond .eq 23, 3)), (119, (.aload_n 0, 1)), (120, (.getfield 26, 3)), (123, (.aload_n 0, 1)), (124, (.getfield 22, 3)), (127, (.if_icmp .eq 12, 3)), (130, (.aload_n 0, 1)), (131, (.bipush 59, 2)), (133, (.invokevirtual 69, 3)), (136, (.ifCond .ne 8, 3)), (139, (.aload_n 0, 1)), (140, (.getfield 29, 3)), (143, (.ireturn, 1)), (144, (.iinc 3 1, 3)), (147, (.goto (-89), 3)), (150, (.aload_n 0, 1)), (151, (.getfield 29, 3)), (154, (.ireturn, 1))]
theorem dh_423 : dchk cX6_read dl_423 = true := by decide +kernel
theorem dX6_read_116 : decode cX6_read 116 = .ok (.ifCond .eq 23, 3) := dget dh_423 (k := 0) rfl
theorem dX6_read_119 : decode cX6_read 119 = .ok (.aload_n 0, 1) := dget dh_423 (k := 1) rfl
theorem dX6_read_120 : decode cX6_read 120 = .ok (.getfield 26, 3) := dget dh_423 (k := 2) rfl
theorem dX6_read_123 : decode cX6_read 123 = .ok (.aload_n 0, 1) := dget dh_423 (k := 3) rfl
theorem dX6_read_124 : decode cX6_read 124 = .ok (.getfield 22, 3) := dget dh_423 (k := 4) rfl
theorem dX6_read_127 : decode cX6_read 127 = .ok (.if_icmp .eq 12, 3) := dget dh_423 (k := 5) rfl
theorem dX6_read_130 : decode cX6_read 130 = .ok (.aload_n 0, 1) := dget dh_423 (k := 6) rfl
theorem dX6_read_131 : decode cX6_read 131 = .ok (.bipush 59, 2) := dget dh_423 (k := 7) rfl
theorem dX6_read_133 : decode cX6_read 133 = .ok (.invokevirtual 69, 3) := dget dh_423 (k := 8) rfl
theorem dX6_read_136 : decode cX6_read 136 = .ok (.ifCond .ne 8, 3) := dget dh_423 (k := 9) rfl
theorem dX6_read_139 : decode cX6_read 139 = .ok (.aload_n 0, 1) := dget dh_423 (k := 10) rfl
theorem dX6_read_140 : decode cX6_read 140 = .ok (.getfield 29, 3) := dget dh_423 (k := 11) rfl
theorem dX6_read_143 : decode cX6_read 143 = .ok (.ireturn, 1) := dget dh_423 (k := 12) rfl
theorem dX6_read_144 : decode cX6_read 144 = .ok (.iinc 3 1, 3) := dget dh_423 (k := 13) rfl
theorem dX6_read_147 : decode cX6_read 147 = .ok (.goto (-89), 3) := dget dh_423 (k := 14) rfl
theorem dX6_read_150 : decode cX6_read 150 = .ok (.aload_n 0, 1) := dget dh_423 (k := 15) rfl
theorem dX6_read_151 : decode cX6_read 151 = .ok (.getfield 29, 3) := dget dh_423 (k := 16) rfl
theorem dX6_read_154 : decode cX6_read 154 = .ok (.ireturn, 1) := dget dh_423 (k := 17) rfl
