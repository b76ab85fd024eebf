set_option maxRecDepth 100000 in
theorem t_643 : Cond.fieldLink RX5 15 "DepositJudge$Law" "steps" "I" ∈ gT := tm (tb1 (List.mem_of_getElem? (i := 90) (by rfl))) (by decide +kernel)
set_option maxRecDepth 100000 in
theorem t_644 : Cond.code yX5_isFull cX5_isFull 1 (some .boolean) ∈ gT := tm (tb3 (List.mem_of_getElem? (i := 15) (by rfl))) (by decide +kernel)
set_option maxRecDepth 100000 in
theorem t_645 : Cond.methodLink RX5 40 yX5_isFull ∈ gT := tm (tb3 (List.mem_of_getElem? (i := 20) (by rfl))) (by decide +kernel)
set_option maxRecDepth 100000 in
theorem t_646 : Cond.instanceMethod yX5_isFull ∈ gT := tm (tb3 (List.mem_of_getElem? (i := 13) (by rfl))) (by decide +kernel)
set_option maxRecDepth 100000 in
theorem t_647 : Cond.selects RX5 yX5_isFull yX5_isFull ∈ gT := tm (tb3 (List.mem_of_getElem? (i := 14) (by rfl))) (by decide +kernel)
set_option maxRecDepth 100000 in
theorem t_648 : Cond.fieldLink RX6 26 "DepositJudge$LawReader" "at" "I" ∈ gT := tm (tb1 (List.mem_of_getElem? (i := 121) (by rfl))) (by decide +kernel)
set_option maxRecDepth 100000 in
theorem t_649 : Cond.fieldLink RX6 22 "DepositJudge$LawReader" "end" "I" ∈ gT := tm (tb1 (List.mem_of_getElem? (i := 120) (by rfl))) (by decide +kernel)
set_option maxRecDepth 100000 in
theorem t_650 : Cond.fieldLink RX6 18 "DepositJudge$LawReader" "text" "[B" ∈ gT := tm (tb1 (List.mem_of_getElem? (i := 119) (by rfl))) (by decide +kernel)
set_option maxRecDepth 100000 in
theorem t_651 : Cond.fieldLink RX6 29 "DepositJudge$LawReader" "fault" "I" ∈ gT := tm (tb1 (List.mem_of_getElem? (i := 122) (by rfl))) (by decide +kernel)
set_option maxRecDepth 100000 in
theorem t_652 : Cond.code yX6_peek cX6_peek 1 (some .int) ∈ gT := tm (tb3 (List.mem_of_getElem? (i := 3) (by rfl))) (by decide +kernel)
set_option maxRecDepth 100000 in
theorem t_653 : Cond.initialized RX6 ∈ gT := tm (tb1 (List.mem_of_getElem? (i := 5) (by rfl))) (by decide +kernel)
set_option maxRecDepth 100000 in
theorem t_654 : Cond.methodLink RX6 46 yX6_peek ∈ gT := tm (tb3 (List.mem_of_getElem? (i := 0) (by rfl))) (by decide +kernel)
set_option maxRecDepth 100000 in
theorem t_655 : Cond.instanceMethod yX6_peek ∈ gT := tm (tb3 (List.mem_of_getElem? (i := 2) (by rfl))) (by decide +kernel)
theorem t_656 : Cond.selects RX6 yX6_peek yX6_peek ∈ gT := tmp (List.mem_of_getElem? (i := 6) (by decide +kernel)) (by decide +kernel)
set_option maxRecDepth 100000 in
theorem t_657 : Cond.code yX6_refuse cX6_refuse 2 (some .boolean) ∈ gT := tm (tb3 (List.mem_of_getElem? (i := 11) (by rfl))) (by decide +kernel)
set_option maxRecDepth 100000 in
theorem t_658 : Cond.methodLink RX6 73 yX6_refuse ∈ gT := tm (tb3 (List.mem_of_getElem? (i := 8) (by rfl))) (by decide +kernel)
set_option maxRecDepth 100000 in
theorem t_659 : Cond.instanceMethod yX6_refuse ∈ gT := tm (tb3 (List.mem_of_getElem? (i := 10) (by rfl))) (by decide +kernel)
theorem t_660 : Cond.selects RX6 yX6_refuse yX6_refuse ∈ gT := tmp (List.mem_of_getElem? (i := 8) (by decide +kernel)) (by decide +kernel)
set_option maxRecDepth 100000 in
theorem t_661 : Cond.fieldLink RX6 12 "DepositJudge$LawReader" "draft" "LDepositJudge$Law;" ∈ gT := tm (tb1 (List.mem_of_getElem? (i := 117) (by rfl))) (by decide +kernel)
set_option maxRecDepth 100000 in
theorem t_662 : Cond.code yX5_add cX5_add 3 (some .int) ∈ gT := tm (tb3 (List.mem_of_getElem? (i := 40) (by rfl))) (by decide +kernel)
set_option maxRecDepth 100000 in
theorem t_663 : Cond.methodLink RX6 92 yX5_add ∈ gT := tm (tb3 (List.mem_of_getElem? (i := 37) (by rfl))) (by decide +kernel)
set_option maxRecDepth 100000 in
theorem t_664 : Cond.instanceMethod yX5_add ∈ gT := tm (tb3 (List.mem_of_getElem? (i := 38) (by rfl))) (by decide +kernel)
set_option maxRecDepth 100000 in
theorem t_665 : Cond.selects RX5 yX5_add yX5_add ∈ gT := tm (tb3 (List.mem_of_getElem? (i := 39) (by rfl))) (by decide +kernel)
set_option maxRecDepth 100000 in
theorem t_666 : Cond.code yJ0_indexOf_0f7a4 cJ0_indexOf_0f7a4 2 (some .int) ∈ gT := tm (tb3 (List.mem_of_getElem? (i := 45) (by rfl))) (by decide +kernel)
set_option maxRecDepth 100000 in
theorem t_667 : Cond.methodLink RX6 103 yJ0_indexOf_0f7a4 ∈ gT := tm (tb3 (List.mem_of_getElem? (i := 42) (by rfl))) (by decide +kernel)
set_option maxRecDepth 100000 in
theorem t_668 : Cond.instanceMethod yJ0_indexOf_0f7a4 ∈ gT := tm (tb3 (List.mem_of_getElem? (i := 43) (by rfl))) (by decide +kernel)
set_option maxRecDepth 100000 in
theorem t_669 : Cond.selects RJ0 yJ0_indexOf_0f7a4 yJ0_indexOf_0f7a4 ∈ gT := tm (tb3 (List.mem_of_getElem? (i := 44) (by rfl))) (by decide +kernel)
set_option maxRecDepth 100000 in
theorem t_670 : Cond.code yX6_number cX6_number 4 (some .boolean) ∈ gT := tm (tb3 (List.mem_of_getElem? (i := 36) (by rfl))) (by decide +kernel)
set_option maxRecDepth 100000 in
theorem t_671 : Cond.methodLink RX6 98 yX6_number ∈ gT := tm (tb3 (List.mem_of_getElem? (i := 33) (by rfl))) (by decide +kernel)
set_option maxRecDepth 100000 in
theorem t_672 : Cond.instanceMethod yX6_number ∈ gT := tm (tb3 (List.mem_of_getElem? (i := 35) (by rfl))) (by decide +kernel)
theorem t_673 : Cond.selects RX6 yX6_number yX6_number ∈ gT := tmp (List.mem_of_getElem? (i := 12) (by decide +kernel)) (by decide +kernel)
set_option maxRecDepth 100000 in
theorem t_674 : Cond.code yX6_expression cX6_expression 7 (some .boolean) ∈ gT := tm (tb3 (List.mem_of_getElem? (i := 24) (by rfl))) (by decide +kernel)
set_option maxRecDepth 100000 in
theorem t_675 : Cond.methodLink RX6 54 yX6_expression ∈ gT := tm (tb3 (List.mem_of_getElem? (i := 21) (by rfl))) (by decide +kernel)
set_option maxRecDepth 100000 in
theorem t_676 : Cond.instanceMethod yX6_expression ∈ gT := tm (tb3 (List.mem_of_getElem? (i := 23) (by rfl))) (by decide +kernel)
theorem t_677 : Cond.selects RX6 yX6_expression yX6_expression ∈ gT := tmp (List.mem_of_getElem? (i := 9) (by decide +kernel)) (by decide +kernel)
set_option maxRecDepth 100000 in
theorem t_678 : Cond.code yX6_pass cX6_pass 2 (some .boolean) ∈ gT := tm (tb3 (List.mem_of_getElem? (i := 32) (by rfl))) (by decide +kernel)
set_option maxRecDepth 100000 in
theorem t_679 : Cond.methodLink RX6 69 yX6_pass ∈ gT := tm (tb3 (List.mem_of_getElem? (i := 29) (by rfl))) (by decide +kernel)
set_option maxRecDepth 100000 in
theorem t_680 : Cond.instanceMethod yX6_pass ∈ gT := tm (tb3 (List.mem_of_getElem? (i := 31) (by rfl))) (by decide +kernel)
theorem t_681 : Cond.selects RX6 yX6_pass yX6_pass ∈ gT := tmp (List.mem_of_getElem? (i := 11) (by decide +kernel)) (by decide +kernel)
set_option maxRecDepth 100000 in
theorem t_682 : Cond.code yX6_factor cX6_factor 4 (some .boolean) ∈ gT := tm (tb3 (List.mem_of_getElem? (i := 28) (by rfl))) (by decide +kernel)
set_option maxRecDepth 100000 in
theorem t_683 : Cond.methodLink RX6 95 yX6_factor ∈ gT := tm (tb3 (List.mem_of_getElem? (i := 25) (by rfl))) (by decide +kernel)
set_option maxRecDepth 100000 in
theorem t_684 : Cond.instanceMethod yX6_factor ∈ gT := tm (tb3 (List.mem_of_getElem? (i := 27) (by rfl))) (by decide +kernel)
theorem t_685 : Cond.selects RX6 yX6_factor yX6_factor ∈ gT := tmp (List.mem_of_getElem? (i := 10) (by decide +kernel)) (by decide +kernel)
def dl_386 : List (Nat × (Instr × Nat)) := [(0, (.aload_n 0, 1)), (1, (.getfield 15, 3)), (4, (.sipush 200, 3)), (7, (.if_icmp .lt 5, 3)), (10, (.iconst (-1), 1)), (11, (.ireturn, 1)), (12, (.aload_n 0, 1)), (13, (.getfield 31, 3)), (16, (.aload_n 0, 1)), (17, (.getfield 15, 3)), (20, (.iload_n 1, 1)), (21, (.iastore, 1)), (22, (.aload_n 0, 1)), (23, (.getfield 34, 3)), (26, (.aload_n 0, 1)), (27, (.getfield 15, 3)), (30, (.iload_n 2, 1)), (31, (.iastore, 1)), (32, (.aload_n 0, 1)), (33, (.dup, 1))]
theorem dh_386 : dchk cX5_add dl_386 = true := by decide +kernel
theorem dX5_add_0 : decode cX5_add 0 = .ok (.aload_n 0, 1) := dget dh_386 (k := 0) rfl
theorem dX5_add_1 : decode cX5_add 1 = .ok (.getfield 15, 3) := dget dh_386 (k := 1) rfl
theorem dX5_add_4 : decode cX5_add 4 = .ok (.sipush 200, 3) := dget dh_386 (k := 2) rfl
theorem dX5_add_7 : decode cX5_add 7 = .ok (.if_icmp .lt 5, 3) := dget dh_386 (k := 3) rfl
theorem dX5_add_10 : decode cX5_add 10 = .ok (.iconst (-1), 1) := dget dh_386 (k := 4) rfl
theorem dX5_add_11 : decode cX5_add 11 = .ok (.ireturn, 1) := dget dh_386 (k := 5) rfl
theorem dX5_add_12 : decode cX5_add 12 = .ok (.aload_n 0, 1) := dget dh_386 (k := 6) rfl
theorem dX5_add_13 : decode cX5_add 13 = .ok (.getfield 31, 3) := dget dh_386 (k := 7) rfl
theorem dX5_add_16 : decode cX5_add 16 = .ok (.aload_n 0, 1) := dget dh_386 (k := 8) rfl
theorem dX5_add_17 : decode cX5_add 17 = .ok (.getfield 15, 3) := dget dh_386 (k := 9) rfl
theorem dX5_add_20 : decode cX5_add 20 = .ok (.iload_n 1, 1) := dget dh_386 (k := 10) rfl
theorem dX5_add_21 : decode cX5_add 21 = .ok (.iastore, 1) := dget dh_386 (k := 11) rfl
theorem dX5_add_22 : decode cX5_add 22 = .ok (.aload_n 0, 1) := dget dh_386 (k := 12) rfl
theorem dX5_add_23 : decode cX5_add 23 = .ok (.getfield 34, 3) := dget dh_386 (k := 13) rfl
theorem dX5_add_26 : decode cX5_add 26 = .ok (.aload_n 0, 1) := dget dh_386 (k := 14) rfl
theorem dX5_add_27 : decode cX5_add 27 = .ok (.getfield 15, 3) := dget dh_386 (k := 15) rfl
theorem dX5_add_30 : decode cX5_add 30 = .ok (.iload_n 2, 1) := dget dh_386 (k := 16) rfl
theorem dX5_add_31 : decode cX5_add 31 = .ok (.iastore, 1) := dget dh_386 (k := 17) rfl
theorem dX5_add_32 : decode cX5_add 32 = .ok (.aload_n 0, 1) := dget dh_386 (k := 18) rfl
theorem dX5_add_33 : decode cX5_add 33 = .ok (.dup, 1) := dget dh_386 (k := 19) rfl
def dl_387 : List (Nat × (Instr × Nat)) := [(34, (.getfield 15, 3)), (37, (.iconst 1, 1)), (38, (.iadd, 1)), (39, (.putfield 15, 3)), (42, (.aload_n 0, 1)), (43, (.getfield 15, 3)), (46, (.iconst 1, 1)), (47, (.isub, 1)), (48, (.ireturn, 1))]
theorem dh_387 : dchk cX5_add dl_387 = true := by decide +kernel
theorem dX5_add_34 : decode cX5_add 34 = .ok (.getfield 15, 3) := dget dh_387 (k := 0) rfl
theorem dX5_add_37 : decode cX5_add 37 = .ok (.iconst 1, 1) := dget dh_387 (k := 1) rfl
theorem dX5_add_38 : decode cX5_add 38 = .ok (.iadd, 1) := dget dh_387 (k := 2) rfl
theorem dX5_add_39 : decode cX5_add 39 = .ok (.putfield 15, 3) := dget dh_387 (k := 3) rfl
theorem dX5_add_42 : decode cX5_add 42 = .ok (.aload_n 0, 1) := dget dh_387 (k := 4) rfl
theorem dX5_add_43 : decode cX5_add 43 = .ok (.getfield 15, 3) := dget dh_387 (k := 5) rfl
theorem dX5_add_46 : decode cX5_add 46 = .ok (.iconst 1, 1) := dget dh_387 (k := 6) rfl
theorem dX5_add_47 : decode cX5_add 47 = .ok (.isub, 1) := dget dh_387 (k := 7) rfl
theorem dX5_add_48 : decode cX5_add 48 = .ok (.ireturn, 1) := dget dh_387 (k := 8) rfl
def dl_388 : List (Nat × (Instr × Nat)) := [(0, (.iload_n 1, 1)), (1, (.ifCond .lt 21, 3)), (4, (.iload_n 1, 1)), (5, (.aload_n 0, 1)), (6, (.getfield 15, 3)), (9, (.if_icmp .ge 13, 3)), (12, (.aload_n 0, 1)), (13, (.getfield 34, 3)), (16, (.iload_n 1, 1)), (17, (.aload_n 0, 1)), (18, (.getfield 15, 3)), (21, (.iastore, 1)), (22, (.return_, 1))]
theorem dh_388 : dchk cX5_aim dl_388 = true := by decide +kernel
theorem dX5_aim_0 : decode cX5_aim 0 = .ok (.iload_n 1, 1) := dget dh_388 (k := 0) rfl
theorem dX5_aim_1 : decode cX5_aim 1 = .ok (.ifCond .lt 21, 3) := dget dh_388 (k := 1) rfl
theorem dX5_aim_4 : decode cX5_aim 4 = .ok (.iload_n 1, 1) := dget dh_388 (k := 2) rfl
theorem dX5_aim_5 : decode cX5_aim 5 = .ok (.aload_n 0, 1) := dget dh_388 (k := 3) rfl
theorem dX5_aim_6 : decode cX5_aim 6 = .ok (.getfield 15, 3) := dget dh_388 (k := 4) rfl
theorem dX5_aim_9 : decode cX5_aim 9 = .ok (.if_icmp .ge 13, 3) := dget dh_388 (k := 5) rfl
theorem dX5_aim_12 : decode cX5_aim 12 = .ok (.aload_n 0, 1) := dget dh_388 (k := 6) rfl
theorem dX5_aim_13 : decode cX5_aim 13 = .ok (.getfield 34, 3) := dget dh_388 (k := 7) rfl
theorem dX5_aim_16 : decode cX5_aim 16 = .ok (.iload_n 1, 1) := dget dh_388 (k := 8) rfl
theorem dX5_aim_17 : decode cX5_aim 17 = .ok (.aload_n 0, 1) := dget dh_388 (k := 9) rfl
theorem dX5_aim_18 : decode cX5_aim 18 = .ok (.getfield 15, 3) := dget dh_388 (k := 10) rfl
theorem dX5_aim_21 : decode cX5_aim 21 = .ok (.iastore, 1) := dget dh_388 (k := 11) rfl
theorem dX5_aim_22 : decode cX5_aim 22 = .ok (.return_, 1) := dget dh_388 (k := 12) rfl
def dl_389 : List (Nat × (Instr × Nat)) := [(0, (.aload_n 0, 1)), (1, (.invokevirtual 40, 3)), (4, (.ifCond .ne 26, 3)), (7, (.aload_n 0, 1)), (8, (.getfield 18, 3)), (11, (.aload_n 0, 1)), (12, (.getfield 9, 3)), (15, (.iload_n 1, 1)), (16, (.iastore, 1)), (17, (.aload_n 0, 1)), (18, (.getfield 22, 3)), (21, (.aload_n 0, 1)), (22, (.getfield 9, 3)), (25, (.aload_n 0, 1)), (26, (.getfield 15, 3)), (29, (.iastore, 1)), (30, (.return_, 1))]
theorem dh_389 : dchk cX5_beginClause dl_389 = true := by decide +kernel
theorem dX5_beginClause_0 : decode cX5_beginClause 0 = .ok (.aload_n 0, 1) := dget dh_389 (k := 0) rfl
theorem dX5_beginClause_1 : decode cX5_beginClause 1 = .ok (.invokevirtual 40, 3) := dget dh_389 (k := 1) rfl
theorem dX5_beginClause_4 : decode cX5_beginClause 4 = .ok (.ifCond .ne 26, 3) := dget dh_389 (k := 2) rfl
theorem dX5_beginClause_7 : decode cX5_beginClause 7 = .ok (.aload_n 0, 1) := dget dh_389 (k := 3) rfl
theorem dX5_beginClause_8 : decode cX5_beginClause 8 = .ok (.getfield 18, 3) := dget dh_389 (k := 4) rfl
theorem dX5_beginClause_11 : decode cX5_beginClause 11 = .ok (.aload_n 0, 1) := dget dh_389 (k := 5) rfl
theorem dX5_beginClause_12 : decode cX5_beginClause 12 = .ok (.getfield 9, 3) := dget dh_389 (k := 6) rfl
theorem dX5_beginClause_15 : decode cX5_beginClause 15 = .ok (.iload_n 1, 1) := dget dh_389 (k := 7) rfl
theorem dX5_beginClause_16 : decode cX5_beginClause 16 = .ok (.iastore, 1) := dget dh_389 (k := 8) rfl
theorem dX5_beginClause_17 : decode cX5_beginClause 17 = .ok (.aload_n 0, 1) := dget dh_389 (k := 9) rfl
theorem dX5_beginClause_18 : decode cX5_beginClause 18 = .ok (.getfield 22, 3) := dget dh_389 (k := 10) rfl
theorem dX5_beginClause_21 : decode cX5_beginClause 21 = .ok (.aload_n 0, 1) := dget dh_389 (k := 11) rfl
theorem dX5_beginClause_22 : decode cX5_beginClause 22 = .ok (.getfield 9, 3) := dget dh_389 (k := 12) rfl
theorem dX5_beginClause_25 : decode cX5_beginClause 25 = .ok (.aload_n 0, 1) := dget dh_389 (k := 13) rfl
theorem dX5_beginClause_26 : decode cX5_beginClause 26 = .ok (.getfield 15, 3) := dget dh_389 (k := 14) rfl
theorem dX5_beginClause_29 : decode cX5_beginClause 29 = .ok (.iastore, 1) := dget dh_389 (k := 15) rfl
theorem dX5_beginClause_30 : decode cX5_beginClause 30 = .ok (.return_, 1) := dget dh_389 (k := 16) rfl
def dl_390 : List (Nat × (Instr × Nat)) := [(0, (.aload_n 0, 1)), (1, (.invokevirtual 40, 3)), (4, (.ifCond .ne 16, 3)), (7, (.aload_n 0, 1)), (8, (.getfield 25, 3)), (11, (.aload_n 0, 1)), (12, (.getfield 9, 3)), (15, (.aload_n 0, 1)), (16, (.getfield 15, 3)), (19, (.iastore, 1)), (20, (.return_, 1))]
theorem dh_390 : dchk cX5_beginTest dl_390 = true := by decide +kernel
theorem dX5_beginTest_0 : decode cX5_beginTest 0 = .ok (.aload_n 0, 1) := dget dh_390 (k := 0) rfl
theorem dX5_beginTest_1 : decode cX5_beginTest 1 = .ok (.invokevirtual 40, 3) := dget dh_390 (k := 1) rfl
theorem dX5_beginTest_4 : decode cX5_beginTest 4 = .ok (.ifCond .ne 16, 3) := dget dh_390 (k := 2) rfl
theorem dX5_beginTest_7 : decode cX5_beginTest 7 = .ok (.aload_n 0, 1) := dget dh_390 (k := 3) rfl
theorem dX5_beginTest_8 : decode cX5_beginTest 8 = .ok (.getfield 25, 3) := dget dh_390 (k := 4) rfl
theorem dX5_beginTest_11 : decode cX5_beginTest 11 = .ok (.aload_n 0, 1) := dget dh_390 (k := 5) rfl
theorem dX5_beginTest_12 : decode cX5_beginTest 12 = .ok (.getfield 9, 3) := dget dh_390 (k := 6) rfl
theorem dX5_beginTest_15 : decode cX5_beginTest 15 = .ok (.aload_n 0, 1) := dget dh_390 (k := 7) rfl
theorem dX5_beginTest_16 : decode cX5_beginTest 16 = .ok (.getfield 15, 3) := dget dh_390 (k := 8) rfl
theorem dX5_beginTest_19 : decode cX5_beginTest 19 = .ok (.iastore, 1) := dget dh_390 (k := 9) rfl
theorem dX5_beginTest_20 : decode cX5_beginTest 20 = .ok (.return_, 1) := dget dh_390 (k := 10) rfl
def dl_391 : List (Nat × (Instr × Nat)) := [(0, (.aload_n 0, 1)), (1, (.iconst 0, 1)), (2, (.putfield 9, 3)), (5, (.aload_n 0, 1)), (6, (.iconst 0, 1)), (7, (.putfield 15, 3)), (10, (.return_, 1))]
theorem dh_391 : dchk cX5_clear dl_391 = true := by decide +kernel
theorem dX5_clear_0 : decode cX5_clear 0 = .ok (.aload_n 0, 1) := dget dh_391 (k := 0) rfl
theorem dX5_clear_1 : decode cX5_clear 1 = .ok (.iconst 0, 1) := dget dh_391 (k := 1) rfl
theorem dX5_clear_2 : decode cX5_clear 2 = .ok (.putfield 9, 3) := dget dh_391 (k := 2) rfl
theorem dX5_clear_5 : decode cX5_clear 5 = .ok (.aload_n 0, 1) := dget dh_391 (k := 3) rfl
theorem dX5_clear_6 : decode cX5_clear 6 = .ok (.iconst 0, 1) := dget dh_391 (k := 4) rfl
theorem dX5_clear_7 : decode cX5_clear 7 = .ok (.putfield 15, 3) := dget dh_391 (k := 5) rfl
theorem dX5_clear_10 : decode cX5_clear 10 = .ok (.return_, 1) := dget dh_391 (k := 6) rfl
def dl_392 : List (Nat × (Instr × Nat)) := [(0, (.aload_n 0, 1)), (1, (.invokevirtual 40, 3)), (4, (.ifCond .ne 26, 3)), (7, (.aload_n 0, 1)), (8, (.getfield 28, 3)), (11, (.aload_n 0, 1)), (12, (.getfield 9, 3)), (15, (.aload_n 0, 1)), (16, (.getfield 15, 3)), (19, (.iastore, 1)), (20, (.aload_n 0, 1)), (21, (.dup, 1)), (22, (.getfield 9, 3)), (25, (.iconst 1, 1)), (26, (.iadd, 1)), (27, (.putfield 9, 3)), (30, (.return_, 1))]
theorem dh_392 : dchk cX5_endClause dl_392 = true := by decide +kernel
theorem dX5_endClause_0 : decode cX5_endClause 0 = .ok (.aload_n 0, 1) := dget dh_392 (k := 0) rfl
theorem dX5_endClause_1 : decode cX5_endClause 1 = .ok (.invokevirtual 40, 3) := dget dh_392 (k := 1) rfl
theorem dX5_endClause_4 : decode cX5_endClause 4 = .ok (.ifCond .ne 26, 3) := dget dh_392 (k := 2) rfl
theorem dX5_endClause_7 : decode cX5_endClause 7 = .ok (.aload_n 0, 1) := dget dh_392 (k := 3) rfl
theorem dX5_endClause_8 : decode cX5_endClause 8 = .ok (.getfield 28, 3) := dget dh_392 (k := 4) rfl
theorem dX5_endClause_11 : decode cX5_endClause 11 = .ok (.aload_n 0, 1) := dget dh_392 (k := 5) rfl
theorem dX5_endClause_12 : decode cX5_endClause 12 = .ok (.getfield 9, 3) := dget dh_392 (k := 6) rfl
theorem dX5_endClause_15 : decode cX5_endClause 15 = .ok (.aload_n 0, 1) := dget dh_392 (k := 7) rfl
theorem dX5_endClause_16 : decode cX5_endClause 16 = .ok (.getfield 15, 3) := dget dh_392 (k := 8) rfl
theorem dX5_endClause_19 : decode cX5_endClause 19 = .ok (.iastore, 1) := dget dh_392 (k := 9) rfl
theorem dX5_endClause_20 : decode cX5_endClause 20 = .ok (.aload_n 0, 1) := dget dh_392 (k := 10) rfl
theorem dX5_endClause_21 : decode cX5_endClause 21 = .ok (.dup, 1) := dget dh_392 (k := 11) rfl
theorem dX5_endClause_22 : decode cX5_endClause 22 = .ok (.getfield 9, 3) := dget dh_392 (k := 12) rfl
theorem dX5_endClause_25 : decode cX5_endClause 25 = .ok (.iconst 1, 1) := dget dh_392 (k := 13) rfl
theorem dX5_endClause_26 : decode cX5_endClause 26 = .ok (.iadd, 1) := dget dh_392 (k := 14) rfl
theorem dX5_endClause_27 : decode cX5_endClause 27 = .ok (.putfield 9, 3) := dget dh_392 (k := 15) rfl
theorem dX5_endClause_30 : decode cX5_endClause 30 = .ok (.return_, 1) := dget dh_392 (k := 16) rfl
def dl_393 : List (Nat × (Instr × Nat)) := [(0, (.aload_n 0, 1)), (1, (.getfield 9, 3)), (4, (.bipush 14, 2)), (6, (.if_icmp .lt 7, 3)), (9, (.iconst 1, 1)), (10, (.goto 4, 3)), (13, (.iconst 0, 1)), (14, (.ireturn, 1))]
theorem dh_393 : dchk cX5_isFull dl_393 = true := by decide +kernel
theorem dX5_isFull_0 : decode cX5_isFull 0 = .ok (.aload_n 0, 1) := dget dh_393 (k := 0) rfl
theorem dX5_isFull_1 : decode cX5_isFull 1 = .ok (.getfield 9, 3) := dget dh_393 (k := 1) rfl
theorem dX5_isFull_4 : decode cX5_isFull 4 = .ok (.bipush 14, 2) := dget dh_393 (k := 2) rfl
theorem dX5_isFull_6 : decode cX5_isFull 6 = .ok (.if_icmp .lt 7, 3) := dget dh_393 (k := 3) rfl
theorem dX5_isFull_9 : decode cX5_isFull 9 = .ok (.iconst 1, 1) := dget dh_393 (k := 4) rfl
theorem dX5_isFull_10 : decode cX5_isFull 10 = .ok (.goto 4, 3) := dget dh_393 (k := 5) rfl
theorem dX5_isFull_13 : decode cX5_isFull 13 = .ok (.iconst 0, 1) := dget dh_393 (k := 6) rfl
theorem dX5_isFull_14 : decode cX5_isFull 14 = .ok (.ireturn, 1) := dget dh_393 (k := 7) rfl
def dl_394 : List (Nat × (Instr × Nat)) := [(0, (.iconst (-1), 1)), (1, (.istore_n 3, 1)), (2, (.iconst 0, 1)), (3, (.istore 4, 2)), (5, (.iload 4, 2)), (7, (.sipush 200, 3)), (10, (.if_icmp .ge 122, 3)), (13, (.iload_n 2, 1)), (14, (.ifCond .eq 12, 3)), (17, (.aload_n 0, 1)), (18, (.iload_n 1, 1)), (19, (.iconst 0, 1)), (20, (.invokevirtual 54, 3)), (23, (.goto 8, 3)), (26, (.aload_n 0, 1)), (27, (.iload_n 1, 1)), (28, (.invokevirtual 95, 3)), (31, (.istore 5, 2)), (33, (.iload 5, 2)), (35, (.ifCond .ne 5, 3))]
theorem dh_394 : dchk cX6_expression dl_394 = true := by decide +kernel
theorem dX6_expression_0 : decode cX6_expression 0 = .ok (.iconst (-1), 1) := dget dh_394 (k := 0) rfl
theorem dX6_expression_1 : decode cX6_expression 1 = .ok (.istore_n 3, 1) := dget dh_394 (k := 1) rfl
theorem dX6_expression_2 : decode cX6_expression 2 = .ok (.iconst 0, 1) := dget dh_394 (k := 2) rfl
theorem dX6_expression_3 : decode cX6_expression 3 = .ok (.istore 4, 2) := dget dh_394 (k := 3) rfl
theorem dX6_expression_5 : decode cX6_expression 5 = .ok (.iload 4, 2) := dget dh_394 (k := 4) rfl
theorem dX6_expression_7 : decode cX6_expression 7 = .ok (.sipush 200, 3) := dget dh_394 (k := 5) rfl
theorem dX6_expression_10 : decode cX6_expression 10 = .ok (.if_icmp .ge 122, 3) := dget dh_394 (k := 6) rfl
theorem dX6_expression_13 : decode cX6_expression 13 = .ok (.iload_n 2, 1) := dget dh_394 (k := 7) rfl
theorem dX6_expression_14 : decode cX6_expression 14 = .ok (.ifCond .eq 12, 3) := dget dh_394 (k := 8) rfl
theorem dX6_expression_17 : decode cX6_expression 17 = .ok (.aload_n 0, 1) := dget dh_394 (k := 9) rfl
theorem dX6_expression_18 : decode cX6_expression 18 = .ok (.iload_n 1, 1) := dget dh_394 (k := 10) rfl
theorem dX6_expression_19 : decode cX6_expression 19 = .ok (.iconst 0, 1) := dget dh_394 (k := 11) rfl
theorem dX6_expression_20 : decode cX6_expression 20 = .ok (.invokevirtual 54, 3) := dget dh_394 (k := 12) rfl
theorem dX6_expression_23 : decode cX6_expression 23 = .ok (.goto 8, 3) := dget dh_394 (k := 13) rfl
theorem dX6_expression_26 : decode cX6_expression 26 = .ok (.aload_n 0, 1) := dget dh_394 (k := 14) rfl
theorem dX6_expression_27 : decode cX6_expression 27 = .ok (.iload_n 1, 1) := dget dh_394 (k := 15) rfl
theorem dX6_expression_28 : decode cX6_expression 28 = .ok (.invokevirtual 95, 3) := dget dh_394 (k := 16) rfl
theorem dX6_expression_31 : decode cX6_expression 31 = .ok (.istore 5, 2) := dget dh_394 (k := 17) rfl
theorem dX6_expression_33 : decode cX6_expression 33 = .ok (.iload 5, 2) := dget dh_394 (k := 18) rfl
theorem dX6_expression_35 : decode cX6_expression 35 = .ok (.ifCond .ne 5, 3) := dget dh_394 (k := 19) rfl
def dl_395 : List (Nat × (Instr × Nat)) := [(38, (.iconst 0, 1)), (39, (.ireturn, 1)), (40, (.iload_n 3, 1)), (41, (.iconst (-1), 1)), (42, (.if_icmp .eq 13, 3)), (45, (.aload_n 0, 1)), (46, (.getfield 12, 3)), (49, (.iload_n 3, 1)), (50, (.iconst 0, 1)), (51, (.invokevirtual 92, 3)), (54, (.pop, 1)), (55, (.aload_n 0, 1)), (56, (.invokevirtual 46, 3)), (59, (.istore_n 3, 1)), (60, (.iload_n 2, 1)), (61, (.ifCond .eq 23, 3)), (64, (.iload_n 3, 1)), (65, (.bipush 43, 2)), (67, (.if_icmp .eq 9, 3)), (70, (.iload_n 3, 1))]
theorem dh_395 : dchk cX6_expression dl_395 = true := by decide +kernel
theorem dX6_expression_38 : decode cX6_expression 38 = .ok (.iconst 0, 1) := dget dh_395 (k := 0) rfl
theorem dX6_expression_39 : decode cX6_expression 39 = .ok (.ireturn, 1) := dget dh_395 (k := 1) rfl
theorem dX6_expression_40 : decode cX6_expression 40 = .ok (.iload_n 3, 1) := dget dh_395 (k := 2) rfl
theorem dX6_expression_41 : decode cX6_expression 41 = .ok (.iconst (-1), 1) := dget dh_395 (k := 3) rfl
theorem dX6_expression_42 : decode cX6_expression 42 = .ok (.if_icmp .eq 13, 3) := dget dh_395 (k := 4) rfl
theorem dX6_expression_45 : decode cX6_expression 45 = .ok (.aload_n 0, 1) := dget dh_395 (k := 5) rfl
theorem dX6_expression_46 : decode cX6_expression 46 = .ok (.getfield 12, 3) := dget dh_395 (k := 6) rfl
theorem dX6_expression_49 : decode cX6_expression 49 = .ok (.iload_n 3, 1) := dget dh_395 (k := 7) rfl
theorem dX6_expression_50 : decode cX6_expression 50 = .ok (.iconst 0, 1) := dget dh_395 (k := 8) rfl
theorem dX6_expression_51 : decode cX6_expression 51 = .ok (.invokevirtual 92, 3) := dget dh_395 (k := 9) rfl
theorem dX6_expression_54 : decode cX6_expression 54 = .ok (.pop, 1) := dget dh_395 (k := 10) rfl
theorem dX6_expression_55 : decode cX6_expression 55 = .ok (.aload_n 0, 1) := dget dh_395 (k := 11) rfl
theorem dX6_expression_56 : decode cX6_expression 56 = .ok (.invokevirtual 46, 3) := dget dh_395 (k := 12) rfl
theorem dX6_expression_59 : decode cX6_expression 59 = .ok (.istore_n 3, 1) := dget dh_395 (k := 13) rfl
theorem dX6_expression_60 : decode cX6_expression 60 = .ok (.iload_n 2, 1) := dget dh_395 (k := 14) rfl
theorem dX6_expression_61 : decode cX6_expression 61 = .ok (.ifCond .eq 23, 3) := dget dh_395 (k := 15) rfl
theorem dX6_expression_64 : decode cX6_expression 64 = .ok (.iload_n 3, 1) := dget dh_395 (k := 16) rfl
theorem dX6_expression_65 : decode cX6_expression 65 = .ok (.bipush 43, 2) := dget dh_395 (k := 17) rfl
theorem dX6_expression_67 : decode cX6_expression 67 = .ok (.if_icmp .eq 9, 3) := dget dh_395 (k := 18) rfl
theorem dX6_expression_70 : decode cX6_expression 70 = .ok (.iload_n 3, 1) := dget dh_395 (k := 19) rfl
def dl_396 : List (Nat × (Instr × Nat)) := [(71, (.bipush 45, 2)), (73, (.if_icmp .ne 7, 3)), (76, (.iconst 1, 1)), (77, (.goto 30, 3)), (80, (.iconst 0, 1)), (81, (.goto 26, 3)), (84, (.iload_n 3, 1)), (85, (.bipush 42, 2)), (87, (.if_icmp .eq 15, 3)), (90, (.iload_n 3, 1)), (91, (.bipush 47, 2)), (93, (.if_icmp .eq 9, 3)), (96, (.iload_n 3, 1)), (97, (.bipush 37, 2)), (99, (.if_icmp .ne 7, 3)), (102, (.iconst 1, 1)), (103, (.goto 4, 3)), (106, (.iconst 0, 1)), (107, (.istore 6, 2)), (109, (.iload 6, 2))]
theorem dh_396 : dchk cX6_expression dl_396 = true := by decide +kernel
theorem dX6_expression_71 : decode cX6_expression 71 = .ok (.bipush 45, 2) := dget dh_396 (k := 0) rfl
theorem dX6_expression_73 : decode cX6_expression 73 = .ok (.if_icmp .ne 7, 3) := dget dh_396 (k := 1) rfl
theorem dX6_expression_76 : decode cX6_expression 76 = .ok (.iconst 1, 1) := dget dh_396 (k := 2) rfl
theorem dX6_expression_77 : decode cX6_expression 77 = .ok (.goto 30, 3) := dget dh_396 (k := 3) rfl
theorem dX6_expression_80 : decode cX6_expression 80 = .ok (.iconst 0, 1) := dget dh_396 (k := 4) rfl
theorem dX6_expression_81 : decode cX6_expression 81 = .ok (.goto 26, 3) := dget dh_396 (k := 5) rfl
theorem dX6_expression_84 : decode cX6_expression 84 = .ok (.iload_n 3, 1) := dget dh_396 (k := 6) rfl
theorem dX6_expression_85 : decode cX6_expression 85 = .ok (.bipush 42, 2) := dget dh_396 (k := 7) rfl
theorem dX6_expression_87 : decode cX6_expression 87 = .ok (.if_icmp .eq 15, 3) := dget dh_396 (k := 8) rfl
theorem dX6_expression_90 : decode cX6_expression 90 = .ok (.iload_n 3, 1) := dget dh_396 (k := 9) rfl
theorem dX6_expression_91 : decode cX6_expression 91 = .ok (.bipush 47, 2) := dget dh_396 (k := 10) rfl
theorem dX6_expression_93 : decode cX6_expression 93 = .ok (.if_icmp .eq 9, 3) := dget dh_396 (k := 11) rfl
theorem dX6_expression_96 : decode cX6_expression 96 = .ok (.iload_n 3, 1) := dget dh_396 (k := 12) rfl
theorem dX6_expression_97 : decode cX6_expression 97 = .ok (.bipush 37, 2) := dget dh_396 (k := 13) rfl
theorem dX6_expression_99 : decode cX6_expression 99 = .ok (.if_icmp .ne 7, 3) := dget dh_396 (k := 14) rfl
theorem dX6_expression_102 : decode cX6_expression 102 = .ok (.iconst 1, 1) := dget dh_396 (k := 15) rfl
theorem dX6_expression_103 : decode cX6_expression 103 = .ok (.goto 4, 3) := dget dh_396 (k := 16) rfl
theorem dX6_expression_106 : decode cX6_expression 106 = .ok (.iconst 0, 1) := dget dh_396 (k := 17) rfl
theorem dX6_expression_107 : decode cX6_expression 107 = .ok (.istore 6, 2) := dget dh_396 (k := 18) rfl
theorem dX6_expression_109 : decode cX6_expression 109 = .ok (.iload 6, 2) := dget dh_396 (k := 19) rfl
def dl_397 : List (Nat × (Instr × Nat)) := [(111, (.ifCond .ne 5, 3)), (114, (.iconst 1, 1)), (115, (.ireturn, 1)), (116, (.aload_n 0, 1)), (117, (.dup, 1)), (118, (.getfield 26, 3)), (121, (.iconst 1, 1)), (122, (.iadd, 1)), (123, (.putfield 26, 3)), (126, (.iinc 4 1, 3)), (129, (.goto (-124), 3)), (132, (.iconst 1, 1)), (133, (.ireturn, 1))]
theorem dh_397 : dchk cX6_expression dl_397 = true := by decide +kernel
theorem dX6_expression_111 : decode cX6_expression 111 = .ok (.ifCond .ne 5, 3) := dget dh_397 (k := 0) rfl
theorem dX6_expression_114 : decode cX6_expression 114 = .ok (.iconst 1, 1) := dget dh_397 (k := 1) rfl
theorem dX6_expression_115 : decode cX6_expression 115 = .ok (.ireturn, 1) := dget dh_397 (k := 2) rfl
theorem dX6_expression_116 : decode cX6_expression 116 = .ok (.aload_n 0, 1) := dget dh_397 (k := 3) rfl
theorem dX6_expression_117 : decode cX6_expression 117 = .ok (.dup, 1) := dget dh_397 (k := 4) rfl
theorem dX6_expression_118 : decode cX6_expression 118 = .ok (.getfield 26, 3) := dget dh_397 (k := 5) rfl
theorem dX6_expression_121 : decode cX6_expression 121 = .ok (.iconst 1, 1) := dget dh_397 (k := 6) rfl
theorem dX6_expression_122 : decode cX6_expression 122 = .ok (.iadd, 1) := dget dh_397 (k := 7) rfl
theorem dX6_expression_123 : decode cX6_expression 123 = .ok (.putfield 26, 3) := dget dh_397 (k := 8) rfl
theorem dX6_expression_126 : decode cX6_expression 126 = .ok (.iinc 4 1, 3) := dget dh_397 (k := 9) rfl
theorem dX6_expression_129 : decode cX6_expression 129 = .ok (.goto (-124), 3) := dget dh_397 (k := 10) rfl
theorem dX6_expression_132 : decode cX6_expression 132 = .ok (.iconst 1, 1) := dget dh_397 (k := 11) rfl
theorem dX6_expression_133 : decode cX6_expression 133 = .ok (.ireturn, 1) := dget dh_397 (k := 12) rfl
def dl_398 : List (Nat × (Instr × Nat)) := [(0, (.aload_n 0, 1)), (1, (.invokevirtual 46, 3)), (4, (.istore_n 2, 1)), (5, (.iload_n 2, 1)), (6, (.bipush 91, 2)), (8, (.if_icmp .ne 51, 3)), (11, (.iload_n 1, 1)), (12, (.bipush 6, 2)), (14, (.if_icmp .lt 9, 3)), (17, (.aload_n 0, 1)), (18, (.iconst 5, 1)), (19, (.invokevirtual 73, 3)), (22, (.ireturn, 1)), (23, (.aload_n 0, 1)), (24, (.dup, 1)), (25, (.getfield 26, 3)), (28, (.iconst 1, 1)), (29, (.iadd, 1)), (30, (.putfield 26, 3)), (33, (.aload_n 0, 1))]
theorem dh_398 : dchk cX6_factor dl_398 = true := by decide +kernel
theorem dX6_factor_0 : decode cX6_factor 0 = .ok (.aload_n 0, 1) := dget dh_398 (k := 0) rfl
theorem dX6_factor_1 : decode cX6_factor 1 = .ok (.invokevirtual 46, 3) := dget dh_398 (k := 1) rfl
theorem dX6_factor_4 : decode cX6_factor 4 = .ok (.istore_n 2, 1) := dget dh_398 (k := 2) rfl
theorem dX6_factor_5 : decode cX6_factor 5 = .ok (.iload_n 2, 1) := dget dh_398 (k := 3) rfl
theorem dX6_factor_6 : decode cX6_factor 6 = .ok (.bipush 91, 2) := dget dh_398 (k := 4) rfl
theorem dX6_factor_8 : decode cX6_factor 8 = .ok (.if_icmp .ne 51, 3) := dget dh_398 (k := 5) rfl
theorem dX6_factor_11 : decode cX6_factor 11 = .ok (.iload_n 1, 1) := dget dh_398 (k := 6) rfl
theorem dX6_factor_12 : decode cX6_factor 12 = .ok (.bipush 6, 2) := dget dh_398 (k := 7) rfl
theorem dX6_factor_14 : decode cX6_factor 14 = .ok (.if_icmp .lt 9, 3) := dget dh_398 (k := 8) rfl
theorem dX6_factor_17 : decode cX6_factor 17 = .ok (.aload_n 0, 1) := dget dh_398 (k := 9) rfl
theorem dX6_factor_18 : decode cX6_factor 18 = .ok (.iconst 5, 1) := dget dh_398 (k := 10) rfl
theorem dX6_factor_19 : decode cX6_factor 19 = .ok (.invokevirtual 73, 3) := dget dh_398 (k := 11) rfl
theorem dX6_factor_22 : decode cX6_factor 22 = .ok (.ireturn, 1) := dget dh_398 (k := 12) rfl
theorem dX6_factor_23 : decode cX6_factor 23 = .ok (.aload_n 0, 1) := dget dh_398 (k := 13) rfl
theorem dX6_factor_24 : decode cX6_factor 24 = .ok (.dup, 1) := dget dh_398 (k := 14) rfl
theorem dX6_factor_25 : decode cX6_factor 25 = .ok (.getfield 26, 3) := dget dh_398 (k := 15) rfl
theorem dX6_factor_28 : decode cX6_factor 28 = .ok (.iconst 1, 1) := dget dh_398 (k := 16) rfl
theorem dX6_factor_29 : decode cX6_factor 29 = .ok (.iadd, 1) := dget dh_398 (k := 17) rfl
theorem dX6_factor_30 : decode cX6_factor 30 = .ok (.putfield 26, 3) := dget dh_398 (k := 18) rfl
theorem dX6_factor_33 : decode cX6_factor 33 = .ok (.aload_n 0, 1) := dget dh_398 (k := 19) rfl
def dl_399 : List (Nat × (Instr × Nat)) := [(34, (.iload_n 1, 1)), (35, (.iconst 1, 1)), (36, (.iadd, 1)), (37, (.iconst 1, 1)), (38, (.invokevirtual 54, 3)), (41, (.ifCond .eq 16, 3)), (44, (.aload_n 0, 1)), (45, (.bipush 93, 2)), (47, (.invokevirtual 69, 3)), (50, (.ifCond .eq 7, 3)), (53, (.iconst 1, 1)), (54, (.goto 4, 3)), (57, (.iconst 0, 1)), (58, (.ireturn, 1)), (59, (.iload_n 2, 1)), (60, (.bipush 48, 2)), (62, (.if_icmp .lt 14, 3)), (65, (.iload_n 2, 1)), (66, (.bipush 57, 2)), (68, (.if_icmp .gt 8, 3))]
theorem dh_399 : dchk cX6_factor dl_399 = true := by decide +kernel
theorem dX6_factor_34 : decode cX6_factor 34 = .ok (.iload_n 1, 1) := dget dh_399 (k := 0) rfl
theorem dX6_factor_35 : decode cX6_factor 35 = .ok (.iconst 1, 1) := dget dh_399 (k := 1) rfl
theorem dX6_factor_36 : decode cX6_factor 36 = .ok (.iadd, 1) := dget dh_399 (k := 2) rfl
theorem dX6_factor_37 : decode cX6_factor 37 = .ok (.iconst 1, 1) := dget dh_399 (k := 3) rfl
theorem dX6_factor_38 : decode cX6_factor 38 = .ok (.invokevirtual 54, 3) := dget dh_399 (k := 4) rfl
theorem dX6_factor_41 : decode cX6_factor 41 = .ok (.ifCond .eq 16, 3) := dget dh_399 (k := 5) rfl
theorem dX6_factor_44 : decode cX6_factor 44 = .ok (.aload_n 0, 1) := dget dh_399 (k := 6) rfl
theorem dX6_factor_45 : decode cX6_factor 45 = .ok (.bipush 93, 2) := dget dh_399 (k := 7) rfl
theorem dX6_factor_47 : decode cX6_factor 47 = .ok (.invokevirtual 69, 3) := dget dh_399 (k := 8) rfl
theorem dX6_factor_50 : decode cX6_factor 50 = .ok (.ifCond .eq 7, 3) := dget dh_399 (k := 9) rfl
theorem dX6_factor_53 : decode cX6_factor 53 = .ok (.iconst 1, 1) := dget dh_399 (k := 10) rfl
theorem dX6_factor_54 : decode cX6_factor 54 = .ok (.goto 4, 3) := dget dh_399 (k := 11) rfl
theorem dX6_factor_57 : decode cX6_factor 57 = .ok (.iconst 0, 1) := dget dh_399 (k := 12) rfl
theorem dX6_factor_58 : decode cX6_factor 58 = .ok (.ireturn, 1) := dget dh_399 (k := 13) rfl
theorem dX6_factor_59 : decode cX6_factor 59 = .ok (.iload_n 2, 1) := dget dh_399 (k := 14) rfl
theorem dX6_factor_60 : decode cX6_factor 60 = .ok (.bipush 48, 2) := dget dh_399 (k := 15) rfl
theorem dX6_factor_62 : decode cX6_factor 62 = .ok (.if_icmp .lt 14, 3) := dget dh_399 (k := 16) rfl
theorem dX6_factor_65 : decode cX6_factor 65 = .ok (.iload_n 2, 1) := dget dh_399 (k := 17) rfl
theorem dX6_factor_66 : decode cX6_factor 66 = .ok (.bipush 57, 2) := dget dh_399 (k := 18) rfl
theorem dX6_factor_68 : decode cX6_factor 68 = .ok (.if_icmp .gt 8, 3) := dget dh_399 (k := 19) rfl
def dl_400 : List (Nat × (Instr × Nat)) := [(71, (.aload_n 0, 1)), (72, (.invokevirtual 98, 3)), (75, (.ireturn, 1)), (76, (.iload_n 2, 1)), (77, (.iconst (-1), 1)), (78, (.if_icmp .ne 7, 3)), (81, (.iconst (-1), 1)), (82, (.goto 10, 3)), (85, (.ldc 101, 2)), (87, (.iload_n 2, 1)), (88, (.i2c, 1)), (89, (.invokevirtual 103, 3)), (92, (.istore_n 3, 1)), (93, (.iload_n 3, 1)), (94, (.ifCond .ge 9, 3)), (97, (.aload_n 0, 1)), (98, (.iconst 1, 1)), (99, (.invokevirtual 73, 3)), (102, (.ireturn, 1)), (103, (.aload_n 0, 1))]
theorem dh_400 : dchk cX6_factor dl_400 = true := by decide +kernel
theorem dX6_factor_71 : decode cX6_factor 71 = .ok (.aload_n 0, 1) := dget dh_400 (k := 0) rfl
theorem dX6_factor_72 : decode cX6_factor 72 = .ok (.invokevirtual 98, 3) := dget dh_400 (k := 1) rfl
theorem dX6_factor_75 : decode cX6_factor 75 = .ok (.ireturn, 1) := dget dh_400 (k := 2) rfl
theorem dX6_factor_76 : decode cX6_factor 76 = .ok (.iload_n 2, 1) := dget dh_400 (k := 3) rfl
theorem dX6_factor_77 : decode cX6_factor 77 = .ok (.iconst (-1), 1) := dget dh_400 (k := 4) rfl
theorem dX6_factor_78 : decode cX6_factor 78 = .ok (.if_icmp .ne 7, 3) := dget dh_400 (k := 5) rfl
theorem dX6_factor_81 : decode cX6_factor 81 = .ok (.iconst (-1), 1) := dget dh_400 (k := 6) rfl
theorem dX6_factor_82 : decode cX6_factor 82 = .ok (.goto 10, 3) := dget dh_400 (k := 7) rfl
theorem dX6_factor_85 : decode cX6_factor 85 = .ok (.ldc 101, 2) := dget dh_400 (k := 8) rfl
theorem dX6_factor_87 : decode cX6_factor 87 = .ok (.iload_n 2, 1) := dget dh_400 (k := 9) rfl
theorem dX6_factor_88 : decode cX6_factor 88 = .ok (.i2c, 1) := dget dh_400 (k := 10) rfl
theorem dX6_factor_89 : decode cX6_factor 89 = .ok (.invokevirtual 103, 3) := dget dh_400 (k := 11) rfl
theorem dX6_factor_92 : decode cX6_factor 92 = .ok (.istore_n 3, 1) := dget dh_400 (k := 12) rfl
theorem dX6_factor_93 : decode cX6_factor 93 = .ok (.iload_n 3, 1) := dget dh_400 (k := 13) rfl
theorem dX6_factor_94 : decode cX6_factor 94 = .ok (.ifCond .ge 9, 3) := dget dh_400 (k := 14) rfl
theorem dX6_factor_97 : decode cX6_factor 97 = .ok (.aload_n 0, 1) := dget dh_400 (k := 15) rfl
theorem dX6_factor_98 : decode cX6_factor 98 = .ok (.iconst 1, 1) := dget dh_400 (k := 16) rfl
theorem dX6_factor_99 : decode cX6_factor 99 = .ok (.invokevirtual 73, 3) := dget dh_400 (k := 17) rfl
theorem dX6_factor_102 : decode cX6_factor 102 = .ok (.ireturn, 1) := dget dh_400 (k := 18) rfl
theorem dX6_factor_103 : decode cX6_factor 103 = .ok (.aload_n 0, 1) := dget dh_400 (k := 19) rfl
def dl_401 : List (Nat × (Instr × Nat)) := [(104, (.dup, 1)), (105, (.getfield 26, 3)), (108, (.iconst 1, 1)), (109, (.iadd, 1)), (110, (.putfield 26, 3)), (113, (.aload_n 0, 1)), (114, (.getfield 12, 3)), (117, (.bipush 107, 2)), (119, (.iload_n 3, 1)), (120, (.invokevirtual 92, 3)), (123, (.pop, 1)), (124, (.iconst 1, 1)), (125, (.ireturn, 1))]
theorem dh_401 : dchk cX6_factor dl_401 = true := by decide +kernel
theorem dX6_factor_104 : decode cX6_factor 104 = .ok (.dup, 1) := dget dh_401 (k := 0) rfl
theorem dX6_factor_105 : decode cX6_factor 105 = .ok (.getfield 26, 3) := dget dh_401 (k := 1) rfl
theorem dX6_factor_108 : decode cX6_factor 108 = .ok (.iconst 1, 1) := dget dh_401 (k := 2) rfl
theorem dX6_factor_109 : decode cX6_factor 109 = .ok (.iadd, 1) := dget dh_401 (k := 3) rfl
theorem dX6_factor_110 : decode cX6_factor 110 = .ok (.putfield 26, 3) := dget dh_401 (k := 4) rfl
theorem dX6_factor_113 : decode cX6_factor 113 = .ok (.aload_n 0, 1) := dget dh_401 (k := 5) rfl
theorem dX6_factor_114 : decode cX6_factor 114 = .ok (.getfield 12, 3) := dget dh_401 (k := 6) rfl
theorem dX6_factor_117 : decode cX6_factor 117 = .ok (.bipush 107, 2) := dget dh_401 (k := 7) rfl
theorem dX6_factor_119 : decode cX6_factor 119 = .ok (.iload_n 3, 1) := dget dh_401 (k := 8) rfl
theorem dX6_factor_120 : decode cX6_factor 120 = .ok (.invokevirtual 92, 3) := dget dh_401 (k := 9) rfl
theorem dX6_factor_123 : decode cX6_factor 123 = .ok (.pop, 1) := dget dh_401 (k := 10) rfl
theorem dX6_factor_124 : decode cX6_factor 124 = .ok (.iconst 1, 1) := dget dh_401 (k := 11) rfl
theorem dX6_factor_125 : decode cX6_factor 125 = .ok (.ireturn, 1) := dget dh_401 (k := 12) rfl
def dl_402 : List (Nat × (Instr × Nat)) := [(0, (.iconst 0, 1)), (1, (.istore_n 1, 1)), (2, (.aload_n 0, 1)), (3, (.invokevirtual 46, 3)), (6, (.istore_n 2, 1)), (7, (.iconst 0, 1)), (8, (.istore_n 3, 1)), (9, (.iload_n 3, 1)), (10, (.iconst 5, 1)), (11, (.if_icmp .ge 46, 3)), (14, (.iload_n 2, 1)), (15, (.bipush 48, 2)), (17, (.if_icmp .lt 40, 3)), (20, (.iload_n 2, 1)), (21, (.bipush 57, 2)), (23, (.if_icmp .gt 34, 3)), (26, (.bipush 10, 2)), (28, (.iload_n 1, 1)), (29, (.imul, 1)), (30, (.iload_n 2, 1))]
theorem dh_402 : dchk cX6_number dl_402 = true := by decide +kernel
theorem dX6_number_0 : decode cX6_number 0 = .ok (.iconst 0, 1) := dget dh_402 (k := 0) rfl
theorem dX6_number_1 : decode cX6_number 1 = .ok (.istore_n 1, 1) := dget dh_402 (k := 1) rfl
theorem dX6_number_2 : decode cX6_number 2 = .ok (.aload_n 0, 1) := dget dh_402 (k := 2) rfl
theorem dX6_number_3 : decode cX6_number 3 = .ok (.invokevirtual 46, 3) := dget dh_402 (k := 3) rfl
theorem dX6_number_6 : decode cX6_number 6 = .ok (.istore_n 2, 1) := dget dh_402 (k := 4) rfl
theorem dX6_number_7 : decode cX6_number 7 = .ok (.iconst 0, 1) := dget dh_402 (k := 5) rfl
theorem dX6_number_8 : decode cX6_number 8 = .ok (.istore_n 3, 1) := dget dh_402 (k := 6) rfl
theorem dX6_number_9 : decode cX6_number 9 = .ok (.iload_n 3, 1) := dget dh_402 (k := 7) rfl
theorem dX6_number_10 : decode cX6_number 10 = .ok (.iconst 5, 1) := dget dh_402 (k := 8) rfl
theorem dX6_number_11 : decode cX6_number 11 = .ok (.if_icmp .ge 46, 3) := dget dh_402 (k := 9) rfl
theorem dX6_number_14 : decode cX6_number 14 = .ok (.iload_n 2, 1) := dget dh_402 (k := 10) rfl
theorem dX6_number_15 : decode cX6_number 15 = .ok (.bipush 48, 2) := dget dh_402 (k := 11) rfl
theorem dX6_number_17 : decode cX6_number 17 = .ok (.if_icmp .lt 40, 3) := dget dh_402 (k := 12) rfl
theorem dX6_number_20 : decode cX6_number 20 = .ok (.iload_n 2, 1) := dget dh_402 (k := 13) rfl
theorem dX6_number_21 : decode cX6_number 21 = .ok (.bipush 57, 2) := dget dh_402 (k := 14) rfl
theorem dX6_number_23 : decode cX6_number 23 = .ok (.if_icmp .gt 34, 3) := dget dh_402 (k := 15) rfl
theorem dX6_number_26 : decode cX6_number 26 = .ok (.bipush 10, 2) := dget dh_402 (k := 16) rfl
theorem dX6_number_28 : decode cX6_number 28 = .ok (.iload_n 1, 1) := dget dh_402 (k := 17) rfl
theorem dX6_number_29 : decode cX6_number 29 = .ok (.imul, 1) := dget dh_402 (k := 18) rfl
theorem dX6_number_30 : decode cX6_number 30 = .ok (.iload_n 2, 1) := dget dh_402 (k := 19) rfl
def dl_403 : List (Nat × (Instr × Nat)) := [(31, (.bipush 48, 2)), (33, (.isub, 1)), (34, (.iadd, 1)), (35, (.istore_n 1, 1)), (36, (.aload_n 0, 1)), (37, (.dup, 1)), (38, (.getfield 26, 3)), (41, (.iconst 1, 1)), (42, (.iadd, 1)), (43, (.putfield 26, 3)), (46, (.aload_n 0, 1)), (47, (.invokevirtual 46, 3)), (50, (.istore_n 2, 1)), (51, (.iinc 3 1, 3)), (54, (.goto (-45), 3)), (57, (.iload_n 2, 1)), (58, (.bipush 48, 2)), (60, (.if_icmp .lt 15, 3)), (63, (.iload_n 2, 1)), (64, (.bipush 57, 2))]
theorem dh_403 : dchk cX6_number dl_403 = true := by decide +kernel
theorem dX6_number_31 : decode cX6_number 31 = .ok (.bipush 48, 2) := dget dh_403 (k := 0) rfl
theorem dX6_number_33 : decode cX6_number 33 = .ok (.isub, 1) := dget dh_403 (k := 1) rfl
theorem dX6_number_34 : decode cX6_number 34 = .ok (.iadd, 1) := dget dh_403 (k := 2) rfl
theorem dX6_number_35 : decode cX6_number 35 = .ok (.istore_n 1, 1) := dget dh_403 (k := 3) rfl
theorem dX6_number_36 : decode cX6_number 36 = .ok (.aload_n 0, 1) := dget dh_403 (k := 4) rfl
theorem dX6_number_37 : decode cX6_number 37 = .ok (.dup, 1) := dget dh_403 (k := 5) rfl
theorem dX6_number_38 : decode cX6_number 38 = .ok (.getfield 26, 3) := dget dh_403 (k := 6) rfl
theorem dX6_number_41 : decode cX6_number 41 = .ok (.iconst 1, 1) := dget dh_403 (k := 7) rfl
theorem dX6_number_42 : decode cX6_number 42 = .ok (.iadd, 1) := dget dh_403 (k := 8) rfl
theorem dX6_number_43 : decode cX6_number 43 = .ok (.putfield 26, 3) := dget dh_403 (k := 9) rfl
theorem dX6_number_46 : decode cX6_number 46 = .ok (.aload_n 0, 1) := dget dh_403 (k := 10) rfl
theorem dX6_number_47 : decode cX6_number 47 = .ok (.invokevirtual 46, 3) := dget dh_403 (k := 11) rfl
theorem dX6_number_50 : decode cX6_number 50 = .ok (.istore_n 2, 1) := dget dh_403 (k := 12) rfl
theorem dX6_number_51 : decode cX6_number 51 = .ok (.iinc 3 1, 3) := dget dh_403 (k := 13) rfl
theorem dX6_number_54 : decode cX6_number 54 = .ok (.goto (-45), 3) := dget dh_403 (k := 14) rfl
theorem dX6_number_57 : decode cX6_number 57 = .ok (.iload_n 2, 1) := dget dh_403 (k := 15) rfl
theorem dX6_number_58 : decode cX6_number 58 = .ok (.bipush 48, 2) := dget dh_403 (k := 16) rfl
theorem dX6_number_60 : decode cX6_number 60 = .ok (.if_icmp .lt 15, 3) := dget dh_403 (k := 17) rfl
theorem dX6_number_63 : decode cX6_number 63 = .ok (.iload_n 2, 1) := dget dh_403 (k := 18) rfl
theorem dX6_number_64 : decode cX6_number 64 = .ok (.bipush 57, 2) := dget dh_403 (k := 19) rfl
def dl_404 : List (Nat × (Instr × Nat)) := [(66, (.if_icmp .gt 9, 3)), (69, (.aload_n 0, 1)), (70, (.iconst 2, 1)), (71, (.invokevirtual 73, 3)), (74, (.ireturn, 1)), (75, (.aload_n 0, 1)), (76, (.getfield 12, 3)), (79, (.bipush 48, 2)), (81, (.iload_n 1, 1)), (82, (.invokevirtual 92, 3)), (85, (.pop, 1)), (86, (.iconst 1, 1)), (87, (.ireturn, 1))]
theorem dh_404 : dchk cX6_number dl_404 = true := by decide +kernel
theorem dX6_number_66 : decode cX6_number 66 = .ok (.if_icmp .gt 9, 3) := dget dh_404 (k := 0) rfl
theorem dX6_number_69 : decode cX6_number 69 = .ok (.aload_n 0, 1) := dget dh_404 (k := 1) rfl
theorem dX6_number_70 : decode cX6_number 70 = .ok (.iconst 2, 1) := dget dh_404 (k := 2) rfl
theorem dX6_number_71 : decode cX6_number 71 = .ok (.invokevirtual 73, 3) := dget dh_404 (k := 3) rfl
theorem dX6_number_74 : decode cX6_number 74 = .ok (.ireturn, 1) := dget dh_404 (k := 4) rfl
theorem dX6_number_75 : decode cX6_number 75 = .ok (.aload_n 0, 1) := dget dh_404 (k := 5) rfl
theorem dX6_number_76 : decode cX6_number 76 = .ok (.getfield 12, 3) := dget dh_404 (k := 6) rfl
theorem dX6_number_79 : decode cX6_number 79 = .ok (.bipush 48, 2) := dget dh_404 (k := 7) rfl
theorem dX6_number_81 : decode cX6_number 81 = .ok (.iload_n 1, 1) := dget dh_404 (k := 8) rfl
theorem dX6_number_82 : decode cX6_number 82 = .ok (.invokevirtual 92, 3) := dget dh_404 (k := 9) rfl
theorem dX6_number_85 : decode cX6_number 85 = .ok (.pop, 1) := dget dh_404 (k := 10) rfl
theorem dX6_number_86 : decode cX6_number 86 = .ok (.iconst 1, 1) := dget dh_404 (k := 11) rfl
theorem dX6_number_87 : decode cX6_number 87 = .ok (.ireturn, 1) := dget dh_404 (k := 12) rfl
def dl_405 : List (Nat × (Instr × Nat)) := [(0, (.aload_n 0, 1)), (1, (.invokevirtual 46, 3)), (4, (.iload_n 1, 1)), (5, (.if_icmp .eq 9, 3)), (8, (.aload_n 0, 1)), (9, (.iconst 1, 1)), (10, (.invokevirtual 73, 3)), (13, (.ireturn, 1)), (14, (.aload_n 0, 1)), (15, (.dup, 1)), (16, (.getfield 26, 3)), (19, (.iconst 1, 1)), (20, (.iadd, 1)), (21, (.putfield 26, 3)), (24, (.iconst 1, 1)), (25, (.ireturn, 1))]
theorem dh_405 : dchk cX6_pass dl_405 = true := by decide +kernel
theorem dX6_pass_0 : decode cX6_pass 0 = .ok (.aload_n 0, 1) := dget dh_405 (k := 0) rfl
theorem dX6_pass_1 : decode cX6_pass 1 = .ok (.invokevirtual 46, 3) := dget dh_405 (k := 1) rfl
theorem dX6_pass_4 : decode cX6_pass 4 = .ok (.iload_n 1, 1) := dget dh_405 (k := 2) rfl
theorem dX6_pass_5 : decode cX6_pass 5 = .ok (.if_icmp .eq 9, 3) := dget dh_405 (k := 3) rfl
theorem dX6_pass_8 : decode cX6_pass 8 = .ok (.aload_n 0, 1) := dget dh_405 (k := 4) rfl
theorem dX6_pass_9 : decode cX6_pass 9 = .ok (.iconst 1, 1) := dget dh_405 (k := 5) rfl
theorem dX6_pass_10 : decode cX6_pass 10 = .ok (.invokevirtual 73, 3) := dget dh_405 (k := 6) rfl
theorem dX6_pass_13 : decode cX6_pass 13 = .ok (.ireturn, 1) := dget dh_405 (k := 7) rfl
theorem dX6_pass_14 : decode cX6_pass 14 = .ok (.aload_n 0, 1) := dget dh_405 (k := 8) rfl
theorem dX6_pass_15 : decode cX6_pass 15 = .ok (.dup, 1) := dget dh_405 (k := 9) rfl
theorem dX6_pass_16 : decode cX6_pass 16 = .ok (.getfield 26, 3) := dget dh_405 (k := 10) rfl
theorem dX6_pass_19 : decode cX6_pass 19 = .ok (.iconst 1, 1) := dget dh_405 (k := 11) rfl
theorem dX6_pass_20 : decode cX6_pass 20 = .ok (.iadd, 1) := dget dh_405 (k := 12) rfl
theorem dX6_pass_21 : decode cX6_pass 21 = .ok (.putfield 26, 3) := dget dh_405 (k := 13) rfl
theorem dX6_pass_24 : decode cX6_pass 24 = .ok (.iconst 1, 1) := dget dh_405 (k := 14) rfl
theorem dX6_pass_25 : decode cX6_pass 25 = .ok (.ireturn, 1) := dget dh_405 (k := 15) rfl
def dl_406 : List (Nat × (Instr × Nat)) := [(0, (.aload_n 0, 1)), (1, (.getfield 26, 3)), (4, (.ifCond .lt 30, 3)), (7, (.aload_n 0, 1)), (8, (.getfield 26, 3)), (11, (.aload_n 0, 1)), (12, (.getfield 22, 3)), (15, (.if_icmp .ge 19, 3)), (18, (.aload_n 0, 1)), (19, (.getfield 18, 3)), (22, (.aload_n 0, 1)), (23, (.getfield 26, 3)), (26, (.baload, 1)), (27, (.sipush 255, 3)), (30, (.iand, 1)), (31, (.goto 4, 3)), (34, (.iconst (-1), 1)), (35, (.ireturn, 1))]
theorem dh_406 : dchk cX6_peek dl_406 = true := by decide +kernel
theorem dX6_peek_0 : decode cX6_peek 0 = .ok (.aload_n 0, 1) := dget dh_406 (k := 0) rfl
theorem dX6_peek_1 : decode cX6_peek 1 = .ok (.getfield 26, 3) := dget dh_406 (k := 1) rfl
theorem dX6_peek_4 : decode cX6_peek 4 = .ok (.ifCond .lt 30, 3) := dget dh_406 (k := 2) rfl
theorem dX6_peek_7 : decode cX6_peek 7 = .ok (.aload_n 0, 1) := dget dh_406 (k := 3) rfl
theorem dX6_peek_8 : decode cX6_peek 8 = .ok (.getfield 26, 3) := dget dh_406 (k := 4) rfl
theorem dX6_peek_11 : decode cX6_peek 11 = .ok (.aload_n 0, 1) := dget dh_406 (k := 5) rfl
theorem dX6_peek_12 : decode cX6_peek 12 = .ok (.getfield 22, 3) := dget dh_406 (k := 6) rfl
theorem dX6_peek_15 : decode cX6_peek 15 = .ok (.if_icmp .ge 19, 3) := dget dh_406 (k := 7) rfl
theorem dX6_peek_18 : decode cX6_peek 18 = .ok (.aload_n 0, 1) := dget dh_406 (k := 8) rfl
theorem dX6_peek_19 : decode cX6_peek 19 = .ok (.getfield 18, 3) := dget dh_406 (k := 9) rfl
theorem dX6_peek_22 : decode cX6_peek 22 = .ok (.aload_n 0, 1) := dget dh_406 (k := 10) rfl
theorem dX6_peek_23 : decode cX6_peek 23 = .ok (.getfield 26, 3) := dget dh_406 (k := 11) rfl
theorem dX6_peek_26 : decode cX6_peek 26 = .ok (.baload, 1) := dget dh_406 (k := 12) rfl
theorem dX6_peek_27 : decode cX6_peek 27 = .ok (.sipush 255, 3) := dget dh_406 (k := 13) rfl
theorem dX6_peek_30 : decode cX6_peek 30 = .ok (.iand, 1) := dget dh_406 (k := 14) rfl
theorem dX6_peek_31 : decode cX6_peek 31 = .ok (.goto 4, 3) := dget dh_406 (k := 15) rfl
theorem dX6_peek_34 : decode cX6_peek 34 = .ok (.iconst (-1), 1) := dget dh_406 (k := 16) rfl
theorem dX6_peek_35 : decode cX6_peek 35 = .ok (.ireturn, 1) := dget dh_406 (k := 17) rfl
def dl_407 : List (Nat × (Instr × Nat)) := [(0, (.aload_n 0, 1)), (1, (.sipush (-1000), 3)), (4, (.iload_n 1, 1)), (5, (.imul, 1)), (6, (.aload_n 0, 1)), (7, (.getfield 26, 3)), (10, (.isub, 1)), (11, (.putfield 29, 3)), (14, (.iconst 0, 1)), (15, (.ireturn, 1))]
theorem dh_407 : dchk cX6_refuse dl_407 = true := by decide +kernel
theorem dX6_refuse_0 : decode cX6_refuse 0 = .ok (.aload_n 0, 1) := dget dh_407 (k := 0) rfl
theorem dX6_refuse_1 : decode cX6_refuse 1 = .ok (.sipush (-1000), 3) := dget dh_407 (k := 1) rfl
theorem dX6_refuse_4 : decode cX6_refuse 4 = .ok (.iload_n 1, 1) := dget dh_407 (k := 2) rfl
theorem dX6_refuse_5 : decode cX6_refuse 5 = .ok (.imul, 1) := dget dh_407 (k := 3) rfl
theorem dX6_refuse_6 : decode cX6_refuse 6 = .ok (.aload_n 0, 1) := dget dh_407 (k := 4) rfl
theorem dX6_refuse_7 : decode cX6_refuse 7 = .ok (.getfield 26, 3) := dget dh_407 (k := 5) rfl
theorem dX6_refuse_10 : decode cX6_refuse 10 = .ok (.isub, 1) := dget dh_407 (k := 6) rfl
theorem dX6_refuse_11 : decode cX6_refuse 11 = .ok (.putfield 29, 3) := dget dh_407 (k := 7) rfl
theorem dX6_refuse_14 : decode cX6_refuse 14 = .ok (.iconst 0, 1) := dget dh_407 (k := 8) rfl
theorem dX6_refuse_15 : decode cX6_refuse 15 = .ok (.ireturn, 1) := dget dh_407 (k := 9) rfl
def rS (D : va_G) (cy : Nat → ClassId) (W : va_W) (sz kq vq : Nat) (U : State) : Prop := (vk_R RX6 101 "krsoamngcv" kq U ∧ sA kq vq (va_A W sz) U U.heap) ∧ rQ D cy W sz U
section PRES
variable {D : va_G} {cy : Nat → ClassId} {W : va_W} {sz kq vq : Nat} {s : State} {H : Heap} {locs : List Loc} {av : List Value} {b : Addr} {C : String} {A : Nat → Prop}
theorem rS_b : FrameBlind (va_Pc av (rS D cy W sz kq vq)) := fun a U g mk q => ⟨q.1, ⟨vk_R.same (u := U) (U := U.calling g mk a) rfl q.2.1.1, sA.moved (u := U) (U := U.calling g mk a) (Vm.Alike.refl U.vm) q.2.1.2⟩, q.2.2.1, q.2.2.2.1, va_K.moved (u := U) (U := U.calling g mk a) (Vm.Alike.refl U.vm) q.2.2.2.2.1, q.2.2.2.2.2⟩
theorem rS_v (hz : vk_R RX6 101 "krsoamngcv" kq s ∧ sA kq vq A s s.heap) (hS : va_S A s.heap H locs) (hF : ∀ q, va_A W H.size q → A q) (hP : va_P D vwCl W H) (hK : va_K D vwCl (vT cy) s) (hD : va_D A W) (hr : ∃ cell : Cell, H[b]? = some cell ∧ cell.vm.isStatics = false ∧ s.vm.findClass C = some cell.cls) : PreV s H C b (va_Pc (.ref b :: av) (rS D cy W H.size kq vq)) av := ⟨rS_b, hr, fun U hU hW => ⟨rfl, ⟨vk_R.warm hW hz.1, by rw [hU]; exact ((hz.2.kept hS.2.1).narrow hF).moved hW.alike⟩, by rw [hU], by rw [hU]; exact hP, va_K.moved hW.alike hK, hD.weaken (fun _ _ _ _ => trivial)⟩⟩
end PRES
theorem min_rg {x : Int32} (h : 0 ≤ x.toInt) : 0 ≤ (if (200 : Int32) < x then 200 else x).toInt ∧ (if (200 : Int32) < x then 200 else x).toInt ≤ 200 := by
  by_cases h9 : (200 : Int32) < x
  · rw [if_pos h9]; decide
  · rw [if_neg h9]; have h8 := b_nlt h9; have h7 : (200 : Int32).toInt = 200 := rfl; omega
set_option maxHeartbeats 4000000 in
set_option maxRecDepth 100000 in
theorem c_X5_clear (l : Launch) (D : va_G) (cy : Nat → ClassId) (a : Nat → Nat) (i : Nat → Int32) (r : Nat → Nat → Int32) (q : Nat → Option Nat) (tl : va_W) (sz : Nat) (hRi : yRi i) (hRr : yRr r) : Met l yX5_clear (Cond.code yX5_clear cX5_clear 1 none :: gT) { frames := 1, cells := 0, slots := 0, locals := 24 } (va_Pc [.ref (a 12)] (rQ D cy (xW cy a i r q (a 20) (a 12) ++ tl) sz)) (va_Qv (fun u : (Nat → Int32) × (Nat → Nat → Int32) => yRi u.1 ∧ yRr u.2 ∧ mEi [6, 7] i u.1 ∧ mEr [] r u.2 ∧ True) (fun (u : (Nat → Int32) × (Nat → Nat → Int32)) t => va_P D vwCl (xW cy a u.1 u.2 q (a 20) (a 12) ++ tl) t.heap ∧ va_K D vwCl (vT cy) t ∧ va_D (va_A (xW cy a i r q (a 20) (a 12) ++ tl) sz) (xW cy a u.1 u.2 q (a 20) (a 12) ++ tl)) (va_A (xW cy a i r q (a 20) (a 12) ++ tl) sz)) 0 0 (va_A (xW cy a i r q (a 20) (a 12) ++ tl) sz) := by
  refine Met.ofQ (cc := cX5_clear) (maxL := 1) (ret := none) (by decide) rfl ?_
  intro p e s m args below meth c s₁ B hml hv Q hQ
  obtain ⟨rfl, hsz, hP, hK, hD0⟩ := hv
  have hx := B.exec
  have hb := B.bytes
  have hr := B.returns
  have hlocks := B.notSynchronized
  have hT : ∀ w ∈ gT, w.before _ s = true := fun w h => atoms_spec (ws := (Cond.code yX5_clear cX5_clear 1 none :: gT)) B.pre w (List.mem_cons_of_mem _ h)
  have hown : s.vm.findClass RX5 = some m.cls := findClass_of_methodNamed B.named
  subst hsz
  have hD := hD0.self (sz := s.heap.size)
  generalize hAe : va_A (xW cy a i r q (a 20) (a 12) ++ tl) s.heap.size = A at hD hQ
  have hA : ∀ q : Nat, s.heap.size ≤ q → A q := fun q h => by rw [← hAe]; exact Or.inr h
  have hS : va_S A s.heap s.heap [] := va_S.rf
  have hl := lv_entry ([.ref (a 12)]) (n := 1) (Nat.le_of_ble_eq_true rfl)
  rw [lg_entry_eq]
  generalize (lg_sl ([.ref (a 12)]) ++ List.replicate (1 - (lg_sl ([.ref (a 12)])).length) Slot.unset).toArray = ls at hl ⊢
  have hl : lv_has ls 1 [(0, .ref (a 12))] := hl
  have hEi : mEi [6, 7] i i := Ei_rf
  have hEr : mEr [] r r := Er_rf
  refine lv_aload_n hx hb dX5_clear_0 rfl (lv_at hl 0 rfl) ?_
  refine lv_iconst (v := 0) hx hb dX5_clear_1 (by decide) ?_
  refine va_put (D := D) (ci := 5) (v := .int 0) (ty := .int) (C := RX5) (T := TX5) (N := 9) hx hb hT iX5 tyX5 tyX5_ok nmX5 hown hK hP hD hS 12 rfl rfl 0 (by decide) (hT _ t_370) (fun _ h9 => h9) rfl (by decide +kernel) rfl rfl (Nat.le_of_ble_eq_true rfl) dX5_clear_2 (fun H locs hP hD hS => ?_)
  rw [zP6] at hP hD
  have hRi := Yi_upd hRi 6 0 ⟨by decide, by decide⟩
  have hEi := Ei_upd hEi 6 0 (by decide)
  refine lv_aload_n hx hb dX5_clear_5 rfl (lv_at hl 0 rfl) ?_
  refine lv_iconst (v := 0) hx hb dX5_clear_6 (by decide) ?_
  refine va_put (D := D) (ci := 5) (v := .int 0) (ty := .int) (C := RX5) (T := TX5) (N := 9) hx hb hT iX5 tyX5 tyX5_ok nmX5 hown hK hP hD hS 12 rfl rfl 1 (by decide) (hT _ t_643) (fun _ h9 => h9) rfl (by decide +kernel) rfl rfl (Nat.le_of_ble_eq_true rfl) dX5_clear_7 (fun H locs hP hD hS => ?_)
  rw [zP7] at hP hD
  have hRi := Yi_upd hRi 7 0 ⟨by decide, by decide⟩
  have hEi := Ei_upd hEi 7 0 (by decide)
  subst hQ
  exact W.vret hx hb hr (fun t ht hW => ⟨⟨(upd (upd i 6 0) 7 0, r), rfl, ⟨hRi, hRr, hEi, hEr, trivial⟩, by rw [ht]; exact hP, va_K.moved hW.alike hK, hD⟩, hS.F ht⟩) hS.2.2 dX5_clear_10
set_option maxHeartbeats 4000000 in
set_option maxRecDepth 100000 in
theorem c_X5_isFull (l : Launch) (D : va_G) (cy : Nat → ClassId) (a : Nat → Nat) (i : Nat → Int32) (r : Nat → Nat → Int32) (q : Nat → Option Nat) (tl : va_W) (hRi : yRi i) (hRr : yRr r) : Met l yX5_isFull (Cond.code yX5_isFull cX5_isFull 1 (some .boolean) :: gT) { frames := 1, cells := 0, slots := 0, locals := 24 } (va_Pc [.ref (a 12)] (rP D cy (xW cy a i r q (a 20) (a 12) ++ tl))) (vp_Si (fun z => BR z (14 ≤ (i 6).toInt) 1 0)) 0 0 (fun _ => False) := by
  refine Met.ofQ (cc := cX5_isFull) (maxL := 1) (ret := (some .boolean)) (by decide) rfl ?_
  intro p e s m args below meth c s₁ B hml hv Q hQ
  obtain ⟨rfl, hP, hK⟩ := hv
  have hx := B.exec
  have hb := B.bytes
  have hr := B.returns
  have hlocks := B.notSynchronized
  have hT : ∀ w ∈ gT, w.before _ s = true := fun w h => atoms_spec (ws := (Cond.code yX5_isFull cX5_isFull 1 (some .boolean) :: gT)) B.pre w (List.mem_cons_of_mem _ h)
  have hown : s.vm.findClass RX5 = some m.cls := findClass_of_methodNamed B.named
  have hl := lv_entry ([.ref (a 12)]) (n := 1) (Nat.le_of_ble_eq_true rfl)
  rw [lg_entry_eq]
  generalize (lg_sl ([.ref (a 12)]) ++ List.replicate (1 - (lg_sl ([.ref (a 12)])).length) Slot.unset).toArray = ls at hl ⊢
  have hl : lv_has ls 1 [(0, .ref (a 12))] := hl
  have hEi : mEi [] i i := Ei_rf
  have hEr : mEr [] r r := Er_rf
  refine lv_aload_n hx hb dX5_isFull_0 rfl (lv_at hl 0 rfl) ?_
  refine va_get (D := D) (ci := 5) (v := .int (i 6)) (C := RX5) (T := TX5) (N := 9) hx hb hT iX5 hown hK hP 12 rfl rfl 0 (by decide) (hT _ t_370) (fun _ h9 => h9) rfl dX5_isFull_1 ?_
  have hg_1 : 0 ≤ (i 6).toInt ∧ (i 6).toInt ≤ 14 := hRi 6
  refine lv_bipush (v := 14) hx hb dX5_isFull_4 (by decide) ?_
  refine lv_icmp_lt (tgt := 13) hx hb dX5_isFull_6 (by decide) (fun c_2 => ?_) (fun c_2 => ?_)
  · have c_2 : (i 6).toInt < 14 := b_lt c_2
    refine lv_iconst (v := 0) hx hb dX5_isFull_13 (by decide) ?_
    subst hQ
    exact W.zret hx hb hr rfl (fun t ht hW => ⟨_, rfl, Or.inr ⟨rfl, by omega⟩, ht⟩) (fun q hq => absurd hq List.not_mem_nil) dX5_isFull_14
  · have c_2 : 14 ≤ (i 6).toInt := b_nlt c_2
    refine lv_iconst (v := 1) hx hb dX5_isFull_9 (by decide) ?_
    refine lv_goto (tgt := 14) hx hb dX5_isFull_10 (by decide) ?_
    subst hQ
    exact W.zret hx hb hr rfl (fun t ht hW => ⟨_, rfl, Or.inl ⟨rfl, by omega⟩, ht⟩) (fun q hq => absurd hq List.not_mem_nil) dX5_isFull_14
set_option maxHeartbeats 4000000 in
set_option maxRecDepth 100000 in
theorem c_X5_beginClause (l : Launch) (D : va_G) (cy : Nat → ClassId) (a : Nat → Nat) (i : Nat → Int32) (r : Nat → Nat → Int32) (q : Nat → Option Nat) (tl : va_W) (p0 : Int32) (sz : Nat) (hRi : yRi i) (hRr : yRr r) : Met l yX5_beginClause (Cond.code yX5_beginClause cX5_beginClause 2 none :: gT) { frames := 2, cells := 0, slots := 0, locals := 44 } (va_Pc [.ref (a 12), .int p0] (rQ D cy (xW cy a i r q (a 20) (a 12) ++ tl) sz)) (va_Qv (fun u : Nat → Nat → Int32 => yRr u ∧ mEr [13, 14] r u ∧ True) (fun (u : Nat → Nat → Int32) t => va_P D vwCl (xW cy a i u q (a 20) (a 12) ++ tl) t.heap ∧ va_K D vwCl (vT cy) t ∧ va_D (va_A (xW cy a i r q (a 20) (a 12) ++ tl) sz) (xW cy a i u q (a 20) (a 12) ++ tl)) (va_A (xW cy a i r q (a 20) (a 12) ++ tl) sz)) 0 0 (va_A (xW cy a i r q (a 20) (a 12) ++ tl) sz) := by
  refine Met.ofQ (cc := cX5_beginClause) (maxL := 2) (ret := none) (by decide) rfl ?_
  intro p e s m args below meth c s₁ B hml hv Q hQ
  obtain ⟨rfl, hsz, hP, hK, hD0⟩ := hv
  have hx := B.exec
  have hb := B.bytes
  have hr := B.returns
  have hlocks := B.notSynchronized
  have hT : ∀ w ∈ gT, w.before _ s = true := fun w h => atoms_spec (ws := (Cond.code yX5_beginClause cX5_beginClause 2 none :: gT)) B.pre w (List.mem_cons_of_mem _ h)
  have hown : s.vm.findClass RX5 = some m.cls := findClass_of_methodNamed B.named
  subst hsz
  have hD := hD0.self (sz := s.heap.size)
  generalize hAe : va_A (xW cy a i r q (a 20) (a 12) ++ tl) s.heap.size = A at hD hQ
  have hA : ∀ q : Nat, s.heap.size ≤ q → A q := fun q h => by rw [← hAe]; exact Or.inr h
  have hS : va_S A s.heap s.heap [] := va_S.rf
  have hl := lv_entry ([.ref (a 12), .int p0]) (n := 2) (Nat.le_of_ble_eq_true rfl)
  rw [lg_entry_eq]
  generalize (lg_sl ([.ref (a 12), .int p0]) ++ List.replicate (2 - (lg_sl ([.ref (a 12), .int p0])).length) Slot.unset).toArray = ls at hl ⊢
  have hl : lv_has ls 2 [(0, .ref (a 12)), (1, .int p0)] := hl
  have hEi : mEi [] i i := Ei_rf
  have hEr : mEr [13, 14] r r := Er_rf
  refine lv_aload_n hx hb dX5_beginClause_0 rfl (lv_at hl 0 rfl) ?_
  refine vp_callSi (W.runV (As := []) (rest := []) ⟨hx, hb, hml, hown, hT⟩ (c_X5_isFull l D cy a i r q tl hRi hRr) (cwV 0 hT (gV t_644 t_645 t_646 t_647 t_367) rfl rfl rfl (by decide +kernel) ⟨Nat.le_of_ble_eq_true rfl, Nat.le_of_ble_eq_true rfl⟩) (rP_v hP hK (va_recv hK hP (ci := 5) (q0 := 12) rfl rfl)) rfl rfl hl.1 rfl (lv_room (Nat.le_of_ble_eq_true rfl)) dX5_beginClause_1 ⟨Nat.le_of_ble_eq_true rfl, Nat.le_of_ble_eq_true rfl⟩) (fun r_1 hr_1 => ?_)
  have hg_2 : 0 ≤ (i 6).toInt ∧ (i 6).toInt ≤ 14 := hRi 6
  have hr_1 : BR r_1 (14 ≤ (i 6).toInt) 1 0 := hr_1
  rcases hr_1 with ⟨rfl, h_3⟩ | ⟨rfl, h_3⟩
  · skip
    refine lv_if_ne (tgt := 30) hx hb dX5_beginClause_4 (by decide) (fun c_4 => ?_) (fun c_4 => absurd c_4 (by decide))
    subst hQ
    exact W.vret hx hb hr (fun t ht hW => ⟨⟨r, rfl, ⟨hRr, hEr, trivial⟩, by rw [ht]; exact hP, va_K.moved hW.alike hK, hD⟩, hS.F ht⟩) hS.2.2 dX5_beginClause_30
  · skip
    refine lv_if_ne (tgt := 30) hx hb dX5_beginClause_4 (by decide) (fun c_5 => absurd (by decide) c_5) (fun c_5 => ?_)
    refine lv_aload_n hx hb dX5_beginClause_7 rfl (lv_at hl 0 rfl) ?_
    refine va_get (D := D) (ci := 5) (v := .ref (a 13)) (C := RX5) (T := TX5) (N := 9) hx hb hT iX5 hown hK hP 12 rfl rfl 2 (by decide) (hT _ t_371) (fun _ h9 => h9) rfl dX5_beginClause_8 ?_
    refine lv_aload_n hx hb dX5_beginClause_11 rfl (lv_at hl 0 rfl) ?_
    refine va_get (D := D) (ci := 5) (v := .int (i 6)) (C := RX5) (T := TX5) (N := 9) hx hb hT iX5 hown hK hP 12 rfl rfl 0 (by decide) (hT _ t_370) (fun _ h9 => h9) rfl dX5_beginClause_12 ?_
    refine lv_iload_n hx hb dX5_beginClause_15 rfl (lv_at hl 1 rfl) ?_
    refine va_iast hx hb hK hP hD hS 13 0 rfl rfl (vp_inI (by omega) (by omega)) dX5_beginClause_16 (fun H locs hP hD hS => ?_)
    rw [zS13] at hP hD
    have hRr : yRr (va_up r 13 (upd (r 13) ((i 6).toNatClampNeg) p0)) := Yr_upd hRr 13 ((i 6).toNatClampNeg) p0 (b_rg _)
    have hEr : mEr [13, 14] _ (va_up r 13 (upd (r 13) ((i 6).toNatClampNeg) p0)) := Er_up hEr 13 _ (by decide)
    refine lv_aload_n hx hb dX5_beginClause_17 rfl (lv_at hl 0 rfl) ?_
    refine va_get (D := D) (ci := 5) (v := .ref (a 14)) (C := RX5) (T := TX5) (N := 9) hx hb hT iX5 hown hK hP 12 rfl rfl 3 (by decide) (hT _ t_378) (fun _ h9 => h9) rfl dX5_beginClause_18 ?_
    refine lv_aload_n hx hb dX5_beginClause_21 rfl (lv_at hl 0 rfl) ?_
    refine va_get (D := D) (ci := 5) (v := .int (i 6)) (C := RX5) (T := TX5) (N := 9) hx hb hT iX5 hown hK hP 12 rfl rfl 0 (by decide) (hT _ t_370) (fun _ h9 => h9) rfl dX5_beginClause_22 ?_
    refine lv_aload_n hx hb dX5_beginClause_25 rfl (lv_at hl 0 rfl) ?_
    refine va_get (D := D) (ci := 5) (v := .int (i 7)) (C := RX5) (T := TX5) (N := 9) hx hb hT iX5 hown hK hP 12 rfl rfl 1 (by decide) (hT _ t_643) (fun _ h9 => h9) rfl dX5_beginClause_26 ?_
    have hg_6 : 0 ≤ (i 7).toInt ∧ (i 7).toInt ≤ 200 := hRi 7
    refine va_iast hx hb hK hP hD hS 14 0 rfl rfl (vp_inI (by omega) (by omega)) dX5_beginClause_29 (fun H locs hP hD hS => ?_)
    rw [zS14] at hP hD
    have hRr : yRr (va_up (va_up r 13 (upd (r 13) ((i 6).toNatClampNeg) p0)) 14 (upd (r 14) ((i 6).toNatClampNeg) (i 7))) := Yr_upd hRr 14 ((i 6).toNatClampNeg) (i 7) ⟨by show (0 : Int) ≤ (i 7).toInt; omega, by show (i 7).toInt ≤ (200 : Int); omega⟩
    have hEr : mEr [13, 14] _ (va_up (va_up r 13 (upd (r 13) ((i 6).toNatClampNeg) p0)) 14 (upd (r 14) ((i 6).toNatClampNeg) (i 7))) := Er_up hEr 14 _ (by decide)
    subst hQ
    exact W.vret hx hb hr (fun t ht hW => ⟨⟨(va_up (va_up r 13 (upd (r 13) ((i 6).toNatClampNeg) p0)) 14 (upd (r 14) ((i 6).toNatClampNeg) (i 7))), rfl, ⟨hRr, hEr, trivial⟩, by rw [ht]; exact hP, va_K.moved hW.alike hK, hD⟩, hS.F ht⟩) hS.2.2 dX5_beginClause_30
set_option maxHeartbeats 4000000 in
set_option maxRecDepth 100000 in
theorem c_X5_beginTest (l : Launch) (D : va_G) (cy : Nat → ClassId) (a : Nat → Nat) (i : Nat → Int32) (r : Nat → Nat → Int32) (q : Nat → Option Nat) (tl : va_W) (sz : Nat) (hRi : yRi i) (hRr : yRr r) : Met l yX5_beginTest (Cond.code yX5_beginTest cX5_beginTest 1 none :: gT) { frames := 2, cells := 0, slots := 0, locals := 44 } (va_Pc [.ref (a 12)] (rQ D cy (xW cy a i r q (a 20) (a 12) ++ tl) sz)) (va_Qv (fun u : Nat → Nat → Int32 => yRr u ∧ mEr [15] r u ∧ True) (fun (u : Nat → Nat → Int32) t => va_P D vwCl (xW cy a i u q (a 20) (a 12) ++ tl) t.heap ∧ va_K D vwCl (vT cy) t ∧ va_D (va_A (xW cy a i r q (a 20) (a 12) ++ tl) sz) (xW cy a i u q (a 20) (a 12) ++ tl)) (va_A (xW cy a i r q (a 20) (a 12) ++ tl) sz)) 0 0 (va_A (xW cy a i r q (a 20) (a 12) ++ tl) sz) := by
  refine Met.ofQ (cc := cX5_beginTest) (maxL := 1) (ret := none) (by decide) rfl ?_
  intro p e s m args below meth c s₁ B hml hv Q hQ
  obtain ⟨rfl, hsz, hP, hK, hD0⟩ := hv
  have hx := B.exec
  have hb := B.bytes
  have hr := B.returns
  have hlocks := B.notSynchronized
  have hT : ∀ w ∈ gT, w.before _ s = true := fun w h => atoms_spec (ws := (Cond.code yX5_beginTest cX5_beginTest 1 none :: gT)) B.pre w (List.mem_cons_of_mem _ h)
  have hown : s.vm.findClass RX5 = some m.cls := findClass_of_methodNamed B.named
  subst hsz
  have hD := hD0.self (sz := s.heap.size)
  generalize hAe : va_A (xW cy a i r q (a 20) (a 12) ++ tl) s.heap.size = A at hD hQ
  have hA : ∀ q : Nat, s.heap.size ≤ q → A q := fun q h => by rw [← hAe]; exact Or.inr h
  have hS : va_S A s.heap s.heap [] := va_S.rf
  have hl := lv_entry ([.ref (a 12)]) (n := 1) (Nat.le_of_ble_eq_true rfl)
  rw [lg_entry_eq]
  generalize (lg_sl ([.ref (a 12)]) ++ List.replicate (1 - (lg_sl ([.ref (a 12)])).length) Slot.unset).toArray = ls at hl ⊢
  have hl : lv_has ls 1 [(0, .ref (a 12))] := hl
  have hEi : mEi [] i i := Ei_rf
  have hEr : mEr [15] r r := Er_rf
  refine lv_aload_n hx hb dX5_beginTest_0 rfl (lv_at hl 0 rfl) ?_
  refine vp_callSi (W.runV (As := []) (rest := []) ⟨hx, hb, hml, hown, hT⟩ (c_X5_isFull l D cy a i r q tl hRi hRr) (cwV 0 hT (gV t_644 t_645 t_646 t_647 t_367) rfl rfl rfl (by decide +kernel) ⟨Nat.le_of_ble_eq_true rfl, Nat.le_of_ble_eq_true rfl⟩) (rP_v hP hK (va_recv hK hP (ci := 5) (q0 := 12) rfl rfl)) rfl rfl hl.1 rfl (lv_room (Nat.le_of_ble_eq_true rfl)) dX5_beginTest_1 ⟨Nat.le_of_ble_eq_true rfl, Nat.le_of_ble_eq_true rfl⟩) (fun r_1 hr_1 => ?_)
  have hg_2 : 0 ≤ (i 6).toInt ∧ (i 6).toInt ≤ 14 := hRi 6
  have hr_1 : BR r_1 (14 ≤ (i 6).toInt) 1 0 := hr_1
  rcases hr_1 with ⟨rfl, h_3⟩ | ⟨rfl, h_3⟩
  · skip
    refine lv_if_ne (tgt := 20) hx hb dX5_beginTest_4 (by decide) (fun c_4 => ?_) (fun c_4 => absurd c_4 (by decide))
    subst hQ
    exact W.vret hx hb hr (fun t ht hW => ⟨⟨r, rfl, ⟨hRr, hEr, trivial⟩, by rw [ht]; exact hP, va_K.moved hW.alike hK, hD⟩, hS.F ht⟩) hS.2.2 dX5_beginTest_20
  · skip
    refine lv_if_ne (tgt := 20) hx hb dX5_beginTest_4 (by decide) (fun c_5 => absurd (by decide) c_5) (fun c_5 => ?_)
    refine lv_aload_n hx hb dX5_beginTest_7 rfl (lv_at hl 0 rfl) ?_
    refine va_get (D := D) (ci := 5) (v := .ref (a 15)) (C := RX5) (T := TX5) (N := 9) hx hb hT iX5 hown hK hP 12 rfl rfl 4 (by decide) (hT _ t_372) (fun _ h9 => h9) rfl dX5_beginTest_8 ?_
    refine lv_aload_n hx hb dX5_beginTest_11 rfl (lv_at hl 0 rfl) ?_
    refine va_get (D := D) (ci := 5) (v := .int (i 6)) (C := RX5) (T := TX5) (N := 9) hx hb hT iX5 hown hK hP 12 rfl rfl 0 (by decide) (hT _ t_370) (fun _ h9 => h9) rfl dX5_beginTest_12 ?_
    refine lv_aload_n hx hb dX5_beginTest_15 rfl (lv_at hl 0 rfl) ?_
    refine va_get (D := D) (ci := 5) (v := .int (i 7)) (C := RX5) (T := TX5) (N := 9) hx hb hT iX5 hown hK hP 12 rfl rfl 1 (by decide) (hT _ t_643) (fun _ h9 => h9) rfl dX5_beginTest_16 ?_
    have hg_6 : 0 ≤ (i 7).toInt ∧ (i 7).toInt ≤ 200 := hRi 7
    refine va_iast hx hb hK hP hD hS 15 0 rfl rfl (vp_inI (by omega) (by omega)) dX5_beginTest_19 (fun H locs hP hD hS => ?_)
    rw [zS15] at hP hD
    have hRr : yRr (va_up r 15 (upd (r 15) ((i 6).toNatClampNeg) (i 7))) := Yr_upd hRr 15 ((i 6).toNatClampNeg) (i 7) ⟨by show (0 : Int) ≤ (i 7).toInt; omega, by show (i 7).toInt ≤ (200 : Int); omega⟩
    have hEr : mEr [15] _ (va_up r 15 (upd (r 15) ((i 6).toNatClampNeg) (i 7))) := Er_up hEr 15 _ (by decide)
    subst hQ
    exact W.vret hx hb hr (fun t ht hW => ⟨⟨(va_up r 15 (upd (r 15) ((i 6).toNatClampNeg) (i 7))), rfl, ⟨hRr, hEr, trivial⟩, by rw [ht]; exact hP, va_K.moved hW.alike hK, hD⟩, hS.F ht⟩) hS.2.2 dX5_beginTest_20
set_option maxHeartbeats 4000000 in
set_option maxRecDepth 100000 in
theorem c_X5_endClause (l : Launch) (D : va_G) (cy : Nat → ClassId) (a : Nat → Nat) (i : Nat → Int32) (r : Nat → Nat → Int32) (q : Nat → Option Nat) (tl : va_W) (sz : Nat) (hRi : yRi i) (hRr : yRr r) : Met l yX5_endClause (Cond.code yX5_endClause cX5_endClause 1 none :: gT) { frames := 2, cells := 0, slots := 0, locals := 44 } (va_Pc [.ref (a 12)] (rQ D cy (xW cy a i r q (a 20) (a 12) ++ tl) sz)) (va_Qv (fun u : (Nat → Int32) × (Nat → Nat → Int32) => yRi u.1 ∧ yRr u.2 ∧ mEi [6] i u.1 ∧ mEr [16] r u.2 ∧ True) (fun (u : (Nat → Int32) × (Nat → Nat → Int32)) t => va_P D vwCl (xW cy a u.1 u.2 q (a 20) (a 12) ++ tl) t.heap ∧ va_K D vwCl (vT cy) t ∧ va_D (va_A (xW cy a i r q (a 20) (a 12) ++ tl) sz) (xW cy a u.1 u.2 q (a 20) (a 12) ++ tl)) (va_A (xW cy a i r q (a 20) (a 12) ++ tl) sz)) 0 0 (va_A (xW cy a i r q (a 20) (a 12) ++ tl) sz) := by
  refine Met.ofQ (cc := cX5_endClause) (maxL := 1) (ret := none) (by decide) rfl ?_
  intro p e s m args below meth c s₁ B hml hv Q hQ
  obtain ⟨rfl, hsz, hP, hK, hD0⟩ := hv
  have hx := B.exec
  have hb := B.bytes
  have hr := B.returns
  have hlocks := B.notSynchronized
  have hT : ∀ w ∈ gT, w.before _ s = true := fun w h => atoms_spec (ws := (Cond.code yX5_endClause cX5_endClause 1 none :: gT)) B.pre w (List.mem_cons_of_mem _ h)
  have hown : s.vm.findClass RX5 = some m.cls := findClass_of_methodNamed B.named
  subst hsz
  have hD := hD0.self (sz := s.heap.size)
  generalize hAe : va_A (xW cy a i r q (a 20) (a 12) ++ tl) s.heap.size = A at hD hQ
  have hA : ∀ q : Nat, s.heap.size ≤ q → A q := fun q h => by rw [← hAe]; exact Or.inr h
  have hS : va_S A s.heap s.heap [] := va_S.rf
  have hl := lv_entry ([.ref (a 12)]) (n := 1) (Nat.le_of_ble_eq_true rfl)
  rw [lg_entry_eq]
  generalize (lg_sl ([.ref (a 12)]) ++ List.replicate (1 - (lg_sl ([.ref (a 12)])).length) Slot.unset).toArray = ls at hl ⊢
  have hl : lv_has ls 1 [(0, .ref (a 12))] := hl
  have hEi : mEi [6] i i := Ei_rf
  have hEr : mEr [16] r r := Er_rf
  refine lv_aload_n hx hb dX5_endClause_0 rfl (lv_at hl 0 rfl) ?_
  refine vp_callSi (W.runV (As := []) (rest := []) ⟨hx, hb, hml, hown, hT⟩ (c_X5_isFull l D cy a i r q tl hRi hRr) (cwV 0 hT (gV t_644 t_645 t_646 t_647 t_367) rfl rfl rfl (by decide +kernel) ⟨Nat.le_of_ble_eq_true rfl, Nat.le_of_ble_eq_true rfl⟩) (rP_v hP hK (va_recv hK hP (ci := 5) (q0 := 12) rfl rfl)) rfl rfl hl.1 rfl (lv_room (Nat.le_of_ble_eq_true rfl)) dX5_endClause_1 ⟨Nat.le_of_ble_eq_true rfl, Nat.le_of_ble_eq_true rfl⟩) (fun r_1 hr_1 => ?_)
  have hg_2 : 0 ≤ (i 6).toInt ∧ (i 6).toInt ≤ 14 := hRi 6
  have hr_1 : BR r_1 (14 ≤ (i 6).toInt) 1 0 := hr_1
  rcases hr_1 with ⟨rfl, h_3⟩ | ⟨rfl, h_3⟩
  · skip
    refine lv_if_ne (tgt := 30) hx hb dX5_endClause_4 (by decide) (fun c_4 => ?_) (fun c_4 => absurd c_4 (by decide))
    subst hQ
    exact W.vret hx hb hr (fun t ht hW => ⟨⟨(i, r), rfl, ⟨hRi, hRr, hEi, hEr, trivial⟩, by rw [ht]; exact hP, va_K.moved hW.alike hK, hD⟩, hS.F ht⟩) hS.2.2 dX5_endClause_30
  · skip
    refine lv_if_ne (tgt := 30) hx hb dX5_endClause_4 (by decide) (fun c_5 => absurd (by decide) c_5) (fun c_5 => ?_)
    refine lv_aload_n hx hb dX5_endClause_7 rfl (lv_at hl 0 rfl) ?_
    refine va_get (D := D) (ci := 5) (v := .ref (a 16)) (C := RX5) (T := TX5) (N := 9) hx hb hT iX5 hown hK hP 12 rfl rfl 5 (by decide) (hT _ t_373) (fun _ h9 => h9) rfl dX5_endClause_8 ?_
    refine lv_aload_n hx hb dX5_endClause_11 rfl (lv_at hl 0 rfl) ?_
    refine va_get (D := D) (ci := 5) (v := .int (i 6)) (C := RX5) (T := TX5) (N := 9) hx hb hT iX5 hown hK hP 12 rfl rfl 0 (by decide) (hT _ t_370) (fun _ h9 => h9) rfl dX5_endClause_12 ?_
    refine lv_aload_n hx hb dX5_endClause_15 rfl (lv_at hl 0 rfl) ?_
    refine va_get (D := D) (ci := 5) (v := .int (i 7)) (C := RX5) (T := TX5) (N := 9) hx hb hT iX5 hown hK hP 12 rfl rfl 1 (by decide) (hT _ t_643) (fun _ h9 => h9) rfl dX5_endClause_16 ?_
    have hg_6 : 0 ≤ (i 7).toInt ∧ (i 7).toInt ≤ 200 := hRi 7
    refine va_iast hx hb hK hP hD hS 16 0 rfl rfl (vp_inI (by omega) (by omega)) dX5_endClause_19 (fun H locs hP hD hS => ?_)
    rw [zS16] at hP hD
    have hRr : yRr (va_up r 16 (upd (r 16) ((i 6).toNatClampNeg) (i 7))) := Yr_upd hRr 16 ((i 6).toNatClampNeg) (i 7) ⟨by show (0 : Int) ≤ (i 7).toInt; omega, by show (i 7).toInt ≤ (200 : Int); omega⟩
    have hEr : mEr [16] _ (va_up r 16 (upd (r 16) ((i 6).toNatClampNeg) (i 7))) := Er_up hEr 16 _ (by decide)
    refine lv_aload_n hx hb dX5_endClause_20 rfl (lv_at hl 0 rfl) ?_
    refine lv_dup hx hb dX5_endClause_21 rfl ?_
    refine va_get (D := D) (ci := 5) (v := .int (i 6)) (C := RX5) (T := TX5) (N := 9) hx hb hT iX5 hown hK hP 12 rfl rfl 0 (by decide) (hT _ t_370) (fun _ h9 => h9) rfl dX5_endClause_22 ?_
    refine lv_iconst (v := 1) hx hb dX5_endClause_25 (by decide) ?_
    refine lv_iadd hx hb dX5_endClause_26 ?_
    refine lv_topi (fun v_7 ev_7 => ?_)
    have hv_7 : v_7.toInt = (i 6).toInt + 1 := by rw [ev_7]; have := b_rg (i 6); exact i_add (a := (i 6).toInt) (b := 1) rfl rfl (by omega) (by omega)
    refine va_put (D := D) (ci := 5) (v := .int v_7) (ty := .int) (C := RX5) (T := TX5) (N := 9) hx hb hT iX5 tyX5 tyX5_ok nmX5 hown hK hP hD hS 12 rfl rfl 0 (by decide) (hT _ t_370) (fun _ h9 => h9) rfl (by decide +kernel) rfl rfl (Nat.le_of_ble_eq_true rfl) dX5_endClause_27 (fun H locs hP hD hS => ?_)
    rw [zP6] at hP hD
    have hRi := Yi_upd hRi 6 v_7 ⟨by show (0 : Int) ≤ v_7.toInt; omega, by show v_7.toInt ≤ (14 : Int); omega⟩
    have hEi := Ei_upd hEi 6 v_7 (by decide)
    subst hQ
    exact W.vret hx hb hr (fun t ht hW => ⟨⟨(upd i 6 v_7, va_up r 16 (upd (r 16) ((i 6).toNatClampNeg) (i 7))), rfl, ⟨hRi, hRr, hEi, hEr, trivial⟩, by rw [ht]; exact hP, va_K.moved hW.alike hK, hD⟩, hS.F ht⟩) hS.2.2 dX5_endClause_30
set_option maxHeartbeats 4000000 in
set_option maxRecDepth 100000 in
theorem c_X5_add (l : Launch) (D : va_G) (cy : Nat → ClassId) (a : Nat → Nat) (i : Nat → Int32) (r : Nat → Nat → Int32) (q : Nat → Option Nat) (tl : va_W) (p0 p1 : Int32) (sz : Nat) (hRi : yRi i) (hRr : yRr r) : Met l yX5_add (Cond.code yX5_add cX5_add 3 (some .int) :: gT) { frames := 1, cells := 0, slots := 0, locals := 24 } (va_Pc [.ref (a 12), .int p0, .int p1] (rQ D cy (xW cy a i r q (a 20) (a 12) ++ tl) sz)) (va_Qi (fun (z : Int32) (u : (Nat → Int32) × (Nat → Nat → Int32)) => yRi u.1 ∧ yRr u.2 ∧ mEi [7] i u.1 ∧ mEr [17, 18] r u.2 ∧ True) (fun (u : (Nat → Int32) × (Nat → Nat → Int32)) t => va_P D vwCl (xW cy a u.1 u.2 q (a 20) (a 12) ++ tl) t.heap ∧ va_K D vwCl (vT cy) t ∧ va_D (va_A (xW cy a i r q (a 20) (a 12) ++ tl) sz) (xW cy a u.1 u.2 q (a 20) (a 12) ++ tl)) (va_A (xW cy a i r q (a 20) (a 12) ++ tl) sz)) 0 0 (va_A (xW cy a i r q (a 20) (a 12) ++ tl) sz) := by
  refine Met.ofQ (cc := cX5_add) (maxL := 3) (ret := (some .int)) (by decide) rfl ?_
  intro p e s m args below meth c s₁ B hml hv Q hQ
  obtain ⟨rfl, hsz, hP, hK, hD0⟩ := hv
  have hx := B.exec
  have hb := B.bytes
  have hr := B.returns
  have hlocks := B.notSynchronized
  have hT : ∀ w ∈ gT, w.before _ s = true := fun w h => atoms_spec (ws := (Cond.code yX5_add cX5_add 3 (some .int) :: gT)) B.pre w (List.mem_cons_of_mem _ h)
  have hown : s.vm.findClass RX5 = some m.cls := findClass_of_methodNamed B.named
  subst hsz
  have hD := hD0.self (sz := s.heap.size)
  generalize hAe : va_A (xW cy a i r q (a 20) (a 12) ++ tl) s.heap.size = A at hD hQ
  have hA : ∀ q : Nat, s.heap.size ≤ q → A q := fun q h => by rw [← hAe]; exact Or.inr h
  have hS : va_S A s.heap s.heap [] := va_S.rf
  have hl := lv_entry ([.ref (a 12), .int p0, .int p1]) (n := 3) (Nat.le_of_ble_eq_true rfl)
  rw [lg_entry_eq]
  generalize (lg_sl ([.ref (a 12), .int p0, .int p1]) ++ List.replicate (3 - (lg_sl ([.ref (a 12), .int p0, .int p1])).length) Slot.unset).toArray = ls at hl ⊢
  have hl : lv_has ls 3 [(0, .ref (a 12)), (1, .int p0), (2, .int p1)] := hl
  have hEi : mEi [7] i i := Ei_rf
  have hEr : mEr [17, 18] r r := Er_rf
  refine lv_aload_n hx hb dX5_add_0 rfl (lv_at hl 0 rfl) ?_
  refine va_get (D := D) (ci := 5) (v := .int (i 7)) (C := RX5) (T := TX5) (N := 9) hx hb hT iX5 hown hK hP 12 rfl rfl 1 (by decide) (hT _ t_643) (fun _ h9 => h9) rfl dX5_add_1 ?_
  have hg_1 : 0 ≤ (i 7).toInt ∧ (i 7).toInt ≤ 200 := hRi 7
  refine lv_sipush (v := 200) hx hb dX5_add_4 (by decide) ?_
  refine lv_icmp_lt (tgt := 12) hx hb dX5_add_7 (by decide) (fun c_2 => ?_) (fun c_2 => ?_)
  · have c_2 : (i 7).toInt < 200 := b_lt c_2
    refine lv_aload_n hx hb dX5_add_12 rfl (lv_at hl 0 rfl) ?_
    refine va_get (D := D) (ci := 5) (v := .ref (a 17)) (C := RX5) (T := TX5) (N := 9) hx hb hT iX5 hown hK hP 12 rfl rfl 6 (by decide) (hT _ t_364) (fun _ h9 => h9) rfl dX5_add_13 ?_
    refine lv_aload_n hx hb dX5_add_16 rfl (lv_at hl 0 rfl) ?_
    refine va_get (D := D) (ci := 5) (v := .int (i 7)) (C := RX5) (T := TX5) (N := 9) hx hb hT iX5 hown hK hP 12 rfl rfl 1 (by decide) (hT _ t_643) (fun _ h9 => h9) rfl dX5_add_17 ?_
    refine lv_iload_n hx hb dX5_add_20 rfl (lv_at hl 1 rfl) ?_
    refine va_iast hx hb hK hP hD hS 17 0 rfl rfl (vp_inI (by omega) (by omega)) dX5_add_21 (fun H locs hP hD hS => ?_)
    rw [zS17] at hP hD
    have hRr : yRr (va_up r 17 (upd (r 17) ((i 7).toNatClampNeg) p0)) := Yr_upd hRr 17 ((i 7).toNatClampNeg) p0 (b_rg _)
    have hEr : mEr [17, 18] _ (va_up r 17 (upd (r 17) ((i 7).toNatClampNeg) p0)) := Er_up hEr 17 _ (by decide)
    refine lv_aload_n hx hb dX5_add_22 rfl (lv_at hl 0 rfl) ?_
    refine va_get (D := D) (ci := 5) (v := .ref (a 18)) (C := RX5) (T := TX5) (N := 9) hx hb hT iX5 hown hK hP 12 rfl rfl 7 (by decide) (hT _ t_365) (fun _ h9 => h9) rfl dX5_add_23 ?_
    refine lv_aload_n hx hb dX5_add_26 rfl (lv_at hl 0 rfl) ?_
    refine va_get (D := D) (ci := 5) (v := .int (i 7)) (C := RX5) (T := TX5) (N := 9) hx hb hT iX5 hown hK hP 12 rfl rfl 1 (by decide) (hT _ t_643) (fun _ h9 => h9) rfl dX5_add_27 ?_
    refine lv_iload_n hx hb dX5_add_30 rfl (lv_at hl 2 rfl) ?_
    refine va_iast hx hb hK hP hD hS 18 0 rfl rfl (vp_inI (by omega) (by omega)) dX5_add_31 (fun H locs hP hD hS => ?_)
    rw [zS18] at hP hD
    have hRr : yRr (va_up (va_up r 17 (upd (r 17) ((i 7).toNatClampNeg) p0)) 18 (upd (r 18) ((i 7).toNatClampNeg) p1)) := Yr_upd hRr 18 ((i 7).toNatClampNeg) p1 (b_rg _)
    have hEr : mEr [17, 18] _ (va_up (va_up r 17 (upd (r 17) ((i 7).toNatClampNeg) p0)) 18 (upd (r 18) ((i 7).toNatClampNeg) p1)) := Er_up hEr 18 _ (by decide)
    refine lv_aload_n hx hb dX5_add_32 rfl (lv_at hl 0 rfl) ?_
    refine lv_dup hx hb dX5_add_33 rfl ?_
    refine va_get (D := D) (ci := 5) (v := .int (i 7)) (C := RX5) (T := TX5) (N := 9) hx hb hT iX5 hown hK hP 12 rfl rfl 1 (by decide) (hT _ t_643) (fun _ h9 => h9) rfl dX5_add_34 ?_
    refine lv_iconst (v := 1) hx hb dX5_add_37 (by decide) ?_
    refine lv_iadd hx hb dX5_add_38 ?_
    refine lv_topi (fun v_3 ev_3 => ?_)
    have hv_3 : v_3.toInt = (i 7).toInt + 1 := by rw [ev_3]; have := b_rg (i 7); exact i_add (a := (i 7).toInt) (b := 1) rfl rfl (by omega) (by omega)
    refine va_put (D := D) (ci := 5) (v := .int v_3) (ty := .int) (C := RX5) (T := TX5) (N := 9) hx hb hT iX5 tyX5 tyX5_ok nmX5 hown hK hP hD hS 12 rfl rfl 1 (by decide) (hT _ t_643) (fun _ h9 => h9) rfl (by decide +kernel) rfl rfl (Nat.le_of_ble_eq_true rfl) dX5_add_39 (fun H locs hP hD hS => ?_)
    rw [zP7] at hP hD
    have hRi := Yi_upd hRi 7 v_3 ⟨by show (0 : Int) ≤ v_3.toInt; omega, by show v_3.toInt ≤ (200 : Int); omega⟩
    have hEi := Ei_upd hEi 7 v_3 (by decide)
    refine lv_aload_n hx hb dX5_add_42 rfl (lv_at hl 0 rfl) ?_
    refine va_get (D := D) (ci := 5) (v := .int v_3) (C := RX5) (T := TX5) (N := 9) hx hb hT iX5 hown hK hP 12 rfl rfl 1 (by decide) (hT _ t_643) (fun _ h9 => h9) rfl dX5_add_43 ?_
    refine lv_iconst (v := 1) hx hb dX5_add_46 (by decide) ?_
    refine lv_isub hx hb dX5_add_47 ?_
    refine lv_topi (fun v_4 ev_4 => ?_)
    have hv_4 : v_4.toInt = v_3.toInt - 1 := by rw [ev_4]; have := b_rg v_3; exact i_sub (a := v_3.toInt) (b := 1) rfl rfl (by omega) (by omega)
    subst hQ
    exact W.iret (v := v_4) hx hb hr (fun t ht hW => ⟨⟨_, (upd i 7 v_3, va_up (va_up r 17 (upd (r 17) ((i 7).toNatClampNeg) p0)) 18 (upd (r 18) ((i 7).toNatClampNeg) p1)), rfl, ⟨hRi, hRr, hEi, hEr, trivial⟩, by rw [ht]; exact hP, va_K.moved hW.alike hK, hD⟩, hS.F ht⟩) hS.2.2 dX5_add_48
  · have c_2 : 200 ≤ (i 7).toInt := b_nlt c_2
    refine lv_iconst (v := (-1)) hx hb dX5_add_10 (by decide) ?_
    subst hQ
    exact W.iret (v := (-1)) hx hb hr (fun t ht hW => ⟨⟨_, (i, r), rfl, ⟨hRi, hRr, hEi, hEr, trivial⟩, by rw [ht]; exact hP, va_K.moved hW.alike hK, hD⟩, hS.F ht⟩) hS.2.2 dX5_add_11
set_option maxHeartbeats 4000000 in
set_option maxRecDepth 100000 in
theorem c_X5_aim (l : Launch) (D : va_G) (cy : Nat → ClassId) (a : Nat → Nat) (i : Nat → Int32) (r : Nat → Nat → Int32) (q : Nat → Option Nat) (tl : va_W) (p0 : Int32) (sz : Nat) (hRi : yRi i) (hRr : yRr r) : Met l yX5_aim (Cond.code yX5_aim cX5_aim 2 none :: gT) { frames := 1, cells := 0, slots := 0, locals := 24 } (va_Pc [.ref (a 12), .int p0] (rQ D cy (xW cy a i r q (a 20) (a 12) ++ tl) sz)) (va_Qv (fun u : Nat → Nat → Int32 => yRr u ∧ mEr [18] r u ∧ True) (fun (u : Nat → Nat → Int32) t => va_P D vwCl (xW cy a i u q (a 20) (a 12) ++ tl) t.heap ∧ va_K D vwCl (vT cy) t ∧ va_D (va_A (xW cy a i r q (a 20) (a 12) ++ tl) sz) (xW cy a i u q (a 20) (a 12) ++ tl)) (va_A (xW cy a i r q (a 20) (a 12) ++ tl) sz)) 0 0 (va_A (xW cy a i r q (a 20) (a 12) ++ tl) sz) := by
  refine Met.ofQ (cc := cX5_aim) (maxL := 2) (ret := none) (by decide) rfl ?_
  intro p e s m args below meth c s₁ B hml hv Q hQ
  obtain ⟨rfl, hsz, hP, hK, hD0⟩ := hv
  have hx := B.exec
  have hb := B.bytes
  have hr := B.returns
  have hlocks := B.notSynchronized
  have hT : ∀ w ∈ gT, w.before _ s = true := fun w h => atoms_spec (ws := (Cond.code yX5_aim cX5_aim 2 none :: gT)) B.pre w (List.mem_cons_of_mem _ h)
  have hown : s.vm.findClass RX5 = some m.cls := findClass_of_methodNamed B.named
  subst hsz
  have hD := hD0.self (sz := s.heap.size)
  generalize hAe : va_A (xW cy a i r q (a 20) (a 12) ++ tl) s.heap.size = A at hD hQ
  have hA : ∀ q : Nat, s.heap.size ≤ q → A q := fun q h => by rw [← hAe]; exact Or.inr h
  have hS : va_S A s.heap s.heap [] := va_S.rf
  have hl := lv_entry ([.ref (a 12), .int p0]) (n := 2) (Nat.le_of_ble_eq_true rfl)
  rw [lg_entry_eq]
  generalize (lg_sl ([.ref (a 12), .int p0]) ++ List.replicate (2 - (lg_sl ([.ref (a 12), .int p0])).length) Slot.unset).toArray = ls at hl ⊢
  have hl : lv_has ls 2 [(0, .ref (a 12)), (1, .int p0)] := hl
  have hEi : mEi [] i i := Ei_rf
  have hEr : mEr [18] r r := Er_rf
  refine lv_iload_n hx hb dX5_aim_0 rfl (lv_at hl 1 rfl) ?_
  refine lv_if_lt (tgt := 22) hx hb dX5_aim_1 (by decide) (fun c_1 => ?_) (fun c_1 => ?_)
  · have c_1 : p0.toInt < 0 := b_lt c_1
    subst hQ
    exact W.vret hx hb hr (fun t ht hW => ⟨⟨r, rfl, ⟨hRr, hEr, trivial⟩, by rw [ht]; exact hP, va_K.moved hW.alike hK, hD⟩, hS.F ht⟩) hS.2.2 dX5_aim_22
  · have c_1 : 0 ≤ p0.toInt := b_nlt c_1
    refine lv_iload_n hx hb dX5_aim_4 rfl (lv_at hl 1 rfl) ?_
    refine lv_aload_n hx hb dX5_aim_5 rfl (lv_at hl 0 rfl) ?_
    refine va_get (D := D) (ci := 5) (v := .int (i 7)) (C := RX5) (T := TX5) (N := 9) hx hb hT iX5 hown hK hP 12 rfl rfl 1 (by decide) (hT _ t_643) (fun _ h9 => h9) rfl dX5_aim_6 ?_
    have hg_2 : 0 ≤ (i 7).toInt ∧ (i 7).toInt ≤ 200 := hRi 7
    refine lv_icmp_ge (tgt := 22) hx hb dX5_aim_9 (by decide) (fun c_3 => ?_) (fun c_3 => ?_)
    · have c_3 : (i 7).toInt ≤ p0.toInt := b_le c_3
      subst hQ
      exact W.vret hx hb hr (fun t ht hW => ⟨⟨r, rfl, ⟨hRr, hEr, trivial⟩, by rw [ht]; exact hP, va_K.moved hW.alike hK, hD⟩, hS.F ht⟩) hS.2.2 dX5_aim_22
    · have c_3 : p0.toInt < (i 7).toInt := b_nle c_3
      refine lv_aload_n hx hb dX5_aim_12 rfl (lv_at hl 0 rfl) ?_
      refine va_get (D := D) (ci := 5) (v := .ref (a 18)) (C := RX5) (T := TX5) (N := 9) hx hb hT iX5 hown hK hP 12 rfl rfl 7 (by decide) (hT _ t_365) (fun _ h9 => h9) rfl dX5_aim_13 ?_
      refine lv_iload_n hx hb dX5_aim_16 rfl (lv_at hl 1 rfl) ?_
      refine lv_aload_n hx hb dX5_aim_17 rfl (lv_at hl 0 rfl) ?_
      refine va_get (D := D) (ci := 5) (v := .int (i 7)) (C := RX5) (T := TX5) (N := 9) hx hb hT iX5 hown hK hP 12 rfl rfl 1 (by decide) (hT _ t_643) (fun _ h9 => h9) rfl dX5_aim_18 ?_
      refine va_iast hx hb hK hP hD hS 18 0 rfl rfl (vp_inI (by omega) (by omega)) dX5_aim_21 (fun H locs hP hD hS => ?_)
      rw [zS18] at hP hD
      have hRr : yRr (va_up r 18 (upd (r 18) p0.toNatClampNeg (i 7))) := Yr_upd hRr 18 (p0.toNatClampNeg) (i 7) (b_rg _)
      have hEr : mEr [18] _ (va_up r 18 (upd (r 18) p0.toNatClampNeg (i 7))) := Er_up hEr 18 _ (by decide)
      subst hQ
      exact W.vret hx hb hr (fun t ht hW => ⟨⟨(va_up r 18 (upd (r 18) p0.toNatClampNeg (i 7))), rfl, ⟨hRr, hEr, trivial⟩, by rw [ht]; exact hP, va_K.moved hW.alike hK, hD⟩, hS.F ht⟩) hS.2.2 dX5_aim_22
set_option maxHeartbeats 4000000 in
set_option maxRecDepth 100000 in
theorem c_X6_peek (l : Launch) (D : va_G) (cy : Nat → ClassId) (a : Nat → Nat) (i : Nat → Int32) (r : Nat → Nat → Int32) (q : Nat → Option Nat) (tl : va_W) (hRi : yRi i) (hRr : yRr r) : Met l yX6_peek (Cond.code yX6_peek cX6_peek 1 (some .int) :: gT) { frames := 1, cells := 0, slots := 0, locals := 24 } (va_Pc [.ref (a 10)] (rP D cy (xW cy a i r q (a 20) (a 12) ++ tl))) (vp_Si (fun z => -1 ≤ z.toInt ∧ z.toInt ≤ 255)) 0 0 (fun _ => False) := by
  refine Met.ofQ (cc := cX6_peek) (maxL := 1) (ret := (some .int)) (by decide) rfl ?_
  intro p e s m args below meth c s₁ B hml hv Q hQ
  obtain ⟨rfl, hP, hK⟩ := hv
  have hx := B.exec
  have hb := B.bytes
  have hr := B.returns
  have hlocks := B.notSynchronized
  have hT : ∀ w ∈ gT, w.before _ s = true := fun w h => atoms_spec (ws := (Cond.code yX6_peek cX6_peek 1 (some .int) :: gT)) B.pre w (List.mem_cons_of_mem _ h)
  have hown : s.vm.findClass RX6 = some m.cls := findClass_of_methodNamed B.named
  have hl := lv_entry ([.ref (a 10)]) (n := 1) (Nat.le_of_ble_eq_true rfl)
  rw [lg_entry_eq]
  generalize (lg_sl ([.ref (a 10)]) ++ List.replicate (1 - (lg_sl ([.ref (a 10)])).length) Slot.unset).toArray = ls at hl ⊢
  have hl : lv_has ls 1 [(0, .ref (a 10))] := hl
  have hEi : mEi [] i i := Ei_rf
  have hEr : mEr [] r r := Er_rf
  refine lv_aload_n hx hb dX6_peek_0 rfl (lv_at hl 0 rfl) ?_
  refine va_get (D := D) (ci := 6) (v := .int (i 4)) (C := RX6) (T := TX6) (N := 5) hx hb hT iX6 hown hK hP 10 rfl rfl 3 (by decide) (hT _ t_648) (fun _ h9 => h9) rfl dX6_peek_1 ?_
  refine lv_if_lt (tgt := 34) hx hb dX6_peek_4 (by decide) (fun c_1 => ?_) (fun c_1 => ?_)
  · have c_1 : (i 4).toInt < 0 := b_lt c_1
    refine lv_iconst (v := (-1)) hx hb dX6_peek_34 (by decide) ?_
    subst hQ
    exact W.iret (v := (-1)) hx hb hr (fun t ht hW => ⟨_, rfl, (by decide), ht⟩) (fun q hq => absurd hq List.not_mem_nil) dX6_peek_35
  · have c_1 : 0 ≤ (i 4).toInt := b_nlt c_1
    refine lv_aload_n hx hb dX6_peek_7 rfl (lv_at hl 0 rfl) ?_
    refine va_get (D := D) (ci := 6) (v := .int (i 4)) (C := RX6) (T := TX6) (N := 5) hx hb hT iX6 hown hK hP 10 rfl rfl 3 (by decide) (hT _ t_648) (fun _ h9 => h9) rfl dX6_peek_8 ?_
    refine lv_aload_n hx hb dX6_peek_11 rfl (lv_at hl 0 rfl) ?_
    refine va_get (D := D) (ci := 6) (v := .int (i 3)) (C := RX6) (T := TX6) (N := 5) hx hb hT iX6 hown hK hP 10 rfl rfl 2 (by decide) (hT _ t_649) (fun _ h9 => h9) rfl dX6_peek_12 ?_
    have hg_2 : 0 ≤ (i 3).toInt ∧ (i 3).toInt ≤ 200 := hRi 3
    refine lv_icmp_ge (tgt := 34) hx hb dX6_peek_15 (by decide) (fun c_3 => ?_) (fun c_3 => ?_)
    · have c_3 : (i 3).toInt ≤ (i 4).toInt := b_le c_3
      refine lv_iconst (v := (-1)) hx hb dX6_peek_34 (by decide) ?_
      subst hQ
      exact W.iret (v := (-1)) hx hb hr (fun t ht hW => ⟨_, rfl, (by decide), ht⟩) (fun q hq => absurd hq List.not_mem_nil) dX6_peek_35
    · have c_3 : (i 4).toInt < (i 3).toInt := b_nle c_3
      refine lv_aload_n hx hb dX6_peek_18 rfl (lv_at hl 0 rfl) ?_
      refine va_get (D := D) (ci := 6) (v := .ref (a 11)) (C := RX6) (T := TX6) (N := 5) hx hb hT iX6 hown hK hP 10 rfl rfl 1 (by decide) (hT _ t_650) (fun _ h9 => h9) rfl dX6_peek_19 ?_
      refine lv_aload_n hx hb dX6_peek_22 rfl (lv_at hl 0 rfl) ?_
      refine va_get (D := D) (ci := 6) (v := .int (i 4)) (C := RX6) (T := TX6) (N := 5) hx hb hT iX6 hown hK hP 10 rfl rfl 3 (by decide) (hT _ t_648) (fun _ h9 => h9) rfl dX6_peek_23 ?_
      refine va_bald hx hb hK hP 11 1 rfl rfl (vp_inI (by omega) (by omega)) dX6_peek_26 ?_
      refine lv_topi (fun v_4 ev_4 => ?_)
      refine lv_sipush (v := 255) hx hb dX6_peek_27 (by decide) ?_
      refine lv_iand hx hb dX6_peek_30 ?_
      refine lv_topi (fun v_5 ev_5 => ?_)
      have hmv_5 : 0 ≤ v_5.toInt ∧ v_5.toInt ≤ 255 := by rw [ev_5]; exact b_andm v_4 8 (by decide) (by decide)
      refine lv_goto (tgt := 35) hx hb dX6_peek_31 (by decide) ?_
      subst hQ
      exact W.iret (v := v_5) hx hb hr (fun t ht hW => ⟨_, rfl, (by show -1 ≤ v_5.toInt ∧ v_5.toInt ≤ 255; omega), ht⟩) (fun q hq => absurd hq List.not_mem_nil) dX6_peek_35
set_option maxHeartbeats 4000000 in
set_option maxRecDepth 100000 in
theorem c_X6_refuse (l : Launch) (D : va_G) (cy : Nat → ClassId) (a : Nat → Nat) (i : Nat → Int32) (r : Nat → Nat → Int32) (q : Nat → Option Nat) (tl : va_W) (p0 : Int32) (sz : Nat) (hRi : yRi i) (hRr : yRr r) : Met l yX6_refuse (Cond.code yX6_refuse cX6_refuse 2 (some .boolean) :: gT) { frames := 1, cells := 0, slots := 0, locals := 24 } (va_Pc [.ref (a 10), .int p0] (rQ D cy (xW cy a i r q (a 20) (a 12) ++ tl) sz)) (va_Qi (fun (z : Int32) (u : (Nat → Int32) × (Nat → Nat → Int32)) => yRi u.1 ∧ yRr u.2 ∧ mEi [5] i u.1 ∧ mEr [] r u.2 ∧ (z = 0)) (fun (u : (Nat → Int32) × (Nat → Nat → Int32)) t => va_P D vwCl (xW cy a u.1 u.2 q (a 20) (a 12) ++ tl) t.heap ∧ va_K D vwCl (vT cy) t ∧ va_D (va_A (xW cy a i r q (a 20) (a 12) ++ tl) sz) (xW cy a u.1 u.2 q (a 20) (a 12) ++ tl)) (va_A (xW cy a i r q (a 20) (a 12) ++ tl) sz)) 0 0 (va_A (xW cy a i r q (a 20) (a 12) ++ tl) sz) := by
  refine Met.ofQ (cc := cX6_refuse) (maxL := 2) (ret := (some .boolean)) (by decide) rfl ?_
  intro p e s m args below meth c s₁ B hml hv Q hQ
  obtain ⟨rfl, hsz, hP, hK, hD0⟩ := hv
  have hx := B.exec
  have hb := B.bytes
  have hr := B.returns
  have hlocks := B.notSynchronized
  have hT : ∀ w ∈ gT, w.before _ s = true := fun w h => atoms_spec (ws := (Cond.code yX6_refuse cX6_refuse 2 (some .boolean) :: gT)) B.pre w (List.mem_cons_of_mem _ h)
  have hown : s.vm.findClass RX6 = some m.cls := findClass_of_methodNamed B.named
  subst hsz
  have hD := hD0.self (sz := s.heap.size)
  generalize hAe : va_A (xW cy a i r q (a 20) (a 12) ++ tl) s.heap.size = A at hD hQ
  have hA : ∀ q : Nat, s.heap.size ≤ q → A q := fun q h => by rw [← hAe]; exact Or.inr h
  have hS : va_S A s.heap s.heap [] := va_S.rf
  have hl := lv_entry ([.ref (a 10), .int p0]) (n := 2) (Nat.le_of_ble_eq_true rfl)
  rw [lg_entry_eq]
  generalize (lg_sl ([.ref (a 10), .int p0]) ++ List.replicate (2 - (lg_sl ([.ref (a 10), .int p0])).length) Slot.unset).toArray = ls at hl ⊢
  have hl : lv_has ls 2 [(0, .ref (a 10)), (1, .int p0)] := hl
  have hEi : mEi [5] i i := Ei_rf
  have hEr : mEr [] r r := Er_rf
  refine lv_aload_n hx hb dX6_refuse_0 rfl (lv_at hl 0 rfl) ?_
  refine lv_sipush (v := (-1000)) hx hb dX6_refuse_1 (by decide) ?_
  refine lv_iload_n hx hb dX6_refuse_4 rfl (lv_at hl 1 rfl) ?_
  refine lv_imul hx hb dX6_refuse_5 ?_
  refine lv_topi (fun v_1 ev_1 => ?_)
  refine lv_aload_n hx hb dX6_refuse_6 rfl (lv_at hl 0 rfl) ?_
  refine va_get (D := D) (ci := 6) (v := .int (i 4)) (C := RX6) (T := TX6) (N := 5) hx hb hT iX6 hown hK hP 10 rfl rfl 3 (by decide) (hT _ t_648) (fun _ h9 => h9) rfl dX6_refuse_7 ?_
  refine lv_isub hx hb dX6_refuse_10 ?_
  refine lv_topi (fun v_2 ev_2 => ?_)
  refine va_put (D := D) (ci := 6) (v := .int v_2) (ty := .int) (C := RX6) (T := TX6) (N := 5) hx hb hT iX6 tyX6 tyX6_ok nmX6 hown hK hP hD hS 10 rfl rfl 4 (by decide) (hT _ t_651) (fun _ h9 => h9) rfl (by decide +kernel) rfl rfl (Nat.le_of_ble_eq_true rfl) dX6_refuse_11 (fun H locs hP hD hS => ?_)
  rw [zP5] at hP hD
  have hRi := Yi_upd hRi 5 v_2 (b_rg _)
  have hEi := Ei_upd hEi 5 v_2 (by decide)
  refine lv_iconst (v := 0) hx hb dX6_refuse_14 (by decide) ?_
  subst hQ
  exact W.zret hx hb hr rfl (fun t ht hW => ⟨⟨_, (upd i 5 v_2, r), rfl, ⟨hRi, hRr, hEi, hEr, rfl⟩, by rw [ht]; exact hP, va_K.moved hW.alike hK, hD⟩, hS.F ht⟩) hS.2.2 dX6_refuse_15
set_option maxHeartbeats 4000000 in
set_option maxRecDepth 100000 in
theorem c_X6_pass (l : Launch) (D : va_G) (cy : Nat → ClassId) (a : Nat → Nat) (i : Nat → Int32) (r : Nat → Nat → Int32) (q : Nat → Option Nat) (tl : va_W) (p0 : Int32) (sz : Nat) (hRi : yRi i) (hRr : yRr r) : Met l yX6_pass (Cond.code yX6_pass cX6_pass 2 (some .boolean) :: gT) { frames := 2, cells := 0, slots := 0, locals := 45 } (va_Pc [.ref (a 10), .int p0] (rQ D cy (xW cy a i r q (a 20) (a 12) ++ tl) sz)) (va_Qi (fun (z : Int32) (u : (Nat → Int32) × (Nat → Nat → Int32)) => yRi u.1 ∧ yRr u.2 ∧ mEi [4, 5] i u.1 ∧ mEr [] r u.2 ∧ (z = 0 ∨ z = 1)) (fun (u : (Nat → Int32) × (Nat → Nat → Int32)) t => va_P D vwCl (xW cy a u.1 u.2 q (a 20) (a 12) ++ tl) t.heap ∧ va_K D vwCl (vT cy) t ∧ va_D (va_A (xW cy a i r q (a 20) (a 12) ++ tl) sz) (xW cy a u.1 u.2 q (a 20) (a 12) ++ tl)) (va_A (xW cy a i r q (a 20) (a 12) ++ tl) sz)) 0 0 (va_A (xW cy a i r q (a 20) (a 12) ++ tl) sz) := by
  refine Met.ofQ (cc := cX6_pass) (maxL := 2) (ret := (some .boolean)) (by decide) rfl ?_
  intro p e s m args below meth c s₁ B hml hv Q hQ
  obtain ⟨rfl, hsz, hP, hK, hD0⟩ := hv
  have hx := B.exec
  have hb := B.bytes
  have hr := B.returns
  have hlocks := B.notSynchronized
  have hT : ∀ w ∈ gT, w.before _ s = true := fun w h => atoms_spec (ws := (Cond.code yX6_pass cX6_pass 2 (some .boolean) :: gT)) B.pre w (List.mem_cons_of_mem _ h)
  have hown : s.vm.findClass RX6 = some m.cls := findClass_of_methodNamed B.named
  subst hsz
  have hD := hD0.self (sz := s.heap.size)
  generalize hAe : va_A (xW cy a i r q (a 20) (a 12) ++ tl) s.heap.size = A at hD hQ
  have hA : ∀ q : Nat, s.heap.size ≤ q → A q := fun q h => by rw [← hAe]; exact Or.inr h
  have hS : va_S A s.heap s.heap [] := va_S.rf
  have hl := lv_entry ([.ref (a 10), .int p0]) (n := 2) (Nat.le_of_ble_eq_true rfl)
  rw [lg_entry_eq]
  generalize (lg_sl ([.ref (a 10), .int p0]) ++ List.replicate (2 - (lg_sl ([.ref (a 10), .int p0])).length) Slot.unset).toArray = ls at hl ⊢
  have hl : lv_has ls 2 [(0, .ref (a 10)), (1, .int p0)] := hl
  have hEi : mEi [4, 5] i i := Ei_rf
  have hEr : mEr [] r r := Er_rf
  refine lv_aload_n hx hb dX6_pass_0 rfl (lv_at hl 0 rfl) ?_
  refine vp_callSi (W.runV (As := []) (rest := []) ⟨hx, hb, hml, hown, hT⟩ (c_X6_peek l D cy a i r q tl hRi hRr) (cwV 0 hT (gV t_652 t_654 t_655 t_656 t_653) rfl rfl rfl (by decide +kernel) ⟨Nat.le_of_ble_eq_true rfl, Nat.le_of_ble_eq_true rfl⟩) (rP_v hP hK (va_recv hK hP (ci := 6) (q0 := 10) rfl rfl)) rfl rfl hl.1 rfl (lv_room (Nat.le_of_ble_eq_true rfl)) dX6_pass_1 ⟨Nat.le_of_ble_eq_true rfl, Nat.le_of_ble_eq_true rfl⟩) (fun r_1 hr_1 => ?_)
  have hr_1 : -1 ≤ r_1.toInt ∧ r_1.toInt ≤ 255 := hr_1
  refine lv_iload_n hx hb dX6_pass_4 rfl (lv_at hl 1 rfl) ?_
  refine lv_icmp_eq (tgt := 14) hx hb dX6_pass_5 (by decide) (fun c_2 => ?_) (fun c_2 => ?_)
  · have c_2 : r_1.toInt = p0.toInt := b_eq c_2
    refine lv_aload_n hx hb dX6_pass_14 rfl (lv_at hl 0 rfl) ?_
    refine lv_dup hx hb dX6_pass_15 rfl ?_
    refine va_get (D := D) (ci := 6) (v := .int (i 4)) (C := RX6) (T := TX6) (N := 5) hx hb hT iX6 hown hK hP 10 rfl rfl 3 (by decide) (hT _ t_648) (fun _ h9 => h9) rfl dX6_pass_16 ?_
    refine lv_iconst (v := 1) hx hb dX6_pass_19 (by decide) ?_
    refine lv_iadd hx hb dX6_pass_20 ?_
    refine lv_topi (fun v_3 ev_3 => ?_)
    refine va_put (D := D) (ci := 6) (v := .int v_3) (ty := .int) (C := RX6) (T := TX6) (N := 5) hx hb hT iX6 tyX6 tyX6_ok nmX6 hown hK hP hD hS 10 rfl rfl 3 (by decide) (hT _ t_648) (fun _ h9 => h9) rfl (by decide +kernel) rfl rfl (Nat.le_of_ble_eq_true rfl) dX6_pass_21 (fun H locs hP hD hS => ?_)
    rw [zP4] at hP hD
    have hRi := Yi_upd hRi 4 v_3 (b_rg _)
    have hEi := Ei_upd hEi 4 v_3 (by decide)
    refine lv_iconst (v := 1) hx hb dX6_pass_24 (by decide) ?_
    subst hQ
    exact W.zret hx hb hr rfl (fun t ht hW => ⟨⟨_, (upd i 4 v_3, r), rfl, ⟨hRi, hRr, hEi, hEr, Or.inr rfl⟩, by rw [ht]; exact hP, va_K.moved hW.alike hK, hD⟩, hS.F ht⟩) hS.2.2 dX6_pass_25
  · have c_2 : r_1.toInt ≠ p0.toInt := b_ne c_2
    refine lv_aload_n hx hb dX6_pass_8 rfl (lv_at hl 0 rfl) ?_
    refine lv_iconst (v := 1) hx hb dX6_pass_9 (by decide) ?_
    have hF_4 := rF hD hS hA
    refine va_calli (va_runV (As := [.int 1]) (rest := []) ⟨hx, hb, hml, hown, hT⟩ (c_X6_refuse l D cy a i r q tl 1 _ hRi hRr) (cwV 1 hT (gV t_657 t_658 t_659 t_660 t_653) rfl rfl rfl (by decide +kernel) ⟨Nat.le_of_ble_eq_true rfl, Nat.le_of_ble_eq_true rfl⟩) (rQ_v hP hK hD (va_recv hK hP (ci := 6) (q0 := 10) rfl rfl)) rfl rfl hl.1 rfl (lv_room (Nat.le_of_ble_eq_true rfl)) dX6_pass_10 ⟨Nat.le_of_ble_eq_true rfl, Nat.le_of_ble_eq_true rfl⟩) hS (fun q _ h => hF_4 q h) hF_4 (fun r_5 u_6 t H1 locs ht hvm hr_5 hB hz1 hk1 hS => ?_)
    obtain ⟨i6, r6⟩ := u_6
    obtain ⟨hP, hK1, hD1⟩ := hB
    rw [ht] at hP
    have hD := hD1.weaken (fun k q _ h => hF_4 q.1 h)
    obtain ⟨hRi, hRr, hE1, hE2, hr_5⟩ := hr_5
    have hRi : yRi i6 := hRi
    have hE1 : mEi [5] i i6 := hE1
    have hRr : yRr r6 := hRr
    have hE2 : mEr [] r r6 := hE2
    have hP : va_P D vwCl (xW cy a i6 r6 q (a 20) (a 12) ++ tl) H1 := hP
    have hD : va_D A (xW cy a i6 r6 q (a 20) (a 12) ++ tl) := hD
    have hEi : mEi [4, 5] _ i6 := Ei_tr hEi hE1 (by decide)
    have hEr : mEr [] _ r6 := Er_tr hEr hE2 (by decide)
    subst hr_5
    subst hQ
    exact W.zret hx hb hr rfl (fun t ht hW => ⟨⟨_, (i6, r6), rfl, ⟨hRi, hRr, hEi, hEr, Or.inl rfl⟩, by rw [ht]; exact hP, va_K.moved hW.alike hK, hD⟩, hS.F ht⟩) hS.2.2 dX6_pass_13
set_option maxHeartbeats 4000000 in
set_option maxRecDepth 100000 in
theorem c_X6_number (l : Launch) (D : va_G) (cy : Nat → ClassId) (a : Nat → Nat) (i : Nat → Int32) (r : Nat → Nat → Int32) (q : Nat → Option Nat) (tl : va_W) (sz : Nat) (hRi : yRi i) (hRr : yRr r) : Met l yX6_number (Cond.code yX6_number cX6_number 4 (some .boolean) :: gT) { frames := 2, cells := 0, slots := 0, locals := 46 } (va_Pc [.ref (a 10)] (rQ D cy (xW cy a i r q (a 20) (a 12) ++ tl) sz)) (va_Qi (fun (z : Int32) (u : (Nat → Int32) × (Nat → Nat → Int32)) => yRi u.1 ∧ yRr u.2 ∧ mEi [4, 5, 7] i u.1 ∧ mEr [17, 18] r u.2 ∧ (z = 0 ∨ z = 1)) (fun (u : (Nat → Int32) × (Nat → Nat → Int32)) t => va_P D vwCl (xW cy a u.1 u.2 q (a 20) (a 12) ++ tl) t.heap ∧ va_K D vwCl (vT cy) t ∧ va_D (va_A (xW cy a i r q (a 20) (a 12) ++ tl) sz) (xW cy a u.1 u.2 q (a 20) (a 12) ++ tl)) (va_A (xW cy a i r q (a 20) (a 12) ++ tl) sz)) 0 0 (va_A (xW cy a i r q (a 20) (a 12) ++ tl) sz) := by
  refine Met.ofQ (cc := cX6_number) (maxL := 4) (ret := (some .boolean)) (by decide) rfl ?_
  intro p e s m args below meth c s₁ B hml hv Q hQ
  obtain ⟨rfl, hsz, hP, hK, hD0⟩ := hv
  have hx := B.exec
  have hb := B.bytes
  have hr := B.returns
  have hlocks := B.notSynchronized
  have hT : ∀ w ∈ gT, w.before _ s = true := fun w h => atoms_spec (ws := (Cond.code yX6_number cX6_number 4 (some .boolean) :: gT)) B.pre w (List.mem_cons_of_mem _ h)
  have hown : s.vm.findClass RX6 = some m.cls := findClass_of_methodNamed B.named
  subst hsz
  have hD := hD0.self (sz := s.heap.size)
  generalize hAe : va_A (xW cy a i r q (a 20) (a 12) ++ tl) s.heap.size = A at hD hQ
  have hA : ∀ q : Nat, s.heap.size ≤ q → A q := fun q h => by rw [← hAe]; exact Or.inr h
  have hS : va_S A s.heap s.heap [] := va_S.rf
  have hl := lv_entry ([.ref (a 10)]) (n := 4) (Nat.le_of_ble_eq_true rfl)
  rw [lg_entry_eq]
  generalize (lg_sl ([.ref (a 10)]) ++ List.replicate (4 - (lg_sl ([.ref (a 10)])).length) Slot.unset).toArray = ls at hl ⊢
  have hl : lv_has ls 4 [(0, .ref (a 10))] := hl
  have hEi : mEi [4, 5, 7] i i := Ei_rf
  have hEr : mEr [17, 18] r r := Er_rf
  refine lv_iconst (v := 0) hx hb dX6_number_0 (by decide) ?_
  refine lv_istore_n (lv' := [(1, .int 0), (0, .ref (a 10))]) hx hb dX6_number_1 rfl hl (by decide) rfl (fun ls hl => ?_)
  refine lv_aload_n hx hb dX6_number_2 rfl (lv_at hl 1 rfl) ?_
  refine vp_callSi (W.runV (As := []) (rest := []) ⟨hx, hb, hml, hown, hT⟩ (c_X6_peek l D cy a i r q tl hRi hRr) (cwV 0 hT (gV t_652 t_654 t_655 t_656 t_653) rfl rfl rfl (by decide +kernel) ⟨Nat.le_of_ble_eq_true rfl, Nat.le_of_ble_eq_true rfl⟩) (rP_v hP hK (va_recv hK hP (ci := 6) (q0 := 10) rfl rfl)) rfl rfl hl.1 rfl (lv_room (Nat.le_of_ble_eq_true rfl)) dX6_number_3 ⟨Nat.le_of_ble_eq_true rfl, Nat.le_of_ble_eq_true rfl⟩) (fun r_1 hr_1 => ?_)
  have hr_1 : -1 ≤ r_1.toInt ∧ r_1.toInt ≤ 255 := hr_1
  refine lv_istore_n (lv' := [(2, .int r_1), (1, .int 0), (0, .ref (a 10))]) hx hb dX6_number_6 rfl hl (by decide) rfl (fun ls hl => ?_)
  refine lv_iconst (v := 0) hx hb dX6_number_7 (by decide) ?_
  refine lv_istore_n (lv' := [(3, .int 0), (2, .int r_1), (1, .int 0), (0, .ref (a 10))]) hx hb dX6_number_8 rfl hl (by decide) rfl (fun ls hl => ?_)
  have loop_2 : ∀ (n : Nat) (x2_3 : Int32) (x2_2 : Int32) (x2_1 : Int32) (i2 : Nat → Int32) (r2 : Nat → Nat → Int32) (H : Heap) (locs : List Loc) (ls : Array Slot), (5 - x2_3.toInt).toNat < n → (0 ≤ x2_3.toInt ∧ x2_3.toInt ≤ 5) → yRi i2 → mEi [4, 5, 7] i i2 → yRr r2 → mEr [17, 18] r r2 → va_P D vwCl (xW cy a i2 r2 q (a 20) (a 12) ++ tl) H → va_D A (xW cy a i2 r2 q (a 20) (a 12) ++ tl) → va_S A s.heap H locs → lv_has ls 4 [(3, .int x2_3), (2, .int x2_2), (1, .int x2_1), (0, .ref (a 10))] → W p l e ({ frames := 2, cells := 0, slots := 0, locals := 46 } : Room) s m ([.ref (a 10)] : List Value).toArray below meth c H locs 0 0 Q (F0 m 9 ls []) := by
    intro n
    induction n with
    | zero =>
      intro x2_3 x2_2 x2_1 i2 r2 H locs ls hm2 hf2_0 hRi hEi hRr hEr hP hD hS hl
      exact absurd hm2 (by omega)
    | succ n ih2 =>
      intro x2_3 x2_2 x2_1 i2 r2 H locs ls hm2 hf2_0 hRi hEi hRr hEr hP hD hS hl
      refine lv_iload_n hx hb dX6_number_9 rfl (lv_at hl 0 rfl) ?_
      refine lv_iconst (v := 5) hx hb dX6_number_10 (by decide) ?_
      refine lv_icmp_ge (tgt := 57) hx hb dX6_number_11 (by decide) (fun c_3 => ?_) (fun c_3 => ?_)
      · have c_3 : 5 ≤ x2_3.toInt := b_le c_3
        refine lv_iload_n hx hb dX6_number_57 rfl (lv_at hl 1 rfl) ?_
        refine lv_bipush (v := 48) hx hb dX6_number_58 (by decide) ?_
        refine lv_icmp_lt (tgt := 75) hx hb dX6_number_60 (by decide) (fun c_4 => ?_) (fun c_4 => ?_)
        · have c_4 : x2_2.toInt < 48 := b_lt c_4
          refine lv_aload_n hx hb dX6_number_75 rfl (lv_at hl 3 rfl) ?_
          refine va_get (D := D) (ci := 6) (v := .ref (a 12)) (C := RX6) (T := TX6) (N := 5) hx hb hT iX6 hown hK hP 10 rfl rfl 0 (by decide) (hT _ t_661) (fun _ h9 => h9) rfl dX6_number_76 ?_
          refine lv_bipush (v := 48) hx hb dX6_number_79 (by decide) ?_
          refine lv_iload_n hx hb dX6_number_81 rfl (lv_at hl 2 rfl) ?_
          have hF_5 := rF hD hS hA
          refine va_calli (va_runV (As := [.int 48, .int x2_1]) (rest := []) ⟨hx, hb, hml, hown, hT⟩ (c_X5_add l D cy a i2 r2 q tl 48 x2_1 _ hRi hRr) (cwV 2 hT (gV t_662 t_663 t_664 t_665 t_367) rfl rfl rfl (by decide +kernel) ⟨Nat.le_of_ble_eq_true rfl, Nat.le_of_ble_eq_true rfl⟩) (rQ_v hP hK hD (va_recv hK hP (ci := 5) (q0 := 12) rfl rfl)) rfl rfl hl.1 rfl (lv_room (Nat.le_of_ble_eq_true rfl)) dX6_number_82 ⟨Nat.le_of_ble_eq_true rfl, Nat.le_of_ble_eq_true rfl⟩) hS (fun q _ h => hF_5 q h) hF_5 (fun r_6 u_7 t H1 locs ht hvm hr_6 hB hz1 hk1 hS => ?_)
          obtain ⟨i7, r7⟩ := u_7
          obtain ⟨hP, hK1, hD1⟩ := hB
          rw [ht] at hP
          have hD := hD1.weaken (fun k q _ h => hF_5 q.1 h)
          obtain ⟨hRi, hRr, hE1, hE2, hr_6⟩ := hr_6
          have hRi : yRi i7 := hRi
          have hE1 : mEi [7] i2 i7 := hE1
          have hRr : yRr r7 := hRr
          have hE2 : mEr [17, 18] r2 r7 := hE2
          have hP : va_P D vwCl (xW cy a i7 r7 q (a 20) (a 12) ++ tl) H1 := hP
          have hD : va_D A (xW cy a i7 r7 q (a 20) (a 12) ++ tl) := hD
          have hEi : mEi [4, 5, 7] _ i7 := Ei_tr hEi hE1 (by decide)
          have hEr : mEr [17, 18] _ r7 := Er_tr hEr hE2 (by decide)
          refine lv_pop hx hb dX6_number_85 rfl ?_
          refine lv_iconst (v := 1) hx hb dX6_number_86 (by decide) ?_
          subst hQ
          exact W.zret hx hb hr rfl (fun t ht hW => ⟨⟨_, (i7, r7), rfl, ⟨hRi, hRr, hEi, hEr, Or.inr rfl⟩, by rw [ht]; exact hP, va_K.moved hW.alike hK, hD⟩, hS.F ht⟩) hS.2.2 dX6_number_87
        · have c_4 : 48 ≤ x2_2.toInt := b_nlt c_4
          refine lv_iload_n hx hb dX6_number_63 rfl (lv_at hl 1 rfl) ?_
          refine lv_bipush (v := 57) hx hb dX6_number_64 (by decide) ?_
          refine lv_icmp_gt (tgt := 75) hx hb dX6_number_66 (by decide) (fun c_8 => ?_) (fun c_8 => ?_)
          · have c_8 : 57 < x2_2.toInt := b_lt c_8
            refine lv_aload_n hx hb dX6_number_75 rfl (lv_at hl 3 rfl) ?_
            refine va_get (D := D) (ci := 6) (v := .ref (a 12)) (C := RX6) (T := TX6) (N := 5) hx hb hT iX6 hown hK hP 10 rfl rfl 0 (by decide) (hT _ t_661) (fun _ h9 => h9) rfl dX6_number_76 ?_
            refine lv_bipush (v := 48) hx hb dX6_number_79 (by decide) ?_
            refine lv_iload_n hx hb dX6_number_81 rfl (lv_at hl 2 rfl) ?_
            have hF_9 := rF hD hS hA
            refine va_calli (va_runV (As := [.int 48, .int x2_1]) (rest := []) ⟨hx, hb, hml, hown, hT⟩ (c_X5_add l D cy a i2 r2 q tl 48 x2_1 _ hRi hRr) (cwV 2 hT (gV t_662 t_663 t_664 t_665 t_367) rfl rfl rfl (by decide +kernel) ⟨Nat.le_of_ble_eq_true rfl, Nat.le_of_ble_eq_true rfl⟩) (rQ_v hP hK hD (va_recv hK hP (ci := 5) (q0 := 12) rfl rfl)) rfl rfl hl.1 rfl (lv_room (Nat.le_of_ble_eq_true rfl)) dX6_number_82 ⟨Nat.le_of_ble_eq_true rfl, Nat.le_of_ble_eq_true rfl⟩) hS (fun q _ h => hF_9 q h) hF_9 (fun r_10 u_11 t H1 locs ht hvm hr_10 hB hz1 hk1 hS => ?_)
            obtain ⟨i11, r11⟩ := u_11
            obtain ⟨hP, hK1, hD1⟩ := hB
            rw [ht] at hP
            have hD := hD1.weaken (fun k q _ h => hF_9 q.1 h)
            obtain ⟨hRi, hRr, hE1, hE2, hr_10⟩ := hr_10
            have hRi : yRi i11 := hRi
            have hE1 : mEi [7] i2 i11 := hE1
            have hRr : yRr r11 := hRr
            have hE2 : mEr [17, 18] r2 r11 := hE2
            have hP : va_P D vwCl (xW cy a i11 r11 q (a 20) (a 12) ++ tl) H1 := hP
            have hD : va_D A (xW cy a i11 r11 q (a 20) (a 12) ++ tl) := hD
            have hEi : mEi [4, 5, 7] _ i11 := Ei_tr hEi hE1 (by decide)
            have hEr : mEr [17, 18] _ r11 := Er_tr hEr hE2 (by decide)
            refine lv_pop hx hb dX6_number_85 rfl ?_
            refine lv_iconst (v := 1) hx hb dX6_number_86 (by decide) ?_
            subst hQ
            exact W.zret hx hb hr rfl (fun t ht hW => ⟨⟨_, (i11, r11), rfl, ⟨hRi, hRr, hEi, hEr, Or.inr rfl⟩, by rw [ht]; exact hP, va_K.moved hW.alike hK, hD⟩, hS.F ht⟩) hS.2.2 dX6_number_87
          · have c_8 : x2_2.toInt ≤ 57 := b_nlt c_8
            refine lv_aload_n hx hb dX6_number_69 rfl (lv_at hl 3 rfl) ?_
            refine lv_iconst (v := 2) hx hb dX6_number_70 (by decide) ?_
            have hF_12 := rF hD hS hA
            refine va_calli (va_runV (As := [.int 2]) (rest := []) ⟨hx, hb, hml, hown, hT⟩ (c_X6_refuse l D cy a i2 r2 q tl 2 _ hRi hRr) (cwV 1 hT (gV t_657 t_658 t_659 t_660 t_653) rfl rfl rfl (by decide +kernel) ⟨Nat.le_of_ble_eq_true rfl, Nat.le_of_ble_eq_true rfl⟩) (rQ_v hP hK hD (va_recv hK hP (ci := 6) (q0 := 10) rfl rfl)) rfl rfl hl.1 rfl (lv_room (Nat.le_of_ble_eq_true rfl)) dX6_number_71 ⟨Nat.le_of_ble_eq_true rfl, Nat.le_of_ble_eq_true rfl⟩) hS (fun q _ h => hF_12 q h) hF_12 (fun r_13 u_14 t H1 locs ht hvm hr_13 hB hz1 hk1 hS => ?_)
            obtain ⟨i14, r14⟩ := u_14
            obtain ⟨hP, hK1, hD1⟩ := hB
            rw [ht] at hP
            have hD := hD1.weaken (fun k q _ h => hF_12 q.1 h)
            obtain ⟨hRi, hRr, hE1, hE2, hr_13⟩ := hr_13
            have hRi : yRi i14 := hRi
            have hE1 : mEi [5] i2 i14 := hE1
            have hRr : yRr r14 := hRr
            have hE2 : mEr [] r2 r14 := hE2
            have hP : va_P D vwCl (xW cy a i14 r14 q (a 20) (a 12) ++ tl) H1 := hP
            have hD : va_D A (xW cy a i14 r14 q (a 20) (a 12) ++ tl) := hD
            have hEi : mEi [4, 5, 7] _ i14 := Ei_tr hEi hE1 (by decide)
            have hEr : mEr [17, 18] _ r14 := Er_tr hEr hE2 (by decide)
            subst hr_13
            subst hQ
            exact W.zret hx hb hr rfl (fun t ht hW => ⟨⟨_, (i14, r14), rfl, ⟨hRi, hRr, hEi, hEr, Or.inl rfl⟩, by rw [ht]; exact hP, va_K.moved hW.alike hK, hD⟩, hS.F ht⟩) hS.2.2 dX6_number_74
      · have c_3 : x2_3.toInt < 5 := b_nle c_3
        refine lv_iload_n hx hb dX6_number_14 rfl (lv_at hl 1 rfl) ?_
        refine lv_bipush (v := 48) hx hb dX6_number_15 (by decide) ?_
        refine lv_icmp_lt (tgt := 57) hx hb dX6_number_17 (by decide) (fun c_15 => ?_) (fun c_15 => ?_)
        · have c_15 : x2_2.toInt < 48 := b_lt c_15
          refine lv_iload_n hx hb dX6_number_57 rfl (lv_at hl 1 rfl) ?_
          refine lv_bipush (v := 48) hx hb dX6_number_58 (by decide) ?_
          refine lv_icmp_lt (tgt := 75) hx hb dX6_number_60 (by decide) (fun c_16 => ?_) (fun c_16 => by have c_16 : 48 ≤ x2_2.toInt := b_nlt c_16; omega)
          have c_16 : x2_2.toInt < 48 := b_lt c_16
          refine lv_aload_n hx hb dX6_number_75 rfl (lv_at hl 3 rfl) ?_
          refine va_get (D := D) (ci := 6) (v := .ref (a 12)) (C := RX6) (T := TX6) (N := 5) hx hb hT iX6 hown hK hP 10 rfl rfl 0 (by decide) (hT _ t_661) (fun _ h9 => h9) rfl dX6_number_76 ?_
          refine lv_bipush (v := 48) hx hb dX6_number_79 (by decide) ?_
          refine lv_iload_n hx hb dX6_number_81 rfl (lv_at hl 2 rfl) ?_
          have hF_17 := rF hD hS hA
          refine va_calli (va_runV (As := [.int 48, .int x2_1]) (rest := []) ⟨hx, hb, hml, hown, hT⟩ (c_X5_add l D cy a i2 r2 q tl 48 x2_1 _ hRi hRr) (cwV 2 hT (gV t_662 t_663 t_664 t_665 t_367) rfl rfl rfl (by decide +kernel) ⟨Nat.le_of_ble_eq_true rfl, Nat.le_of_ble_eq_true rfl⟩) (rQ_v hP hK hD (va_recv hK hP (ci := 5) (q0 := 12) rfl rfl)) rfl rfl hl.1 rfl (lv_room (Nat.le_of_ble_eq_true rfl)) dX6_number_82 ⟨Nat.le_of_ble_eq_true rfl, Nat.le_of_ble_eq_true rfl⟩) hS (fun q _ h => hF_17 q h) hF_17 (fun r_18 u_19 t H1 locs ht hvm hr_18 hB hz1 hk1 hS => ?_)
          obtain ⟨i19, r19⟩ := u_19
          obtain ⟨hP, hK1, hD1⟩ := hB
          rw [ht] at hP
          have hD := hD1.weaken (fun k q _ h => hF_17 q.1 h)
          obtain ⟨hRi, hRr, hE1, hE2, hr_18⟩ := hr_18
          have hRi : yRi i19 := hRi
          have hE1 : mEi [7] i2 i19 := hE1
          have hRr : yRr r19 := hRr
          have hE2 : mEr [17, 18] r2 r19 := hE2
          have hP : va_P D vwCl (xW cy a i19 r19 q (a 20) (a 12) ++ tl) H1 := hP
          have hD : va_D A (xW cy a i19 r19 q (a 20) (a 12) ++ tl) := hD
          have hEi : mEi [4, 5, 7] _ i19 := Ei_tr hEi hE1 (by decide)
          have hEr : mEr [17, 18] _ r19 := Er_tr hEr hE2 (by decide)
          refine lv_pop hx hb dX6_number_85 rfl ?_
          refine lv_iconst (v := 1) hx hb dX6_number_86 (by decide) ?_
          subst hQ
          exact W.zret hx hb hr rfl (fun t ht hW => ⟨⟨_, (i19, r19), rfl, ⟨hRi, hRr, hEi, hEr, Or.inr rfl⟩, by rw [ht]; exact hP, va_K.moved hW.alike hK, hD⟩, hS.F ht⟩) hS.2.2 dX6_number_87
        · have c_15 : 48 ≤ x2_2.toInt := b_nlt c_15
          refine lv_iload_n hx hb dX6_number_20 rfl (lv_at hl 1 rfl) ?_
          refine lv_bipush (v := 57) hx hb dX6_number_21 (by decide) ?_
          refine lv_icmp_gt (tgt := 57) hx hb dX6_number_23 (by decide) (fun c_20 => ?_) (fun c_20 => ?_)
          · have c_20 : 57 < x2_2.toInt := b_lt c_20
            refine lv_iload_n hx hb dX6_number_57 rfl (lv_at hl 1 rfl) ?_
            refine lv_bipush (v := 48) hx hb dX6_number_58 (by decide) ?_
            refine lv_icmp_lt (tgt := 75) hx hb dX6_number_60 (by decide) (fun c_21 => by have c_21 : x2_2.toInt < 48 := b_lt c_21; omega) (fun c_21 => ?_)
            have c_21 : 48 ≤ x2_2.toInt := b_nlt c_21
            refine lv_iload_n hx hb dX6_number_63 rfl (lv_at hl 1 rfl) ?_
            refine lv_bipush (v := 57) hx hb dX6_number_64 (by decide) ?_
            refine lv_icmp_gt (tgt := 75) hx hb dX6_number_66 (by decide) (fun c_22 => ?_) (fun c_22 => by have c_22 : x2_2.toInt ≤ 57 := b_nlt c_22; omega)
            have c_22 : 57 < x2_2.toInt := b_lt c_22
            refine lv_aload_n hx hb dX6_number_75 rfl (lv_at hl 3 rfl) ?_
            refine va_get (D := D) (ci := 6) (v := .ref (a 12)) (C := RX6) (T := TX6) (N := 5) hx hb hT iX6 hown hK hP 10 rfl rfl 0 (by decide) (hT _ t_661) (fun _ h9 => h9) rfl dX6_number_76 ?_
            refine lv_bipush (v := 48) hx hb dX6_number_79 (by decide) ?_
            refine lv_iload_n hx hb dX6_number_81 rfl (lv_at hl 2 rfl) ?_
            have hF_23 := rF hD hS hA
            refine va_calli (va_runV (As := [.int 48, .int x2_1]) (rest := []) ⟨hx, hb, hml, hown, hT⟩ (c_X5_add l D cy a i2 r2 q tl 48 x2_1 _ hRi hRr) (cwV 2 hT (gV t_662 t_663 t_664 t_665 t_367) rfl rfl rfl (by decide +kernel) ⟨Nat.le_of_ble_eq_true rfl, Nat.le_of_ble_eq_true rfl⟩) (rQ_v hP hK hD (va_recv hK hP (ci := 5) (q0 := 12) rfl rfl)) rfl rfl hl.1 rfl (lv_room (Nat.le_of_ble_eq_true rfl)) dX6_number_82 ⟨Nat.le_of_ble_eq_true rfl, Nat.le_of_ble_eq_true rfl⟩) hS (fun q _ h => hF_23 q h) hF_23 (fun r_24 u_25 t H1 locs ht hvm hr_24 hB hz1 hk1 hS => ?_)
            obtain ⟨i25, r25⟩ := u_25
            obtain ⟨hP, hK1, hD1⟩ := hB
            rw [ht] at hP
            have hD := hD1.weaken (fun k q _ h => hF_23 q.1 h)
            obtain ⟨hRi, hRr, hE1, hE2, hr_24⟩ := hr_24
            have hRi : yRi i25 := hRi
            have hE1 : mEi [7] i2 i25 := hE1
            have hRr : yRr r25 := hRr
            have hE2 : mEr [17, 18] r2 r25 := hE2
            have hP : va_P D vwCl (xW cy a i25 r25 q (a 20) (a 12) ++ tl) H1 := hP
            have hD : va_D A (xW cy a i25 r25 q (a 20) (a 12) ++ tl) := hD
            have hEi : mEi [4, 5, 7] _ i25 := Ei_tr hEi hE1 (by decide)
            have hEr : mEr [17, 18] _ r25 := Er_tr hEr hE2 (by decide)
            refine lv_pop hx hb dX6_number_85 rfl ?_
            refine lv_iconst (v := 1) hx hb dX6_number_86 (by decide) ?_
            subst hQ
            exact W.zret hx hb hr rfl (fun t ht hW => ⟨⟨_, (i25, r25), rfl, ⟨hRi, hRr, hEi, hEr, Or.inr rfl⟩, by rw [ht]; exact hP, va_K.moved hW.alike hK, hD⟩, hS.F ht⟩) hS.2.2 dX6_number_87
          · have c_20 : x2_2.toInt ≤ 57 := b_nlt c_20
            refine lv_bipush (v := 10) hx hb dX6_number_26 (by decide) ?_
            refine lv_iload_n hx hb dX6_number_28 rfl (lv_at hl 2 rfl) ?_
            refine lv_imul hx hb dX6_number_29 ?_
            refine lv_topi (fun v_26 ev_26 => ?_)
            refine lv_iload_n hx hb dX6_number_30 rfl (lv_at hl 1 rfl) ?_
            refine lv_bipush (v := 48) hx hb dX6_number_31 (by decide) ?_
            refine lv_isub hx hb dX6_number_33 ?_
            refine lv_topi (fun v_27 ev_27 => ?_)
            have hv_27 : v_27.toInt = x2_2.toInt - 48 := by rw [ev_27]; have := b_rg x2_2; exact i_sub (a := x2_2.toInt) (b := 48) rfl rfl (by omega) (by omega)
            refine lv_iadd hx hb dX6_number_34 ?_
            refine lv_topi (fun v_28 ev_28 => ?_)
            refine lv_istore_n (lv' := [(1, .int v_28), (3, .int x2_3), (2, .int x2_2), (0, .ref (a 10))]) hx hb dX6_number_35 rfl hl (by decide) rfl (fun ls hl => ?_)
            refine lv_aload_n hx hb dX6_number_36 rfl (lv_at hl 3 rfl) ?_
            refine lv_dup hx hb dX6_number_37 rfl ?_
            refine va_get (D := D) (ci := 6) (v := .int (i2 4)) (C := RX6) (T := TX6) (N := 5) hx hb hT iX6 hown hK hP 10 rfl rfl 3 (by decide) (hT _ t_648) (fun _ h9 => h9) rfl dX6_number_38 ?_
            refine lv_iconst (v := 1) hx hb dX6_number_41 (by decide) ?_
            refine lv_iadd hx hb dX6_number_42 ?_
            refine lv_topi (fun v_29 ev_29 => ?_)
            refine va_put (D := D) (ci := 6) (v := .int v_29) (ty := .int) (C := RX6) (T := TX6) (N := 5) hx hb hT iX6 tyX6 tyX6_ok nmX6 hown hK hP hD hS 10 rfl rfl 3 (by decide) (hT _ t_648) (fun _ h9 => h9) rfl (by decide +kernel) rfl rfl (Nat.le_of_ble_eq_true rfl) dX6_number_43 (fun H locs hP hD hS => ?_)
            rw [zP4] at hP hD
            have hRi := Yi_upd hRi 4 v_29 (b_rg _)
            have hEi := Ei_upd hEi 4 v_29 (by decide)
            refine lv_aload_n hx hb dX6_number_46 rfl (lv_at hl 3 rfl) ?_
            refine vp_callSi (W.runV (As := []) (rest := []) ⟨hx, hb, hml, hown, hT⟩ (c_X6_peek l D cy a (upd i2 4 v_29) r2 q tl hRi hRr) (cwV 0 hT (gV t_652 t_654 t_655 t_656 t_653) rfl rfl rfl (by decide +kernel) ⟨Nat.le_of_ble_eq_true rfl, Nat.le_of_ble_eq_true rfl⟩) (rP_v hP hK (va_recv hK hP (ci := 6) (q0 := 10) rfl rfl)) rfl rfl hl.1 rfl (lv_room (Nat.le_of_ble_eq_true rfl)) dX6_number_47 ⟨Nat.le_of_ble_eq_true rfl, Nat.le_of_ble_eq_true rfl⟩) (fun r_30 hr_30 => ?_)
            have hr_30 : -1 ≤ r_30.toInt ∧ r_30.toInt ≤ 255 := hr_30
            refine lv_istore_n (lv' := [(2, .int r_30), (1, .int v_28), (3, .int x2_3), (0, .ref (a 10))]) hx hb dX6_number_50 rfl hl (by decide) rfl (fun ls hl => ?_)
            obtain ⟨x_31, ex_31⟩ : ∃ y : Int32, y = x2_3 + 1 := ⟨_, rfl⟩
            refine lv_iinc (v := x_31) (lv' := [(3, .int x_31), (2, .int r_30), (1, .int v_28), (0, .ref (a 10))]) hx hb dX6_number_51 hl (k := 2) rfl (by rw [ex_31]; rfl) (by decide) rfl (fun ls hl => ?_)
            have hx_31 : x_31.toInt = x2_3.toInt + 1 := by rw [ex_31]; have := b_rg x2_3; exact i_add (a := x2_3.toInt) (b := 1) rfl rfl (by omega) (by omega)
            refine lv_goto (tgt := 9) hx hb dX6_number_54 (by decide) ?_
            exact ih2 x_31 r_30 v_28 (upd i2 4 v_29) r2 _ _ _ (by first | omega | (simp only [Int.toNat]; omega)) (by first | omega | decide) hRi hEi hRr hEr  hP hD hS (lv_sub hl [0, 1, 2, 3] rfl)
  exact loop_2 _ 0 r_1 0 i r _ _ _ (Nat.lt_succ_self _) (by first | omega | decide) hRi hEi hRr hEr  hP hD hS hl
set_option maxHeartbeats 4000000 in
set_option maxRecDepth 100000 in
theorem c_X6_factor_kg (l : Launch) (D : va_G) (cy : Nat → ClassId) (a : Nat → Nat) (i : Nat → Int32) (r : Nat → Nat → Int32) (q : Nat → Option Nat) (tl : va_W) (kq vq : Nat) (p0 : Int32) (sz : Nat) (hRi : yRi i) (hRr : yRr r) (F9 L9 F1 L1 : Nat) (hF9 : 5 ≤ F9 ∧ 115 ≤ L9) (q0 : 0 ≤ p0.toInt ∧ p0.toInt ≤ 6) (hX1 : ∀ k9 : Int32, k9.toInt = p0.toInt + 1 → k9.toInt ≤ 6 → ∀ (i : Nat → Int32) (r : Nat → Nat → Int32) (sz : Nat) (hRi : yRi i) (hRr : yRr r), Met l yX6_expression (Cond.code yX6_expression cX6_expression 7 (some .boolean) :: gT) { frames := F1, cells := 0, slots := 0, locals := L1 } (va_Pc [.ref (a 10), .int k9, .int 1] (rS D cy (xW cy a i r q (a 20) (a 12) ++ tl) sz kq vq)) (va_Qi (fun (z : Int32) (u : (Nat → Int32) × (Nat → Nat → Int32)) => yRi u.1 ∧ yRr u.2 ∧ mEi [4, 5, 7] i u.1 ∧ mEr [17, 18] r u.2 ∧ (z = 0 ∨ z = 1)) (fun (u : (Nat → Int32) × (Nat → Nat → Int32)) t => va_P D vwCl (xW cy a u.1 u.2 q (a 20) (a 12) ++ tl) t.heap ∧ va_K D vwCl (vT cy) t ∧ va_D (va_A (xW cy a i r q (a 20) (a 12) ++ tl) sz) (xW cy a u.1 u.2 q (a 20) (a 12) ++ tl)) (va_A (xW cy a i r q (a 20) (a 12) ++ tl) sz)) 0 0 (va_A (xW cy a i r q (a 20) (a 12) ++ tl) sz)) (hR1 : F1 + 1 ≤ F9 ∧ 8 + (7 + 11) + L1 ≤ L9) : Met l yX6_factor (Cond.code yX6_factor cX6_factor 4 (some .boolean) :: gT) { frames := F9, cells := 0, slots := 0, locals := L9 } (va_Pc [.ref (a 10), .int p0] (rS D cy (xW cy a i r q (a 20) (a 12) ++ tl) sz kq vq)) (va_Qi (fun (z : Int32) (u : (Nat → Int32) × (Nat → Nat → Int32)) => yRi u.1 ∧ yRr u.2 ∧ mEi [4, 5, 7] i u.1 ∧ mEr [17, 18] r u.2 ∧ (z = 0 ∨ z = 1)) (fun (u : (Nat → Int32) × (Nat → Nat → Int32)) t => va_P D vwCl (xW cy a u.1 u.2 q (a 20) (a 12) ++ tl) t.heap ∧ va_K D vwCl (vT cy) t ∧ va_D (va_A (xW cy a i r q (a 20) (a 12) ++ tl) sz) (xW cy a u.1 u.2 q (a 20) (a 12) ++ tl)) (va_A (xW cy a i r q (a 20) (a 12) ++ tl) sz)) 0 0 (va_A (xW cy a i r q (a 20) (a 12) ++ tl) sz) := by
  refine Met.ofQ (cc := cX6_factor) (maxL := 4) (ret := (some .boolean)) (by decide) rfl ?_
  intro p e s m args below meth c s₁ B hml hv Q hQ
  obtain ⟨rfl, hsk, hsz, hP, hK, hD0⟩ := hv
  have hx := B.exec
  have hb := B.bytes
  have hr := B.returns
  have hlocks := B.notSynchronized
  have hT : ∀ w ∈ gT, w.before _ s = true := fun w h => atoms_spec (ws := (Cond.code yX6_factor cX6_factor 4 (some .boolean) :: gT)) B.pre w (List.mem_cons_of_mem _ h)
  have hown : s.vm.findClass RX6 = some m.cls := findClass_of_methodNamed B.named
  subst hsz
  have hD := hD0.self (sz := s.heap.size)
  generalize hAe : va_A (xW cy a i r q (a 20) (a 12) ++ tl) s.heap.size = A at hD hQ hsk
  have hA : ∀ q : Nat, s.heap.size ≤ q → A q := fun q h => by rw [← hAe]; exact Or.inr h
  have hS : va_S A s.heap s.heap [] := va_S.rf
  have hl := lv_entry ([.ref (a 10), .int p0]) (n := 4) (Nat.le_of_ble_eq_true rfl)
  rw [lg_entry_eq]
  generalize (lg_sl ([.ref (a 10), .int p0]) ++ List.replicate (4 - (lg_sl ([.ref (a 10), .int p0])).length) Slot.unset).toArray = ls at hl ⊢
  have hl : lv_has ls 4 [(0, .ref (a 10)), (1, .int p0)] := hl
  have hEi : mEi [4, 5, 7] i i := Ei_rf
  have hEr : mEr [17, 18] r r := Er_rf
  refine lv_aload_n hx hb dX6_factor_0 rfl (lv_at hl 0 rfl) ?_
  refine vp_callSi (W.runV (As := []) (rest := []) ⟨hx, hb, hml, hown, hT⟩ (c_X6_peek l D cy a i r q tl hRi hRr) (cwV 0 hT (gV t_652 t_654 t_655 t_656 t_653) rfl rfl rfl (by decide +kernel) ⟨Nat.le_trans (m := 5) (Nat.le_of_ble_eq_true rfl) hF9.1, Nat.le_trans (m := 115) (Nat.le_of_ble_eq_true rfl) hF9.2⟩) (rP_v hP hK (va_recv hK hP (ci := 6) (q0 := 10) rfl rfl)) rfl rfl hl.1 rfl (lv_room (Nat.le_of_ble_eq_true rfl)) dX6_factor_1 ⟨Nat.le_of_ble_eq_true rfl, Nat.le_of_ble_eq_true rfl⟩) (fun r_1 hr_1 => ?_)
  have hr_1 : -1 ≤ r_1.toInt ∧ r_1.toInt ≤ 255 := hr_1
  refine lv_istore_n (lv' := [(2, .int r_1), (0, .ref (a 10)), (1, .int p0)]) hx hb dX6_factor_4 rfl hl (by decide) rfl (fun ls hl => ?_)
  refine lv_iload_n hx hb dX6_factor_5 rfl (lv_at hl 0 rfl) ?_
  refine lv_bipush (v := 91) hx hb dX6_factor_6 (by decide) ?_
  refine lv_icmp_ne (tgt := 59) hx hb dX6_factor_8 (by decide) (fun c_2 => ?_) (fun c_2 => ?_)
  · have c_2 : r_1.toInt ≠ 91 := b_ne c_2
    refine lv_iload_n hx hb dX6_factor_59 rfl (lv_at hl 0 rfl) ?_
    refine lv_bipush (v := 48) hx hb dX6_factor_60 (by decide) ?_
    refine lv_icmp_lt (tgt := 76) hx hb dX6_factor_62 (by decide) (fun c_3 => ?_) (fun c_3 => ?_)
    · have c_3 : r_1.toInt < 48 := b_lt c_3
      refine lv_iload_n hx hb dX6_factor_76 rfl (lv_at hl 0 rfl) ?_
      refine lv_iconst (v := (-1)) hx hb dX6_factor_77 (by decide) ?_
      refine lv_icmp_ne (tgt := 85) hx hb dX6_factor_78 (by decide) (fun c_4 => ?_) (fun c_4 => ?_)
      · have c_4 : r_1.toInt ≠ (-1) := b_ne c_4
        refine va_ldcS hx hb hown hsk.1 dX6_factor_85 ?_
        refine lv_iload_n hx hb dX6_factor_87 rfl (lv_at hl 0 rfl) ?_
        obtain ⟨v_5, ev_5⟩ : ∃ y : Int32, (r_1.toUInt32 % 65536).toInt32 = y := ⟨_, rfl⟩
        refine lv_i2c (v := v_5) hx hb dX6_factor_88 ev_5 ?_
        refine vp_callSi (W.runV (As := [.int v_5]) (rest := []) ⟨hx, hb, hml, hown, hT⟩ (c_J0_indexOf_0f7a4 l kq vq v_5) (cwV 1 hT (gV t_666 t_667 t_668 t_669 t_615) rfl rfl rfl (by decide +kernel) ⟨Nat.le_trans (m := 5) (Nat.le_of_ble_eq_true rfl) hF9.1, Nat.le_trans (m := 115) (Nat.le_of_ble_eq_true rfl) hF9.2⟩) (sJ_v hsk.2 hS) rfl rfl hl.1 rfl (lv_room (Nat.le_of_ble_eq_true rfl)) dX6_factor_89 ⟨Nat.le_of_ble_eq_true rfl, Nat.le_of_ble_eq_true rfl⟩) (fun r_6 hr_6 => ?_)
        have hr_6 : -1 ≤ r_6.toInt ∧ r_6.toInt ≤ 9 := hr_6
        refine lv_istore_n (lv' := [(3, .int r_6), (2, .int r_1), (0, .ref (a 10)), (1, .int p0)]) hx hb dX6_factor_92 rfl hl (by decide) rfl (fun ls hl => ?_)
        refine lv_iload_n hx hb dX6_factor_93 rfl (lv_at hl 0 rfl) ?_
        refine lv_if_ge (tgt := 103) hx hb dX6_factor_94 (by decide) (fun c_7 => ?_) (fun c_7 => ?_)
        · have c_7 : 0 ≤ r_6.toInt := b_le c_7
          refine lv_aload_n hx hb dX6_factor_103 rfl (lv_at hl 2 rfl) ?_
          refine lv_dup hx hb dX6_factor_104 rfl ?_
          refine va_get (D := D) (ci := 6) (v := .int (i 4)) (C := RX6) (T := TX6) (N := 5) hx hb hT iX6 hown hK hP 10 rfl rfl 3 (by decide) (hT _ t_648) (fun _ h9 => h9) rfl dX6_factor_105 ?_
          refine lv_iconst (v := 1) hx hb dX6_factor_108 (by decide) ?_
          refine lv_iadd hx hb dX6_factor_109 ?_
          refine lv_topi (fun v_8 ev_8 => ?_)
          refine va_put (D := D) (ci := 6) (v := .int v_8) (ty := .int) (C := RX6) (T := TX6) (N := 5) hx hb hT iX6 tyX6 tyX6_ok nmX6 hown hK hP hD hS 10 rfl rfl 3 (by decide) (hT _ t_648) (fun _ h9 => h9) rfl (by decide +kernel) rfl rfl (Nat.le_of_ble_eq_true rfl) dX6_factor_110 (fun H locs hP hD hS => ?_)
          rw [zP4] at hP hD
          have hRi := Yi_upd hRi 4 v_8 (b_rg _)
          have hEi := Ei_upd hEi 4 v_8 (by decide)
          refine lv_aload_n hx hb dX6_factor_113 rfl (lv_at hl 2 rfl) ?_
          refine va_get (D := D) (ci := 6) (v := .ref (a 12)) (C := RX6) (T := TX6) (N := 5) hx hb hT iX6 hown hK hP 10 rfl rfl 0 (by decide) (hT _ t_661) (fun _ h9 => h9) rfl dX6_factor_114 ?_
          refine lv_bipush (v := 107) hx hb dX6_factor_117 (by decide) ?_
          refine lv_iload_n hx hb dX6_factor_119 rfl (lv_at hl 0 rfl) ?_
          have hF_9 := rF hD hS hA
          refine va_calli (va_runV (As := [.int 107, .int r_6]) (rest := []) ⟨hx, hb, hml, hown, hT⟩ (c_X5_add l D cy a (upd i 4 v_8) r q tl 107 r_6 _ hRi hRr) (cwV 2 hT (gV t_662 t_663 t_664 t_665 t_367) rfl rfl rfl (by decide +kernel) ⟨Nat.le_trans (m := 5) (Nat.le_of_ble_eq_true rfl) hF9.1, Nat.le_trans (m := 115) (Nat.le_of_ble_eq_true rfl) hF9.2⟩) (rQ_v hP hK hD (va_recv hK hP (ci := 5) (q0 := 12) rfl rfl)) rfl rfl hl.1 rfl (lv_room (Nat.le_of_ble_eq_true rfl)) dX6_factor_120 ⟨Nat.le_of_ble_eq_true rfl, Nat.le_of_ble_eq_true rfl⟩) hS (fun q _ h => hF_9 q h) hF_9 (fun r_10 u_11 t H1 locs ht hvm hr_10 hB hz1 hk1 hS => ?_)
          obtain ⟨i11, r11⟩ := u_11
          obtain ⟨hP, hK1, hD1⟩ := hB
          rw [ht] at hP
          have hD := hD1.weaken (fun k q _ h => hF_9 q.1 h)
          obtain ⟨hRi, hRr, hE1, hE2, hr_10⟩ := hr_10
          have hRi : yRi i11 := hRi
          have hE1 : mEi [7] (upd i 4 v_8) i11 := hE1
          have hRr : yRr r11 := hRr
          have hE2 : mEr [17, 18] r r11 := hE2
          have hP : va_P D vwCl (xW cy a i11 r11 q (a 20) (a 12) ++ tl) H1 := hP
          have hD : va_D A (xW cy a i11 r11 q (a 20) (a 12) ++ tl) := hD
          have hEi : mEi [4, 5, 7] _ i11 := Ei_tr hEi hE1 (by decide)
          have hEr : mEr [17, 18] _ r11 := Er_tr hEr hE2 (by decide)
          refine lv_pop hx hb dX6_factor_123 rfl ?_
          refine lv_iconst (v := 1) hx hb dX6_factor_124 (by decide) ?_
          subst hQ
          exact W.zret hx hb hr rfl (fun t ht hW => ⟨⟨_, (i11, r11), rfl, ⟨hRi, hRr, hEi, hEr, Or.inr rfl⟩, by rw [ht]; exact hP, va_K.moved hW.alike hK, hD⟩, hS.F ht⟩) hS.2.2 dX6_factor_125
        · have c_7 : r_6.toInt < 0 := b_nle c_7
          refine lv_aload_n hx hb dX6_factor_97 rfl (lv_at hl 2 rfl) ?_
          refine lv_iconst (v := 1) hx hb dX6_factor_98 (by decide) ?_
          have hF_12 := rF hD hS hA
          refine va_calli (va_runV (As := [.int 1]) (rest := []) ⟨hx, hb, hml, hown, hT⟩ (c_X6_refuse l D cy a i r q tl 1 _ hRi hRr) (cwV 1 hT (gV t_657 t_658 t_659 t_660 t_653) rfl rfl rfl (by decide +kernel) ⟨Nat.le_trans (m := 5) (Nat.le_of_ble_eq_true rfl) hF9.1, Nat.le_trans (m := 115) (Nat.le_of_ble_eq_true rfl) hF9.2⟩) (rQ_v hP hK hD (va_recv hK hP (ci := 6) (q0 := 10) rfl rfl)) rfl rfl hl.1 rfl (lv_room (Nat.le_of_ble_eq_true rfl)) dX6_factor_99 ⟨Nat.le_of_ble_eq_true rfl, Nat.le_of_ble_eq_true rfl⟩) hS (fun q _ h => hF_12 q h) hF_12 (fun r_13 u_14 t H1 locs ht hvm hr_13 hB hz1 hk1 hS => ?_)
          obtain ⟨i14, r14⟩ := u_14
          obtain ⟨hP, hK1, hD1⟩ := hB
          rw [ht] at hP
          have hD := hD1.weaken (fun k q _ h => hF_12 q.1 h)
          obtain ⟨hRi, hRr, hE1, hE2, hr_13⟩ := hr_13
          have hRi : yRi i14 := hRi
          have hE1 : mEi [5] i i14 := hE1
          have hRr : yRr r14 := hRr
          have hE2 : mEr [] r r14 := hE2
          have hP : va_P D vwCl (xW cy a i14 r14 q (a 20) (a 12) ++ tl) H1 := hP
          have hD : va_D A (xW cy a i14 r14 q (a 20) (a 12) ++ tl) := hD
          have hEi : mEi [4, 5, 7] _ i14 := Ei_tr hEi hE1 (by decide)
          have hEr : mEr [17, 18] _ r14 := Er_tr hEr hE2 (by decide)
          subst hr_13
          subst hQ
          exact W.zret hx hb hr rfl (fun t ht hW => ⟨⟨_, (i14, r14), rfl, ⟨hRi, hRr, hEi, hEr, Or.inl rfl⟩, by rw [ht]; exact hP, va_K.moved hW.alike hK, hD⟩, hS.F ht⟩) hS.2.2 dX6_factor_102
      · have c_4 : r_1.toInt = (-1) := b_nne c_4
        refine lv_iconst (v := (-1)) hx hb dX6_factor_81 (by decide) ?_
        refine lv_goto (tgt := 92) hx hb dX6_factor_82 (by decide) ?_
        refine lv_istore_n (lv' := [(3, .int (-1)), (2, .int r_1), (0, .ref (a 10)), (1, .int p0)]) hx hb dX6_factor_92 rfl hl (by decide) rfl (fun ls hl => ?_)
        refine lv_iload_n hx hb dX6_factor_93 rfl (lv_at hl 0 rfl) ?_
        refine lv_if_ge (tgt := 103) hx hb dX6_factor_94 (by decide) (fun c_15 => absurd c_15 (by decide)) (fun c_15 => ?_)
        refine lv_aload_n hx hb dX6_factor_97 rfl (lv_at hl 2 rfl) ?_
        refine lv_iconst (v := 1) hx hb dX6_factor_98 (by decide) ?_
        have hF_16 := rF hD hS hA
        refine va_calli (va_runV (As := [.int 1]) (rest := []) ⟨hx, hb, hml, hown, hT⟩ (c_X6_refuse l D cy a i r q tl 1 _ hRi hRr) (cwV 1 hT (gV t_657 t_658 t_659 t_660 t_653) rfl rfl rfl (by decide +kernel) ⟨Nat.le_trans (m := 5) (Nat.le_of_ble_eq_true rfl) hF9.1, Nat.le_trans (m := 115) (Nat.le_of_ble_eq_true rfl) hF9.2⟩) (rQ_v hP hK hD (va_recv hK hP (ci := 6) (q0 := 10) rfl rfl)) rfl rfl hl.1 rfl (lv_room (Nat.le_of_ble_eq_true rfl)) dX6_factor_99 ⟨Nat.le_of_ble_eq_true rfl, Nat.le_of_ble_eq_true rfl⟩) hS (fun q _ h => hF_16 q h) hF_16 (fun r_17 u_18 t H1 locs ht hvm hr_17 hB hz1 hk1 hS => ?_)
        obtain ⟨i18, r18⟩ := u_18
        obtain ⟨hP, hK1, hD1⟩ := hB
        rw [ht] at hP
        have hD := hD1.weaken (fun k q _ h => hF_16 q.1 h)
        obtain ⟨hRi, hRr, hE1, hE2, hr_17⟩ := hr_17
        have hRi : yRi i18 := hRi
        have hE1 : mEi [5] i i18 := hE1
        have hRr : yRr r18 := hRr
        have hE2 : mEr [] r r18 := hE2
        have hP : va_P D vwCl (xW cy a i18 r18 q (a 20) (a 12) ++ tl) H1 := hP
        have hD : va_D A (xW cy a i18 r18 q (a 20) (a 12) ++ tl) := hD
        have hEi : mEi [4, 5, 7] _ i18 := Ei_tr hEi hE1 (by decide)
        have hEr : mEr [17, 18] _ r18 := Er_tr hEr hE2 (by decide)
        subst hr_17
        subst hQ
        exact W.zret hx hb hr rfl (fun t ht hW => ⟨⟨_, (i18, r18), rfl, ⟨hRi, hRr, hEi, hEr, Or.inl rfl⟩, by rw [ht]; exact hP, va_K.moved hW.alike hK, hD⟩, hS.F ht⟩) hS.2.2 dX6_factor_102
    · have c_3 : 48 ≤ r_1.toInt := b_nlt c_3
      refine lv_iload_n hx hb dX6_factor_65 rfl (lv_at hl 0 rfl) ?_
      refine lv_bipush (v := 57) hx hb dX6_factor_66 (by decide) ?_
      refine lv_icmp_gt (tgt := 76) hx hb dX6_factor_68 (by decide) (fun c_19 => ?_) (fun c_19 => ?_)
      · have c_19 : 57 < r_1.toInt := b_lt c_19
        refine lv_iload_n hx hb dX6_factor_76 rfl (lv_at hl 0 rfl) ?_
        refine lv_iconst (v := (-1)) hx hb dX6_factor_77 (by decide) ?_
        refine lv_icmp_ne (tgt := 85) hx hb dX6_factor_78 (by decide) (fun c_20 => ?_) (fun c_20 => by have c_20 : r_1.toInt = (-1) := b_nne c_20; omega)
        have c_20 : r_1.toInt ≠ (-1) := b_ne c_20
        refine va_ldcS hx hb hown hsk.1 dX6_factor_85 ?_
        refine lv_iload_n hx hb dX6_factor_87 rfl (lv_at hl 0 rfl) ?_
        obtain ⟨v_21, ev_21⟩ : ∃ y : Int32, (r_1.toUInt32 % 65536).toInt32 = y := ⟨_, rfl⟩
        refine lv_i2c (v := v_21) hx hb dX6_factor_88 ev_21 ?_
        refine vp_callSi (W.runV (As := [.int v_21]) (rest := []) ⟨hx, hb, hml, hown, hT⟩ (c_J0_indexOf_0f7a4 l kq vq v_21) (cwV 1 hT (gV t_666 t_667 t_668 t_669 t_615) rfl rfl rfl (by decide +kernel) ⟨Nat.le_trans (m := 5) (Nat.le_of_ble_eq_true rfl) hF9.1, Nat.le_trans (m := 115) (Nat.le_of_ble_eq_true rfl) hF9.2⟩) (sJ_v hsk.2 hS) rfl rfl hl.1 rfl (lv_room (Nat.le_of_ble_eq_true rfl)) dX6_factor_89 ⟨Nat.le_of_ble_eq_true rfl, Nat.le_of_ble_eq_true rfl⟩) (fun r_22 hr_22 => ?_)
        have hr_22 : -1 ≤ r_22.toInt ∧ r_22.toInt ≤ 9 := hr_22
        refine lv_istore_n (lv' := [(3, .int r_22), (2, .int r_1), (0, .ref (a 10)), (1, .int p0)]) hx hb dX6_factor_92 rfl hl (by decide) rfl (fun ls hl => ?_)
        refine lv_iload_n hx hb dX6_factor_93 rfl (lv_at hl 0 rfl) ?_
        refine lv_if_ge (tgt := 103) hx hb dX6_factor_94 (by decide) (fun c_23 => ?_) (fun c_23 => ?_)
        · have c_23 : 0 ≤ r_22.toInt := b_le c_23
          refine lv_aload_n hx hb dX6_factor_103 rfl (lv_at hl 2 rfl) ?_
          refine lv_dup hx hb dX6_factor_104 rfl ?_
          refine va_get (D := D) (ci := 6) (v := .int (i 4)) (C := RX6) (T := TX6) (N := 5) hx hb hT iX6 hown hK hP 10 rfl rfl 3 (by decide) (hT _ t_648) (fun _ h9 => h9) rfl dX6_factor_105 ?_
          refine lv_iconst (v := 1) hx hb dX6_factor_108 (by decide) ?_
          refine lv_iadd hx hb dX6_factor_109 ?_
          refine lv_topi (fun v_24 ev_24 => ?_)
          refine va_put (D := D) (ci := 6) (v := .int v_24) (ty := .int) (C := RX6) (T := TX6) (N := 5) hx hb hT iX6 tyX6 tyX6_ok nmX6 hown hK hP hD hS 10 rfl rfl 3 (by decide) (hT _ t_648) (fun _ h9 => h9) rfl (by decide +kernel) rfl rfl (Nat.le_of_ble_eq_true rfl) dX6_factor_110 (fun H locs hP hD hS => ?_)
          rw [zP4] at hP hD
          have hRi := Yi_upd hRi 4 v_24 (b_rg _)
          have hEi := Ei_upd hEi 4 v_24 (by decide)
          refine lv_aload_n hx hb dX6_factor_113 rfl (lv_at hl 2 rfl) ?_
          refine va_get (D := D) (ci := 6) (v := .ref (a 12)) (C := RX6) (T := TX6) (N := 5) hx hb hT iX6 hown hK hP 10 rfl rfl 0 (by decide) (hT _ t_661) (fun _ h9 => h9) rfl dX6_factor_114 ?_
          refine lv_bipush (v := 107) hx hb dX6_factor_117 (by decide) ?_
          refine lv_iload_n hx hb dX6_factor_119 rfl (lv_at hl 0 rfl) ?_
          have hF_25 := rF hD hS hA
          refine va_calli (va_runV (As := [.int 107, .int r_22]) (rest := []) ⟨hx, hb, hml, hown, hT⟩ (c_X5_add l D cy a (upd i 4 v_24) r q tl 107 r_22 _ hRi hRr) (cwV 2 hT (gV t_662 t_663 t_664 t_665 t_367) rfl rfl rfl (by decide +kernel) ⟨Nat.le_trans (m := 5) (Nat.le_of_ble_eq_true rfl) hF9.1, Nat.le_trans (m := 115) (Nat.le_of_ble_eq_true rfl) hF9.2⟩) (rQ_v hP hK hD (va_recv hK hP (ci := 5) (q0 := 12) rfl rfl)) rfl rfl hl.1 rfl (lv_room (Nat.le_of_ble_eq_true rfl)) dX6_factor_120 ⟨Nat.le_of_ble_eq_true rfl, Nat.le_of_ble_eq_true rfl⟩) hS (fun q _ h => hF_25 q h) hF_25 (fun r_26 u_27 t H1 locs ht hvm hr_26 hB hz1 hk1 hS => ?_)
          obtain ⟨i27, r27⟩ := u_27
          obtain ⟨hP, hK1, hD1⟩ := hB
          rw [ht] at hP
          have hD := hD1.weaken (fun k q _ h => hF_25 q.1 h)
          obtain ⟨hRi, hRr, hE1, hE2, hr_26⟩ := hr_26
          have hRi : yRi i27 := hRi
          have hE1 : mEi [7] (upd i 4 v_24) i27 := hE1
          have hRr : yRr r27 := hRr
          have hE2 : mEr [17, 18] r r27 := hE2
          have hP : va_P D vwCl (xW cy a i27 r27 q (a 20) (a 12) ++ tl) H1 := hP
          have hD : va_D A (xW cy a i27 r27 q (a 20) (a 12) ++ tl) := hD
          have hEi : mEi [4, 5, 7] _ i27 := Ei_tr hEi hE1 (by decide)
          have hEr : mEr [17, 18] _ r27 := Er_tr hEr hE2 (by decide)
          refine lv_pop hx hb dX6_factor_123 rfl ?_
          refine lv_iconst (v := 1) hx hb dX6_factor_124 (by decide) ?_
          subst hQ
          exact W.zret hx hb hr rfl (fun t ht hW => ⟨⟨_, (i27, r27), rfl, ⟨hRi, hRr, hEi, hEr, Or.inr rfl⟩, by rw [ht]; exact hP, va_K.moved hW.alike hK, hD⟩, hS.F ht⟩) hS.2.2 dX6_factor_125
        · have c_23 : r_22.toInt < 0 := b_nle c_23
          refine lv_aload_n hx hb dX6_factor_97 rfl (lv_at hl 2 rfl) ?_
          refine lv_iconst (v := 1) hx hb dX6_factor_98 (by decide) ?_
          have hF_28 := rF hD hS hA
          refine va_calli (va_runV (As := [.int 1]) (rest := []) ⟨hx, hb, hml, hown, hT⟩ (c_X6_refuse l D cy a i r q tl 1 _ hRi hRr) (cwV 1 hT (gV t_657 t_658 t_659 t_660 t_653) rfl rfl rfl (by decide +kernel) ⟨Nat.le_trans (m := 5) (Nat.le_of_ble_eq_true rfl) hF9.1, Nat.le_trans (m := 115) (Nat.le_of_ble_eq_true rfl) hF9.2⟩) (rQ_v hP hK hD (va_recv hK hP (ci := 6) (q0 := 10) rfl rfl)) rfl rfl hl.1 rfl (lv_room (Nat.le_of_ble_eq_true rfl)) dX6_factor_99 ⟨Nat.le_of_ble_eq_true rfl, Nat.le_of_ble_eq_true rfl⟩) hS (fun q _ h => hF_28 q h) hF_28 (fun r_29 u_30 t H1 locs ht hvm hr_29 hB hz1 hk1 hS => ?_)
          obtain ⟨i30, r30⟩ := u_30
          obtain ⟨hP, hK1, hD1⟩ := hB
          rw [ht] at hP
          have hD := hD1.weaken (fun k q _ h => hF_28 q.1 h)
          obtain ⟨hRi, hRr, hE1, hE2, hr_29⟩ := hr_29
          have hRi : yRi i30 := hRi
          have hE1 : mEi [5] i i30 := hE1
          have hRr : yRr r30 := hRr
          have hE2 : mEr [] r r30 := hE2
          have hP : va_P D vwCl (xW cy a i30 r30 q (a 20) (a 12) ++ tl) H1 := hP
          have hD : va_D A (xW cy a i30 r30 q (a 20) (a 12) ++ tl) := hD
          have hEi : mEi [4, 5, 7] _ i30 := Ei_tr hEi hE1 (by decide)
          have hEr : mEr [17, 18] _ r30 := Er_tr hEr hE2 (by decide)
          subst hr_29
          subst hQ
          exact W.zret hx hb hr rfl (fun t ht hW => ⟨⟨_, (i30, r30), rfl, ⟨hRi, hRr, hEi, hEr, Or.inl rfl⟩, by rw [ht]; exact hP, va_K.moved hW.alike hK, hD⟩, hS.F ht⟩) hS.2.2 dX6_factor_102
      · have c_19 : r_1.toInt ≤ 57 := b_nlt c_19
        refine lv_aload_n hx hb dX6_factor_71 rfl (lv_at hl 1 rfl) ?_
        have hF_31 := rF hD hS hA
        refine va_calli (va_runV (As := []) (rest := []) ⟨hx, hb, hml, hown, hT⟩ (c_X6_number l D cy a i r q tl _ hRi hRr) (cwV 0 hT (gV t_670 t_671 t_672 t_673 t_653) rfl rfl rfl (by decide +kernel) ⟨Nat.le_trans (m := 5) (Nat.le_of_ble_eq_true rfl) hF9.1, Nat.le_trans (m := 115) (Nat.le_of_ble_eq_true rfl) hF9.2⟩) (rQ_v hP hK hD (va_recv hK hP (ci := 6) (q0 := 10) rfl rfl)) rfl rfl hl.1 rfl (lv_room (Nat.le_of_ble_eq_true rfl)) dX6_factor_72 ⟨Nat.le_of_ble_eq_true rfl, Nat.le_of_ble_eq_true rfl⟩) hS (fun q _ h => hF_31 q h) hF_31 (fun r_32 u_33 t H1 locs ht hvm hr_32 hB hz1 hk1 hS => ?_)
        obtain ⟨i33, r33⟩ := u_33
        obtain ⟨hP, hK1, hD1⟩ := hB
        rw [ht] at hP
        have hD := hD1.weaken (fun k q _ h => hF_31 q.1 h)
        obtain ⟨hRi, hRr, hE1, hE2, hr_32⟩ := hr_32
        have hRi : yRi i33 := hRi
        have hE1 : mEi [4, 5, 7] i i33 := hE1
        have hRr : yRr r33 := hRr
        have hE2 : mEr [17, 18] r r33 := hE2
        have hP : va_P D vwCl (xW cy a i33 r33 q (a 20) (a 12) ++ tl) H1 := hP
        have hD : va_D A (xW cy a i33 r33 q (a 20) (a 12) ++ tl) := hD
        have hEi : mEi [4, 5, 7] _ i33 := Ei_tr hEi hE1 (by decide)
        have hEr : mEr [17, 18] _ r33 := Er_tr hEr hE2 (by decide)
        rcases hr_32 with rfl | rfl
        · skip
          subst hQ
          exact W.zret hx hb hr rfl (fun t ht hW => ⟨⟨_, (i33, r33), rfl, ⟨hRi, hRr, hEi, hEr, Or.inl rfl⟩, by rw [ht]; exact hP, va_K.moved hW.alike hK, hD⟩, hS.F ht⟩) hS.2.2 dX6_factor_75
        · skip
          subst hQ
          exact W.zret hx hb hr rfl (fun t ht hW => ⟨⟨_, (i33, r33), rfl, ⟨hRi, hRr, hEi, hEr, Or.inr rfl⟩, by rw [ht]; exact hP, va_K.moved hW.alike hK, hD⟩, hS.F ht⟩) hS.2.2 dX6_factor_75
  · have c_2 : r_1.toInt = 91 := b_nne c_2
    refine lv_iload_n hx hb dX6_factor_11 rfl (lv_at hl 2 rfl) ?_
    refine lv_bipush (v := 6) hx hb dX6_factor_12 (by decide) ?_
    refine lv_icmp_lt (tgt := 23) hx hb dX6_factor_14 (by decide) (fun c_34 => ?_) (fun c_34 => ?_)
    · have c_34 : p0.toInt < 6 := b_lt c_34
      refine lv_aload_n hx hb dX6_factor_23 rfl (lv_at hl 1 rfl) ?_
      refine lv_dup hx hb dX6_factor_24 rfl ?_
      refine va_get (D := D) (ci := 6) (v := .int (i 4)) (C := RX6) (T := TX6) (N := 5) hx hb hT iX6 hown hK hP 10 rfl rfl 3 (by decide) (hT _ t_648) (fun _ h9 => h9) rfl dX6_factor_25 ?_
      refine lv_iconst (v := 1) hx hb dX6_factor_28 (by decide) ?_
      refine lv_iadd hx hb dX6_factor_29 ?_
      refine lv_topi (fun v_35 ev_35 => ?_)
      refine va_put (D := D) (ci := 6) (v := .int v_35) (ty := .int) (C := RX6) (T := TX6) (N := 5) hx hb hT iX6 tyX6 tyX6_ok nmX6 hown hK hP hD hS 10 rfl rfl 3 (by decide) (hT _ t_648) (fun _ h9 => h9) rfl (by decide +kernel) rfl rfl (Nat.le_of_ble_eq_true rfl) dX6_factor_30 (fun H locs hP hD hS => ?_)
      rw [zP4] at hP hD
      have hRi := Yi_upd hRi 4 v_35 (b_rg _)
      have hEi := Ei_upd hEi 4 v_35 (by decide)
      refine lv_aload_n hx hb dX6_factor_33 rfl (lv_at hl 1 rfl) ?_
      refine lv_iload_n hx hb dX6_factor_34 rfl (lv_at hl 2 rfl) ?_
      refine lv_iconst (v := 1) hx hb dX6_factor_35 (by decide) ?_
      refine lv_iadd hx hb dX6_factor_36 ?_
      refine lv_topi (fun v_36 ev_36 => ?_)
      have hv_36 : v_36.toInt = p0.toInt + 1 := by rw [ev_36]; have := b_rg p0; exact i_add (a := p0.toInt) (b := 1) rfl rfl (by omega) (by omega)
      refine lv_iconst (v := 1) hx hb dX6_factor_37 (by decide) ?_
      have hF_37 := rF hD hS hA
      refine va_calli (va_runV (As := [.int v_36, .int 1]) (rest := []) ⟨hx, hb, hml, hown, hT⟩ (hX1 v_36 (by omega) (by omega) (upd i 4 v_35) r _ hRi hRr) (cwV 2 hT (gV t_674 t_675 t_676 t_677 t_653) rfl rfl rfl (by decide +kernel) hR1) (rS_v hsk hS hF_37 hP hK hD (va_recv hK hP (ci := 6) (q0 := 10) rfl rfl)) rfl rfl hl.1 rfl (lv_room (Nat.le_of_ble_eq_true rfl)) dX6_factor_38 ⟨Nat.le_of_ble_eq_true rfl, Nat.le_of_ble_eq_true rfl⟩) hS (fun q _ h => hF_37 q h) hF_37 (fun r_38 u_39 t H1 locs ht hvm hr_38 hB hz1 hk1 hS => ?_)
      obtain ⟨i39, r39⟩ := u_39
      obtain ⟨hP, hK1, hD1⟩ := hB
      rw [ht] at hP
      have hD := hD1.weaken (fun k q _ h => hF_37 q.1 h)
      obtain ⟨hRi, hRr, hE1, hE2, hr_38⟩ := hr_38
      have hRi : yRi i39 := hRi
      have hE1 : mEi [4, 5, 7] (upd i 4 v_35) i39 := hE1
      have hRr : yRr r39 := hRr
      have hE2 : mEr [17, 18] r r39 := hE2
      have hP : va_P D vwCl (xW cy a i39 r39 q (a 20) (a 12) ++ tl) H1 := hP
      have hD : va_D A (xW cy a i39 r39 q (a 20) (a 12) ++ tl) := hD
      have hEi : mEi [4, 5, 7] _ i39 := Ei_tr hEi hE1 (by decide)
      have hEr : mEr [17, 18] _ r39 := Er_tr hEr hE2 (by decide)
      rcases hr_38 with rfl | rfl
      · skip
        refine lv_if_eq (tgt := 57) hx hb dX6_factor_41 (by decide) (fun c_40 => ?_) (fun c_40 => absurd (by decide) c_40)
        refine lv_iconst (v := 0) hx hb dX6_factor_57 (by decide) ?_
        subst hQ
        exact W.zret hx hb hr rfl (fun t ht hW => ⟨⟨_, (i39, r39), rfl, ⟨hRi, hRr, hEi, hEr, Or.inl rfl⟩, by rw [ht]; exact hP, va_K.moved hW.alike hK, hD⟩, hS.F ht⟩) hS.2.2 dX6_factor_58
      · skip
        refine lv_if_eq (tgt := 57) hx hb dX6_factor_41 (by decide) (fun c_41 => absurd c_41 (by decide)) (fun c_41 => ?_)
        refine lv_aload_n hx hb dX6_factor_44 rfl (lv_at hl 1 rfl) ?_
        refine lv_bipush (v := 93) hx hb dX6_factor_45 (by decide) ?_
        have hF_42 := rF hD hS hA
        refine va_calli (va_runV (As := [.int 93]) (rest := []) ⟨hx, hb, hml, hown, hT⟩ (c_X6_pass l D cy a i39 r39 q tl 93 _ hRi hRr) (cwV 1 hT (gV t_678 t_679 t_680 t_681 t_653) rfl rfl rfl (by decide +kernel) ⟨Nat.le_trans (m := 5) (Nat.le_of_ble_eq_true rfl) hF9.1, Nat.le_trans (m := 115) (Nat.le_of_ble_eq_true rfl) hF9.2⟩) (rQ_v hP hK hD (va_recv hK hP (ci := 6) (q0 := 10) rfl rfl)) rfl rfl hl.1 rfl (lv_room (Nat.le_of_ble_eq_true rfl)) dX6_factor_47 ⟨Nat.le_of_ble_eq_true rfl, Nat.le_of_ble_eq_true rfl⟩) hS (fun q _ h => hF_42 q h) hF_42 (fun r_43 u_44 t H1 locs ht hvm hr_43 hB hz1 hk1 hS => ?_)
        obtain ⟨i44, r44⟩ := u_44
        obtain ⟨hP, hK1, hD1⟩ := hB
        rw [ht] at hP
        have hD := hD1.weaken (fun k q _ h => hF_42 q.1 h)
        obtain ⟨hRi, hRr, hE1, hE2, hr_43⟩ := hr_43
        have hRi : yRi i44 := hRi
        have hE1 : mEi [4, 5] i39 i44 := hE1
        have hRr : yRr r44 := hRr
        have hE2 : mEr [] r39 r44 := hE2
        have hP : va_P D vwCl (xW cy a i44 r44 q (a 20) (a 12) ++ tl) H1 := hP
        have hD : va_D A (xW cy a i44 r44 q (a 20) (a 12) ++ tl) := hD
        have hEi : mEi [4, 5, 7] _ i44 := Ei_tr hEi hE1 (by decide)
        have hEr : mEr [17, 18] _ r44 := Er_tr hEr hE2 (by decide)
        rcases hr_43 with rfl | rfl
        · skip
          refine lv_if_eq (tgt := 57) hx hb dX6_factor_50 (by decide) (fun c_45 => ?_) (fun c_45 => absurd (by decide) c_45)
          refine lv_iconst (v := 0) hx hb dX6_factor_57 (by decide) ?_
          subst hQ
          exact W.zret hx hb hr rfl (fun t ht hW => ⟨⟨_, (i44, r44), rfl, ⟨hRi, hRr, hEi, hEr, Or.inl rfl⟩, by rw [ht]; exact hP, va_K.moved hW.alike hK, hD⟩, hS.F ht⟩) hS.2.2 dX6_factor_58
        · skip
          refine lv_if_eq (tgt := 57) hx hb dX6_factor_50 (by decide) (fun c_46 => absurd c_46 (by decide)) (fun c_46 => ?_)
          refine lv_iconst (v := 1) hx hb dX6_factor_53 (by decide) ?_
          refine lv_goto (tgt := 58) hx hb dX6_factor_54 (by decide) ?_
          subst hQ
          exact W.zret hx hb hr rfl (fun t ht hW => ⟨⟨_, (i44, r44), rfl, ⟨hRi, hRr, hEi, hEr, Or.inr rfl⟩, by rw [ht]; exact hP, va_K.moved hW.alike hK, hD⟩, hS.F ht⟩) hS.2.2 dX6_factor_58
    · have c_34 : 6 ≤ p0.toInt := b_nlt c_34
      refine lv_aload_n hx hb dX6_factor_17 rfl (lv_at hl 1 rfl) ?_
      refine lv_iconst (v := 5) hx hb dX6_factor_18 (by decide) ?_
      have hF_47 := rF hD hS hA
      refine va_calli (va_runV (As := [.int 5]) (rest := []) ⟨hx, hb, hml, hown, hT⟩ (c_X6_refuse l D cy a i r q tl 5 _ hRi hRr) (cwV 1 hT (gV t_657 t_658 t_659 t_660 t_653) rfl rfl rfl (by decide +kernel) ⟨Nat.le_trans (m := 5) (Nat.le_of_ble_eq_true rfl) hF9.1, Nat.le_trans (m := 115) (Nat.le_of_ble_eq_true rfl) hF9.2⟩) (rQ_v hP hK hD (va_recv hK hP (ci := 6) (q0 := 10) rfl rfl)) rfl rfl hl.1 rfl (lv_room (Nat.le_of_ble_eq_true rfl)) dX6_factor_19 ⟨Nat.le_of_ble_eq_true rfl, Nat.le_of_ble_eq_true rfl⟩) hS (fun q _ h => hF_47 q h) hF_47 (fun r_48 u_49 t H1 locs ht hvm hr_48 hB hz1 hk1 hS => ?_)
      obtain ⟨i49, r49⟩ := u_49
      obtain ⟨hP, hK1, hD1⟩ := hB
      rw [ht] at hP
      have hD := hD1.weaken (fun k q _ h => hF_47 q.1 h)
      obtain ⟨hRi, hRr, hE1, hE2, hr_48⟩ := hr_48
      have hRi : yRi i49 := hRi
      have hE1 : mEi [5] i i49 := hE1
      have hRr : yRr r49 := hRr
      have hE2 : mEr [] r r49 := hE2
      have hP : va_P D vwCl (xW cy a i49 r49 q (a 20) (a 12) ++ tl) H1 := hP
      have hD : va_D A (xW cy a i49 r49 q (a 20) (a 12) ++ tl) := hD
      have hEi : mEi [4, 5, 7] _ i49 := Ei_tr hEi hE1 (by decide)
      have hEr : mEr [17, 18] _ r49 := Er_tr hEr hE2 (by decide)
      subst hr_48
      subst hQ
      exact W.zret hx hb hr rfl (fun t ht hW => ⟨⟨_, (i49, r49), rfl, ⟨hRi, hRr, hEi, hEr, Or.inl rfl⟩, by rw [ht]; exact hP, va_K.moved hW.alike hK, hD⟩, hS.F ht⟩) hS.2.2 dX6_factor_22
set_option maxHeartbeats 4000000 in
set_option maxRecDepth 100000 in
theorem c_X6_expression_kg0 (l : Launch) (D : va_G) (cy : Nat → ClassId) (a : Nat → Nat) (i : Nat → Int32) (r : Nat → Nat → Int32) (q : Nat → Option Nat) (tl : va_W) (kq vq : Nat) (p0 : Int32) (sz : Nat) (hRi : yRi i) (hRr : yRr r) (F9 L9 F1 L1 : Nat) (hF9 : 2 ≤ F9 ∧ 46 ≤ L9) (q0 : 0 ≤ p0.toInt ∧ p0.toInt ≤ 6) (hX1 : ∀ k9 : Int32, k9 = p0 → ∀ (i : Nat → Int32) (r : Nat → Nat → Int32) (sz : Nat) (hRi : yRi i) (hRr : yRr r), Met l yX6_factor (Cond.code yX6_factor cX6_factor 4 (some .boolean) :: gT) { frames := F1, cells := 0, slots := 0, locals := L1 } (va_Pc [.ref (a 10), .int k9] (rS D cy (xW cy a i r q (a 20) (a 12) ++ tl) sz kq vq)) (va_Qi (fun (z : Int32) (u : (Nat → Int32) × (Nat → Nat → Int32)) => yRi u.1 ∧ yRr u.2 ∧ mEi [4, 5, 7] i u.1 ∧ mEr [17, 18] r u.2 ∧ (z = 0 ∨ z = 1)) (fun (u : (Nat → Int32) × (Nat → Nat → Int32)) t => va_P D vwCl (xW cy a u.1 u.2 q (a 20) (a 12) ++ tl) t.heap ∧ va_K D vwCl (vT cy) t ∧ va_D (va_A (xW cy a i r q (a 20) (a 12) ++ tl) sz) (xW cy a u.1 u.2 q (a 20) (a 12) ++ tl)) (va_A (xW cy a i r q (a 20) (a 12) ++ tl) sz)) 0 0 (va_A (xW cy a i r q (a 20) (a 12) ++ tl) sz)) (hR1 : F1 + 1 ≤ F9 ∧ 8 + (4 + 11) + L1 ≤ L9) : Met l yX6_expression (Cond.code yX6_expression cX6_expression 7 (some .boolean) :: gT) { frames := F9, cells := 0, slots := 0, locals := L9 } (va_Pc [.ref (a 10), .int p0, .int 0] (rS D cy (xW cy a i r q (a 20) (a 12) ++ tl) sz kq vq)) (va_Qi (fun (z : Int32) (u : (Nat → Int32) × (Nat → Nat → Int32)) => yRi u.1 ∧ yRr u.2 ∧ mEi [4, 5, 7] i u.1 ∧ mEr [17, 18] r u.2 ∧ (z = 0 ∨ z = 1)) (fun (u : (Nat → Int32) × (Nat → Nat → Int32)) t => va_P D vwCl (xW cy a u.1 u.2 q (a 20) (a 12) ++ tl) t.heap ∧ va_K D vwCl (vT cy) t ∧ va_D (va_A (xW cy a i r q (a 20) (a 12) ++ tl) sz) (xW cy a u.1 u.2 q (a 20) (a 12) ++ tl)) (va_A (xW cy a i r q (a 20) (a 12) ++ tl) sz)) 0 0 (va_A (xW cy a i r q (a 20) (a 12) ++ tl) sz) := by
  refine Met.ofQ (cc := cX6_expression) (maxL := 7) (ret := (some .boolean)) (by decide) rfl ?_
  intro p e s m args below meth c s₁ B hml hv Q hQ
  obtain ⟨rfl, hsk, hsz, hP, hK, hD0⟩ := hv
  have hx := B.exec
  have hb := B.bytes
  have hr := B.returns
  have hlocks := B.notSynchronized
  have hT : ∀ w ∈ gT, w.before _ s = true := fun w h => atoms_spec (ws := (Cond.code yX6_expression cX6_expression 7 (some .boolean) :: gT)) B.pre w (List.mem_cons_of_mem _ h)
  have hown : s.vm.findClass RX6 = some m.cls := findClass_of_methodNamed B.named
  subst hsz
  have hD := hD0.self (sz := s.heap.size)
  generalize hAe : va_A (xW cy a i r q (a 20) (a 12) ++ tl) s.heap.size = A at hD hQ hsk
  have hA : ∀ q : Nat, s.heap.size ≤ q → A q := fun q h => by rw [← hAe]; exact Or.inr h
  have hS : va_S A s.heap s.heap [] := va_S.rf
  have hl := lv_entry ([.ref (a 10), .int p0, .int 0]) (n := 7) (Nat.le_of_ble_eq_true rfl)
  rw [lg_entry_eq]
  generalize (lg_sl ([.ref (a 10), .int p0, .int 0]) ++ List.replicate (7 - (lg_sl ([.ref (a 10), .int p0, .int 0])).length) Slot.unset).toArray = ls at hl ⊢
  have hl : lv_has ls 7 [(0, .ref (a 10)), (1, .int p0), (2, .int 0)] := hl
  have hEi : mEi [4, 5, 7] i i := Ei_rf
  have hEr : mEr [17, 18] r r := Er_rf
  refine lv_iconst (v := (-1)) hx hb dX6_expression_0 (by decide) ?_
  refine lv_istore_n (lv' := [(3, .int (-1)), (0, .ref (a 10)), (1, .int p0), (2, .int 0)]) hx hb dX6_expression_1 rfl hl (by decide) rfl (fun ls hl => ?_)
  refine lv_iconst (v := 0) hx hb dX6_expression_2 (by decide) ?_
  refine lv_istore (lv' := [(4, .int 0), (3, .int (-1)), (0, .ref (a 10)), (1, .int p0), (2, .int 0)]) hx hb dX6_expression_3 hl (by decide) rfl (fun ls hl => ?_)
  have loop_1 : ∀ (n : Nat) (x1_4 : Int32) (x1_3 : Int32) (i1 : Nat → Int32) (r1 : Nat → Nat → Int32) (H : Heap) (locs : List Loc) (ls : Array Slot), (200 - x1_4.toInt).toNat < n → (0 ≤ x1_4.toInt ∧ x1_4.toInt ≤ 200) → yRi i1 → mEi [4, 5, 7] i i1 → yRr r1 → mEr [17, 18] r r1 → va_P D vwCl (xW cy a i1 r1 q (a 20) (a 12) ++ tl) H → va_D A (xW cy a i1 r1 q (a 20) (a 12) ++ tl) → va_S A s.heap H locs → lv_has ls 7 [(4, .int x1_4), (3, .int x1_3), (0, .ref (a 10)), (1, .int p0), (2, .int 0)] → W p l e ({ frames := F9, cells := 0, slots := 0, locals := L9 } : Room) s m ([.ref (a 10), .int p0, .int 0] : List Value).toArray below meth c H locs 0 0 Q (F0 m 5 ls []) := by
    intro n
    induction n with
    | zero =>
      intro x1_4 x1_3 i1 r1 H locs ls hm1 hf1_0 hRi hEi hRr hEr hP hD hS hl
      exact absurd hm1 (by omega)
    | succ n ih1 =>
      intro x1_4 x1_3 i1 r1 H locs ls hm1 hf1_0 hRi hEi hRr hEr hP hD hS hl
      refine lv_iload hx hb dX6_expression_5 (lv_at hl 0 rfl) ?_
      refine lv_sipush (v := 200) hx hb dX6_expression_7 (by decide) ?_
      refine lv_icmp_ge (tgt := 132) hx hb dX6_expression_10 (by decide) (fun c_2 => ?_) (fun c_2 => ?_)
      · have c_2 : 200 ≤ x1_4.toInt := b_le c_2
        refine lv_iconst (v := 1) hx hb dX6_expression_132 (by decide) ?_
        subst hQ
        exact W.zret hx hb hr rfl (fun t ht hW => ⟨⟨_, (i1, r1), rfl, ⟨hRi, hRr, hEi, hEr, Or.inr rfl⟩, by rw [ht]; exact hP, va_K.moved hW.alike hK, hD⟩, hS.F ht⟩) hS.2.2 dX6_expression_133
      · have c_2 : x1_4.toInt < 200 := b_nle c_2
        refine lv_iload_n hx hb dX6_expression_13 rfl (lv_at hl 4 rfl) ?_
        refine lv_if_eq (tgt := 26) hx hb dX6_expression_14 (by decide) (fun c_3 => ?_) (fun c_3 => absurd (by decide) c_3)
        refine lv_aload_n hx hb dX6_expression_26 rfl (lv_at hl 2 rfl) ?_
        refine lv_iload_n hx hb dX6_expression_27 rfl (lv_at hl 3 rfl) ?_
        have hF_4 := rF hD hS hA
        refine va_calli (va_runV (As := [.int p0]) (rest := []) ⟨hx, hb, hml, hown, hT⟩ (hX1 p0 rfl i1 r1 _ hRi hRr) (cwV 1 hT (gV t_682 t_683 t_684 t_685 t_653) rfl rfl rfl (by decide +kernel) hR1) (rS_v hsk hS hF_4 hP hK hD (va_recv hK hP (ci := 6) (q0 := 10) rfl rfl)) rfl rfl hl.1 rfl (lv_room (Nat.le_of_ble_eq_true rfl)) dX6_expression_28 ⟨Nat.le_of_ble_eq_true rfl, Nat.le_of_ble_eq_true rfl⟩) hS (fun q _ h => hF_4 q h) hF_4 (fun r_5 u_6 t H1 locs ht hvm hr_5 hB hz1 hk1 hS => ?_)
        obtain ⟨i6, r6⟩ := u_6
        obtain ⟨hP, hK1, hD1⟩ := hB
        rw [ht] at hP
        have hD := hD1.weaken (fun k q _ h => hF_4 q.1 h)
        obtain ⟨hRi, hRr, hE1, hE2, hr_5⟩ := hr_5
        have hRi : yRi i6 := hRi
        have hE1 : mEi [4, 5, 7] i1 i6 := hE1
        have hRr : yRr r6 := hRr
        have hE2 : mEr [17, 18] r1 r6 := hE2
        have hP : va_P D vwCl (xW cy a i6 r6 q (a 20) (a 12) ++ tl) H1 := hP
        have hD : va_D A (xW cy a i6 r6 q (a 20) (a 12) ++ tl) := hD
        have hEi : mEi [4, 5, 7] _ i6 := Ei_tr hEi hE1 (by decide)
        have hEr : mEr [17, 18] _ r6 := Er_tr hEr hE2 (by decide)
        rcases hr_5 with rfl | rfl
        · skip
          refine lv_istore (lv' := [(5, .int 0), (4, .int x1_4), (3, .int x1_3), (0, .ref (a 10)), (1, .int p0), (2, .int 0)]) hx hb dX6_expression_31 hl (by decide) rfl (fun ls hl => ?_)
          refine lv_iload hx hb dX6_expression_33 (lv_at hl 0 rfl) ?_
          refine lv_if_ne (tgt := 40) hx hb dX6_expression_35 (by decide) (fun c_7 => absurd (by decide) c_7) (fun c_7 => ?_)
          refine lv_iconst (v := 0) hx hb dX6_expression_38 (by decide) ?_
          subst hQ
          exact W.zret hx hb hr rfl (fun t ht hW => ⟨⟨_, (i6, r6), rfl, ⟨hRi, hRr, hEi, hEr, Or.inl rfl⟩, by rw [ht]; exact hP, va_K.moved hW.alike hK, hD⟩, hS.F ht⟩) hS.2.2 dX6_expression_39
        · skip
          refine lv_istore (lv' := [(5, .int 1), (4, .int x1_4), (3, .int x1_3), (0, .ref (a 10)), (1, .int p0), (2, .int 0)]) hx hb dX6_expression_31 hl (by decide) rfl (fun ls hl => ?_)
          refine lv_iload hx hb dX6_expression_33 (lv_at hl 0 rfl) ?_
          refine lv_if_ne (tgt := 40) hx hb dX6_expression_35 (by decide) (fun c_8 => ?_) (fun c_8 => absurd c_8 (by decide))
          refine lv_iload_n hx hb dX6_expression_40 rfl (lv_at hl 2 rfl) ?_
          refine lv_iconst (v := (-1)) hx hb dX6_expression_41 (by decide) ?_
          refine lv_icmp_eq (tgt := 55) hx hb dX6_expression_42 (by decide) (fun c_9 => ?_) (fun c_9 => ?_)
          · have c_9 : x1_3.toInt = (-1) := b_eq c_9
            refine lv_aload_n hx hb dX6_expression_55 rfl (lv_at hl 3 rfl) ?_
            refine vp_callSi (W.runV (As := []) (rest := []) ⟨hx, hb, hml, hown, hT⟩ (c_X6_peek l D cy a i6 r6 q tl hRi hRr) (cwV 0 hT (gV t_652 t_654 t_655 t_656 t_653) rfl rfl rfl (by decide +kernel) ⟨Nat.le_trans (m := 2) (Nat.le_of_ble_eq_true rfl) hF9.1, Nat.le_trans (m := 46) (Nat.le_of_ble_eq_true rfl) hF9.2⟩) (rP_v hP hK (va_recv hK hP (ci := 6) (q0 := 10) rfl rfl)) rfl rfl hl.1 rfl (lv_room (Nat.le_of_ble_eq_true rfl)) dX6_expression_56 ⟨Nat.le_of_ble_eq_true rfl, Nat.le_of_ble_eq_true rfl⟩) (fun r_10 hr_10 => ?_)
            have hr_10 : -1 ≤ r_10.toInt ∧ r_10.toInt ≤ 255 := hr_10
            refine lv_istore_n (lv' := [(3, .int r_10), (5, .int 1), (4, .int x1_4), (0, .ref (a 10)), (1, .int p0), (2, .int 0)]) hx hb dX6_expression_59 rfl hl (by decide) rfl (fun ls hl => ?_)
            refine lv_iload_n hx hb dX6_expression_60 rfl (lv_at hl 5 rfl) ?_
            refine lv_if_eq (tgt := 84) hx hb dX6_expression_61 (by decide) (fun c_11 => ?_) (fun c_11 => absurd (by decide) c_11)
            refine lv_iload_n hx hb dX6_expression_84 rfl (lv_at hl 0 rfl) ?_
            refine lv_bipush (v := 42) hx hb dX6_expression_85 (by decide) ?_
            refine lv_icmp_eq (tgt := 102) hx hb dX6_expression_87 (by decide) (fun c_12 => ?_) (fun c_12 => ?_)
            · have c_12 : r_10.toInt = 42 := b_eq c_12
              refine lv_iconst (v := 1) hx hb dX6_expression_102 (by decide) ?_
              refine lv_goto (tgt := 107) hx hb dX6_expression_103 (by decide) ?_
              refine lv_istore (lv' := [(6, .int 1), (3, .int r_10), (5, .int 1), (4, .int x1_4), (0, .ref (a 10)), (1, .int p0), (2, .int 0)]) hx hb dX6_expression_107 hl (by decide) rfl (fun ls hl => ?_)
              refine lv_iload hx hb dX6_expression_109 (lv_at hl 0 rfl) ?_
              refine lv_if_ne (tgt := 116) hx hb dX6_expression_111 (by decide) (fun c_13 => ?_) (fun c_13 => absurd c_13 (by decide))
              refine lv_aload_n hx hb dX6_expression_116 rfl (lv_at hl 4 rfl) ?_
              refine lv_dup hx hb dX6_expression_117 rfl ?_
              refine va_get (D := D) (ci := 6) (v := .int (i6 4)) (C := RX6) (T := TX6) (N := 5) hx hb hT iX6 hown hK hP 10 rfl rfl 3 (by decide) (hT _ t_648) (fun _ h9 => h9) rfl dX6_expression_118 ?_
              refine lv_iconst (v := 1) hx hb dX6_expression_121 (by decide) ?_
              refine lv_iadd hx hb dX6_expression_122 ?_
              refine lv_topi (fun v_14 ev_14 => ?_)
              refine va_put (D := D) (ci := 6) (v := .int v_14) (ty := .int) (C := RX6) (T := TX6) (N := 5) hx hb hT iX6 tyX6 tyX6_ok nmX6 hown hK hP hD hS 10 rfl rfl 3 (by decide) (hT _ t_648) (fun _ h9 => h9) rfl (by decide +kernel) rfl rfl (Nat.le_of_ble_eq_true rfl) dX6_expression_123 (fun H locs hP hD hS => ?_)
              rw [zP4] at hP hD
              have hRi := Yi_upd hRi 4 v_14 (b_rg _)
              have hEi := Ei_upd hEi 4 v_14 (by decide)
              obtain ⟨x_15, ex_15⟩ : ∃ y : Int32, y = x1_4 + 1 := ⟨_, rfl⟩
              refine lv_iinc (v := x_15) (lv' := [(4, .int x_15), (6, .int 1), (3, .int r_10), (5, .int 1), (0, .ref (a 10)), (1, .int p0), (2, .int 0)]) hx hb dX6_expression_126 hl (k := 3) rfl (by rw [ex_15]; rfl) (by decide) rfl (fun ls hl => ?_)
              have hx_15 : x_15.toInt = x1_4.toInt + 1 := by rw [ex_15]; have := b_rg x1_4; exact i_add (a := x1_4.toInt) (b := 1) rfl rfl (by omega) (by omega)
              refine lv_goto (tgt := 5) hx hb dX6_expression_129 (by decide) ?_
              exact ih1 x_15 r_10 (upd i6 4 v_14) r6 _ _ _ (by first | omega | (simp only [Int.toNat]; omega)) (by first | omega | decide) hRi hEi hRr hEr  hP hD hS (lv_sub hl [0, 2, 4, 5, 6] rfl)
            · have c_12 : r_10.toInt ≠ 42 := b_ne c_12
              refine lv_iload_n hx hb dX6_expression_90 rfl (lv_at hl 0 rfl) ?_
              refine lv_bipush (v := 47) hx hb dX6_expression_91 (by decide) ?_
              refine lv_icmp_eq (tgt := 102) hx hb dX6_expression_93 (by decide) (fun c_16 => ?_) (fun c_16 => ?_)
              · have c_16 : r_10.toInt = 47 := b_eq c_16
                refine lv_iconst (v := 1) hx hb dX6_expression_102 (by decide) ?_
                refine lv_goto (tgt := 107) hx hb dX6_expression_103 (by decide) ?_
                refine lv_istore (lv' := [(6, .int 1), (3, .int r_10), (5, .int 1), (4, .int x1_4), (0, .ref (a 10)), (1, .int p0), (2, .int 0)]) hx hb dX6_expression_107 hl (by decide) rfl (fun ls hl => ?_)
                refine lv_iload hx hb dX6_expression_109 (lv_at hl 0 rfl) ?_
                refine lv_if_ne (tgt := 116) hx hb dX6_expression_111 (by decide) (fun c_17 => ?_) (fun c_17 => absurd c_17 (by decide))
                refine lv_aload_n hx hb dX6_expression_116 rfl (lv_at hl 4 rfl) ?_
                refine lv_dup hx hb dX6_expression_117 rfl ?_
                refine va_get (D := D) (ci := 6) (v := .int (i6 4)) (C := RX6) (T := TX6) (N := 5) hx hb hT iX6 hown hK hP 10 rfl rfl 3 (by decide) (hT _ t_648) (fun _ h9 => h9) rfl dX6_expression_118 ?_
                refine lv_iconst (v := 1) hx hb dX6_expression_121 (by decide) ?_
                refine lv_iadd hx hb dX6_expression_122 ?_
                refine lv_topi (fun v_18 ev_18 => ?_)
                refine va_put (D := D) (ci := 6) (v := .int v_18) (ty := .int) (C := RX6) (T := TX6) (N := 5) hx hb hT iX6 tyX6 tyX6_ok nmX6 hown hK hP hD hS 10 rfl rfl 3 (by decide) (hT _ t_648) (fun _ h9 => h9) rfl (by decide +kernel) rfl rfl (Nat.le_of_ble_eq_true rfl) dX6_expression_123 (fun H locs hP hD hS => ?_)
                rw [zP4] at hP hD
                have hRi := Yi_upd hRi 4 v_18 (b_rg _)
                have hEi := Ei_upd hEi 4 v_18 (by decide)
                obtain ⟨x_19, ex_19⟩ : ∃ y : Int32, y = x1_4 + 1 := ⟨_, rfl⟩
                refine lv_iinc (v := x_19) (lv' := [(4, .int x_19), (6, .int 1), (3, .int r_10), (5, .int 1), (0, .ref (a 10)), (1, .int p0), (2, .int 0)]) hx hb dX6_expression_126 hl (k := 3) rfl (by rw [ex_19]; rfl) (by decide) rfl (fun ls hl => ?_)
                have hx_19 : x_19.toInt = x1_4.toInt + 1 := by rw [ex_19]; have := b_rg x1_4; exact i_add (a := x1_4.toInt) (b := 1) rfl rfl (by omega) (by omega)
                refine lv_goto (tgt := 5) hx hb dX6_expression_129 (by decide) ?_
                exact ih1 x_19 r_10 (upd i6 4 v_18) r6 _ _ _ (by first | omega | (simp only [Int.toNat]; omega)) (by first | omega | decide) hRi hEi hRr hEr  hP hD hS (lv_sub hl [0, 2, 4, 5, 6] rfl)
              · have c_16 : r_10.toInt ≠ 47 := b_ne c_16
                refine lv_iload_n hx hb dX6_expression_96 rfl (lv_at hl 0 rfl) ?_
                refine lv_bipush (v := 37) hx hb dX6_expression_97 (by decide) ?_
                refine lv_icmp_ne (tgt := 106) hx hb dX6_expression_99 (by decide) (fun c_20 => ?_) (fun c_20 => ?_)
                · have c_20 : r_10.toInt ≠ 37 := b_ne c_20
                  refine lv_iconst (v := 0) hx hb dX6_expression_106 (by decide) ?_
                  refine lv_istore (lv' := [(6, .int 0), (3, .int r_10), (5, .int 1), (4, .int x1_4), (0, .ref (a 10)), (1, .int p0), (2, .int 0)]) hx hb dX6_expression_107 hl (by decide) rfl (fun ls hl => ?_)
                  refine lv_iload hx hb dX6_expression_109 (lv_at hl 0 rfl) ?_
                  refine lv_if_ne (tgt := 116) hx hb dX6_expression_111 (by decide) (fun c_21 => absurd (by decide) c_21) (fun c_21 => ?_)
                  refine lv_iconst (v := 1) hx hb dX6_expression_114 (by decide) ?_
                  subst hQ
                  exact W.zret hx hb hr rfl (fun t ht hW => ⟨⟨_, (i6, r6), rfl, ⟨hRi, hRr, hEi, hEr, Or.inr rfl⟩, by rw [ht]; exact hP, va_K.moved hW.alike hK, hD⟩, hS.F ht⟩) hS.2.2 dX6_expression_115
                · have c_20 : r_10.toInt = 37 := b_nne c_20
                  refine lv_iconst (v := 1) hx hb dX6_expression_102 (by decide) ?_
                  refine lv_goto (tgt := 107) hx hb dX6_expression_103 (by decide) ?_
                  refine lv_istore (lv' := [(6, .int 1), (3, .int r_10), (5, .int 1), (4, .int x1_4), (0, .ref (a 10)), (1, .int p0), (2, .int 0)]) hx hb dX6_expression_107 hl (by decide) rfl (fun ls hl => ?_)
                  refine lv_iload hx hb dX6_expression_109 (lv_at hl 0 rfl) ?_
                  refine lv_if_ne (tgt := 116) hx hb dX6_expression_111 (by decide) (fun c_22 => ?_) (fun c_22 => absurd c_22 (by decide))
                  refine lv_aload_n hx hb dX6_expression_116 rfl (lv_at hl 4 rfl) ?_
                  refine lv_dup hx hb dX6_expression_117 rfl ?_
                  refine va_get (D := D) (ci := 6) (v := .int (i6 4)) (C := RX6) (T := TX6) (N := 5) hx hb hT iX6 hown hK hP 10 rfl rfl 3 (by decide) (hT _ t_648) (fun _ h9 => h9) rfl dX6_expression_118 ?_
                  refine lv_iconst (v := 1) hx hb dX6_expression_121 (by decide) ?_
                  refine lv_iadd hx hb dX6_expression_122 ?_
                  refine lv_topi (fun v_23 ev_23 => ?_)
                  refine va_put (D := D) (ci := 6) (v := .int v_23) (ty := .int) (C := RX6) (T := TX6) (N := 5) hx hb hT iX6 tyX6 tyX6_ok nmX6 hown hK hP hD hS 10 rfl rfl 3 (by decide) (hT _ t_648) (fun _ h9 => h9) rfl (by decide +kernel) rfl rfl (Nat.le_of_ble_eq_true rfl) dX6_expression_123 (fun H locs hP hD hS => ?_)
                  rw [zP4] at hP hD
                  have hRi := Yi_upd hRi 4 v_23 (b_rg _)
                  have hEi := Ei_upd hEi 4 v_23 (by decide)
                  obtain ⟨x_24, ex_24⟩ : ∃ y : Int32, y = x1_4 + 1 := ⟨_, rfl⟩
                  refine lv_iinc (v := x_24) (lv' := [(4, .int x_24), (6, .int 1), (3, .int r_10), (5, .int 1), (0, .ref (a 10)), (1, .int p0), (2, .int 0)]) hx hb dX6_expression_126 hl (k := 3) rfl (by rw [ex_24]; rfl) (by decide) rfl (fun ls hl => ?_)
                  have hx_24 : x_24.toInt = x1_4.toInt + 1 := by rw [ex_24]; have := b_rg x1_4; exact i_add (a := x1_4.toInt) (b := 1) rfl rfl (by omega) (by omega)
                  refine lv_goto (tgt := 5) hx hb dX6_expression_129 (by decide) ?_
                  exact ih1 x_24 r_10 (upd i6 4 v_23) r6 _ _ _ (by first | omega | (simp only [Int.toNat]; omega)) (by first | omega | decide) hRi hEi hRr hEr  hP hD hS (lv_sub hl [0, 2, 4, 5, 6] rfl)
          · have c_9 : x1_3.toInt ≠ (-1) := b_ne c_9
            refine lv_aload_n hx hb dX6_expression_45 rfl (lv_at hl 3 rfl) ?_
            refine va_get (D := D) (ci := 6) (v := .ref (a 12)) (C := RX6) (T := TX6) (N := 5) hx hb hT iX6 hown hK hP 10 rfl rfl 0 (by decide) (hT _ t_661) (fun _ h9 => h9) rfl dX6_expression_46 ?_
            refine lv_iload_n hx hb dX6_expression_49 rfl (lv_at hl 2 rfl) ?_
            refine lv_iconst (v := 0) hx hb dX6_expression_50 (by decide) ?_
            have hF_25 := rF hD hS hA
            refine va_calli (va_runV (As := [.int x1_3, .int 0]) (rest := []) ⟨hx, hb, hml, hown, hT⟩ (c_X5_add l D cy a i6 r6 q tl x1_3 0 _ hRi hRr) (cwV 2 hT (gV t_662 t_663 t_664 t_665 t_367) rfl rfl rfl (by decide +kernel) ⟨Nat.le_trans (m := 2) (Nat.le_of_ble_eq_true rfl) hF9.1, Nat.le_trans (m := 46) (Nat.le_of_ble_eq_true rfl) hF9.2⟩) (rQ_v hP hK hD (va_recv hK hP (ci := 5) (q0 := 12) rfl rfl)) rfl rfl hl.1 rfl (lv_room (Nat.le_of_ble_eq_true rfl)) dX6_expression_51 ⟨Nat.le_of_ble_eq_true rfl, Nat.le_of_ble_eq_true rfl⟩) hS (fun q _ h => hF_25 q h) hF_25 (fun r_26 u_27 t H1 locs ht hvm hr_26 hB hz1 hk1 hS => ?_)
            obtain ⟨i27, r27⟩ := u_27
            obtain ⟨hP, hK1, hD1⟩ := hB
            rw [ht] at hP
            have hD := hD1.weaken (fun k q _ h => hF_25 q.1 h)
            obtain ⟨hRi, hRr, hE1, hE2, hr_26⟩ := hr_26
            have hRi : yRi i27 := hRi
            have hE1 : mEi [7] i6 i27 := hE1
            have hRr : yRr r27 := hRr
            have hE2 : mEr [17, 18] r6 r27 := hE2
            have hP : va_P D vwCl (xW cy a i27 r27 q (a 20) (a 12) ++ tl) H1 := hP
            have hD : va_D A (xW cy a i27 r27 q (a 20) (a 12) ++ tl) := hD
            have hEi : mEi [4, 5, 7] _ i27 := Ei_tr hEi hE1 (by decide)
            have hEr : mEr [17, 18] _ r27 := Er_tr hEr hE2 (by decide)
            refine lv_pop hx hb dX6_expression_54 rfl ?_
            refine lv_aload_n hx hb dX6_expression_55 rfl (lv_at hl 3 rfl) ?_
            refine vp_callSi (W.runV (As := []) (rest := []) ⟨hx, hb, hml, hown, hT⟩ (c_X6_peek l D cy a i27 r27 q tl hRi hRr) (cwV 0 hT (gV t_652 t_654 t_655 t_656 t_653) rfl rfl rfl (by decide +kernel) ⟨Nat.le_trans (m := 2) (Nat.le_of_ble_eq_true rfl) hF9.1, Nat.le_trans (m := 46) (Nat.le_of_ble_eq_true rfl) hF9.2⟩) (rP_v hP hK (va_recv hK hP (ci := 6) (q0 := 10) rfl rfl)) rfl rfl hl.1 rfl (lv_room (Nat.le_of_ble_eq_true rfl)) dX6_expression_56 ⟨Nat.le_of_ble_eq_true rfl, Nat.le_of_ble_eq_true rfl⟩) (fun r_28 hr_28 => ?_)
            have hr_28 : -1 ≤ r_28.toInt ∧ r_28.toInt ≤ 255 := hr_28
            refine lv_istore_n (lv' := [(3, .int r_28), (5, .int 1), (4, .int x1_4), (0, .ref (a 10)), (1, .int p0), (2, .int 0)]) hx hb dX6_expression_59 rfl hl (by decide) rfl (fun ls hl => ?_)
            refine lv_iload_n hx hb dX6_expression_60 rfl (lv_at hl 5 rfl) ?_
            refine lv_if_eq (tgt := 84) hx hb dX6_expression_61 (by decide) (fun c_29 => ?_) (fun c_29 => absurd (by decide) c_29)
            refine lv_iload_n hx hb dX6_expression_84 rfl (lv_at hl 0 rfl) ?_
            refine lv_bipush (v := 42) hx hb dX6_expression_85 (by decide) ?_
            refine lv_icmp_eq (tgt := 102) hx hb dX6_expression_87 (by decide) (fun c_30 => ?_) (fun c_30 => ?_)
            · have c_30 : r_28.toInt = 42 := b_eq c_30
              refine lv_iconst (v := 1) hx hb dX6_expression_102 (by decide) ?_
              refine lv_goto (tgt := 107) hx hb dX6_expression_103 (by decide) ?_
              refine lv_istore (lv' := [(6, .int 1), (3, .int r_28), (5, .int 1), (4, .int x1_4), (0, .ref (a 10)), (1, .int p0), (2, .int 0)]) hx hb dX6_expression_107 hl (by decide) rfl (fun ls hl => ?_)
              refine lv_iload hx hb dX6_expression_109 (lv_at hl 0 rfl) ?_
              refine lv_if_ne (tgt := 116) hx hb dX6_expression_111 (by decide) (fun c_31 => ?_) (fun c_31 => absurd c_31 (by decide))
              refine lv_aload_n hx hb dX6_expression_116 rfl (lv_at hl 4 rfl) ?_
              refine lv_dup hx hb dX6_expression_117 rfl ?_
              refine va_get (D := D) (ci := 6) (v := .int (i27 4)) (C := RX6) (T := TX6) (N := 5) hx hb hT iX6 hown hK hP 10 rfl rfl 3 (by decide) (hT _ t_648) (fun _ h9 => h9) rfl dX6_expression_118 ?_
              refine lv_iconst (v := 1) hx hb dX6_expression_121 (by decide) ?_
              refine lv_iadd hx hb dX6_expression_122 ?_
              refine lv_topi (fun v_32 ev_32 => ?_)
              refine va_put (D := D) (ci := 6) (v := .int v_32) (ty := .int) (C := RX6) (T := TX6) (N := 5) hx hb hT iX6 tyX6 tyX6_ok nmX6 hown hK hP hD hS 10 rfl rfl 3 (by decide) (hT _ t_648) (fun _ h9 => h9) rfl (by decide +kernel) rfl rfl (Nat.le_of_ble_eq_true rfl) dX6_expression_123 (fun H locs hP hD hS => ?_)
              rw [zP4] at hP hD
              have hRi := Yi_upd hRi 4 v_32 (b_rg _)
              have hEi := Ei_upd hEi 4 v_32 (by decide)
              obtain ⟨x_33, ex_33⟩ : ∃ y : Int32, y = x1_4 + 1 := ⟨_, rfl⟩
              refine lv_iinc (v := x_33) (lv' := [(4, .int x_33), (6, .int 1), (3, .int r_28), (5, .int 1), (0, .ref (a 10)), (1, .int p0), (2, .int 0)]) hx hb dX6_expression_126 hl (k := 3) rfl (by rw [ex_33]; rfl) (by decide) rfl (fun ls hl => ?_)
              have hx_33 : x_33.toInt = x1_4.toInt + 1 := by rw [ex_33]; have := b_rg x1_4; exact i_add (a := x1_4.toInt) (b := 1) rfl rfl (by omega) (by omega)
              refine lv_goto (tgt := 5) hx hb dX6_expression_129 (by decide) ?_
              exact ih1 x_33 r_28 (upd i27 4 v_32) r27 _ _ _ (by first | omega | (simp only [Int.toNat]; omega)) (by first | omega | decide) hRi hEi hRr hEr  hP hD hS (lv_sub hl [0, 2, 4, 5, 6] rfl)
            · have c_30 : r_28.toInt ≠ 42 := b_ne c_30
              refine lv_iload_n hx hb dX6_expression_90 rfl (lv_at hl 0 rfl) ?_
              refine lv_bipush (v := 47) hx hb dX6_expression_91 (by decide) ?_
              refine lv_icmp_eq (tgt := 102) hx hb dX6_expression_93 (by decide) (fun c_34 => ?_) (fun c_34 => ?_)
              · have c_34 : r_28.toInt = 47 := b_eq c_34
                refine lv_iconst (v := 1) hx hb dX6_expression_102 (by decide) ?_
                refine lv_goto (tgt := 107) hx hb dX6_expression_103 (by decide) ?_
                refine lv_istore (lv' := [(6, .int 1), (3, .int r_28), (5, .int 1), (4, .int x1_4), (0, .ref (a 10)), (1, .int p0), (2, .int 0)]) hx hb dX6_expression_107 hl (by decide) rfl (fun ls hl => ?_)
                refine lv_iload hx hb dX6_expression_109 (lv_at hl 0 rfl) ?_
                refine lv_if_ne (tgt := 116) hx hb dX6_expression_111 (by decide) (fun c_35 => ?_) (fun c_35 => absurd c_35 (by decide))
                refine lv_aload_n hx hb dX6_expression_116 rfl (lv_at hl 4 rfl) ?_
                refine lv_dup hx hb dX6_expression_117 rfl ?_
                refine va_get (D := D) (ci := 6) (v := .int (i27 4)) (C := RX6) (T := TX6) (N := 5) hx hb hT iX6 hown hK hP 10 rfl rfl 3 (by decide) (hT _ t_648) (fun _ h9 => h9) rfl dX6_expression_118 ?_
                refine lv_iconst (v := 1) hx hb dX6_expression_121 (by decide) ?_
                refine lv_iadd hx hb dX6_expression_122 ?_
                refine lv_topi (fun v_36 ev_36 => ?_)
                refine va_put (D := D) (ci := 6) (v := .int v_36) (ty := .int) (C := RX6) (T := TX6) (N := 5) hx hb hT iX6 tyX6 tyX6_ok nmX6 hown hK hP hD hS 10 rfl rfl 3 (by decide) (hT _ t_648) (fun _ h9 => h9) rfl (by decide +kernel) rfl rfl (Nat.le_of_ble_eq_true rfl) dX6_expression_123 (fun H locs hP hD hS => ?_)
                rw [zP4] at hP hD
                have hRi := Yi_upd hRi 4 v_36 (b_rg _)
                have hEi := Ei_upd hEi 4 v_36 (by decide)
                obtain ⟨x_37, ex_37⟩ : ∃ y : Int32, y = x1_4 + 1 := ⟨_, rfl⟩
                refine lv_iinc (v := x_37) (lv' := [(4, .int x_37), (6, .int 1), (3, .int r_28), (5, .int 1), (0, .ref (a 10)), (1, .int p0), (2, .int 0)]) hx hb dX6_expression_126 hl (k := 3) rfl (by rw [ex_37]; rfl) (by decide) rfl (fun ls hl => ?_)
                have hx_37 : x_37.toInt = x1_4.toInt + 1 := by rw [ex_37]; have := b_rg x1_4; exact i_add (a := x1_4.toInt) (b := 1) rfl rfl (by omega) (by omega)
                refine lv_goto (tgt := 5) hx hb dX6_expression_129 (by decide) ?_
                exact ih1 x_37 r_28 (upd i27 4 v_36) r27 _ _ _ (by first | omega | (simp only [Int.toNat]; omega)) (by first | omega | decide) hRi hEi hRr hEr  hP hD hS (lv_sub hl [0, 2, 4, 5, 6] rfl)
              · have c_34 : r_28.toInt ≠ 47 := b_ne c_34
                refine lv_iload_n hx hb dX6_expression_96 rfl (lv_at hl 0 rfl) ?_
                refine lv_bipush (v := 37) hx hb dX6_expression_97 (by decide) ?_
                refine lv_icmp_ne (tgt := 106) hx hb dX6_expression_99 (by decide) (fun c_38 => ?_) (fun c_38 => ?_)
                · have c_38 : r_28.toInt ≠ 37 := b_ne c_38
                  refine lv_iconst (v := 0) hx hb dX6_expression_106 (by decide) ?_
                  refine lv_istore (lv' := [(6, .int 0), (3, .int r_28), (5, .int 1), (4, .int x1_4), (0, .ref (a 10)), (1, .int p0), (2, .int 0)]) hx hb dX6_expression_107 hl (by decide) rfl (fun ls hl => ?_)
                  refine lv_iload hx hb dX6_expression_109 (lv_at hl 0 rfl) ?_
                  refine lv_if_ne (tgt := 116) hx hb dX6_expression_111 (by decide) (fun c_39 => absurd (by decide) c_39) (fun c_39 => ?_)
                  refine lv_iconst (v := 1) hx hb dX6_expression_114 (by decide) ?_
                  subst hQ
                  exact W.zret hx hb hr rfl (fun t ht hW => ⟨⟨_, (i27, r27), rfl, ⟨hRi, hRr, hEi, hEr, Or.inr rfl⟩, by rw [ht]; exact hP, va_K.moved hW.alike hK, hD⟩, hS.F ht⟩) hS.2.2 dX6_expression_115
                · have c_38 : r_28.toInt = 37 := b_nne c_38
                  refine lv_iconst (v := 1) hx hb dX6_expression_102 (by decide) ?_
                  refine lv_goto (tgt := 107) hx hb dX6_expression_103 (by decide) ?_
                  refine lv_istore (lv' := [(6, .int 1), (3, .int r_28), (5, .int 1), (4, .int x1_4), (0, .ref (a 10)), (1, .int p0), (2, .int 0)]) hx hb dX6_expression_107 hl (by decide) rfl (fun ls hl => ?_)
                  refine lv_iload hx hb dX6_expression_109 (lv_at hl 0 rfl) ?_
                  refine lv_if_ne (tgt := 116) hx hb dX6_expression_111 (by decide) (fun c_40 => ?_) (fun c_40 => absurd c_40 (by decide))
                  refine lv_aload_n hx hb dX6_expression_116 rfl (lv_at hl 4 rfl) ?_
                  refine lv_dup hx hb dX6_expression_117 rfl ?_
                  refine va_get (D := D) (ci := 6) (v := .int (i27 4)) (C := RX6) (T := TX6) (N := 5) hx hb hT iX6 hown hK hP 10 rfl rfl 3 (by decide) (hT _ t_648) (fun _ h9 => h9) rfl dX6_expression_118 ?_
                  refine lv_iconst (v := 1) hx hb dX6_expression_121 (by decide) ?_
                  refine lv_iadd hx hb dX6_expression_122 ?_
                  refine lv_topi (fun v_41 ev_41 => ?_)
                  refine va_put (D := D) (ci := 6) (v := .int v_41) (ty := .int) (C := RX6) (T := TX6) (N := 5) hx hb hT iX6 tyX6 tyX6_ok nmX6 hown hK hP hD hS 10 rfl rfl 3 (by decide) (hT _ t_648) (fun _ h9 => h9) rfl (by decide +kernel) rfl rfl (Nat.le_of_ble_eq_true rfl) dX6_expression_123 (fun H locs hP hD hS => ?_)
                  rw [zP4] at hP hD
                  have hRi := Yi_upd hRi 4 v_41 (b_rg _)
                  have hEi := Ei_upd hEi 4 v_41 (by decide)
                  obtain ⟨x_42, ex_42⟩ : ∃ y : Int32, y = x1_4 + 1 := ⟨_, rfl⟩
                  refine lv_iinc (v := x_42) (lv' := [(4, .int x_42), (6, .int 1), (3, .int r_28), (5, .int 1), (0, .ref (a 10)), (1, .int p0), (2, .int 0)]) hx hb dX6_expression_126 hl (k := 3) rfl (by rw [ex_42]; rfl) (by decide) rfl (fun ls hl => ?_)
                  have hx_42 : x_42.toInt = x1_4.toInt + 1 := by rw [ex_42]; have := b_rg x1_4; exact i_add (a := x1_4.toInt) (b := 1) rfl rfl (by omega) (by omega)
                  refine lv_goto (tgt := 5) hx hb dX6_expression_129 (by decide) ?_
                  exact ih1 x_42 r_28 (upd i27 4 v_41) r27 _ _ _ (by first | omega | (simp only [Int.toNat]; omega)) (by first | omega | decide) hRi hEi hRr hEr  hP hD hS (lv_sub hl [0, 2, 4, 5, 6] rfl)
  exact loop_1 _ 0 (-1) i r _ _ _ (Nat.lt_succ_self _) (by first | omega | decide) hRi hEi hRr hEr  hP hD hS hl
set_option maxHeartbeats 4000000 in
set_option maxRecDepth 100000 in
theorem c_X6_expression_kg1 (l : Launch) (D : va_G) (cy : Nat → ClassId) (a : Nat → Nat) (i : Nat → Int32) (r : Nat → Nat → Int32) (q : Nat → Option Nat) (tl : va_W) (kq vq : Nat) (p0 : Int32) (sz : Nat) (hRi : yRi i) (hRr : yRr r) (F9 L9 F1 L1 : Nat) (hF9 : 2 ≤ F9 ∧ 46 ≤ L9) (q0 : 0 ≤ p0.toInt ∧ p0.toInt ≤ 6) (hX1 : ∀ k9 : Int32, k9 = p0 → ∀ (i : Nat → Int32) (r : Nat → Nat → Int32) (sz : Nat) (hRi : yRi i) (hRr : yRr r), Met l yX6_expression (Cond.code yX6_expression cX6_expression 7 (some .boolean) :: gT) { frames := F1, cells := 0, slots := 0, locals := L1 } (va_Pc [.ref (a 10), .int k9, .int 0] (rS D cy (xW cy a i r q (a 20) (a 12) ++ tl) sz kq vq)) (va_Qi (fun (z : Int32) (u : (Nat → Int32) × (Nat → Nat → Int32)) => yRi u.1 ∧ yRr u.2 ∧ mEi [4, 5, 7] i u.1 ∧ mEr [17, 18] r u.2 ∧ (z = 0 ∨ z = 1)) (fun (u : (Nat → Int32) × (Nat → Nat → Int32)) t => va_P D vwCl (xW cy a u.1 u.2 q (a 20) (a 12) ++ tl) t.heap ∧ va_K D vwCl (vT cy) t ∧ va_D (va_A (xW cy a i r q (a 20) (a 12) ++ tl) sz) (xW cy a u.1 u.2 q (a 20) (a 12) ++ tl)) (va_A (xW cy a i r q (a 20) (a 12) ++ tl) sz)) 0 0 (va_A (xW cy a i r q (a 20) (a 12) ++ tl) sz)) (hR1 : F1 + 1 ≤ F9 ∧ 8 + (7 + 11) + L1 ≤ L9) : Met l yX6_expression (Cond.code yX6_expression cX6_expression 7 (some .boolean) :: gT) { frames := F9, cells := 0, slots := 0, locals := L9 } (va_Pc [.ref (a 10), .int p0, .int 1] (rS D cy (xW cy a i r q (a 20) (a 12) ++ tl) sz kq vq)) (va_Qi (fun (z : Int32) (u : (Nat → Int32) × (Nat → Nat → Int32)) => yRi u.1 ∧ yRr u.2 ∧ mEi [4, 5, 7] i u.1 ∧ mEr [17, 18] r u.2 ∧ (z = 0 ∨ z = 1)) (fun (u : (Nat → Int32) × (Nat → Nat → Int32)) t => va_P D vwCl (xW cy a u.1 u.2 q (a 20) (a 12) ++ tl) t.heap ∧ va_K D vwCl (vT cy) t ∧ va_D (va_A (xW cy a i r q (a 20) (a 12) ++ tl) sz) (xW cy a u.1 u.2 q (a 20) (a 12) ++ tl)) (va_A (xW cy a i r q (a 20) (a 12) ++ tl) sz)) 0 0 (va_A (xW cy a i r q (a 20) (a 12) ++ tl) sz) := by
  refine Met.ofQ (cc := cX6_expression) (maxL := 7) (ret := (some .boolean)) (by decide) rfl ?_
  intro p e s m args below meth c s₁ B hml hv Q hQ
  obtain ⟨rfl, hsk, hsz, hP, hK, hD0⟩ := hv
  have hx := B.exec
  have hb := B.bytes
  have hr := B.returns
  have hlocks := B.notSynchronized
  have hT : ∀ w ∈ gT, w.before _ s = true := fun w h => atoms_spec (ws := (Cond.code yX6_expression cX6_expression 7 (some .boolean) :: gT)) B.pre w (List.mem_cons_of_mem _ h)
  have hown : s.vm.findClass RX6 = some m.cls := findClass_of_methodNamed B.named
  subst hsz
  have hD := hD0.self (sz := s.heap.size)
  generalize hAe : va_A (xW cy a i r q (a 20) (a 12) ++ tl) s.heap.size = A at hD hQ hsk
  have hA : ∀ q : Nat, s.heap.size ≤ q → A q := fun q h => by rw [← hAe]; exact Or.inr h
  have hS : va_S A s.heap s.heap [] := va_S.rf
  have hl := lv_entry ([.ref (a 10), .int p0, .int 1]) (n := 7) (Nat.le_of_ble_eq_true rfl)
  rw [lg_entry_eq]
  generalize (lg_sl ([.ref (a 10), .int p0, .int 1]) ++ List.replicate (7 - (lg_sl ([.ref (a 10), .int p0, .int 1])).length) Slot.unset).toArray = ls at hl ⊢
  have hl : lv_has ls 7 [(0, .ref (a 10)), (1, .int p0), (2, .int 1)] := hl
  have hEi : mEi [4, 5, 7] i i := Ei_rf
  have hEr : mEr [17, 18] r r := Er_rf
  refine lv_iconst (v := (-1)) hx hb dX6_expression_0 (by decide) ?_
  refine lv_istore_n (lv' := [(3, .int (-1)), (0, .ref (a 10)), (1, .int p0), (2, .int 1)]) hx hb dX6_expression_1 rfl hl (by decide) rfl (fun ls hl => ?_)
  refine lv_iconst (v := 0) hx hb dX6_expression_2 (by decide) ?_
  refine lv_istore (lv' := [(4, .int 0), (3, .int (-1)), (0, .ref (a 10)), (1, .int p0), (2, .int 1)]) hx hb dX6_expression_3 hl (by decide) rfl (fun ls hl => ?_)
  have loop_1 : ∀ (n : Nat) (x1_4 : Int32) (x1_3 : Int32) (i1 : Nat → Int32) (r1 : Nat → Nat → Int32) (H : Heap) (locs : List Loc) (ls : Array Slot), (200 - x1_4.toInt).toNat < n → (0 ≤ x1_4.toInt ∧ x1_4.toInt ≤ 200) → yRi i1 → mEi [4, 5, 7] i i1 → yRr r1 → mEr [17, 18] r r1 → va_P D vwCl (xW cy a i1 r1 q (a 20) (a 12) ++ tl) H → va_D A (xW cy a i1 r1 q (a 20) (a 12) ++ tl) → va_S A s.heap H locs → lv_has ls 7 [(4, .int x1_4), (3, .int x1_3), (0, .ref (a 10)), (1, .int p0), (2, .int 1)] → W p l e ({ frames := F9, cells := 0, slots := 0, locals := L9 } : Room) s m ([.ref (a 10), .int p0, .int 1] : List Value).toArray below meth c H locs 0 0 Q (F0 m 5 ls []) := by
    intro n
    induction n with
    | zero =>
      intro x1_4 x1_3 i1 r1 H locs ls hm1 hf1_0 hRi hEi hRr hEr hP hD hS hl
      exact absurd hm1 (by omega)
    | succ n ih1 =>
      intro x1_4 x1_3 i1 r1 H locs ls hm1 hf1_0 hRi hEi hRr hEr hP hD hS hl
      refine lv_iload hx hb dX6_expression_5 (lv_at hl 0 rfl) ?_
      refine lv_sipush (v := 200) hx hb dX6_expression_7 (by decide) ?_
      refine lv_icmp_ge (tgt := 132) hx hb dX6_expression_10 (by decide) (fun c_2 => ?_) (fun c_2 => ?_)
      · have c_2 : 200 ≤ x1_4.toInt := b_le c_2
        refine lv_iconst (v := 1) hx hb dX6_expression_132 (by decide) ?_
        subst hQ
        exact W.zret hx hb hr rfl (fun t ht hW => ⟨⟨_, (i1, r1), rfl, ⟨hRi, hRr, hEi, hEr, Or.inr rfl⟩, by rw [ht]; exact hP, va_K.moved hW.alike hK, hD⟩, hS.F ht⟩) hS.2.2 dX6_expression_133
      · have c_2 : x1_4.toInt < 200 := b_nle c_2
        refine lv_iload_n hx hb dX6_expression_13 rfl (lv_at hl 4 rfl) ?_
        refine lv_if_eq (tgt := 26) hx hb dX6_expression_14 (by decide) (fun c_3 => absurd c_3 (by decide)) (fun c_3 => ?_)
        refine lv_aload_n hx hb dX6_expression_17 rfl (lv_at hl 2 rfl) ?_
        refine lv_iload_n hx hb dX6_expression_18 rfl (lv_at hl 3 rfl) ?_
        refine lv_iconst (v := 0) hx hb dX6_expression_19 (by decide) ?_
        have hF_4 := rF hD hS hA
        refine va_calli (va_runV (As := [.int p0, .int 0]) (rest := []) ⟨hx, hb, hml, hown, hT⟩ (hX1 p0 rfl i1 r1 _ hRi hRr) (cwV 2 hT (gV t_674 t_675 t_676 t_677 t_653) rfl rfl rfl (by decide +kernel) hR1) (rS_v hsk hS hF_4 hP hK hD (va_recv hK hP (ci := 6) (q0 := 10) rfl rfl)) rfl rfl hl.1 rfl (lv_room (Nat.le_of_ble_eq_true rfl)) dX6_expression_20 ⟨Nat.le_of_ble_eq_true rfl, Nat.le_of_ble_eq_true rfl⟩) hS (fun q _ h => hF_4 q h) hF_4 (fun r_5 u_6 t H1 locs ht hvm hr_5 hB hz1 hk1 hS => ?_)
        obtain ⟨i6, r6⟩ := u_6
        obtain ⟨hP, hK1, hD1⟩ := hB
        rw [ht] at hP
        have hD := hD1.weaken (fun k q _ h => hF_4 q.1 h)
        obtain ⟨hRi, hRr, hE1, hE2, hr_5⟩ := hr_5
        have hRi : yRi i6 := hRi
        have hE1 : mEi [4, 5, 7] i1 i6 := hE1
        have hRr : yRr r6 := hRr
        have hE2 : mEr [17, 18] r1 r6 := hE2
        have hP : va_P D vwCl (xW cy a i6 r6 q (a 20) (a 12) ++ tl) H1 := hP
        have hD : va_D A (xW cy a i6 r6 q (a 20) (a 12) ++ tl) := hD
        have hEi : mEi [4, 5, 7] _ i6 := Ei_tr hEi hE1 (by decide)
        have hEr : mEr [17, 18] _ r6 := Er_tr hEr hE2 (by decide)
        rcases hr_5 with rfl | rfl
        · skip
          refine lv_goto (tgt := 31) hx hb dX6_expression_23 (by decide) ?_
          refine lv_istore (lv' := [(5, .int 0), (4, .int x1_4), (3, .int x1_3), (0, .ref (a 10)), (1, .int p0), (2, .int 1)]) hx hb dX6_expression_31 hl (by decide) rfl (fun ls hl => ?_)
          refine lv_iload hx hb dX6_expression_33 (lv_at hl 0 rfl) ?_
          refine lv_if_ne (tgt := 40) hx hb dX6_expression_35 (by decide) (fun c_7 => absurd (by decide) c_7) (fun c_7 => ?_)
          refine lv_iconst (v := 0) hx hb dX6_expression_38 (by decide) ?_
          subst hQ
          exact W.zret hx hb hr rfl (fun t ht hW => ⟨⟨_, (i6, r6), rfl, ⟨hRi, hRr, hEi, hEr, Or.inl rfl⟩, by rw [ht]; exact hP, va_K.moved hW.alike hK, hD⟩, hS.F ht⟩) hS.2.2 dX6_expression_39
        · skip
          refine lv_goto (tgt := 31) hx hb dX6_expression_23 (by decide) ?_
          refine lv_istore (lv' := [(5, .int 1), (4, .int x1_4), (3, .int x1_3), (0, .ref (a 10)), (1, .int p0), (2, .int 1)]) hx hb dX6_expression_31 hl (by decide) rfl (fun ls hl => ?_)
          refine lv_iload hx hb dX6_expression_33 (lv_at hl 0 rfl) ?_
          refine lv_if_ne (tgt := 40) hx hb dX6_expression_35 (by decide) (fun c_8 => ?_) (fun c_8 => absurd c_8 (by decide))
          refine lv_iload_n hx hb dX6_expression_40 rfl (lv_at hl 2 rfl) ?_
          refine lv_iconst (v := (-1)) hx hb dX6_expression_41 (by decide) ?_
          refine lv_icmp_eq (tgt := 55) hx hb dX6_expression_42 (by decide) (fun c_9 => ?_) (fun c_9 => ?_)
          · have c_9 : x1_3.toInt = (-1) := b_eq c_9
            refine lv_aload_n hx hb dX6_expression_55 rfl (lv_at hl 3 rfl) ?_
            refine vp_callSi (W.runV (As := []) (rest := []) ⟨hx, hb, hml, hown, hT⟩ (c_X6_peek l D cy a i6 r6 q tl hRi hRr) (cwV 0 hT (gV t_652 t_654 t_655 t_656 t_653) rfl rfl rfl (by decide +kernel) ⟨Nat.le_trans (m := 2) (Nat.le_of_ble_eq_true rfl) hF9.1, Nat.le_trans (m := 46) (Nat.le_of_ble_eq_true rfl) hF9.2⟩) (rP_v hP hK (va_recv hK hP (ci := 6) (q0 := 10) rfl rfl)) rfl rfl hl.1 rfl (lv_room (Nat.le_of_ble_eq_true rfl)) dX6_expression_56 ⟨Nat.le_of_ble_eq_true rfl, Nat.le_of_ble_eq_true rfl⟩) (fun r_10 hr_10 => ?_)
            have hr_10 : -1 ≤ r_10.toInt ∧ r_10.toInt ≤ 255 := hr_10
            refine lv_istore_n (lv' := [(3, .int r_10), (5, .int 1), (4, .int x1_4), (0, .ref (a 10)), (1, .int p0), (2, .int 1)]) hx hb dX6_expression_59 rfl hl (by decide) rfl (fun ls hl => ?_)
            refine lv_iload_n hx hb dX6_expression_60 rfl (lv_at hl 5 rfl) ?_
            refine lv_if_eq (tgt := 84) hx hb dX6_expression_61 (by decide) (fun c_11 => absurd c_11 (by decide)) (fun c_11 => ?_)
            refine lv_iload_n hx hb dX6_expression_64 rfl (lv_at hl 0 rfl) ?_
            refine lv_bipush (v := 43) hx hb dX6_expression_65 (by decide) ?_
            refine lv_icmp_eq (tgt := 76) hx hb dX6_expression_67 (by decide) (fun c_12 => ?_) (fun c_12 => ?_)
            · have c_12 : r_10.toInt = 43 := b_eq c_12
              refine lv_iconst (v := 1) hx hb dX6_expression_76 (by decide) ?_
              refine lv_goto (tgt := 107) hx hb dX6_expression_77 (by decide) ?_
              refine lv_istore (lv' := [(6, .int 1), (3, .int r_10), (5, .int 1), (4, .int x1_4), (0, .ref (a 10)), (1, .int p0), (2, .int 1)]) hx hb dX6_expression_107 hl (by decide) rfl (fun ls hl => ?_)
              refine lv_iload hx hb dX6_expression_109 (lv_at hl 0 rfl) ?_
              refine lv_if_ne (tgt := 116) hx hb dX6_expression_111 (by decide) (fun c_13 => ?_) (fun c_13 => absurd c_13 (by decide))
              refine lv_aload_n hx hb dX6_expression_116 rfl (lv_at hl 4 rfl) ?_
              refine lv_dup hx hb dX6_expression_117 rfl ?_
              refine va_get (D := D) (ci := 6) (v := .int (i6 4)) (C := RX6) (T := TX6) (N := 5) hx hb hT iX6 hown hK hP 10 rfl rfl 3 (by decide) (hT _ t_648) (fun _ h9 => h9) rfl dX6_expression_118 ?_
              refine lv_iconst (v := 1) hx hb dX6_expression_121 (by decide) ?_
              refine lv_iadd hx hb dX6_expression_122 ?_
              refine lv_topi (fun v_14 ev_14 => ?_)
              refine va_put (D := D) (ci := 6) (v := .int v_14) (ty := .int) (C := RX6) (T := TX6) (N := 5) hx hb hT iX6 tyX6 tyX6_ok nmX6 hown hK hP hD hS 10 rfl rfl 3 (by decide) (hT _ t_648) (fun _ h9 => h9) rfl (by decide +kernel) rfl rfl (Nat.le_of_ble_eq_true rfl) dX6_expression_123 (fun H locs hP hD hS => ?_)
              rw [zP4] at hP hD
              have hRi := Yi_upd hRi 4 v_14 (b_rg _)
              have hEi := Ei_upd hEi 4 v_14 (by decide)
              obtain ⟨x_15, ex_15⟩ : ∃ y : Int32, y = x1_4 + 1 := ⟨_, rfl⟩
              refine lv_iinc (v := x_15) (lv' := [(4, .int x_15), (6, .int 1), (3, .int r_10), (5, .int 1), (0, .ref (a 10)), (1, .int p0), (2, .int 1)]) hx hb dX6_expression_126 hl (k := 3) rfl (by rw [ex_15]; rfl) (by decide) rfl (fun ls hl => ?_)
              have hx_15 : x_15.toInt = x1_4.toInt + 1 := by rw [ex_15]; have := b_rg x1_4; exact i_add (a := x1_4.toInt) (b := 1) rfl rfl (by omega) (by omega)
              refine lv_goto (tgt := 5) hx hb dX6_expression_129 (by decide) ?_
              exact ih1 x_15 r_10 (upd i6 4 v_14) r6 _ _ _ (by first | omega | (simp only [Int.toNat]; omega)) (by first | omega | decide) hRi hEi hRr hEr  hP hD hS (lv_sub hl [0, 2, 4, 5, 6] rfl)
            · have c_12 : r_10.toInt ≠ 43 := b_ne c_12
              refine lv_iload_n hx hb dX6_expression_70 rfl (lv_at hl 0 rfl) ?_
              refine lv_bipush (v := 45) hx hb dX6_expression_71 (by decide) ?_
              refine lv_icmp_ne (tgt := 80) hx hb dX6_expression_73 (by decide) (fun c_16 => ?_) (fun c_16 => ?_)
              · have c_16 : r_10.toInt ≠ 45 := b_ne c_16
                refine lv_iconst (v := 0) hx hb dX6_expression_80 (by decide) ?_
                refine lv_goto (tgt := 107) hx hb dX6_expression_81 (by decide) ?_
                refine lv_istore (lv' := [(6, .int 0), (3, .int r_10), (5, .int 1), (4, .int x1_4), (0, .ref (a 10)), (1, .int p0), (2, .int 1)]) hx hb dX6_expression_107 hl (by decide) rfl (fun ls hl => ?_)
                refine lv_iload hx hb dX6_expression_109 (lv_at hl 0 rfl) ?_
                refine lv_if_ne (tgt := 116) hx hb dX6_expression_111 (by decide) (fun c_17 => absurd (by decide) c_17) (fun c_17 => ?_)
                refine lv_iconst (v := 1) hx hb dX6_expression_114 (by decide) ?_
                subst hQ
                exact W.zret hx hb hr rfl (fun t ht hW => ⟨⟨_, (i6, r6), rfl, ⟨hRi, hRr, hEi, hEr, Or.inr rfl⟩, by rw [ht]; exact hP, va_K.moved hW.alike hK, hD⟩, hS.F ht⟩) hS.2.2 dX6_expression_115
              · have c_16 : r_10.toInt = 45 := b_nne c_16
                refine lv_iconst (v := 1) hx hb dX6_expression_76 (by decide) ?_
                refine lv_goto (tgt := 107) hx hb dX6_expression_77 (by decide) ?_
                refine lv_istore (lv' := [(6, .int 1), (3, .int r_10), (5, .int 1), (4, .int x1_4), (0, .ref (a 10)), (1, .int p0), (2, .int 1)]) hx hb dX6_expression_107 hl (by decide) rfl (fun ls hl => ?_)
                refine lv_iload hx hb dX6_expression_109 (lv_at hl 0 rfl) ?_
                refine lv_if_ne (tgt := 116) hx hb dX6_expression_111 (by decide) (fun c_18 => ?_) (fun c_18 => absurd c_18 (by decide))
                refine lv_aload_n hx hb dX6_expression_116 rfl (lv_at hl 4 rfl) ?_
                refine lv_dup hx hb dX6_expression_117 rfl ?_
                refine va_get (D := D) (ci := 6) (v := .int (i6 4)) (C := RX6) (T := TX6) (N := 5) hx hb hT iX6 hown hK hP 10 rfl rfl 3 (by decide) (hT _ t_648) (fun _ h9 => h9) rfl dX6_expression_118 ?_
                refine lv_iconst (v := 1) hx hb dX6_expression_121 (by decide) ?_
                refine lv_iadd hx hb dX6_expression_122 ?_
                refine lv_topi (fun v_19 ev_19 => ?_)
                refine va_put (D := D) (ci := 6) (v := .int v_19) (ty := .int) (C := RX6) (T := TX6) (N := 5) hx hb hT iX6 tyX6 tyX6_ok nmX6 hown hK hP hD hS 10 rfl rfl 3 (by decide) (hT _ t_648) (fun _ h9 => h9) rfl (by decide +kernel) rfl rfl (Nat.le_of_ble_eq_true rfl) dX6_expression_123 (fun H locs hP hD hS => ?_)
                rw [zP4] at hP hD
                have hRi := Yi_upd hRi 4 v_19 (b_rg _)
                have hEi := Ei_upd hEi 4 v_19 (by decide)
                obtain ⟨x_20, ex_20⟩ : ∃ y : Int32, y = x1_4 + 1 := ⟨_, rfl⟩
                refine lv_iinc (v := x_20) (lv' := [(4, .int x_20), (6, .int 1), (3, .int r_10), (5, .int 1), (0, .ref (a 10)), (1, .int p0), (2, .int 1)]) hx hb dX6_expression_126 hl (k := 3) rfl (by rw [ex_20]; rfl) (by decide) rfl (fun ls hl => ?_)
                have hx_20 : x_20.toInt = x1_4.toInt + 1 := by rw [ex_20]; have := b_rg x1_4; exact i_add (a := x1_4.toInt) (b := 1) rfl rfl (by omega) (by omega)
                refine lv_goto (tgt := 5) hx hb dX6_expression_129 (by decide) ?_
                exact ih1 x_20 r_10 (upd i6 4 v_19) r6 _ _ _ (by first | omega | (simp only [Int.toNat]; omega)) (by first | omega | decide) hRi hEi hRr hEr  hP hD hS (lv_sub hl [0, 2, 4, 5, 6] rfl)
          · have c_9 : x1_3.toInt ≠ (-1) := b_ne c_9
            refine lv_aload_n hx hb dX6_expression_45 rfl (lv_at hl 3 rfl) ?_
            refine va_get (D := D) (ci := 6) (v := .ref (a 12)) (C := RX6) (T := TX6) (N := 5) hx hb hT iX6 hown hK hP 10 rfl rfl 0 (by decide) (hT _ t_661) (fun _ h9 => h9) rfl dX6_expression_46 ?_
            refine lv_iload_n hx hb dX6_expression_49 rfl (lv_at hl 2 rfl) ?_
            refine lv_iconst (v := 0) hx hb dX6_expression_50 (by decide) ?_
            have hF_21 := rF hD hS hA
            refine va_calli (va_runV (As := [.int x1_3, .int 0]) (rest := []) ⟨hx, hb, hml, hown, hT⟩ (c_X5_add l D cy a i6 r6 q tl x1_3 0 _ hRi hRr) (cwV 2 hT (gV t_662 t_663 t_664 t_665 t_367) rfl rfl rfl (by decide +kernel) ⟨Nat.le_trans (m := 2) (Nat.le_of_ble_eq_true rfl) hF9.1, Nat.le_trans (m := 46) (Nat.le_of_ble_eq_true rfl) hF9.2⟩) (rQ_v hP hK hD (va_recv hK hP (ci := 5) (q0 := 12) rfl rfl)) rfl rfl hl.1 rfl (lv_room (Nat.le_of_ble_eq_true rfl)) dX6_expression_51 ⟨Nat.le_of_ble_eq_true rfl, Nat.le_of_ble_eq_true rfl⟩) hS (fun q _ h => hF_21 q h) hF_21 (fun r_22 u_23 t H1 locs ht hvm hr_22 hB hz1 hk1 hS => ?_)
            obtain ⟨i23, r23⟩ := u_23
            obtain ⟨hP, hK1, hD1⟩ := hB
            rw [ht] at hP
            have hD := hD1.weaken (fun k q _ h => hF_21 q.1 h)
            obtain ⟨hRi, hRr, hE1, hE2, hr_22⟩ := hr_22
            have hRi : yRi i23 := hRi
            have hE1 : mEi [7] i6 i23 := hE1
            have hRr : yRr r23 := hRr
            have hE2 : mEr [17, 18] r6 r23 := hE2
            have hP : va_P D vwCl (xW cy a i23 r23 q (a 20) (a 12) ++ tl) H1 := hP
            have hD : va_D A (xW cy a i23 r23 q (a 20) (a 12) ++ tl) := hD
            have hEi : mEi [4, 5, 7] _ i23 := Ei_tr hEi hE1 (by decide)
            have hEr : mEr [17, 18] _ r23 := Er_tr hEr hE2 (by decide)
            refine lv_pop hx hb dX6_expression_54 rfl ?_
            refine lv_aload_n hx hb dX6_expression_55 rfl (lv_at hl 3 rfl) ?_
            refine vp_callSi (W.runV (As := []) (rest := []) ⟨hx, hb, hml, hown, hT⟩ (c_X6_peek l D cy a i23 r23 q tl hRi hRr) (cwV 0 hT (gV t_652 t_654 t_655 t_656 t_653) rfl rfl rfl (by decide +kernel) ⟨Nat.le_trans (m := 2) (Nat.le_of_ble_eq_true rfl) hF9.1, Nat.le_trans (m := 46) (Nat.le_of_ble_eq_true rfl) hF9.2⟩) (rP_v hP hK (va_recv hK hP (ci := 6) (q0 := 10) rfl rfl)) rfl rfl hl.1 rfl (lv_room (Nat.le_of_ble_eq_true rfl)) dX6_expression_56 ⟨Nat.le_of_ble_eq_true rfl, Nat.le_of_ble_eq_true rfl⟩) (fun r_24 hr_24 => ?_)
            have hr_24 : -1 ≤ r_24.toInt ∧ r_24.toInt ≤ 255 := hr_24
            refine lv_istore_n (lv' := [(3, .int r_24), (5, .int 1), (4, .int x1_4), (0, .ref (a 10)), (1, .int p0), (2, .int 1)]) hx hb dX6_expression_59 rfl hl (by decide) rfl (fun ls hl => ?_)
            refine lv_iload_n hx hb dX6_expression_60 rfl (lv_at hl 5 rfl) ?_
            refine lv_if_eq (tgt := 84) hx hb dX6_expression_61 (by decide) (fun c_25 => absurd c_25 (by decide)) (fun c_25 => ?_)
            refine lv_iload_n hx hb dX6_expression_64 rfl (lv_at hl 0 rfl) ?_
            refine lv_bipush (v := 43) hx hb dX6_expression_65 (by decide) ?_
            refine lv_icmp_eq (tgt := 76) hx hb dX6_expression_67 (by decide) (fun c_26 => ?_) (fun c_26 => ?_)
            · have c_26 : r_24.toInt = 43 := b_eq c_26
              refine lv_iconst (v := 1) hx hb dX6_expression_76 (by decide) ?_
              refine lv_goto (tgt := 107) hx hb dX6_expression_77 (by decide) ?_
              refine lv_istore (lv' := [(6, .int 1), (3, .int r_24), (5, .int 1), (4, .int x1_4), (0, .ref (a 10)), (1, .int p0), (2, .int 1)]) hx hb dX6_expression_107 hl (by decide) rfl (fun ls hl => ?_)
              refine lv_iload hx hb dX6_expression_109 (lv_at hl 0 rfl) ?_
              refine lv_if_ne (tgt := 116) hx hb dX6_expression_111 (by decide) (fun c_27 => ?_) (fun c_27 => absurd c_27 (by decide))
              refine lv_aload_n hx hb dX6_expression_116 rfl (lv_at hl 4 rfl) ?_
              refine lv_dup hx hb dX6_expression_117 rfl ?_
              refine va_get (D := D) (ci := 6) (v := .int (i23 4)) (C := RX6) (T := TX6) (N := 5) hx hb hT iX6 hown hK hP 10 rfl rfl 3 (by decide) (hT _ t_648) (fun _ h9 => h9) rfl dX6_expression_118 ?_
              refine lv_iconst (v := 1) hx hb dX6_expression_121 (by decide) ?_
              refine lv_iadd hx hb dX6_expression_122 ?_
              refine lv_topi (fun v_28 ev_28 => ?_)
              refine va_put (D := D) (ci := 6) (v := .int v_28) (ty := .int) (C := RX6) (T := TX6) (N := 5) hx hb hT iX6 tyX6 tyX6_ok nmX6 hown hK hP hD hS 10 rfl rfl 3 (by decide) (hT _ t_648) (fun _ h9 => h9) rfl (by decide +kernel) rfl rfl (Nat.le_of_ble_eq_true rfl) dX6_expression_123 (fun H locs hP hD hS => ?_)
              rw [zP4] at hP hD
              have hRi := Yi_upd hRi 4 v_28 (b_rg _)
              have hEi := Ei_upd hEi 4 v_28 (by decide)
              obtain ⟨x_29, ex_29⟩ : ∃ y : Int32, y = x1_4 + 1 := ⟨_, rfl⟩
              refine lv_iinc (v := x_29) (lv' := [(4, .int x_29), (6, .int 1), (3, .int r_24), (5, .int 1), (0, .ref (a 10)), (1, .int p0), (2, .int 1)]) hx hb dX6_expression_126 hl (k := 3) rfl (by rw [ex_29]; rfl) (by decide) rfl (fun ls hl => ?_)
              have hx_29 : x_29.toInt = x1_4.toInt + 1 := by rw [ex_29]; have := b_rg x1_4; exact i_add (a := x1_4.toInt) (b := 1) rfl rfl (by omega) (by omega)
              refine lv_goto (tgt := 5) hx hb dX6_expression_129 (by decide) ?_
              exact ih1 x_29 r_24 (upd i23 4 v_28) r23 _ _ _ (by first | omega | (simp only [Int.toNat]; omega)) (by first | omega | decide) hRi hEi hRr hEr  hP hD hS (lv_sub hl [0, 2, 4, 5, 6] rfl)
            · have c_26 : r_24.toInt ≠ 43 := b_ne c_26
              refine lv_iload_n hx hb dX6_expression_70 rfl (lv_at hl 0 rfl) ?_
              refine lv_bipush (v := 45) hx hb dX6_expression_71 (by decide) ?_
              refine lv_icmp_ne (tgt := 80) hx hb dX6_expression_73 (by decide) (fun c_30 => ?_) (fun c_30 => ?_)
              · have c_30 : r_24.toInt ≠ 45 := b_ne c_30
                refine lv_iconst (v := 0) hx hb dX6_expression_80 (by decide) ?_
                refine lv_goto (tgt := 107) hx hb dX6_expression_81 (by decide) ?_
                refine lv_istore (lv' := [(6, .int 0), (3, .int r_24), (5, .int 1), (4, .int x1_4), (0, .ref (a 10)), (1, .int p0), (2, .int 1)]) hx hb dX6_expression_107 hl (by decide) rfl (fun ls hl => ?_)
                refine lv_iload hx hb dX6_expression_109 (lv_at hl 0 rfl) ?_
                refine lv_if_ne (tgt := 116) hx hb dX6_expression_111 (by decide) (fun c_31 => absurd (by decide) c_31) (fun c_31 => ?_)
                refine lv_iconst (v := 1) hx hb dX6_expression_114 (by decide) ?_
                subst hQ
                exact W.zret hx hb hr rfl (fun t ht hW => ⟨⟨_, (i23, r23), rfl, ⟨hRi, hRr, hEi, hEr, Or.inr rfl⟩, by rw [ht]; exact hP, va_K.moved hW.alike hK, hD⟩, hS.F ht⟩) hS.2.2 dX6_expression_115
              · have c_30 : r_24.toInt = 45 := b_nne c_30
                refine lv_iconst (v := 1) hx hb dX6_expression_76 (by decide) ?_
                refine lv_goto (tgt := 107) hx hb dX6_expression_77 (by decide) ?_
                refine lv_istore (lv' := [(6, .int 1), (3, .int r_24), (5, .int 1), (4, .int x1_4), (0, .ref (a 10)), (1, .int p0), (2, .int 1)]) hx hb dX6_expression_107 hl (by decide) rfl (fun ls hl => ?_)
                refine lv_iload hx hb dX6_expression_109 (lv_at hl 0 rfl) ?_
                refine lv_if_ne (tgt := 116) hx hb dX6_expression_111 (by decide) (fun c_32 => ?_) (fun c_32 => absurd c_32 (by decide))
                refine lv_aload_n hx hb dX6_expression_116 rfl (lv_at hl 4 rfl) ?_
                refine lv_dup hx hb dX6_expression_117 rfl ?_
                refine va_get (D := D) (ci := 6) (v := .int (i23 4)) (C := RX6) (T := TX6) (N := 5) hx hb hT iX6 hown hK hP 10 rfl rfl 3 (by decide) (hT _ t_648) (fun _ h9 => h9) rfl dX6_expression_118 ?_
                refine lv_iconst (v := 1) hx hb dX6_expression_121 (by decide) ?_
                refine lv_iadd hx hb dX6_expression_122 ?_
                refine lv_topi (fun v_33 ev_33 => ?_)
                refine va_put (D := D) (ci := 6) (v := .int v_33) (ty := .int) (C := RX6) (T := TX6) (N := 5) hx hb hT iX6 tyX6 tyX6_ok nmX6 hown hK hP hD hS 10 rfl rfl 3 (by decide) (hT _ t_648) (fun _ h9 => h9) rfl (by decide +kernel) rfl rfl (Nat.le_of_ble_eq_true rfl) dX6_expression_123 (fun H locs hP hD hS => ?_)
                rw [zP4] at hP hD
                have hRi := Yi_upd hRi 4 v_33 (b_rg _)
                have hEi := Ei_upd hEi 4 v_33 (by decide)
                obtain ⟨x_34, ex_34⟩ : ∃ y : Int32, y = x1_4 + 1 := ⟨_, rfl⟩
                refine lv_iinc (v := x_34) (lv' := [(4, .int x_34), (6, .int 1), (3, .int r_24), (5, .int 1), (0, .ref (a 10)), (1, .int p0), (2, .int 1)]) hx hb dX6_expression_126 hl (k := 3) rfl (by rw [ex_34]; rfl) (by decide) rfl (fun ls hl => ?_)
                have hx_34 : x_34.toInt = x1_4.toInt + 1 := by rw [ex_34]; have := b_rg x1_4; exact i_add (a := x1_4.toInt) (b := 1) rfl rfl (by omega) (by omega)
                refine lv_goto (tgt := 5) hx hb dX6_expression_129 (by decide) ?_
                exact ih1 x_34 r_24 (upd i23 4 v_33) r23 _ _ _ (by first | omega | (simp only [Int.toNat]; omega)) (by first | omega | decide) hRi hEi hRr hEr  hP hD hS (lv_sub hl [0, 2, 4, 5, 6] rfl)
  exact loop_1 _ 0 (-1) i r _ _ _ (Nat.lt_succ_self _) (by first | omega | decide) hRi hEi hRr hEr  hP hD hS hl
theorem c_X6_factor_k6 (l : Launch) (D : va_G) (cy : Nat → ClassId) (a : Nat → Nat) (i : Nat → Int32) (r : Nat → Nat → Int32) (q : Nat → Option Nat) (tl : va_W) (kq vq : Nat) (sz : Nat) (hRi : yRi i) (hRr : yRr r) : Met l yX6_factor (Cond.code yX6_factor cX6_factor 4 (some .boolean) :: gT) { frames := 5, cells := 0, slots := 0, locals := 115 } (va_Pc [.ref (a 10), .int 6] (rS D cy (xW cy a i r q (a 20) (a 12) ++ tl) sz kq vq)) (va_Qi (fun (z : Int32) (u : (Nat → Int32) × (Nat → Nat → Int32)) => yRi u.1 ∧ yRr u.2 ∧ mEi [4, 5, 7] i u.1 ∧ mEr [17, 18] r u.2 ∧ (z = 0 ∨ z = 1)) (fun (u : (Nat → Int32) × (Nat → Nat → Int32)) t => va_P D vwCl (xW cy a u.1 u.2 q (a 20) (a 12) ++ tl) t.heap ∧ va_K D vwCl (vT cy) t ∧ va_D (va_A (xW cy a i r q (a 20) (a 12) ++ tl) sz) (xW cy a u.1 u.2 q (a 20) (a 12) ++ tl)) (va_A (xW cy a i r q (a 20) (a 12) ++ tl) sz)) 0 0 (va_A (xW cy a i r q (a 20) (a 12) ++ tl) sz) := c_X6_factor_kg l D cy a i r q tl kq vq 6 sz hRi hRr 5 115 0 0 ⟨Nat.le_of_ble_eq_true rfl, Nat.le_of_ble_eq_true rfl⟩ ⟨by decide, by decide⟩ (fun k9 e9 h9 => absurd h9 (by rw [e9]; decide)) ⟨Nat.le_of_ble_eq_true rfl, Nat.le_of_ble_eq_true rfl⟩
theorem c_X6_expression_k6_0 (l : Launch) (D : va_G) (cy : Nat → ClassId) (a : Nat → Nat) (i : Nat → Int32) (r : Nat → Nat → Int32) (q : Nat → Option Nat) (tl : va_W) (kq vq : Nat) (sz : Nat) (hRi : yRi i) (hRr : yRr r) : Met l yX6_expression (Cond.code yX6_expression cX6_expression 7 (some .boolean) :: gT) { frames := 6, cells := 0, slots := 0, locals := 138 } (va_Pc [.ref (a 10), .int 6, .int 0] (rS D cy (xW cy a i r q (a 20) (a 12) ++ tl) sz kq vq)) (va_Qi (fun (z : Int32) (u : (Nat → Int32) × (Nat → Nat → Int32)) => yRi u.1 ∧ yRr u.2 ∧ mEi [4, 5, 7] i u.1 ∧ mEr [17, 18] r u.2 ∧ (z = 0 ∨ z = 1)) (fun (u : (Nat → Int32) × (Nat → Nat → Int32)) t => va_P D vwCl (xW cy a u.1 u.2 q (a 20) (a 12) ++ tl) t.heap ∧ va_K D vwCl (vT cy) t ∧ va_D (va_A (xW cy a i r q (a 20) (a 12) ++ tl) sz) (xW cy a u.1 u.2 q (a 20) (a 12) ++ tl)) (va_A (xW cy a i r q (a 20) (a 12) ++ tl) sz)) 0 0 (va_A (xW cy a i r q (a 20) (a 12) ++ tl) sz) := c_X6_expression_kg0 l D cy a i r q tl kq vq 6 sz hRi hRr 6 138 5 115 ⟨Nat.le_of_ble_eq_true rfl, Nat.le_of_ble_eq_true rfl⟩ ⟨by decide, by decide⟩ (fun k9 e9 i r sz hRi hRr => by subst e9; exact c_X6_factor_k6 l D cy a i r q tl kq vq sz hRi hRr) ⟨Nat.le_of_ble_eq_true rfl, Nat.le_of_ble_eq_true rfl⟩
theorem c_X6_expression_k6_1 (l : Launch) (D : va_G) (cy : Nat → ClassId) (a : Nat → Nat) (i : Nat → Int32) (r : Nat → Nat → Int32) (q : Nat → Option Nat) (tl : va_W) (kq vq : Nat) (sz : Nat) (hRi : yRi i) (hRr : yRr r) : Met l yX6_expression (Cond.code yX6_expression cX6_expression 7 (some .boolean) :: gT) { frames := 7, cells := 0, slots := 0, locals := 164 } (va_Pc [.ref (a 10), .int 6, .int 1] (rS D cy (xW cy a i r q (a 20) (a 12) ++ tl) sz kq vq)) (va_Qi (fun (z : Int32) (u : (Nat → Int32) × (Nat → Nat → Int32)) => yRi u.1 ∧ yRr u.2 ∧ mEi [4, 5, 7] i u.1 ∧ mEr [17, 18] r u.2 ∧ (z = 0 ∨ z = 1)) (fun (u : (Nat → Int32) × (Nat → Nat → Int32)) t => va_P D vwCl (xW cy a u.1 u.2 q (a 20) (a 12) ++ tl) t.heap ∧ va_K D vwCl (vT cy) t ∧ va_D (va_A (xW cy a i r q (a 20) (a 12) ++ tl) sz) (xW cy a u.1 u.2 q (a 20) (a 12) ++ tl)) (va_A (xW cy a i r q (a 20) (a 12) ++ tl) sz)) 0 0 (va_A (xW cy a i r q (a 20) (a 12) ++ tl) sz) := c_X6_expression_kg1 l D cy a i r q tl kq vq 6 sz hRi hRr 7 164 6 138 ⟨Nat.le_of_ble_eq_true rfl, Nat.le_of_ble_eq_true rfl⟩ ⟨by decide, by decide⟩ (fun k9 e9 i r sz hRi hRr => by subst e9; exact c_X6_expression_k6_0 l D cy a i r q tl kq vq sz hRi hRr) ⟨Nat.le_of_ble_eq_true rfl, Nat.le_of_ble_eq_true rfl⟩
theorem c_X6_factor_k5 (l : Launch) (D : va_G) (cy : Nat → ClassId) (a : Nat → Nat) (i : Nat → Int32) (r : Nat → Nat → Int32) (q : Nat → Option Nat) (tl : va_W) (kq vq : Nat) (sz : Nat) (hRi : yRi i) (hRr : yRr r) : Met l yX6_factor (Cond.code yX6_factor cX6_factor 4 (some .boolean) :: gT) { frames := 8, cells := 0, slots := 0, locals := 190 } (va_Pc [.ref (a 10), .int 5] (rS D cy (xW cy a i r q (a 20) (a 12) ++ tl) sz kq vq)) (va_Qi (fun (z : Int32) (u : (Nat → Int32) × (Nat → Nat → Int32)) => yRi u.1 ∧ yRr u.2 ∧ mEi [4, 5, 7] i u.1 ∧ mEr [17, 18] r u.2 ∧ (z = 0 ∨ z = 1)) (fun (u : (Nat → Int32) × (Nat → Nat → Int32)) t => va_P D vwCl (xW cy a u.1 u.2 q (a 20) (a 12) ++ tl) t.heap ∧ va_K D vwCl (vT cy) t ∧ va_D (va_A (xW cy a i r q (a 20) (a 12) ++ tl) sz) (xW cy a u.1 u.2 q (a 20) (a 12) ++ tl)) (va_A (xW cy a i r q (a 20) (a 12) ++ tl) sz)) 0 0 (va_A (xW cy a i r q (a 20) (a 12) ++ tl) sz) := c_X6_factor_kg l D cy a i r q tl kq vq 5 sz hRi hRr 8 190 7 164 ⟨Nat.le_of_ble_eq_true rfl, Nat.le_of_ble_eq_true rfl⟩ ⟨by decide, by decide⟩ (fun k9 e9 _ i r sz hRi hRr => by obtain rfl : k9 = 6 := Int32.toInt_inj.mp (e9.trans (by decide)); exact c_X6_expression_k6_1 l D cy a i r q tl kq vq sz hRi hRr) ⟨Nat.le_of_ble_eq_true rfl, Nat.le_of_ble_eq_true rfl⟩
theorem c_X6_expression_k5_0 (l : Launch) (D : va_G) (cy : Nat → ClassId) (a : Nat → Nat) (i : Nat → Int32) (r : Nat → Nat → Int32) (q : Nat → Option Nat) (tl : va_W) (kq vq : Nat) (sz : Nat) (hRi : yRi i) (hRr : yRr r) : Met l yX6_expression (Cond.code yX6_expression cX6_expression 7 (some .boolean) :: gT) { frames := 9, cells := 0, slots := 0, locals := 213 } (va_Pc [.ref (a 10), .int 5, .int 0] (rS D cy (xW cy a i r q (a 20) (a 12) ++ tl) sz kq vq)) (va_Qi (fun (z : Int32) (u : (Nat → Int32) × (Nat → Nat → Int32)) => yRi u.1 ∧ yRr u.2 ∧ mEi [4, 5, 7] i u.1 ∧ mEr [17, 18] r u.2 ∧ (z = 0 ∨ z = 1)) (fun (u : (Nat → Int32) × (Nat → Nat → Int32)) t => va_P D vwCl (xW cy a u.1 u.2 q (a 20) (a 12) ++ tl) t.heap ∧ va_K D vwCl (vT cy) t ∧ va_D (va_A (xW cy a i r q (a 20) (a 12) ++ tl) sz) (xW cy a u.1 u.2 q (a 20) (a 12) ++ tl)) (va_A (xW cy a i r q (a 20) (a 12) ++ tl) sz)) 0 0 (va_A (xW cy a i r q (a 20) (a 12) ++ tl) sz) := c_X6_expression_kg0 l D cy a i r q tl kq vq 5 sz hRi hRr 9 213 8 190 ⟨Nat.le_of_ble_eq_true rfl, Nat.le_of_ble_eq_true rfl⟩ ⟨by decide, by decide⟩ (fun k9 e9 i r sz hRi hRr => by subst e9; exact c_X6_factor_k5 l D cy a i r q tl kq vq sz hRi hRr) ⟨Nat.le_of_ble_eq_true rfl, Nat.le_of_ble_eq_true rfl⟩
theorem c_X6_expression_k5_1 (l : Launch) (D : va_G) (cy : Nat → ClassId) (a : Nat → Nat) (i : Nat → Int32) (r : Nat → Nat → Int32) (q : Nat → Option Nat) (tl : va_W) (kq vq : Nat) (sz : Nat) (hRi : yRi i) (hRr : yRr r) : Met l yX6_expression (Cond.code yX6_expression cX6_expression 7 (some .boolean) :: gT) { frames := 10, cells := 0, slots := 0, locals := 239 } (va_Pc [.ref (a 10), .int 5, .int 1] (rS D cy (xW cy a i r q (a 20) (a 12) ++ tl) sz kq vq)) (va_Qi (fun (z : Int32) (u : (Nat → Int32) × (Nat → Nat → Int32)) => yRi u.1 ∧ yRr u.2 ∧ mEi [4, 5, 7] i u.1 ∧ mEr [17, 18] r u.2 ∧ (z = 0 ∨ z = 1)) (fun (u : (Nat → Int32) × (Nat → Nat → Int32)) t => va_P D vwCl (xW cy a u.1 u.2 q (a 20) (a 12) ++ tl) t.heap ∧ va_K D vwCl (vT cy) t ∧ va_D (va_A (xW cy a i r q (a 20) (a 12) ++ tl) sz) (xW cy a u.1 u.2 q (a 20) (a 12) ++ tl)) (va_A (xW cy a i r q (a 20) (a 12) ++ tl) sz)) 0 0 (va_A (xW cy a i r q (a 20) (a 12) ++ tl) sz) := c_X6_expression_kg1 l D cy a i r q tl kq vq 5 sz hRi hRr 10 239 9 213 ⟨Nat.le_of_ble_eq_true rfl, Nat.le_of_ble_eq_true rfl⟩ ⟨by decide, by decide⟩ (fun k9 e9 i r sz hRi hRr => by subst e9; exact c_X6_expression_k5_0 l D cy a i r q tl kq vq sz hRi hRr) ⟨Nat.le_of_ble_eq_true rfl, Nat.le_of_ble_eq_true rfl⟩
theorem c_X6_factor_k4 (l : Launch) (D : va_G) (cy : Nat → ClassId) (a : Nat → Nat) (i : Nat → Int32) (r : Nat → Nat → Int32) (q : Nat → Option Nat) (tl : va_W) (kq vq : Nat) (sz : Nat) (hRi : yRi i) (hRr : yRr r) : Met l yX6_factor (Cond.code yX6_factor cX6_factor 4 (some .boolean) :: gT) { frames := 11, cells := 0, slots := 0, locals := 265 } (va_Pc [.ref (a 10), .int 4] (rS D cy (xW cy a i r q (a 20) (a 12) ++ tl) sz kq vq)) (va_Qi (fun (z : Int32) (u : (Nat → Int32) × (Nat → Nat → Int32)) => yRi u.1 ∧ yRr u.2 ∧ mEi [4, 5, 7] i u.1 ∧ mEr [17, 18] r u.2 ∧ (z = 0 ∨ z = 1)) (fun (u : (Nat → Int32) × (Nat → Nat → Int32)) t => va_P D vwCl (xW cy a u.1 u.2 q (a 20) (a 12) ++ tl) t.heap ∧ va_K D vwCl (vT cy) t ∧ va_D (va_A (xW cy a i r q (a 20) (a 12) ++ tl) sz) (xW cy a u.1 u.2 q (a 20) (a 12) ++ tl)) (va_A (xW cy a i r q (a 20) (a 12) ++ tl) sz)) 0 0 (va_A (xW cy a i r q (a 20) (a 12) ++ tl) sz) := c_X6_factor_kg l D cy a i r q tl kq vq 4 sz hRi hRr 11 265 10 239 ⟨Nat.le_of_ble_eq_true rfl, Nat.le_of_ble_eq_true rfl⟩ ⟨by decide, by decide⟩ (fun k9 e9 _ i r sz hRi hRr => by obtain rfl : k9 = 5 := Int32.toInt_inj.mp (e9.trans (by decide)); exact c_X6_expression_k5_1 l D cy a i r q tl kq vq sz hRi hRr) ⟨Nat.le_of_ble_eq_true rfl, Nat.le_of_ble_eq_true rfl⟩
theorem c_X6_expression_k4_0 (l : Launch) (D : va_G) (cy : Nat → ClassId) (a : Nat → Nat) (i : Nat → Int32) (r : Nat → Nat → Int32) (q : Nat → Option Nat) (tl : va_W) (kq vq : Nat) (sz : Nat) (hRi : yRi i) (hRr : yRr r) : Met l yX6_expression (Cond.code yX6_expression cX6_expression 7 (some .boolean) :: gT) { frames := 12, cells := 0, slots := 0, locals := 288 } (va_Pc [.ref (a 10), .int 4, .int 0] (rS D cy (xW cy a i r q (a 20) (a 12) ++ tl) sz kq vq)) (va_Qi (fun (z : Int32) (u : (Nat → Int32) × (Nat → Nat → Int32)) => yRi u.1 ∧ yRr u.2 ∧ mEi [4, 5, 7] i u.1 ∧ mEr [17, 18] r u.2 ∧ (z = 0 ∨ z = 1)) (fun (u : (Nat → Int32) × (Nat → Nat → Int32)) t => va_P D vwCl (xW cy a u.1 u.2 q (a 20) (a 12) ++ tl) t.heap ∧ va_K D vwCl (vT cy) t ∧ va_D (va_A (xW cy a i r q (a 20) (a 12) ++ tl) sz) (xW cy a u.1 u.2 q (a 20) (a 12) ++ tl)) (va_A (xW cy a i r q (a 20) (a 12) ++ tl) sz)) 0 0 (va_A (xW cy a i r q (a 20) (a 12) ++ tl) sz) := c_X6_expression_kg0 l D cy a i r q tl kq vq 4 sz hRi hRr 12 288 11 265 ⟨Nat.le_of_ble_eq_true rfl, Nat.le_of_ble_eq_true rfl⟩ ⟨by decide, by decide⟩ (fun k9 e9 i r sz hRi hRr => by subst e9; exact c_X6_factor_k4 l D cy a i r q tl kq vq sz hRi hRr) ⟨Nat.le_of_ble_eq_true rfl, Nat.le_of_ble_eq_true rfl⟩
theorem c_X6_expression_k4_1 (l : Launch) (D : va_G) (cy : Nat → ClassId) (a : Nat → Nat) (i : Nat → Int32) (r : Nat → Nat → Int32) (q : Nat → Option Nat) (tl : va_W) (kq vq : Nat) (sz : Nat) (hRi : yRi i) (hRr : yRr r) : Met l yX6_expression (Cond.code yX6_expression cX6_expression 7 (some .boolean) :: gT) { frames := 13, cells := 0, slots := 0, locals := 314 } (va_Pc [.ref (a 10), .int 4, .int 1] (rS D cy (xW cy a i r q (a 20) (a 12) ++ tl) sz kq vq)) (va_Qi (fun (z : Int32) (u : (Nat → Int32) × (Nat → Nat → Int32)) => yRi u.1 ∧ yRr u.2 ∧ mEi [4, 5, 7] i u.1 ∧ mEr [17, 18] r u.2 ∧ (z = 0 ∨ z = 1)) (fun (u : (Nat → Int32) × (Nat → Nat → Int32)) t => va_P D vwCl (xW cy a u.1 u.2 q (a 20) (a 12) ++ tl) t.heap ∧ va_K D vwCl (vT cy) t ∧ va_D (va_A (xW cy a i r q (a 20) (a 12) ++ tl) sz) (xW cy a u.1 u.2 q (a 20) (a 12) ++ tl)) (va_A (xW cy a i r q (a 20) (a 12) ++ tl) sz)) 0 0 (va_A (xW cy a i r q (a 20) (a 12) ++ tl) sz) := c_X6_expression_kg1 l D cy a i r q tl kq vq 4 sz hRi hRr 13 314 12 288 ⟨Nat.le_of_ble_eq_true rfl, Nat.le_of_ble_eq_true rfl⟩ ⟨by decide, by decide⟩ (fun k9 e9 i r sz hRi hRr => by subst e9; exact c_X6_expression_k4_0 l D cy a i r q tl kq vq sz hRi hRr) ⟨Nat.le_of_ble_eq_true rfl, Nat.le_of_ble_eq_true rfl⟩
theorem c_X6_factor_k3 (l : Launch) (D : va_G) (cy : Nat → ClassId) (a : Nat → Nat) (i : Nat → Int32) (r : Nat → Nat → Int32) (q : Nat → Option Nat) (tl : va_W) (kq vq : Nat) (sz : Nat) (hRi : yRi i) (hRr : yRr r) : Met l yX6_factor (Cond.code yX6_factor cX6_factor 4 (some .boolean) :: gT) { frames := 14, cells := 0, slots := 0, locals := 340 } (va_Pc [.ref (a 10), .int 3] (rS D cy (xW cy a i r q (a 20) (a 12) ++ tl) sz kq vq)) (va_Qi (fun (z : Int32) (u : (Nat → Int32) × (Nat → Nat → Int32)) => yRi u.1 ∧ yRr u.2 ∧ mEi [4, 5, 7] i u.1 ∧ mEr [17, 18] r u.2 ∧ (z = 0 ∨ z = 1)) (fun (u : (Nat → Int32) × (Nat → Nat → Int32)) t => va_P D vwCl (xW cy a u.1 u.2 q (a 20) (a 12) ++ tl) t.heap ∧ va_K D vwCl (vT cy) t ∧ va_D (va_A (xW cy a i r q (a 20) (a 12) ++ tl) sz) (xW cy a u.1 u.2 q (a 20) (a 12) ++ tl)) (va_A (xW cy a i r q (a 20) (a 12) ++ tl) sz)) 0 0 (va_A (xW cy a i r q (a 20) (a 12) ++ tl) sz) := c_X6_factor_kg l D cy a i r q tl kq vq 3 sz hRi hRr 14 340 13 314 ⟨Nat.le_of_ble_eq_true rfl, Nat.le_of_ble_eq_true rfl⟩ ⟨by decide, by decide⟩ (fun k9 e9 _ i r sz hRi hRr => by obtain rfl : k9 = 4 := Int32.toInt_inj.mp (e9.trans (by decide)); exact c_X6_expression_k4_1 l D cy a i r q tl kq vq sz hRi hRr) ⟨Nat.le_of_ble_eq_true rfl, Nat.le_of_ble_eq_true rfl⟩
theorem c_X6_expression_k3_0 (l : Launch) (D : va_G) (cy : Nat → ClassId) (a : Nat → Nat) (i : Nat → Int32) (r : Nat → Nat → Int32) (q : Nat → Option Nat) (tl : va_W) (kq vq : Nat) (sz : Nat) (hRi : yRi i) (hRr : yRr r) : Met l yX6_expression (Cond.code yX6_expression cX6_expression 7 (some .boolean) :: gT) { frames := 15, cells := 0, slots := 0, locals := 363 } (va_Pc [.ref (a 10), .int 3, .int 0] (rS D cy (xW cy a i r q (a 20) (a 12) ++ tl) sz kq vq)) (va_Qi (fun (z : Int32) (u : (Nat → Int32) × (Nat → Nat → Int32)) => yRi u.1 ∧ yRr u.2 ∧ mEi [4, 5, 7] i u.1 ∧ mEr [17, 18] r u.2 ∧ (z = 0 ∨ z = 1)) (fun (u : (Nat → Int32) × (Nat → Nat → Int32)) t => va_P D vwCl (xW cy a u.1 u.2 q (a 20) (a 12) ++ tl) t.heap ∧ va_K D vwCl (vT cy) t ∧ va_D (va_A (xW cy a i r q (a 20) (a 12) ++ tl) sz) (xW cy a u.1 u.2 q (a 20) (a 12) ++ tl)) (va_A (xW cy a i r q (a 20) (a 12) ++ tl) sz)) 0 0 (va_A (xW cy a i r q (a 20) (a 12) ++ tl) sz) := c_X6_expression_kg0 l D cy a i r q tl kq vq 3 sz hRi hRr 15 363 14 340 ⟨Nat.le_of_ble_eq_true rfl, Nat.le_of_ble_eq_true rfl⟩ ⟨by decide, by decide⟩ (fun k9 e9 i r sz hRi hRr => by subst e9; exact c_X6_factor_k3 l D cy a i r q tl kq vq sz hRi hRr) ⟨Nat.le_of_ble_eq_true rfl, Nat.le_of_ble_eq_true rfl⟩
theorem c_X6_expression_k3_1 (l : Launch) (D : va_G) (cy : Nat → ClassId) (a : Nat → Nat) (i : Nat → Int32) (r : Nat → Nat → Int32) (q : Nat → Option Nat) (tl : va_W) (kq vq : Nat) (sz : Nat) (hRi : yRi i) (hRr : yRr r) : Met l yX6_expression (Cond.code yX6_expression cX6_expression 7 (some .boolean) :: gT) { frames := 16, cells := 0, slots := 0, locals := 389 } (va_Pc [.ref (a 10), .int 3, .int 1] (rS D cy (xW cy a i r q (a 20) (a 12) ++ tl) sz kq vq)) (va_Qi (fun (z : Int32) (u : (Nat → Int32) × (Nat → Nat → Int32)) => yRi u.1 ∧ yRr u.2 ∧ mEi [4, 5, 7] i u.1 ∧ mEr [17, 18] r u.2 ∧ (z = 0 ∨ z = 1)) (fun (u : (Nat → Int32) × (Nat → Nat → Int32)) t => va_P D vwCl (xW cy a u.1 u.2 q (a 20) (a 12) ++ tl) t.heap ∧ va_K D vwCl (vT cy) t ∧ va_D (va_A (xW cy a i r q (a 20) (a 12) ++ tl) sz) (xW cy a u.1 u.2 q (a 20) (a 12) ++ tl)) (va_A (xW cy a i r q (a 20) (a 12) ++ tl) sz)) 0 0 (va_A (xW cy a i r q (a 20) (a 12) ++ tl) sz) := c_X6_expression_kg1 l D cy a i r q tl kq vq 3 sz hRi hRr 16 389 15 363 ⟨Nat.le_of_ble_eq_true rfl, Nat.le_of_ble_eq_true rfl⟩ ⟨by decide, by decide⟩ (fun k9 e9 i r sz hRi hRr => by subst e9; exact c_X6_expression_k3_0 l D cy a i r q tl kq vq sz hRi hRr) ⟨Nat.le_of_ble_eq_true rfl, Nat.le_of_ble_eq_true rfl⟩
theorem c_X6_factor_k2 (l : Launch) (D : va_G) (cy : Nat → ClassId) (a : Nat → Nat) (i : Nat → Int32) (r : Nat → Nat → Int32) (q : Nat → Option Nat) (tl : va_W) (kq vq : Nat) (sz : Nat) (hRi : yRi i) (hRr : yRr r) : Met l yX6_factor (Cond.code yX6_factor cX6_factor 4 (some .boolean) :: gT) { frames := 17, cells := 0, slots := 0, locals := 415 } (va_Pc [.ref (a 10), .int 2] (rS D cy (xW cy a i r q (a 20) (a 12) ++ tl) sz kq vq)) (va_Qi (fun (z : Int32) (u : (Nat → Int32) × (Nat → Nat → Int32)) => yRi u.1 ∧ yRr u.2 ∧ mEi [4, 5, 7] i u.1 ∧ mEr [17, 18] r u.2 ∧ (z = 0 ∨ z = 1)) (fun (u : (Nat → Int32) × (Nat → Nat → Int32)) t => va_P D vwCl (xW cy a u.1 u.2 q (a 20) (a 12) ++ tl) t.heap ∧ va_K D vwCl (vT cy) t ∧ va_D (va_A (xW cy a i r q (a 20) (a 12) ++ tl) sz) (xW cy a u.1 u.2 q (a 20) (a 12) ++ tl)) (va_A (xW cy a i r q (a 20) (a 12) ++ tl) sz)) 0 0 (va_A (xW cy a i r q (a 20) (a 12) ++ tl) sz) := c_X6_factor_kg l D cy a i r q tl kq vq 2 sz hRi hRr 17 415 16 389 ⟨Nat.le_of_ble_eq_true rfl, Nat.le_of_ble_eq_true rfl⟩ ⟨by decide, by decide⟩ (fun k9 e9 _ i r sz hRi hRr => by obtain rfl : k9 = 3 := Int32.toInt_inj.mp (e9.trans (by decide)); exact c_X6_expression_k3_1 l D cy a i r q tl kq vq sz hRi hRr) ⟨Nat.le_of_ble_eq_true rfl, Nat.le_of_ble_eq_true rfl⟩
theorem c_X6_expression_k2_0 (l : Launch) (D : va_G) (cy : Nat → ClassId) (a : Nat → Nat) (i : Nat → Int32) (r : Nat → Nat → Int32) (q : Nat → Option Nat) (tl : va_W) (kq vq : Nat) (sz : Nat) (hRi : yRi i) (hRr : yRr r) : Met l yX6_expression (Cond.code yX6_expression cX6_expression 7 (some .boolean) :: gT) { frames := 18, cells := 0, slots := 0, locals := 438 } (va_Pc [.ref (a 10), .int 2, .int 0] (rS D cy (xW cy a i r q (a 20) (a 12) ++ tl) sz kq vq)) (va_Qi (fun (z : Int32) (u : (Nat → Int32) × (Nat → Nat → Int32)) => yRi u.1 ∧ yRr u.2 ∧ mEi [4, 5, 7] i u.1 ∧ mEr [17, 18] r u.2 ∧ (z = 0 ∨ z = 1)) (fun (u : (Nat → Int32) × (Nat → Nat → Int32)) t => va_P D vwCl (xW cy a u.1 u.2 q (a 20) (a 12) ++ tl) t.heap ∧ va_K D vwCl (vT cy) t ∧ va_D (va_A (xW cy a i r q (a 20) (a 12) ++ tl) sz) (xW cy a u.1 u.2 q (a 20) (a 12) ++ tl)) (va_A (xW cy a i r q (a 20) (a 12) ++ tl) sz)) 0 0 (va_A (xW cy a i r q (a 20) (a 12) ++ tl) sz) := c_X6_expression_kg0 l D cy a i r q tl kq vq 2 sz hRi hRr 18 438 17 415 ⟨Nat.le_of_ble_eq_true rfl, Nat.le_of_ble_eq_true rfl⟩ ⟨by decide, by decide⟩ (fun k9 e9 i r sz hRi hRr => by subst e9; exact c_X6_factor_k2 l D cy a i r q tl kq vq sz hRi hRr) ⟨Nat.le_of_ble_eq_true rfl, Nat.le_of_ble_eq_true rfl⟩
theorem c_X6_expression_k2_1 (l : Launch) (D : va_G) (cy : Nat → ClassId) (a : Nat → Nat) (i : Nat → Int32) (r : Nat → Nat → Int32) (q : Nat → Option Nat) (tl : va_W) (kq vq : Nat) (sz : Nat) (hRi : yRi i) (hRr : yRr r) : Met l yX6_expression (Cond.code yX6_expression cX6_expression 7 (some .boolean) :: gT) { frames := 19, cells := 0, slots := 0, locals := 464 } (va_Pc [.ref (a 10), .int 2, .int 1] (rS D cy (xW cy a i r q (a 20) (a 12) ++ tl) sz kq vq)) (va_Qi (fun (z : Int32) (u : (Nat → Int32) × (Nat → Nat → Int32)) => yRi u.1 ∧ yRr u.2 ∧ mEi [4, 5, 7] i u.1 ∧ mEr [17, 18] r u.2 ∧ (z = 0 ∨ z = 1)) (fun (u : (Nat → Int32) × (Nat → Nat → Int32)) t => va_P D vwCl (xW cy a u.1 u.2 q (a 20) (a 12) ++ tl) t.heap ∧ va_K D vwCl (vT cy) t ∧ va_D (va_A (xW cy a i r q (a 20) (a 12) ++ tl) sz) (xW cy a u.1 u.2 q (a 20) (a 12) ++ tl)) (va_A (xW cy a i r q (a 20) (a 12) ++ tl) sz)) 0 0 (va_A (xW cy a i r q (a 20) (a 12) ++ tl) sz) := c_X6_expression_kg1 l D cy a i r q tl kq vq 2 sz hRi hRr 19 464 18 438 ⟨Nat.le_of_ble_eq_true rfl, Nat.le_of_ble_eq_true rfl⟩ ⟨by decide, by decide⟩ (fun k9 e9 i r sz hRi hRr => by subst e9; exact c_X6_expression_k2_0 l D cy a i r q tl kq vq sz hRi hRr) ⟨Nat.le_of_ble_eq_true rfl, Nat.le_of_ble_eq_true rfl⟩
theorem c_X6_factor_k1 (l : Launch) (D : va_G) (cy : Nat → ClassId) (a : Nat → Nat) (i : Nat → Int32) (r : Nat → Nat → Int32) (q : Nat → Option Nat) (tl : va_W) (kq vq : Nat) (sz : Nat) (hRi : yRi i) (hRr : yRr r) : Met l yX6_factor (Cond.code yX6_factor cX6_factor 4 (some .boolean) :: gT) { frames := 20, cells := 0, slots := 0, locals := 490 } (va_Pc [.ref (a 10), .int 1] (rS D cy (xW cy a i r q (a 20) (a 12) ++ tl) sz kq vq)) (va_Qi (fun (z : Int32) (u : (Nat → Int32) × (Nat → Nat → Int32)) => yRi u.1 ∧ yRr u.2 ∧ mEi [4, 5, 7] i u.1 ∧ mEr [17, 18] r u.2 ∧ (z = 0 ∨ z = 1)) (fun (u : (Nat → Int32) × (Nat → Nat → Int32)) t => va_P D vwCl (xW cy a u.1 u.2 q (a 20) (a 12) ++ tl) t.heap ∧ va_K D vwCl (vT cy) t ∧ va_D (va_A (xW cy a i r q (a 20) (a 12) ++ tl) sz) (xW cy a u.1 u.2 q (a 20) (a 12) ++ tl)) (va_A (xW cy a i r q (a 20) (a 12) ++ tl) sz)) 0 0 (va_A (xW cy a i r q (a 20) (a 12) ++ tl) sz) := c_X6_factor_kg l D cy a i r q tl kq vq 1 sz hRi hRr 20 490 19 464 ⟨Nat.le_of_ble_eq_true rfl, Nat.le_of_ble_eq_true rfl⟩ ⟨by decide, by decide⟩ (fun k9 e9 _ i r sz hRi hRr => by obtain rfl : k9 = 2 := Int32.toInt_inj.mp (e9.trans (by decide)); exact c_X6_expression_k2_1 l D cy a i r q tl kq vq sz hRi hRr) ⟨Nat.le_of_ble_eq_true rfl, Nat.le_of_ble_eq_true rfl⟩
theorem c_X6_expression_k1_0 (l : Launch) (D : va_G) (cy : Nat → ClassId) (a : Nat → Nat) (i : Nat → Int32) (r : Nat → Nat → Int32) (q : Nat → Option Nat) (tl : va_W) (kq vq : Nat) (sz : Nat) (hRi : yRi i) (hRr : yRr r) : Met l yX6_expression (Cond.code yX6_expression cX6_expression 7 (some .boolean) :: gT) { frames := 21, cells := 0, slots := 0, locals := 513 } (va_Pc [.ref (a 10), .int 1, .int 0] (rS D cy (xW cy a i r q (a 20) (a 12) ++ tl) sz kq vq)) (va_Qi (fun (z : Int32) (u : (Nat → Int32) × (Nat → Nat → Int32)) => yRi u.1 ∧ yRr u.2 ∧ mEi [4, 5, 7] i u.1 ∧ mEr [17, 18] r u.2 ∧ (z = 0 ∨ z = 1)) (fun (u : (Nat → Int32) × (Nat → Nat → Int32)) t => va_P D vwCl (xW cy a u.1 u.2 q (a 20) (a 12) ++ tl) t.heap ∧ va_K D vwCl (vT cy) t ∧ va_D (va_A (xW cy a i r q (a 20) (a 12) ++ tl) sz) (xW cy a u.1 u.2 q (a 20) (a 12) ++ tl)) (va_A (xW cy a i r q (a 20) (a 12) ++ tl) sz)) 0 0 (va_A (xW cy a i r q (a 20) (a 12) ++ tl) sz) := c_X6_expression_kg0 l D cy a i r q tl kq vq 1 sz hRi hRr 21 513 20 490 ⟨Nat.le_of_ble_eq_true rfl, Nat.le_of_ble_eq_true rfl⟩ ⟨by decide, by decide⟩ (fun k9 e9 i r sz hRi hRr => by subst e9; exact c_X6_factor_k1 l D cy a i r q tl kq vq sz hRi hRr) ⟨Nat.le_of_ble_eq_true rfl, Nat.le_of_ble_eq_true rfl⟩
theorem c_X6_expression_k1_1 (l : Launch) (D : va_G) (cy : Nat → ClassId) (a : Nat → Nat) (i : Nat → Int32) (r : Nat → Nat → Int32) (q : Nat → Option Nat) (tl : va_W) (kq vq : Nat) (sz : Nat) (hRi : yRi i) (hRr : yRr r) : Met l yX6_expression (Cond.code yX6_expression cX6_expression 7 (some .boolean) :: gT) { frames := 22, cells := 0, slots := 0, locals := 539 } (va_Pc [.ref (a 10), .int 1, .int 1] (rS D cy (xW cy a i r q (a 20) (a 12) ++ tl) sz kq vq)) (va_Qi (fun (z : Int32) (u : (Nat → Int32) × (Nat → Nat → Int32)) => yRi u.1 ∧ yRr u.2 ∧ mEi [4, 5, 7] i u.1 ∧ mEr [17, 18] r u.2 ∧ (z = 0 ∨ z = 1)) (fun (u : (Nat → Int32) × (Nat → Nat → Int32)) t => va_P D vwCl (xW cy a u.1 u.2 q (a 20) (a 12) ++ tl) t.heap ∧ va_K D vwCl (vT cy) t ∧ va_D (va_A (xW cy a i r q (a 20) (a 12) ++ tl) sz) (xW cy a u.1 u.2 q (a 20) (a 12) ++ tl)) (va_A (xW cy a i r q (a 20) (a 12) ++ tl) sz)) 0 0 (va_A (xW cy a i r q (a 20) (a 12) ++ tl) sz) := c_X6_expression_kg1 l D cy a i r q tl kq vq 1 sz hRi hRr 22 539 21 513 ⟨Nat.le_of_ble_eq_true rfl, Nat.le_of_ble_eq_true rfl⟩ ⟨by decide, by decide⟩ (fun k9 e9 i r sz hRi hRr => by subst e9; exact c_X6_expression_k1_0 l D cy a i r q tl kq vq sz hRi hRr) ⟨Nat.le_of_ble_eq_true rfl, Nat.le_of_ble_eq_true rfl⟩
theorem c_X6_factor_k0 (l : Launch) (D : va_G) (cy : Nat → ClassId) (a : Nat → Nat) (i : Nat → Int32) (r : Nat → Nat → Int32) (q : Nat → Option Nat) (tl : va_W) (kq vq : Nat) (sz : Nat) (hRi : yRi i) (hRr : yRr r) : Met l yX6_factor (Cond.code yX6_factor cX6_factor 4 (some .boolean) :: gT) { frames := 23, cells := 0, slots := 0, locals := 565 } (va_Pc [.ref (a 10), .int 0] (rS D cy (xW cy a i r q (a 20) (a 12) ++ tl) sz kq vq)) (va_Qi (fun (z : Int32) (u : (Nat → Int32) × (Nat → Nat → Int32)) => yRi u.1 ∧ yRr u.2 ∧ mEi [4, 5, 7] i u.1 ∧ mEr [17, 18] r u.2 ∧ (z = 0 ∨ z = 1)) (fun (u : (Nat → Int32) × (Nat → Nat → Int32)) t => va_P D vwCl (xW cy a u.1 u.2 q (a 20) (a 12) ++ tl) t.heap ∧ va_K D vwCl (vT cy) t ∧ va_D (va_A (xW cy a i r q (a 20) (a 12) ++ tl) sz) (xW cy a u.1 u.2 q (a 20) (a 12) ++ tl)) (va_A (xW cy a i r q (a 20) (a 12) ++ tl) sz)) 0 0 (va_A (xW cy a i r q (a 20) (a 12) ++ tl) sz) := c_X6_factor_kg l D cy a i r q tl kq vq 0 sz hRi hRr 23 565 22 539 ⟨Nat.le_of_ble_eq_true rfl, Nat.le_of_ble_eq_true rfl⟩ ⟨by decide, by decide⟩ (fun k9 e9 _ i r sz hRi hRr => by obtain rfl : k9 = 1 := Int32.toInt_inj.mp (e9.trans (by decide)); exact c_X6_expression_k1_1 l D cy a i r q tl kq vq sz hRi hRr) ⟨Nat.le_of_ble_eq_true rfl, Nat.le_of_ble_eq_true rfl⟩
theorem c_X6_expression_k0_0 (l : Launch) (D : va_G) (cy : Nat → ClassId) (a : Nat → Nat) (i : Nat → Int32) (r : Nat → Nat → Int32) (q : Nat → Option Nat) (tl : va_W) (kq vq : Nat) (sz : Nat) (hRi : yRi i) (hRr : yRr r) : Met l yX6_expression (Cond.code yX6_expression cX6_expression 7 (some .boolean) :: gT) { frames := 24, cells := 0, slots := 0, locals := 588 } (va_Pc [.ref (a 10), .int 0, .int 0] (rS D cy (xW cy a i r q (a 20) (a 12) ++ tl) sz kq vq)) (va_Qi (fun (z : Int32) (u : (Nat → Int32) × (Nat → Nat → Int32)) => yRi u.1 ∧ yRr u.2 ∧ mEi [4, 5, 7] i u.1 ∧ mEr [17, 18] r u.2 ∧ (z = 0 ∨ z = 1)) (fun (u : (Nat → Int32) × (Nat → Nat → Int32)) t => va_P D vwCl (xW cy a u.1 u.2 q (a 20) (a 12) ++ tl) t.heap ∧ va_K D vwCl (vT cy) t ∧ va_D (va_A (xW cy a i r q (a 20) (a 12) ++ tl) sz) (xW cy a u.1 u.2 q (a 20) (a 12) ++ tl)) (va_A (xW cy a i r q (a 20) (a 12) ++ tl) sz)) 0 0 (va_A (xW cy a i r q (a 20) (a 12) ++ tl) sz) := c_X6_expression_kg0 l D cy a i r q tl kq vq 0 sz hRi hRr 24 588 23 565 ⟨Nat.le_of_ble_eq_true rfl, Nat.le_of_ble_eq_true rfl⟩ ⟨by decide, by decide⟩ (fun k9 e9 i r sz hRi hRr => by subst e9; exact c_X6_factor_k0 l D cy a i r q tl kq vq sz hRi hRr) ⟨Nat.le_of_ble_eq_true rfl, Nat.le_of_ble_eq_true rfl⟩
theorem c_X6_expression_k0_1 (l : Launch) (D : va_G) (cy : Nat → ClassId) (a : Nat → Nat) (i : Nat → Int32) (r : Nat → Nat → Int32) (q : Nat → Option Nat) (tl : va_W) (kq vq : Nat) (sz : Nat) (hRi : yRi i) (hRr : yRr r) : Met l yX6_expression (Cond.code yX6_expression cX6_expression 7 (some .boolean) :: gT) { frames := 25, cells := 0, slots := 0, locals := 614 } (va_Pc [.ref (a 10), .int 0, .int 1] (rS D cy (xW cy a i r q (a 20) (a 12) ++ tl) sz kq vq)) (va_Qi (fun (z : Int32) (u : (Nat → Int32) × (Nat → Nat → Int32)) => yRi u.1 ∧ yRr u.2 ∧ mEi [4, 5, 7] i u.1 ∧ mEr [17, 18] r u.2 ∧ (z = 0 ∨ z = 1)) (fun (u : (Nat → Int32) × (Nat → Nat → Int32)) t => va_P D vwCl (xW cy a u.1 u.2 q (a 20) (a 12) ++ tl) t.heap ∧ va_K D vwCl (vT cy) t ∧ va_D (va_A (xW cy a i r q (a 20) (a 12) ++ tl) sz) (xW cy a u.1 u.2 q (a 20) (a 12) ++ tl)) (va_A (xW cy a i r q (a 20) (a 12) ++ tl) sz)) 0 0 (va_A (xW cy a i r q (a 20) (a 12) ++ tl) sz) := c_X6_expression_kg1 l D cy a i r q tl kq vq 0 sz hRi hRr 25 614 24 588 ⟨Nat.le_of_ble_eq_true rfl, Nat.le_of_ble_eq_true rfl⟩ ⟨by decide, by decide⟩ (fun k9 e9 i r sz hRi hRr => by subst e9; exact c_X6_expression_k0_0 l D cy a i r q tl kq vq sz hRi hRr) ⟨Nat.le_of_ble_eq_true rfl, Nat.le_of_ble_eq_true rfl⟩
