set_option maxRecDepth 100000 in
theorem t_643 : Cond.fieldLink RX5 15 "DepositJudge$Law" "steps" "I" ∈ gT := tm (tb1 (List.mem_of_getElem? (i := 90) (by rfl))) (by decide +kernel)
set_option maxRecDepth 100000 in
theorem t_644 : Cond.code yX5_isFull cX5_isFull 1 (some .boolean) ∈ gT := tm (tb3 (List.mem_of_getElem? (i := 15) (by rfl))) (by decide +kernel)
set_option maxRecDepth 100000 in
theorem t_645 : Cond.methodLink RX5 40 yX5_isFull ∈ gT := tm (tb3 (List.mem_of_getElem? (i := 20) (by rfl))) (by decide +kernel)
set_option maxRecDepth 100000 in
theorem t_646 : Cond.instanceMethod yX5_isFull ∈ gT := tm (tb3 (List.mem_of_getElem? (i := 13) (by rfl))) (by decide +kernel)
set_option maxRecDepth 100000 in
theorem t_647 : Cond.selects RX5 yX5_isFull yX5_isFull ∈ gT := tm (tb3 (List.mem_of_getElem? (i := 14) (by rfl))) (by decide +kernel)
set_option maxRecDepth 100000 in
theorem t_648 : Cond.fieldLink RX6 26 "DepositJudge$LawReader" "at" "I" ∈ gT := tm (tb1 (List.mem_of_getElem? (i := 121) (by rfl))) (by decide +kernel)
set_option maxRecDepth 100000 in
theorem t_649 : Cond.fieldLink RX6 22 "DepositJudge$LawReader" "end" "I" ∈ gT := tm (tb1 (List.mem_of_getElem? (i := 120) (by rfl))) (by decide +kernel)
set_option maxRecDepth 100000 in
theorem t_650 : Cond.fieldLink RX6 18 "DepositJudge$LawReader" "text" "[B" ∈ gT := tm (tb1 (List.mem_of_getElem? (i := 119) (by rfl))) (by decide +kernel)
set_option maxRecDepth 100000 in
theorem t_651 : Cond.fieldLink RX6 29 "DepositJudge$LawReader" "fault" "I" ∈ gT := tm (tb1 (List.mem_of_getElem? (i := 122) (by rfl))) (by decide +kernel)
set_option maxRecDepth 100000 in
theorem t_652 : Cond.code yX6_peek cX6_peek 1 (some .int) ∈ gT := tm (tb3 (List.mem_of_getElem? (i := 3) (by rfl))) (by decide +kernel)
set_option maxRecDepth 100000 in
theorem t_653 : Cond.initialized RX6 ∈ gT := tm (tb1 (List.mem_of_getElem? (i := 5) (by rfl))) (by decide +kernel)
set_option maxRecDepth 100000 in
theorem t_654 : Cond.methodLink RX6 46 yX6_peek ∈ gT := tm (tb3 (List.mem_of_getElem? (i := 0) (by rfl))) (by decide +kernel)
set_option maxRecDepth 100000 in
theorem t_655 : Cond.instanceMethod yX6_peek ∈ gT := tm (tb3 (List.mem_of_getElem? (i := 2) (by rfl))) (by decide +kernel)
theorem t_656 : Cond.selects RX6 yX6_peek yX6_peek ∈ gT := tmp (List.mem_of_getElem? (i := 6) (by decide +kernel)) (by decide +kernel)
set_option maxRecDepth 100000 in
theorem t_657 : Cond.code yX6_refuse cX6_refuse 2 (some .boolean) ∈ gT := tm (tb3 (List.mem_of_getElem? (i := 11) (by rfl))) (by decide +kernel)
set_option maxRecDepth 100000 in
theorem t_658 : Cond.methodLink RX6 73 yX6_refuse ∈ gT := tm (tb3 (List.mem_of_getElem? (i := 8) (by rfl))) (by decide +kernel)
set_option maxRecDepth 100000 in
theorem t_659 : Cond.instanceMethod yX6_refuse ∈ gT := tm (tb3 (List.mem_of_getElem? (i := 10) (by rfl))) (by decide +kernel)
theorem t_660 : Cond.selects RX6 yX6_refuse yX6_refuse ∈ gT := tmp (List.mem_of_getElem? (i := 8) (by decide +kernel)) (by decide +kernel)
set_option maxRecDepth 100000 in
theorem t_661 : Cond.fieldLink RX6 12 "DepositJudge$LawReader" "draft" "LDepositJudge$Law;" ∈ gT := tm (tb1 (List.mem_of_getElem? (i := 117) (by rfl))) (by decide +kernel)
set_option maxRecDepth 100000 in
theorem t_662 : Cond.code yX5_add cX5_add 3 (some .int) ∈ gT := tm (tb3 (List.mem_of_getElem? (i := 40) (by rfl))) (by decide +kernel)
set_option maxRecDepth 100000 in
theorem t_663 : Cond.methodLink RX6 92 yX5_add ∈ gT := tm (tb3 (List.mem_of_getElem? (i := 37) (by rfl))) (by decide +kernel)
set_option maxRecDepth 100000 in
theorem t_664 : Cond.instanceMethod yX5_add ∈ gT := tm (tb3 (List.mem_of_getElem? (i := 38) (by rfl))) (by decide +kernel)
set_option maxRecDepth 100000 in
theorem t_665 : Cond.selects RX5 yX5_add yX5_add ∈ gT := tm (tb3 (List.mem_of_getElem? (i := 39) (by rfl))) (by decide +kernel)
set_option maxRecDepth 100000 in
theorem t_666 : Cond.code yJ0_indexOf_0f7a4 cJ0_indexOf_0f7a4 2 (some .int) ∈ gT := tm (tb3 (List.mem_of_getElem? (i := 45) (by rfl))) (by decide +kernel)
set_option maxRecDepth 100000 in
theorem t_667 : Cond.methodLink RX6 103 yJ0_indexOf_0f7a4 ∈ gT := tm (tb3 (List.mem_of_getElem? (i := 42) (by rfl))) (by decide +kernel)
set_option maxRecDepth 100000 in
theorem t_668 : Cond.instanceMethod yJ0_indexOf_0f7a4 ∈ gT := tm (tb3 (List.mem_of_getElem? (i := 43) (by rfl))) (by decide +kernel)
set_option maxRecDepth 100000 in
theorem t_669 : Cond.selects RJ0 yJ0_indexOf_0f7a4 yJ0_indexOf_0f7a4 ∈ gT := tm (tb3 (List.mem_of_getElem? (i := 44) (by rfl))) (by decide +kernel)
set_option maxRecDepth 100000 in
theorem t_670 : Cond.code yX6_number cX6_number 4 (some .boolean) ∈ gT := tm (tb3 (List.mem_of_getElem? (i := 36) (by rfl))) (by decide +kernel)
set_option maxRecDepth 100000 in
theorem t_671 : Cond.methodLink RX6 98 yX6_number ∈ gT := tm (tb3 (List.mem_of_getElem? (i := 33) (by rfl))) (by decide +kernel)
set_option maxRecDepth 100000 in
theorem t_672 : Cond.instanceMethod yX6_number ∈ gT := tm (tb3 (List.mem_of_getElem? (i := 35) (by rfl))) (by decide +kernel)
theorem t_673 : Cond.selects RX6 yX6_number yX6_number ∈ gT := tmp (List.mem_of_getElem? (i := 12) (by decide +kernel)) (by decide +kernel)
set_option maxRecDepth 100000 in
theorem t_674 : Cond.code yX6_expression cX6_expression 7 (some .boolean) ∈ gT := tm (tb3 (List.mem_of_getElem? (i := 24) (by rfl))) (by decide +kernel)
set_option maxRecDepth 100000 in
theorem t_675 : Cond.methodLink RX6 54 yX6_expression ∈ gT := tm (tb3 (List.mem_of_getElem? (i := 21) (by rfl))) (by decide +kernel)
set_option maxRecDepth 100000 in
theorem t_676 : Cond.instanceMethod yX6_expression ∈ gT := tm (tb3 (List.mem_of_getElem? (i := 23) (by rfl))) (by decide +kernel)
theorem t_677 : Cond.selects RX6 yX6_expression yX6_expression ∈ gT := tmp (List.mem_of_getElem? (i := 9) (by decide +kernel)) (by decide +kernel)
set_option maxRecDepth 100000 in
theorem t_678 : Cond.code yX6_pass cX6_pass 2 (some .boolean) ∈ gT := tm (tb3 (List.mem_of_getElem? (i := 32) (by rfl))) (by decide +kernel)
set_option maxRecDepth 100000 in
theorem t_679 : Cond.methodLink RX6 69 yX6_pass ∈ gT := tm (tb3 (List.mem_of_getElem? (i := 29) (by rfl))) (by decide +kernel)
set_option maxRecDepth 100000 in
theorem t_680 : Cond.instanceMethod yX6_pass ∈ gT := tm (tb3 (List.mem_of_getElem? (i := 31) (by rfl))) (by decide +kernel)
theorem t_681 : Cond.selects RX6 yX6_pass yX6_pass ∈ gT := tmp (List.mem_of_getElem? (i := 11) (by decide +kernel)) (by decide +kernel)
set_option maxRecDepth 100000 in
theorem t_682 : Cond.code yX6_factor cX6_factor 4 (some .boolean) ∈ gT := tm (tb3 (List.mem_of_getElem? (i := 28) (by rfl))) (by decide +kernel)
set_option maxRecDepth 100000 in
theorem t_683 : Cond.methodLink RX6 95 yX6_factor ∈ gT := tm (tb3 (List.mem_of_getElem? (i := 25) (by rfl))) (by decide +kernel)
set_option maxRecDepth 100000 in
theorem t_684 : Cond.instanceMethod yX6_factor ∈ gT := tm (tb3 (List.mem_of_getElem? (i := 27) (by rfl))) (by decide +kernel)
theorem t_685 : Cond.selects RX6 yX6_factor yX6_factor ∈ gT := tmp (List.mem_of_getElem? (i := 10) (by decide +kernel)) (by decide +kernel)
def dl_386 : List (Nat × (Instr × Nat)) := [(0, (.aload_n 0, 1)), (1, (.getfield 15, 3)), (4, (.sipush 200, 3)), (7, (.if_icmp .lt 5, 3)), (10, (.iconst (-1), 1)), (11, (.ireturn, 1)), (12, (.aload_n 0, 1)), (13, (.getfield 31, 3)), (16, (.aload_n 0, 1)), (17, (.getfield 15, 3)), (20, (.iload_n 1, 1)), (21, (.iastore, 1)), (22, (.aload_n 0, 1)), (23, (.getfield 34, 3)), (26, (.aload_n 0, 1)), (27, (.getfield 15, 3)), (30, (.iload_n 2, 1)), (31, (.iastore, 1)), (32, (.aload_n 0, 1)), (33, (.dup, 1))]
theorem dh_386 : dchk cX5_add dl_386 = true := by decide +kernel
theorem dX5_add_0 : decode cX5_add 0 = .ok (.aload_n 0, 1) := dget dh_386 (k := 0) rfl
theorem dX5_add_1 : decode cX5_add 1 = .ok (.getfield 15, 3) := dget dh_386 (k := 1) rfl
theorem dX5_add_4 : decode cX5_add 4 = .ok (.sipush 200, 3) := dget dh_386 (k := 2) rfl
theorem dX5_add_7 : decode cX5_add 7 = .ok (.if_icmp .lt 5, 3) := dget dh_386 (k := 3) rfl
theorem dX5_add_10 : decode cX5_add 10 = .ok (.iconst (-1), 1) := dget dh_386 (k := 4) rfl
theorem dX5_add_11 : decode cX5_add 11 = .ok (.ireturn, 1) := dget dh_386 (k := 5) rfl
theorem dX5_add_12 : decode cX5_add 12 = .ok (.aload_n 0, 1) := dget dh_386 (k := 6) rfl
theorem dX5_add_13 : decode cX5_add 13 = .ok (.getfield 31, 3) := dget dh_386 (k := 7) rfl
theorem dX5_add_16 : decode cX5_add 16 = .ok (.aload_n 0, 1) := dget dh_386 (k := 8) rfl
theorem dX5_add_17 : decode cX5_add 17 = .ok (.getfield 15, 3) := dget dh_386 (k := 9) rfl
theorem dX5_add_20 : decode cX5_add 20 = .ok (.iload_n 1, 1) := dget dh_386 (k := 10) rfl
theorem dX5_add_21 : decode cX5_add 21 = .ok (.iastore, 1) := dget dh_386 (k := 11) rfl
theorem dX5_add_22 : decode cX5_add 22 = .ok (.aload_n 0, 1) := dget dh_386 (k := 12) rfl
theorem dX5_add_23 : decode cX5_add 23 = .ok (.getfield 34, 3) := dget dh_386 (k := 13) rfl
theorem dX5_add_26 : decode cX5_add 26 = .ok (.aload_n 0, 1) := dget dh_386 (k := 14) rfl
theorem dX5_add_27 : decode cX5_add 27 = .ok (.getfield 15, 3) := dget dh_386 (k := 15) rfl
theorem dX5_add_30 : decode cX5_add 30 = .ok (.iload_n 2, 1) := dget dh_386 (k := 16) rfl
theorem dX5_add_31 : decode cX5_add 31 = .ok (.iastore, 1) := dget dh_386 (k := 17) rfl
theorem dX5_add_32 : decode cX5_add 32 = .ok (.aload_n 0, 1) := dget dh_386 (k := 18) rfl
theorem dX5_add_33 : decode cX5_add 33 = .ok (.dup, 1) := dget dh_386 (k := 19) rfl
def dl_387 : List (Nat × (Instr × Nat)) := [(34, (.getfield 15, 3)), (37, (.iconst 1, 1)), (38, (.iadd, 1)), (39, (.putfield 15, 3)), (42, (.aload_n 0, 1)), (43, (.getfield 15, 3)), (46, (.iconst 1, 1)), (47, (.isub, 1)), (48, (.ireturn, 1))]
theorem dh_387 : dchk cX5_add dl_387 = true := by decide +kernel
theorem dX5_add_34 : decode cX5_add 34 = .ok (.getfield 15, 3) := dget dh_387 (k := 0) rfl
theorem dX5_add_37 : decode cX5_add 37 = .ok (.iconst 1, 1) := dget dh_387 (k := 1) rfl
theorem dX5_add_38 : decode cX5_add 38 = .ok (.iadd, 1) := dget dh_387 (k := 2) rfl
theorem dX5_add_39 : decode cX5_add 39 = .ok (.putfield 15, 3) := dget dh_387 (k := 3) rfl
theorem dX5_add_42 : decode cX5_add 42 = .ok (.aload_n 0, 1) := dget dh_387 (k := 4) rfl
theorem dX5_add_43 : decode cX5_add 43 = .ok (.getfield 15, 3) := dget dh_387 (k := 5) rfl
theorem dX5_add_46 : decode cX5_add 46 = .ok (.iconst 1, 1) := dget dh_387 (k := 6) rfl
theorem dX5_add_47 : decode cX5_add 47 = .ok (.isub, 1) := dget dh_387 (k := 7) rfl
theorem dX5_add_48 : decode cX5_add 48 = .ok (.ireturn, 1) := dget dh_387 (k := 8) rfl
def dl_388 : List (Nat × (Instr × Nat)) := [(0, (.iload_n 1, 1)), (1, (.ifCond .lt 21, 3)), (4, (.iload_n 1, 1)), (5, (.aload_n 0, 1)), (6, (.getfield 15, 3)), (9, (.if_icmp .ge 13, 3)), (12, (.aload_n 0, 1)), (13, (.getfield 34, 3)), (16, (.iload_n 1, 1)), (17, (.aload_n 0, 1)), (18, (.getfield 15, 3)), (21, (.iastore, 1)), (22, (.return_, 1))]
theorem dh_388 : dchk cX5_aim dl_388 = true := by decide +kernel
theorem dX5_aim_0 : decode cX5_aim 0 = .ok (.iload_n 1, 1) := dget dh_388 (k := 0) rfl
theorem dX5_aim_1 : decode cX5_aim 1 = .ok (.ifCond .lt 21, 3) := dget dh_388 (k := 1) rfl
theorem dX5_aim_4 : decode cX5_aim 4 = .ok (.iload_n 1, 1) := dget dh_388 (k := 2) rfl
theorem dX5_aim_5 : decode cX5_aim 5 = .ok (.aload_n 0, 1) := dget dh_388 (k := 3) rfl
theorem dX5_aim_6 : decode cX5_aim 6 = .ok (.getfield 15, 3) := dget dh_388 (k := 4) rfl
theorem dX5_aim_9 : decode cX5_aim 9 = .ok (.if_icmp .ge 13, 3) := dget dh_388 (k := 5) rfl
theorem dX5_aim_12 : decode cX5_aim 12 = .ok (.aload_n 0, 1) := dget dh_388 (k := 6) rfl
theorem dX5_aim_13 : decode cX5_aim 13 = .ok (.getfield 34, 3) := dget dh_388 (k := 7) rfl
theorem dX5_aim_16 : decode cX5_aim 16 = .ok (.iload_n 1, 1) := dget dh_388 (k := 8) rfl
theorem dX5_aim_17 : decode cX5_aim 17 = .ok (.aload_n 0, 1) := dget dh_388 (k := 9) rfl
theorem dX5_aim_18 : decode cX5_aim 18 = .ok (.getfield 15, 3) := dget dh_388 (k := 10) rfl
theorem dX5_aim_21 : decode cX5_aim 21 = .ok (.iastore, 1) := dget dh_388 (k := 11) rfl
theorem dX5_aim_22 : decode cX5_aim 22 = .ok (.return_, 1) := dget dh_388 (k := 12) rfl
def dl_389 : List (Nat × (Instr × Nat)) := [(0, (.aload_n 0, 1)), (1, (.invokevirtual 40, 3)), (4, (.ifCond .ne 26, 3)), (7, (.aload_n 0, 1)), (8, (.getfield 18, 3)), (11, (.aload_n 0, 1)), (12, (.getfield 9, 3)), (15, (.iload_n 1, 1)), (16, (.iastore, 1)), (17, (.aload_n 0, 1)), (18, (.getfield 22, 3)), (21, (.aload_n 0, 1)), (22, (.getfield 9, 3)), (25, (.aload_n 0, 1)), (26, (.getfield 15, 3)), (29, (.iastore, 1)), (30, (.return_, 1))]
theorem dh_389 : dchk cX5_beginClause dl_389 = true := by decide +kernel
theorem dX5_beginClause_0 : decode cX5_beginClause 0 = .ok (.aload_n 0, 1) := dget dh_389 (k := 0) rfl
theorem dX5_beginClause_1 : decode cX5_beginClause 1 = .ok (.invokevirtual 40, 3) := dget dh_389 (k := 1) rfl
theorem dX5_beginClause_4 : decode cX5_beginClause 4 = .ok (.ifCond .ne 26, 3) := dget dh_389 (k := 2) rfl
theorem dX5_beginClause_7 : decode cX5_beginClause 7 = .ok (.aload_n 0, 1) := dget dh_389 (k := 3) rfl
theorem dX5_beginClause_8 : decode cX5_beginClause 8 = .ok (.getfield 18, 3) := dget dh_389 (k := 4) rfl
theorem dX5_beginClause_11 : decode cX5_beginClause 11 = .ok (.aload_n 0, 1) := dget dh_389 (k := 5) rfl
theorem dX5_beginClause_12 : decode cX5_beginClause 12 = .ok (.getfield 9, 3) := dget dh_389 (k := 6) rfl
theorem dX5_beginClause_15 : decode cX5_beginClause 15 = .ok (.iload_n 1, 1) := dget dh_389 (k := 7) rfl
theorem dX5_beginClause_16 : decode cX5_beginClause 16 = .ok (.iastore, 1) := dget dh_389 (k := 8) rfl
theorem dX5_beginClause_17 : decode cX5_beginClause 17 = .ok (.aload_n 0, 1) := dget dh_389 (k := 9) rfl
theorem dX5_beginClause_18 : decode cX5_beginClause 18 = .ok (.getfield 22, 3) := dget dh_389 (k := 10) rfl
theorem dX5_beginClause_21 : decode cX5_beginClause 21 = .ok (.aload_n 0, 1) := dget dh_389 (k := 11) rfl
theorem dX5_beginClause_22 : decode cX5_beginClause 22 = .ok (.getfield 9, 3) := dget dh_389 (k := 12) rfl
theorem dX5_beginClause_25 : decode cX5_beginClause 25 = .ok (.aload_n 0, 1) := dget dh_389 (k := 13) rfl
theorem dX5_beginClause_26 : decode cX5_beginClause 26 = .ok (.getfield 15, 3) := dget dh_389 (k := 14) rfl
theorem dX5_beginClause_29 : decode cX5_beginClause 29 = .ok (.iastore, 1) := dget dh_389 (k := 15) rfl
theorem dX5_beginClause_30 : decode cX5_beginClause 30 = .ok (.return_, 1) := dget dh_389 (k := 16) rfl
def dl_390 : List (Nat × (Instr × Nat)) := [(0, (.aload_n 0, 1)), (1, (.invokevirtual 40, 3)), (4, (.ifCond .ne 16, 3)), (7, (.aload_n 0, 1)), (8, (.getfield 25, 3)), (11, (.aload_n 0, 1)), (12, (.getfield 9, 3)), (15, (.aload_n 0, 1)), (16, (.getfield 15, 3)), (19, (.iastore, 1)), (20, (.return_, 1))]
theorem dh_390 : dchk cX5_beginTest dl_390 = true := by decide +kernel
theorem dX5_beginTest_0 : decode cX5_beginTest 0 = .ok (.aload_n 0, 1) := dget dh_390 (k := 0) rfl
theorem dX5_beginTest_1 : decode cX5_beginTest 1 = .ok (.invokevirtual 40, 3) := dget dh_390 (k := 1) rfl
theorem dX5_beginTest_4 : decode cX5_beginTest 4 = .ok (.ifCond .ne 16, 3) := dget dh_390 (k := 2) rfl
theorem dX5_beginTest_7 : decode cX5_beginTest 7 = .ok (.aload_n 0, 1) := dget dh_390 (k := 3) rfl
theorem dX5_beginTest_8 : decode cX5_beginTest 8 = .ok (.getfield 25, 3) := dget dh_390 (k := 4) rfl
theorem dX5_beginTest_11 : decode cX5_beginTest 11 = .ok (.aload_n 0, 1) := dget dh_390 (k := 5) rfl
theorem dX5_beginTest_12 : decode cX5_beginTest 12 = .ok (.getfield 9, 3) := dget dh_390 (k := 6) rfl
theorem dX5_beginTest_15 : decode cX5_beginTest 15 = .ok (.aload_n 0, 1) := dget dh_390 (k := 7) rfl
theorem dX5_beginTest_16 : decode cX5_beginTest 16 = .ok (.getfield 15, 3) := dget dh_390 (k := 8) rfl
theorem dX5_beginTest_19 : decode cX5_beginTest 19 = .ok (.iastore, 1) := dget dh_390 (k := 9) rfl
theorem dX5_beginTest_20 : decode cX5_beginTest 20 = .ok (.return_, 1) := dget dh_390 (k := 10) rfl
def dl_391 : List (Nat × (Instr × Nat)) := [(0, (.aload_n 0, 1)), (1, (.iconst 0, 1)), (2, (.putfield 9, 3)), (5, (.aload_n 0, 1)), (6, (.iconst 0, 1)), (7, (.putfield 15, 3)), (10, (.return_, 1))]
theorem dh_391 : dchk cX5_clear dl_391 = true := by decide +kernel
theorem dX5_clear_0 : decode cX5_clear 0 = .ok (.aload_n 0, 1) := dget dh_391 (k := 0) rfl
theorem dX5_clear_1 : decode cX5_clear 1 = .ok (.iconst 0, 1) := dget dh_391 (k := 1) rfl
theorem dX5_clear_2 : decode cX5_clear 2 = .ok (.putfield 9, 3) := dget dh_391 (k := 2) rfl
theorem dX5_clear_5 : decode cX5_clear 5 = .ok (.aload_n 0, 1) := dget dh_391 (k := 3) rfl
theorem dX5_clear_6 : decode cX5_clear 6 = .ok (.iconst 0, 1) := dget dh_391 (k := 4) rfl
theorem dX5_clear_7 : decode cX5_clear 7 = .ok (.putfield 15, 3) := dget dh_391 (k := 5) rfl
theorem dX5_clear_10 : decode cX5_clear 10 = .ok (.return_, 1) := dget dh_391 (k := 6) rfl
def dl_392 : List (Nat × (Instr × Nat)) := [(0, (.aload_n 0, 1)), (1, (.invokevirtual 40, 3)), (4, (.ifCond .ne 26, 3)), (7, (.aload_n 0, 1)), (8, (.getfield 28, 3)), (11, (.aload_n 0, 1)), (12, (.getfield 9, 3)), (15, (.aload_n 0, 1)), (16, (.getfield 15, 3)), (19, (.iastore, 1)), (20, (.aload_n 0, 1)), (21, (.dup, 1)), (22, (.getfield 9, 3)), (25, (.iconst 1, 1)), (26, (.iadd, 1)), (27, (.putfield 9, 3)), (30, (.return_, 1))]
theorem dh_392 : dchk cX5_endClause dl_392 = true := by decide +kernel
theorem dX5_endClause_0 : decode cX5_endClause 0 = .ok (.aload_n 0, 1) := dget dh_392 (k := 0) rfl
theorem dX5_endClause_1 : decode cX5_endClause 1 = .ok (.invokevirtual 40, 3) := dget dh_392 (k := 1) rfl
theorem dX5_endClause_4 : decode cX5_endClause 4 = .ok (.ifCond .ne 26, 3) := dget dh_392 (k := 2) rfl
theorem dX5_endClause_7 : decode cX5_endClause 7 = .ok (.aload_n 0, 1) := dget dh_392 (k := 3) rfl
theorem dX5_endClause_8 : decode cX5_endClause 8 = .ok (.getfield 28, 3) := dget dh_392 (k := 4) rfl
theorem dX5_endClause_11 : decode cX5_endClause 11 = .ok (.aload_n 0, 1) := dget dh_392 (k := 5) rfl
theorem dX5_endClause_12 : decode cX5_endClause 12 = .ok (.getfield 9, 3) := dget dh_392 (k := 6) rfl
theorem dX5_endClause_15 : decode cX5_endClause 15 = .ok (.aload_n 0, 1) := dget dh_392 (k := 7) rfl
theorem dX5_endClause_16 : decode cX5_endClause 16 = .ok (.getfield 15, 3) := dget dh_392 (k := 8) rfl
theorem dX5_endClause_19 : decode cX5_endClause 19 = .ok (.iastore, 1) := dget dh_392 (k := 9) rfl
theorem dX5_endClause_20 : decode cX5_endClause 20 = .ok (.aload_n 0, 1) := dget dh_392 (k := 10) rfl
theorem dX5_endClause_21 : decode cX5_endClause 21 = .ok (.dup, 1) := dget dh_392 (k := 11) rfl
theorem dX5_endClause_22 : decode cX5_endClause 22 = .ok (.getfield 9, 3) := dget dh_392 (k := 12) rfl
theorem dX5_endClause_25 : decode cX5_endClause 25 = .ok (.iconst 1, 1) := dget dh_392 (k := 13) rfl
theorem dX5_endClause_26 : decode cX5_endClause 26 = .ok (.iadd, 1) := dget dh_392 (k := 14) rfl
theorem dX5_endClause_27 : decode cX5_endClause 27 = .ok (.putfield 9, 3) := dget dh_392 (k := 15) rfl
theorem dX5_endClause_30 : decode cX5_endClause 30 = .ok (.return_, 1) := dget dh_392 (k := 16) rfl
def dl_393 : List (Nat × (Instr × Nat)) := [(0, (.aload_n 0, 1)), (1, (.getfield 9, 3)), (4, (.bipush 14, 2)), (6, (.if_icmp .lt 7, 3)), (9, (.iconst 1, 1)), (10, (.goto 4, 3)), (13, (.iconst 0, 1)), (14, (.ireturn, 1))]
theorem dh_393 : dchk cX5_isFull dl_393 = true := by decide +kernel
theorem dX5_isFull_0 : decode cX5_isFull 0 = .ok (.aload_n 0, 1) := dget dh_393 (k := 0) rfl
theorem dX5_isFull_1 : decode cX5_isFull 1 = .ok (.getfield 9, 3) := dget dh_393 (k := 1) rfl
theorem dX5_isFull_4 : decode cX5_isFull 4 = .ok (.bipush 14, 2) := dget dh_393 (k := 2) rfl
theorem dX5_isFull_6 : decode cX5_isFull 6 = .ok (.if_icmp .lt 7, 3) := dget dh_393 (k := 3) rfl
theorem dX5_isFull_9 : decode cX5_isFull 9 = .ok (.iconst 1, 1) := dget dh_393 (k := 4) rfl
theorem dX5_isFull_10 : decode cX5_isFull 10 = .ok (.goto 4, 3) := dget dh_393 (k := 5) rfl
theorem dX5_isFull_13 : decode cX5_isFull 13 = .ok (.iconst 0, 1) := dget dh_393 (k := 6) rfl
theorem dX5_isFull_14 : decode cX5_isFull 14 = .ok (.ireturn, 1) := dget dh_393 (k := 7) rfl
def dl_394 : List (Nat × (Instr × Nat)) := [(0, (.iconst (-1), 1)), (1, (.istore_n 3, 1)), (2, (.iconst 0, 1)), (3, (.istore 4, 2)), (5, (.iload 4, 2)), (7, (.sipush 200, 3)), (10, (.if_icmp .ge 122, 3)), (13, (.iload_n 2, 1)), (14, (.ifCond .eq 12, 3)), (17, (.aload_n 0, 1)), (18, (.iload_n 1, 1)), (19, (.iconst 0, 1)), (20, (.invokevirtual 54, 3)), (23, (.goto 8, 3)), (26, (.aload_n 0, 1)), (27, (.iload_n 1, 1)), (28, (.invokevirtual 95, 3)), (31, (.istore 5, 2)), (33, (.iload 5, 2)), (35, (.ifCond .ne 5, 3))]
theorem dh_394 : dchk cX6_expression dl_394 = true := by decide +kernel
theorem dX6_expression_0 : decode cX6_expression 0 = .ok (.iconst (-1), 1) := dget dh_394 (k := 0) rfl
theorem dX6_expression_1 : decode cX6_expression 1 = .ok (.istore_n 3, 1) := dget dh_394 (k := 1) rfl
theorem dX6_expression_2 : decode cX6_expression 2 = .ok (.iconst 0, 1) := dget dh_394 (k := 2) rfl
theorem dX6_expression_3 : decode cX6_expression 3 = .ok (.istore 4, 2) := dget dh_394 (k := 3) rfl
theorem dX6_expression_5 : decode cX6_expression 5 = .ok (.iload 4, 2) := dget dh_394 (k := 4) rfl
theorem dX6_expression_7 : decode cX6_expression 7 = .ok (.sipush 200, 3) := dget dh_394 (k := 5) rfl
theorem dX6_expression_10 : decode cX6_expression 10 = .ok (.if_icmp .ge 122, 3) := dget dh_394 (k := 6) rfl
theorem dX6_expression_13 : decode cX6_expression 13 = .ok (.iload_n 2, 1) := dget dh_394 (k := 7) rfl
theorem dX6_expression_14 : decode cX6_expression 14 = .ok (.ifCond .eq 12, 3) := dget dh_394 (k := 8) rfl
theorem dX6_expression_17 : decode cX6_expression 17 = .ok (.aload_n 0, 1) := dget dh_394 (k := 9) rfl
theorem dX6_expression_18 : decode cX6_expression 18 = .ok (.iload_n 1, 1) := dget dh_394 (k := 10) rfl
theorem dX6_expression_19 : decode cX6_expression 19 = .ok (.iconst 0, 1) := dget dh_394 (k := 11) rfl
theorem dX6_expression_20 : decode cX6_expression 20 = .ok (.invokevirtual 54, 3) := dget dh_394 (k := 12) rfl
theorem dX6_expression_23 : decode cX6_expression 23 = .ok (.goto 8, 3) := dget dh_394 (k := 13) rfl
theorem dX6_expression_26 : decode cX6_expression 26 = .ok (.aload_n 0, 1) := dget dh_394 (k := 14) rfl
theorem dX6_expression_27 : decode cX6_expression 27 = .ok (.iload_n 1, 1) := dget dh_394 (k := 15) rfl
theorem dX6_expression_28 : decode cX6_expression 28 = .ok (.invokevirtual 95, 3) := dget dh_394 (k := 16) rfl
theorem dX6_expression_31 : decode cX6_expression 31 = .ok (.istore 5, 2) := dget dh_394 (k := 17) rfl
theorem dX6_expression_33 : decode cX6_expression 33 = .ok (.iload 5, 2) := dget dh_394 (k := 18) rfl
theorem dX6_expression_35 : decode cX6_expression 35 = .ok (.ifCond .ne 5, 3) := dget dh_394 (k := 19) rfl
def dl_395 : List (Nat × (Instr × Nat)) := [(38, (.iconst 0, 1)), (39, (.ireturn, 1)), (40, (.iload_n 3, 1)), (41, (.iconst (-1), 1)), (42, (.if_icmp .eq 13, 3)), (45, (.aload_n 0, 1)), (46, (.getfield 12, 3)), (49, (.iload_n 3, 1)), (50, (.iconst 0, 1)), (51, (.invokevirtual 92, 3)), (54, (.pop, 1)), (55, (.aload_n 0, 1)), (56, (.invokevirtual 46, 3)), (59, (.istore_n 3, 1)), (60, (.iload_n 2, 1)), (61, (.ifCond .eq 23, 3)), (64, (.iload_n 3, 1)), (65, (.bipush 43, 2)), (67, (.if_icmp .eq 9, 3)), (70, (.iload_n 3, 1))]
theorem dh_395 : dchk cX6_expression dl_395 = true := by decide +kernel
theorem dX6_expression_38 : decode cX6_expression 38 = .ok (.iconst 0, 1) := dget dh_395 (k := 0) rfl
theorem dX6_expression_39 : decode cX6_expression 39 = .ok (.ireturn, 1) := dget dh_395 (k := 1) rfl
theorem dX6_expression_40 : decode cX6_expression 40 = .ok (.iload_n 3, 1) := dget dh_395 (k := 2) rfl
theorem dX6_expression_41 : decode cX6_expression 41 = .ok (.iconst (-1), 1) := dget dh_395 (k := 3) rfl
theorem dX6_expression_42 : decode cX6_expression 42 = .ok (.if_icmp .eq 13, 3) := dget dh_395 (k := 4) rfl
theorem dX6_expression_45 : decode cX6_expression 45 = .ok (.aload_n 0, 1) := dget dh_395 (k := 5) rfl
theorem dX6_expression_46 : decode cX6_expression 46 = .ok (.getfield 12, 3) := dget dh_395 (k := 6) rfl
theorem dX6_expression_49 : decode cX6_expression 49 = .ok (.iload_n 3, 1) := dget dh_395 (k := 7) rfl
theorem dX6_expression_50 : decode cX6_expression 50 = .ok (.iconst 0, 1) := dget dh_395 (k := 8) rfl
theorem dX6_expression_51 : decode cX6_expression 51 = .ok (.invokevirtual 92, 3) := dget dh_395 (k := 9) rfl
theorem dX6_expression_54 : decode cX6_expression 54 = .ok (.pop, 1) := dget dh_395 (k := 10) rfl
theorem dX6_expression_55 : decode cX6_expression 55 = .ok (.aload_n 0, 1) := dget dh_395 (k := 11) rfl
theorem dX6_expression_56 : decode cX6_expression 56 = .ok (.invokevirtual 46, 3) := dget dh_395 (k := 12) rfl
theorem dX6_expression_59 : decode cX6_expression 59 = .ok (.istore_n 3, 1) := dget dh_395 (k := 13) rfl
theorem dX6_expression_60 : decode cX6_expression 60 = .ok (.iload_n 2, 1) := dget dh_395 (k := 14) rfl
theorem dX6_expression_61 : decode cX6_expression 61 = .ok (.ifCond .eq 23, 3) := dget dh_395 (k := 15) rfl
theorem dX6_expression_64 : decode cX6_expression 64 = .ok (.iload_n 3, 1) := dget dh_395 (k := 16) rfl
theorem dX6_expression_65 : decode cX6_expression 65 = .ok (.bipush 43, 2) := dget dh_395 (k := 17) rfl
theorem dX6_expression_67 : decode cX6_expression 67 = .ok (.if_icmp .eq 9, 3) := dget dh_395 (k := 18) rfl
theorem dX6_expression_70 : decode cX6_expression 70 = .ok (.iload_n 3, 1) := dget dh_395 (k := 19) rfl
def dl_396 : List (Nat × (Instr × Nat)) := [(71, (.bipush 45, 2)), (73, (.if_icmp .ne 7, 3)), (76, (.iconst 1, 1)), (77, (.goto 30, 3)), (80, (.iconst 0, 1)), (81, (.goto 26, 3)), (84, (.iload_n 3, 1)), (85, (.bipush 42, 2)), (87, (.if_icmp .eq 15, 3)), (90, (.iload_n 3, 1)), (91, (.bipush 47, 2)), (93, (.if_icmp .eq 9, 3)), (96, (.iload_n 3, 1)), (97, (.bipush 37, 2)), (99, (.if_icmp .ne 7, 3)), (102, (.iconst 1, 1)), (103, (.goto 4, 3)), (106, (.iconst 0, 1)), (107, (.istore 6, 2)), (109, (.iload 6, 2))]
theorem dh_396 : dchk cX6_expression dl_396 = true := by decide +kernel
theorem dX6_expression_71 : decode cX6_expression 71 = .ok (.bipush 45, 2) := dget dh_396 (k := 0) rfl
theorem dX6_expression_73 : decode cX6_expression 73 = .ok (.if_icmp .ne 7, 3) := dget dh_396 (k := 1) rfl
theorem dX6_expression_76 : decode cX6_expression 76 = .ok (.iconst 1, 1) := dget dh_396 (k := 2) rfl
theorem dX6_expression_77 : decode cX6_expression 77 = .ok (.goto 30, 3) := dget dh_396 (k := 3) rfl
theorem dX6_expression_80 : decode cX6_expression 80 = .ok (.iconst 0, 1) := dget dh_396 (k := 4) rfl
theorem dX6_expression_81 : decode cX6_expression 81 = .ok (.goto 26, 3) := dget dh_396 (k := 5) rfl
theorem dX6_expression_84 : decode cX6_expression 84 = .ok (.iload_n 3, 1) := dget dh_396 (k := 6) rfl
theorem dX6_expression_85 : decode cX6_expression 85 = .ok (.bipush 42, 2) := dget dh_396 (k := 7) rfl
theorem dX6_expression_87 : decode cX6_expression 87 = .ok (.if_icmp .eq 15, 3) := dget dh_396 (k := 8) rfl
theorem dX6_expression_90 : decode cX6_expression 90 = .ok (.iload_n 3, 1) := dget dh_396 (k := 9) rfl
theorem dX6_expression_91 : decode cX6_expression 91 = .ok (.bipush 47, 2) := dget dh_396 (k := 10) rfl
theorem dX6_expression_93 : decode cX6_expression 93 = .ok (.if_icmp .eq 9, 3) := dget dh_396 (k := 11) rfl
theorem dX6_expression_96 : decode cX6_expression 96 = .ok (.iload_n 3, 1) := dget dh_396 (k := 12) rfl
theorem dX6_expression_97 : decode cX6_expression 97 = .ok (.bipush 37, 2) := dget dh_396 (k := 13) rfl
theorem dX6_expression_99 : decode cX6_expression 99 = .ok (.if_icmp .ne 7, 3) := dget dh_396 (k := 14) rfl
theorem dX6_expression_102 : decode cX6_expression 102 = .ok (.iconst 1, 1) := dget dh_396 (k := 15) rfl
theorem dX6_expression_103 : decode cX6_expression 103 = .ok (.goto 4, 3) := dget dh_396 (k := 16) rfl
theorem dX6_expression_106 : decode cX6_expression 106 = .ok (.iconst 0, 1) := dget dh_396 (k := 17) rfl
theorem dX6_expression_107 : decode cX6_expression 107 = .ok (.istore 6, 2) := dget dh_396 (k := 18) rfl
theorem dX6_expression_109 : decode cX6_expression 109 = .ok (.iload 6, 2) := dget dh_396 (k := 19) rfl
def dl_397 : List (Nat × (Instr × Nat)) := [(111, (.ifCond .ne 5, 3)), (114, (.iconst 1, 1)), (115, (.ireturn, 1)), (116, (.aload_n 0, 1)), (117, (.dup, 1)), (118, (.getfield 26, 3)), (121, (.iconst 1, 1)), (122, (.iadd, 1)), (123, (.putfield 26, 3)), (126, (.iinc 4 1, 3)), (129, (.goto (-124), 3)), (132, (.iconst 1, 1)), (133, (.ireturn, 1))]
theorem dh_397 : dchk cX6_expression dl_397 = true := by decide +kernel
theorem dX6_expression_111 : decode cX6_expression 111 = .ok (.ifCond .ne 5, 3) := dget dh_397 (k := 0) rfl
theorem dX6_expression_114 : decode cX6_expression 114 = .ok (.iconst 1, 1) := dget dh_397 (k := 1) rfl
theorem dX6_expression_115 : decode cX6_expression 115 = .ok (.ireturn, 1) := dget dh_397 (k := 2) rfl
theorem dX6_expression_116 : decode cX6_expression 116 = .ok (.aload_n 0, 1) := dget dh_397 (k := 3) rfl
theorem dX6_expression_117 : decode cX6_expression 117 = .ok (.dup, 1) := dget dh_397 (k := 4) rfl
theorem dX6_expression_118 : decode cX6_expression 118 = .ok (.getfield 26, 3) := dget dh_397 (k := 5) rfl
theorem dX6_expression_121 : decode cX6_expression 121 = .ok (.iconst 1, 1) := dget dh_397 (k := 6) rfl
theorem dX6_expression_122 : decode cX6_expression 122 = .ok (.iadd, 1) := dget dh_397 (k := 7) rfl
theorem dX6_expression_123 : decode cX6_expression 123 = .ok (.putfield 26, 3) := dget dh_397 (k := 8) rfl
theorem dX6_expression_126 : decode cX6_expression 126 = .ok (.iinc 4 1, 3) := dget dh_397 (k := 9) rfl
theorem dX6_expression_129 : decode cX6_expression 129 = .ok (.goto (-124), 3) := dget dh_397 (k := 10) rfl
def dl_398 : List (Nat × (Instr × Nat)) := [(0, (.aload_n 0, 1)), (1, (.invokevirtual 46, 3)), (4, (.istore_n 2, 1)), (5, (.iload_n 2, 1)), (6, (.bipush 91, 2)), (8, (.if_icmp .ne 51, 3)), (11, (.iload_n 1, 1)), (12, (.bipush 6, 2)), (14, (.if_icmp .lt 9, 3)), (17, (.aload_n 0, 1)), (18, (.iconst 5, 1)), (19, (.invokevirtual 73, 3)), (22, (.ireturn, 1)), (23, (.aload_n 0, 1)), (24, (.dup, 1)), (25, (.getfield 26, 3)), (28, (.iconst 1, 1)), (29, (.iadd, 1)), (30, (.putfield 26, 3)), (33, (.aload_n 0, 1))]
theorem dh_398 : dchk cX6_factor dl_398 = true := by decide +kernel
theorem dX6_factor_0 : decode cX6_factor 0 = .ok (.aload_n 0, 1) := dget dh_398 (k := 0) rfl
theorem dX6_factor_1 : decode cX6_factor 1 = .ok (.invokevirtual 46, 3) := dget dh_398 (k := 1) rfl
theorem dX6_factor_4 : decode cX6_factor 4 = .ok (.istore_n 2, 1) := dget dh_398 (k := 2) rfl
theorem dX6_factor_5 : decode cX6_factor 5 = .ok (.iload_n 2, 1) := dget dh_398 (k := 3) rfl
theorem dX6_factor_6 : decode cX6_factor 6 = .ok (.bipush 91, 2) := dget dh_398 (k := 4) rfl
theorem dX6_factor_8 : decode cX6_factor 8 = .ok (.if_icmp .ne 51, 3) := dget dh_398 (k := 5) rfl
theorem dX6_factor_11 : decode cX6_factor 11 = .ok (.iload_n 1, 1) := dget dh_398 (k := 6) rfl
theorem dX6_factor_12 : decode cX6_factor 12 = .ok (.bipush 6, 2) := dget dh_398 (k := 7) rfl
theorem dX6_factor_14 : decode cX6_factor 14 = .ok (.if_icmp .lt 9, 3) := dget dh_398 (k := 8) rfl
theorem dX6_factor_17 : decode cX6_factor 17 = .ok (.aload_n 0, 1) := dget dh_398 (k := 9) rfl
theorem dX6_factor_18 : decode cX6_factor 18 = .ok (.iconst 5, 1) := dget dh_398 (k := 10) rfl
theorem dX6_factor_19 : decode cX6_factor 19 = .ok (.invokevirtual 73, 3) := dget dh_398 (k := 11) rfl
theorem dX6_factor_22 : decode cX6_factor 22 = .ok (.ireturn, 1) := dget dh_398 (k := 12) rfl
theorem dX6_factor_23 : decode cX6_factor 23 = .ok (.aload_n 0, 1) := dget dh_398 (k := 13) rfl
theorem dX6_factor_24 : decode cX6_factor 24 = .ok (.dup, 1) := dget dh_398 (k := 14) rfl
theorem dX6_factor_25 : decode cX6_factor 25 = .ok (.getfield 26, 3) := dget dh_398 (k := 15) rfl
theorem dX6_factor_28 : decode cX6_factor 28 = .ok (.iconst 1, 1) := dget dh_398 (k := 16) rfl
theorem dX6_factor_29 : decode cX6_factor 29 = .ok (.iadd, 1) := dget dh_398 (k := 17) rfl
theorem dX6_factor_30 : decode cX6_factor 30 = .ok (.putfield 26, 3) := dget dh_398 (k := 18) rfl
theorem dX6_factor_33 : decode cX6_factor 33 = .ok (.aload_n 0, 1) := dget dh_398 (k := 19) rfl
def dl_399 : List (Nat × (Instr × Nat)) := [(34, (.iload_n 1, 1)), (35, (.iconst 1, 1)), (36, (.iadd, 1)), (37, (.iconst 1, 1)), (38, (.invokevirtual 54, 3)), (41, (.ifCond .eq 16, 3)), (44, (.aload_n 0, 1)), (45, (.bipush 93, 2)), (47, (.invokevirtual 69, 3)), (50, (.ifCond .eq 7, 3)), (53, (.iconst 1, 1)), (54, (.goto 4, 3)), (57, (.iconst 0, 1)), (58, (.ireturn, 1)), (59, (.iload_n 2, 1)), (60, (.bipush 48, 2)), (62, (.if_icmp .lt 14, 3)), (65, (.iload_n 2, 1)), (66, (.bipush 57, 2)), (68, (.if_icmp .gt 8, 3))]
theorem dh_399 : dchk cX6_factor dl_399 = true := by decide +kernel
theorem dX6_factor_34 : decode cX6_factor 34 = .ok (.iload_n 1, 1) := dget dh_399 (k := 0) rfl
theorem dX6_factor_35 : decode cX6_factor 35 = .ok (.iconst 1, 1) := dget dh_399 (k := 1) rfl
theorem dX6_factor_36 : decode cX6_factor 36 = .ok (.iadd, 1) := dget dh_399 (k := 2) rfl
theorem dX6_factor_37 : decode cX6_factor 37 = .ok (.iconst 1, 1) := dget dh_399 (k := 3) rfl
theorem dX6_factor_38 : decode cX6_factor 38 = .ok (.invokevirtual 54, 3) := dget dh_399 (k := 4) rfl
theorem dX6_factor_41 : decode cX6_factor 41 = .ok (.ifCond .eq 16, 3) := dget dh_399 (k := 5) rfl
theorem dX6_factor_44 : decode cX6_factor 44 = .ok (.aload_n 0, 1) := dget dh_399 (k := 6) rfl
theorem dX6_factor_45 : decode cX6_factor 45 = .ok (.bipush 93, 2) := dget dh_399 (k := 7) rfl
theorem dX6_factor_47 : decode cX6_factor 47 = .ok (.invokevirtual 69, 3) := dget dh_399 (k := 8) rfl
theorem dX6_factor_50 : decode cX6_factor 50 = .ok (.ifCond .eq 7, 3) := dget dh_399 (k := 9) rfl
theorem dX6_factor_53 : decode cX6_factor 53 = .ok (.iconst 1, 1) := dget dh_399 (k := 10) rfl
theorem dX6_factor_54 : decode cX6_factor 54 = .ok (.goto 4, 3) := dget dh_399 (k := 11) rfl
theorem dX6_factor_57 : decode cX6_factor 57 = .ok (.iconst 0, 1) := dget dh_399 (k := 12) rfl
theorem dX6_factor_58 : decode cX6_factor 58 = .ok (.ireturn, 1) := dget dh_399 (k := 13) rfl
theorem dX6_factor_59 : decode cX6_factor 59 = .ok (.iload_n 2, 1) := dget dh_399 (k := 14) rfl
theorem dX6_factor_60 : decode cX6_factor 60 = .ok (.bipush 48, 2) := dget dh_399 (k := 15) rfl
theorem dX6_factor_62 : decode cX6_factor 62 = .ok (.if_icmp .lt 14, 3) := dget dh_399 (k := 16) rfl
theorem dX6_factor_65 : decode cX6_factor 65 = .ok (.iload_n 2, 1) := dget dh_399 (k := 17) rfl
theorem dX6_factor_66 : decode cX6_factor 66 = .ok (.bipush 57, 2) := dget dh_399 (k := 18) rfl
theorem dX6_factor_68 : decode cX6_factor 68 = .ok (.if_icmp .gt 8, 3) := dget dh_399 (k := 19) rfl
def dl_400 : List (Nat × (Instr × Nat)) := [(71, (.aload_n 0, 1)), (72, (.invokevirtual 98, 3)), (75, (.ireturn, 1)), (76, (.iload_n 2, 1)), (77, (.iconst (-1), 1)), (78, (.if_icmp .ne 7, 3)), (81, (.iconst (-1), 1)), (82, (.goto 10, 3)), (85, (.ldc 101, 2)), (87, (.iload_n 2, 1)), (88, (.i2c, 1)), (89, (.invokevirtual 103, 3)), (92, (.istore_n 3, 1)), (93, (.iload_n 3, 1)), (94, (.ifCond .ge 9, 3)), (97, (.aload_n 0, 1)), (98, (.iconst 1, 1)), (99, (.invokevirtual 73, 3)), (102, (.ireturn, 1)), (103, (.aload_n 0, 1))]
theorem dh_400 : dchk cX6_factor dl_400 = true := by decide +kernel
theorem dX6_factor_71 : decode cX6_factor 71 = .ok (.aload_n 0, 1) := dget dh_400 (k := 0) rfl
theorem dX6_factor_72 : decode cX6_factor 72 = .ok (.invokevirtual 98, 3) := dget dh_400 (k := 1) rfl
theorem dX6_factor_75 : decode cX6_factor 75 = .ok (.ireturn, 1) := dget dh_400 (k := 2) rfl
theorem dX6_factor_76 : decode cX6_factor 76 = .ok (.iload_n 2, 1) := dget dh_400 (k := 3) rfl
theorem dX6_factor_77 : decode cX6_factor 77 = .ok (.iconst (-1), 1) := dget dh_400 (k := 4) rfl
theorem dX6_factor_78 : decode cX6_factor 78 = .ok (.if_icmp .ne 7, 3) := dget dh_400 (k := 5) rfl
theorem dX6_factor_81 : decode cX6_factor 81 = .ok (.iconst (-1), 1) := dget dh_400 (k := 6) rfl
theorem dX6_factor_82 : decode cX6_factor 82 = .ok (.goto 10, 3) := dget dh_400 (k := 7) rfl
theorem dX6_factor_85 : decode cX6_factor 85 = .ok (.ldc 101, 2) := dget dh_400 (k := 8) rfl
theorem dX6_factor_87 : decode cX6_factor 87 = .ok (.iload_n 2, 1) := dget dh_400 (k := 9) rfl
theorem dX6_factor_88 : decode cX6_factor 88 = .ok (.i2c, 1) := dget dh_400 (k := 10) rfl
theorem dX6_factor_89 : decode cX6_factor 89 = .ok (.invokevirtual 103, 3) := dget dh_400 (k := 11) rfl
theorem dX6_factor_92 : decode cX6_factor 92 = .ok (.istore_n 3, 1) := dget dh_400 (k := 12) rfl
theorem dX6_factor_93 : decode cX6_factor 93 = .ok (.iload_n 3, 1) := dget dh_400 (k := 13) rfl
theorem dX6_factor_94 : decode cX6_factor 94 = .ok (.ifCond .ge 9, 3) := dget dh_400 (k := 14) rfl
theorem dX6_factor_97 : decode cX6_factor 97 = .ok (.aload_n 0, 1) := dget dh_400 (k := 15) rfl
theorem dX6_factor_98 : decode cX6_factor 98 = .ok (.iconst 1, 1) := dget dh_400 (k := 16) rfl
theorem dX6_factor_99 : decode cX6_factor 99 = .ok (.invokevirtual 73, 3) := dget dh_400 (k := 17) rfl
theorem dX6_factor_102 : decode cX6_factor 102 = .ok (.ireturn, 1) := dget dh_400 (k := 18) rfl
theorem dX6_factor_103 : decode cX6_factor 103 = .ok (.aload_n 0, 1) := dget dh_400 (k := 19) rfl
def dl_401 : List (Nat × (Instr × Nat)) := [(104, (.dup, 1)), (105, (.getfield 26, 3)), (108, (.iconst 1, 1)), (109, (.iadd, 1)), (110, (.putfield 26, 3)), (113, (.aload_n 0, 1)), (114, (.getfield 12, 3)), (117, (.bipush 107, 2)), (119, (.iload_n 3, 1)), (120, (.invokevirtual 92, 3)), (123, (.pop, 1)), (124, (.iconst 1, 1)), (125, (.ireturn, 1))]
theorem dh_401 : dchk cX6_factor dl_401 = true := by decide +kernel
theorem dX6_factor_104 : decode cX6_factor 104 = .ok (.dup, 1) := dget dh_401 (k := 0) rfl
theorem dX6_factor_105 : decode cX6_factor 105 = .ok (.getfield 26, 3) := dget dh_401 (k := 1) rfl
theorem dX6_factor_108 : decode cX6_factor 108 = .ok (.iconst 1, 1) := dget dh_401 (k := 2) rfl
theorem dX6_factor_109 : decode cX6_factor 109 = .ok (.iadd, 1) := dget dh_401 (k := 3) rfl
theorem dX6_factor_110 : decode cX6_factor 110 = .ok (.putfield 26, 3) := dget dh_401 (k := 4) rfl
theorem dX6_factor_113 : decode cX6_factor 113 = .ok (.aload_n 0, 1) := dget dh_401 (k := 5) rfl
theorem dX6_factor_114 : decode cX6_factor 114 = .ok (.getfield 12, 3) := dget dh_401 (k := 6) rfl
theorem dX6_factor_117 : decode cX6_factor 117 = .ok (.bipush 107, 2) := dget dh_401 (k := 7) rfl
theorem dX6_factor_119 : decode cX6_factor 119 = .ok (.iload_n 3, 1) := dget dh_401 (k := 8) rfl
theorem dX6_factor_120 : decode cX6_factor 120 = .ok (.invokevirtual 92, 3) := dget dh_401 (k := 9) rfl
theorem dX6_factor_123 : decode cX6_factor 123 = .ok (.pop, 1) := dget dh_401 (k := 10) rfl
theorem dX6_factor_124 : decode cX6_factor 124 = .ok (.iconst 1, 1) := dget dh_401 (k := 11) rfl
theorem dX6_factor_125 : decode cX6_factor 125 = .ok (.ireturn, 1) := dget dh_401 (k := 12) rfl
def dl_402 : List (Nat × (Instr × Nat)) := [(0, (.iconst 0, 1)), (1, (.istore_n 1, 1)), (2, (.aload_n 0, 1)), (3, (.invokevirtual 46, 3)), (6, (.istore_n 2, 1)), (7, (.iconst 0, 1)), (8, (.istore_n 3, 1)), (9, (.iload_n 3, 1)), (10, (.iconst 5, 1)), (11, (.if_icmp .ge 46, 3)), (14, (.iload_n 2, 1)), (15, (.bipush 48, 2)), (17, (.if_icmp .lt 40, 3)), (20, (.iload_n 2, 1)), (21, (.bipush 57, 2)), (23, (.if_icmp .gt 34, 3)), (26, (.bipush 10, 2)), (28, (.iload_n 1, 1)), (29, (.imul, 1)), (30, (.iload_n 2, 1))]
theorem dh_402 : dchk cX6_number dl_402 = true := by decide +kernel
theorem dX6_number_0 : decode cX6_number 0 = .ok (.iconst 0, 1) := dget dh_402 (k := 0) rfl
theorem dX6_number_1 : decode cX6_number 1 = .ok (.istore_n 1, 1) := dget dh_402 (k := 1) rfl
theorem dX6_number_2 : decode cX6_number 2 = .ok (.aload_n 0, 1) := dget dh_402 (k := 2) rfl
theorem dX6_number_3 : decode cX6_number 3 = .ok (.invokevirtual 46, 3) := dget dh_402 (k := 3) rfl
theorem dX6_number_6 : decode cX6_number 6 = .ok (.istore_n 2, 1) := dget dh_402 (k := 4) rfl
theorem dX6_number_7 : decode cX6_number 7 = .ok (.iconst 0, 1) := dget dh_402 (k := 5) rfl
theorem dX6_number_8 : decode cX6_number 8 = .ok (.istore_n 3, 1) := dget dh_402 (k := 6) rfl
theorem dX6_number_9 : decode cX6_number 9 = .ok (.iload_n 3, 1) := dget dh_402 (k := 7) rfl
theorem dX6_number_10 : decode cX6_number 10 = .ok (.iconst 5, 1) := dget dh_402 (k := 8) rfl
theorem dX6_number_11 : decode cX6_number 11 = .ok (.if_icmp .ge 46, 3) := dget dh_402 (k := 9) rfl
theorem dX6_number_14 : decode cX6_number 14 = .ok (.iload_n 2, 1) := dget dh_402 (k := 10) rfl
theorem dX6_number_15 : decode cX6_number 15 = .ok (.bipush 48, 2) := dget dh_402 (k := 11) rfl
theorem dX6_number_17 : decode cX6_number 17 = .ok (.if_icmp .lt 40, 3) := dget dh_402 (k := 12) rfl
theorem dX6_number_20 : decode cX6_number 20 = .ok (.iload_n 2, 1) := dget dh_402 (k := 13) rfl
theorem dX6_number_21 : decode cX6_number 21 = .ok (.bipush 57, 2) := dget dh_402 (k := 14) rfl
theorem dX6_number_23 : decode cX6_number 23 = .ok (.if_icmp .gt 34, 3) := dget dh_402 (k := 15) rfl
theorem dX6_number_26 : decode cX6_number 26 = .ok (.bipush 10, 2) := dget dh_402 (k := 16) rfl
theorem dX6_number_28 : decode cX6_number 28 = .ok (.iload_n 1, 1) := dget dh_402 (k := 17) rfl
theorem dX6_number_29 : decode cX6_number 29 = .ok (.imul, 1) := dget dh_402 (k := 18) rfl
theorem dX6_number_30 : decode cX6_number 30 = .ok (.iload_n 2, 1) := dget dh_402 (k := 19) rfl
def dl_403 : List (Nat × (Instr × Nat)) := [(31, (.bipush 48, 2)), (33, (.isub, 1)), (34, (.iadd, 1)), (35, (.istore_n 1, 1)), (36, (.aload_n 0, 1)), (37, (.dup, 1)), (38, (.getfield 26, 3)), (41, (.iconst 1, 1)), (42, (.iadd, 1)), (43, (.putfield 26, 3)), (46, (.aload_n 0, 1)), (47, (.invokevirtual 46, 3)), (50, (.istore_n 2, 1)), (51, (.iinc 3 1, 3)), (54, (.goto (-45), 3)), (57, (.iload_n 2, 1)), (58, (.bipush 48, 2)), (60, (.if_icmp .lt 15, 3)), (63, (.iload_n 2, 1)), (64, (.bipush 57, 2))]
theorem dh_403 : dchk cX6_number dl_403 = true := by decide +kernel
theorem dX6_number_31 : decode cX6_number 31 = .ok (.bipush 48, 2) := dget dh_403 (k := 0) rfl
theorem dX6_number_33 : decode cX6_number 33 = .ok (.isub, 1) := dget dh_403 (k := 1) rfl
theorem dX6_number_34 : decode cX6_number 34 = .ok (.iadd, 1) := dget dh_403 (k := 2) rfl
theorem dX6_number_35 : decode cX6_number 35 = .ok (.istore_n 1, 1) := dget dh_403 (k := 3) rfl
theorem dX6_number_36 : decode cX6_number 36 = .ok (.aload_n 0, 1) := dget dh_403 (k := 4) rfl
theorem dX6_number_37 : decode cX6_number 37 = .ok (.dup, 1) := dget dh_403 (k := 5) rfl
theorem dX6_number_38 : decode cX6_number 38 = .ok (.getfield 26, 3) := dget dh_403 (k := 6) rfl
theorem dX6_number_41 : decode cX6_number 41 = .ok (.iconst 1, 1) := dget dh_403 (k := 7) rfl
theorem dX6_number_42 : decode cX6_number 42 = .ok (.iadd, 1) := dget dh_403 (k := 8) rfl
theorem dX6_number_43 : decode cX6_number 43 = .ok (.putfield 26, 3) := dget dh_403 (k := 9) rfl
theorem dX6_number_46 : decode cX6_number 46 = .ok (.aload_n 0, 1) := dget dh_403 (k := 10) rfl
theorem dX6_number_47 : decode cX6_number 47 = .ok (.invokevirtual 46, 3) := dget dh_403 (k := 11) rfl
theorem dX6_number_50 : decode cX6_number 50 = .ok (.istore_n 2, 1) := dget dh_403 (k := 12) rfl
theorem dX6_number_51 : decode cX6_number 51 = .ok (.iinc 3 1, 3) := dget dh_403 (k := 13) rfl
theorem dX6_number_54 : decode cX6_number 54 = .ok (.goto (-45), 3) := dget dh_403 (k := 14) rfl
theorem dX6_number_57 : decode cX6_number 57 = .ok (.iload_n 2, 1) := dget dh_403 (k := 15) rfl
theorem dX6_number_58 : decode cX6_number 58 = .ok (.bipush 48, 2) := dget dh_403 (k := 16) rfl
theorem dX6_number_60 : decode cX6_number 60 = .ok (.if_icmp .lt 15, 3) := dget dh_403 (k := 17) rfl
theorem dX6_number_63 : decode cX6_number 63 = .ok (.iload_n 2, 1) := dget dh_403 (k := 18) rfl
theorem dX6_number_64 : decode cX6_number 64 = .ok (.bipush 57, 2) := dget dh_403 (k := 19) rfl
def dl_404 : List (Nat × (Instr × Nat)) := [(66, (.if_icmp .gt 9, 3)), (69, (.aload_n 0, 1)), (70, (.iconst 2, 1)), (71, (.invokevirtual 73, 3)), (74, (.ireturn, 1)), (75, (.aload_n 0, 1)), (76, (.getfield 12, 3)), (79, (.bipush 48, 2)), (81, (.iload_n 1, 1)), (82, (.invokevirtual 92, 3)), (85, (.pop, 1)), (86, (.iconst 1, 1)), (87, (.ireturn, 1))]
theorem dh_404 : dchk cX6_number dl_404 = true := by decide +kernel
theorem dX6_number_66 : decode cX6_number 66 = .ok (.if_icmp .gt 9, 3) := dget dh_404 (k := 0) rfl
theorem dX6_number_69 : decode cX6_number 69 = .ok (.aload_n 0, 1) := dget dh_404 (k := 1) rfl
theorem dX6_number_70 : decode cX6_number 70 = .ok (.iconst 2, 1) := dget dh_404 (k := 2) rfl
theorem dX6_number_71 : decode cX6_number 71 = .ok (.invokevirtual 73, 3) := dget dh_404 (k := 3) rfl
theorem dX6_number_74 : decode cX6_number 74 = .ok (.ireturn, 1) := dget dh_404 (k := 4) rfl
theorem dX6_number_75 : decode cX6_number 75 = .ok (.aload_n 0, 1) := dget dh_404 (k := 5) rfl
theorem dX6_number_76 : decode cX6_number 76 = .ok (.getfield 12, 3) := dget dh_404 (k := 6) rfl
theorem dX6_number_79 : decode cX6_number 79 = .ok (.bipush 48, 2) := dget dh_404 (k := 7) rfl
theorem dX6_number_81 : decode cX6_number 81 = .ok (.iload_n 1, 1) := dget dh_404 (k := 8) rfl
theorem dX6_number_82 : decode cX6_number 82 = .ok (.invokevirtual 92, 3) := dget dh_404 (k := 9) rfl
theorem dX6_number_85 : decode cX6_number 85 = .ok (.pop, 1) := dget dh_404 (k := 10) rfl
theorem dX6_number_86 : decode cX6_number 86 = .ok (.iconst 1, 1) := dget dh_404 (k := 11) rfl
theorem dX6_number_87 : decode cX6_number 87 = .ok (.ireturn, 1) := dget dh_404 (k := 12) rfl
def dl_405 : List (Nat × (Instr × Nat)) := [(0, (.aload_n 0, 1)), (1, (.invokevirtual 46, 3)), (4, (.iload_n 1, 1)), (5, (.if_icmp .eq 9, 3)), (8, (.aload_n 0, 1)), (9, (.iconst 1, 1)), (10, (.invokevirtual 73, 3)), (13, (.ireturn, 1)), (14, (.aload_n 0, 1)), (15, (.dup, 1)), (16, (.getfield 26, 3)), (19, (.iconst 1, 1)), (20, (.iadd, 1)), (21, (.putfield 26, 3)), (24, (.iconst 1, 1)), (25, (.ireturn, 1))]
theorem dh_405 : dchk cX6_pass dl_405 = true := by decide +kernel
theorem dX6_pass_0 : decode cX6_pass 0 = .ok (.aload_n 0, 1) := dget dh_405 (k := 0) rfl
theorem dX6_pass_1 : decode cX6_pass 1 = .ok (.invokevirtual 46, 3) := dget dh_405 (k := 1) rfl
theorem dX6_pass_4 : decode cX6_pass 4 = .ok (.iload_n 1, 1) := dget dh_405 (k := 2) rfl
theorem dX6_pass_5 : decode cX6_pass 5 = .ok (.if_icmp .eq 9, 3) := dget dh_405 (k := 3) rfl
theorem dX6_pass_8 : decode cX6_pass 8 = .ok (.aload_n 0, 1) := dget dh_405 (k := 4) rfl
theorem dX6_pass_9 : decode cX6_pass 9 = .ok (.iconst 1, 1) := dget dh_405 (k := 5) rfl
theorem dX6_pass_10 : decode cX6_pass 10 = .ok (.invokevirtual 73, 3) := dget dh_405 (k := 6) rfl
theorem dX6_pass_13 : decode cX6_pass 13 = .ok (.ireturn, 1) := dget dh_405 (k := 7) rfl
theorem dX6_pass_14 : decode cX6_pass 14 = .ok (.aload_n 0, 1) := dget dh_405 (k := 8) rfl
theorem dX6_pass_15 : decode cX6_pass 15 = .ok (.dup, 1) := dget dh_405 (k := 9) rfl
theorem dX6_pass_16 : decode cX6_pass 16 = .ok (.getfield 26, 3) := dget dh_405 (k := 10) rfl
theorem dX6_pass_19 : decode cX6_pass 19 = .ok (.iconst 1, 1) := dget dh_405 (k := 11) rfl
theorem dX6_pass_20 : decode cX6_pass 20 = .ok (.iadd, 1) := dget dh_405 (k := 12) rfl
theorem dX6_pass_21 : decode cX6_pass 21 = .ok (.putfield 26, 3) := dget dh_405 (k := 13) rfl
theorem dX6_pass_24 : decode cX6_pass 24 = .ok (.iconst 1, 1) := dget dh_405 (k := 14) rfl
theorem dX6_pass_25 : decode cX6_pass 25 = .ok (.ireturn, 1) := dget dh_405 (k := 15) rfl
def dl_406 : List (Nat × (Instr × Nat)) := [(0, (.aload_n 0, 1)), (1, (.getfield 26, 3)), (4, (.ifCond .lt 30, 3)), (7, (.aload_n 0, 1)), (8, (.getfield 26, 3)), (11, (.aload_n 0, 1)), (12, (.getfield 22, 3)), (15, (.if_icmp .ge 19, 3)), (18, (.aload_n 0, 1)), (19, (.getfield 18, 3)), (22, (.aload_n 0, 1)), (23, (.getfield 26, 3)), (26, (.baload, 1)), (27, (.sipush 255, 3)), (30, (.iand, 1)), (31, (.goto 4, 3)), (34, (.iconst (-1), 1)), (35, (.ireturn, 1))]
theorem dh_406 : dchk cX6_peek dl_406 = true := by decide +kernel
theorem dX6_peek_0 : decode cX6_peek 0 = .ok (.aload_n 0, 1) := dget dh_406 (k := 0) rfl
theorem dX6_peek_1 : decode cX6_peek 1 = .ok (.getfield 26, 3) := dget dh_406 (k := 1) rfl
theorem dX6_peek_4 : decode cX6_peek 4 = .ok (.ifCond .lt 30, 3) := dget dh_406 (k := 2) rfl
theorem dX6_peek_7 : decode cX6_peek 7 = .ok (.aload_n 0, 1) := dget dh_406 (k := 3) rfl
theorem dX6_peek_8 : decode cX6_peek 8 = .ok (.getfield 26, 3) := dget dh_406 (k := 4) rfl
theorem dX6_peek_11 : decode cX6_peek 11 = .ok (.aload_n 0, 1) := dget dh_406 (k := 5) rfl
theorem dX6_peek_12 : decode cX6_peek 12 = .ok (.getfield 22, 3) := dget dh_406 (k := 6) rfl
theorem dX6_peek_15 : decode cX6_peek 15 = .ok (.if_icmp .ge 19, 3) := dget dh_406 (k := 7) rfl
theorem dX6_peek_18 : decode cX6_peek 18 = .ok (.aload_n 0, 1) := dget dh_406 (k := 8) rfl
theorem dX6_peek_19 : decode cX6_peek 19 = .ok (.getfield 18, 3) := dget dh_406 (k := 9) rfl
theorem dX6_peek_22 : decode cX6_peek 22 = .ok (.aload_n 0, 1) := dget dh_406 (k := 10) rfl
theorem dX6_peek_23 : decode cX6_peek 23 = .ok (.getfield 26, 3) := dget dh_406 (k := 11) rfl
theorem dX6_peek_26 : decode cX6_peek 26 = .ok (.baload, 1) := dget dh_406 (k := 12) rfl
theorem dX6_peek_27 : decode cX6_peek 27 = .ok (.sipush 255, 3) := dget dh_406 (k := 13) rfl
theorem dX6_peek_30 : decode cX6_peek 30 = .ok (.iand, 1) := dget dh_406 (k := 14) rfl
theorem dX6_peek_31 : decode cX6_peek 31 = .ok (.goto 4, 3) := dget dh_406 (k := 15) rfl
theorem dX6_peek_34 : decode cX6_peek 34 = .ok (.iconst (-1), 1) := dget dh_406 (k := 16) rfl
theorem dX6_peek_35 : decode cX6_peek 35 = .ok (.ireturn, 1) := dget dh_406 (k := 17) rfl
def dl_407 : List (Nat × (Instr × Nat)) := [(0, (.aload_n 0, 1)), (1, (.sipush (-1000), 3)), (4, (.iload_n 1, 1)), (5, (.imul, 1)), (6, (.aload_n 0, 1)), (7, (.getfield 26, 3)), (10, (.isub, 1)), (11, (.putfield 29, 3)), (14, (.iconst 0, 1)), (15, (.ireturn, 1))]
theorem dh_407 : dchk cX6_refuse dl_407 = true := by decide +kernel
theorem dX6_refuse_0 : decode cX6_refuse 0 = .ok (.aload_n 0, 1) := dget dh_407 (k := 0) rfl
theorem dX6_refuse_1 : decode cX6_refuse 1 = .ok (.sipush (-1000), 3) := dget dh_407 (k := 1) rfl
theorem dX6_refuse_4 : decode cX6_refuse 4 = .ok (.iload_n 1, 1) := dget dh_407 (k := 2) rfl
theorem dX6_refuse_5 : decode cX6_refuse 5 = .ok (.imul, 1) := dget dh_407 (k := 3) rfl
theorem dX6_refuse_6 : decode cX6_refuse 6 = .ok (.aload_n 0, 1) := dget dh_407 (k := 4) rfl
theorem dX6_refuse_7 : decode cX6_refuse 7 = .ok (.getfield 26, 3) := dget dh_407 (k := 5) rfl
theorem dX6_refuse_10 : decode cX6_refuse 10 = .ok (.isub, 1) := dget dh_407 (k := 6) rfl
theorem dX6_refuse_11 : decode cX6_refuse 11 = .ok (.putfield 29, 3) := dget dh_407 (k := 7) rfl
theorem dX6_refuse_14 : decode cX6_refuse 14 = .ok (.iconst 0, 1) := dget dh_407 (k := 8) rfl
theorem dX6_refuse_15 : decode cX6_refuse 15 = .ok (.ireturn, 1) := dget dh_407 (k := 9) rfl
def rS (D : va_G) (cy : Nat → ClassId) (W : va_W) (sz kq vq : Nat) (U : State) : Prop := (vk_R RX6 101 "krsoamngcv" kq U ∧ sA kq vq (va_A W sz) U U.heap) ∧ rQ D cy W sz U
section PRES
variable {D : va_G} {cy : Nat → ClassId} {W : va_W} {sz kq vq : Nat} {s : State} {H : Heap} {locs : List Loc} {av : List Value} {b : Addr} {C : String} {A : Nat → Prop}
theorem rS_b : FrameBlind (va_Pc av (rS D cy W sz kq vq)) := fun a U g mk q => ⟨q.1, ⟨vk_R.same (u := U) (U := U.calling g mk a) rfl q.2.1.1, sA.moved (u := U) (U := U.calling g mk a) (Vm.Alike.refl U.vm) q.2.1.2⟩, q.2.2.1, q.2.2.2.1, va_K.moved (u := U) (U := U.calling g mk a) (Vm.Alike.refl U.vm) q.2.2.2.2.1, q.2.2.2.2.2⟩
theorem rS_v (hz : vk_R RX6 101 "krsoamngcv" kq s ∧ sA kq vq A s s.heap) (hS : va_S A s.heap H locs) (hF : ∀ q, va_A W H.size q → A q) (hP : va_P D vwCl W H) (hK : va_K D vwCl (vT cy) s) (hD : va_D A W) (hr : ∃ cell : Cell, H[b]? = some cell ∧ cell.vm.isStatics = false ∧ s.vm.findClass C = some cell.cls) : PreV s H C b (va_Pc (.ref b :: av) (rS D cy W H.size kq vq)) av := ⟨rS_b, hr, fun U hU hW => ⟨rfl, ⟨vk_R.warm hW hz.1, by rw [hU]; exact ((hz.2.kept hS.2.1).narrow hF).moved hW.alike⟩, by rw [hU], by rw [hU]; exact hP, va_K.moved hW.alike hK, hD.weaken (fun _ _ _ _ => trivial)⟩⟩
end PRES
set_option maxHeartbeats 4000000 in
set_option maxRecDepth 100000 in
theorem c_X5_isFull (l : Launch) (D : va_G) (cy : Nat → ClassId) (a : Nat → Nat) (i : Nat → Int32) (r : Nat → Nat → Int32) (q : Nat → Option Nat) (tl : va_W) (hRi : yRi i) (hRr : yRr r) : Met l yX5_isFull (Cond.code yX5_isFull cX5_isFull 1 (some .boolean) :: gT) { frames := 1, cells := 0, slots := 0, locals := 24 } (va_Pc [.ref (a 12)] (rP D cy (xW cy a i r q (a 20) (a 12) ++ tl))) (vp_Si (fun z => BR z (14 ≤ (i 6).toInt) 1 0)) 0 0 (fun _ => False) := by
  refine Met.ofQ (cc := cX5_isFull) (maxL := 1) (ret := (some .boolean)) (by decide) rfl ?_
  intro p e s m args below meth c s₁ B hml hv Q hQ
  obtain ⟨rfl, hP, hK⟩ := hv
  have hx := B.exec
  have hb := B.bytes
  have hr := B.returns
  have hlocks := B.notSynchronized
  have hT : ∀ w ∈ gT, w.before _ s = true := fun w h => atoms_spec (ws := (Cond.code yX5_isFull cX5_isFull 1 (some .boolean) :: gT)) B.pre w (List.mem_cons_of_mem _ h)
  have hown : s.vm.findClass RX5 = some m.cls := findClass_of_methodNamed B.named
  have hl := lv_entry ([.ref (a 12)]) (n := 1) (Nat.le_of_ble_eq_true rfl)
  rw [lg_entry_eq]
  generalize (lg_sl ([.ref (a 12)]) ++ List.replicate (1 - (lg_sl ([.ref (a 12)])).length) Slot.unset).toArray = ls at hl ⊢
  have hl : lv_has ls 1 [(0, .ref (a 12))] := hl
  have hEi : mEi [] i i := Ei_rf
  have hEr : mEr [] r r := Er_rf
  refine lv_aload_n hx hb dX5_isFull_0 rfl (lv_at hl 0 rfl) ?_
  refine va_get (D := D) (ci := 5) (v := .int (i 6)) (C := RX5) (T := TX5) (N := 9) hx hb hT iX5 hown hK hP 12 rfl rfl 0 (by decide) (hT _ t_370) (fun _ h9 => h9) rfl dX5_isFull_1 ?_
  have hg_1 : 0 ≤ (i 6).toInt ∧ (i 6).toInt ≤ 14 := hRi 6
  refine lv_bipush (v := 14) hx hb dX5_isFull_4 (by decide) ?_
  refine lv_icmp_lt (tgt := 13) hx hb dX5_isFull_6 (by decide) (fun c_2 => ?_) (fun c_2 => ?_)
  · have c_2 : (i 6).toInt < 14 := b_lt c_2
    refine lv_iconst (v := 0) hx hb dX5_isFull_13 (by decide) ?_
    subst hQ
    exact W.zret hx hb hr rfl (fun t ht hW => ⟨_, rfl, Or.inr ⟨rfl, by omega⟩, ht⟩) (fun q hq => absurd hq List.not_mem_nil) dX5_isFull_14
  · have c_2 : 14 ≤ (i 6).toInt := b_nlt c_2
    refine lv_iconst (v := 1) hx hb dX5_isFull_9 (by decide) ?_
    refine lv_goto (tgt := 14) hx hb dX5_isFull_10 (by decide) ?_
    subst hQ
    exact W.zret hx hb hr rfl (fun t ht hW => ⟨_, rfl, Or.inl ⟨rfl, by omega⟩, ht⟩) (fun q hq => absurd hq List.not_mem_nil) dX5_isFull_14
