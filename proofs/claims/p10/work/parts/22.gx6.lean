theorem t_643 : Cond.fieldLink RX5 15 "DepositJudge$Law" "steps" "I" ∈ gT := tm (List.mem_of_getElem? (i := 90) (by decide +kernel)) (by decide +kernel)
theorem t_644 : Cond.code yX5_isFull cX5_isFull 1 (some .boolean) ∈ gT := tm (List.mem_of_getElem? (i := 495) (by decide +kernel)) (by decide +kernel)
theorem t_645 : Cond.methodLink RX5 40 yX5_isFull ∈ gT := tm (List.mem_of_getElem? (i := 500) (by decide +kernel)) (by decide +kernel)
theorem t_646 : Cond.instanceMethod yX5_isFull ∈ gT := tm (List.mem_of_getElem? (i := 493) (by decide +kernel)) (by decide +kernel)
theorem t_647 : Cond.selects RX5 yX5_isFull yX5_isFull ∈ gT := tm (List.mem_of_getElem? (i := 494) (by decide +kernel)) (by decide +kernel)
theorem t_648 : Cond.fieldLink RX6 26 "DepositJudge$LawReader" "at" "I" ∈ gT := tm (List.mem_of_getElem? (i := 121) (by decide +kernel)) (by decide +kernel)
theorem t_649 : Cond.fieldLink RX6 22 "DepositJudge$LawReader" "end" "I" ∈ gT := tm (List.mem_of_getElem? (i := 120) (by decide +kernel)) (by decide +kernel)
theorem t_650 : Cond.fieldLink RX6 18 "DepositJudge$LawReader" "text" "[B" ∈ gT := tm (List.mem_of_getElem? (i := 119) (by decide +kernel)) (by decide +kernel)
theorem t_651 : Cond.fieldLink RX6 29 "DepositJudge$LawReader" "fault" "I" ∈ gT := tm (List.mem_of_getElem? (i := 122) (by decide +kernel)) (by decide +kernel)
theorem t_652 : Cond.code yX6_peek cX6_peek 1 (some .int) ∈ gT := tm (List.mem_of_getElem? (i := 483) (by decide +kernel)) (by decide +kernel)
theorem t_653 : Cond.initialized RX6 ∈ gT := tm (List.mem_of_getElem? (i := 5) (by decide +kernel)) (by decide +kernel)
theorem t_654 : Cond.methodLink RX6 46 yX6_peek ∈ gT := tm (List.mem_of_getElem? (i := 480) (by decide +kernel)) (by decide +kernel)
theorem t_655 : Cond.instanceMethod yX6_peek ∈ gT := tm (List.mem_of_getElem? (i := 482) (by decide +kernel)) (by decide +kernel)
theorem t_656 : Cond.selects RX6 yX6_peek yX6_peek ∈ gT := tmp (List.mem_of_getElem? (i := 6) (by decide +kernel)) (by decide +kernel)
theorem t_657 : Cond.code yX6_refuse cX6_refuse 2 (some .boolean) ∈ gT := tm (List.mem_of_getElem? (i := 491) (by decide +kernel)) (by decide +kernel)
theorem t_658 : Cond.methodLink RX6 73 yX6_refuse ∈ gT := tm (List.mem_of_getElem? (i := 488) (by decide +kernel)) (by decide +kernel)
theorem t_659 : Cond.instanceMethod yX6_refuse ∈ gT := tm (List.mem_of_getElem? (i := 490) (by decide +kernel)) (by decide +kernel)
theorem t_660 : Cond.selects RX6 yX6_refuse yX6_refuse ∈ gT := tmp (List.mem_of_getElem? (i := 8) (by decide +kernel)) (by decide +kernel)
theorem t_661 : Cond.fieldLink RX6 12 "DepositJudge$LawReader" "draft" "LDepositJudge$Law;" ∈ gT := tm (List.mem_of_getElem? (i := 117) (by decide +kernel)) (by decide +kernel)
theorem t_662 : Cond.code yX5_add cX5_add 3 (some .int) ∈ gT := tm (List.mem_of_getElem? (i := 520) (by decide +kernel)) (by decide +kernel)
theorem t_663 : Cond.methodLink RX6 92 yX5_add ∈ gT := tm (List.mem_of_getElem? (i := 517) (by decide +kernel)) (by decide +kernel)
theorem t_664 : Cond.instanceMethod yX5_add ∈ gT := tm (List.mem_of_getElem? (i := 518) (by decide +kernel)) (by decide +kernel)
theorem t_665 : Cond.selects RX5 yX5_add yX5_add ∈ gT := tm (List.mem_of_getElem? (i := 519) (by decide +kernel)) (by decide +kernel)
theorem t_666 : Cond.code yJ0_indexOf_0f7a4 cJ0_indexOf_0f7a4 2 (some .int) ∈ gT := tm (List.mem_of_getElem? (i := 525) (by decide +kernel)) (by decide +kernel)
theorem t_667 : Cond.methodLink RX6 103 yJ0_indexOf_0f7a4 ∈ gT := tm (List.mem_of_getElem? (i := 522) (by decide +kernel)) (by decide +kernel)
theorem t_668 : Cond.instanceMethod yJ0_indexOf_0f7a4 ∈ gT := tm (List.mem_of_getElem? (i := 523) (by decide +kernel)) (by decide +kernel)
theorem t_669 : Cond.selects RJ0 yJ0_indexOf_0f7a4 yJ0_indexOf_0f7a4 ∈ gT := tm (List.mem_of_getElem? (i := 524) (by decide +kernel)) (by decide +kernel)
theorem t_670 : Cond.code yX6_number cX6_number 4 (some .boolean) ∈ gT := tm (List.mem_of_getElem? (i := 516) (by decide +kernel)) (by decide +kernel)
theorem t_671 : Cond.methodLink RX6 98 yX6_number ∈ gT := tm (List.mem_of_getElem? (i := 513) (by decide +kernel)) (by decide +kernel)
theorem t_672 : Cond.instanceMethod yX6_number ∈ gT := tm (List.mem_of_getElem? (i := 515) (by decide +kernel)) (by decide +kernel)
theorem t_673 : Cond.selects RX6 yX6_number yX6_number ∈ gT := tmp (List.mem_of_getElem? (i := 12) (by decide +kernel)) (by decide +kernel)
theorem t_674 : Cond.code yX6_expression cX6_expression 7 (some .boolean) ∈ gT := tm (List.mem_of_getElem? (i := 504) (by decide +kernel)) (by decide +kernel)
theorem t_675 : Cond.methodLink RX6 54 yX6_expression ∈ gT := tm (List.mem_of_getElem? (i := 501) (by decide +kernel)) (by decide +kernel)
theorem t_676 : Cond.instanceMethod yX6_expression ∈ gT := tm (List.mem_of_getElem? (i := 503) (by decide +kernel)) (by decide +kernel)
theorem t_677 : Cond.selects RX6 yX6_expression yX6_expression ∈ gT := tmp (List.mem_of_getElem? (i := 9) (by decide +kernel)) (by decide +kernel)
theorem t_678 : Cond.code yX6_pass cX6_pass 2 (some .boolean) ∈ gT := tm (List.mem_of_getElem? (i := 512) (by decide +kernel)) (by decide +kernel)
theorem t_679 : Cond.methodLink RX6 69 yX6_pass ∈ gT := tm (List.mem_of_getElem? (i := 509) (by decide +kernel)) (by decide +kernel)
theorem t_680 : Cond.instanceMethod yX6_pass ∈ gT := tm (List.mem_of_getElem? (i := 511) (by decide +kernel)) (by decide +kernel)
theorem t_681 : Cond.selects RX6 yX6_pass yX6_pass ∈ gT := tmp (List.mem_of_getElem? (i := 11) (by decide +kernel)) (by decide +kernel)
theorem t_682 : Cond.code yX6_factor cX6_factor 4 (some .boolean) ∈ gT := tm (List.mem_of_getElem? (i := 508) (by decide +kernel)) (by decide +kernel)
theorem t_683 : Cond.methodLink RX6 95 yX6_factor ∈ gT := tm (List.mem_of_getElem? (i := 505) (by decide +kernel)) (by decide +kernel)
theorem t_684 : Cond.instanceMethod yX6_factor ∈ gT := tm (List.mem_of_getElem? (i := 507) (by decide +kernel)) (by decide +kernel)
theorem t_685 : Cond.selects RX6 yX6_factor yX6_factor ∈ gT := tmp (List.mem_of_getElem? (i := 10) (by decide +kernel)) (by decide +kernel)
theorem dX5_add_0 : decode cX5_add 0 = .ok (.aload_n 0, 1) := by decide +kernel
theorem dX5_add_1 : decode cX5_add 1 = .ok (.getfield 15, 3) := by decide +kernel
theorem dX5_add_4 : decode cX5_add 4 = .ok (.sipush 200, 3) := by decide +kernel
theorem dX5_add_7 : decode cX5_add 7 = .ok (.if_icmp .lt 5, 3) := by decide +kernel
theorem dX5_add_10 : decode cX5_add 10 = .ok (.iconst (-1), 1) := by decide +kernel
theorem dX5_add_11 : decode cX5_add 11 = .ok (.ireturn, 1) := by decide +kernel
theorem dX5_add_12 : decode cX5_add 12 = .ok (.aload_n 0, 1) := by decide +kernel
theorem dX5_add_13 : decode cX5_add 13 = .ok (.getfield 31, 3) := by decide +kernel
theorem dX5_add_16 : decode cX5_add 16 = .ok (.aload_n 0, 1) := by decide +kernel
theorem dX5_add_17 : decode cX5_add 17 = .ok (.getfield 15, 3) := by decide +kernel
theorem dX5_add_20 : decode cX5_add 20 = .ok (.iload_n 1, 1) := by decide +kernel
theorem dX5_add_21 : decode cX5_add 21 = .ok (.iastore, 1) := by decide +kernel
theorem dX5_add_22 : decode cX5_add 22 = .ok (.aload_n 0, 1) := by decide +kernel
theorem dX5_add_23 : decode cX5_add 23 = .ok (.getfield 34, 3) := by decide +kernel
theorem dX5_add_26 : decode cX5_add 26 = .ok (.aload_n 0, 1) := by decide +kernel
theorem dX5_add_27 : decode cX5_add 27 = .ok (.getfield 15, 3) := by decide +kernel
theorem dX5_add_30 : decode cX5_add 30 = .ok (.iload_n 2, 1) := by decide +kernel
theorem dX5_add_31 : decode cX5_add 31 = .ok (.iastore, 1) := by decide +kernel
theorem dX5_add_32 : decode cX5_add 32 = .ok (.aload_n 0, 1) := by decide +kernel
theorem dX5_add_33 : decode cX5_add 33 = .ok (.dup, 1) := by decide +kernel
theorem dX5_add_34 : decode cX5_add 34 = .ok (.getfield 15, 3) := by decide +kernel
theorem dX5_add_37 : decode cX5_add 37 = .ok (.iconst 1, 1) := by decide +kernel
theorem dX5_add_38 : decode cX5_add 38 = .ok (.iadd, 1) := by decide +kernel
theorem dX5_add_39 : decode cX5_add 39 = .ok (.putfield 15, 3) := by decide +kernel
theorem dX5_add_42 : decode cX5_add 42 = .ok (.aload_n 0, 1) := by decide +kernel
theorem dX5_add_43 : decode cX5_add 43 = .ok (.getfield 15, 3) := by decide +kernel
theorem dX5_add_46 : decode cX5_add 46 = .ok (.iconst 1, 1) := by decide +kernel
theorem dX5_add_47 : decode cX5_add 47 = .ok (.isub, 1) := by decide +kernel
theorem dX5_add_48 : decode cX5_add 48 = .ok (.ireturn, 1) := by decide +kernel
theorem dX5_aim_0 : decode cX5_aim 0 = .ok (.iload_n 1, 1) := by decide +kernel
theorem dX5_aim_1 : decode cX5_aim 1 = .ok (.ifCond .lt 21, 3) := by decide +kernel
theorem dX5_aim_4 : decode cX5_aim 4 = .ok (.iload_n 1, 1) := by decide +kernel
theorem dX5_aim_5 : decode cX5_aim 5 = .ok (.aload_n 0, 1) := by decide +kernel
theorem dX5_aim_6 : decode cX5_aim 6 = .ok (.getfield 15, 3) := by decide +kernel
theorem dX5_aim_9 : decode cX5_aim 9 = .ok (.if_icmp .ge 13, 3) := by decide +kernel
theorem dX5_aim_12 : decode cX5_aim 12 = .ok (.aload_n 0, 1) := by decide +kernel
theorem dX5_aim_13 : decode cX5_aim 13 = .ok (.getfield 34, 3) := by decide +kernel
theorem dX5_aim_16 : decode cX5_aim 16 = .ok (.iload_n 1, 1) := by decide +kernel
theorem dX5_aim_17 : decode cX5_aim 17 = .ok (.aload_n 0, 1) := by decide +kernel
theorem dX5_aim_18 : decode cX5_aim 18 = .ok (.getfield 15, 3) := by decide +kernel
theorem dX5_aim_21 : decode cX5_aim 21 = .ok (.iastore, 1) := by decide +kernel
theorem dX5_aim_22 : decode cX5_aim 22 = .ok (.return_, 1) := by decide +kernel
theorem dX5_beginClause_0 : decode cX5_beginClause 0 = .ok (.aload_n 0, 1) := by decide +kernel
theorem dX5_beginClause_1 : decode cX5_beginClause 1 = .ok (.invokevirtual 40, 3) := by decide +kernel
theorem dX5_beginClause_4 : decode cX5_beginClause 4 = .ok (.ifCond .ne 26, 3) := by decide +kernel
theorem dX5_beginClause_7 : decode cX5_beginClause 7 = .ok (.aload_n 0, 1) := by decide +kernel
theorem dX5_beginClause_8 : decode cX5_beginClause 8 = .ok (.getfield 18, 3) := by decide +kernel
theorem dX5_beginClause_11 : decode cX5_beginClause 11 = .ok (.aload_n 0, 1) := by decide +kernel
theorem dX5_beginClause_12 : decode cX5_beginClause 12 = .ok (.getfield 9, 3) := by decide +kernel
theorem dX5_beginClause_15 : decode cX5_beginClause 15 = .ok (.iload_n 1, 1) := by decide +kernel
theorem dX5_beginClause_16 : decode cX5_beginClause 16 = .ok (.iastore, 1) := by decide +kernel
theorem dX5_beginClause_17 : decode cX5_beginClause 17 = .ok (.aload_n 0, 1) := by decide +kernel
theorem dX5_beginClause_18 : decode cX5_beginClause 18 = .ok (.getfield 22, 3) := by decide +kernel
theorem dX5_beginClause_21 : decode cX5_beginClause 21 = .ok (.aload_n 0, 1) := by decide +kernel
theorem dX5_beginClause_22 : decode cX5_beginClause 22 = .ok (.getfield 9, 3) := by decide +kernel
theorem dX5_beginClause_25 : decode cX5_beginClause 25 = .ok (.aload_n 0, 1) := by decide +kernel
theorem dX5_beginClause_26 : decode cX5_beginClause 26 = .ok (.getfield 15, 3) := by decide +kernel
theorem dX5_beginClause_29 : decode cX5_beginClause 29 = .ok (.iastore, 1) := by decide +kernel
theorem dX5_beginClause_30 : decode cX5_beginClause 30 = .ok (.return_, 1) := by decide +kernel
theorem dX5_beginTest_0 : decode cX5_beginTest 0 = .ok (.aload_n 0, 1) := by decide +kernel
theorem dX5_beginTest_1 : decode cX5_beginTest 1 = .ok (.invokevirtual 40, 3) := by decide +kernel
theorem dX5_beginTest_4 : decode cX5_beginTest 4 = .ok (.ifCond .ne 16, 3) := by decide +kernel
theorem dX5_beginTest_7 : decode cX5_beginTest 7 = .ok (.aload_n 0, 1) := by decide +kernel
theorem dX5_beginTest_8 : decode cX5_beginTest 8 = .ok (.getfield 25, 3) := by decide +kernel
theorem dX5_beginTest_11 : decode cX5_beginTest 11 = .ok (.aload_n 0, 1) := by decide +kernel
theorem dX5_beginTest_12 : decode cX5_beginTest 12 = .ok (.getfield 9, 3) := by decide +kernel
theorem dX5_beginTest_15 : decode cX5_beginTest 15 = .ok (.aload_n 0, 1) := by decide +kernel
theorem dX5_beginTest_16 : decode cX5_beginTest 16 = .ok (.getfield 15, 3) := by decide +kernel
theorem dX5_beginTest_19 : decode cX5_beginTest 19 = .ok (.iastore, 1) := by decide +kernel
theorem dX5_beginTest_20 : decode cX5_beginTest 20 = .ok (.return_, 1) := by decide +kernel
theorem dX5_clear_0 : decode cX5_clear 0 = .ok (.aload_n 0, 1) := by decide +kernel
theorem dX5_clear_1 : decode cX5_clear 1 = .ok (.iconst 0, 1) := by decide +kernel
theorem dX5_clear_2 : decode cX5_clear 2 = .ok (.putfield 9, 3) := by decide +kernel
theorem dX5_clear_5 : decode cX5_clear 5 = .ok (.aload_n 0, 1) := by decide +kernel
theorem dX5_clear_6 : decode cX5_clear 6 = .ok (.iconst 0, 1) := by decide +kernel
theorem dX5_clear_7 : decode cX5_clear 7 = .ok (.putfield 15, 3) := by decide +kernel
theorem dX5_clear_10 : decode cX5_clear 10 = .ok (.return_, 1) := by decide +kernel
theorem dX5_endClause_0 : decode cX5_endClause 0 = .ok (.aload_n 0, 1) := by decide +kernel
theorem dX5_endClause_1 : decode cX5_endClause 1 = .ok (.invokevirtual 40, 3) := by decide +kernel
theorem dX5_endClause_4 : decode cX5_endClause 4 = .ok (.ifCond .ne 26, 3) := by decide +kernel
theorem dX5_endClause_7 : decode cX5_endClause 7 = .ok (.aload_n 0, 1) := by decide +kernel
theorem dX5_endClause_8 : decode cX5_endClause 8 = .ok (.getfield 28, 3) := by decide +kernel
theorem dX5_endClause_11 : decode cX5_endClause 11 = .ok (.aload_n 0, 1) := by decide +kernel
theorem dX5_endClause_12 : decode cX5_endClause 12 = .ok (.getfield 9, 3) := by decide +kernel
theorem dX5_endClause_15 : decode cX5_endClause 15 = .ok (.aload_n 0, 1) := by decide +kernel
theorem dX5_endClause_16 : decode cX5_endClause 16 = .ok (.getfield 15, 3) := by decide +kernel
theorem dX5_endClause_19 : decode cX5_endClause 19 = .ok (.iastore, 1) := by decide +kernel
theorem dX5_endClause_20 : decode cX5_endClause 20 = .ok (.aload_n 0, 1) := by decide +kernel
theorem dX5_endClause_21 : decode cX5_endClause 21 = .ok (.dup, 1) := by decide +kernel
theorem dX5_endClause_22 : decode cX5_endClause 22 = .ok (.getfield 9, 3) := by decide +kernel
theorem dX5_endClause_25 : decode cX5_endClause 25 = .ok (.iconst 1, 1) := by decide +kernel
theorem dX5_endClause_26 : decode cX5_endClause 26 = .ok (.iadd, 1) := by decide +kernel
theorem dX5_endClause_27 : decode cX5_endClause 27 = .ok (.putfield 9, 3) := by decide +kernel
theorem dX5_endClause_30 : decode cX5_endClause 30 = .ok (.return_, 1) := by decide +kernel
theorem dX5_isFull_0 : decode cX5_isFull 0 = .ok (.aload_n 0, 1) := by decide +kernel
theorem dX5_isFull_1 : decode cX5_isFull 1 = .ok (.getfield 9, 3) := by decide +kernel
theorem dX5_isFull_4 : decode cX5_isFull 4 = .ok (.bipush 14, 2) := by decide +kernel
theorem dX5_isFull_6 : decode cX5_isFull 6 = .ok (.if_icmp .lt 7, 3) := by decide +kernel
theorem dX5_isFull_9 : decode cX5_isFull 9 = .ok (.iconst 1, 1) := by decide +kernel
theorem dX5_isFull_10 : decode cX5_isFull 10 = .ok (.goto 4, 3) := by decide +kernel
theorem dX5_isFull_13 : decode cX5_isFull 13 = .ok (.iconst 0, 1) := by decide +kernel
theorem dX5_isFull_14 : decode cX5_isFull 14 = .ok (.ireturn, 1) := by decide +kernel
theorem dX6_expression_0 : decode cX6_expression 0 = .ok (.iconst (-1), 1) := by decide +kernel
theorem dX6_expression_1 : decode cX6_expression 1 = .ok (.istore_n 3, 1) := by decide +kernel
theorem dX6_expression_2 : decode cX6_expression 2 = .ok (.iconst 0, 1) := by decide +kernel
theorem dX6_expression_3 : decode cX6_expression 3 = .ok (.istore 4, 2) := by decide +kernel
theorem dX6_expression_5 : decode cX6_expression 5 = .ok (.iload 4, 2) := by decide +kernel
theorem dX6_expression_7 : decode cX6_expression 7 = .ok (.sipush 200, 3) := by decide +kernel
theorem dX6_expression_10 : decode cX6_expression 10 = .ok (.if_icmp .ge 122, 3) := by decide +kernel
theorem dX6_expression_13 : decode cX6_expression 13 = .ok (.iload_n 2, 1) := by decide +kernel
theorem dX6_expression_14 : decode cX6_expression 14 = .ok (.ifCond .eq 12, 3) := by decide +kernel
theorem dX6_expression_17 : decode cX6_expression 17 = .ok (.aload_n 0, 1) := by decide +kernel
theorem dX6_expression_18 : decode cX6_expression 18 = .ok (.iload_n 1, 1) := by decide +kernel
theorem dX6_expression_19 : decode cX6_expression 19 = .ok (.iconst 0, 1) := by decide +kernel
theorem dX6_expression_20 : decode cX6_expression 20 = .ok (.invokevirtual 54, 3) := by decide +kernel
theorem dX6_expression_23 : decode cX6_expression 23 = .ok (.goto 8, 3) := by decide +kernel
theorem dX6_expression_26 : decode cX6_expression 26 = .ok (.aload_n 0, 1) := by decide +kernel
theorem dX6_expression_27 : decode cX6_expression 27 = .ok (.iload_n 1, 1) := by decide +kernel
theorem dX6_expression_28 : decode cX6_expression 28 = .ok (.invokevirtual 95, 3) := by decide +kernel
theorem dX6_expression_31 : decode cX6_expression 31 = .ok (.istore 5, 2) := by decide +kernel
theorem dX6_expression_33 : decode cX6_expression 33 = .ok (.iload 5, 2) := by decide +kernel
theorem dX6_expression_35 : decode cX6_expression 35 = .ok (.ifCond .ne 5, 3) := by decide +kernel
theorem dX6_expression_38 : decode cX6_expression 38 = .ok (.iconst 0, 1) := by decide +kernel
theorem dX6_expression_39 : decode cX6_expression 39 = .ok (.ireturn, 1) := by decide +kernel
theorem dX6_expression_40 : decode cX6_expression 40 = .ok (.iload_n 3, 1) := by decide +kernel
theorem dX6_expression_41 : decode cX6_expression 41 = .ok (.iconst (-1), 1) := by decide +kernel
theorem dX6_expression_42 : decode cX6_expression 42 = .ok (.if_icmp .eq 13, 3) := by decide +kernel
theorem dX6_expression_45 : decode cX6_expression 45 = .ok (.aload_n 0, 1) := by decide +kernel
theorem dX6_expression_46 : decode cX6_expression 46 = .ok (.getfield 12, 3) := by decide +kernel
theorem dX6_expression_49 : decode cX6_expression 49 = .ok (.iload_n 3, 1) := by decide +kernel
theorem dX6_expression_50 : decode cX6_expression 50 = .ok (.iconst 0, 1) := by decide +kernel
theorem dX6_expression_51 : decode cX6_expression 51 = .ok (.invokevirtual 92, 3) := by decide +kernel
theorem dX6_expression_54 : decode cX6_expression 54 = .ok (.pop, 1) := by decide +kernel
theorem dX6_expression_55 : decode cX6_expression 55 = .ok (.aload_n 0, 1) := by decide +kernel
theorem dX6_expression_56 : decode cX6_expression 56 = .ok (.invokevirtual 46, 3) := by decide +kernel
theorem dX6_expression_59 : decode cX6_expression 59 = .ok (.istore_n 3, 1) := by decide +kernel
theorem dX6_expression_60 : decode cX6_expression 60 = .ok (.iload_n 2, 1) := by decide +kernel
theorem dX6_expression_61 : decode cX6_expression 61 = .ok (.ifCond .eq 23, 3) := by decide +kernel
theorem dX6_expression_64 : decode cX6_expression 64 = .ok (.iload_n 3, 1) := by decide +kernel
theorem dX6_expression_65 : decode cX6_expression 65 = .ok (.bipush 43, 2) := by decide +kernel
theorem dX6_expression_67 : decode cX6_expression 67 = .ok (.if_icmp .eq 9, 3) := by decide +kernel
theorem dX6_expression_70 : decode cX6_expression 70 = .ok (.iload_n 3, 1) := by decide +kernel
theorem dX6_expression_71 : decode cX6_expression 71 = .ok (.bipush 45, 2) := by decide +kernel
theorem dX6_expression_73 : decode cX6_expression 73 = .ok (.if_icmp .ne 7, 3) := by decide +kernel
theorem dX6_expression_76 : decode cX6_expression 76 = .ok (.iconst 1, 1) := by decide +kernel
theorem dX6_expression_77 : decode cX6_expression 77 = .ok (.goto 30, 3) := by decide +kernel
theorem dX6_expression_80 : decode cX6_expression 80 = .ok (.iconst 0, 1) := by decide +kernel
theorem dX6_expression_81 : decode cX6_expression 81 = .ok (.goto 26, 3) := by decide +kernel
theorem dX6_expression_84 : decode cX6_expression 84 = .ok (.iload_n 3, 1) := by decide +kernel
theorem dX6_expression_85 : decode cX6_expression 85 = .ok (.bipush 42, 2) := by decide +kernel
theorem dX6_expression_87 : decode cX6_expression 87 = .ok (.if_icmp .eq 15, 3) := by decide +kernel
theorem dX6_expression_90 : decode cX6_expression 90 = .ok (.iload_n 3, 1) := by decide +kernel
theorem dX6_expression_91 : decode cX6_expression 91 = .ok (.bipush 47, 2) := by decide +kernel
theorem dX6_expression_93 : decode cX6_expression 93 = .ok (.if_icmp .eq 9, 3) := by decide +kernel
theorem dX6_expression_96 : decode cX6_expression 96 = .ok (.iload_n 3, 1) := by decide +kernel
theorem dX6_expression_97 : decode cX6_expression 97 = .ok (.bipush 37, 2) := by decide +kernel
theorem dX6_expression_99 : decode cX6_expression 99 = .ok (.if_icmp .ne 7, 3) := by decide +kernel
theorem dX6_expression_102 : decode cX6_expression 102 = .ok (.iconst 1, 1) := by decide +kernel
theorem dX6_expression_103 : decode cX6_expression 103 = .ok (.goto 4, 3) := by decide +kernel
theorem dX6_expression_106 : decode cX6_expression 106 = .ok (.iconst 0, 1) := by decide +kernel
theorem dX6_expression_107 : decode cX6_expression 107 = .ok (.istore 6, 2) := by decide +kernel
theorem dX6_expression_109 : decode cX6_expression 109 = .ok (.iload 6, 2) := by decide +kernel
theorem dX6_expression_111 : decode cX6_expression 111 = .ok (.ifCond .ne 5, 3) := by decide +kernel
theorem dX6_expression_114 : decode cX6_expression 114 = .ok (.iconst 1, 1) := by decide +kernel
theorem dX6_expression_115 : decode cX6_expression 115 = .ok (.ireturn, 1) := by decide +kernel
theorem dX6_expression_116 : decode cX6_expression 116 = .ok (.aload_n 0, 1) := by decide +kernel
theorem dX6_expression_117 : decode cX6_expression 117 = .ok (.dup, 1) := by decide +kernel
theorem dX6_expression_118 : decode cX6_expression 118 = .ok (.getfield 26, 3) := by decide +kernel
theorem dX6_expression_121 : decode cX6_expression 121 = .ok (.iconst 1, 1) := by decide +kernel
theorem dX6_expression_122 : decode cX6_expression 122 = .ok (.iadd, 1) := by decide +kernel
theorem dX6_expression_123 : decode cX6_expression 123 = .ok (.putfield 26, 3) := by decide +kernel
theorem dX6_expression_126 : decode cX6_expression 126 = .ok (.iinc 4 1, 3) := by decide +kernel
theorem dX6_expression_129 : decode cX6_expression 129 = .ok (.goto (-124), 3) := by decide +kernel
theorem dX6_factor_0 : decode cX6_factor 0 = .ok (.aload_n 0, 1) := by decide +kernel
theorem dX6_factor_1 : decode cX6_factor 1 = .ok (.invokevirtual 46, 3) := by decide +kernel
theorem dX6_factor_4 : decode cX6_factor 4 = .ok (.istore_n 2, 1) := by decide +kernel
theorem dX6_factor_5 : decode cX6_factor 5 = .ok (.iload_n 2, 1) := by decide +kernel
theorem dX6_factor_6 : decode cX6_factor 6 = .ok (.bipush 91, 2) := by decide +kernel
theorem dX6_factor_8 : decode cX6_factor 8 = .ok (.if_icmp .ne 51, 3) := by decide +kernel
theorem dX6_factor_11 : decode cX6_factor 11 = .ok (.iload_n 1, 1) := by decide +kernel
theorem dX6_factor_12 : decode cX6_factor 12 = .ok (.bipush 6, 2) := by decide +kernel
theorem dX6_factor_14 : decode cX6_factor 14 = .ok (.if_icmp .lt 9, 3) := by decide +kernel
theorem dX6_factor_17 : decode cX6_factor 17 = .ok (.aload_n 0, 1) := by decide +kernel
theorem dX6_factor_18 : decode cX6_factor 18 = .ok (.iconst 5, 1) := by decide +kernel
theorem dX6_factor_19 : decode cX6_factor 19 = .ok (.invokevirtual 73, 3) := by decide +kernel
theorem dX6_factor_22 : decode cX6_factor 22 = .ok (.ireturn, 1) := by decide +kernel
theorem dX6_factor_23 : decode cX6_factor 23 = .ok (.aload_n 0, 1) := by decide +kernel
theorem dX6_factor_24 : decode cX6_factor 24 = .ok (.dup, 1) := by decide +kernel
theorem dX6_factor_25 : decode cX6_factor 25 = .ok (.getfield 26, 3) := by decide +kernel
theorem dX6_factor_28 : decode cX6_factor 28 = .ok (.iconst 1, 1) := by decide +kernel
theorem dX6_factor_29 : decode cX6_factor 29 = .ok (.iadd, 1) := by decide +kernel
theorem dX6_factor_30 : decode cX6_factor 30 = .ok (.putfield 26, 3) := by decide +kernel
theorem dX6_factor_33 : decode cX6_factor 33 = .ok (.aload_n 0, 1) := by decide +kernel
theorem dX6_factor_34 : decode cX6_factor 34 = .ok (.iload_n 1, 1) := by decide +kernel
theorem dX6_factor_35 : decode cX6_factor 35 = .ok (.iconst 1, 1) := by decide +kernel
theorem dX6_factor_36 : decode cX6_factor 36 = .ok (.iadd, 1) := by decide +kernel
theorem dX6_factor_37 : decode cX6_factor 37 = .ok (.iconst 1, 1) := by decide +kernel
theorem dX6_factor_38 : decode cX6_factor 38 = .ok (.invokevirtual 54, 3) := by decide +kernel
theorem dX6_factor_41 : decode cX6_factor 41 = .ok (.ifCond .eq 16, 3) := by decide +kernel
theorem dX6_factor_44 : decode cX6_factor 44 = .ok (.aload_n 0, 1) := by decide +kernel
theorem dX6_factor_45 : decode cX6_factor 45 = .ok (.bipush 93, 2) := by decide +kernel
theorem dX6_factor_47 : decode cX6_factor 47 = .ok (.invokevirtual 69, 3) := by decide +kernel
theorem dX6_factor_50 : decode cX6_factor 50 = .ok (.ifCond .eq 7, 3) := by decide +kernel
theorem dX6_factor_53 : decode cX6_factor 53 = .ok (.iconst 1, 1) := by decide +kernel
theorem dX6_factor_54 : decode cX6_factor 54 = .ok (.goto 4, 3) := by decide +kernel
theorem dX6_factor_57 : decode cX6_factor 57 = .ok (.iconst 0, 1) := by decide +kernel
theorem dX6_factor_58 : decode cX6_factor 58 = .ok (.ireturn, 1) := by decide +kernel
theorem dX6_factor_59 : decode cX6_factor 59 = .ok (.iload_n 2, 1) := by decide +kernel
theorem dX6_factor_60 : decode cX6_factor 60 = .ok (.bipush 48, 2) := by decide +kernel
theorem dX6_factor_62 : decode cX6_factor 62 = .ok (.if_icmp .lt 14, 3) := by decide +kernel
theorem dX6_factor_65 : decode cX6_factor 65 = .ok (.iload_n 2, 1) := by decide +kernel
theorem dX6_factor_66 : decode cX6_factor 66 = .ok (.bipush 57, 2) := by decide +kernel
theorem dX6_factor_68 : decode cX6_factor 68 = .ok (.if_icmp .gt 8, 3) := by decide +kernel
theorem dX6_factor_71 : decode cX6_factor 71 = .ok (.aload_n 0, 1) := by decide +kernel
theorem dX6_factor_72 : decode cX6_factor 72 = .ok (.invokevirtual 98, 3) := by decide +kernel
theorem dX6_factor_75 : decode cX6_factor 75 = .ok (.ireturn, 1) := by decide +kernel
theorem dX6_factor_76 : decode cX6_factor 76 = .ok (.iload_n 2, 1) := by decide +kernel
theorem dX6_factor_77 : decode cX6_factor 77 = .ok (.iconst (-1), 1) := by decide +kernel
theorem dX6_factor_78 : decode cX6_factor 78 = .ok (.if_icmp .ne 7, 3) := by decide +kernel
theorem dX6_factor_81 : decode cX6_factor 81 = .ok (.iconst (-1), 1) := by decide +kernel
theorem dX6_factor_82 : decode cX6_factor 82 = .ok (.goto 10, 3) := by decide +kernel
theorem dX6_factor_85 : decode cX6_factor 85 = .ok (.ldc 101, 2) := by decide +kernel
theorem dX6_factor_87 : decode cX6_factor 87 = .ok (.iload_n 2, 1) := by decide +kernel
theorem dX6_factor_88 : decode cX6_factor 88 = .ok (.i2c, 1) := by decide +kernel
theorem dX6_factor_89 : decode cX6_factor 89 = .ok (.invokevirtual 103, 3) := by decide +kernel
theorem dX6_factor_92 : decode cX6_factor 92 = .ok (.istore_n 3, 1) := by decide +kernel
theorem dX6_factor_93 : decode cX6_factor 93 = .ok (.iload_n 3, 1) := by decide +kernel
theorem dX6_factor_94 : decode cX6_factor 94 = .ok (.ifCond .ge 9, 3) := by decide +kernel
theorem dX6_factor_97 : decode cX6_factor 97 = .ok (.aload_n 0, 1) := by decide +kernel
theorem dX6_factor_98 : decode cX6_factor 98 = .ok (.iconst 1, 1) := by decide +kernel
theorem dX6_factor_99 : decode cX6_factor 99 = .ok (.invokevirtual 73, 3) := by decide +kernel
theorem dX6_factor_102 : decode cX6_factor 102 = .ok (.ireturn, 1) := by decide +kernel
theorem dX6_factor_103 : decode cX6_factor 103 = .ok (.aload_n 0, 1) := by decide +kernel
theorem dX6_factor_104 : decode cX6_factor 104 = .ok (.dup, 1) := by decide +kernel
theorem dX6_factor_105 : decode cX6_factor 105 = .ok (.getfield 26, 3) := by decide +kernel
theorem dX6_factor_108 : decode cX6_factor 108 = .ok (.iconst 1, 1) := by decide +kernel
theorem dX6_factor_109 : decode cX6_factor 109 = .ok (.iadd, 1) := by decide +kernel
theorem dX6_factor_110 : decode cX6_factor 110 = .ok (.putfield 26, 3) := by decide +kernel
theorem dX6_factor_113 : decode cX6_factor 113 = .ok (.aload_n 0, 1) := by decide +kernel
theorem dX6_factor_114 : decode cX6_factor 114 = .ok (.getfield 12, 3) := by decide +kernel
theorem dX6_factor_117 : decode cX6_factor 117 = .ok (.bipush 107, 2) := by decide +kernel
theorem dX6_factor_119 : decode cX6_factor 119 = .ok (.iload_n 3, 1) := by decide +kernel
theorem dX6_factor_120 : decode cX6_factor 120 = .ok (.invokevirtual 92, 3) := by decide +kernel
theorem dX6_factor_123 : decode cX6_factor 123 = .ok (.pop, 1) := by decide +kernel
theorem dX6_factor_124 : decode cX6_factor 124 = .ok (.iconst 1, 1) := by decide +kernel
theorem dX6_factor_125 : decode cX6_factor 125 = .ok (.ireturn, 1) := by decide +kernel
theorem dX6_number_0 : decode cX6_number 0 = .ok (.iconst 0, 1) := by decide +kernel
theorem dX6_number_1 : decode cX6_number 1 = .ok (.istore_n 1, 1) := by decide +kernel
theorem dX6_number_2 : decode cX6_number 2 = .ok (.aload_n 0, 1) := by decide +kernel
theorem dX6_number_3 : decode cX6_number 3 = .ok (.invokevirtual 46, 3) := by decide +kernel
theorem dX6_number_6 : decode cX6_number 6 = .ok (.istore_n 2, 1) := by decide +kernel
theorem dX6_number_7 : decode cX6_number 7 = .ok (.iconst 0, 1) := by decide +kernel
theorem dX6_number_8 : decode cX6_number 8 = .ok (.istore_n 3, 1) := by decide +kernel
theorem dX6_number_9 : decode cX6_number 9 = .ok (.iload_n 3, 1) := by decide +kernel
theorem dX6_number_10 : decode cX6_number 10 = .ok (.iconst 5, 1) := by decide +kernel
theorem dX6_number_11 : decode cX6_number 11 = .ok (.if_icmp .ge 46, 3) := by decide +kernel
theorem dX6_number_14 : decode cX6_number 14 = .ok (.iload_n 2, 1) := by decide +kernel
theorem dX6_number_15 : decode cX6_number 15 = .ok (.bipush 48, 2) := by decide +kernel
theorem dX6_number_17 : decode cX6_number 17 = .ok (.if_icmp .lt 40, 3) := by decide +kernel
theorem dX6_number_20 : decode cX6_number 20 = .ok (.iload_n 2, 1) := by decide +kernel
theorem dX6_number_21 : decode cX6_number 21 = .ok (.bipush 57, 2) := by decide +kernel
theorem dX6_number_23 : decode cX6_number 23 = .ok (.if_icmp .gt 34, 3) := by decide +kernel
theorem dX6_number_26 : decode cX6_number 26 = .ok (.bipush 10, 2) := by decide +kernel
theorem dX6_number_28 : decode cX6_number 28 = .ok (.iload_n 1, 1) := by decide +kernel
theorem dX6_number_29 : decode cX6_number 29 = .ok (.imul, 1) := by decide +kernel
theorem dX6_number_30 : decode cX6_number 30 = .ok (.iload_n 2, 1) := by decide +kernel
theorem dX6_number_31 : decode cX6_number 31 = .ok (.bipush 48, 2) := by decide +kernel
theorem dX6_number_33 : decode cX6_number 33 = .ok (.isub, 1) := by decide +kernel
theorem dX6_number_34 : decode cX6_number 34 = .ok (.iadd, 1) := by decide +kernel
theorem dX6_number_35 : decode cX6_number 35 = .ok (.istore_n 1, 1) := by decide +kernel
theorem dX6_number_36 : decode cX6_number 36 = .ok (.aload_n 0, 1) := by decide +kernel
theorem dX6_number_37 : decode cX6_number 37 = .ok (.dup, 1) := by decide +kernel
theorem dX6_number_38 : decode cX6_number 38 = .ok (.getfield 26, 3) := by decide +kernel
theorem dX6_number_41 : decode cX6_number 41 = .ok (.iconst 1, 1) := by decide +kernel
theorem dX6_number_42 : decode cX6_number 42 = .ok (.iadd, 1) := by decide +kernel
theorem dX6_number_43 : decode cX6_number 43 = .ok (.putfield 26, 3) := by decide +kernel
theorem dX6_number_46 : decode cX6_number 46 = .ok (.aload_n 0, 1) := by decide +kernel
theorem dX6_number_47 : decode cX6_number 47 = .ok (.invokevirtual 46, 3) := by decide +kernel
theorem dX6_number_50 : decode cX6_number 50 = .ok (.istore_n 2, 1) := by decide +kernel
theorem dX6_number_51 : decode cX6_number 51 = .ok (.iinc 3 1, 3) := by decide +kernel
theorem dX6_number_54 : decode cX6_number 54 = .ok (.goto (-45), 3) := by decide +kernel
theorem dX6_number_57 : decode cX6_number 57 = .ok (.iload_n 2, 1) := by decide +kernel
theorem dX6_number_58 : decode cX6_number 58 = .ok (.bipush 48, 2) := by decide +kernel
theorem dX6_number_60 : decode cX6_number 60 = .ok (.if_icmp .lt 15, 3) := by decide +kernel
theorem dX6_number_63 : decode cX6_number 63 = .ok (.iload_n 2, 1) := by decide +kernel
theorem dX6_number_64 : decode cX6_number 64 = .ok (.bipush 57, 2) := by decide +kernel
theorem dX6_number_66 : decode cX6_number 66 = .ok (.if_icmp .gt 9, 3) := by decide +kernel
theorem dX6_number_69 : decode cX6_number 69 = .ok (.aload_n 0, 1) := by decide +kernel
theorem dX6_number_70 : decode cX6_number 70 = .ok (.iconst 2, 1) := by decide +kernel
theorem dX6_number_71 : decode cX6_number 71 = .ok (.invokevirtual 73, 3) := by decide +kernel
theorem dX6_number_74 : decode cX6_number 74 = .ok (.ireturn, 1) := by decide +kernel
theorem dX6_number_75 : decode cX6_number 75 = .ok (.aload_n 0, 1) := by decide +kernel
theorem dX6_number_76 : decode cX6_number 76 = .ok (.getfield 12, 3) := by decide +kernel
theorem dX6_number_79 : decode cX6_number 79 = .ok (.bipush 48, 2) := by decide +kernel
theorem dX6_number_81 : decode cX6_number 81 = .ok (.iload_n 1, 1) := by decide +kernel
theorem dX6_number_82 : decode cX6_number 82 = .ok (.invokevirtual 92, 3) := by decide +kernel
theorem dX6_number_85 : decode cX6_number 85 = .ok (.pop, 1) := by decide +kernel
theorem dX6_number_86 : decode cX6_number 86 = .ok (.iconst 1, 1) := by decide +kernel
theorem dX6_number_87 : decode cX6_number 87 = .ok (.ireturn, 1) := by decide +kernel
theorem dX6_pass_0 : decode cX6_pass 0 = .ok (.aload_n 0, 1) := by decide +kernel
theorem dX6_pass_1 : decode cX6_pass 1 = .ok (.invokevirtual 46, 3) := by decide +kernel
theorem dX6_pass_4 : decode cX6_pass 4 = .ok (.iload_n 1, 1) := by decide +kernel
theorem dX6_pass_5 : decode cX6_pass 5 = .ok (.if_icmp .eq 9, 3) := by decide +kernel
theorem dX6_pass_8 : decode cX6_pass 8 = .ok (.aload_n 0, 1) := by decide +kernel
theorem dX6_pass_9 : decode cX6_pass 9 = .ok (.iconst 1, 1) := by decide +kernel
theorem dX6_pass_10 : decode cX6_pass 10 = .ok (.invokevirtual 73, 3) := by decide +kernel
theorem dX6_pass_13 : decode cX6_pass 13 = .ok (.ireturn, 1) := by decide +kernel
theorem dX6_pass_14 : decode cX6_pass 14 = .ok (.aload_n 0, 1) := by decide +kernel
theorem dX6_pass_15 : decode cX6_pass 15 = .ok (.dup, 1) := by decide +kernel
theorem dX6_pass_16 : decode cX6_pass 16 = .ok (.getfield 26, 3) := by decide +kernel
theorem dX6_pass_19 : decode cX6_pass 19 = .ok (.iconst 1, 1) := by decide +kernel
theorem dX6_pass_20 : decode cX6_pass 20 = .ok (.iadd, 1) := by decide +kernel
theorem dX6_pass_21 : decode cX6_pass 21 = .ok (.putfield 26, 3) := by decide +kernel
theorem dX6_pass_24 : decode cX6_pass 24 = .ok (.iconst 1, 1) := by decide +kernel
theorem dX6_pass_25 : decode cX6_pass 25 = .ok (.ireturn, 1) := by decide +kernel
theorem dX6_peek_0 : decode cX6_peek 0 = .ok (.aload_n 0, 1) := by decide +kernel
theorem dX6_peek_1 : decode cX6_peek 1 = .ok (.getfield 26, 3) := by decide +kernel
theorem dX6_peek_4 : decode cX6_peek 4 = .ok (.ifCond .lt 30, 3) := by decide +kernel
theorem dX6_peek_7 : decode cX6_peek 7 = .ok (.aload_n 0, 1) := by decide +kernel
theorem dX6_peek_8 : decode cX6_peek 8 = .ok (.getfield 26, 3) := by decide +kernel
theorem dX6_peek_11 : decode cX6_peek 11 = .ok (.aload_n 0, 1) := by decide +kernel
theorem dX6_peek_12 : decode cX6_peek 12 = .ok (.getfield 22, 3) := by decide +kernel
theorem dX6_peek_15 : decode cX6_peek 15 = .ok (.if_icmp .ge 19, 3) := by decide +kernel
theorem dX6_peek_18 : decode cX6_peek 18 = .ok (.aload_n 0, 1) := by decide +kernel
theorem dX6_peek_19 : decode cX6_peek 19 = .ok (.getfield 18, 3) := by decide +kernel
theorem dX6_peek_22 : decode cX6_peek 22 = .ok (.aload_n 0, 1) := by decide +kernel
theorem dX6_peek_23 : decode cX6_peek 23 = .ok (.getfield 26, 3) := by decide +kernel
theorem dX6_peek_26 : decode cX6_peek 26 = .ok (.baload, 1) := by decide +kernel
theorem dX6_peek_27 : decode cX6_peek 27 = .ok (.sipush 255, 3) := by decide +kernel
theorem dX6_peek_30 : decode cX6_peek 30 = .ok (.iand, 1) := by decide +kernel
theorem dX6_peek_31 : decode cX6_peek 31 = .ok (.goto 4, 3) := by decide +kernel
theorem dX6_peek_34 : decode cX6_peek 34 = .ok (.iconst (-1), 1) := by decide +kernel
theorem dX6_peek_35 : decode cX6_peek 35 = .ok (.ireturn, 1) := by decide +kernel
theorem dX6_refuse_0 : decode cX6_refuse 0 = .ok (.aload_n 0, 1) := by decide +kernel
theorem dX6_refuse_1 : decode cX6_refuse 1 = .ok (.sipush (-1000), 3) := by decide +kernel
theorem dX6_refuse_4 : decode cX6_refuse 4 = .ok (.iload_n 1, 1) := by decide +kernel
theorem dX6_refuse_5 : decode cX6_refuse 5 = .ok (.imul, 1) := by decide +kernel
theorem dX6_refuse_6 : decode cX6_refuse 6 = .ok (.aload_n 0, 1) := by decide +kernel
theorem dX6_refuse_7 : decode cX6_refuse 7 = .ok (.getfield 26, 3) := by decide +kernel
theorem dX6_refuse_10 : decode cX6_refuse 10 = .ok (.isub, 1) := by decide +kernel
theorem dX6_refuse_11 : decode cX6_refuse 11 = .ok (.putfield 29, 3) := by decide +kernel
theorem dX6_refuse_14 : decode cX6_refuse 14 = .ok (.iconst 0, 1) := by decide +kernel
theorem dX6_refuse_15 : decode cX6_refuse 15 = .ok (.ireturn, 1) := by decide +kernel
def rS (D : va_G) (cy : Nat → ClassId) (W : va_W) (sz kq vq : Nat) (U : State) : Prop := (vk_R RX6 101 "krsoamngcv" kq U ∧ sA kq vq (va_A W sz) U U.heap) ∧ rQ D cy W sz U
section PRES
variable {D : va_G} {cy : Nat → ClassId} {W : va_W} {sz kq vq : Nat} {s : State} {H : Heap} {locs : List Loc} {av : List Value} {b : Addr} {C : String} {A : Nat → Prop}
theorem rS_b : FrameBlind (va_Pc av (rS D cy W sz kq vq)) := fun a U g mk q => ⟨q.1, ⟨vk_R.same (u := U) (U := U.calling g mk a) rfl q.2.1.1, sA.moved (u := U) (U := U.calling g mk a) (Vm.Alike.refl U.vm) q.2.1.2⟩, q.2.2.1, q.2.2.2.1, va_K.moved (u := U) (U := U.calling g mk a) (Vm.Alike.refl U.vm) q.2.2.2.2.1, q.2.2.2.2.2⟩
theorem rS_v (hz : vk_R RX6 101 "krsoamngcv" kq s ∧ sA kq vq A s s.heap) (hS : va_S A s.heap H locs) (hF : ∀ q, va_A W H.size q → A q) (hP : va_P D vwCl W H) (hK : va_K D vwCl (vT cy) s) (hD : va_D A W) (hr : ∃ cell : Cell, H[b]? = some cell ∧ cell.vm.isStatics = false ∧ s.vm.findClass C = some cell.cls) : PreV s H C b (va_Pc (.ref b :: av) (rS D cy W H.size kq vq)) av := ⟨rS_b, hr, fun U hU hW => ⟨rfl, ⟨vk_R.warm hW hz.1, by rw [hU]; exact ((hz.2.kept hS.2.1).narrow hF).moved hW.alike⟩, by rw [hU], by rw [hU]; exact hP, va_K.moved hW.alike hK, hD.weaken (fun _ _ _ _ => trivial)⟩⟩
end PRES
set_option maxHeartbeats 4000000 in
set_option maxRecDepth 100000 in
theorem c_X5_isFull (l : Launch) (D : va_G) (cy : Nat → ClassId) (a : Nat → Nat) (i : Nat → Int32) (r : Nat → Nat → Int32) (q : Nat → Option Nat) (tl : va_W) (hRi : yRi i) (hRr : yRr r) : Met l yX5_isFull (Cond.code yX5_isFull cX5_isFull 1 (some .boolean) :: gT) { frames := 1, cells := 0, slots := 0, locals := 24 } (va_Pc [.ref (a 12)] (rP D cy (xW cy a i r q (a 20) (a 12) ++ tl))) (vp_Si (fun z => BR z (14 ≤ (i 6).toInt) 1 0)) 0 0 (fun _ => False) := by
  refine Met.ofQ (cc := cX5_isFull) (maxL := 1) (ret := (some .boolean)) (by decide) rfl ?_
  intro p e s m args below meth c s₁ B hml hv Q hQ
  obtain ⟨rfl, hP, hK⟩ := hv
  have hx := B.exec
  have hb := B.bytes
  have hr := B.returns
  have hlocks := B.notSynchronized
  have hT : ∀ w ∈ gT, w.before _ s = true := fun w h => atoms_spec (ws := (Cond.code yX5_isFull cX5_isFull 1 (some .boolean) :: gT)) B.pre w (List.mem_cons_of_mem _ h)
  have hown : s.vm.findClass RX5 = some m.cls := findClass_of_methodNamed B.named
  have hl := lv_entry ([.ref (a 12)]) (n := 1) (Nat.le_of_ble_eq_true rfl)
  rw [lg_entry_eq]
  generalize (lg_sl ([.ref (a 12)]) ++ List.replicate (1 - (lg_sl ([.ref (a 12)])).length) Slot.unset).toArray = ls at hl ⊢
  have hl : lv_has ls 1 [(0, .ref (a 12))] := hl
  have hEi : mEi [] i i := Ei_rf
  have hEr : mEr [] r r := Er_rf
  refine lv_aload_n hx hb dX5_isFull_0 rfl (lv_at hl 0 rfl) ?_
  refine va_get (D := D) (ci := 5) (v := .int (i 6)) (C := RX5) (T := TX5) (N := 9) hx hb hT iX5 hown hK hP 12 rfl rfl 0 (by decide) (hT _ t_370) (fun _ h9 => h9) rfl dX5_isFull_1 ?_
  have hg_1 : 0 ≤ (i 6).toInt ∧ (i 6).toInt ≤ 14 := hRi 6
  refine lv_bipush (v := 14) hx hb dX5_isFull_4 (by decide) ?_
  refine lv_icmp_lt (tgt := 13) hx hb dX5_isFull_6 (by decide) (fun c_2 => ?_) (fun c_2 => ?_)
  · have c_2 : (i 6).toInt < 14 := b_lt c_2
    refine lv_iconst (v := 0) hx hb dX5_isFull_13 (by decide) ?_
    subst hQ
    exact W.zret hx hb hr rfl (fun t ht hW => ⟨_, rfl, Or.inr ⟨rfl, by omega⟩, ht⟩) (fun q hq => absurd hq List.not_mem_nil) dX5_isFull_14
  · have c_2 : 14 ≤ (i 6).toInt := b_nlt c_2
    refine lv_iconst (v := 1) hx hb dX5_isFull_9 (by decide) ?_
    refine lv_goto (tgt := 14) hx hb dX5_isFull_10 (by decide) ?_
    subst hQ
    exact W.zret hx hb hr rfl (fun t ht hW => ⟨_, rfl, Or.inl ⟨rfl, by omega⟩, ht⟩) (fun q hq => absurd hq List.not_mem_nil) dX5_isFull_14
