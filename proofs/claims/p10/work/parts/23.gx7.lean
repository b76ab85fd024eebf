theorem t_686 : Cond.code yX6_piece cX6_piece 4 (some .boolean) ∈ gT := tm (List.mem_of_getElem? (i := 621) (by decide +kernel)) (by decide +kernel)
theorem t_687 : Cond.methodLink RX6 86 yX6_piece ∈ gT := tm (List.mem_of_getElem? (i := 618) (by decide +kernel)) (by decide +kernel)
theorem t_688 : Cond.instanceMethod yX6_piece ∈ gT := tm (List.mem_of_getElem? (i := 620) (by decide +kernel)) (by decide +kernel)
theorem t_689 : Cond.selects RX6 yX6_piece yX6_piece ∈ gT := tmp (List.mem_of_getElem? (i := 15) (by decide +kernel)) (by decide +kernel)
theorem t_690 : Cond.code yX6_condition cX6_condition 6 (some .boolean) ∈ gT := tm (List.mem_of_getElem? (i := 617) (by decide +kernel)) (by decide +kernel)
theorem t_691 : Cond.methodLink RX6 62 yX6_condition ∈ gT := tm (List.mem_of_getElem? (i := 614) (by decide +kernel)) (by decide +kernel)
theorem t_692 : Cond.instanceMethod yX6_condition ∈ gT := tm (List.mem_of_getElem? (i := 616) (by decide +kernel)) (by decide +kernel)
theorem t_693 : Cond.selects RX6 yX6_condition yX6_condition ∈ gT := tmp (List.mem_of_getElem? (i := 14) (by decide +kernel)) (by decide +kernel)
theorem t_694 : Cond.code yX5_aim cX5_aim 2 none ∈ gT := tm (List.mem_of_getElem? (i := 625) (by decide +kernel)) (by decide +kernel)
theorem t_695 : Cond.methodLink RX6 89 yX5_aim ∈ gT := tm (List.mem_of_getElem? (i := 622) (by decide +kernel)) (by decide +kernel)
theorem t_696 : Cond.instanceMethod yX5_aim ∈ gT := tm (List.mem_of_getElem? (i := 623) (by decide +kernel)) (by decide +kernel)
theorem t_697 : Cond.selects RX5 yX5_aim yX5_aim ∈ gT := tm (List.mem_of_getElem? (i := 624) (by decide +kernel)) (by decide +kernel)
theorem t_698 : Cond.methodLink RX6 76 yX5_isFull ∈ gT := tm (List.mem_of_getElem? (i := 492) (by decide +kernel)) (by decide +kernel)
theorem t_699 : Cond.code yX5_beginClause cX5_beginClause 2 none ∈ gT := tm (List.mem_of_getElem? (i := 499) (by decide +kernel)) (by decide +kernel)
theorem t_700 : Cond.methodLink RX6 79 yX5_beginClause ∈ gT := tm (List.mem_of_getElem? (i := 496) (by decide +kernel)) (by decide +kernel)
theorem t_701 : Cond.instanceMethod yX5_beginClause ∈ gT := tm (List.mem_of_getElem? (i := 497) (by decide +kernel)) (by decide +kernel)
theorem t_702 : Cond.selects RX5 yX5_beginClause yX5_beginClause ∈ gT := tm (List.mem_of_getElem? (i := 498) (by decide +kernel)) (by decide +kernel)
theorem t_703 : Cond.code yX5_beginTest cX5_beginTest 1 none ∈ gT := tm (List.mem_of_getElem? (i := 613) (by decide +kernel)) (by decide +kernel)
theorem t_704 : Cond.methodLink RX6 82 yX5_beginTest ∈ gT := tm (List.mem_of_getElem? (i := 610) (by decide +kernel)) (by decide +kernel)
theorem t_705 : Cond.instanceMethod yX5_beginTest ∈ gT := tm (List.mem_of_getElem? (i := 611) (by decide +kernel)) (by decide +kernel)
theorem t_706 : Cond.selects RX5 yX5_beginTest yX5_beginTest ∈ gT := tm (List.mem_of_getElem? (i := 612) (by decide +kernel)) (by decide +kernel)
theorem t_707 : Cond.code yX5_endClause cX5_endClause 1 none ∈ gT := tm (List.mem_of_getElem? (i := 633) (by decide +kernel)) (by decide +kernel)
theorem t_708 : Cond.methodLink RX6 84 yX5_endClause ∈ gT := tm (List.mem_of_getElem? (i := 630) (by decide +kernel)) (by decide +kernel)
theorem t_709 : Cond.instanceMethod yX5_endClause ∈ gT := tm (List.mem_of_getElem? (i := 631) (by decide +kernel)) (by decide +kernel)
theorem t_710 : Cond.selects RX5 yX5_endClause yX5_endClause ∈ gT := tm (List.mem_of_getElem? (i := 632) (by decide +kernel)) (by decide +kernel)
theorem t_711 : Cond.code yX5_clear cX5_clear 1 none ∈ gT := tm (List.mem_of_getElem? (i := 476) (by decide +kernel)) (by decide +kernel)
theorem t_712 : Cond.methodLink RX6 32 yX5_clear ∈ gT := tm (List.mem_of_getElem? (i := 473) (by decide +kernel)) (by decide +kernel)
theorem t_713 : Cond.instanceMethod yX5_clear ∈ gT := tm (List.mem_of_getElem? (i := 474) (by decide +kernel)) (by decide +kernel)
theorem t_714 : Cond.selects RX5 yX5_clear yX5_clear ∈ gT := tm (List.mem_of_getElem? (i := 475) (by decide +kernel)) (by decide +kernel)
theorem t_715 : Cond.methodLink RX6 35 Lib.Math.min.name ∈ gT := tm (List.mem_of_getElem? (i := 477) (by decide +kernel)) (by decide +kernel)
theorem t_716 : Cond.code yX6_beginClause cX6_beginClause 2 (some .boolean) ∈ gT := tm (List.mem_of_getElem? (i := 487) (by decide +kernel)) (by decide +kernel)
theorem t_717 : Cond.methodLink RX6 50 yX6_beginClause ∈ gT := tm (List.mem_of_getElem? (i := 484) (by decide +kernel)) (by decide +kernel)
theorem t_718 : Cond.instanceMethod yX6_beginClause ∈ gT := tm (List.mem_of_getElem? (i := 486) (by decide +kernel)) (by decide +kernel)
theorem t_719 : Cond.selects RX6 yX6_beginClause yX6_beginClause ∈ gT := tmp (List.mem_of_getElem? (i := 7) (by decide +kernel)) (by decide +kernel)
theorem t_720 : Cond.code yX6_beginTest cX6_beginTest 1 (some .boolean) ∈ gT := tm (List.mem_of_getElem? (i := 609) (by decide +kernel)) (by decide +kernel)
theorem t_721 : Cond.methodLink RX6 58 yX6_beginTest ∈ gT := tm (List.mem_of_getElem? (i := 606) (by decide +kernel)) (by decide +kernel)
theorem t_722 : Cond.instanceMethod yX6_beginTest ∈ gT := tm (List.mem_of_getElem? (i := 608) (by decide +kernel)) (by decide +kernel)
theorem t_723 : Cond.selects RX6 yX6_beginTest yX6_beginTest ∈ gT := tmp (List.mem_of_getElem? (i := 13) (by decide +kernel)) (by decide +kernel)
theorem t_724 : Cond.code yX6_endClause cX6_endClause 1 (some .boolean) ∈ gT := tm (List.mem_of_getElem? (i := 629) (by decide +kernel)) (by decide +kernel)
theorem t_725 : Cond.methodLink RX6 66 yX6_endClause ∈ gT := tm (List.mem_of_getElem? (i := 626) (by decide +kernel)) (by decide +kernel)
theorem t_726 : Cond.instanceMethod yX6_endClause ∈ gT := tm (List.mem_of_getElem? (i := 628) (by decide +kernel)) (by decide +kernel)
theorem t_727 : Cond.selects RX6 yX6_endClause yX6_endClause ∈ gT := tmp (List.mem_of_getElem? (i := 16) (by decide +kernel)) (by decide +kernel)
theorem t_728 : Cond.fieldLink RX6 41 "DepositJudge$Tape" "bytes" "[B" ∈ gT := tm (List.mem_of_getElem? (i := 67) (by decide +kernel)) (by decide +kernel)
theorem dX6_beginClause_0 : decode cX6_beginClause 0 = .ok (.iload_n 1, 1) := by decide +kernel
theorem dX6_beginClause_1 : decode cX6_beginClause 1 = .ok (.bipush 102, 2) := by decide +kernel
theorem dX6_beginClause_3 : decode cX6_beginClause 3 = .ok (.if_icmp .eq 33, 3) := by decide +kernel
theorem dX6_beginClause_6 : decode cX6_beginClause 6 = .ok (.iload_n 1, 1) := by decide +kernel
theorem dX6_beginClause_7 : decode cX6_beginClause 7 = .ok (.bipush 112, 2) := by decide +kernel
theorem dX6_beginClause_9 : decode cX6_beginClause 9 = .ok (.if_icmp .eq 27, 3) := by decide +kernel
theorem dX6_beginClause_12 : decode cX6_beginClause 12 = .ok (.iload_n 1, 1) := by decide +kernel
theorem dX6_beginClause_13 : decode cX6_beginClause 13 = .ok (.bipush 100, 2) := by decide +kernel
theorem dX6_beginClause_15 : decode cX6_beginClause 15 = .ok (.if_icmp .eq 21, 3) := by decide +kernel
theorem dX6_beginClause_18 : decode cX6_beginClause 18 = .ok (.iload_n 1, 1) := by decide +kernel
theorem dX6_beginClause_19 : decode cX6_beginClause 19 = .ok (.bipush 116, 2) := by decide +kernel
theorem dX6_beginClause_21 : decode cX6_beginClause 21 = .ok (.if_icmp .eq 15, 3) := by decide +kernel
theorem dX6_beginClause_24 : decode cX6_beginClause 24 = .ok (.iload_n 1, 1) := by decide +kernel
theorem dX6_beginClause_25 : decode cX6_beginClause 25 = .ok (.bipush 98, 2) := by decide +kernel
theorem dX6_beginClause_27 : decode cX6_beginClause 27 = .ok (.if_icmp .eq 9, 3) := by decide +kernel
theorem dX6_beginClause_30 : decode cX6_beginClause 30 = .ok (.aload_n 0, 1) := by decide +kernel
theorem dX6_beginClause_31 : decode cX6_beginClause 31 = .ok (.iconst 1, 1) := by decide +kernel
theorem dX6_beginClause_32 : decode cX6_beginClause 32 = .ok (.invokevirtual 73, 3) := by decide +kernel
theorem dX6_beginClause_35 : decode cX6_beginClause 35 = .ok (.ireturn, 1) := by decide +kernel
theorem dX6_beginClause_36 : decode cX6_beginClause 36 = .ok (.aload_n 0, 1) := by decide +kernel
theorem dX6_beginClause_37 : decode cX6_beginClause 37 = .ok (.getfield 12, 3) := by decide +kernel
theorem dX6_beginClause_40 : decode cX6_beginClause 40 = .ok (.invokevirtual 76, 3) := by decide +kernel
theorem dX6_beginClause_43 : decode cX6_beginClause 43 = .ok (.ifCond .eq 9, 3) := by decide +kernel
theorem dX6_beginClause_46 : decode cX6_beginClause 46 = .ok (.aload_n 0, 1) := by decide +kernel
theorem dX6_beginClause_47 : decode cX6_beginClause 47 = .ok (.iconst 4, 1) := by decide +kernel
theorem dX6_beginClause_48 : decode cX6_beginClause 48 = .ok (.invokevirtual 73, 3) := by decide +kernel
theorem dX6_beginClause_51 : decode cX6_beginClause 51 = .ok (.ireturn, 1) := by decide +kernel
theorem dX6_beginClause_52 : decode cX6_beginClause 52 = .ok (.aload_n 0, 1) := by decide +kernel
theorem dX6_beginClause_53 : decode cX6_beginClause 53 = .ok (.dup, 1) := by decide +kernel
theorem dX6_beginClause_54 : decode cX6_beginClause 54 = .ok (.getfield 26, 3) := by decide +kernel
theorem dX6_beginClause_57 : decode cX6_beginClause 57 = .ok (.iconst 1, 1) := by decide +kernel
theorem dX6_beginClause_58 : decode cX6_beginClause 58 = .ok (.iadd, 1) := by decide +kernel
theorem dX6_beginClause_59 : decode cX6_beginClause 59 = .ok (.putfield 26, 3) := by decide +kernel
theorem dX6_beginClause_62 : decode cX6_beginClause 62 = .ok (.aload_n 0, 1) := by decide +kernel
theorem dX6_beginClause_63 : decode cX6_beginClause 63 = .ok (.getfield 12, 3) := by decide +kernel
theorem dX6_beginClause_66 : decode cX6_beginClause 66 = .ok (.iload_n 1, 1) := by decide +kernel
theorem dX6_beginClause_67 : decode cX6_beginClause 67 = .ok (.invokevirtual 79, 3) := by decide +kernel
theorem dX6_beginClause_70 : decode cX6_beginClause 70 = .ok (.iconst 1, 1) := by decide +kernel
theorem dX6_beginClause_71 : decode cX6_beginClause 71 = .ok (.ireturn, 1) := by decide +kernel
theorem dX6_beginTest_0 : decode cX6_beginTest 0 = .ok (.aload_n 0, 1) := by decide +kernel
theorem dX6_beginTest_1 : decode cX6_beginTest 1 = .ok (.getfield 12, 3) := by decide +kernel
theorem dX6_beginTest_4 : decode cX6_beginTest 4 = .ok (.invokevirtual 82, 3) := by decide +kernel
theorem dX6_beginTest_7 : decode cX6_beginTest 7 = .ok (.aload_n 0, 1) := by decide +kernel
theorem dX6_beginTest_8 : decode cX6_beginTest 8 = .ok (.bipush 40, 2) := by decide +kernel
theorem dX6_beginTest_10 : decode cX6_beginTest 10 = .ok (.invokevirtual 69, 3) := by decide +kernel
theorem dX6_beginTest_13 : decode cX6_beginTest 13 = .ok (.ireturn, 1) := by decide +kernel
theorem dX6_condition_0 : decode cX6_condition 0 = .ok (.iconst (-1), 1) := by decide +kernel
theorem dX6_condition_1 : decode cX6_condition 1 = .ok (.istore_n 3, 1) := by decide +kernel
theorem dX6_condition_2 : decode cX6_condition 2 = .ok (.iconst 0, 1) := by decide +kernel
theorem dX6_condition_3 : decode cX6_condition 3 = .ok (.istore 4, 2) := by decide +kernel
theorem dX6_condition_5 : decode cX6_condition 5 = .ok (.iload 4, 2) := by decide +kernel
theorem dX6_condition_7 : decode cX6_condition 7 = .ok (.sipush 200, 3) := by decide +kernel
theorem dX6_condition_10 : decode cX6_condition 10 = .ok (.if_icmp .ge 77, 3) := by decide +kernel
theorem dX6_condition_13 : decode cX6_condition 13 = .ok (.iload_n 2, 1) := by decide +kernel
theorem dX6_condition_14 : decode cX6_condition 14 = .ok (.bipush 124, 2) := by decide +kernel
theorem dX6_condition_16 : decode cX6_condition 16 = .ok (.if_icmp .ne 13, 3) := by decide +kernel
theorem dX6_condition_19 : decode cX6_condition 19 = .ok (.aload_n 0, 1) := by decide +kernel
theorem dX6_condition_20 : decode cX6_condition 20 = .ok (.iload_n 1, 1) := by decide +kernel
theorem dX6_condition_21 : decode cX6_condition 21 = .ok (.bipush 38, 2) := by decide +kernel
theorem dX6_condition_23 : decode cX6_condition 23 = .ok (.invokevirtual 62, 3) := by decide +kernel
theorem dX6_condition_26 : decode cX6_condition 26 = .ok (.goto 8, 3) := by decide +kernel
theorem dX6_condition_29 : decode cX6_condition 29 = .ok (.aload_n 0, 1) := by decide +kernel
theorem dX6_condition_30 : decode cX6_condition 30 = .ok (.iload_n 1, 1) := by decide +kernel
theorem dX6_condition_31 : decode cX6_condition 31 = .ok (.invokevirtual 86, 3) := by decide +kernel
theorem dX6_condition_34 : decode cX6_condition 34 = .ok (.istore 5, 2) := by decide +kernel
theorem dX6_condition_36 : decode cX6_condition 36 = .ok (.iload 5, 2) := by decide +kernel
theorem dX6_condition_38 : decode cX6_condition 38 = .ok (.ifCond .ne 5, 3) := by decide +kernel
theorem dX6_condition_41 : decode cX6_condition 41 = .ok (.iconst 0, 1) := by decide +kernel
theorem dX6_condition_42 : decode cX6_condition 42 = .ok (.ireturn, 1) := by decide +kernel
theorem dX6_condition_43 : decode cX6_condition 43 = .ok (.aload_n 0, 1) := by decide +kernel
theorem dX6_condition_44 : decode cX6_condition 44 = .ok (.getfield 12, 3) := by decide +kernel
theorem dX6_condition_47 : decode cX6_condition 47 = .ok (.iload_n 3, 1) := by decide +kernel
theorem dX6_condition_48 : decode cX6_condition 48 = .ok (.invokevirtual 89, 3) := by decide +kernel
theorem dX6_condition_51 : decode cX6_condition 51 = .ok (.aload_n 0, 1) := by decide +kernel
theorem dX6_condition_52 : decode cX6_condition 52 = .ok (.invokevirtual 46, 3) := by decide +kernel
theorem dX6_condition_55 : decode cX6_condition 55 = .ok (.iload_n 2, 1) := by decide +kernel
theorem dX6_condition_56 : decode cX6_condition 56 = .ok (.if_icmp .eq 5, 3) := by decide +kernel
theorem dX6_condition_59 : decode cX6_condition 59 = .ok (.iconst 1, 1) := by decide +kernel
theorem dX6_condition_60 : decode cX6_condition 60 = .ok (.ireturn, 1) := by decide +kernel
theorem dX6_condition_61 : decode cX6_condition 61 = .ok (.aload_n 0, 1) := by decide +kernel
theorem dX6_condition_62 : decode cX6_condition 62 = .ok (.dup, 1) := by decide +kernel
theorem dX6_condition_63 : decode cX6_condition 63 = .ok (.getfield 26, 3) := by decide +kernel
theorem dX6_condition_66 : decode cX6_condition 66 = .ok (.iconst 1, 1) := by decide +kernel
theorem dX6_condition_67 : decode cX6_condition 67 = .ok (.iadd, 1) := by decide +kernel
theorem dX6_condition_68 : decode cX6_condition 68 = .ok (.putfield 26, 3) := by decide +kernel
theorem dX6_condition_71 : decode cX6_condition 71 = .ok (.aload_n 0, 1) := by decide +kernel
theorem dX6_condition_72 : decode cX6_condition 72 = .ok (.getfield 12, 3) := by decide +kernel
theorem dX6_condition_75 : decode cX6_condition 75 = .ok (.iload_n 2, 1) := by decide +kernel
theorem dX6_condition_76 : decode cX6_condition 76 = .ok (.iconst 0, 1) := by decide +kernel
theorem dX6_condition_77 : decode cX6_condition 77 = .ok (.invokevirtual 92, 3) := by decide +kernel
theorem dX6_condition_80 : decode cX6_condition 80 = .ok (.istore_n 3, 1) := by decide +kernel
theorem dX6_condition_81 : decode cX6_condition 81 = .ok (.iinc 4 1, 3) := by decide +kernel
theorem dX6_condition_84 : decode cX6_condition 84 = .ok (.goto (-79), 3) := by decide +kernel
theorem dX6_endClause_0 : decode cX6_endClause 0 = .ok (.aload_n 0, 1) := by decide +kernel
theorem dX6_endClause_1 : decode cX6_endClause 1 = .ok (.bipush 41, 2) := by decide +kernel
theorem dX6_endClause_3 : decode cX6_endClause 3 = .ok (.invokevirtual 69, 3) := by decide +kernel
theorem dX6_endClause_6 : decode cX6_endClause 6 = .ok (.ifCond .ne 5, 3) := by decide +kernel
theorem dX6_endClause_9 : decode cX6_endClause 9 = .ok (.iconst 0, 1) := by decide +kernel
theorem dX6_endClause_10 : decode cX6_endClause 10 = .ok (.ireturn, 1) := by decide +kernel
theorem dX6_endClause_11 : decode cX6_endClause 11 = .ok (.aload_n 0, 1) := by decide +kernel
theorem dX6_endClause_12 : decode cX6_endClause 12 = .ok (.getfield 12, 3) := by decide +kernel
theorem dX6_endClause_15 : decode cX6_endClause 15 = .ok (.invokevirtual 84, 3) := by decide +kernel
theorem dX6_endClause_18 : decode cX6_endClause 18 = .ok (.iconst 1, 1) := by decide +kernel
theorem dX6_endClause_19 : decode cX6_endClause 19 = .ok (.ireturn, 1) := by decide +kernel
theorem dX6_piece_0 : decode cX6_piece 0 = .ok (.aload_n 0, 1) := by decide +kernel
theorem dX6_piece_1 : decode cX6_piece 1 = .ok (.invokevirtual 46, 3) := by decide +kernel
theorem dX6_piece_4 : decode cX6_piece 4 = .ok (.istore_n 2, 1) := by decide +kernel
theorem dX6_piece_5 : decode cX6_piece 5 = .ok (.iload_n 2, 1) := by decide +kernel
theorem dX6_piece_6 : decode cX6_piece 6 = .ok (.bipush 33, 2) := by decide +kernel
theorem dX6_piece_8 : decode cX6_piece 8 = .ok (.if_icmp .eq 9, 3) := by decide +kernel
theorem dX6_piece_11 : decode cX6_piece 11 = .ok (.iload_n 2, 1) := by decide +kernel
theorem dX6_piece_12 : decode cX6_piece 12 = .ok (.bipush 40, 2) := by decide +kernel
theorem dX6_piece_14 : decode cX6_piece 14 = .ok (.if_icmp .ne 83, 3) := by decide +kernel
theorem dX6_piece_17 : decode cX6_piece 17 = .ok (.iload_n 1, 1) := by decide +kernel
theorem dX6_piece_18 : decode cX6_piece 18 = .ok (.bipush 6, 2) := by decide +kernel
theorem dX6_piece_20 : decode cX6_piece 20 = .ok (.if_icmp .lt 9, 3) := by decide +kernel
theorem dX6_piece_23 : decode cX6_piece 23 = .ok (.aload_n 0, 1) := by decide +kernel
theorem dX6_piece_24 : decode cX6_piece 24 = .ok (.iconst 5, 1) := by decide +kernel
theorem dX6_piece_25 : decode cX6_piece 25 = .ok (.invokevirtual 73, 3) := by decide +kernel
theorem dX6_piece_28 : decode cX6_piece 28 = .ok (.ireturn, 1) := by decide +kernel
theorem dX6_piece_29 : decode cX6_piece 29 = .ok (.aload_n 0, 1) := by decide +kernel
theorem dX6_piece_30 : decode cX6_piece 30 = .ok (.dup, 1) := by decide +kernel
theorem dX6_piece_31 : decode cX6_piece 31 = .ok (.getfield 26, 3) := by decide +kernel
theorem dX6_piece_34 : decode cX6_piece 34 = .ok (.iconst 1, 1) := by decide +kernel
theorem dX6_piece_35 : decode cX6_piece 35 = .ok (.iadd, 1) := by decide +kernel
theorem dX6_piece_36 : decode cX6_piece 36 = .ok (.putfield 26, 3) := by decide +kernel
theorem dX6_piece_39 : decode cX6_piece 39 = .ok (.iload_n 2, 1) := by decide +kernel
theorem dX6_piece_40 : decode cX6_piece 40 = .ok (.bipush 40, 2) := by decide +kernel
theorem dX6_piece_42 : decode cX6_piece 42 = .ok (.if_icmp .ne 30, 3) := by decide +kernel
theorem dX6_piece_45 : decode cX6_piece 45 = .ok (.aload_n 0, 1) := by decide +kernel
theorem dX6_piece_46 : decode cX6_piece 46 = .ok (.iload_n 1, 1) := by decide +kernel
theorem dX6_piece_47 : decode cX6_piece 47 = .ok (.iconst 1, 1) := by decide +kernel
theorem dX6_piece_48 : decode cX6_piece 48 = .ok (.iadd, 1) := by decide +kernel
theorem dX6_piece_49 : decode cX6_piece 49 = .ok (.bipush 124, 2) := by decide +kernel
theorem dX6_piece_51 : decode cX6_piece 51 = .ok (.invokevirtual 62, 3) := by decide +kernel
theorem dX6_piece_54 : decode cX6_piece 54 = .ok (.ifCond .eq 16, 3) := by decide +kernel
theorem dX6_piece_57 : decode cX6_piece 57 = .ok (.aload_n 0, 1) := by decide +kernel
theorem dX6_piece_58 : decode cX6_piece 58 = .ok (.bipush 41, 2) := by decide +kernel
theorem dX6_piece_60 : decode cX6_piece 60 = .ok (.invokevirtual 69, 3) := by decide +kernel
theorem dX6_piece_63 : decode cX6_piece 63 = .ok (.ifCond .eq 7, 3) := by decide +kernel
theorem dX6_piece_66 : decode cX6_piece 66 = .ok (.iconst 1, 1) := by decide +kernel
theorem dX6_piece_67 : decode cX6_piece 67 = .ok (.goto 4, 3) := by decide +kernel
theorem dX6_piece_70 : decode cX6_piece 70 = .ok (.iconst 0, 1) := by decide +kernel
theorem dX6_piece_71 : decode cX6_piece 71 = .ok (.ireturn, 1) := by decide +kernel
theorem dX6_piece_72 : decode cX6_piece 72 = .ok (.aload_n 0, 1) := by decide +kernel
theorem dX6_piece_73 : decode cX6_piece 73 = .ok (.iload_n 1, 1) := by decide +kernel
theorem dX6_piece_74 : decode cX6_piece 74 = .ok (.iconst 1, 1) := by decide +kernel
theorem dX6_piece_75 : decode cX6_piece 75 = .ok (.iadd, 1) := by decide +kernel
theorem dX6_piece_76 : decode cX6_piece 76 = .ok (.invokevirtual 86, 3) := by decide +kernel
theorem dX6_piece_79 : decode cX6_piece 79 = .ok (.ifCond .ne 5, 3) := by decide +kernel
theorem dX6_piece_82 : decode cX6_piece 82 = .ok (.iconst 0, 1) := by decide +kernel
theorem dX6_piece_83 : decode cX6_piece 83 = .ok (.ireturn, 1) := by decide +kernel
theorem dX6_piece_84 : decode cX6_piece 84 = .ok (.aload_n 0, 1) := by decide +kernel
theorem dX6_piece_85 : decode cX6_piece 85 = .ok (.getfield 12, 3) := by decide +kernel
theorem dX6_piece_88 : decode cX6_piece 88 = .ok (.bipush 33, 2) := by decide +kernel
theorem dX6_piece_90 : decode cX6_piece 90 = .ok (.iconst 0, 1) := by decide +kernel
theorem dX6_piece_91 : decode cX6_piece 91 = .ok (.invokevirtual 92, 3) := by decide +kernel
theorem dX6_piece_94 : decode cX6_piece 94 = .ok (.pop, 1) := by decide +kernel
theorem dX6_piece_95 : decode cX6_piece 95 = .ok (.iconst 1, 1) := by decide +kernel
theorem dX6_piece_96 : decode cX6_piece 96 = .ok (.ireturn, 1) := by decide +kernel
theorem dX6_piece_97 : decode cX6_piece 97 = .ok (.aload_n 0, 1) := by decide +kernel
theorem dX6_piece_98 : decode cX6_piece 98 = .ok (.iload_n 1, 1) := by decide +kernel
theorem dX6_piece_99 : decode cX6_piece 99 = .ok (.iconst 1, 1) := by decide +kernel
theorem dX6_piece_100 : decode cX6_piece 100 = .ok (.invokevirtual 54, 3) := by decide +kernel
theorem dX6_piece_103 : decode cX6_piece 103 = .ok (.ifCond .ne 5, 3) := by decide +kernel
theorem dX6_piece_106 : decode cX6_piece 106 = .ok (.iconst 0, 1) := by decide +kernel
theorem dX6_piece_107 : decode cX6_piece 107 = .ok (.ireturn, 1) := by decide +kernel
theorem dX6_piece_108 : decode cX6_piece 108 = .ok (.aload_n 0, 1) := by decide +kernel
theorem dX6_piece_109 : decode cX6_piece 109 = .ok (.invokevirtual 46, 3) := by decide +kernel
theorem dX6_piece_112 : decode cX6_piece 112 = .ok (.istore_n 3, 1) := by decide +kernel
theorem dX6_piece_113 : decode cX6_piece 113 = .ok (.iload_n 3, 1) := by decide +kernel
theorem dX6_piece_114 : decode cX6_piece 114 = .ok (.bipush 60, 2) := by decide +kernel
theorem dX6_piece_116 : decode cX6_piece 116 = .ok (.if_icmp .eq 21, 3) := by decide +kernel
theorem dX6_piece_119 : decode cX6_piece 119 = .ok (.iload_n 3, 1) := by decide +kernel
theorem dX6_piece_120 : decode cX6_piece 120 = .ok (.bipush 62, 2) := by decide +kernel
theorem dX6_piece_122 : decode cX6_piece 122 = .ok (.if_icmp .eq 15, 3) := by decide +kernel
theorem dX6_piece_125 : decode cX6_piece 125 = .ok (.iload_n 3, 1) := by decide +kernel
theorem dX6_piece_126 : decode cX6_piece 126 = .ok (.bipush 61, 2) := by decide +kernel
theorem dX6_piece_128 : decode cX6_piece 128 = .ok (.if_icmp .eq 9, 3) := by decide +kernel
theorem dX6_piece_131 : decode cX6_piece 131 = .ok (.aload_n 0, 1) := by decide +kernel
theorem dX6_piece_132 : decode cX6_piece 132 = .ok (.iconst 1, 1) := by decide +kernel
theorem dX6_piece_133 : decode cX6_piece 133 = .ok (.invokevirtual 73, 3) := by decide +kernel
theorem dX6_piece_136 : decode cX6_piece 136 = .ok (.ireturn, 1) := by decide +kernel
theorem dX6_piece_137 : decode cX6_piece 137 = .ok (.aload_n 0, 1) := by decide +kernel
theorem dX6_piece_138 : decode cX6_piece 138 = .ok (.dup, 1) := by decide +kernel
theorem dX6_piece_139 : decode cX6_piece 139 = .ok (.getfield 26, 3) := by decide +kernel
theorem dX6_piece_142 : decode cX6_piece 142 = .ok (.iconst 1, 1) := by decide +kernel
theorem dX6_piece_143 : decode cX6_piece 143 = .ok (.iadd, 1) := by decide +kernel
theorem dX6_piece_144 : decode cX6_piece 144 = .ok (.putfield 26, 3) := by decide +kernel
theorem dX6_piece_147 : decode cX6_piece 147 = .ok (.aload_n 0, 1) := by decide +kernel
theorem dX6_piece_148 : decode cX6_piece 148 = .ok (.iload_n 1, 1) := by decide +kernel
theorem dX6_piece_149 : decode cX6_piece 149 = .ok (.iconst 1, 1) := by decide +kernel
theorem dX6_piece_150 : decode cX6_piece 150 = .ok (.invokevirtual 54, 3) := by decide +kernel
theorem dX6_piece_153 : decode cX6_piece 153 = .ok (.ifCond .ne 5, 3) := by decide +kernel
theorem dX6_piece_156 : decode cX6_piece 156 = .ok (.iconst 0, 1) := by decide +kernel
theorem dX6_piece_157 : decode cX6_piece 157 = .ok (.ireturn, 1) := by decide +kernel
theorem dX6_piece_158 : decode cX6_piece 158 = .ok (.aload_n 0, 1) := by decide +kernel
theorem dX6_piece_159 : decode cX6_piece 159 = .ok (.getfield 12, 3) := by decide +kernel
theorem dX6_piece_162 : decode cX6_piece 162 = .ok (.iload_n 3, 1) := by decide +kernel
theorem dX6_piece_163 : decode cX6_piece 163 = .ok (.iconst 0, 1) := by decide +kernel
theorem dX6_piece_164 : decode cX6_piece 164 = .ok (.invokevirtual 92, 3) := by decide +kernel
theorem dX6_piece_167 : decode cX6_piece 167 = .ok (.pop, 1) := by decide +kernel
theorem dX6_piece_168 : decode cX6_piece 168 = .ok (.iconst 1, 1) := by decide +kernel
theorem dX6_piece_169 : decode cX6_piece 169 = .ok (.ireturn, 1) := by decide +kernel
theorem dX6_read_0 : decode cX6_read 0 = .ok (.aload_n 0, 1) := by decide +kernel
theorem dX6_read_1 : decode cX6_read 1 = .ok (.getfield 12, 3) := by decide +kernel
theorem dX6_read_4 : decode cX6_read 4 = .ok (.invokevirtual 32, 3) := by decide +kernel
theorem dX6_read_7 : decode cX6_read 7 = .ok (.aload_n 0, 1) := by decide +kernel
theorem dX6_read_8 : decode cX6_read 8 = .ok (.iload_n 2, 1) := by decide +kernel
theorem dX6_read_9 : decode cX6_read 9 = .ok (.sipush 200, 3) := by decide +kernel
theorem dX6_read_12 : decode cX6_read 12 = .ok (.invokestatic 35, 3) := by decide +kernel
theorem dX6_read_15 : decode cX6_read 15 = .ok (.putfield 22, 3) := by decide +kernel
theorem dX6_read_18 : decode cX6_read 18 = .ok (.iconst 0, 1) := by decide +kernel
theorem dX6_read_19 : decode cX6_read 19 = .ok (.istore_n 3, 1) := by decide +kernel
theorem dX6_read_20 : decode cX6_read 20 = .ok (.iload_n 3, 1) := by decide +kernel
theorem dX6_read_21 : decode cX6_read 21 = .ok (.aload_n 0, 1) := by decide +kernel
theorem dX6_read_22 : decode cX6_read 22 = .ok (.getfield 22, 3) := by decide +kernel
theorem dX6_read_25 : decode cX6_read 25 = .ok (.if_icmp .ge 21, 3) := by decide +kernel
theorem dX6_read_28 : decode cX6_read 28 = .ok (.aload_n 0, 1) := by decide +kernel
theorem dX6_read_29 : decode cX6_read 29 = .ok (.getfield 18, 3) := by decide +kernel
theorem dX6_read_32 : decode cX6_read 32 = .ok (.iload_n 3, 1) := by decide +kernel
theorem dX6_read_33 : decode cX6_read 33 = .ok (.aload_n 1, 1) := by decide +kernel
theorem dX6_read_34 : decode cX6_read 34 = .ok (.getfield 41, 3) := by decide +kernel
theorem dX6_read_37 : decode cX6_read 37 = .ok (.iload_n 3, 1) := by decide +kernel
theorem dX6_read_38 : decode cX6_read 38 = .ok (.baload, 1) := by decide +kernel
theorem dX6_read_39 : decode cX6_read 39 = .ok (.bastore, 1) := by decide +kernel
theorem dX6_read_40 : decode cX6_read 40 = .ok (.iinc 3 1, 3) := by decide +kernel
theorem dX6_read_43 : decode cX6_read 43 = .ok (.goto (-23), 3) := by decide +kernel
theorem dX6_read_46 : decode cX6_read 46 = .ok (.aload_n 0, 1) := by decide +kernel
theorem dX6_read_47 : decode cX6_read 47 = .ok (.iconst 0, 1) := by decide +kernel
theorem dX6_read_48 : decode cX6_read 48 = .ok (.putfield 26, 3) := by decide +kernel
theorem dX6_read_51 : decode cX6_read 51 = .ok (.aload_n 0, 1) := by decide +kernel
theorem dX6_read_52 : decode cX6_read 52 = .ok (.iconst 0, 1) := by decide +kernel
theorem dX6_read_53 : decode cX6_read 53 = .ok (.putfield 29, 3) := by decide +kernel
theorem dX6_read_56 : decode cX6_read 56 = .ok (.iconst 0, 1) := by decide +kernel
theorem dX6_read_57 : decode cX6_read 57 = .ok (.istore_n 3, 1) := by decide +kernel
theorem dX6_read_58 : decode cX6_read 58 = .ok (.iload_n 3, 1) := by decide +kernel
theorem dX6_read_59 : decode cX6_read 59 = .ok (.bipush 14, 2) := by decide +kernel
theorem dX6_read_61 : decode cX6_read 61 = .ok (.if_icmp .gt 89, 3) := by decide +kernel
theorem dX6_read_64 : decode cX6_read 64 = .ok (.aload_n 0, 1) := by decide +kernel
theorem dX6_read_65 : decode cX6_read 65 = .ok (.invokevirtual 46, 3) := by decide +kernel
theorem dX6_read_68 : decode cX6_read 68 = .ok (.istore 4, 2) := by decide +kernel
theorem dX6_read_70 : decode cX6_read 70 = .ok (.aload_n 0, 1) := by decide +kernel
theorem dX6_read_71 : decode cX6_read 71 = .ok (.iload 4, 2) := by decide +kernel
theorem dX6_read_73 : decode cX6_read 73 = .ok (.invokevirtual 50, 3) := by decide +kernel
theorem dX6_read_76 : decode cX6_read 76 = .ok (.ifCond .eq 63, 3) := by decide +kernel
theorem dX6_read_79 : decode cX6_read 79 = .ok (.iload 4, 2) := by decide +kernel
theorem dX6_read_81 : decode cX6_read 81 = .ok (.bipush 98, 2) := by decide +kernel
theorem dX6_read_83 : decode cX6_read 83 = .ok (.if_icmp .eq 12, 3) := by decide +kernel
theorem dX6_read_86 : decode cX6_read 86 = .ok (.aload_n 0, 1) := by decide +kernel
theorem dX6_read_87 : decode cX6_read 87 = .ok (.iconst 0, 1) := by decide +kernel
theorem dX6_read_88 : decode cX6_read 88 = .ok (.iconst 1, 1) := by decide +kernel
theorem dX6_read_89 : decode cX6_read 89 = .ok (.invokevirtual 54, 3) := by decide +kernel
theorem dX6_read_92 : decode cX6_read 92 = .ok (.ifCond .eq 47, 3) := by decide +kernel
theorem dX6_read_95 : decode cX6_read 95 = .ok (.aload_n 0, 1) := by decide +kernel
theorem dX6_read_96 : decode cX6_read 96 = .ok (.invokevirtual 58, 3) := by decide +kernel
theorem dX6_read_99 : decode cX6_read 99 = .ok (.ifCond .eq 40, 3) := by decide +kernel
theorem dX6_read_102 : decode cX6_read 102 = .ok (.aload_n 0, 1) := by decide +kernel
theorem dX6_read_103 : decode cX6_read 103 = .ok (.iconst 1, 1) := by decide +kernel
theorem dX6_read_104 : decode cX6_read 104 = .ok (.bipush 124, 2) := by decide +kernel
theorem dX6_read_106 : decode cX6_read 106 = .ok (.invokevirtual 62, 3) := by decide +kernel
theorem dX6_read_109 : decode cX6_read 109 = .ok (.ifCond .eq 30, 3) := by decide +kernel
theorem dX6_read_112 : decode cX6_read 112 = .ok (.aload_n 0, 1) := by decide +kernel
theorem dX6_read_113 : decode cX6_read 113 = .ok (.invokevirtual 66, 3) := by decide +kernel
theorem dX6_read_116 : decode cX6_read 116 = .ok (.ifCond .eq 23, 3) := by decide +kernel
theorem dX6_read_119 : decode cX6_read 119 = .ok (.aload_n 0, 1) := by decide +kernel
theorem dX6_read_120 : decode cX6_read 120 = .ok (.getfield 26, 3) := by decide +kernel
theorem dX6_read_123 : decode cX6_read 123 = .ok (.aload_n 0, 1) := by decide +kernel
theorem dX6_read_124 : decode cX6_read 124 = .ok (.getfield 22, 3) := by decide +kernel
theorem dX6_read_127 : decode cX6_read 127 = .ok (.if_icmp .eq 12, 3) := by decide +kernel
theorem dX6_read_130 : decode cX6_read 130 = .ok (.aload_n 0, 1) := by decide +kernel
theorem dX6_read_131 : decode cX6_read 131 = .ok (.bipush 59, 2) := by decide +kernel
theorem dX6_read_133 : decode cX6_read 133 = .ok (.invokevirtual 69, 3) := by decide +kernel
theorem dX6_read_136 : decode cX6_read 136 = .ok (.ifCond .ne 8, 3) := by decide +kernel
theorem dX6_read_139 : decode cX6_read 139 = .ok (.aload_n 0, 1) := by decide +kernel
theorem dX6_read_140 : decode cX6_read 140 = .ok (.getfield 29, 3) := by decide +kernel
theorem dX6_read_143 : decode cX6_read 143 = .ok (.ireturn, 1) := by decide +kernel
theorem dX6_read_144 : decode cX6_read 144 = .ok (.iinc 3 1, 3) := by decide +kernel
theorem dX6_read_147 : decode cX6_read 147 = .ok (.goto (-89), 3) := by decide +kernel
theorem dX6_read_150 : decode cX6_read 150 = .ok (.aload_n 0, 1) := by decide +kernel
theorem dX6_read_151 : decode cX6_read 151 = .ok (.getfield 29, 3) := by decide +kernel
theorem dX6_read_154 : decode cX6_read 154 = .ok (.ireturn, 1) := by decide +kernel
