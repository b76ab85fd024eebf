set_option maxRecDepth 100000 in
theorem t_825 : Cond.constantLong RX12 450 (-1) ∈ gT := tm (tb7 (List.mem_of_getElem? (i := 47) (by rfl))) (by decide +kernel)
set_option maxRecDepth 100000 in
theorem t_826 : Cond.code yX12_backOf cX12_backOf 3 (some .int) ∈ gT := tm (tb7 (List.mem_of_getElem? (i := 38) (by rfl))) (by decide +kernel)
set_option maxRecDepth 100000 in
theorem t_827 : Cond.methodLink RX12 455 yX12_backOf ∈ gT := tm (tb7 (List.mem_of_getElem? (i := 35) (by rfl))) (by decide +kernel)
set_option maxRecDepth 100000 in
theorem t_828 : Cond.instanceMethod yX12_backOf ∈ gT := tm (tb7 (List.mem_of_getElem? (i := 37) (by rfl))) (by decide +kernel)
theorem t_829 : Cond.selects RX12 yX12_backOf yX12_backOf ∈ gT := tmp (List.mem_of_getElem? (i := 79) (by decide +kernel)) (by decide +kernel)
set_option maxRecDepth 100000 in
theorem t_830 : Cond.code yX12_penaltyOf cX12_penaltyOf 2 (some .int) ∈ gT := tm (tb7 (List.mem_of_getElem? (i := 42) (by rfl))) (by decide +kernel)
set_option maxRecDepth 100000 in
theorem t_831 : Cond.methodLink RX12 458 yX12_penaltyOf ∈ gT := tm (tb7 (List.mem_of_getElem? (i := 39) (by rfl))) (by decide +kernel)
set_option maxRecDepth 100000 in
theorem t_832 : Cond.instanceMethod yX12_penaltyOf ∈ gT := tm (tb7 (List.mem_of_getElem? (i := 41) (by rfl))) (by decide +kernel)
theorem t_833 : Cond.selects RX12 yX12_penaltyOf yX12_penaltyOf ∈ gT := tmp (List.mem_of_getElem? (i := 80) (by decide +kernel)) (by decide +kernel)
set_option maxRecDepth 100000 in
theorem t_834 : Cond.code yX12_sharesOut cX12_sharesOut 13 none ∈ gT := tm (tb7 (List.mem_of_getElem? (i := 46) (by rfl))) (by decide +kernel)
set_option maxRecDepth 100000 in
theorem t_835 : Cond.methodLink RX12 461 yX12_sharesOut ∈ gT := tm (tb7 (List.mem_of_getElem? (i := 43) (by rfl))) (by decide +kernel)
set_option maxRecDepth 100000 in
theorem t_836 : Cond.instanceMethod yX12_sharesOut ∈ gT := tm (tb7 (List.mem_of_getElem? (i := 45) (by rfl))) (by decide +kernel)
theorem t_837 : Cond.selects RX12 yX12_sharesOut yX12_sharesOut ∈ gT := tmp (List.mem_of_getElem? (i := 81) (by decide +kernel)) (by decide +kernel)
set_option maxRecDepth 100000 in
theorem t_838 : Cond.code yX12_tapeNumber cX12_tapeNumber 4 (some .int) ∈ gT := tm (tb7 (List.mem_of_getElem? (i := 147) (by rfl))) (by decide +kernel)
set_option maxRecDepth 100000 in
theorem t_839 : Cond.methodLink RX12 514 yX12_tapeNumber ∈ gT := tm (tb7 (List.mem_of_getElem? (i := 144) (by rfl))) (by decide +kernel)
set_option maxRecDepth 100000 in
theorem t_840 : Cond.instanceMethod yX12_tapeNumber ∈ gT := tm (tb7 (List.mem_of_getElem? (i := 146) (by rfl))) (by decide +kernel)
theorem t_841 : Cond.selects RX12 yX12_tapeNumber yX12_tapeNumber ∈ gT := tmp (List.mem_of_getElem? (i := 86) (by decide +kernel)) (by decide +kernel)
def dl_484 : List (Nat × (Instr × Nat)) := [(0, (.aload_n 0, 1)), (1, (.iload_n 1, 1)), (2, (.invokevirtual 249, 3)), (5, (.ifCond .eq 29, 3)), (8, (.iload_n 2, 1)), (9, (.invokestatic 420, 3)), (12, (.ifCond .eq 22, 3)), (15, (.iload_n 3, 1)), (16, (.iconst 0, 1)), (17, (.iconst 4, 1)), (18, (.invokestatic 241, 3)), (21, (.ifCond .eq 13, 3)), (24, (.iload_n 3, 1)), (25, (.aload_n 0, 1)), (26, (.getfield 255, 3)), (29, (.iconst 4, 1)), (30, (.idiv, 1)), (31, (.if_icmp .le 6, 3)), (34, (.bipush (-2), 2)), (36, (.ireturn, 1))]
theorem dh_484 : dchk cX12_check dl_484 = true := by decide +kernel
theorem dX12_check_0 : decode cX12_check 0 = .ok (.aload_n 0, 1) := dget dh_484 (k := 0) rfl
theorem dX12_check_1 : decode cX12_check 1 = .ok (.iload_n 1, 1) := dget dh_484 (k := 1) rfl
theorem dX12_check_2 : decode cX12_check 2 = .ok (.invokevirtual 249, 3) := dget dh_484 (k := 2) rfl
theorem dX12_check_5 : decode cX12_check 5 = .ok (.ifCond .eq 29, 3) := dget dh_484 (k := 3) rfl
theorem dX12_check_8 : decode cX12_check 8 = .ok (.iload_n 2, 1) := dget dh_484 (k := 4) rfl
theorem dX12_check_9 : decode cX12_check 9 = .ok (.invokestatic 420, 3) := dget dh_484 (k := 5) rfl
theorem dX12_check_12 : decode cX12_check 12 = .ok (.ifCond .eq 22, 3) := dget dh_484 (k := 6) rfl
theorem dX12_check_15 : decode cX12_check 15 = .ok (.iload_n 3, 1) := dget dh_484 (k := 7) rfl
theorem dX12_check_16 : decode cX12_check 16 = .ok (.iconst 0, 1) := dget dh_484 (k := 8) rfl
theorem dX12_check_17 : decode cX12_check 17 = .ok (.iconst 4, 1) := dget dh_484 (k := 9) rfl
theorem dX12_check_18 : decode cX12_check 18 = .ok (.invokestatic 241, 3) := dget dh_484 (k := 10) rfl
theorem dX12_check_21 : decode cX12_check 21 = .ok (.ifCond .eq 13, 3) := dget dh_484 (k := 11) rfl
theorem dX12_check_24 : decode cX12_check 24 = .ok (.iload_n 3, 1) := dget dh_484 (k := 12) rfl
theorem dX12_check_25 : decode cX12_check 25 = .ok (.aload_n 0, 1) := dget dh_484 (k := 13) rfl
theorem dX12_check_26 : decode cX12_check 26 = .ok (.getfield 255, 3) := dget dh_484 (k := 14) rfl
theorem dX12_check_29 : decode cX12_check 29 = .ok (.iconst 4, 1) := dget dh_484 (k := 15) rfl
theorem dX12_check_30 : decode cX12_check 30 = .ok (.idiv, 1) := dget dh_484 (k := 16) rfl
theorem dX12_check_31 : decode cX12_check 31 = .ok (.if_icmp .le 6, 3) := dget dh_484 (k := 17) rfl
theorem dX12_check_34 : decode cX12_check 34 = .ok (.bipush (-2), 2) := dget dh_484 (k := 18) rfl
theorem dX12_check_36 : decode cX12_check 36 = .ok (.ireturn, 1) := dget dh_484 (k := 19) rfl
def dl_485 : List (Nat × (Instr × Nat)) := [(37, (.aload_n 0, 1)), (38, (.iconst 0, 1)), (39, (.putfield 255, 3)), (42, (.aload_n 0, 1)), (43, (.iload_n 1, 1)), (44, (.aload_n 0, 1)), (45, (.iload_n 1, 1)), (46, (.iload_n 2, 1)), (47, (.invokevirtual 455, 3)), (50, (.i2l, 1)), (51, (.aload_n 0, 1)), (52, (.iload_n 1, 1)), (53, (.invokevirtual 458, 3)), (56, (.i2l, 1)), (57, (.ladd, 1)), (58, (.invokevirtual 461, 3)), (61, (.iconst 0, 1)), (62, (.istore 4, 2)), (64, (.iload 4, 2)), (66, (.aload_n 0, 1))]
theorem dh_485 : dchk cX12_check dl_485 = true := by decide +kernel
theorem dX12_check_37 : decode cX12_check 37 = .ok (.aload_n 0, 1) := dget dh_485 (k := 0) rfl
theorem dX12_check_38 : decode cX12_check 38 = .ok (.iconst 0, 1) := dget dh_485 (k := 1) rfl
theorem dX12_check_39 : decode cX12_check 39 = .ok (.putfield 255, 3) := dget dh_485 (k := 2) rfl
theorem dX12_check_42 : decode cX12_check 42 = .ok (.aload_n 0, 1) := dget dh_485 (k := 3) rfl
theorem dX12_check_43 : decode cX12_check 43 = .ok (.iload_n 1, 1) := dget dh_485 (k := 4) rfl
theorem dX12_check_44 : decode cX12_check 44 = .ok (.aload_n 0, 1) := dget dh_485 (k := 5) rfl
theorem dX12_check_45 : decode cX12_check 45 = .ok (.iload_n 1, 1) := dget dh_485 (k := 6) rfl
theorem dX12_check_46 : decode cX12_check 46 = .ok (.iload_n 2, 1) := dget dh_485 (k := 7) rfl
theorem dX12_check_47 : decode cX12_check 47 = .ok (.invokevirtual 455, 3) := dget dh_485 (k := 8) rfl
theorem dX12_check_50 : decode cX12_check 50 = .ok (.i2l, 1) := dget dh_485 (k := 9) rfl
theorem dX12_check_51 : decode cX12_check 51 = .ok (.aload_n 0, 1) := dget dh_485 (k := 10) rfl
theorem dX12_check_52 : decode cX12_check 52 = .ok (.iload_n 1, 1) := dget dh_485 (k := 11) rfl
theorem dX12_check_53 : decode cX12_check 53 = .ok (.invokevirtual 458, 3) := dget dh_485 (k := 12) rfl
theorem dX12_check_56 : decode cX12_check 56 = .ok (.i2l, 1) := dget dh_485 (k := 13) rfl
theorem dX12_check_57 : decode cX12_check 57 = .ok (.ladd, 1) := dget dh_485 (k := 14) rfl
theorem dX12_check_58 : decode cX12_check 58 = .ok (.invokevirtual 461, 3) := dget dh_485 (k := 15) rfl
theorem dX12_check_61 : decode cX12_check 61 = .ok (.iconst 0, 1) := dget dh_485 (k := 16) rfl
theorem dX12_check_62 : decode cX12_check 62 = .ok (.istore 4, 2) := dget dh_485 (k := 17) rfl
theorem dX12_check_64 : decode cX12_check 64 = .ok (.iload 4, 2) := dget dh_485 (k := 18) rfl
theorem dX12_check_66 : decode cX12_check 66 = .ok (.aload_n 0, 1) := dget dh_485 (k := 19) rfl
def dl_486 : List (Nat × (Instr × Nat)) := [(67, (.getfield 19, 3)), (70, (.iload_n 1, 1)), (71, (.iaload, 1)), (72, (.if_icmp .ge 34, 3)), (75, (.iload 4, 2)), (77, (.iload_n 3, 1)), (78, (.if_icmp .eq 19, 3)), (81, (.aload_n 0, 1)), (82, (.iload 4, 2)), (84, (.invokevirtual 514, 3)), (87, (.aload_n 0, 1)), (88, (.getfield 157, 3)), (91, (.iload 4, 2)), (93, (.iaload, 1)), (94, (.if_icmp .eq 6, 3)), (97, (.iload 4, 2)), (99, (.ireturn, 1)), (100, (.iinc 4 1, 3)), (103, (.goto (-39), 3)), (106, (.aload_n 0, 1))]
theorem dh_486 : dchk cX12_check dl_486 = true := by decide +kernel
theorem dX12_check_67 : decode cX12_check 67 = .ok (.getfield 19, 3) := dget dh_486 (k := 0) rfl
theorem dX12_check_70 : decode cX12_check 70 = .ok (.iload_n 1, 1) := dget dh_486 (k := 1) rfl
theorem dX12_check_71 : decode cX12_check 71 = .ok (.iaload, 1) := dget dh_486 (k := 2) rfl
theorem dX12_check_72 : decode cX12_check 72 = .ok (.if_icmp .ge 34, 3) := dget dh_486 (k := 3) rfl
theorem dX12_check_75 : decode cX12_check 75 = .ok (.iload 4, 2) := dget dh_486 (k := 4) rfl
theorem dX12_check_77 : decode cX12_check 77 = .ok (.iload_n 3, 1) := dget dh_486 (k := 5) rfl
theorem dX12_check_78 : decode cX12_check 78 = .ok (.if_icmp .eq 19, 3) := dget dh_486 (k := 6) rfl
theorem dX12_check_81 : decode cX12_check 81 = .ok (.aload_n 0, 1) := dget dh_486 (k := 7) rfl
theorem dX12_check_82 : decode cX12_check 82 = .ok (.iload 4, 2) := dget dh_486 (k := 8) rfl
theorem dX12_check_84 : decode cX12_check 84 = .ok (.invokevirtual 514, 3) := dget dh_486 (k := 9) rfl
theorem dX12_check_87 : decode cX12_check 87 = .ok (.aload_n 0, 1) := dget dh_486 (k := 10) rfl
theorem dX12_check_88 : decode cX12_check 88 = .ok (.getfield 157, 3) := dget dh_486 (k := 11) rfl
theorem dX12_check_91 : decode cX12_check 91 = .ok (.iload 4, 2) := dget dh_486 (k := 12) rfl
theorem dX12_check_93 : decode cX12_check 93 = .ok (.iaload, 1) := dget dh_486 (k := 13) rfl
theorem dX12_check_94 : decode cX12_check 94 = .ok (.if_icmp .eq 6, 3) := dget dh_486 (k := 14) rfl
theorem dX12_check_97 : decode cX12_check 97 = .ok (.iload 4, 2) := dget dh_486 (k := 15) rfl
theorem dX12_check_99 : decode cX12_check 99 = .ok (.ireturn, 1) := dget dh_486 (k := 16) rfl
theorem dX12_check_100 : decode cX12_check 100 = .ok (.iinc 4 1, 3) := dget dh_486 (k := 17) rfl
theorem dX12_check_103 : decode cX12_check 103 = .ok (.goto (-39), 3) := dget dh_486 (k := 18) rfl
theorem dX12_check_106 : decode cX12_check 106 = .ok (.aload_n 0, 1) := dget dh_486 (k := 19) rfl
def dl_487 : List (Nat × (Instr × Nat)) := [(107, (.getfield 19, 3)), (110, (.iload_n 1, 1)), (111, (.iaload, 1)), (112, (.iload_n 3, 1)), (113, (.if_icmp .ge 12, 3)), (116, (.aload_n 0, 1)), (117, (.getfield 19, 3)), (120, (.iload_n 1, 1)), (121, (.iaload, 1)), (122, (.goto 4, 3)), (125, (.iconst (-1), 1)), (126, (.ireturn, 1))]
theorem dh_487 : dchk cX12_check dl_487 = true := by decide +kernel
theorem dX12_check_107 : decode cX12_check 107 = .ok (.getfield 19, 3) := dget dh_487 (k := 0) rfl
theorem dX12_check_110 : decode cX12_check 110 = .ok (.iload_n 1, 1) := dget dh_487 (k := 1) rfl
theorem dX12_check_111 : decode cX12_check 111 = .ok (.iaload, 1) := dget dh_487 (k := 2) rfl
theorem dX12_check_112 : decode cX12_check 112 = .ok (.iload_n 3, 1) := dget dh_487 (k := 3) rfl
theorem dX12_check_113 : decode cX12_check 113 = .ok (.if_icmp .ge 12, 3) := dget dh_487 (k := 4) rfl
theorem dX12_check_116 : decode cX12_check 116 = .ok (.aload_n 0, 1) := dget dh_487 (k := 5) rfl
theorem dX12_check_117 : decode cX12_check 117 = .ok (.getfield 19, 3) := dget dh_487 (k := 6) rfl
theorem dX12_check_120 : decode cX12_check 120 = .ok (.iload_n 1, 1) := dget dh_487 (k := 7) rfl
theorem dX12_check_121 : decode cX12_check 121 = .ok (.iaload, 1) := dget dh_487 (k := 8) rfl
theorem dX12_check_122 : decode cX12_check 122 = .ok (.goto 4, 3) := dget dh_487 (k := 9) rfl
theorem dX12_check_125 : decode cX12_check 125 = .ok (.iconst (-1), 1) := dget dh_487 (k := 10) rfl
theorem dX12_check_126 : decode cX12_check 126 = .ok (.ireturn, 1) := dget dh_487 (k := 11) rfl
def dl_488 : List (Nat × (Instr × Nat)) := [(0, (.aload_n 0, 1)), (1, (.iload_n 1, 1)), (2, (.invokevirtual 249, 3)), (5, (.ifCond .eq 37, 3)), (8, (.iload_n 2, 1)), (9, (.invokestatic 420, 3)), (12, (.ifCond .eq 30, 3)), (15, (.iload_n 3, 1)), (16, (.iconst 0, 1)), (17, (.iconst 3, 1)), (18, (.invokestatic 241, 3)), (21, (.ifCond .ne 23, 3)), (24, (.iload_n 3, 1)), (25, (.bipush 10, 2)), (27, (.bipush 9, 2)), (29, (.aload_n 0, 1)), (30, (.getfield 19, 3)), (33, (.iload_n 1, 1)), (34, (.iaload, 1)), (35, (.iadd, 1))]
theorem dh_488 : dchk cX12_judged dl_488 = true := by decide +kernel
theorem dX12_judged_0 : decode cX12_judged 0 = .ok (.aload_n 0, 1) := dget dh_488 (k := 0) rfl
theorem dX12_judged_1 : decode cX12_judged 1 = .ok (.iload_n 1, 1) := dget dh_488 (k := 1) rfl
theorem dX12_judged_2 : decode cX12_judged 2 = .ok (.invokevirtual 249, 3) := dget dh_488 (k := 2) rfl
theorem dX12_judged_5 : decode cX12_judged 5 = .ok (.ifCond .eq 37, 3) := dget dh_488 (k := 3) rfl
theorem dX12_judged_8 : decode cX12_judged 8 = .ok (.iload_n 2, 1) := dget dh_488 (k := 4) rfl
theorem dX12_judged_9 : decode cX12_judged 9 = .ok (.invokestatic 420, 3) := dget dh_488 (k := 5) rfl
theorem dX12_judged_12 : decode cX12_judged 12 = .ok (.ifCond .eq 30, 3) := dget dh_488 (k := 6) rfl
theorem dX12_judged_15 : decode cX12_judged 15 = .ok (.iload_n 3, 1) := dget dh_488 (k := 7) rfl
theorem dX12_judged_16 : decode cX12_judged 16 = .ok (.iconst 0, 1) := dget dh_488 (k := 8) rfl
theorem dX12_judged_17 : decode cX12_judged 17 = .ok (.iconst 3, 1) := dget dh_488 (k := 9) rfl
theorem dX12_judged_18 : decode cX12_judged 18 = .ok (.invokestatic 241, 3) := dget dh_488 (k := 10) rfl
theorem dX12_judged_21 : decode cX12_judged 21 = .ok (.ifCond .ne 23, 3) := dget dh_488 (k := 11) rfl
theorem dX12_judged_24 : decode cX12_judged 24 = .ok (.iload_n 3, 1) := dget dh_488 (k := 12) rfl
theorem dX12_judged_25 : decode cX12_judged 25 = .ok (.bipush 10, 2) := dget dh_488 (k := 13) rfl
theorem dX12_judged_27 : decode cX12_judged 27 = .ok (.bipush 9, 2) := dget dh_488 (k := 14) rfl
theorem dX12_judged_29 : decode cX12_judged 29 = .ok (.aload_n 0, 1) := dget dh_488 (k := 15) rfl
theorem dX12_judged_30 : decode cX12_judged 30 = .ok (.getfield 19, 3) := dget dh_488 (k := 16) rfl
theorem dX12_judged_33 : decode cX12_judged 33 = .ok (.iload_n 1, 1) := dget dh_488 (k := 17) rfl
theorem dX12_judged_34 : decode cX12_judged 34 = .ok (.iaload, 1) := dget dh_488 (k := 18) rfl
theorem dX12_judged_35 : decode cX12_judged 35 = .ok (.iadd, 1) := dget dh_488 (k := 19) rfl
def dl_489 : List (Nat × (Instr × Nat)) := [(36, (.invokestatic 241, 3)), (39, (.ifCond .ne 5, 3)), (42, (.iconst (-1), 1)), (43, (.ireturn, 1)), (44, (.iload_n 3, 1)), (45, (.tableswitch 58 0 3 #[31, 38, 45, 51], 31)), (76, (.aload_n 0, 1)), (77, (.iload_n 1, 1)), (78, (.iload_n 2, 1)), (79, (.invokevirtual 452, 3)), (82, (.ireturn, 1)), (83, (.aload_n 0, 1)), (84, (.iload_n 1, 1)), (85, (.iload_n 2, 1)), (86, (.invokevirtual 455, 3)), (89, (.ireturn, 1)), (90, (.aload_n 0, 1)), (91, (.iload_n 1, 1)), (92, (.invokevirtual 458, 3)), (95, (.ireturn, 1))]
theorem dh_489 : dchk cX12_judged dl_489 = true := by decide +kernel
theorem dX12_judged_36 : decode cX12_judged 36 = .ok (.invokestatic 241, 3) := dget dh_489 (k := 0) rfl
theorem dX12_judged_39 : decode cX12_judged 39 = .ok (.ifCond .ne 5, 3) := dget dh_489 (k := 1) rfl
theorem dX12_judged_42 : decode cX12_judged 42 = .ok (.iconst (-1), 1) := dget dh_489 (k := 2) rfl
theorem dX12_judged_43 : decode cX12_judged 43 = .ok (.ireturn, 1) := dget dh_489 (k := 3) rfl
theorem dX12_judged_44 : decode cX12_judged 44 = .ok (.iload_n 3, 1) := dget dh_489 (k := 4) rfl
theorem dX12_judged_45 : decode cX12_judged 45 = .ok (.tableswitch 58 0 3 #[31, 38, 45, 51], 31) := dget dh_489 (k := 5) rfl
theorem dX12_judged_76 : decode cX12_judged 76 = .ok (.aload_n 0, 1) := dget dh_489 (k := 6) rfl
theorem dX12_judged_77 : decode cX12_judged 77 = .ok (.iload_n 1, 1) := dget dh_489 (k := 7) rfl
theorem dX12_judged_78 : decode cX12_judged 78 = .ok (.iload_n 2, 1) := dget dh_489 (k := 8) rfl
theorem dX12_judged_79 : decode cX12_judged 79 = .ok (.invokevirtual 452, 3) := dget dh_489 (k := 9) rfl
theorem dX12_judged_82 : decode cX12_judged 82 = .ok (.ireturn, 1) := dget dh_489 (k := 10) rfl
theorem dX12_judged_83 : decode cX12_judged 83 = .ok (.aload_n 0, 1) := dget dh_489 (k := 11) rfl
theorem dX12_judged_84 : decode cX12_judged 84 = .ok (.iload_n 1, 1) := dget dh_489 (k := 12) rfl
theorem dX12_judged_85 : decode cX12_judged 85 = .ok (.iload_n 2, 1) := dget dh_489 (k := 13) rfl
theorem dX12_judged_86 : decode cX12_judged 86 = .ok (.invokevirtual 455, 3) := dget dh_489 (k := 14) rfl
theorem dX12_judged_89 : decode cX12_judged 89 = .ok (.ireturn, 1) := dget dh_489 (k := 15) rfl
theorem dX12_judged_90 : decode cX12_judged 90 = .ok (.aload_n 0, 1) := dget dh_489 (k := 16) rfl
theorem dX12_judged_91 : decode cX12_judged 91 = .ok (.iload_n 1, 1) := dget dh_489 (k := 17) rfl
theorem dX12_judged_92 : decode cX12_judged 92 = .ok (.invokevirtual 458, 3) := dget dh_489 (k := 18) rfl
theorem dX12_judged_95 : decode cX12_judged 95 = .ok (.ireturn, 1) := dget dh_489 (k := 19) rfl
def dl_490 : List (Nat × (Instr × Nat)) := [(96, (.aload_n 0, 1)), (97, (.iload_n 1, 1)), (98, (.iload_n 2, 1)), (99, (.invokevirtual 447, 3)), (102, (.ireturn, 1)), (103, (.aload_n 0, 1)), (104, (.iload_n 1, 1)), (105, (.aload_n 0, 1)), (106, (.iload_n 1, 1)), (107, (.iload_n 2, 1)), (108, (.invokevirtual 455, 3)), (111, (.i2l, 1)), (112, (.aload_n 0, 1)), (113, (.iload_n 1, 1)), (114, (.invokevirtual 458, 3)), (117, (.i2l, 1)), (118, (.ladd, 1)), (119, (.invokevirtual 461, 3)), (122, (.aload_n 0, 1)), (123, (.getfield 157, 3))]
theorem dh_490 : dchk cX12_judged dl_490 = true := by decide +kernel
theorem dX12_judged_96 : decode cX12_judged 96 = .ok (.aload_n 0, 1) := dget dh_490 (k := 0) rfl
theorem dX12_judged_97 : decode cX12_judged 97 = .ok (.iload_n 1, 1) := dget dh_490 (k := 1) rfl
theorem dX12_judged_98 : decode cX12_judged 98 = .ok (.iload_n 2, 1) := dget dh_490 (k := 2) rfl
theorem dX12_judged_99 : decode cX12_judged 99 = .ok (.invokevirtual 447, 3) := dget dh_490 (k := 3) rfl
theorem dX12_judged_102 : decode cX12_judged 102 = .ok (.ireturn, 1) := dget dh_490 (k := 4) rfl
theorem dX12_judged_103 : decode cX12_judged 103 = .ok (.aload_n 0, 1) := dget dh_490 (k := 5) rfl
theorem dX12_judged_104 : decode cX12_judged 104 = .ok (.iload_n 1, 1) := dget dh_490 (k := 6) rfl
theorem dX12_judged_105 : decode cX12_judged 105 = .ok (.aload_n 0, 1) := dget dh_490 (k := 7) rfl
theorem dX12_judged_106 : decode cX12_judged 106 = .ok (.iload_n 1, 1) := dget dh_490 (k := 8) rfl
theorem dX12_judged_107 : decode cX12_judged 107 = .ok (.iload_n 2, 1) := dget dh_490 (k := 9) rfl
theorem dX12_judged_108 : decode cX12_judged 108 = .ok (.invokevirtual 455, 3) := dget dh_490 (k := 10) rfl
theorem dX12_judged_111 : decode cX12_judged 111 = .ok (.i2l, 1) := dget dh_490 (k := 11) rfl
theorem dX12_judged_112 : decode cX12_judged 112 = .ok (.aload_n 0, 1) := dget dh_490 (k := 12) rfl
theorem dX12_judged_113 : decode cX12_judged 113 = .ok (.iload_n 1, 1) := dget dh_490 (k := 13) rfl
theorem dX12_judged_114 : decode cX12_judged 114 = .ok (.invokevirtual 458, 3) := dget dh_490 (k := 14) rfl
theorem dX12_judged_117 : decode cX12_judged 117 = .ok (.i2l, 1) := dget dh_490 (k := 15) rfl
theorem dX12_judged_118 : decode cX12_judged 118 = .ok (.ladd, 1) := dget dh_490 (k := 16) rfl
theorem dX12_judged_119 : decode cX12_judged 119 = .ok (.invokevirtual 461, 3) := dget dh_490 (k := 17) rfl
theorem dX12_judged_122 : decode cX12_judged 122 = .ok (.aload_n 0, 1) := dget dh_490 (k := 18) rfl
theorem dX12_judged_123 : decode cX12_judged 123 = .ok (.getfield 157, 3) := dget dh_490 (k := 19) rfl
def dl_491 : List (Nat × (Instr × Nat)) := [(126, (.iload_n 3, 1)), (127, (.bipush 10, 2)), (129, (.isub, 1)), (130, (.iaload, 1)), (131, (.ireturn, 1))]
theorem dh_491 : dchk cX12_judged dl_491 = true := by decide +kernel
theorem dX12_judged_126 : decode cX12_judged 126 = .ok (.iload_n 3, 1) := dget dh_491 (k := 0) rfl
theorem dX12_judged_127 : decode cX12_judged 127 = .ok (.bipush 10, 2) := dget dh_491 (k := 1) rfl
theorem dX12_judged_129 : decode cX12_judged 129 = .ok (.isub, 1) := dget dh_491 (k := 2) rfl
theorem dX12_judged_130 : decode cX12_judged 130 = .ok (.iaload, 1) := dget dh_491 (k := 3) rfl
theorem dX12_judged_131 : decode cX12_judged 131 = .ok (.ireturn, 1) := dget dh_491 (k := 4) rfl
def dl_492 : List (Nat × (Instr × Nat)) := [(0, (.lconst 0, 1)), (1, (.lstore 4, 2)), (3, (.iconst 0, 1)), (4, (.istore 6, 2)), (6, (.iload 6, 2)), (8, (.aload_n 0, 1)), (9, (.getfield 19, 3)), (12, (.iload_n 1, 1)), (13, (.iaload, 1)), (14, (.if_icmp .ge 26, 3)), (17, (.lload 4, 2)), (19, (.aload_n 0, 1)), (20, (.getfield 31, 3)), (23, (.iconst 4, 1)), (24, (.iload_n 1, 1)), (25, (.imul, 1)), (26, (.iload 6, 2)), (28, (.iadd, 1)), (29, (.iaload, 1)), (30, (.i2l, 1))]
theorem dh_492 : dchk cX12_sharesOut dl_492 = true := by decide +kernel
theorem dX12_sharesOut_0 : decode cX12_sharesOut 0 = .ok (.lconst 0, 1) := dget dh_492 (k := 0) rfl
theorem dX12_sharesOut_1 : decode cX12_sharesOut 1 = .ok (.lstore 4, 2) := dget dh_492 (k := 1) rfl
theorem dX12_sharesOut_3 : decode cX12_sharesOut 3 = .ok (.iconst 0, 1) := dget dh_492 (k := 2) rfl
theorem dX12_sharesOut_4 : decode cX12_sharesOut 4 = .ok (.istore 6, 2) := dget dh_492 (k := 3) rfl
theorem dX12_sharesOut_6 : decode cX12_sharesOut 6 = .ok (.iload 6, 2) := dget dh_492 (k := 4) rfl
theorem dX12_sharesOut_8 : decode cX12_sharesOut 8 = .ok (.aload_n 0, 1) := dget dh_492 (k := 5) rfl
theorem dX12_sharesOut_9 : decode cX12_sharesOut 9 = .ok (.getfield 19, 3) := dget dh_492 (k := 6) rfl
theorem dX12_sharesOut_12 : decode cX12_sharesOut 12 = .ok (.iload_n 1, 1) := dget dh_492 (k := 7) rfl
theorem dX12_sharesOut_13 : decode cX12_sharesOut 13 = .ok (.iaload, 1) := dget dh_492 (k := 8) rfl
theorem dX12_sharesOut_14 : decode cX12_sharesOut 14 = .ok (.if_icmp .ge 26, 3) := dget dh_492 (k := 9) rfl
theorem dX12_sharesOut_17 : decode cX12_sharesOut 17 = .ok (.lload 4, 2) := dget dh_492 (k := 10) rfl
theorem dX12_sharesOut_19 : decode cX12_sharesOut 19 = .ok (.aload_n 0, 1) := dget dh_492 (k := 11) rfl
theorem dX12_sharesOut_20 : decode cX12_sharesOut 20 = .ok (.getfield 31, 3) := dget dh_492 (k := 12) rfl
theorem dX12_sharesOut_23 : decode cX12_sharesOut 23 = .ok (.iconst 4, 1) := dget dh_492 (k := 13) rfl
theorem dX12_sharesOut_24 : decode cX12_sharesOut 24 = .ok (.iload_n 1, 1) := dget dh_492 (k := 14) rfl
theorem dX12_sharesOut_25 : decode cX12_sharesOut 25 = .ok (.imul, 1) := dget dh_492 (k := 15) rfl
theorem dX12_sharesOut_26 : decode cX12_sharesOut 26 = .ok (.iload 6, 2) := dget dh_492 (k := 16) rfl
theorem dX12_sharesOut_28 : decode cX12_sharesOut 28 = .ok (.iadd, 1) := dget dh_492 (k := 17) rfl
theorem dX12_sharesOut_29 : decode cX12_sharesOut 29 = .ok (.iaload, 1) := dget dh_492 (k := 18) rfl
theorem dX12_sharesOut_30 : decode cX12_sharesOut 30 = .ok (.i2l, 1) := dget dh_492 (k := 19) rfl
def dl_493 : List (Nat × (Instr × Nat)) := [(31, (.ladd, 1)), (32, (.lstore 4, 2)), (34, (.iinc 6 1, 3)), (37, (.goto (-31), 3)), (40, (.lload_n 2, 1)), (41, (.lstore 6, 2)), (43, (.iconst 0, 1)), (44, (.istore 8, 2)), (46, (.iload 8, 2)), (48, (.aload_n 0, 1)), (49, (.getfield 19, 3)), (52, (.iload_n 1, 1)), (53, (.iaload, 1)), (54, (.if_icmp .ge 97, 3)), (57, (.lload 4, 2)), (59, (.lconst 0, 1)), (60, (.lcmp, 1)), (61, (.ifCond .ne 7, 3)), (64, (.lconst 1, 1)), (65, (.goto 15, 3))]
theorem dh_493 : dchk cX12_sharesOut dl_493 = true := by decide +kernel
theorem dX12_sharesOut_31 : decode cX12_sharesOut 31 = .ok (.ladd, 1) := dget dh_493 (k := 0) rfl
theorem dX12_sharesOut_32 : decode cX12_sharesOut 32 = .ok (.lstore 4, 2) := dget dh_493 (k := 1) rfl
theorem dX12_sharesOut_34 : decode cX12_sharesOut 34 = .ok (.iinc 6 1, 3) := dget dh_493 (k := 2) rfl
theorem dX12_sharesOut_37 : decode cX12_sharesOut 37 = .ok (.goto (-31), 3) := dget dh_493 (k := 3) rfl
theorem dX12_sharesOut_40 : decode cX12_sharesOut 40 = .ok (.lload_n 2, 1) := dget dh_493 (k := 4) rfl
theorem dX12_sharesOut_41 : decode cX12_sharesOut 41 = .ok (.lstore 6, 2) := dget dh_493 (k := 5) rfl
theorem dX12_sharesOut_43 : decode cX12_sharesOut 43 = .ok (.iconst 0, 1) := dget dh_493 (k := 6) rfl
theorem dX12_sharesOut_44 : decode cX12_sharesOut 44 = .ok (.istore 8, 2) := dget dh_493 (k := 7) rfl
theorem dX12_sharesOut_46 : decode cX12_sharesOut 46 = .ok (.iload 8, 2) := dget dh_493 (k := 8) rfl
theorem dX12_sharesOut_48 : decode cX12_sharesOut 48 = .ok (.aload_n 0, 1) := dget dh_493 (k := 9) rfl
theorem dX12_sharesOut_49 : decode cX12_sharesOut 49 = .ok (.getfield 19, 3) := dget dh_493 (k := 10) rfl
theorem dX12_sharesOut_52 : decode cX12_sharesOut 52 = .ok (.iload_n 1, 1) := dget dh_493 (k := 11) rfl
theorem dX12_sharesOut_53 : decode cX12_sharesOut 53 = .ok (.iaload, 1) := dget dh_493 (k := 12) rfl
theorem dX12_sharesOut_54 : decode cX12_sharesOut 54 = .ok (.if_icmp .ge 97, 3) := dget dh_493 (k := 13) rfl
theorem dX12_sharesOut_57 : decode cX12_sharesOut 57 = .ok (.lload 4, 2) := dget dh_493 (k := 14) rfl
theorem dX12_sharesOut_59 : decode cX12_sharesOut 59 = .ok (.lconst 0, 1) := dget dh_493 (k := 15) rfl
theorem dX12_sharesOut_60 : decode cX12_sharesOut 60 = .ok (.lcmp, 1) := dget dh_493 (k := 16) rfl
theorem dX12_sharesOut_61 : decode cX12_sharesOut 61 = .ok (.ifCond .ne 7, 3) := dget dh_493 (k := 17) rfl
theorem dX12_sharesOut_64 : decode cX12_sharesOut 64 = .ok (.lconst 1, 1) := dget dh_493 (k := 18) rfl
theorem dX12_sharesOut_65 : decode cX12_sharesOut 65 = .ok (.goto 15, 3) := dget dh_493 (k := 19) rfl
def dl_494 : List (Nat × (Instr × Nat)) := [(68, (.aload_n 0, 1)), (69, (.getfield 31, 3)), (72, (.iconst 4, 1)), (73, (.iload_n 1, 1)), (74, (.imul, 1)), (75, (.iload 8, 2)), (77, (.iadd, 1)), (78, (.iaload, 1)), (79, (.i2l, 1)), (80, (.lstore 9, 2)), (82, (.lload 4, 2)), (84, (.lconst 0, 1)), (85, (.lcmp, 1)), (86, (.ifCond .ne 13, 3)), (89, (.aload_n 0, 1)), (90, (.getfield 19, 3)), (93, (.iload_n 1, 1)), (94, (.iaload, 1)), (95, (.i2l, 1)), (96, (.goto 5, 3))]
theorem dh_494 : dchk cX12_sharesOut dl_494 = true := by decide +kernel
theorem dX12_sharesOut_68 : decode cX12_sharesOut 68 = .ok (.aload_n 0, 1) := dget dh_494 (k := 0) rfl
theorem dX12_sharesOut_69 : decode cX12_sharesOut 69 = .ok (.getfield 31, 3) := dget dh_494 (k := 1) rfl
theorem dX12_sharesOut_72 : decode cX12_sharesOut 72 = .ok (.iconst 4, 1) := dget dh_494 (k := 2) rfl
theorem dX12_sharesOut_73 : decode cX12_sharesOut 73 = .ok (.iload_n 1, 1) := dget dh_494 (k := 3) rfl
theorem dX12_sharesOut_74 : decode cX12_sharesOut 74 = .ok (.imul, 1) := dget dh_494 (k := 4) rfl
theorem dX12_sharesOut_75 : decode cX12_sharesOut 75 = .ok (.iload 8, 2) := dget dh_494 (k := 5) rfl
theorem dX12_sharesOut_77 : decode cX12_sharesOut 77 = .ok (.iadd, 1) := dget dh_494 (k := 6) rfl
theorem dX12_sharesOut_78 : decode cX12_sharesOut 78 = .ok (.iaload, 1) := dget dh_494 (k := 7) rfl
theorem dX12_sharesOut_79 : decode cX12_sharesOut 79 = .ok (.i2l, 1) := dget dh_494 (k := 8) rfl
theorem dX12_sharesOut_80 : decode cX12_sharesOut 80 = .ok (.lstore 9, 2) := dget dh_494 (k := 9) rfl
theorem dX12_sharesOut_82 : decode cX12_sharesOut 82 = .ok (.lload 4, 2) := dget dh_494 (k := 10) rfl
theorem dX12_sharesOut_84 : decode cX12_sharesOut 84 = .ok (.lconst 0, 1) := dget dh_494 (k := 11) rfl
theorem dX12_sharesOut_85 : decode cX12_sharesOut 85 = .ok (.lcmp, 1) := dget dh_494 (k := 12) rfl
theorem dX12_sharesOut_86 : decode cX12_sharesOut 86 = .ok (.ifCond .ne 13, 3) := dget dh_494 (k := 13) rfl
theorem dX12_sharesOut_89 : decode cX12_sharesOut 89 = .ok (.aload_n 0, 1) := dget dh_494 (k := 14) rfl
theorem dX12_sharesOut_90 : decode cX12_sharesOut 90 = .ok (.getfield 19, 3) := dget dh_494 (k := 15) rfl
theorem dX12_sharesOut_93 : decode cX12_sharesOut 93 = .ok (.iload_n 1, 1) := dget dh_494 (k := 16) rfl
theorem dX12_sharesOut_94 : decode cX12_sharesOut 94 = .ok (.iaload, 1) := dget dh_494 (k := 17) rfl
theorem dX12_sharesOut_95 : decode cX12_sharesOut 95 = .ok (.i2l, 1) := dget dh_494 (k := 18) rfl
theorem dX12_sharesOut_96 : decode cX12_sharesOut 96 = .ok (.goto 5, 3) := dget dh_494 (k := 19) rfl
def dl_495 : List (Nat × (Instr × Nat)) := [(99, (.lload 4, 2)), (101, (.lstore 11, 2)), (103, (.aload_n 0, 1)), (104, (.getfield 157, 3)), (107, (.iload 8, 2)), (109, (.lload_n 2, 1)), (110, (.lload 9, 2)), (112, (.lmul, 1)), (113, (.lload 11, 2)), (115, (.ldiv, 1)), (116, (.l2i, 1)), (117, (.iastore, 1)), (118, (.aload_n 0, 1)), (119, (.getfield 153, 3)), (122, (.iload 8, 2)), (124, (.lload_n 2, 1)), (125, (.lload 9, 2)), (127, (.lmul, 1)), (128, (.lload 11, 2)), (130, (.lrem, 1))]
theorem dh_495 : dchk cX12_sharesOut dl_495 = true := by decide +kernel
theorem dX12_sharesOut_99 : decode cX12_sharesOut 99 = .ok (.lload 4, 2) := dget dh_495 (k := 0) rfl
theorem dX12_sharesOut_101 : decode cX12_sharesOut 101 = .ok (.lstore 11, 2) := dget dh_495 (k := 1) rfl
theorem dX12_sharesOut_103 : decode cX12_sharesOut 103 = .ok (.aload_n 0, 1) := dget dh_495 (k := 2) rfl
theorem dX12_sharesOut_104 : decode cX12_sharesOut 104 = .ok (.getfield 157, 3) := dget dh_495 (k := 3) rfl
theorem dX12_sharesOut_107 : decode cX12_sharesOut 107 = .ok (.iload 8, 2) := dget dh_495 (k := 4) rfl
theorem dX12_sharesOut_109 : decode cX12_sharesOut 109 = .ok (.lload_n 2, 1) := dget dh_495 (k := 5) rfl
theorem dX12_sharesOut_110 : decode cX12_sharesOut 110 = .ok (.lload 9, 2) := dget dh_495 (k := 6) rfl
theorem dX12_sharesOut_112 : decode cX12_sharesOut 112 = .ok (.lmul, 1) := dget dh_495 (k := 7) rfl
theorem dX12_sharesOut_113 : decode cX12_sharesOut 113 = .ok (.lload 11, 2) := dget dh_495 (k := 8) rfl
theorem dX12_sharesOut_115 : decode cX12_sharesOut 115 = .ok (.ldiv, 1) := dget dh_495 (k := 9) rfl
theorem dX12_sharesOut_116 : decode cX12_sharesOut 116 = .ok (.l2i, 1) := dget dh_495 (k := 10) rfl
theorem dX12_sharesOut_117 : decode cX12_sharesOut 117 = .ok (.iastore, 1) := dget dh_495 (k := 11) rfl
theorem dX12_sharesOut_118 : decode cX12_sharesOut 118 = .ok (.aload_n 0, 1) := dget dh_495 (k := 12) rfl
theorem dX12_sharesOut_119 : decode cX12_sharesOut 119 = .ok (.getfield 153, 3) := dget dh_495 (k := 13) rfl
theorem dX12_sharesOut_122 : decode cX12_sharesOut 122 = .ok (.iload 8, 2) := dget dh_495 (k := 14) rfl
theorem dX12_sharesOut_124 : decode cX12_sharesOut 124 = .ok (.lload_n 2, 1) := dget dh_495 (k := 15) rfl
theorem dX12_sharesOut_125 : decode cX12_sharesOut 125 = .ok (.lload 9, 2) := dget dh_495 (k := 16) rfl
theorem dX12_sharesOut_127 : decode cX12_sharesOut 127 = .ok (.lmul, 1) := dget dh_495 (k := 17) rfl
theorem dX12_sharesOut_128 : decode cX12_sharesOut 128 = .ok (.lload 11, 2) := dget dh_495 (k := 18) rfl
theorem dX12_sharesOut_130 : decode cX12_sharesOut 130 = .ok (.lrem, 1) := dget dh_495 (k := 19) rfl
def dl_496 : List (Nat × (Instr × Nat)) := [(131, (.lastore, 1)), (132, (.lload 6, 2)), (134, (.aload_n 0, 1)), (135, (.getfield 157, 3)), (138, (.iload 8, 2)), (140, (.iaload, 1)), (141, (.i2l, 1)), (142, (.lsub, 1)), (143, (.lstore 6, 2)), (145, (.iinc 8 1, 3)), (148, (.goto (-102), 3)), (151, (.lload 6, 2)), (153, (.lconst 0, 1)), (154, (.lcmp, 1)), (155, (.ifCond .le 88, 3)), (158, (.iconst 0, 1)), (159, (.istore 8, 2)), (161, (.iconst 1, 1)), (162, (.istore 9, 2)), (164, (.iload 9, 2))]
theorem dh_496 : dchk cX12_sharesOut dl_496 = true := by decide +kernel
theorem dX12_sharesOut_131 : decode cX12_sharesOut 131 = .ok (.lastore, 1) := dget dh_496 (k := 0) rfl
theorem dX12_sharesOut_132 : decode cX12_sharesOut 132 = .ok (.lload 6, 2) := dget dh_496 (k := 1) rfl
theorem dX12_sharesOut_134 : decode cX12_sharesOut 134 = .ok (.aload_n 0, 1) := dget dh_496 (k := 2) rfl
theorem dX12_sharesOut_135 : decode cX12_sharesOut 135 = .ok (.getfield 157, 3) := dget dh_496 (k := 3) rfl
theorem dX12_sharesOut_138 : decode cX12_sharesOut 138 = .ok (.iload 8, 2) := dget dh_496 (k := 4) rfl
theorem dX12_sharesOut_140 : decode cX12_sharesOut 140 = .ok (.iaload, 1) := dget dh_496 (k := 5) rfl
theorem dX12_sharesOut_141 : decode cX12_sharesOut 141 = .ok (.i2l, 1) := dget dh_496 (k := 6) rfl
theorem dX12_sharesOut_142 : decode cX12_sharesOut 142 = .ok (.lsub, 1) := dget dh_496 (k := 7) rfl
theorem dX12_sharesOut_143 : decode cX12_sharesOut 143 = .ok (.lstore 6, 2) := dget dh_496 (k := 8) rfl
theorem dX12_sharesOut_145 : decode cX12_sharesOut 145 = .ok (.iinc 8 1, 3) := dget dh_496 (k := 9) rfl
theorem dX12_sharesOut_148 : decode cX12_sharesOut 148 = .ok (.goto (-102), 3) := dget dh_496 (k := 10) rfl
theorem dX12_sharesOut_151 : decode cX12_sharesOut 151 = .ok (.lload 6, 2) := dget dh_496 (k := 11) rfl
theorem dX12_sharesOut_153 : decode cX12_sharesOut 153 = .ok (.lconst 0, 1) := dget dh_496 (k := 12) rfl
theorem dX12_sharesOut_154 : decode cX12_sharesOut 154 = .ok (.lcmp, 1) := dget dh_496 (k := 13) rfl
theorem dX12_sharesOut_155 : decode cX12_sharesOut 155 = .ok (.ifCond .le 88, 3) := dget dh_496 (k := 14) rfl
theorem dX12_sharesOut_158 : decode cX12_sharesOut 158 = .ok (.iconst 0, 1) := dget dh_496 (k := 15) rfl
theorem dX12_sharesOut_159 : decode cX12_sharesOut 159 = .ok (.istore 8, 2) := dget dh_496 (k := 16) rfl
theorem dX12_sharesOut_161 : decode cX12_sharesOut 161 = .ok (.iconst 1, 1) := dget dh_496 (k := 17) rfl
theorem dX12_sharesOut_162 : decode cX12_sharesOut 162 = .ok (.istore 9, 2) := dget dh_496 (k := 18) rfl
theorem dX12_sharesOut_164 : decode cX12_sharesOut 164 = .ok (.iload 9, 2) := dget dh_496 (k := 19) rfl
def dl_497 : List (Nat × (Instr × Nat)) := [(166, (.aload_n 0, 1)), (167, (.getfield 19, 3)), (170, (.iload_n 1, 1)), (171, (.iaload, 1)), (172, (.if_icmp .ge 36, 3)), (175, (.aload_n 0, 1)), (176, (.getfield 153, 3)), (179, (.iload 9, 2)), (181, (.laload, 1)), (182, (.aload_n 0, 1)), (183, (.getfield 153, 3)), (186, (.iload 8, 2)), (188, (.laload, 1)), (189, (.lcmp, 1)), (190, (.ifCond .le 8, 3)), (193, (.iload 9, 2)), (195, (.goto 5, 3)), (198, (.iload 8, 2)), (200, (.istore 8, 2)), (202, (.iinc 9 1, 3))]
theorem dh_497 : dchk cX12_sharesOut dl_497 = true := by decide +kernel
theorem dX12_sharesOut_166 : decode cX12_sharesOut 166 = .ok (.aload_n 0, 1) := dget dh_497 (k := 0) rfl
theorem dX12_sharesOut_167 : decode cX12_sharesOut 167 = .ok (.getfield 19, 3) := dget dh_497 (k := 1) rfl
theorem dX12_sharesOut_170 : decode cX12_sharesOut 170 = .ok (.iload_n 1, 1) := dget dh_497 (k := 2) rfl
theorem dX12_sharesOut_171 : decode cX12_sharesOut 171 = .ok (.iaload, 1) := dget dh_497 (k := 3) rfl
theorem dX12_sharesOut_172 : decode cX12_sharesOut 172 = .ok (.if_icmp .ge 36, 3) := dget dh_497 (k := 4) rfl
theorem dX12_sharesOut_175 : decode cX12_sharesOut 175 = .ok (.aload_n 0, 1) := dget dh_497 (k := 5) rfl
theorem dX12_sharesOut_176 : decode cX12_sharesOut 176 = .ok (.getfield 153, 3) := dget dh_497 (k := 6) rfl
theorem dX12_sharesOut_179 : decode cX12_sharesOut 179 = .ok (.iload 9, 2) := dget dh_497 (k := 7) rfl
theorem dX12_sharesOut_181 : decode cX12_sharesOut 181 = .ok (.laload, 1) := dget dh_497 (k := 8) rfl
theorem dX12_sharesOut_182 : decode cX12_sharesOut 182 = .ok (.aload_n 0, 1) := dget dh_497 (k := 9) rfl
theorem dX12_sharesOut_183 : decode cX12_sharesOut 183 = .ok (.getfield 153, 3) := dget dh_497 (k := 10) rfl
theorem dX12_sharesOut_186 : decode cX12_sharesOut 186 = .ok (.iload 8, 2) := dget dh_497 (k := 11) rfl
theorem dX12_sharesOut_188 : decode cX12_sharesOut 188 = .ok (.laload, 1) := dget dh_497 (k := 12) rfl
theorem dX12_sharesOut_189 : decode cX12_sharesOut 189 = .ok (.lcmp, 1) := dget dh_497 (k := 13) rfl
theorem dX12_sharesOut_190 : decode cX12_sharesOut 190 = .ok (.ifCond .le 8, 3) := dget dh_497 (k := 14) rfl
theorem dX12_sharesOut_193 : decode cX12_sharesOut 193 = .ok (.iload 9, 2) := dget dh_497 (k := 15) rfl
theorem dX12_sharesOut_195 : decode cX12_sharesOut 195 = .ok (.goto 5, 3) := dget dh_497 (k := 16) rfl
theorem dX12_sharesOut_198 : decode cX12_sharesOut 198 = .ok (.iload 8, 2) := dget dh_497 (k := 17) rfl
theorem dX12_sharesOut_200 : decode cX12_sharesOut 200 = .ok (.istore 8, 2) := dget dh_497 (k := 18) rfl
theorem dX12_sharesOut_202 : decode cX12_sharesOut 202 = .ok (.iinc 9 1, 3) := dget dh_497 (k := 19) rfl
def dl_498 : List (Nat × (Instr × Nat)) := [(205, (.goto (-41), 3)), (208, (.aload_n 0, 1)), (209, (.getfield 157, 3)), (212, (.iload 8, 2)), (214, (.aload_n 0, 1)), (215, (.getfield 157, 3)), (218, (.iload 8, 2)), (220, (.iaload, 1)), (221, (.iconst 1, 1)), (222, (.iadd, 1)), (223, (.iastore, 1)), (224, (.aload_n 0, 1)), (225, (.getfield 153, 3)), (228, (.iload 8, 2)), (230, (.ldc2_w 450, 3)), (233, (.lastore, 1)), (234, (.lload 6, 2)), (236, (.lconst 1, 1)), (237, (.lsub, 1)), (238, (.lstore 6, 2))]
theorem dh_498 : dchk cX12_sharesOut dl_498 = true := by decide +kernel
theorem dX12_sharesOut_205 : decode cX12_sharesOut 205 = .ok (.goto (-41), 3) := dget dh_498 (k := 0) rfl
theorem dX12_sharesOut_208 : decode cX12_sharesOut 208 = .ok (.aload_n 0, 1) := dget dh_498 (k := 1) rfl
theorem dX12_sharesOut_209 : decode cX12_sharesOut 209 = .ok (.getfield 157, 3) := dget dh_498 (k := 2) rfl
theorem dX12_sharesOut_212 : decode cX12_sharesOut 212 = .ok (.iload 8, 2) := dget dh_498 (k := 3) rfl
theorem dX12_sharesOut_214 : decode cX12_sharesOut 214 = .ok (.aload_n 0, 1) := dget dh_498 (k := 4) rfl
theorem dX12_sharesOut_215 : decode cX12_sharesOut 215 = .ok (.getfield 157, 3) := dget dh_498 (k := 5) rfl
theorem dX12_sharesOut_218 : decode cX12_sharesOut 218 = .ok (.iload 8, 2) := dget dh_498 (k := 6) rfl
theorem dX12_sharesOut_220 : decode cX12_sharesOut 220 = .ok (.iaload, 1) := dget dh_498 (k := 7) rfl
theorem dX12_sharesOut_221 : decode cX12_sharesOut 221 = .ok (.iconst 1, 1) := dget dh_498 (k := 8) rfl
theorem dX12_sharesOut_222 : decode cX12_sharesOut 222 = .ok (.iadd, 1) := dget dh_498 (k := 9) rfl
theorem dX12_sharesOut_223 : decode cX12_sharesOut 223 = .ok (.iastore, 1) := dget dh_498 (k := 10) rfl
theorem dX12_sharesOut_224 : decode cX12_sharesOut 224 = .ok (.aload_n 0, 1) := dget dh_498 (k := 11) rfl
theorem dX12_sharesOut_225 : decode cX12_sharesOut 225 = .ok (.getfield 153, 3) := dget dh_498 (k := 12) rfl
theorem dX12_sharesOut_228 : decode cX12_sharesOut 228 = .ok (.iload 8, 2) := dget dh_498 (k := 13) rfl
theorem dX12_sharesOut_230 : decode cX12_sharesOut 230 = .ok (.ldc2_w 450, 3) := dget dh_498 (k := 14) rfl
theorem dX12_sharesOut_233 : decode cX12_sharesOut 233 = .ok (.lastore, 1) := dget dh_498 (k := 15) rfl
theorem dX12_sharesOut_234 : decode cX12_sharesOut 234 = .ok (.lload 6, 2) := dget dh_498 (k := 16) rfl
theorem dX12_sharesOut_236 : decode cX12_sharesOut 236 = .ok (.lconst 1, 1) := dget dh_498 (k := 17) rfl
theorem dX12_sharesOut_237 : decode cX12_sharesOut 237 = .ok (.lsub, 1) := dget dh_498 (k := 18) rfl
theorem dX12_sharesOut_238 : decode cX12_sharesOut 238 = .ok (.lstore 6, 2) := dget dh_498 (k := 19) rfl
def dl_499 : List (Nat × (Instr × Nat)) := [(240, (.goto (-89), 3)), (243, (.return_, 1))]
theorem dh_499 : dchk cX12_sharesOut dl_499 = true := by decide +kernel
theorem dX12_sharesOut_240 : decode cX12_sharesOut 240 = .ok (.goto (-89), 3) := dget dh_499 (k := 0) rfl
theorem dX12_sharesOut_243 : decode cX12_sharesOut 243 = .ok (.return_, 1) := dget dh_499 (k := 1) rfl
theorem mL (cy : Nat → ClassId) (a : Nat → Nat) (i : Nat → Int32) (r : Nat → Nat → Int32) (rl f : Nat → Int64) : (mW cy a i r rl).set 48 (a 48, .inl (cy 3, 4, .inr (.inl f))) = mW cy a i r f := rfl
theorem lcmp_ne {x : Int64} (h : (lg_cmp x 0).toInt ≠ 0) : ¬ x = 0 := fun e => h (by rw [e]; decide)
theorem lcmp_pos {x : Int64} (h : 0 < (lg_cmp x 0).toInt) : 0 < x.toInt := by
  unfold lg_cmp at h
  by_cases h1 : x > 0
  · exact Int64.lt_iff_toInt_lt.mp h1
  · rw [if_neg h1] at h
    by_cases h2 : x = 0
    · rw [if_pos h2] at h; exact absurd h (by decide)
    · rw [if_neg h2] at h; exact absurd h (by decide)
theorem i2l_ne {x : Int32} (h : 1 ≤ x.toInt) : ¬ x.toInt64 = 0 := fun e => by
  have h2 : x.toInt64.toInt = 0 := by rw [e]; rfl
  rw [Int32.toInt_toInt64] at h2; omega
theorem l_dec {x y : Int64} (h : y = x - 1) (hp : 0 < x.toInt) : y.toInt = x.toInt - 1 := by
  rw [h, Int64.toInt_sub]
  have h1 : (1 : Int64).toInt = 1 := rfl
  have h2 := Int64.toInt_lt x
  rw [h1]; exact Int.bmod_eq_of_le (by omega) (by omega)
set_option maxHeartbeats 4000000 in
set_option maxRecDepth 100000 in
theorem c_X12_sharesOut (l : Launch) (D : va_G) (cy : Nat → ClassId) (a : Nat → Nat) (i : Nat → Int32) (r : Nat → Nat → Int32) (rl : Nat → Int64) (p0 : Int32) (q9 : Int64) (sz : Nat) (hRi : mRi i) (hRr : mRr r) (hE : mE i r) (q0 : 0 ≤ p0.toInt ∧ p0.toInt < (i 0).toInt) : Met l yX12_sharesOut (Cond.code yX12_sharesOut cX12_sharesOut 13 none :: gT) { frames := 1, cells := 0, slots := 0, locals := 24 } (va_Pc [.ref (a 0), .int p0, .long q9] (rQ D cy (mW cy a i r rl) sz)) (va_Qv (fun u : (Nat → Int32) × (Nat → Nat → Int32) × (Nat → Int64) => mRi u.1 ∧ mRr u.2.1 ∧ mEi [] i u.1 ∧ mEr [49] r u.2.1 ∧ True) (fun (u : (Nat → Int32) × (Nat → Nat → Int32) × (Nat → Int64)) t => va_P D vwCl (mW cy a u.1 u.2.1 u.2.2) t.heap ∧ va_K D vwCl (vT cy) t ∧ va_D (va_A (mW cy a i r rl) sz) (mW cy a u.1 u.2.1 u.2.2)) (va_A (mW cy a i r rl) sz)) 0 0 (va_A (mW cy a i r rl) sz) := by
  refine Met.ofQ (cc := cX12_sharesOut) (maxL := 13) (ret := none) (by decide) rfl ?_
  intro p e s m args below meth c s₁ B hml hv Q hQ
  obtain ⟨rfl, hsz, hP, hK, hD0⟩ := hv
  have hx := B.exec
  have hb := B.bytes
  have hr := B.returns
  have hlocks := B.notSynchronized
  have hT : ∀ w ∈ gT, w.before _ s = true := fun w h => atoms_spec (ws := (Cond.code yX12_sharesOut cX12_sharesOut 13 none :: gT)) B.pre w (List.mem_cons_of_mem _ h)
  have hown : s.vm.findClass RX12 = some m.cls := findClass_of_methodNamed B.named
  subst hsz
  have hD := hD0.self (sz := s.heap.size)
  generalize hAe : va_A (mW cy a i r rl) s.heap.size = A at hD hQ
  have hA : ∀ q : Nat, s.heap.size ≤ q → A q := fun q h => by rw [← hAe]; exact Or.inr h
  have hS : va_S A s.heap s.heap [] := va_S.rf
  have hl := lv_entry ([.ref (a 0), .int p0, .long q9]) (n := 13) (Nat.le_of_ble_eq_true rfl)
  rw [lg_entry_eq]
  generalize (lg_sl ([.ref (a 0), .int p0, .long q9]) ++ List.replicate (13 - (lg_sl ([.ref (a 0), .int p0, .long q9])).length) Slot.unset).toArray = ls at hl ⊢
  have hl : lv_has ls 13 [(0, .ref (a 0)), (1, .int p0), (2, .long q9)] := hl
  have hEi : mEi [] i i := Ei_rf
  have hEr : mEr [49] r r := Er_rf
  have hg0 : 0 ≤ (i 0).toInt ∧ (i 0).toInt ≤ 6 := hRi 0
  refine lv_lconst (v := 0) hx hb dX12_sharesOut_0 rfl ?_
  refine lv_lstore (lv' := [(4, .long 0), (0, .ref (a 0)), (1, .int p0), (2, .long q9)]) hx hb dX12_sharesOut_1 hl (by decide) rfl (fun ls hl => ?_)
  refine lv_iconst (v := 0) hx hb dX12_sharesOut_3 (by decide) ?_
  refine lv_istore (lv' := [(6, .int 0), (4, .long 0), (0, .ref (a 0)), (1, .int p0), (2, .long q9)]) hx hb dX12_sharesOut_4 hl (by decide) rfl (fun ls hl => ?_)
  have loop_1 : ∀ (n : Nat) (x1_6 : Int32) (x1_4 : Int64) (H : Heap) (locs : List Loc) (ls : Array Slot), (4 - x1_6.toInt).toNat < n → (0 ≤ x1_6.toInt ∧ x1_6.toInt ≤ 4) → va_P D vwCl (mW cy a i r rl) H → va_D A (mW cy a i r rl) → va_S A s.heap H locs → lv_has ls 13 [(6, .int x1_6), (4, .long x1_4), (0, .ref (a 0)), (1, .int p0), (2, .long q9)] → W p l e ({ frames := 1, cells := 0, slots := 0, locals := 24 } : Room) s m ([.ref (a 0), .int p0, .long q9] : List Value).toArray below meth c H locs 0 0 Q (F0 m 6 ls []) := by
    intro n
    induction n with
    | zero =>
      intro x1_6 x1_4 H locs ls hm1 hf1_0 hP hD hS hl
      exact absurd hm1 (by omega)
    | succ n ih1 =>
      intro x1_6 x1_4 H locs ls hm1 hf1_0 hP hD hS hl
      refine lv_iload hx hb dX12_sharesOut_6 (lv_at hl 0 rfl) ?_
      refine lv_aload_n hx hb dX12_sharesOut_8 rfl (lv_at hl 2 rfl) ?_
      refine va_get (D := D) (ci := 12) (v := .ref (a 4)) (C := RX12) (T := TX12) (N := 91) hx hb hT iX12 hown hK hP 0 rfl rfl 5 (by decide) (hT _ t_66) (fun _ h9 => h9) rfl dX12_sharesOut_9 ?_
      refine lv_iload_n hx hb dX12_sharesOut_12 rfl (lv_at hl 3 rfl) ?_
      refine va_iald hx hb hK hP 4 0 rfl rfl (vp_inI (by omega) (by omega)) dX12_sharesOut_13 ?_
      refine lv_topi (fun v_2 ev_2 => ?_)
      have hgv_2 : 0 ≤ v_2.toInt ∧ v_2.toInt ≤ 4 := by rw [ev_2]; exact hRr 4 _
      refine lv_icmp_ge (tgt := 40) hx hb dX12_sharesOut_14 (by decide) (fun c_3 => ?_) (fun c_3 => ?_)
      · have c_3 : v_2.toInt ≤ x1_6.toInt := b_le c_3
        refine lv_lload_n hx hb dX12_sharesOut_40 rfl (lv_at hl 4 rfl) ?_
        refine lv_lstore (lv' := [(6, .long q9), (4, .long x1_4), (0, .ref (a 0)), (1, .int p0), (2, .long q9)]) hx hb dX12_sharesOut_41 hl (by decide) rfl (fun ls hl => ?_)
        refine lv_iconst (v := 0) hx hb dX12_sharesOut_43 (by decide) ?_
        refine lv_istore (lv' := [(8, .int 0), (6, .long q9), (4, .long x1_4), (0, .ref (a 0)), (1, .int p0), (2, .long q9)]) hx hb dX12_sharesOut_44 hl (by decide) rfl (fun ls hl => ?_)
        have loop_4 : ∀ (n : Nat) (x4_8 : Int32) (x4_6 : Int64) (r4 : Nat → Nat → Int32) (l4 : Nat → Int64) (H : Heap) (locs : List Loc) (ls : Array Slot), (4 - x4_8.toInt).toNat < n → (0 ≤ x4_8.toInt ∧ x4_8.toInt ≤ 4) → mRr r4 → mEr [49] r r4 → va_P D vwCl (mW cy a i r4 l4) H → va_D A (mW cy a i r4 l4) → va_S A s.heap H locs → lv_has ls 13 [(8, .int x4_8), (6, .long x4_6), (4, .long x1_4), (0, .ref (a 0)), (1, .int p0), (2, .long q9)] → W p l e ({ frames := 1, cells := 0, slots := 0, locals := 24 } : Room) s m ([.ref (a 0), .int p0, .long q9] : List Value).toArray below meth c H locs 0 0 Q (F0 m 46 ls []) := by
          intro n
          induction n with
          | zero =>
            intro x4_8 x4_6 r4 l4 H locs ls hm4 hf4_0 hRr hEr hP hD hS hl
            exact absurd hm4 (by omega)
          | succ n ih4 =>
            intro x4_8 x4_6 r4 l4 H locs ls hm4 hf4_0 hRr hEr hP hD hS hl
            refine lv_iload hx hb dX12_sharesOut_46 (lv_at hl 0 rfl) ?_
            refine lv_aload_n hx hb dX12_sharesOut_48 rfl (lv_at hl 3 rfl) ?_
            refine va_get (D := D) (ci := 12) (v := .ref (a 4)) (C := RX12) (T := TX12) (N := 91) hx hb hT iX12 hown hK hP 0 rfl rfl 5 (by decide) (hT _ t_66) (fun _ h9 => h9) rfl dX12_sharesOut_49 ?_
            refine lv_iload_n hx hb dX12_sharesOut_52 rfl (lv_at hl 4 rfl) ?_
            refine va_iald hx hb hK hP 4 0 rfl rfl (vp_inI (by omega) (by omega)) dX12_sharesOut_53 ?_
            refine lv_topi (fun v_5 ev_5 => ?_)
            have hgv_5 : 0 ≤ v_5.toInt ∧ v_5.toInt ≤ 4 := by rw [ev_5]; exact hRr 4 _
            refine lv_icmp_ge (tgt := 151) hx hb dX12_sharesOut_54 (by decide) (fun c_6 => ?_) (fun c_6 => ?_)
            · have c_6 : v_5.toInt ≤ x4_8.toInt := b_le c_6
              have loop_7 : ∀ (n : Nat) (x7_8 : Int32) (x7_6 : Int64) (r7 : Nat → Nat → Int32) (l7 : Nat → Int64) (H : Heap) (locs : List Loc) (ls : Array Slot), (x7_6.toInt).toNat < n → mRr r7 → mEr [49] r r7 → va_P D vwCl (mW cy a i r7 l7) H → va_D A (mW cy a i r7 l7) → va_S A s.heap H locs → lv_has ls 13 [(8, .int x7_8), (6, .long x7_6), (4, .long x1_4), (0, .ref (a 0)), (1, .int p0), (2, .long q9)] → W p l e ({ frames := 1, cells := 0, slots := 0, locals := 24 } : Room) s m ([.ref (a 0), .int p0, .long q9] : List Value).toArray below meth c H locs 0 0 Q (F0 m 151 ls []) := by
                intro n
                induction n with
                | zero =>
                  intro x7_8 x7_6 r7 l7 H locs ls hm7 hRr hEr hP hD hS hl
                  exact absurd hm7 (by omega)
                | succ n ih7 =>
                  intro x7_8 x7_6 r7 l7 H locs ls hm7 hRr hEr hP hD hS hl
                  refine lv_lload hx hb dX12_sharesOut_151 (lv_at hl 1 rfl) ?_
                  refine lv_lconst (v := 0) hx hb dX12_sharesOut_153 rfl ?_
                  refine W.lcmp hx hb dX12_sharesOut_154 ?_
                  refine lv_topi (fun v_8 ev_8 => ?_)
                  refine lv_if_le (tgt := 243) hx hb dX12_sharesOut_155 (by decide) (fun c_9 => ?_) (fun c_9 => ?_)
                  · have c_9 : v_8.toInt ≤ 0 := b_le c_9
                    subst hQ
                    exact W.vret hx hb hr (fun t ht hW => ⟨⟨(i, r7, l7), rfl, ⟨hRi, hRr, hEi, hEr, trivial⟩, by rw [ht]; exact hP, va_K.moved hW.alike hK, hD⟩, hS.F ht⟩) hS.2.2 dX12_sharesOut_243
                  · have c_9 : 0 < v_8.toInt := b_nle c_9
                    refine lv_iconst (v := 0) hx hb dX12_sharesOut_158 (by decide) ?_
                    refine lv_istore (lv' := [(8, .int 0), (6, .long x7_6), (4, .long x1_4), (0, .ref (a 0)), (1, .int p0), (2, .long q9)]) hx hb dX12_sharesOut_159 hl (by decide) rfl (fun ls hl => ?_)
                    refine lv_iconst (v := 1) hx hb dX12_sharesOut_161 (by decide) ?_
                    refine lv_istore (lv' := [(9, .int 1), (8, .int 0), (6, .long x7_6), (4, .long x1_4), (0, .ref (a 0)), (1, .int p0), (2, .long q9)]) hx hb dX12_sharesOut_162 hl (by decide) rfl (fun ls hl => ?_)
                    have loop_10 : ∀ (n : Nat) (x10_9 : Int32) (x10_8 : Int32) (H : Heap) (locs : List Loc) (ls : Array Slot), (4 - x10_9.toInt).toNat < n → (1 ≤ x10_9.toInt ∧ x10_9.toInt ≤ 4) → (0 ≤ x10_8.toInt ∧ x10_8.toInt ≤ 3) → va_P D vwCl (mW cy a i r7 l7) H → va_D A (mW cy a i r7 l7) → va_S A s.heap H locs → lv_has ls 13 [(9, .int x10_9), (8, .int x10_8), (6, .long x7_6), (4, .long x1_4), (0, .ref (a 0)), (1, .int p0), (2, .long q9)] → W p l e ({ frames := 1, cells := 0, slots := 0, locals := 24 } : Room) s m ([.ref (a 0), .int p0, .long q9] : List Value).toArray below meth c H locs 0 0 Q (F0 m 164 ls []) := by
                      intro n
                      induction n with
                      | zero =>
                        intro x10_9 x10_8 H locs ls hm10 hf10_0 hf10_1 hP hD hS hl
                        exact absurd hm10 (by omega)
                      | succ n ih10 =>
                        intro x10_9 x10_8 H locs ls hm10 hf10_0 hf10_1 hP hD hS hl
                        refine lv_iload hx hb dX12_sharesOut_164 (lv_at hl 0 rfl) ?_
                        refine lv_aload_n hx hb dX12_sharesOut_166 rfl (lv_at hl 4 rfl) ?_
                        refine va_get (D := D) (ci := 12) (v := .ref (a 4)) (C := RX12) (T := TX12) (N := 91) hx hb hT iX12 hown hK hP 0 rfl rfl 5 (by decide) (hT _ t_66) (fun _ h9 => h9) rfl dX12_sharesOut_167 ?_
                        refine lv_iload_n hx hb dX12_sharesOut_170 rfl (lv_at hl 5 rfl) ?_
                        refine va_iald hx hb hK hP 4 0 rfl rfl (vp_inI (by omega) (by omega)) dX12_sharesOut_171 ?_
                        refine lv_topi (fun v_11 ev_11 => ?_)
                        have hgv_11 : 0 ≤ v_11.toInt ∧ v_11.toInt ≤ 4 := by rw [ev_11]; exact hRr 4 _
                        refine lv_icmp_ge (tgt := 208) hx hb dX12_sharesOut_172 (by decide) (fun c_12 => ?_) (fun c_12 => ?_)
                        · have c_12 : v_11.toInt ≤ x10_9.toInt := b_le c_12
                          refine lv_aload_n hx hb dX12_sharesOut_208 rfl (lv_at hl 4 rfl) ?_
                          refine va_get (D := D) (ci := 12) (v := .ref (a 49)) (C := RX12) (T := TX12) (N := 91) hx hb hT iX12 hown hK hP 0 rfl rfl 62 (by decide) (hT _ t_796) (fun _ h9 => h9) rfl dX12_sharesOut_209 ?_
                          refine lv_iload hx hb dX12_sharesOut_212 (lv_at hl 1 rfl) ?_
                          refine lv_aload_n hx hb dX12_sharesOut_214 rfl (lv_at hl 4 rfl) ?_
                          refine va_get (D := D) (ci := 12) (v := .ref (a 49)) (C := RX12) (T := TX12) (N := 91) hx hb hT iX12 hown hK hP 0 rfl rfl 62 (by decide) (hT _ t_796) (fun _ h9 => h9) rfl dX12_sharesOut_215 ?_
                          refine lv_iload hx hb dX12_sharesOut_218 (lv_at hl 1 rfl) ?_
                          refine va_iald hx hb hK hP 49 0 rfl rfl (vp_inI (by omega) (by omega)) dX12_sharesOut_220 ?_
                          refine lv_topi (fun v_13 ev_13 => ?_)
                          refine lv_iconst (v := 1) hx hb dX12_sharesOut_221 (by decide) ?_
                          refine lv_iadd hx hb dX12_sharesOut_222 ?_
                          refine lv_topi (fun v_14 ev_14 => ?_)
                          refine va_iast hx hb hK hP hD hS 49 0 rfl rfl (vp_inI (by omega) (by omega)) dX12_sharesOut_223 (fun H locs hP hD hS => ?_)
                          rw [mS49] at hP hD
                          have hRr : mRr (va_up r7 49 (upd (r7 49) x10_8.toNatClampNeg v_14)) := Rr_upd hRr 49 (x10_8.toNatClampNeg) v_14 (b_rg _)
                          have hEr : mEr [49] _ (va_up r7 49 (upd (r7 49) x10_8.toNatClampNeg v_14)) := Er_up hEr 49 _ (by decide)
                          refine lv_aload_n hx hb dX12_sharesOut_224 rfl (lv_at hl 4 rfl) ?_
                          refine va_get (D := D) (ci := 12) (v := .ref (a 48)) (C := RX12) (T := TX12) (N := 91) hx hb hT iX12 hown hK hP 0 rfl rfl 61 (by decide) (hT _ t_795) (fun _ h9 => h9) rfl dX12_sharesOut_225 ?_
                          refine lv_iload hx hb dX12_sharesOut_228 (lv_at hl 1 rfl) ?_
                          refine lv_ldc2 (v := -1) hx hb hown (hT _ t_825) dX12_sharesOut_230 ?_
                          refine va_last hx hb hK hP hD hS 48 3 rfl rfl (vp_inI (by omega) (by omega)) dX12_sharesOut_233 (fun H locs hP hD hS => ?_)
                          rw [mL] at hP hD
                          refine lv_lload hx hb dX12_sharesOut_234 (lv_at hl 2 rfl) ?_
                          refine lv_lconst (v := 1) hx hb dX12_sharesOut_236 rfl ?_
                          refine lv_lsub hx hb dX12_sharesOut_237 ?_
                          refine lv_topl (fun v_15 ev_15 => ?_)
                          refine lv_lstore (lv' := [(6, .long v_15), (9, .int x10_9), (8, .int x10_8), (4, .long x1_4), (0, .ref (a 0)), (1, .int p0), (2, .long q9)]) hx hb dX12_sharesOut_238 hl (by decide) rfl (fun ls hl => ?_)
                          refine lv_goto (tgt := 151) hx hb dX12_sharesOut_240 (by decide) ?_
                          have hdec : v_15.toInt = x7_6.toInt - 1 := l_dec ev_15 (lcmp_pos (by rw [← ev_8]; exact c_9))
                          have hpos : 0 < x7_6.toInt := lcmp_pos (by rw [← ev_8]; exact c_9)
                          exact ih7 x10_8 v_15 (va_up r7 49 (upd (r7 49) x10_8.toNatClampNeg v_14)) (vp_updL l7 x10_8.toNatClampNeg (-1)) _ _ _ (by first | omega | (simp only [Int.toNat]; omega))  hRr hEr  hP hD hS (lv_sub hl [2, 0, 3, 4, 5, 6] rfl)
                        · have c_12 : x10_9.toInt < v_11.toInt := b_nle c_12
                          refine lv_aload_n hx hb dX12_sharesOut_175 rfl (lv_at hl 4 rfl) ?_
                          refine va_get (D := D) (ci := 12) (v := .ref (a 48)) (C := RX12) (T := TX12) (N := 91) hx hb hT iX12 hown hK hP 0 rfl rfl 61 (by decide) (hT _ t_795) (fun _ h9 => h9) rfl dX12_sharesOut_176 ?_
                          refine lv_iload hx hb dX12_sharesOut_179 (lv_at hl 0 rfl) ?_
                          refine va_lald hx hb hK hP 48 3 rfl rfl (vp_inI (by omega) (by omega)) dX12_sharesOut_181 ?_
                          refine lv_topl (fun v_16 ev_16 => ?_)
                          refine lv_aload_n hx hb dX12_sharesOut_182 rfl (lv_at hl 4 rfl) ?_
                          refine va_get (D := D) (ci := 12) (v := .ref (a 48)) (C := RX12) (T := TX12) (N := 91) hx hb hT iX12 hown hK hP 0 rfl rfl 61 (by decide) (hT _ t_795) (fun _ h9 => h9) rfl dX12_sharesOut_183 ?_
                          refine lv_iload hx hb dX12_sharesOut_186 (lv_at hl 1 rfl) ?_
                          refine va_lald hx hb hK hP 48 3 rfl rfl (vp_inI (by omega) (by omega)) dX12_sharesOut_188 ?_
                          refine lv_topl (fun v_17 ev_17 => ?_)
                          refine W.lcmp hx hb dX12_sharesOut_189 ?_
                          refine lv_topi (fun v_18 ev_18 => ?_)
                          refine lv_if_le (tgt := 198) hx hb dX12_sharesOut_190 (by decide) (fun c_19 => ?_) (fun c_19 => ?_)
                          · have c_19 : v_18.toInt ≤ 0 := b_le c_19
                            refine lv_iload hx hb dX12_sharesOut_198 (lv_at hl 1 rfl) ?_
                            refine lv_istore (lv' := [(8, .int x10_8), (9, .int x10_9), (6, .long x7_6), (4, .long x1_4), (0, .ref (a 0)), (1, .int p0), (2, .long q9)]) hx hb dX12_sharesOut_200 hl (by decide) rfl (fun ls hl => ?_)
                            obtain ⟨x_20, ex_20⟩ : ∃ y : Int32, y = x10_9 + 1 := ⟨_, rfl⟩
                            refine lv_iinc (v := x_20) (lv' := [(9, .int x_20), (8, .int x10_8), (6, .long x7_6), (4, .long x1_4), (0, .ref (a 0)), (1, .int p0), (2, .long q9)]) hx hb dX12_sharesOut_202 hl (k := 1) rfl (by rw [ex_20]; rfl) (by decide) rfl (fun ls hl => ?_)
                            have hx_20 : x_20.toInt = x10_9.toInt + 1 := by rw [ex_20]; have := b_rg x10_9; exact i_add (a := x10_9.toInt) (b := 1) rfl rfl (by omega) (by omega)
                            refine lv_goto (tgt := 164) hx hb dX12_sharesOut_205 (by decide) ?_
                            exact ih10 x_20 x10_8 _ _ _ (by first | omega | (simp only [Int.toNat]; omega)) (by first | omega | decide) (by first | omega | decide)   hP hD hS (lv_sub hl [0, 1, 2, 3, 4, 5, 6] rfl)
                          · have c_19 : 0 < v_18.toInt := b_nle c_19
                            refine lv_iload hx hb dX12_sharesOut_193 (lv_at hl 0 rfl) ?_
                            refine lv_goto (tgt := 200) hx hb dX12_sharesOut_195 (by decide) ?_
                            refine lv_istore (lv' := [(8, .int x10_9), (9, .int x10_9), (6, .long x7_6), (4, .long x1_4), (0, .ref (a 0)), (1, .int p0), (2, .long q9)]) hx hb dX12_sharesOut_200 hl (by decide) rfl (fun ls hl => ?_)
                            obtain ⟨x_21, ex_21⟩ : ∃ y : Int32, y = x10_9 + 1 := ⟨_, rfl⟩
                            refine lv_iinc (v := x_21) (lv' := [(9, .int x_21), (8, .int x10_9), (6, .long x7_6), (4, .long x1_4), (0, .ref (a 0)), (1, .int p0), (2, .long q9)]) hx hb dX12_sharesOut_202 hl (k := 1) rfl (by rw [ex_21]; rfl) (by decide) rfl (fun ls hl => ?_)
                            have hx_21 : x_21.toInt = x10_9.toInt + 1 := by rw [ex_21]; have := b_rg x10_9; exact i_add (a := x10_9.toInt) (b := 1) rfl rfl (by omega) (by omega)
                            refine lv_goto (tgt := 164) hx hb dX12_sharesOut_205 (by decide) ?_
                            exact ih10 x_21 x10_9 _ _ _ (by first | omega | (simp only [Int.toNat]; omega)) (by first | omega | decide) (by first | omega | decide)   hP hD hS (lv_sub hl [0, 1, 2, 3, 4, 5, 6] rfl)
                    exact loop_10 _ 1 0 _ _ _ (Nat.lt_succ_self _) (by first | omega | decide) (by first | omega | decide)   hP hD hS hl
              exact loop_7 _ x4_8 x4_6 r4 l4 _ _ _ (Nat.lt_succ_self _)  hRr hEr  hP hD hS hl
            · have c_6 : x4_8.toInt < v_5.toInt := b_nle c_6
              refine lv_lload hx hb dX12_sharesOut_57 (lv_at hl 2 rfl) ?_
              refine lv_lconst (v := 0) hx hb dX12_sharesOut_59 rfl ?_
              refine W.lcmp hx hb dX12_sharesOut_60 ?_
              refine lv_topi (fun v_22 ev_22 => ?_)
              refine lv_if_ne (tgt := 68) hx hb dX12_sharesOut_61 (by decide) (fun c_23 => ?_) (fun c_23 => ?_)
              · have c_23 : v_22.toInt ≠ 0 := b_ne c_23
                refine lv_aload_n hx hb dX12_sharesOut_68 rfl (lv_at hl 3 rfl) ?_
                refine va_get (D := D) (ci := 12) (v := .ref (a 8)) (C := RX12) (T := TX12) (N := 91) hx hb hT iX12 hown hK hP 0 rfl rfl 9 (by decide) (hT _ t_176) (fun _ h9 => h9) rfl dX12_sharesOut_69 ?_
                refine lv_iconst (v := 4) hx hb dX12_sharesOut_72 (by decide) ?_
                refine lv_iload_n hx hb dX12_sharesOut_73 rfl (lv_at hl 4 rfl) ?_
                refine lv_imul hx hb dX12_sharesOut_74 ?_
                refine lv_topi (fun v_24 ev_24 => ?_)
                have hv_24 : v_24.toInt = 4 * p0.toInt := by rw [ev_24]; have := b_rg p0; exact i_mul (a := 4) (b := p0.toInt) rfl rfl (by omega) (by omega)
                refine lv_iload hx hb dX12_sharesOut_75 (lv_at hl 0 rfl) ?_
                refine lv_iadd hx hb dX12_sharesOut_77 ?_
                refine lv_topi (fun v_25 ev_25 => ?_)
                have hv_25 : v_25.toInt = v_24.toInt + x4_8.toInt := by rw [ev_25]; have := b_rg v_24; have := b_rg x4_8; exact i_add (a := v_24.toInt) (b := x4_8.toInt) rfl rfl (by omega) (by omega)
                refine va_iald hx hb hK hP 8 0 rfl rfl (vp_inI (by omega) (by omega)) dX12_sharesOut_78 ?_
                refine lv_topi (fun v_26 ev_26 => ?_)
                have hgv_26 : 0 ≤ v_26.toInt ∧ v_26.toInt ≤ 99 := by rw [ev_26]; exact hRr 8 _
                obtain ⟨v_27, ev_27⟩ : ∃ y : Int64, v_26.toInt64 = y := ⟨_, rfl⟩
                refine lv_i2l (v := v_27) hx hb dX12_sharesOut_79 ev_27 ?_
                refine lv_lstore (lv' := [(9, .long v_27), (8, .int x4_8), (6, .long x4_6), (4, .long x1_4), (0, .ref (a 0)), (1, .int p0), (2, .long q9)]) hx hb dX12_sharesOut_80 hl (by decide) rfl (fun ls hl => ?_)
                refine lv_lload hx hb dX12_sharesOut_82 (lv_at hl 3 rfl) ?_
                refine lv_lconst (v := 0) hx hb dX12_sharesOut_84 rfl ?_
                refine W.lcmp hx hb dX12_sharesOut_85 ?_
                refine lv_topi (fun v_28 ev_28 => ?_)
                refine lv_if_ne (tgt := 99) hx hb dX12_sharesOut_86 (by decide) (fun c_29 => ?_) (fun c_29 => ?_)
                · have c_29 : v_28.toInt ≠ 0 := b_ne c_29
                  refine lv_lload hx hb dX12_sharesOut_99 (lv_at hl 3 rfl) ?_
                  refine lv_lstore (lv' := [(11, .long x1_4), (9, .long v_27), (8, .int x4_8), (6, .long x4_6), (4, .long x1_4), (0, .ref (a 0)), (1, .int p0), (2, .long q9)]) hx hb dX12_sharesOut_101 hl (by decide) rfl (fun ls hl => ?_)
                  refine lv_aload_n hx hb dX12_sharesOut_103 rfl (lv_at hl 5 rfl) ?_
                  refine va_get (D := D) (ci := 12) (v := .ref (a 49)) (C := RX12) (T := TX12) (N := 91) hx hb hT iX12 hown hK hP 0 rfl rfl 62 (by decide) (hT _ t_796) (fun _ h9 => h9) rfl dX12_sharesOut_104 ?_
                  refine lv_iload hx hb dX12_sharesOut_107 (lv_at hl 2 rfl) ?_
                  refine lv_lload_n hx hb dX12_sharesOut_109 rfl (lv_at hl 7 rfl) ?_
                  refine lv_lload hx hb dX12_sharesOut_110 (lv_at hl 1 rfl) ?_
                  refine lv_lmul hx hb dX12_sharesOut_112 ?_
                  refine lv_topl (fun v_30 ev_30 => ?_)
                  refine lv_lload hx hb dX12_sharesOut_113 (lv_at hl 0 rfl) ?_
                  refine lv_ldiv hx hb dX12_sharesOut_115 (lcmp_ne (by rw [← ev_28]; exact c_29)) ?_
                  refine lv_topl (fun v_31 ev_31 => ?_)
                  obtain ⟨v_32, ev_32⟩ : ∃ y : Int32, v_31.toInt32 = y := ⟨_, rfl⟩
                  refine lv_l2i (v := v_32) hx hb dX12_sharesOut_116 ev_32 ?_
                  refine va_iast hx hb hK hP hD hS 49 0 rfl rfl (vp_inI (by omega) (by omega)) dX12_sharesOut_117 (fun H locs hP hD hS => ?_)
                  rw [mS49] at hP hD
                  have hRr : mRr (va_up r4 49 (upd (r4 49) x4_8.toNatClampNeg v_32)) := Rr_upd hRr 49 (x4_8.toNatClampNeg) v_32 (b_rg _)
                  have hEr : mEr [49] _ (va_up r4 49 (upd (r4 49) x4_8.toNatClampNeg v_32)) := Er_up hEr 49 _ (by decide)
                  refine lv_aload_n hx hb dX12_sharesOut_118 rfl (lv_at hl 5 rfl) ?_
                  refine va_get (D := D) (ci := 12) (v := .ref (a 48)) (C := RX12) (T := TX12) (N := 91) hx hb hT iX12 hown hK hP 0 rfl rfl 61 (by decide) (hT _ t_795) (fun _ h9 => h9) rfl dX12_sharesOut_119 ?_
                  refine lv_iload hx hb dX12_sharesOut_122 (lv_at hl 2 rfl) ?_
                  refine lv_lload_n hx hb dX12_sharesOut_124 rfl (lv_at hl 7 rfl) ?_
                  refine lv_lload hx hb dX12_sharesOut_125 (lv_at hl 1 rfl) ?_
                  refine lv_lmul hx hb dX12_sharesOut_127 ?_
                  refine lv_topl (fun v_33 ev_33 => ?_)
                  refine lv_lload hx hb dX12_sharesOut_128 (lv_at hl 0 rfl) ?_
                  refine lv_lrem hx hb dX12_sharesOut_130 (lcmp_ne (by rw [← ev_28]; exact c_29)) ?_
                  refine lv_topl (fun v_34 ev_34 => ?_)
                  refine va_last hx hb hK hP hD hS 48 3 rfl rfl (vp_inI (by omega) (by omega)) dX12_sharesOut_131 (fun H locs hP hD hS => ?_)
                  rw [mL] at hP hD
                  refine lv_lload hx hb dX12_sharesOut_132 (lv_at hl 3 rfl) ?_
                  refine lv_aload_n hx hb dX12_sharesOut_134 rfl (lv_at hl 5 rfl) ?_
                  refine va_get (D := D) (ci := 12) (v := .ref (a 49)) (C := RX12) (T := TX12) (N := 91) hx hb hT iX12 hown hK hP 0 rfl rfl 62 (by decide) (hT _ t_796) (fun _ h9 => h9) rfl dX12_sharesOut_135 ?_
                  refine lv_iload hx hb dX12_sharesOut_138 (lv_at hl 2 rfl) ?_
                  refine va_iald hx hb hK hP 49 0 rfl rfl (vp_inI (by omega) (by omega)) dX12_sharesOut_140 ?_
                  refine lv_topi (fun v_35 ev_35 => ?_)
                  obtain ⟨v_36, ev_36⟩ : ∃ y : Int64, v_35.toInt64 = y := ⟨_, rfl⟩
                  refine lv_i2l (v := v_36) hx hb dX12_sharesOut_141 ev_36 ?_
                  refine lv_lsub hx hb dX12_sharesOut_142 ?_
                  refine lv_topl (fun v_37 ev_37 => ?_)
                  refine lv_lstore (lv' := [(6, .long v_37), (11, .long x1_4), (9, .long v_27), (8, .int x4_8), (4, .long x1_4), (0, .ref (a 0)), (1, .int p0), (2, .long q9)]) hx hb dX12_sharesOut_143 hl (by decide) rfl (fun ls hl => ?_)
                  obtain ⟨x_38, ex_38⟩ : ∃ y : Int32, y = x4_8 + 1 := ⟨_, rfl⟩
                  refine lv_iinc (v := x_38) (lv' := [(8, .int x_38), (6, .long v_37), (11, .long x1_4), (9, .long v_27), (4, .long x1_4), (0, .ref (a 0)), (1, .int p0), (2, .long q9)]) hx hb dX12_sharesOut_145 hl (k := 3) rfl (by rw [ex_38]; rfl) (by decide) rfl (fun ls hl => ?_)
                  have hx_38 : x_38.toInt = x4_8.toInt + 1 := by rw [ex_38]; have := b_rg x4_8; exact i_add (a := x4_8.toInt) (b := 1) rfl rfl (by omega) (by omega)
                  refine lv_goto (tgt := 46) hx hb dX12_sharesOut_148 (by decide) ?_
                  exact ih4 x_38 v_37 (va_up r4 49 (upd (r4 49) x4_8.toNatClampNeg v_32)) (vp_updL l4 x4_8.toNatClampNeg v_34) _ _ _ (by first | omega | (simp only [Int.toNat]; omega)) (by first | omega | decide) hRr hEr  hP hD hS (lv_sub hl [0, 1, 4, 5, 6, 7] rfl)
                · have c_29 : v_28.toInt = 0 := b_nne c_29
                  refine lv_aload_n hx hb dX12_sharesOut_89 rfl (lv_at hl 4 rfl) ?_
                  refine va_get (D := D) (ci := 12) (v := .ref (a 4)) (C := RX12) (T := TX12) (N := 91) hx hb hT iX12 hown hK hP 0 rfl rfl 5 (by decide) (hT _ t_66) (fun _ h9 => h9) rfl dX12_sharesOut_90 ?_
                  refine lv_iload_n hx hb dX12_sharesOut_93 rfl (lv_at hl 5 rfl) ?_
                  refine va_iald hx hb hK hP 4 0 rfl rfl (vp_inI (by omega) (by omega)) dX12_sharesOut_94 ?_
                  refine lv_topi (fun v_39 ev_39 => ?_)
                  have hgv_39 : 0 ≤ v_39.toInt ∧ v_39.toInt ≤ 4 := by rw [ev_39]; exact hRr 4 _
                  have htv_39 : 1 ≤ v_39.toInt := by rw [ev_39, hEr 4 (by decide)]; exact hE.1 _ (by have h9 : p0.toNatClampNeg = p0.toInt.toNat := rfl; omega)
                  obtain ⟨v_40, ev_40⟩ : ∃ y : Int64, v_39.toInt64 = y := ⟨_, rfl⟩
                  refine lv_i2l (v := v_40) hx hb dX12_sharesOut_95 ev_40 ?_
                  refine lv_goto (tgt := 101) hx hb dX12_sharesOut_96 (by decide) ?_
                  refine lv_lstore (lv' := [(11, .long v_40), (9, .long v_27), (8, .int x4_8), (6, .long x4_6), (4, .long x1_4), (0, .ref (a 0)), (1, .int p0), (2, .long q9)]) hx hb dX12_sharesOut_101 hl (by decide) rfl (fun ls hl => ?_)
                  refine lv_aload_n hx hb dX12_sharesOut_103 rfl (lv_at hl 5 rfl) ?_
                  refine va_get (D := D) (ci := 12) (v := .ref (a 49)) (C := RX12) (T := TX12) (N := 91) hx hb hT iX12 hown hK hP 0 rfl rfl 62 (by decide) (hT _ t_796) (fun _ h9 => h9) rfl dX12_sharesOut_104 ?_
                  refine lv_iload hx hb dX12_sharesOut_107 (lv_at hl 2 rfl) ?_
                  refine lv_lload_n hx hb dX12_sharesOut_109 rfl (lv_at hl 7 rfl) ?_
                  refine lv_lload hx hb dX12_sharesOut_110 (lv_at hl 1 rfl) ?_
                  refine lv_lmul hx hb dX12_sharesOut_112 ?_
                  refine lv_topl (fun v_41 ev_41 => ?_)
                  refine lv_lload hx hb dX12_sharesOut_113 (lv_at hl 0 rfl) ?_
                  refine lv_ldiv hx hb dX12_sharesOut_115 (by rw [← ev_40]; exact i2l_ne (by omega)) ?_
                  refine lv_topl (fun v_42 ev_42 => ?_)
                  obtain ⟨v_43, ev_43⟩ : ∃ y : Int32, v_42.toInt32 = y := ⟨_, rfl⟩
                  refine lv_l2i (v := v_43) hx hb dX12_sharesOut_116 ev_43 ?_
                  refine va_iast hx hb hK hP hD hS 49 0 rfl rfl (vp_inI (by omega) (by omega)) dX12_sharesOut_117 (fun H locs hP hD hS => ?_)
                  rw [mS49] at hP hD
                  have hRr : mRr (va_up r4 49 (upd (r4 49) x4_8.toNatClampNeg v_43)) := Rr_upd hRr 49 (x4_8.toNatClampNeg) v_43 (b_rg _)
                  have hEr : mEr [49] _ (va_up r4 49 (upd (r4 49) x4_8.toNatClampNeg v_43)) := Er_up hEr 49 _ (by decide)
                  refine lv_aload_n hx hb dX12_sharesOut_118 rfl (lv_at hl 5 rfl) ?_
                  refine va_get (D := D) (ci := 12) (v := .ref (a 48)) (C := RX12) (T := TX12) (N := 91) hx hb hT iX12 hown hK hP 0 rfl rfl 61 (by decide) (hT _ t_795) (fun _ h9 => h9) rfl dX12_sharesOut_119 ?_
                  refine lv_iload hx hb dX12_sharesOut_122 (lv_at hl 2 rfl) ?_
                  refine lv_lload_n hx hb dX12_sharesOut_124 rfl (lv_at hl 7 rfl) ?_
                  refine lv_lload hx hb dX12_sharesOut_125 (lv_at hl 1 rfl) ?_
                  refine lv_lmul hx hb dX12_sharesOut_127 ?_
                  refine lv_topl (fun v_44 ev_44 => ?_)
                  refine lv_lload hx hb dX12_sharesOut_128 (lv_at hl 0 rfl) ?_
                  refine lv_lrem hx hb dX12_sharesOut_130 (by rw [← ev_40]; exact i2l_ne (by omega)) ?_
                  refine lv_topl (fun v_45 ev_45 => ?_)
                  refine va_last hx hb hK hP hD hS 48 3 rfl rfl (vp_inI (by omega) (by omega)) dX12_sharesOut_131 (fun H locs hP hD hS => ?_)
                  rw [mL] at hP hD
                  refine lv_lload hx hb dX12_sharesOut_132 (lv_at hl 3 rfl) ?_
                  refine lv_aload_n hx hb dX12_sharesOut_134 rfl (lv_at hl 5 rfl) ?_
                  refine va_get (D := D) (ci := 12) (v := .ref (a 49)) (C := RX12) (T := TX12) (N := 91) hx hb hT iX12 hown hK hP 0 rfl rfl 62 (by decide) (hT _ t_796) (fun _ h9 => h9) rfl dX12_sharesOut_135 ?_
                  refine lv_iload hx hb dX12_sharesOut_138 (lv_at hl 2 rfl) ?_
                  refine va_iald hx hb hK hP 49 0 rfl rfl (vp_inI (by omega) (by omega)) dX12_sharesOut_140 ?_
                  refine lv_topi (fun v_46 ev_46 => ?_)
                  obtain ⟨v_47, ev_47⟩ : ∃ y : Int64, v_46.toInt64 = y := ⟨_, rfl⟩
                  refine lv_i2l (v := v_47) hx hb dX12_sharesOut_141 ev_47 ?_
                  refine lv_lsub hx hb dX12_sharesOut_142 ?_
                  refine lv_topl (fun v_48 ev_48 => ?_)
                  refine lv_lstore (lv' := [(6, .long v_48), (11, .long v_40), (9, .long v_27), (8, .int x4_8), (4, .long x1_4), (0, .ref (a 0)), (1, .int p0), (2, .long q9)]) hx hb dX12_sharesOut_143 hl (by decide) rfl (fun ls hl => ?_)
                  obtain ⟨x_49, ex_49⟩ : ∃ y : Int32, y = x4_8 + 1 := ⟨_, rfl⟩
                  refine lv_iinc (v := x_49) (lv' := [(8, .int x_49), (6, .long v_48), (11, .long v_40), (9, .long v_27), (4, .long x1_4), (0, .ref (a 0)), (1, .int p0), (2, .long q9)]) hx hb dX12_sharesOut_145 hl (k := 3) rfl (by rw [ex_49]; rfl) (by decide) rfl (fun ls hl => ?_)
                  have hx_49 : x_49.toInt = x4_8.toInt + 1 := by rw [ex_49]; have := b_rg x4_8; exact i_add (a := x4_8.toInt) (b := 1) rfl rfl (by omega) (by omega)
                  refine lv_goto (tgt := 46) hx hb dX12_sharesOut_148 (by decide) ?_
                  exact ih4 x_49 v_48 (va_up r4 49 (upd (r4 49) x4_8.toNatClampNeg v_43)) (vp_updL l4 x4_8.toNatClampNeg v_45) _ _ _ (by first | omega | (simp only [Int.toNat]; omega)) (by first | omega | decide) hRr hEr  hP hD hS (lv_sub hl [0, 1, 4, 5, 6, 7] rfl)
              · have c_23 : v_22.toInt = 0 := b_nne c_23
                refine lv_lconst (v := 1) hx hb dX12_sharesOut_64 rfl ?_
                refine lv_goto (tgt := 80) hx hb dX12_sharesOut_65 (by decide) ?_
                refine lv_lstore (lv' := [(9, .long 1), (8, .int x4_8), (6, .long x4_6), (4, .long x1_4), (0, .ref (a 0)), (1, .int p0), (2, .long q9)]) hx hb dX12_sharesOut_80 hl (by decide) rfl (fun ls hl => ?_)
                refine lv_lload hx hb dX12_sharesOut_82 (lv_at hl 3 rfl) ?_
                refine lv_lconst (v := 0) hx hb dX12_sharesOut_84 rfl ?_
                refine W.lcmp hx hb dX12_sharesOut_85 ?_
                refine lv_topi (fun v_50 ev_50 => ?_)
                refine lv_if_ne (tgt := 99) hx hb dX12_sharesOut_86 (by decide) (fun c_51 => ?_) (fun c_51 => ?_)
                · have c_51 : v_50.toInt ≠ 0 := b_ne c_51
                  refine lv_lload hx hb dX12_sharesOut_99 (lv_at hl 3 rfl) ?_
                  refine lv_lstore (lv' := [(11, .long x1_4), (9, .long 1), (8, .int x4_8), (6, .long x4_6), (4, .long x1_4), (0, .ref (a 0)), (1, .int p0), (2, .long q9)]) hx hb dX12_sharesOut_101 hl (by decide) rfl (fun ls hl => ?_)
                  refine lv_aload_n hx hb dX12_sharesOut_103 rfl (lv_at hl 5 rfl) ?_
                  refine va_get (D := D) (ci := 12) (v := .ref (a 49)) (C := RX12) (T := TX12) (N := 91) hx hb hT iX12 hown hK hP 0 rfl rfl 62 (by decide) (hT _ t_796) (fun _ h9 => h9) rfl dX12_sharesOut_104 ?_
                  refine lv_iload hx hb dX12_sharesOut_107 (lv_at hl 2 rfl) ?_
                  refine lv_lload_n hx hb dX12_sharesOut_109 rfl (lv_at hl 7 rfl) ?_
                  refine lv_lload hx hb dX12_sharesOut_110 (lv_at hl 1 rfl) ?_
                  refine lv_lmul hx hb dX12_sharesOut_112 ?_
                  refine lv_topl (fun v_52 ev_52 => ?_)
                  refine lv_lload hx hb dX12_sharesOut_113 (lv_at hl 0 rfl) ?_
                  refine lv_ldiv hx hb dX12_sharesOut_115 (lcmp_ne (by rw [← ev_50]; exact c_51)) ?_
                  refine lv_topl (fun v_53 ev_53 => ?_)
                  obtain ⟨v_54, ev_54⟩ : ∃ y : Int32, v_53.toInt32 = y := ⟨_, rfl⟩
                  refine lv_l2i (v := v_54) hx hb dX12_sharesOut_116 ev_54 ?_
                  refine va_iast hx hb hK hP hD hS 49 0 rfl rfl (vp_inI (by omega) (by omega)) dX12_sharesOut_117 (fun H locs hP hD hS => ?_)
                  rw [mS49] at hP hD
                  have hRr : mRr (va_up r4 49 (upd (r4 49) x4_8.toNatClampNeg v_54)) := Rr_upd hRr 49 (x4_8.toNatClampNeg) v_54 (b_rg _)
                  have hEr : mEr [49] _ (va_up r4 49 (upd (r4 49) x4_8.toNatClampNeg v_54)) := Er_up hEr 49 _ (by decide)
                  refine lv_aload_n hx hb dX12_sharesOut_118 rfl (lv_at hl 5 rfl) ?_
                  refine va_get (D := D) (ci := 12) (v := .ref (a 48)) (C := RX12) (T := TX12) (N := 91) hx hb hT iX12 hown hK hP 0 rfl rfl 61 (by decide) (hT _ t_795) (fun _ h9 => h9) rfl dX12_sharesOut_119 ?_
                  refine lv_iload hx hb dX12_sharesOut_122 (lv_at hl 2 rfl) ?_
                  refine lv_lload_n hx hb dX12_sharesOut_124 rfl (lv_at hl 7 rfl) ?_
                  refine lv_lload hx hb dX12_sharesOut_125 (lv_at hl 1 rfl) ?_
                  refine lv_lmul hx hb dX12_sharesOut_127 ?_
                  refine lv_topl (fun v_55 ev_55 => ?_)
                  refine lv_lload hx hb dX12_sharesOut_128 (lv_at hl 0 rfl) ?_
                  refine lv_lrem hx hb dX12_sharesOut_130 (lcmp_ne (by rw [← ev_50]; exact c_51)) ?_
                  refine lv_topl (fun v_56 ev_56 => ?_)
                  refine va_last hx hb hK hP hD hS 48 3 rfl rfl (vp_inI (by omega) (by omega)) dX12_sharesOut_131 (fun H locs hP hD hS => ?_)
                  rw [mL] at hP hD
                  refine lv_lload hx hb dX12_sharesOut_132 (lv_at hl 3 rfl) ?_
                  refine lv_aload_n hx hb dX12_sharesOut_134 rfl (lv_at hl 5 rfl) ?_
                  refine va_get (D := D) (ci := 12) (v := .ref (a 49)) (C := RX12) (T := TX12) (N := 91) hx hb hT iX12 hown hK hP 0 rfl rfl 62 (by decide) (hT _ t_796) (fun _ h9 => h9) rfl dX12_sharesOut_135 ?_
                  refine lv_iload hx hb dX12_sharesOut_138 (lv_at hl 2 rfl) ?_
                  refine va_iald hx hb hK hP 49 0 rfl rfl (vp_inI (by omega) (by omega)) dX12_sharesOut_140 ?_
                  refine lv_topi (fun v_57 ev_57 => ?_)
                  obtain ⟨v_58, ev_58⟩ : ∃ y : Int64, v_57.toInt64 = y := ⟨_, rfl⟩
                  refine lv_i2l (v := v_58) hx hb dX12_sharesOut_141 ev_58 ?_
                  refine lv_lsub hx hb dX12_sharesOut_142 ?_
                  refine lv_topl (fun v_59 ev_59 => ?_)
                  refine lv_lstore (lv' := [(6, .long v_59), (11, .long x1_4), (9, .long 1), (8, .int x4_8), (4, .long x1_4), (0, .ref (a 0)), (1, .int p0), (2, .long q9)]) hx hb dX12_sharesOut_143 hl (by decide) rfl (fun ls hl => ?_)
                  obtain ⟨x_60, ex_60⟩ : ∃ y : Int32, y = x4_8 + 1 := ⟨_, rfl⟩
                  refine lv_iinc (v := x_60) (lv' := [(8, .int x_60), (6, .long v_59), (11, .long x1_4), (9, .long 1), (4, .long x1_4), (0, .ref (a 0)), (1, .int p0), (2, .long q9)]) hx hb dX12_sharesOut_145 hl (k := 3) rfl (by rw [ex_60]; rfl) (by decide) rfl (fun ls hl => ?_)
                  have hx_60 : x_60.toInt = x4_8.toInt + 1 := by rw [ex_60]; have := b_rg x4_8; exact i_add (a := x4_8.toInt) (b := 1) rfl rfl (by omega) (by omega)
                  refine lv_goto (tgt := 46) hx hb dX12_sharesOut_148 (by decide) ?_
                  exact ih4 x_60 v_59 (va_up r4 49 (upd (r4 49) x4_8.toNatClampNeg v_54)) (vp_updL l4 x4_8.toNatClampNeg v_56) _ _ _ (by first | omega | (simp only [Int.toNat]; omega)) (by first | omega | decide) hRr hEr  hP hD hS (lv_sub hl [0, 1, 4, 5, 6, 7] rfl)
                · have c_51 : v_50.toInt = 0 := b_nne c_51
                  refine lv_aload_n hx hb dX12_sharesOut_89 rfl (lv_at hl 4 rfl) ?_
                  refine va_get (D := D) (ci := 12) (v := .ref (a 4)) (C := RX12) (T := TX12) (N := 91) hx hb hT iX12 hown hK hP 0 rfl rfl 5 (by decide) (hT _ t_66) (fun _ h9 => h9) rfl dX12_sharesOut_90 ?_
                  refine lv_iload_n hx hb dX12_sharesOut_93 rfl (lv_at hl 5 rfl) ?_
                  refine va_iald hx hb hK hP 4 0 rfl rfl (vp_inI (by omega) (by omega)) dX12_sharesOut_94 ?_
                  refine lv_topi (fun v_61 ev_61 => ?_)
                  have hgv_61 : 0 ≤ v_61.toInt ∧ v_61.toInt ≤ 4 := by rw [ev_61]; exact hRr 4 _
                  have htv_61 : 1 ≤ v_61.toInt := by rw [ev_61, hEr 4 (by decide)]; exact hE.1 _ (by have h9 : p0.toNatClampNeg = p0.toInt.toNat := rfl; omega)
                  obtain ⟨v_62, ev_62⟩ : ∃ y : Int64, v_61.toInt64 = y := ⟨_, rfl⟩
                  refine lv_i2l (v := v_62) hx hb dX12_sharesOut_95 ev_62 ?_
                  refine lv_goto (tgt := 101) hx hb dX12_sharesOut_96 (by decide) ?_
                  refine lv_lstore (lv' := [(11, .long v_62), (9, .long 1), (8, .int x4_8), (6, .long x4_6), (4, .long x1_4), (0, .ref (a 0)), (1, .int p0), (2, .long q9)]) hx hb dX12_sharesOut_101 hl (by decide) rfl (fun ls hl => ?_)
                  refine lv_aload_n hx hb dX12_sharesOut_103 rfl (lv_at hl 5 rfl) ?_
                  refine va_get (D := D) (ci := 12) (v := .ref (a 49)) (C := RX12) (T := TX12) (N := 91) hx hb hT iX12 hown hK hP 0 rfl rfl 62 (by decide) (hT _ t_796) (fun _ h9 => h9) rfl dX12_sharesOut_104 ?_
                  refine lv_iload hx hb dX12_sharesOut_107 (lv_at hl 2 rfl) ?_
                  refine lv_lload_n hx hb dX12_sharesOut_109 rfl (lv_at hl 7 rfl) ?_
                  refine lv_lload hx hb dX12_sharesOut_110 (lv_at hl 1 rfl) ?_
                  refine lv_lmul hx hb dX12_sharesOut_112 ?_
                  refine lv_topl (fun v_63 ev_63 => ?_)
                  refine lv_lload hx hb dX12_sharesOut_113 (lv_at hl 0 rfl) ?_
                  refine lv_ldiv hx hb dX12_sharesOut_115 (by rw [← ev_62]; exact i2l_ne (by omega)) ?_
                  refine lv_topl (fun v_64 ev_64 => ?_)
                  obtain ⟨v_65, ev_65⟩ : ∃ y : Int32, v_64.toInt32 = y := ⟨_, rfl⟩
                  refine lv_l2i (v := v_65) hx hb dX12_sharesOut_116 ev_65 ?_
                  refine va_iast hx hb hK hP hD hS 49 0 rfl rfl (vp_inI (by omega) (by omega)) dX12_sharesOut_117 (fun H locs hP hD hS => ?_)
                  rw [mS49] at hP hD
                  have hRr : mRr (va_up r4 49 (upd (r4 49) x4_8.toNatClampNeg v_65)) := Rr_upd hRr 49 (x4_8.toNatClampNeg) v_65 (b_rg _)
                  have hEr : mEr [49] _ (va_up r4 49 (upd (r4 49) x4_8.toNatClampNeg v_65)) := Er_up hEr 49 _ (by decide)
                  refine lv_aload_n hx hb dX12_sharesOut_118 rfl (lv_at hl 5 rfl) ?_
                  refine va_get (D := D) (ci := 12) (v := .ref (a 48)) (C := RX12) (T := TX12) (N := 91) hx hb hT iX12 hown hK hP 0 rfl rfl 61 (by decide) (hT _ t_795) (fun _ h9 => h9) rfl dX12_sharesOut_119 ?_
                  refine lv_iload hx hb dX12_sharesOut_122 (lv_at hl 2 rfl) ?_
                  refine lv_lload_n hx hb dX12_sharesOut_124 rfl (lv_at hl 7 rfl) ?_
                  refine lv_lload hx hb dX12_sharesOut_125 (lv_at hl 1 rfl) ?_
                  refine lv_lmul hx hb dX12_sharesOut_127 ?_
                  refine lv_topl (fun v_66 ev_66 => ?_)
                  refine lv_lload hx hb dX12_sharesOut_128 (lv_at hl 0 rfl) ?_
                  refine lv_lrem hx hb dX12_sharesOut_130 (by rw [← ev_62]; exact i2l_ne (by omega)) ?_
                  refine lv_topl (fun v_67 ev_67 => ?_)
                  refine va_last hx hb hK hP hD hS 48 3 rfl rfl (vp_inI (by omega) (by omega)) dX12_sharesOut_131 (fun H locs hP hD hS => ?_)
                  rw [mL] at hP hD
                  refine lv_lload hx hb dX12_sharesOut_132 (lv_at hl 3 rfl) ?_
                  refine lv_aload_n hx hb dX12_sharesOut_134 rfl (lv_at hl 5 rfl) ?_
                  refine va_get (D := D) (ci := 12) (v := .ref (a 49)) (C := RX12) (T := TX12) (N := 91) hx hb hT iX12 hown hK hP 0 rfl rfl 62 (by decide) (hT _ t_796) (fun _ h9 => h9) rfl dX12_sharesOut_135 ?_
                  refine lv_iload hx hb dX12_sharesOut_138 (lv_at hl 2 rfl) ?_
                  refine va_iald hx hb hK hP 49 0 rfl rfl (vp_inI (by omega) (by omega)) dX12_sharesOut_140 ?_
                  refine lv_topi (fun v_68 ev_68 => ?_)
                  obtain ⟨v_69, ev_69⟩ : ∃ y : Int64, v_68.toInt64 = y := ⟨_, rfl⟩
                  refine lv_i2l (v := v_69) hx hb dX12_sharesOut_141 ev_69 ?_
                  refine lv_lsub hx hb dX12_sharesOut_142 ?_
                  refine lv_topl (fun v_70 ev_70 => ?_)
                  refine lv_lstore (lv' := [(6, .long v_70), (11, .long v_62), (9, .long 1), (8, .int x4_8), (4, .long x1_4), (0, .ref (a 0)), (1, .int p0), (2, .long q9)]) hx hb dX12_sharesOut_143 hl (by decide) rfl (fun ls hl => ?_)
                  obtain ⟨x_71, ex_71⟩ : ∃ y : Int32, y = x4_8 + 1 := ⟨_, rfl⟩
                  refine lv_iinc (v := x_71) (lv' := [(8, .int x_71), (6, .long v_70), (11, .long v_62), (9, .long 1), (4, .long x1_4), (0, .ref (a 0)), (1, .int p0), (2, .long q9)]) hx hb dX12_sharesOut_145 hl (k := 3) rfl (by rw [ex_71]; rfl) (by decide) rfl (fun ls hl => ?_)
                  have hx_71 : x_71.toInt = x4_8.toInt + 1 := by rw [ex_71]; have := b_rg x4_8; exact i_add (a := x4_8.toInt) (b := 1) rfl rfl (by omega) (by omega)
                  refine lv_goto (tgt := 46) hx hb dX12_sharesOut_148 (by decide) ?_
                  exact ih4 x_71 v_70 (va_up r4 49 (upd (r4 49) x4_8.toNatClampNeg v_65)) (vp_updL l4 x4_8.toNatClampNeg v_67) _ _ _ (by first | omega | (simp only [Int.toNat]; omega)) (by first | omega | decide) hRr hEr  hP hD hS (lv_sub hl [0, 1, 4, 5, 6, 7] rfl)
        exact loop_4 _ 0 q9 r rl _ _ _ (Nat.lt_succ_self _) (by first | omega | decide) hRr hEr  hP hD hS hl
      · have c_3 : x1_6.toInt < v_2.toInt := b_nle c_3
        refine lv_lload hx hb dX12_sharesOut_17 (lv_at hl 1 rfl) ?_
        refine lv_aload_n hx hb dX12_sharesOut_19 rfl (lv_at hl 2 rfl) ?_
        refine va_get (D := D) (ci := 12) (v := .ref (a 8)) (C := RX12) (T := TX12) (N := 91) hx hb hT iX12 hown hK hP 0 rfl rfl 9 (by decide) (hT _ t_176) (fun _ h9 => h9) rfl dX12_sharesOut_20 ?_
        refine lv_iconst (v := 4) hx hb dX12_sharesOut_23 (by decide) ?_
        refine lv_iload_n hx hb dX12_sharesOut_24 rfl (lv_at hl 3 rfl) ?_
        refine lv_imul hx hb dX12_sharesOut_25 ?_
        refine lv_topi (fun v_72 ev_72 => ?_)
        have hv_72 : v_72.toInt = 4 * p0.toInt := by rw [ev_72]; have := b_rg p0; exact i_mul (a := 4) (b := p0.toInt) rfl rfl (by omega) (by omega)
        refine lv_iload hx hb dX12_sharesOut_26 (lv_at hl 0 rfl) ?_
        refine lv_iadd hx hb dX12_sharesOut_28 ?_
        refine lv_topi (fun v_73 ev_73 => ?_)
        have hv_73 : v_73.toInt = v_72.toInt + x1_6.toInt := by rw [ev_73]; have := b_rg v_72; have := b_rg x1_6; exact i_add (a := v_72.toInt) (b := x1_6.toInt) rfl rfl (by omega) (by omega)
        refine va_iald hx hb hK hP 8 0 rfl rfl (vp_inI (by omega) (by omega)) dX12_sharesOut_29 ?_
        refine lv_topi (fun v_74 ev_74 => ?_)
        have hgv_74 : 0 ≤ v_74.toInt ∧ v_74.toInt ≤ 99 := by rw [ev_74]; exact hRr 8 _
        obtain ⟨v_75, ev_75⟩ : ∃ y : Int64, v_74.toInt64 = y := ⟨_, rfl⟩
        refine lv_i2l (v := v_75) hx hb dX12_sharesOut_30 ev_75 ?_
        refine lv_ladd hx hb dX12_sharesOut_31 ?_
        refine lv_topl (fun v_76 ev_76 => ?_)
        refine lv_lstore (lv' := [(4, .long v_76), (6, .int x1_6), (0, .ref (a 0)), (1, .int p0), (2, .long q9)]) hx hb dX12_sharesOut_32 hl (by decide) rfl (fun ls hl => ?_)
        obtain ⟨x_77, ex_77⟩ : ∃ y : Int32, y = x1_6 + 1 := ⟨_, rfl⟩
        refine lv_iinc (v := x_77) (lv' := [(6, .int x_77), (4, .long v_76), (0, .ref (a 0)), (1, .int p0), (2, .long q9)]) hx hb dX12_sharesOut_34 hl (k := 1) rfl (by rw [ex_77]; rfl) (by decide) rfl (fun ls hl => ?_)
        have hx_77 : x_77.toInt = x1_6.toInt + 1 := by rw [ex_77]; have := b_rg x1_6; exact i_add (a := x1_6.toInt) (b := 1) rfl rfl (by omega) (by omega)
        refine lv_goto (tgt := 6) hx hb dX12_sharesOut_37 (by decide) ?_
        exact ih1 x_77 v_76 _ _ _ (by first | omega | (simp only [Int.toNat]; omega)) (by first | omega | decide)   hP hD hS (lv_sub hl [0, 1, 2, 3, 4] rfl)
  exact loop_1 _ 0 0 _ _ _ (Nat.lt_succ_self _) (by first | omega | decide)   hP hD hS hl
set_option maxHeartbeats 4000000 in
set_option maxRecDepth 100000 in
theorem c_X12_judged (l : Launch) (D : va_G) (cy : Nat → ClassId) (a : Nat → Nat) (i : Nat → Int32) (r : Nat → Nat → Int32) (rl : Nat → Int64) (p0 p1 p2 : Int32) (sz : Nat) (hRi : mRi i) (hRr : mRr r) (hE : mE i r) : Met l yX12_judged (Cond.code yX12_judged cX12_judged 4 (some .int) :: gT) { frames := 10, cells := 0, slots := 0, locals := 238 } (va_Pc [.ref (a 0), .int p0, .int p1, .int p2] (rQ D cy (mW cy a i r rl) sz)) (va_Qi (fun (z : Int32) (u : (Nat → Int32) × (Nat → Nat → Int32) × (Nat → Int64)) => mRi u.1 ∧ mRr u.2.1 ∧ mEi [23, 24, 25, 26, 27, 28, 29, 30, 60] i u.1 ∧ mEr [32, 33, 34, 35, 36, 37, 38, 39, 49] r u.2.1 ∧ True) (fun (u : (Nat → Int32) × (Nat → Nat → Int32) × (Nat → Int64)) t => va_P D vwCl (mW cy a u.1 u.2.1 u.2.2) t.heap ∧ va_K D vwCl (vT cy) t ∧ va_D (va_A (mW cy a i r rl) sz) (mW cy a u.1 u.2.1 u.2.2)) (va_A (mW cy a i r rl) sz)) 0 0 (va_A (mW cy a i r rl) sz) := by
  refine Met.ofQ (cc := cX12_judged) (maxL := 4) (ret := (some .int)) (by decide) rfl ?_
  intro p e s m args below meth c s₁ B hml hv Q hQ
  obtain ⟨rfl, hsz, hP, hK, hD0⟩ := hv
  have hx := B.exec
  have hb := B.bytes
  have hr := B.returns
  have hlocks := B.notSynchronized
  have hT : ∀ w ∈ gT, w.before _ s = true := fun w h => atoms_spec (ws := (Cond.code yX12_judged cX12_judged 4 (some .int) :: gT)) B.pre w (List.mem_cons_of_mem _ h)
  have hown : s.vm.findClass RX12 = some m.cls := findClass_of_methodNamed B.named
  subst hsz
  have hD := hD0.self (sz := s.heap.size)
  generalize hAe : va_A (mW cy a i r rl) s.heap.size = A at hD hQ
  have hA : ∀ q : Nat, s.heap.size ≤ q → A q := fun q h => by rw [← hAe]; exact Or.inr h
  have hS : va_S A s.heap s.heap [] := va_S.rf
  have hl := lv_entry ([.ref (a 0), .int p0, .int p1, .int p2]) (n := 4) (Nat.le_of_ble_eq_true rfl)
  rw [lg_entry_eq]
  generalize (lg_sl ([.ref (a 0), .int p0, .int p1, .int p2]) ++ List.replicate (4 - (lg_sl ([.ref (a 0), .int p0, .int p1, .int p2])).length) Slot.unset).toArray = ls at hl ⊢
  have hl : lv_has ls 4 [(0, .ref (a 0)), (1, .int p0), (2, .int p1), (3, .int p2)] := hl
  have hEi : mEi [23, 24, 25, 26, 27, 28, 29, 30, 60] i i := Ei_rf
  have hEr : mEr [32, 33, 34, 35, 36, 37, 38, 39, 49] r r := Er_rf
  refine lv_aload_n hx hb dX12_judged_0 rfl (lv_at hl 0 rfl) ?_
  refine lv_iload_n hx hb dX12_judged_1 rfl (lv_at hl 1 rfl) ?_
  refine vp_callSi (W.runV (As := [.int p0]) (rest := []) ⟨hx, hb, hml, hown, hT⟩ (c_X12_isHome l D cy a i r rl p0 hRi hRr) (cwV 1 hT (gV t_12 t_13 t_14 t_15 t_6) rfl rfl rfl (by decide +kernel) ⟨Nat.le_of_ble_eq_true rfl, Nat.le_of_ble_eq_true rfl⟩) (rP_v hP hK (va_recv hK hP (ci := 12) (q0 := 0) rfl rfl)) rfl rfl hl.1 rfl (lv_room (Nat.le_of_ble_eq_true rfl)) dX12_judged_2 ⟨Nat.le_of_ble_eq_true rfl, Nat.le_of_ble_eq_true rfl⟩) (fun r_1 hr_1 => ?_)
  have hg_2 : 0 ≤ (i 0).toInt ∧ (i 0).toInt ≤ 6 := hRi 0
  have hr_1 : BR r_1 (0 ≤ p0.toInt ∧ p0.toInt < (i 0).toInt) 1 0 := hr_1
  rcases hr_1 with ⟨rfl, h_3⟩ | ⟨rfl, h_3⟩
  · skip
    refine lv_if_eq (tgt := 42) hx hb dX12_judged_5 (by decide) (fun c_4 => absurd c_4 (by decide)) (fun c_4 => ?_)
    refine lv_iload_n hx hb dX12_judged_8 rfl (lv_at hl 2 rfl) ?_
    refine vp_callSi (W.runS (As := [.int p1]) (rest := []) ⟨hx, hb, hml, hown, hT⟩ (c_X12_isDay l p1) (va_cwS 1 hT (gS t_157 t_158 t_159 t_6) rfl rfl rfl (by decide +kernel) ⟨Nat.le_of_ble_eq_true rfl, Nat.le_of_ble_eq_true rfl⟩) preT rfl rfl hl.1 rfl (lv_room (Nat.le_of_ble_eq_true rfl)) dX12_judged_9 ⟨Nat.le_of_ble_eq_true rfl, Nat.le_of_ble_eq_true rfl⟩) (fun r_5 hr_5 => ?_)
    have hr_5 : BR r_5 (0 ≤ p1.toInt ∧ p1.toInt ≤ 9999) 1 0 := hr_5
    rcases hr_5 with ⟨rfl, h_6⟩ | ⟨rfl, h_6⟩
    · skip
      refine lv_if_eq (tgt := 42) hx hb dX12_judged_12 (by decide) (fun c_7 => absurd c_7 (by decide)) (fun c_7 => ?_)
      refine lv_iload_n hx hb dX12_judged_15 rfl (lv_at hl 3 rfl) ?_
      refine lv_iconst (v := 0) hx hb dX12_judged_16 (by decide) ?_
      refine lv_iconst (v := 3) hx hb dX12_judged_17 (by decide) ?_
      refine vp_callSi (W.runS (As := [.int p2, .int 0, .int 3]) (rest := []) ⟨hx, hb, hml, hown, hT⟩ (c_X12_in l p2 0 3) (va_cwS 3 hT (gS t_113 t_114 t_115 t_6) rfl rfl rfl (by decide +kernel) ⟨Nat.le_of_ble_eq_true rfl, Nat.le_of_ble_eq_true rfl⟩) preT rfl rfl hl.1 rfl (lv_room (Nat.le_of_ble_eq_true rfl)) dX12_judged_18 ⟨Nat.le_of_ble_eq_true rfl, Nat.le_of_ble_eq_true rfl⟩) (fun r_8 hr_8 => ?_)
      have hr_8 : BR r_8 (0 ≤ p2.toInt ∧ p2.toInt ≤ 3) 1 0 := hr_8
      rcases hr_8 with ⟨rfl, h_9⟩ | ⟨rfl, h_9⟩
      · skip
        refine lv_if_ne (tgt := 44) hx hb dX12_judged_21 (by decide) (fun c_10 => ?_) (fun c_10 => absurd c_10 (by decide))
        refine lv_iload_n hx hb dX12_judged_44 rfl (lv_at hl 3 rfl) ?_
        rcases (show (p2.toInt < 0 ∨ 3 < p2.toInt) ∨ p2.toInt = 0 ∨ p2.toInt = 1 ∨ p2.toInt = 2 ∨ p2.toInt = 3 by omega) with h_11 | h_11 | h_11 | h_11 | h_11
        · refine lv_tableOut (tgt := 103) hx hb dX12_judged_45 h_11 (by decide) ?_
          exfalso; omega
        · refine lv_tableIn (off := 31) (tgt := 76) hx hb dX12_judged_45 (by omega) (by omega) (by rw [h_11]; rfl) (by decide) ?_
          refine lv_aload_n hx hb dX12_judged_76 rfl (lv_at hl 0 rfl) ?_
          refine lv_iload_n hx hb dX12_judged_77 rfl (lv_at hl 1 rfl) ?_
          refine lv_iload_n hx hb dX12_judged_78 rfl (lv_at hl 2 rfl) ?_
          have hF_12 := rF hD hS hA
          refine va_calli (va_runV (As := [.int p0, .int p1]) (rest := []) ⟨hx, hb, hml, hown, hT⟩ (c_X12_ownerGets l D cy a i r rl p0 p1 _ hRi hRr (mE_same hEi hEr (by decide) (by decide) hE) (by omega)) (cwV 2 hT (gV t_171 t_172 t_173 t_174 t_6) rfl rfl rfl (by decide +kernel) ⟨Nat.le_of_ble_eq_true rfl, Nat.le_of_ble_eq_true rfl⟩) (rQ_v hP hK hD (va_recv hK hP (ci := 12) (q0 := 0) rfl rfl)) rfl rfl hl.1 rfl (lv_room (Nat.le_of_ble_eq_true rfl)) dX12_judged_79 ⟨Nat.le_of_ble_eq_true rfl, Nat.le_of_ble_eq_true rfl⟩) hS (fun q _ h => hF_12 q h) hF_12 (fun r_13 u_14 t H1 locs ht hvm hr_13 hB hz1 hk1 hS => ?_)
          obtain ⟨i14, r14⟩ := u_14
          obtain ⟨hP, hK1, hD1⟩ := hB
          rw [ht] at hP
          have hD := hD1.weaken (fun k q _ h => hF_12 q.1 h)
          have hP : va_P D vwCl (mW cy a i14 r14 rl) H1 := hP
          have hD : va_D A (mW cy a i14 r14 rl) := hD
          obtain ⟨hRi, hRr, hE1, hE2, hr_13⟩ := hr_13
          have hRi : mRi i14 := hRi
          have hRr : mRr r14 := hRr
          have hEi : mEi [23, 24, 25, 26, 27, 28, 29, 30, 60] _ i14 := Ei_tr hEi hE1 (by decide)
          have hEr : mEr [32, 33, 34, 35, 36, 37, 38, 39, 49] _ r14 := Er_tr hEr hE2 (by decide)
          subst hQ
          exact W.iret (v := r_13) hx hb hr (fun t ht hW => ⟨⟨_, (i14, r14, rl), rfl, ⟨hRi, hRr, hEi, hEr, trivial⟩, by rw [ht]; exact hP, va_K.moved hW.alike hK, hD⟩, hS.F ht⟩) hS.2.2 dX12_judged_82
        · refine lv_tableIn (off := 38) (tgt := 83) hx hb dX12_judged_45 (by omega) (by omega) (by rw [h_11]; rfl) (by decide) ?_
          refine lv_aload_n hx hb dX12_judged_83 rfl (lv_at hl 0 rfl) ?_
          refine lv_iload_n hx hb dX12_judged_84 rfl (lv_at hl 1 rfl) ?_
          refine lv_iload_n hx hb dX12_judged_85 rfl (lv_at hl 2 rfl) ?_
          have hF_15 := rF hD hS hA
          refine va_calli (va_runV (As := [.int p0, .int p1]) (rest := []) ⟨hx, hb, hml, hown, hT⟩ (c_X12_backOf l D cy a i r rl p0 p1 _ hRi hRr (mE_same hEi hEr (by decide) (by decide) hE) (by omega)) (cwV 2 hT (gV t_826 t_827 t_828 t_829 t_6) rfl rfl rfl (by decide +kernel) ⟨Nat.le_of_ble_eq_true rfl, Nat.le_of_ble_eq_true rfl⟩) (rQ_v hP hK hD (va_recv hK hP (ci := 12) (q0 := 0) rfl rfl)) rfl rfl hl.1 rfl (lv_room (Nat.le_of_ble_eq_true rfl)) dX12_judged_86 ⟨Nat.le_of_ble_eq_true rfl, Nat.le_of_ble_eq_true rfl⟩) hS (fun q _ h => hF_15 q h) hF_15 (fun r_16 u_17 t H1 locs ht hvm hr_16 hB hz1 hk1 hS => ?_)
          obtain ⟨i17, r17⟩ := u_17
          obtain ⟨hP, hK1, hD1⟩ := hB
          rw [ht] at hP
          have hD := hD1.weaken (fun k q _ h => hF_15 q.1 h)
          have hP : va_P D vwCl (mW cy a i17 r17 rl) H1 := hP
          have hD : va_D A (mW cy a i17 r17 rl) := hD
          obtain ⟨hRi, hRr, hE1, hE2, hr_16⟩ := hr_16
          have hRi : mRi i17 := hRi
          have hRr : mRr r17 := hRr
          have hEi : mEi [23, 24, 25, 26, 27, 28, 29, 30, 60] _ i17 := Ei_tr hEi hE1 (by decide)
          have hEr : mEr [32, 33, 34, 35, 36, 37, 38, 39, 49] _ r17 := Er_tr hEr hE2 (by decide)
          subst hQ
          exact W.iret (v := r_16) hx hb hr (fun t ht hW => ⟨⟨_, (i17, r17, rl), rfl, ⟨hRi, hRr, hEi, hEr, trivial⟩, by rw [ht]; exact hP, va_K.moved hW.alike hK, hD⟩, hS.F ht⟩) hS.2.2 dX12_judged_89
        · refine lv_tableIn (off := 45) (tgt := 90) hx hb dX12_judged_45 (by omega) (by omega) (by rw [h_11]; rfl) (by decide) ?_
          refine lv_aload_n hx hb dX12_judged_90 rfl (lv_at hl 0 rfl) ?_
          refine lv_iload_n hx hb dX12_judged_91 rfl (lv_at hl 1 rfl) ?_
          have hF_18 := rF hD hS hA
          refine va_calli (va_runV (As := [.int p0]) (rest := []) ⟨hx, hb, hml, hown, hT⟩ (c_X12_penaltyOf l D cy a i r rl p0 _ hRi hRr (mE_same hEi hEr (by decide) (by decide) hE) (by omega)) (cwV 1 hT (gV t_830 t_831 t_832 t_833 t_6) rfl rfl rfl (by decide +kernel) ⟨Nat.le_of_ble_eq_true rfl, Nat.le_of_ble_eq_true rfl⟩) (rQ_v hP hK hD (va_recv hK hP (ci := 12) (q0 := 0) rfl rfl)) rfl rfl hl.1 rfl (lv_room (Nat.le_of_ble_eq_true rfl)) dX12_judged_92 ⟨Nat.le_of_ble_eq_true rfl, Nat.le_of_ble_eq_true rfl⟩) hS (fun q _ h => hF_18 q h) hF_18 (fun r_19 u_20 t H1 locs ht hvm hr_19 hB hz1 hk1 hS => ?_)
          obtain ⟨r20, rfl⟩ : ∃ z, z = u_20 := ⟨_, rfl⟩
          obtain ⟨hP, hK1, hD1⟩ := hB
          rw [ht] at hP
          have hD := hD1.weaken (fun k q _ h => hF_18 q.1 h)
          have hP : va_P D vwCl (mW cy a i r20 rl) H1 := hP
          have hD : va_D A (mW cy a i r20 rl) := hD
          obtain ⟨hRr, hE2, hr_19⟩ := hr_19
          have hRr : mRr r20 := hRr
          have hEr : mEr [32, 33, 34, 35, 36, 37, 38, 39, 49] _ r20 := Er_tr hEr hE2 (by decide)
          subst hQ
          exact W.iret (v := r_19) hx hb hr (fun t ht hW => ⟨⟨_, (i, r20, rl), rfl, ⟨hRi, hRr, hEi, hEr, trivial⟩, by rw [ht]; exact hP, va_K.moved hW.alike hK, hD⟩, hS.F ht⟩) hS.2.2 dX12_judged_95
        · refine lv_tableIn (off := 51) (tgt := 96) hx hb dX12_judged_45 (by omega) (by omega) (by rw [h_11]; rfl) (by decide) ?_
          refine lv_aload_n hx hb dX12_judged_96 rfl (lv_at hl 0 rfl) ?_
          refine lv_iload_n hx hb dX12_judged_97 rfl (lv_at hl 1 rfl) ?_
          refine lv_iload_n hx hb dX12_judged_98 rfl (lv_at hl 2 rfl) ?_
          have hF_21 := rF hD hS hA
          refine va_calli (va_runV (As := [.int p0, .int p1]) (rest := []) ⟨hx, hb, hml, hown, hT⟩ (c_X12_awardsAll l D cy a i r rl p0 p1 _ hRi hRr (mE_same hEi hEr (by decide) (by decide) hE)) (cwV 2 hT (gV t_164 t_165 t_166 t_167 t_6) rfl rfl rfl (by decide +kernel) ⟨Nat.le_of_ble_eq_true rfl, Nat.le_of_ble_eq_true rfl⟩) (rQ_v hP hK hD (va_recv hK hP (ci := 12) (q0 := 0) rfl rfl)) rfl rfl hl.1 rfl (lv_room (Nat.le_of_ble_eq_true rfl)) dX12_judged_99 ⟨Nat.le_of_ble_eq_true rfl, Nat.le_of_ble_eq_true rfl⟩) hS (fun q _ h => hF_21 q h) hF_21 (fun r_22 u_23 t H1 locs ht hvm hr_22 hB hz1 hk1 hS => ?_)
          obtain ⟨i23, r23⟩ := u_23
          obtain ⟨hP, hK1, hD1⟩ := hB
          rw [ht] at hP
          have hD := hD1.weaken (fun k q _ h => hF_21 q.1 h)
          have hP : va_P D vwCl (mW cy a i23 r23 rl) H1 := hP
          have hD : va_D A (mW cy a i23 r23 rl) := hD
          obtain ⟨hRi, hRr, hE1, hE2, hr_22⟩ := hr_22
          have hRi : mRi i23 := hRi
          have hRr : mRr r23 := hRr
          have hEi : mEi [23, 24, 25, 26, 27, 28, 29, 30, 60] _ i23 := Ei_tr hEi hE1 (by decide)
          have hEr : mEr [32, 33, 34, 35, 36, 37, 38, 39, 49] _ r23 := Er_tr hEr hE2 (by decide)
          subst hQ
          exact W.iret (v := r_22) hx hb hr (fun t ht hW => ⟨⟨_, (i23, r23, rl), rfl, ⟨hRi, hRr, hEi, hEr, trivial⟩, by rw [ht]; exact hP, va_K.moved hW.alike hK, hD⟩, hS.F ht⟩) hS.2.2 dX12_judged_102
      · skip
        refine lv_if_ne (tgt := 44) hx hb dX12_judged_21 (by decide) (fun c_24 => absurd (by decide) c_24) (fun c_24 => ?_)
        refine lv_iload_n hx hb dX12_judged_24 rfl (lv_at hl 3 rfl) ?_
        refine lv_bipush (v := 10) hx hb dX12_judged_25 (by decide) ?_
        refine lv_bipush (v := 9) hx hb dX12_judged_27 (by decide) ?_
        refine lv_aload_n hx hb dX12_judged_29 rfl (lv_at hl 0 rfl) ?_
        refine va_get (D := D) (ci := 12) (v := .ref (a 4)) (C := RX12) (T := TX12) (N := 91) hx hb hT iX12 hown hK hP 0 rfl rfl 5 (by decide) (hT _ t_66) (fun _ h9 => h9) rfl dX12_judged_30 ?_
        refine lv_iload_n hx hb dX12_judged_33 rfl (lv_at hl 1 rfl) ?_
        refine va_iald hx hb hK hP 4 0 rfl rfl (vp_inI (by omega) (by omega)) dX12_judged_34 ?_
        refine lv_topi (fun v_25 ev_25 => ?_)
        have hgv_25 : 0 ≤ v_25.toInt ∧ v_25.toInt ≤ 4 := by rw [ev_25]; exact hRr 4 _
        refine lv_iadd hx hb dX12_judged_35 ?_
        refine lv_topi (fun v_26 ev_26 => ?_)
        have hv_26 : v_26.toInt = 9 + v_25.toInt := by rw [ev_26]; have := b_rg v_25; exact i_add (a := 9) (b := v_25.toInt) rfl rfl (by omega) (by omega)
        refine vp_callSi (W.runS (As := [.int p2, .int 10, .int v_26]) (rest := []) ⟨hx, hb, hml, hown, hT⟩ (c_X12_in l p2 10 v_26) (va_cwS 3 hT (gS t_113 t_114 t_115 t_6) rfl rfl rfl (by decide +kernel) ⟨Nat.le_of_ble_eq_true rfl, Nat.le_of_ble_eq_true rfl⟩) preT rfl rfl hl.1 rfl (lv_room (Nat.le_of_ble_eq_true rfl)) dX12_judged_36 ⟨Nat.le_of_ble_eq_true rfl, Nat.le_of_ble_eq_true rfl⟩) (fun r_27 hr_27 => ?_)
        have hr_27 : BR r_27 (10 ≤ p2.toInt ∧ p2.toInt ≤ v_26.toInt) 1 0 := hr_27
        rcases hr_27 with ⟨rfl, h_28⟩ | ⟨rfl, h_28⟩
        · skip
          refine lv_if_ne (tgt := 44) hx hb dX12_judged_39 (by decide) (fun c_29 => ?_) (fun c_29 => absurd c_29 (by decide))
          refine lv_iload_n hx hb dX12_judged_44 rfl (lv_at hl 3 rfl) ?_
          rcases (show (p2.toInt < 0 ∨ 3 < p2.toInt) ∨ p2.toInt = 0 ∨ p2.toInt = 1 ∨ p2.toInt = 2 ∨ p2.toInt = 3 by omega) with h_30 | h_30 | h_30 | h_30 | h_30
          · refine lv_tableOut (tgt := 103) hx hb dX12_judged_45 h_30 (by decide) ?_
            refine lv_aload_n hx hb dX12_judged_103 rfl (lv_at hl 0 rfl) ?_
            refine lv_iload_n hx hb dX12_judged_104 rfl (lv_at hl 1 rfl) ?_
            refine lv_aload_n hx hb dX12_judged_105 rfl (lv_at hl 0 rfl) ?_
            refine lv_iload_n hx hb dX12_judged_106 rfl (lv_at hl 1 rfl) ?_
            refine lv_iload_n hx hb dX12_judged_107 rfl (lv_at hl 2 rfl) ?_
            have hF_31 := rF hD hS hA
            refine va_calli (va_runV (As := [.int p0, .int p1]) (rest := [.int p0, .ref (a 0)]) ⟨hx, hb, hml, hown, hT⟩ (c_X12_backOf l D cy a i r rl p0 p1 _ hRi hRr (mE_same hEi hEr (by decide) (by decide) hE) (by omega)) (cwV 2 hT (gV t_826 t_827 t_828 t_829 t_6) rfl rfl rfl (by decide +kernel) ⟨Nat.le_of_ble_eq_true rfl, Nat.le_of_ble_eq_true rfl⟩) (rQ_v hP hK hD (va_recv hK hP (ci := 12) (q0 := 0) rfl rfl)) rfl rfl hl.1 rfl (lv_room (Nat.le_of_ble_eq_true rfl)) dX12_judged_108 ⟨Nat.le_of_ble_eq_true rfl, Nat.le_of_ble_eq_true rfl⟩) hS (fun q _ h => hF_31 q h) hF_31 (fun r_32 u_33 t H1 locs ht hvm hr_32 hB hz1 hk1 hS => ?_)
            obtain ⟨i33, r33⟩ := u_33
            obtain ⟨hP, hK1, hD1⟩ := hB
            rw [ht] at hP
            have hD := hD1.weaken (fun k q _ h => hF_31 q.1 h)
            have hP : va_P D vwCl (mW cy a i33 r33 rl) H1 := hP
            have hD : va_D A (mW cy a i33 r33 rl) := hD
            obtain ⟨hRi, hRr, hE1, hE2, hr_32⟩ := hr_32
            have hRi : mRi i33 := hRi
            have hRr : mRr r33 := hRr
            have hEi : mEi [23, 24, 25, 26, 27, 28, 29, 30, 60] _ i33 := Ei_tr hEi hE1 (by decide)
            have hEr : mEr [32, 33, 34, 35, 36, 37, 38, 39, 49] _ r33 := Er_tr hEr hE2 (by decide)
            obtain ⟨v_34, ev_34⟩ : ∃ y : Int64, r_32.toInt64 = y := ⟨_, rfl⟩
            refine lv_i2l (v := v_34) hx hb dX12_judged_111 ev_34 ?_
            refine lv_aload_n hx hb dX12_judged_112 rfl (lv_at hl 0 rfl) ?_
            refine lv_iload_n hx hb dX12_judged_113 rfl (lv_at hl 1 rfl) ?_
            have hF_35 := rF hD hS hA
            refine va_calli (va_runV (As := [.int p0]) (rest := [.long v_34, .int p0, .ref (a 0)]) ⟨hx, hb, hml, hown, hT⟩ (c_X12_penaltyOf l D cy a i33 r33 rl p0 _ hRi hRr (mE_same hEi hEr (by decide) (by decide) hE) (by omega)) (cwV 1 hT (gV t_830 t_831 t_832 t_833 t_6) rfl rfl rfl (by decide +kernel) ⟨Nat.le_of_ble_eq_true rfl, Nat.le_of_ble_eq_true rfl⟩) (rQ_v hP hK hD (va_recv hK hP (ci := 12) (q0 := 0) rfl rfl)) rfl rfl hl.1 rfl (lv_room (Nat.le_of_ble_eq_true rfl)) dX12_judged_114 ⟨Nat.le_of_ble_eq_true rfl, Nat.le_of_ble_eq_true rfl⟩) hS (fun q _ h => hF_35 q h) hF_35 (fun r_36 u_37 t H1 locs ht hvm hr_36 hB hz1 hk1 hS => ?_)
            obtain ⟨r37, rfl⟩ : ∃ z, z = u_37 := ⟨_, rfl⟩
            obtain ⟨hP, hK1, hD1⟩ := hB
            rw [ht] at hP
            have hD := hD1.weaken (fun k q _ h => hF_35 q.1 h)
            have hP : va_P D vwCl (mW cy a i33 r37 rl) H1 := hP
            have hD : va_D A (mW cy a i33 r37 rl) := hD
            obtain ⟨hRr, hE2, hr_36⟩ := hr_36
            have hRr : mRr r37 := hRr
            have hEr : mEr [32, 33, 34, 35, 36, 37, 38, 39, 49] _ r37 := Er_tr hEr hE2 (by decide)
            obtain ⟨v_38, ev_38⟩ : ∃ y : Int64, r_36.toInt64 = y := ⟨_, rfl⟩
            refine lv_i2l (v := v_38) hx hb dX12_judged_117 ev_38 ?_
            refine lv_ladd hx hb dX12_judged_118 ?_
            refine lv_topl (fun v_39 ev_39 => ?_)
            have hF_40 := rF hD hS hA
            refine va_callv (va_runV (As := [.int p0, .long v_39]) (rest := []) ⟨hx, hb, hml, hown, hT⟩ (c_X12_sharesOut l D cy a i33 r37 rl p0 v_39 _ hRi hRr (mE_same hEi hEr (by decide) (by decide) hE) (by rw [hEi 0 (by decide)]; omega)) (cwV 2 hT (gV t_834 t_835 t_836 t_837 t_6) rfl rfl rfl (by decide +kernel) ⟨Nat.le_of_ble_eq_true rfl, Nat.le_of_ble_eq_true rfl⟩) (rQ_v hP hK hD (va_recv hK hP (ci := 12) (q0 := 0) rfl rfl)) rfl rfl hl.1 rfl (lv_room (Nat.le_of_ble_eq_true rfl)) dX12_judged_119 ⟨Nat.le_of_ble_eq_true rfl, Nat.le_of_ble_eq_true rfl⟩) hS (fun q _ h => hF_40 q h) hF_40 (fun u_42 t H1 locs ht hvm hr_41 hB hz1 hk1 hS => ?_)
            obtain ⟨i42, r42, l42⟩ := u_42
            obtain ⟨hP, hK1, hD1⟩ := hB
            rw [ht] at hP
            have hD := hD1.weaken (fun k q _ h => hF_40 q.1 h)
            have hP : va_P D vwCl (mW cy a i42 r42 l42) H1 := hP
            have hD : va_D A (mW cy a i42 r42 l42) := hD
            obtain ⟨hRi, hRr, hE1, hE2, hr_41⟩ := hr_41
            have hRi : mRi i42 := hRi
            have hRr : mRr r42 := hRr
            have hEi : mEi [23, 24, 25, 26, 27, 28, 29, 30, 60] _ i42 := Ei_tr hEi hE1 (by decide)
            have hEr : mEr [32, 33, 34, 35, 36, 37, 38, 39, 49] _ r42 := Er_tr hEr hE2 (by decide)
            refine lv_aload_n hx hb dX12_judged_122 rfl (lv_at hl 0 rfl) ?_
            refine va_get (D := D) (ci := 12) (v := .ref (a 49)) (C := RX12) (T := TX12) (N := 91) hx hb hT iX12 hown hK hP 0 rfl rfl 62 (by decide) (hT _ t_796) (fun _ h9 => h9) rfl dX12_judged_123 ?_
            refine lv_iload_n hx hb dX12_judged_126 rfl (lv_at hl 3 rfl) ?_
            refine lv_bipush (v := 10) hx hb dX12_judged_127 (by decide) ?_
            refine lv_isub hx hb dX12_judged_129 ?_
            refine lv_topi (fun v_43 ev_43 => ?_)
            have hv_43 : v_43.toInt = p2.toInt - 10 := by rw [ev_43]; have := b_rg p2; exact i_sub (a := p2.toInt) (b := 10) rfl rfl (by omega) (by omega)
            refine va_iald hx hb hK hP 49 0 rfl rfl (vp_inI (by omega) (by omega)) dX12_judged_130 ?_
            refine lv_topi (fun v_44 ev_44 => ?_)
            subst hQ
            exact W.iret (v := v_44) hx hb hr (fun t ht hW => ⟨⟨_, (i42, r42, l42), rfl, ⟨hRi, hRr, hEi, hEr, trivial⟩, by rw [ht]; exact hP, va_K.moved hW.alike hK, hD⟩, hS.F ht⟩) hS.2.2 dX12_judged_131
          · exact absurd h_30 (by omega)
          · exact absurd h_30 (by omega)
          · exact absurd h_30 (by omega)
          · exact absurd h_30 (by omega)
        · skip
          refine lv_if_ne (tgt := 44) hx hb dX12_judged_39 (by decide) (fun c_45 => absurd (by decide) c_45) (fun c_45 => ?_)
          refine lv_iconst (v := (-1)) hx hb dX12_judged_42 (by decide) ?_
          subst hQ
          exact W.iret (v := (-1)) hx hb hr (fun t ht hW => ⟨⟨_, (i, r, rl), rfl, ⟨hRi, hRr, hEi, hEr, trivial⟩, by rw [ht]; exact hP, va_K.moved hW.alike hK, hD⟩, hS.F ht⟩) hS.2.2 dX12_judged_43
    · skip
      refine lv_if_eq (tgt := 42) hx hb dX12_judged_12 (by decide) (fun c_46 => ?_) (fun c_46 => absurd (by decide) c_46)
      refine lv_iconst (v := (-1)) hx hb dX12_judged_42 (by decide) ?_
      subst hQ
      exact W.iret (v := (-1)) hx hb hr (fun t ht hW => ⟨⟨_, (i, r, rl), rfl, ⟨hRi, hRr, hEi, hEr, trivial⟩, by rw [ht]; exact hP, va_K.moved hW.alike hK, hD⟩, hS.F ht⟩) hS.2.2 dX12_judged_43
  · skip
    refine lv_if_eq (tgt := 42) hx hb dX12_judged_5 (by decide) (fun c_47 => ?_) (fun c_47 => absurd (by decide) c_47)
    refine lv_iconst (v := (-1)) hx hb dX12_judged_42 (by decide) ?_
    subst hQ
    exact W.iret (v := (-1)) hx hb hr (fun t ht hW => ⟨⟨_, (i, r, rl), rfl, ⟨hRi, hRr, hEi, hEr, trivial⟩, by rw [ht]; exact hP, va_K.moved hW.alike hK, hD⟩, hS.F ht⟩) hS.2.2 dX12_judged_43
set_option maxHeartbeats 4000000 in
set_option maxRecDepth 100000 in
theorem c_X12_check (l : Launch) (D : va_G) (cy : Nat → ClassId) (a : Nat → Nat) (i : Nat → Int32) (r : Nat → Nat → Int32) (rl : Nat → Int64) (p0 p1 p2 : Int32) (sz : Nat) (hRi : mRi i) (hRr : mRr r) (hE : mE i r) : Met l yX12_check (Cond.code yX12_check cX12_check 5 (some .int) :: gT) { frames := 10, cells := 0, slots := 0, locals := 238 } (va_Pc [.ref (a 0), .int p0, .int p1, .int p2] (rQ D cy (mW cy a i r rl) sz)) (va_Qi (fun (z : Int32) (u : (Nat → Int32) × (Nat → Nat → Int32) × (Nat → Int64)) => mRi u.1 ∧ mRr u.2.1 ∧ mEi [22, 23, 24, 25, 26, 27, 28, 29, 30, 60] i u.1 ∧ mEr [32, 33, 34, 35, 36, 37, 38, 39, 49] r u.2.1 ∧ True) (fun (u : (Nat → Int32) × (Nat → Nat → Int32) × (Nat → Int64)) t => va_P D vwCl (mW cy a u.1 u.2.1 u.2.2) t.heap ∧ va_K D vwCl (vT cy) t ∧ va_D (va_A (mW cy a i r rl) sz) (mW cy a u.1 u.2.1 u.2.2)) (va_A (mW cy a i r rl) sz)) 0 0 (va_A (mW cy a i r rl) sz) := by
  refine Met.ofQ (cc := cX12_check) (maxL := 5) (ret := (some .int)) (by decide) rfl ?_
  intro p e s m args below meth c s₁ B hml hv Q hQ
  obtain ⟨rfl, hsz, hP, hK, hD0⟩ := hv
  have hx := B.exec
  have hb := B.bytes
  have hr := B.returns
  have hlocks := B.notSynchronized
  have hT : ∀ w ∈ gT, w.before _ s = true := fun w h => atoms_spec (ws := (Cond.code yX12_check cX12_check 5 (some .int) :: gT)) B.pre w (List.mem_cons_of_mem _ h)
  have hown : s.vm.findClass RX12 = some m.cls := findClass_of_methodNamed B.named
  subst hsz
  have hD := hD0.self (sz := s.heap.size)
  generalize hAe : va_A (mW cy a i r rl) s.heap.size = A at hD hQ
  have hA : ∀ q : Nat, s.heap.size ≤ q → A q := fun q h => by rw [← hAe]; exact Or.inr h
  have hS : va_S A s.heap s.heap [] := va_S.rf
  have hl := lv_entry ([.ref (a 0), .int p0, .int p1, .int p2]) (n := 5) (Nat.le_of_ble_eq_true rfl)
  rw [lg_entry_eq]
  generalize (lg_sl ([.ref (a 0), .int p0, .int p1, .int p2]) ++ List.replicate (5 - (lg_sl ([.ref (a 0), .int p0, .int p1, .int p2])).length) Slot.unset).toArray = ls at hl ⊢
  have hl : lv_has ls 5 [(0, .ref (a 0)), (1, .int p0), (2, .int p1), (3, .int p2)] := hl
  have hEi : mEi [22, 23, 24, 25, 26, 27, 28, 29, 30, 60] i i := Ei_rf
  have hEr : mEr [32, 33, 34, 35, 36, 37, 38, 39, 49] r r := Er_rf
  refine lv_aload_n hx hb dX12_check_0 rfl (lv_at hl 0 rfl) ?_
  refine lv_iload_n hx hb dX12_check_1 rfl (lv_at hl 1 rfl) ?_
  refine vp_callSi (W.runV (As := [.int p0]) (rest := []) ⟨hx, hb, hml, hown, hT⟩ (c_X12_isHome l D cy a i r rl p0 hRi hRr) (cwV 1 hT (gV t_12 t_13 t_14 t_15 t_6) rfl rfl rfl (by decide +kernel) ⟨Nat.le_of_ble_eq_true rfl, Nat.le_of_ble_eq_true rfl⟩) (rP_v hP hK (va_recv hK hP (ci := 12) (q0 := 0) rfl rfl)) rfl rfl hl.1 rfl (lv_room (Nat.le_of_ble_eq_true rfl)) dX12_check_2 ⟨Nat.le_of_ble_eq_true rfl, Nat.le_of_ble_eq_true rfl⟩) (fun r_1 hr_1 => ?_)
  have hg_2 : 0 ≤ (i 0).toInt ∧ (i 0).toInt ≤ 6 := hRi 0
  have hr_1 : BR r_1 (0 ≤ p0.toInt ∧ p0.toInt < (i 0).toInt) 1 0 := hr_1
  rcases hr_1 with ⟨rfl, h_3⟩ | ⟨rfl, h_3⟩
  · skip
    refine lv_if_eq (tgt := 34) hx hb dX12_check_5 (by decide) (fun c_4 => absurd c_4 (by decide)) (fun c_4 => ?_)
    refine lv_iload_n hx hb dX12_check_8 rfl (lv_at hl 2 rfl) ?_
    refine vp_callSi (W.runS (As := [.int p1]) (rest := []) ⟨hx, hb, hml, hown, hT⟩ (c_X12_isDay l p1) (va_cwS 1 hT (gS t_157 t_158 t_159 t_6) rfl rfl rfl (by decide +kernel) ⟨Nat.le_of_ble_eq_true rfl, Nat.le_of_ble_eq_true rfl⟩) preT rfl rfl hl.1 rfl (lv_room (Nat.le_of_ble_eq_true rfl)) dX12_check_9 ⟨Nat.le_of_ble_eq_true rfl, Nat.le_of_ble_eq_true rfl⟩) (fun r_5 hr_5 => ?_)
    have hr_5 : BR r_5 (0 ≤ p1.toInt ∧ p1.toInt ≤ 9999) 1 0 := hr_5
    rcases hr_5 with ⟨rfl, h_6⟩ | ⟨rfl, h_6⟩
    · skip
      refine lv_if_eq (tgt := 34) hx hb dX12_check_12 (by decide) (fun c_7 => absurd c_7 (by decide)) (fun c_7 => ?_)
      refine lv_iload_n hx hb dX12_check_15 rfl (lv_at hl 3 rfl) ?_
      refine lv_iconst (v := 0) hx hb dX12_check_16 (by decide) ?_
      refine lv_iconst (v := 4) hx hb dX12_check_17 (by decide) ?_
      refine vp_callSi (W.runS (As := [.int p2, .int 0, .int 4]) (rest := []) ⟨hx, hb, hml, hown, hT⟩ (c_X12_in l p2 0 4) (va_cwS 3 hT (gS t_113 t_114 t_115 t_6) rfl rfl rfl (by decide +kernel) ⟨Nat.le_of_ble_eq_true rfl, Nat.le_of_ble_eq_true rfl⟩) preT rfl rfl hl.1 rfl (lv_room (Nat.le_of_ble_eq_true rfl)) dX12_check_18 ⟨Nat.le_of_ble_eq_true rfl, Nat.le_of_ble_eq_true rfl⟩) (fun r_8 hr_8 => ?_)
      have hr_8 : BR r_8 (0 ≤ p2.toInt ∧ p2.toInt ≤ 4) 1 0 := hr_8
      rcases hr_8 with ⟨rfl, h_9⟩ | ⟨rfl, h_9⟩
      · skip
        refine lv_if_eq (tgt := 34) hx hb dX12_check_21 (by decide) (fun c_10 => absurd c_10 (by decide)) (fun c_10 => ?_)
        refine lv_iload_n hx hb dX12_check_24 rfl (lv_at hl 3 rfl) ?_
        refine lv_aload_n hx hb dX12_check_25 rfl (lv_at hl 0 rfl) ?_
        refine va_get (D := D) (ci := 12) (v := .int (i 22)) (C := RX12) (T := TX12) (N := 91) hx hb hT iX12 hown hK hP 0 rfl rfl 22 (by decide) (hT _ t_201) (fun _ h9 => h9) rfl dX12_check_26 ?_
        have hg_11 : 0 ≤ (i 22).toInt ∧ (i 22).toInt ≤ 220 := hRi 22
        refine lv_iconst (v := 4) hx hb dX12_check_29 (by decide) ?_
        refine lv_idiv hx hb dX12_check_30 (by decide) ?_
        refine lv_topi (fun v_12 ev_12 => ?_)
        refine lv_icmp_le (tgt := 37) hx hb dX12_check_31 (by decide) (fun c_13 => ?_) (fun c_13 => ?_)
        · have c_13 : p2.toInt ≤ v_12.toInt := b_le c_13
          refine lv_aload_n hx hb dX12_check_37 rfl (lv_at hl 0 rfl) ?_
          refine lv_iconst (v := 0) hx hb dX12_check_38 (by decide) ?_
          refine va_put (D := D) (ci := 12) (v := .int 0) (ty := .int) (C := RX12) (T := TX12) (N := 91) hx hb hT iX12 tyX12 tyX12_ok nmX12 hown hK hP hD hS 0 rfl rfl 22 (by decide) (hT _ t_201) (fun _ h9 => h9) rfl (by decide +kernel) rfl rfl (Nat.le_of_ble_eq_true rfl) dX12_check_39 (fun H locs hP hD hS => ?_)
          rw [mP22] at hP hD
          have hRi := Ri_upd hRi 22 0 ⟨by decide, by decide⟩
          have hEi := Ei_upd hEi 22 0 (by decide)
          refine lv_aload_n hx hb dX12_check_42 rfl (lv_at hl 0 rfl) ?_
          refine lv_iload_n hx hb dX12_check_43 rfl (lv_at hl 1 rfl) ?_
          refine lv_aload_n hx hb dX12_check_44 rfl (lv_at hl 0 rfl) ?_
          refine lv_iload_n hx hb dX12_check_45 rfl (lv_at hl 1 rfl) ?_
          refine lv_iload_n hx hb dX12_check_46 rfl (lv_at hl 2 rfl) ?_
          have hF_14 := rF hD hS hA
          refine va_calli (va_runV (As := [.int p0, .int p1]) (rest := [.int p0, .ref (a 0)]) ⟨hx, hb, hml, hown, hT⟩ (c_X12_backOf l D cy a (upd i 22 0) r rl p0 p1 _ hRi hRr (mE_same hEi hEr (by decide) (by decide) hE) (by omega)) (cwV 2 hT (gV t_826 t_827 t_828 t_829 t_6) rfl rfl rfl (by decide +kernel) ⟨Nat.le_of_ble_eq_true rfl, Nat.le_of_ble_eq_true rfl⟩) (rQ_v hP hK hD (va_recv hK hP (ci := 12) (q0 := 0) rfl rfl)) rfl rfl hl.1 rfl (lv_room (Nat.le_of_ble_eq_true rfl)) dX12_check_47 ⟨Nat.le_of_ble_eq_true rfl, Nat.le_of_ble_eq_true rfl⟩) hS (fun q _ h => hF_14 q h) hF_14 (fun r_15 u_16 t H1 locs ht hvm hr_15 hB hz1 hk1 hS => ?_)
          obtain ⟨i16, r16⟩ := u_16
          obtain ⟨hP, hK1, hD1⟩ := hB
          rw [ht] at hP
          have hD := hD1.weaken (fun k q _ h => hF_14 q.1 h)
          have hP : va_P D vwCl (mW cy a i16 r16 rl) H1 := hP
          have hD : va_D A (mW cy a i16 r16 rl) := hD
          obtain ⟨hRi, hRr, hE1, hE2, hr_15⟩ := hr_15
          have hRi : mRi i16 := hRi
          have hRr : mRr r16 := hRr
          have hEi : mEi [22, 23, 24, 25, 26, 27, 28, 29, 30, 60] _ i16 := Ei_tr hEi hE1 (by decide)
          have hEr : mEr [32, 33, 34, 35, 36, 37, 38, 39, 49] _ r16 := Er_tr hEr hE2 (by decide)
          obtain ⟨v_17, ev_17⟩ : ∃ y : Int64, r_15.toInt64 = y := ⟨_, rfl⟩
          refine lv_i2l (v := v_17) hx hb dX12_check_50 ev_17 ?_
          refine lv_aload_n hx hb dX12_check_51 rfl (lv_at hl 0 rfl) ?_
          refine lv_iload_n hx hb dX12_check_52 rfl (lv_at hl 1 rfl) ?_
          have hF_18 := rF hD hS hA
          refine va_calli (va_runV (As := [.int p0]) (rest := [.long v_17, .int p0, .ref (a 0)]) ⟨hx, hb, hml, hown, hT⟩ (c_X12_penaltyOf l D cy a i16 r16 rl p0 _ hRi hRr (mE_same hEi hEr (by decide) (by decide) hE) (by omega)) (cwV 1 hT (gV t_830 t_831 t_832 t_833 t_6) rfl rfl rfl (by decide +kernel) ⟨Nat.le_of_ble_eq_true rfl, Nat.le_of_ble_eq_true rfl⟩) (rQ_v hP hK hD (va_recv hK hP (ci := 12) (q0 := 0) rfl rfl)) rfl rfl hl.1 rfl (lv_room (Nat.le_of_ble_eq_true rfl)) dX12_check_53 ⟨Nat.le_of_ble_eq_true rfl, Nat.le_of_ble_eq_true rfl⟩) hS (fun q _ h => hF_18 q h) hF_18 (fun r_19 u_20 t H1 locs ht hvm hr_19 hB hz1 hk1 hS => ?_)
          obtain ⟨r20, rfl⟩ : ∃ z, z = u_20 := ⟨_, rfl⟩
          obtain ⟨hP, hK1, hD1⟩ := hB
          rw [ht] at hP
          have hD := hD1.weaken (fun k q _ h => hF_18 q.1 h)
          have hP : va_P D vwCl (mW cy a i16 r20 rl) H1 := hP
          have hD : va_D A (mW cy a i16 r20 rl) := hD
          obtain ⟨hRr, hE2, hr_19⟩ := hr_19
          have hRr : mRr r20 := hRr
          have hEr : mEr [32, 33, 34, 35, 36, 37, 38, 39, 49] _ r20 := Er_tr hEr hE2 (by decide)
          obtain ⟨v_21, ev_21⟩ : ∃ y : Int64, r_19.toInt64 = y := ⟨_, rfl⟩
          refine lv_i2l (v := v_21) hx hb dX12_check_56 ev_21 ?_
          refine lv_ladd hx hb dX12_check_57 ?_
          refine lv_topl (fun v_22 ev_22 => ?_)
          have hF_23 := rF hD hS hA
          refine va_callv (va_runV (As := [.int p0, .long v_22]) (rest := []) ⟨hx, hb, hml, hown, hT⟩ (c_X12_sharesOut l D cy a i16 r20 rl p0 v_22 _ hRi hRr (mE_same hEi hEr (by decide) (by decide) hE) (by rw [hEi 0 (by decide)]; omega)) (cwV 2 hT (gV t_834 t_835 t_836 t_837 t_6) rfl rfl rfl (by decide +kernel) ⟨Nat.le_of_ble_eq_true rfl, Nat.le_of_ble_eq_true rfl⟩) (rQ_v hP hK hD (va_recv hK hP (ci := 12) (q0 := 0) rfl rfl)) rfl rfl hl.1 rfl (lv_room (Nat.le_of_ble_eq_true rfl)) dX12_check_58 ⟨Nat.le_of_ble_eq_true rfl, Nat.le_of_ble_eq_true rfl⟩) hS (fun q _ h => hF_23 q h) hF_23 (fun u_25 t H1 locs ht hvm hr_24 hB hz1 hk1 hS => ?_)
          obtain ⟨i25, r25, l25⟩ := u_25
          obtain ⟨hP, hK1, hD1⟩ := hB
          rw [ht] at hP
          have hD := hD1.weaken (fun k q _ h => hF_23 q.1 h)
          have hP : va_P D vwCl (mW cy a i25 r25 l25) H1 := hP
          have hD : va_D A (mW cy a i25 r25 l25) := hD
          obtain ⟨hRi, hRr, hE1, hE2, hr_24⟩ := hr_24
          have hRi : mRi i25 := hRi
          have hRr : mRr r25 := hRr
          have hEi : mEi [22, 23, 24, 25, 26, 27, 28, 29, 30, 60] _ i25 := Ei_tr hEi hE1 (by decide)
          have hEr : mEr [32, 33, 34, 35, 36, 37, 38, 39, 49] _ r25 := Er_tr hEr hE2 (by decide)
          refine lv_iconst (v := 0) hx hb dX12_check_61 (by decide) ?_
          refine lv_istore (lv' := [(4, .int 0), (0, .ref (a 0)), (1, .int p0), (2, .int p1), (3, .int p2)]) hx hb dX12_check_62 hl (by decide) rfl (fun ls hl => ?_)
          have loop_26 : ∀ (n : Nat) (x26_4 : Int32) (H : Heap) (locs : List Loc) (ls : Array Slot), (4 - x26_4.toInt).toNat < n → (0 ≤ x26_4.toInt ∧ x26_4.toInt ≤ 4) → va_P D vwCl (mW cy a i25 r25 l25) H → va_D A (mW cy a i25 r25 l25) → va_S A s.heap H locs → lv_has ls 5 [(4, .int x26_4), (0, .ref (a 0)), (1, .int p0), (2, .int p1), (3, .int p2)] → W p l e ({ frames := 10, cells := 0, slots := 0, locals := 238 } : Room) s m ([.ref (a 0), .int p0, .int p1, .int p2] : List Value).toArray below meth c H locs 0 0 Q (F0 m 64 ls []) := by
            intro n
            induction n with
            | zero =>
              intro x26_4 H locs ls hm26 hf26_0 hP hD hS hl
              exact absurd hm26 (by omega)
            | succ n ih26 =>
              intro x26_4 H locs ls hm26 hf26_0 hP hD hS hl
              refine lv_iload hx hb dX12_check_64 (lv_at hl 0 rfl) ?_
              refine lv_aload_n hx hb dX12_check_66 rfl (lv_at hl 1 rfl) ?_
              refine va_get (D := D) (ci := 12) (v := .ref (a 4)) (C := RX12) (T := TX12) (N := 91) hx hb hT iX12 hown hK hP 0 rfl rfl 5 (by decide) (hT _ t_66) (fun _ h9 => h9) rfl dX12_check_67 ?_
              refine lv_iload_n hx hb dX12_check_70 rfl (lv_at hl 2 rfl) ?_
              refine va_iald hx hb hK hP 4 0 rfl rfl (vp_inI (by omega) (by omega)) dX12_check_71 ?_
              refine lv_topi (fun v_27 ev_27 => ?_)
              have hgv_27 : 0 ≤ v_27.toInt ∧ v_27.toInt ≤ 4 := by rw [ev_27]; exact hRr 4 _
              refine lv_icmp_ge (tgt := 106) hx hb dX12_check_72 (by decide) (fun c_28 => ?_) (fun c_28 => ?_)
              · have c_28 : v_27.toInt ≤ x26_4.toInt := b_le c_28
                refine lv_aload_n hx hb dX12_check_106 rfl (lv_at hl 1 rfl) ?_
                refine va_get (D := D) (ci := 12) (v := .ref (a 4)) (C := RX12) (T := TX12) (N := 91) hx hb hT iX12 hown hK hP 0 rfl rfl 5 (by decide) (hT _ t_66) (fun _ h9 => h9) rfl dX12_check_107 ?_
                refine lv_iload_n hx hb dX12_check_110 rfl (lv_at hl 2 rfl) ?_
                refine va_iald hx hb hK hP 4 0 rfl rfl (vp_inI (by omega) (by omega)) dX12_check_111 ?_
                refine lv_topi (fun v_29 ev_29 => ?_)
                have hgv_29 : 0 ≤ v_29.toInt ∧ v_29.toInt ≤ 4 := by rw [ev_29]; exact hRr 4 _
                refine lv_iload_n hx hb dX12_check_112 rfl (lv_at hl 4 rfl) ?_
                refine lv_icmp_ge (tgt := 125) hx hb dX12_check_113 (by decide) (fun c_30 => ?_) (fun c_30 => ?_)
                · have c_30 : p2.toInt ≤ v_29.toInt := b_le c_30
                  refine lv_iconst (v := (-1)) hx hb dX12_check_125 (by decide) ?_
                  subst hQ
                  exact W.iret (v := (-1)) hx hb hr (fun t ht hW => ⟨⟨_, (i25, r25, l25), rfl, ⟨hRi, hRr, hEi, hEr, trivial⟩, by rw [ht]; exact hP, va_K.moved hW.alike hK, hD⟩, hS.F ht⟩) hS.2.2 dX12_check_126
                · have c_30 : v_29.toInt < p2.toInt := b_nle c_30
                  refine lv_aload_n hx hb dX12_check_116 rfl (lv_at hl 1 rfl) ?_
                  refine va_get (D := D) (ci := 12) (v := .ref (a 4)) (C := RX12) (T := TX12) (N := 91) hx hb hT iX12 hown hK hP 0 rfl rfl 5 (by decide) (hT _ t_66) (fun _ h9 => h9) rfl dX12_check_117 ?_
                  refine lv_iload_n hx hb dX12_check_120 rfl (lv_at hl 2 rfl) ?_
                  refine va_iald hx hb hK hP 4 0 rfl rfl (vp_inI (by omega) (by omega)) dX12_check_121 ?_
                  refine lv_topi (fun v_31 ev_31 => ?_)
                  have hgv_31 : 0 ≤ v_31.toInt ∧ v_31.toInt ≤ 4 := by rw [ev_31]; exact hRr 4 _
                  refine lv_goto (tgt := 126) hx hb dX12_check_122 (by decide) ?_
                  subst hQ
                  exact W.iret (v := v_31) hx hb hr (fun t ht hW => ⟨⟨_, (i25, r25, l25), rfl, ⟨hRi, hRr, hEi, hEr, trivial⟩, by rw [ht]; exact hP, va_K.moved hW.alike hK, hD⟩, hS.F ht⟩) hS.2.2 dX12_check_126
              · have c_28 : x26_4.toInt < v_27.toInt := b_nle c_28
                refine lv_iload hx hb dX12_check_75 (lv_at hl 0 rfl) ?_
                refine lv_iload_n hx hb dX12_check_77 rfl (lv_at hl 4 rfl) ?_
                refine lv_icmp_eq (tgt := 97) hx hb dX12_check_78 (by decide) (fun c_32 => ?_) (fun c_32 => ?_)
                · have c_32 : x26_4.toInt = p2.toInt := b_eq c_32
                  refine lv_iload hx hb dX12_check_97 (lv_at hl 0 rfl) ?_
                  subst hQ
                  exact W.iret (v := x26_4) hx hb hr (fun t ht hW => ⟨⟨_, (i25, r25, l25), rfl, ⟨hRi, hRr, hEi, hEr, trivial⟩, by rw [ht]; exact hP, va_K.moved hW.alike hK, hD⟩, hS.F ht⟩) hS.2.2 dX12_check_99
                · have c_32 : x26_4.toInt ≠ p2.toInt := b_ne c_32
                  refine lv_aload_n hx hb dX12_check_81 rfl (lv_at hl 1 rfl) ?_
                  refine lv_iload hx hb dX12_check_82 (lv_at hl 0 rfl) ?_
                  refine vp_callSi (W.runV (As := [.int x26_4]) (rest := []) ⟨hx, hb, hml, hown, hT⟩ (c_X12_tapeNumber l D cy a i25 r25 l25 x26_4 hRi hRr (by omega)) (cwV 1 hT (gV t_838 t_839 t_840 t_841 t_6) rfl rfl rfl (by decide +kernel) ⟨Nat.le_of_ble_eq_true rfl, Nat.le_of_ble_eq_true rfl⟩) (rP_v hP hK (va_recv hK hP (ci := 12) (q0 := 0) rfl rfl)) rfl rfl hl.1 rfl (lv_room (Nat.le_of_ble_eq_true rfl)) dX12_check_84 ⟨Nat.le_of_ble_eq_true rfl, Nat.le_of_ble_eq_true rfl⟩) (fun r_33 hr_33 => ?_)
                  refine lv_aload_n hx hb dX12_check_87 rfl (lv_at hl 1 rfl) ?_
                  refine va_get (D := D) (ci := 12) (v := .ref (a 49)) (C := RX12) (T := TX12) (N := 91) hx hb hT iX12 hown hK hP 0 rfl rfl 62 (by decide) (hT _ t_796) (fun _ h9 => h9) rfl dX12_check_88 ?_
                  refine lv_iload hx hb dX12_check_91 (lv_at hl 0 rfl) ?_
                  refine va_iald hx hb hK hP 49 0 rfl rfl (vp_inI (by omega) (by omega)) dX12_check_93 ?_
                  refine lv_topi (fun v_34 ev_34 => ?_)
                  refine lv_icmp_eq (tgt := 100) hx hb dX12_check_94 (by decide) (fun c_35 => ?_) (fun c_35 => ?_)
                  · have c_35 : r_33.toInt = v_34.toInt := b_eq c_35
                    obtain ⟨x_36, ex_36⟩ : ∃ y : Int32, y = x26_4 + 1 := ⟨_, rfl⟩
                    refine lv_iinc (v := x_36) (lv' := [(4, .int x_36), (0, .ref (a 0)), (1, .int p0), (2, .int p1), (3, .int p2)]) hx hb dX12_check_100 hl (k := 0) rfl (by rw [ex_36]; rfl) (by decide) rfl (fun ls hl => ?_)
                    have hx_36 : x_36.toInt = x26_4.toInt + 1 := by rw [ex_36]; have := b_rg x26_4; exact i_add (a := x26_4.toInt) (b := 1) rfl rfl (by omega) (by omega)
                    refine lv_goto (tgt := 64) hx hb dX12_check_103 (by decide) ?_
                    exact ih26 x_36 _ _ _ (by first | omega | (simp only [Int.toNat]; omega)) (by first | omega | decide)   hP hD hS (lv_sub hl [0, 1, 2, 3, 4] rfl)
                  · have c_35 : r_33.toInt ≠ v_34.toInt := b_ne c_35
                    refine lv_iload hx hb dX12_check_97 (lv_at hl 0 rfl) ?_
                    subst hQ
                    exact W.iret (v := x26_4) hx hb hr (fun t ht hW => ⟨⟨_, (i25, r25, l25), rfl, ⟨hRi, hRr, hEi, hEr, trivial⟩, by rw [ht]; exact hP, va_K.moved hW.alike hK, hD⟩, hS.F ht⟩) hS.2.2 dX12_check_99
          exact loop_26 _ 0 _ _ _ (Nat.lt_succ_self _) (by first | omega | decide)   hP hD hS hl
        · have c_13 : v_12.toInt < p2.toInt := b_nle c_13
          refine lv_bipush (v := (-2)) hx hb dX12_check_34 (by decide) ?_
          subst hQ
          exact W.iret (v := (-2)) hx hb hr (fun t ht hW => ⟨⟨_, (i, r, rl), rfl, ⟨hRi, hRr, hEi, hEr, trivial⟩, by rw [ht]; exact hP, va_K.moved hW.alike hK, hD⟩, hS.F ht⟩) hS.2.2 dX12_check_36
      · skip
        refine lv_if_eq (tgt := 34) hx hb dX12_check_21 (by decide) (fun c_37 => ?_) (fun c_37 => absurd (by decide) c_37)
        refine lv_bipush (v := (-2)) hx hb dX12_check_34 (by decide) ?_
        subst hQ
        exact W.iret (v := (-2)) hx hb hr (fun t ht hW => ⟨⟨_, (i, r, rl), rfl, ⟨hRi, hRr, hEi, hEr, trivial⟩, by rw [ht]; exact hP, va_K.moved hW.alike hK, hD⟩, hS.F ht⟩) hS.2.2 dX12_check_36
    · skip
      refine lv_if_eq (tgt := 34) hx hb dX12_check_12 (by decide) (fun c_38 => ?_) (fun c_38 => absurd (by decide) c_38)
      refine lv_bipush (v := (-2)) hx hb dX12_check_34 (by decide) ?_
      subst hQ
      exact W.iret (v := (-2)) hx hb hr (fun t ht hW => ⟨⟨_, (i, r, rl), rfl, ⟨hRi, hRr, hEi, hEr, trivial⟩, by rw [ht]; exact hP, va_K.moved hW.alike hK, hD⟩, hS.F ht⟩) hS.2.2 dX12_check_36
  · skip
    refine lv_if_eq (tgt := 34) hx hb dX12_check_5 (by decide) (fun c_39 => ?_) (fun c_39 => absurd (by decide) c_39)
    refine lv_bipush (v := (-2)) hx hb dX12_check_34 (by decide) ?_
    subst hQ
    exact W.iret (v := (-2)) hx hb hr (fun t ht hW => ⟨⟨_, (i, r, rl), rfl, ⟨hRi, hRr, hEi, hEr, trivial⟩, by rw [ht]; exact hP, va_K.moved hW.alike hK, hD⟩, hS.F ht⟩) hS.2.2 dX12_check_36
