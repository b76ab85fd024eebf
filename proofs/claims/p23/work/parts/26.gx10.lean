set_option maxRecDepth 100000 in
theorem t_812 : Cond.code yX6_read cX6_read 5 (some .int) ∈ gT := tm (tb2 (List.mem_of_getElem? (i := 232) (by rfl))) (by decide +kernel)
set_option maxRecDepth 100000 in
theorem t_813 : Cond.methodLink RX11 147 yX6_read ∈ gT := tm (tb2 (List.mem_of_getElem? (i := 229) (by rfl))) (by decide +kernel)
set_option maxRecDepth 100000 in
theorem t_814 : Cond.instanceMethod yX6_read ∈ gT := tm (tb2 (List.mem_of_getElem? (i := 230) (by rfl))) (by decide +kernel)
set_option maxRecDepth 100000 in
theorem t_815 : Cond.selects RX6 yX6_read yX6_read ∈ gT := tm (tb2 (List.mem_of_getElem? (i := 231) (by rfl))) (by decide +kernel)
set_option maxRecDepth 100000 in
theorem t_816 : Cond.fieldLink RX11 151 "DepositJudge$LawReader" "draft" "LDepositJudge$Law;" ∈ gT := tm (tb1 (List.mem_of_getElem? (i := 118) (by rfl))) (by decide +kernel)
set_option maxRecDepth 100000 in
theorem t_817 : Cond.code yX3_worsened cX3_worsened 4 (some .int) ∈ gT := tm (tb4 (List.mem_of_getElem? (i := 131) (by rfl))) (by decide +kernel)
set_option maxRecDepth 100000 in
theorem t_818 : Cond.methodLink RX11 387 yX3_worsened ∈ gT := tm (tb4 (List.mem_of_getElem? (i := 128) (by rfl))) (by decide +kernel)
set_option maxRecDepth 100000 in
theorem t_819 : Cond.instanceMethod yX3_worsened ∈ gT := tm (tb4 (List.mem_of_getElem? (i := 129) (by rfl))) (by decide +kernel)
set_option maxRecDepth 100000 in
theorem t_820 : Cond.selects RX3 yX3_worsened yX3_worsened ∈ gT := tm (tb4 (List.mem_of_getElem? (i := 130) (by rfl))) (by decide +kernel)
set_option maxRecDepth 100000 in
theorem t_821 : Cond.code yX11_distance cX11_distance 4 (some .int) ∈ gT := tm (tb4 (List.mem_of_getElem? (i := 127) (by rfl))) (by decide +kernel)
set_option maxRecDepth 100000 in
theorem t_822 : Cond.methodLink RX11 304 yX11_distance ∈ gT := tm (tb4 (List.mem_of_getElem? (i := 125) (by rfl))) (by decide +kernel)
set_option maxRecDepth 100000 in
theorem t_823 : Cond.static yX11_distance ∈ gT := tm (tb4 (List.mem_of_getElem? (i := 126) (by rfl))) (by decide +kernel)
def dl_469 : List (Nat × (Instr × Nat)) := [(0, (.aload_n 0, 1)), (1, (.invokevirtual 171, 3)), (4, (.aload_n 1, 1)), (5, (.invokevirtual 171, 3)), (8, (.isub, 1)), (9, (.invokestatic 296, 3)), (12, (.bipush 12, 2)), (14, (.idiv, 1)), (15, (.istore_n 2, 1)), (16, (.iconst 0, 1)), (17, (.istore_n 3, 1)), (18, (.iload_n 3, 1)), (19, (.bipush 8, 2)), (21, (.if_icmp .ge 29, 3)), (24, (.iload_n 2, 1)), (25, (.bipush 10, 2)), (27, (.aload_n 0, 1)), (28, (.iload_n 3, 1)), (29, (.invokevirtual 387, 3)), (32, (.aload_n 1, 1))]
theorem dh_469 : dchk cX11_distance dl_469 = true := by decide +kernel
theorem dX11_distance_0 : decode cX11_distance 0 = .ok (.aload_n 0, 1) := dget dh_469 (k := 0) rfl
theorem dX11_distance_1 : decode cX11_distance 1 = .ok (.invokevirtual 171, 3) := dget dh_469 (k := 1) rfl
theorem dX11_distance_4 : decode cX11_distance 4 = .ok (.aload_n 1, 1) := dget dh_469 (k := 2) rfl
theorem dX11_distance_5 : decode cX11_distance 5 = .ok (.invokevirtual 171, 3) := dget dh_469 (k := 3) rfl
theorem dX11_distance_8 : decode cX11_distance 8 = .ok (.isub, 1) := dget dh_469 (k := 4) rfl
theorem dX11_distance_9 : decode cX11_distance 9 = .ok (.invokestatic 296, 3) := dget dh_469 (k := 5) rfl
theorem dX11_distance_12 : decode cX11_distance 12 = .ok (.bipush 12, 2) := dget dh_469 (k := 6) rfl
theorem dX11_distance_14 : decode cX11_distance 14 = .ok (.idiv, 1) := dget dh_469 (k := 7) rfl
theorem dX11_distance_15 : decode cX11_distance 15 = .ok (.istore_n 2, 1) := dget dh_469 (k := 8) rfl
theorem dX11_distance_16 : decode cX11_distance 16 = .ok (.iconst 0, 1) := dget dh_469 (k := 9) rfl
theorem dX11_distance_17 : decode cX11_distance 17 = .ok (.istore_n 3, 1) := dget dh_469 (k := 10) rfl
theorem dX11_distance_18 : decode cX11_distance 18 = .ok (.iload_n 3, 1) := dget dh_469 (k := 11) rfl
theorem dX11_distance_19 : decode cX11_distance 19 = .ok (.bipush 8, 2) := dget dh_469 (k := 12) rfl
theorem dX11_distance_21 : decode cX11_distance 21 = .ok (.if_icmp .ge 29, 3) := dget dh_469 (k := 13) rfl
theorem dX11_distance_24 : decode cX11_distance 24 = .ok (.iload_n 2, 1) := dget dh_469 (k := 14) rfl
theorem dX11_distance_25 : decode cX11_distance 25 = .ok (.bipush 10, 2) := dget dh_469 (k := 15) rfl
theorem dX11_distance_27 : decode cX11_distance 27 = .ok (.aload_n 0, 1) := dget dh_469 (k := 16) rfl
theorem dX11_distance_28 : decode cX11_distance 28 = .ok (.iload_n 3, 1) := dget dh_469 (k := 17) rfl
theorem dX11_distance_29 : decode cX11_distance 29 = .ok (.invokevirtual 387, 3) := dget dh_469 (k := 18) rfl
theorem dX11_distance_32 : decode cX11_distance 32 = .ok (.aload_n 1, 1) := dget dh_469 (k := 19) rfl
def dl_470 : List (Nat × (Instr × Nat)) := [(33, (.iload_n 3, 1)), (34, (.invokevirtual 387, 3)), (37, (.isub, 1)), (38, (.invokestatic 296, 3)), (41, (.imul, 1)), (42, (.iadd, 1)), (43, (.istore_n 2, 1)), (44, (.iinc 3 1, 3)), (47, (.goto (-29), 3)), (50, (.iload_n 2, 1)), (51, (.ireturn, 1))]
theorem dh_470 : dchk cX11_distance dl_470 = true := by decide +kernel
theorem dX11_distance_33 : decode cX11_distance 33 = .ok (.iload_n 3, 1) := dget dh_470 (k := 0) rfl
theorem dX11_distance_34 : decode cX11_distance 34 = .ok (.invokevirtual 387, 3) := dget dh_470 (k := 1) rfl
theorem dX11_distance_37 : decode cX11_distance 37 = .ok (.isub, 1) := dget dh_470 (k := 2) rfl
theorem dX11_distance_38 : decode cX11_distance 38 = .ok (.invokestatic 296, 3) := dget dh_470 (k := 3) rfl
theorem dX11_distance_41 : decode cX11_distance 41 = .ok (.imul, 1) := dget dh_470 (k := 4) rfl
theorem dX11_distance_42 : decode cX11_distance 42 = .ok (.iadd, 1) := dget dh_470 (k := 5) rfl
theorem dX11_distance_43 : decode cX11_distance 43 = .ok (.istore_n 2, 1) := dget dh_470 (k := 6) rfl
theorem dX11_distance_44 : decode cX11_distance 44 = .ok (.iinc 3 1, 3) := dget dh_470 (k := 7) rfl
theorem dX11_distance_47 : decode cX11_distance 47 = .ok (.goto (-29), 3) := dget dh_470 (k := 8) rfl
theorem dX11_distance_50 : decode cX11_distance 50 = .ok (.iload_n 2, 1) := dget dh_470 (k := 9) rfl
theorem dX11_distance_51 : decode cX11_distance 51 = .ok (.ireturn, 1) := dget dh_470 (k := 10) rfl
def dl_471 : List (Nat × (Instr × Nat)) := [(0, (.iload_n 1, 1)), (1, (.iconst 1, 1)), (2, (.sipush 200, 3)), (5, (.invokestatic 93, 3)), (8, (.ifCond .eq 14, 3)), (11, (.iload_n 1, 1)), (12, (.aload_n 0, 1)), (13, (.getfield 36, 3)), (16, (.getfield 141, 3)), (19, (.if_icmp .le 5, 3)), (22, (.iconst (-1), 1)), (23, (.ireturn, 1)), (24, (.aload_n 0, 1)), (25, (.getfield 43, 3)), (28, (.aload_n 0, 1)), (29, (.getfield 36, 3)), (32, (.iload_n 1, 1)), (33, (.invokevirtual 147, 3)), (36, (.istore_n 2, 1)), (37, (.aload_n 0, 1))]
theorem dh_471 : dchk cX11_law dl_471 = true := by decide +kernel
theorem dX11_law_0 : decode cX11_law 0 = .ok (.iload_n 1, 1) := dget dh_471 (k := 0) rfl
theorem dX11_law_1 : decode cX11_law 1 = .ok (.iconst 1, 1) := dget dh_471 (k := 1) rfl
theorem dX11_law_2 : decode cX11_law 2 = .ok (.sipush 200, 3) := dget dh_471 (k := 2) rfl
theorem dX11_law_5 : decode cX11_law 5 = .ok (.invokestatic 93, 3) := dget dh_471 (k := 3) rfl
theorem dX11_law_8 : decode cX11_law 8 = .ok (.ifCond .eq 14, 3) := dget dh_471 (k := 4) rfl
theorem dX11_law_11 : decode cX11_law 11 = .ok (.iload_n 1, 1) := dget dh_471 (k := 5) rfl
theorem dX11_law_12 : decode cX11_law 12 = .ok (.aload_n 0, 1) := dget dh_471 (k := 6) rfl
theorem dX11_law_13 : decode cX11_law 13 = .ok (.getfield 36, 3) := dget dh_471 (k := 7) rfl
theorem dX11_law_16 : decode cX11_law 16 = .ok (.getfield 141, 3) := dget dh_471 (k := 8) rfl
theorem dX11_law_19 : decode cX11_law 19 = .ok (.if_icmp .le 5, 3) := dget dh_471 (k := 9) rfl
theorem dX11_law_22 : decode cX11_law 22 = .ok (.iconst (-1), 1) := dget dh_471 (k := 10) rfl
theorem dX11_law_23 : decode cX11_law 23 = .ok (.ireturn, 1) := dget dh_471 (k := 11) rfl
theorem dX11_law_24 : decode cX11_law 24 = .ok (.aload_n 0, 1) := dget dh_471 (k := 12) rfl
theorem dX11_law_25 : decode cX11_law 25 = .ok (.getfield 43, 3) := dget dh_471 (k := 13) rfl
theorem dX11_law_28 : decode cX11_law 28 = .ok (.aload_n 0, 1) := dget dh_471 (k := 14) rfl
theorem dX11_law_29 : decode cX11_law 29 = .ok (.getfield 36, 3) := dget dh_471 (k := 15) rfl
theorem dX11_law_32 : decode cX11_law 32 = .ok (.iload_n 1, 1) := dget dh_471 (k := 16) rfl
theorem dX11_law_33 : decode cX11_law 33 = .ok (.invokevirtual 147, 3) := dget dh_471 (k := 17) rfl
theorem dX11_law_36 : decode cX11_law 36 = .ok (.istore_n 2, 1) := dget dh_471 (k := 18) rfl
theorem dX11_law_37 : decode cX11_law 37 = .ok (.aload_n 0, 1) := dget dh_471 (k := 19) rfl
def dl_472 : List (Nat × (Instr × Nat)) := [(38, (.getfield 36, 3)), (41, (.iconst 0, 1)), (42, (.putfield 141, 3)), (45, (.iload_n 2, 1)), (46, (.ifCond .eq 5, 3)), (49, (.iload_n 2, 1)), (50, (.ireturn, 1)), (51, (.aload_n 0, 1)), (52, (.getfield 50, 3)), (55, (.astore_n 3, 1)), (56, (.aload_n 0, 1)), (57, (.aload_n 0, 1)), (58, (.getfield 43, 3)), (61, (.getfield 151, 3)), (64, (.putfield 50, 3)), (67, (.aload_n 0, 1)), (68, (.getfield 43, 3)), (71, (.aload_n 3, 1)), (72, (.putfield 151, 3)), (75, (.aload_n 0, 1))]
theorem dh_472 : dchk cX11_law dl_472 = true := by decide +kernel
theorem dX11_law_38 : decode cX11_law 38 = .ok (.getfield 36, 3) := dget dh_472 (k := 0) rfl
theorem dX11_law_41 : decode cX11_law 41 = .ok (.iconst 0, 1) := dget dh_472 (k := 1) rfl
theorem dX11_law_42 : decode cX11_law 42 = .ok (.putfield 141, 3) := dget dh_472 (k := 2) rfl
theorem dX11_law_45 : decode cX11_law 45 = .ok (.iload_n 2, 1) := dget dh_472 (k := 3) rfl
theorem dX11_law_46 : decode cX11_law 46 = .ok (.ifCond .eq 5, 3) := dget dh_472 (k := 4) rfl
theorem dX11_law_49 : decode cX11_law 49 = .ok (.iload_n 2, 1) := dget dh_472 (k := 5) rfl
theorem dX11_law_50 : decode cX11_law 50 = .ok (.ireturn, 1) := dget dh_472 (k := 6) rfl
theorem dX11_law_51 : decode cX11_law 51 = .ok (.aload_n 0, 1) := dget dh_472 (k := 7) rfl
theorem dX11_law_52 : decode cX11_law 52 = .ok (.getfield 50, 3) := dget dh_472 (k := 8) rfl
theorem dX11_law_55 : decode cX11_law 55 = .ok (.astore_n 3, 1) := dget dh_472 (k := 9) rfl
theorem dX11_law_56 : decode cX11_law 56 = .ok (.aload_n 0, 1) := dget dh_472 (k := 10) rfl
theorem dX11_law_57 : decode cX11_law 57 = .ok (.aload_n 0, 1) := dget dh_472 (k := 11) rfl
theorem dX11_law_58 : decode cX11_law 58 = .ok (.getfield 43, 3) := dget dh_472 (k := 12) rfl
theorem dX11_law_61 : decode cX11_law 61 = .ok (.getfield 151, 3) := dget dh_472 (k := 13) rfl
theorem dX11_law_64 : decode cX11_law 64 = .ok (.putfield 50, 3) := dget dh_472 (k := 14) rfl
theorem dX11_law_67 : decode cX11_law 67 = .ok (.aload_n 0, 1) := dget dh_472 (k := 15) rfl
theorem dX11_law_68 : decode cX11_law 68 = .ok (.getfield 43, 3) := dget dh_472 (k := 16) rfl
theorem dX11_law_71 : decode cX11_law 71 = .ok (.aload_n 3, 1) := dget dh_472 (k := 17) rfl
theorem dX11_law_72 : decode cX11_law 72 = .ok (.putfield 151, 3) := dget dh_472 (k := 18) rfl
theorem dX11_law_75 : decode cX11_law 75 = .ok (.aload_n 0, 1) := dget dh_472 (k := 19) rfl
def dl_473 : List (Nat × (Instr × Nat)) := [(76, (.getfield 50, 3)), (79, (.getfield 154, 3)), (82, (.ireturn, 1))]
theorem dh_473 : dchk cX11_law dl_473 = true := by decide +kernel
theorem dX11_law_76 : decode cX11_law 76 = .ok (.getfield 50, 3) := dget dh_473 (k := 0) rfl
theorem dX11_law_79 : decode cX11_law 79 = .ok (.getfield 154, 3) := dget dh_473 (k := 1) rfl
theorem dX11_law_82 : decode cX11_law 82 = .ok (.ireturn, 1) := dget dh_473 (k := 2) rfl
def dl_474 : List (Nat × (Instr × Nat)) := [(0, (.aload_n 0, 1)), (1, (.iload_n 1, 1)), (2, (.invokevirtual 108, 3)), (5, (.astore_n 3, 1)), (6, (.aload_n 3, 1)), (7, (.ifnull 12, 3)), (10, (.iload_n 2, 1)), (11, (.iconst 0, 1)), (12, (.iconst 1, 1)), (13, (.invokestatic 93, 3)), (16, (.ifCond .ne 5, 3)), (19, (.iconst (-1), 1)), (20, (.ireturn, 1)), (21, (.bipush (-2), 2)), (23, (.istore 4, 2)), (25, (.bipush (-2), 2)), (27, (.istore 5, 2)), (29, (.iconst 0, 1)), (30, (.istore 6, 2)), (32, (.iload 6, 2))]
theorem dh_474 : dchk cX11_like dl_474 = true := by decide +kernel
theorem dX11_like_0 : decode cX11_like 0 = .ok (.aload_n 0, 1) := dget dh_474 (k := 0) rfl
theorem dX11_like_1 : decode cX11_like 1 = .ok (.iload_n 1, 1) := dget dh_474 (k := 1) rfl
theorem dX11_like_2 : decode cX11_like 2 = .ok (.invokevirtual 108, 3) := dget dh_474 (k := 2) rfl
theorem dX11_like_5 : decode cX11_like 5 = .ok (.astore_n 3, 1) := dget dh_474 (k := 3) rfl
theorem dX11_like_6 : decode cX11_like 6 = .ok (.aload_n 3, 1) := dget dh_474 (k := 4) rfl
theorem dX11_like_7 : decode cX11_like 7 = .ok (.ifnull 12, 3) := dget dh_474 (k := 5) rfl
theorem dX11_like_10 : decode cX11_like 10 = .ok (.iload_n 2, 1) := dget dh_474 (k := 6) rfl
theorem dX11_like_11 : decode cX11_like 11 = .ok (.iconst 0, 1) := dget dh_474 (k := 7) rfl
theorem dX11_like_12 : decode cX11_like 12 = .ok (.iconst 1, 1) := dget dh_474 (k := 8) rfl
theorem dX11_like_13 : decode cX11_like 13 = .ok (.invokestatic 93, 3) := dget dh_474 (k := 9) rfl
theorem dX11_like_16 : decode cX11_like 16 = .ok (.ifCond .ne 5, 3) := dget dh_474 (k := 10) rfl
theorem dX11_like_19 : decode cX11_like 19 = .ok (.iconst (-1), 1) := dget dh_474 (k := 11) rfl
theorem dX11_like_20 : decode cX11_like 20 = .ok (.ireturn, 1) := dget dh_474 (k := 12) rfl
theorem dX11_like_21 : decode cX11_like 21 = .ok (.bipush (-2), 2) := dget dh_474 (k := 13) rfl
theorem dX11_like_23 : decode cX11_like 23 = .ok (.istore 4, 2) := dget dh_474 (k := 14) rfl
theorem dX11_like_25 : decode cX11_like 25 = .ok (.bipush (-2), 2) := dget dh_474 (k := 15) rfl
theorem dX11_like_27 : decode cX11_like 27 = .ok (.istore 5, 2) := dget dh_474 (k := 16) rfl
theorem dX11_like_29 : decode cX11_like 29 = .ok (.iconst 0, 1) := dget dh_474 (k := 17) rfl
theorem dX11_like_30 : decode cX11_like 30 = .ok (.istore 6, 2) := dget dh_474 (k := 18) rfl
theorem dX11_like_32 : decode cX11_like 32 = .ok (.iload 6, 2) := dget dh_474 (k := 19) rfl
def dl_475 : List (Nat × (Instr × Nat)) := [(34, (.aload_n 0, 1)), (35, (.getfield 22, 3)), (38, (.if_icmp .ge 61, 3)), (41, (.aload_n 0, 1)), (42, (.iload 6, 2)), (44, (.invokevirtual 108, 3)), (47, (.astore 7, 2)), (49, (.iload 6, 2)), (51, (.iload_n 1, 1)), (52, (.if_icmp .eq 41, 3)), (55, (.aload 7, 2)), (57, (.ifnonnull 6, 3)), (63, (.aload_n 3, 1)), (64, (.aload 7, 2)), (66, (.invokestatic 304, 3)), (69, (.istore 8, 2)), (71, (.iload 4, 2)), (73, (.bipush (-2), 2)), (75, (.if_icmp .eq 10, 3)), (78, (.iload 8, 2))]
theorem dh_475 : dchk cX11_like dl_475 = true := by decide +kernel
theorem dX11_like_34 : decode cX11_like 34 = .ok (.aload_n 0, 1) := dget dh_475 (k := 0) rfl
theorem dX11_like_35 : decode cX11_like 35 = .ok (.getfield 22, 3) := dget dh_475 (k := 1) rfl
theorem dX11_like_38 : decode cX11_like 38 = .ok (.if_icmp .ge 61, 3) := dget dh_475 (k := 2) rfl
theorem dX11_like_41 : decode cX11_like 41 = .ok (.aload_n 0, 1) := dget dh_475 (k := 3) rfl
theorem dX11_like_42 : decode cX11_like 42 = .ok (.iload 6, 2) := dget dh_475 (k := 4) rfl
theorem dX11_like_44 : decode cX11_like 44 = .ok (.invokevirtual 108, 3) := dget dh_475 (k := 5) rfl
theorem dX11_like_47 : decode cX11_like 47 = .ok (.astore 7, 2) := dget dh_475 (k := 6) rfl
theorem dX11_like_49 : decode cX11_like 49 = .ok (.iload 6, 2) := dget dh_475 (k := 7) rfl
theorem dX11_like_51 : decode cX11_like 51 = .ok (.iload_n 1, 1) := dget dh_475 (k := 8) rfl
theorem dX11_like_52 : decode cX11_like 52 = .ok (.if_icmp .eq 41, 3) := dget dh_475 (k := 9) rfl
theorem dX11_like_55 : decode cX11_like 55 = .ok (.aload 7, 2) := dget dh_475 (k := 10) rfl
theorem dX11_like_57 : decode cX11_like 57 = .ok (.ifnonnull 6, 3) := dget dh_475 (k := 11) rfl
theorem dX11_like_63 : decode cX11_like 63 = .ok (.aload_n 3, 1) := dget dh_475 (k := 12) rfl
theorem dX11_like_64 : decode cX11_like 64 = .ok (.aload 7, 2) := dget dh_475 (k := 13) rfl
theorem dX11_like_66 : decode cX11_like 66 = .ok (.invokestatic 304, 3) := dget dh_475 (k := 14) rfl
theorem dX11_like_69 : decode cX11_like 69 = .ok (.istore 8, 2) := dget dh_475 (k := 15) rfl
theorem dX11_like_71 : decode cX11_like 71 = .ok (.iload 4, 2) := dget dh_475 (k := 16) rfl
theorem dX11_like_73 : decode cX11_like 73 = .ok (.bipush (-2), 2) := dget dh_475 (k := 17) rfl
theorem dX11_like_75 : decode cX11_like 75 = .ok (.if_icmp .eq 10, 3) := dget dh_475 (k := 18) rfl
theorem dX11_like_78 : decode cX11_like 78 = .ok (.iload 8, 2) := dget dh_475 (k := 19) rfl
def dl_476 : List (Nat × (Instr × Nat)) := [(80, (.iload 5, 2)), (82, (.if_icmp .ge 11, 3)), (85, (.iload 6, 2)), (87, (.istore 4, 2)), (89, (.iload 8, 2)), (91, (.istore 5, 2)), (93, (.iinc 6 1, 3)), (96, (.goto (-64), 3)), (99, (.iload_n 2, 1)), (100, (.ifCond .ne 8, 3)), (103, (.iload 4, 2)), (105, (.goto 5, 3)), (108, (.iload 5, 2)), (110, (.ireturn, 1))]
theorem dh_476 : dchk cX11_like dl_476 = true := by decide +kernel
theorem dX11_like_80 : decode cX11_like 80 = .ok (.iload 5, 2) := dget dh_476 (k := 0) rfl
theorem dX11_like_82 : decode cX11_like 82 = .ok (.if_icmp .ge 11, 3) := dget dh_476 (k := 1) rfl
theorem dX11_like_85 : decode cX11_like 85 = .ok (.iload 6, 2) := dget dh_476 (k := 2) rfl
theorem dX11_like_87 : decode cX11_like 87 = .ok (.istore 4, 2) := dget dh_476 (k := 3) rfl
theorem dX11_like_89 : decode cX11_like 89 = .ok (.iload 8, 2) := dget dh_476 (k := 4) rfl
theorem dX11_like_91 : decode cX11_like 91 = .ok (.istore 5, 2) := dget dh_476 (k := 5) rfl
theorem dX11_like_93 : decode cX11_like 93 = .ok (.iinc 6 1, 3) := dget dh_476 (k := 6) rfl
theorem dX11_like_96 : decode cX11_like 96 = .ok (.goto (-64), 3) := dget dh_476 (k := 7) rfl
theorem dX11_like_99 : decode cX11_like 99 = .ok (.iload_n 2, 1) := dget dh_476 (k := 8) rfl
theorem dX11_like_100 : decode cX11_like 100 = .ok (.ifCond .ne 8, 3) := dget dh_476 (k := 9) rfl
theorem dX11_like_103 : decode cX11_like 103 = .ok (.iload 4, 2) := dget dh_476 (k := 10) rfl
theorem dX11_like_105 : decode cX11_like 105 = .ok (.goto 5, 3) := dget dh_476 (k := 11) rfl
theorem dX11_like_108 : decode cX11_like 108 = .ok (.iload 5, 2) := dget dh_476 (k := 12) rfl
theorem dX11_like_110 : decode cX11_like 110 = .ok (.ireturn, 1) := dget dh_476 (k := 13) rfl
theorem zLF (cy : Nat → ClassId) (a : Nat → Nat) (i : Nat → Int32) (r : Nat → Nat → Int32) (q : Nat → Option Nat) (lf ld v : Nat) (tl : va_W) : (xW cy a i r q lf ld ++ tl).set 0 (a 0, .inr (11, (xF0 a i lf).set 6 (.ref v))) = xW cy a i r q v ld ++ tl := rfl
theorem zLD (cy : Nat → ClassId) (a : Nat → Nat) (i : Nat → Int32) (r : Nat → Nat → Int32) (q : Nat → Option Nat) (lf ld v : Nat) (tl : va_W) : (xW cy a i r q lf ld ++ tl).set 10 (a 10, .inr (6, (xF10 a i ld).set 0 (.ref v))) = xW cy a i r q lf v ++ tl := rfl
theorem sw_Ei {i I : Nat → Int32} (h : mEi [2, 3, 4, 5, 6, 7, 8, 9] i I) : mEi [2, 3, 4, 5, 6, 7, 8, 9] i (fun k => I (swi k)) := by
  intro k hk
  have h6 : ¬ k = 6 := fun e => hk (by rw [e]; decide)
  have h7 : ¬ k = 7 := fun e => hk (by rw [e]; decide)
  have h8 : ¬ k = 8 := fun e => hk (by rw [e]; decide)
  have h9 : ¬ k = 9 := fun e => hk (by rw [e]; decide)
  have e : swi k = k := by unfold swi; rw [if_neg h6, if_neg h7, if_neg h8, if_neg h9]
  show I (swi k) = i k
  rw [e]; exact h k hk
theorem sw_Er {r R : Nat → Nat → Int32} (h : mEr [11, 12, 13, 14, 15, 16, 17, 18, 19, 20, 21, 22, 23, 24, 25, 26, 27] r R) : mEr [11, 12, 13, 14, 15, 16, 17, 18, 19, 20, 21, 22, 23, 24, 25, 26, 27] r (fun p => R (swp p)) := by
  intro p hp
  have hn : ¬ (11 ≤ p ∧ p < 28) := fun hh => hp (by
    have : ∀ p, p < 28 → 11 ≤ p → p ∈ [11, 12, 13, 14, 15, 16, 17, 18, 19, 20, 21, 22, 23, 24, 25, 26, 27] := by decide
    exact this p hh.2 hh.1)
  have e : swp p = p := by unfold swp; rw [if_neg (by omega), if_neg (by omega)]
  show R (swp p) = r p
  rw [e]; exact h p hp
theorem sw_a {a : Nat → Nat} : ∀ k, k < 12 ∨ 28 ≤ k → (fun p => a (swp p)) k = a k := by
  intro k hk
  show a (swp k) = a k
  unfold swp
  rw [if_neg (by omega), if_neg (by omega)]
set_option maxHeartbeats 4000000 in
set_option maxRecDepth 100000 in
theorem c_X11_law (l : Launch) (D : va_G) (cy : Nat → ClassId) (a : Nat → Nat) (i : Nat → Int32) (r : Nat → Nat → Int32) (q : Nat → Option Nat) (tl : va_W) (kq vq : Nat) (p0 : Int32) (sz : Nat) (hRi : yRi i) (hRr : yRr r) : Met l yX11_law (Cond.code yX11_law cX11_law 4 (some .int) :: gT) { frames := 27, cells := 0, slots := 0, locals := 664 } (va_Pc [.ref (a 0), .int p0] (rS D cy (xW cy a i r q (a 20) (a 12) ++ tl) sz kq vq)) (va_Qi (fun (z : Int32) (u : (Nat → Nat) × (Nat → Int32) × (Nat → Nat → Int32)) => yRi u.2.1 ∧ yRr u.2.2 ∧ mEi [2, 3, 4, 5, 6, 7, 8, 9] i u.2.1 ∧ mEr [11, 12, 13, 14, 15, 16, 17, 18, 19, 20, 21, 22, 23, 24, 25, 26, 27] r u.2.2 ∧ ∀ k, k < 12 ∨ 28 ≤ k → u.1 k = a k) (fun (u : (Nat → Nat) × (Nat → Int32) × (Nat → Nat → Int32)) t => va_P D vwCl (xW cy u.1 u.2.1 u.2.2 q (u.1 20) (u.1 12) ++ tl) t.heap ∧ va_K D vwCl (vT cy) t ∧ va_D (va_A (xW cy a i r q (a 20) (a 12) ++ tl) sz) (xW cy u.1 u.2.1 u.2.2 q (u.1 20) (u.1 12) ++ tl)) (va_A (xW cy a i r q (a 20) (a 12) ++ tl) sz)) 0 0 (va_A (xW cy a i r q (a 20) (a 12) ++ tl) sz) := by
  refine Met.ofQ (cc := cX11_law) (maxL := 4) (ret := (some .int)) (by decide) rfl ?_
  intro p e s m args below meth c s₁ B hml hv Q hQ
  obtain ⟨rfl, hsk, hsz, hP, hK, hD0⟩ := hv
  have hx := B.exec
  have hb := B.bytes
  have hr := B.returns
  have hlocks := B.notSynchronized
  have hT : ∀ w ∈ gT, w.before _ s = true := fun w h => atoms_spec (ws := (Cond.code yX11_law cX11_law 4 (some .int) :: gT)) B.pre w (List.mem_cons_of_mem _ h)
  have hown : s.vm.findClass RX11 = some m.cls := findClass_of_methodNamed B.named
  subst hsz
  have hD := hD0.self (sz := s.heap.size)
  generalize hAe : va_A (xW cy a i r q (a 20) (a 12) ++ tl) s.heap.size = A at hD hQ hsk
  have hA : ∀ q : Nat, s.heap.size ≤ q → A q := fun q h => by rw [← hAe]; exact Or.inr h
  have hS : va_S A s.heap s.heap [] := va_S.rf
  have hl := lv_entry ([.ref (a 0), .int p0]) (n := 4) (Nat.le_of_ble_eq_true rfl)
  rw [lg_entry_eq]
  generalize (lg_sl ([.ref (a 0), .int p0]) ++ List.replicate (4 - (lg_sl ([.ref (a 0), .int p0])).length) Slot.unset).toArray = ls at hl ⊢
  have hl : lv_has ls 4 [(0, .ref (a 0)), (1, .int p0)] := hl
  have hEi : mEi [2, 3, 4, 5, 6, 7, 8, 9] i i := Ei_rf
  have hEr : mEr [11, 12, 13, 14, 15, 16, 17, 18, 19, 20, 21, 22, 23, 24, 25, 26, 27] r r := Er_rf
  refine lv_iload_n hx hb dX11_law_0 rfl (lv_at hl 1 rfl) ?_
  refine lv_iconst (v := 1) hx hb dX11_law_1 (by decide) ?_
  refine lv_sipush (v := 200) hx hb dX11_law_2 (by decide) ?_
  refine vp_callSi (W.runS (As := [.int p0, .int 1, .int 200]) (rest := []) ⟨hx, hb, hml, hown, hT⟩ (c_X11_within l p0 1 200) (va_cwS 3 hT (gS t_1 t_3 t_4 t_2) rfl rfl rfl (by decide +kernel) ⟨Nat.le_of_ble_eq_true rfl, Nat.le_of_ble_eq_true rfl⟩) preT rfl rfl hl.1 rfl (lv_room (Nat.le_of_ble_eq_true rfl)) dX11_law_5 ⟨Nat.le_of_ble_eq_true rfl, Nat.le_of_ble_eq_true rfl⟩) (fun r_1 hr_1 => ?_)
  have hr_1 : BR r_1 (1 ≤ p0.toInt ∧ p0.toInt ≤ 200) 1 0 := hr_1
  rcases hr_1 with ⟨rfl, h_2⟩ | ⟨rfl, h_2⟩
  · skip
    refine lv_if_eq (tgt := 22) hx hb dX11_law_8 (by decide) (fun c_3 => absurd c_3 (by decide)) (fun c_3 => ?_)
    refine lv_iload_n hx hb dX11_law_11 rfl (lv_at hl 1 rfl) ?_
    refine lv_aload_n hx hb dX11_law_12 rfl (lv_at hl 0 rfl) ?_
    refine va_get (D := D) (ci := 11) (v := .ref (a 8)) (C := RX11) (T := TX11) (N := 14) hx hb hT iX11 hown hK hP 0 rfl rfl 4 (by decide) (hT _ t_335) (fun _ h9 => h9) rfl dX11_law_13 ?_
    refine va_get (D := D) (ci := 9) (v := .int (i 2)) (C := RX9) (T := TX9) (N := 2) hx hb hT iX9 hown hK hP 8 rfl rfl 1 (by decide) (hT _ t_336) (fun _ h9 => h9) rfl dX11_law_16 ?_
    have hg_4 : 0 ≤ (i 2).toInt ∧ (i 2).toInt ≤ 220 := hRi 2
    refine lv_icmp_le (tgt := 24) hx hb dX11_law_19 (by decide) (fun c_5 => ?_) (fun c_5 => ?_)
    · have c_5 : p0.toInt ≤ (i 2).toInt := b_le c_5
      refine lv_aload_n hx hb dX11_law_24 rfl (lv_at hl 0 rfl) ?_
      refine va_get (D := D) (ci := 11) (v := .ref (a 10)) (C := RX11) (T := TX11) (N := 14) hx hb hT iX11 hown hK hP 0 rfl rfl 5 (by decide) (hT _ t_767) (fun _ h9 => h9) rfl dX11_law_25 ?_
      refine lv_aload_n hx hb dX11_law_28 rfl (lv_at hl 0 rfl) ?_
      refine va_get (D := D) (ci := 11) (v := .ref (a 8)) (C := RX11) (T := TX11) (N := 14) hx hb hT iX11 hown hK hP 0 rfl rfl 4 (by decide) (hT _ t_335) (fun _ h9 => h9) rfl dX11_law_29 ?_
      refine lv_iload_n hx hb dX11_law_32 rfl (lv_at hl 1 rfl) ?_
      have hF_6 := rF hD hS hA
      refine va_calli (va_runV (As := [.ref (a 8), .int p0]) (rest := []) ⟨hx, hb, hml, hown, hT⟩ (c_X6_read l D cy a i r q tl kq vq p0 _ hRi hRr (by first | omega | decide)) (cwV 2 hT (gV t_812 t_813 t_814 t_815 t_653) rfl rfl rfl (by decide +kernel) ⟨Nat.le_of_ble_eq_true rfl, Nat.le_of_ble_eq_true rfl⟩) (rS_v hsk hS hF_6 hP hK hD (va_recv hK hP (ci := 6) (q0 := 10) rfl rfl)) rfl rfl hl.1 rfl (lv_room (Nat.le_of_ble_eq_true rfl)) dX11_law_33 ⟨Nat.le_of_ble_eq_true rfl, Nat.le_of_ble_eq_true rfl⟩) hS (fun q _ h => hF_6 q h) hF_6 (fun r_7 u_8 t H1 locs ht hvm hr_7 hB hz1 hk1 hS => ?_)
      obtain ⟨i8, r8⟩ := u_8
      obtain ⟨hP, hK1, hD1⟩ := hB
      rw [ht] at hP
      have hD := hD1.weaken (fun k q _ h => hF_6 q.1 h)
      obtain ⟨hRi, hRr, hE1, hE2, hr_7⟩ := hr_7
      have hRi : yRi i8 := hRi
      have hE1 : mEi [3, 4, 5, 6, 7] i i8 := hE1
      have hRr : yRr r8 := hRr
      have hE2 : mEr [11, 13, 14, 15, 16, 17, 18] r r8 := hE2
      have hP : va_P D vwCl (xW cy a i8 r8 q (a 20) (a 12) ++ tl) H1 := hP
      have hD : va_D A (xW cy a i8 r8 q (a 20) (a 12) ++ tl) := hD
      have hEi : mEi [2, 3, 4, 5, 6, 7, 8, 9] _ i8 := Ei_tr hEi hE1 (by decide)
      have hEr : mEr [11, 12, 13, 14, 15, 16, 17, 18, 19, 20, 21, 22, 23, 24, 25, 26, 27] _ r8 := Er_tr hEr hE2 (by decide)
      refine lv_istore_n (lv' := [(2, .int r_7), (0, .ref (a 0)), (1, .int p0)]) hx hb dX11_law_36 rfl hl (by decide) rfl (fun ls hl => ?_)
      refine lv_aload_n hx hb dX11_law_37 rfl (lv_at hl 1 rfl) ?_
      refine va_get (D := D) (ci := 11) (v := .ref (a 8)) (C := RX11) (T := TX11) (N := 14) hx hb hT iX11 hown hK hP 0 rfl rfl 4 (by decide) (hT _ t_335) (fun _ h9 => h9) rfl dX11_law_38 ?_
      refine lv_iconst (v := 0) hx hb dX11_law_41 (by decide) ?_
      refine va_put (D := D) (ci := 9) (v := .int 0) (ty := .int) (C := RX9) (T := TX9) (N := 2) hx hb hT iX9 tyX9 tyX9_ok nmX9 hown hK hP hD hS 8 rfl rfl 1 (by decide) (hT _ t_336) (fun _ h9 => h9) rfl (by decide +kernel) rfl rfl (Nat.le_of_ble_eq_true rfl) dX11_law_42 (fun H locs hP hD hS => ?_)
      rw [zP2] at hP hD
      have hRi := Yi_upd hRi 2 0 ⟨by decide, by decide⟩
      have hEi := Ei_upd hEi 2 0 (by decide)
      refine lv_iload_n hx hb dX11_law_45 rfl (lv_at hl 0 rfl) ?_
      refine lv_if_eq (tgt := 51) hx hb dX11_law_46 (by decide) (fun c_9 => ?_) (fun c_9 => ?_)
      · have c_9 : r_7.toInt = 0 := b_eq c_9
        refine lv_aload_n hx hb dX11_law_51 rfl (lv_at hl 1 rfl) ?_
        refine va_get (D := D) (ci := 11) (v := .ref (a 20)) (C := RX11) (T := TX11) (N := 14) hx hb hT iX11 hown hK hP 0 rfl rfl 6 (by decide) (hT _ t_516) (fun _ h9 => h9) rfl dX11_law_52 ?_
        refine lv_astore_n (lv' := [(3, .ref (a 20)), (2, .int r_7), (0, .ref (a 0)), (1, .int p0)]) hx hb dX11_law_55 rfl hl (by decide) rfl (fun ls hl => ?_)
        refine lv_aload_n hx hb dX11_law_56 rfl (lv_at hl 2 rfl) ?_
        refine lv_aload_n hx hb dX11_law_57 rfl (lv_at hl 2 rfl) ?_
        refine va_get (D := D) (ci := 11) (v := .ref (a 10)) (C := RX11) (T := TX11) (N := 14) hx hb hT iX11 hown hK hP 0 rfl rfl 5 (by decide) (hT _ t_767) (fun _ h9 => h9) rfl dX11_law_58 ?_
        refine va_get (D := D) (ci := 6) (v := .ref (a 12)) (C := RX6) (T := TX6) (N := 5) hx hb hT iX6 hown hK hP 10 rfl rfl 0 (by decide) (hT _ t_816) (fun _ h9 => h9) rfl dX11_law_61 ?_
        refine va_put (D := D) (ci := 11) (v := .ref (a 12)) (ty := .object "DepositJudge$Law") (C := RX11) (T := TX11) (N := 14) hx hb hT iX11 tyX11 tyX11_ok nmX11 hown hK hP hD hS 0 rfl rfl 6 (by decide) (hT _ t_516) (fun _ h9 => h9) rfl (by decide +kernel) rfl rfl (Nat.le_of_ble_eq_true rfl) dX11_law_64 (fun H locs hP hD hS => ?_)
        rw [zLF] at hP hD
        refine lv_aload_n hx hb dX11_law_67 rfl (lv_at hl 2 rfl) ?_
        refine va_get (D := D) (ci := 11) (v := .ref (a 10)) (C := RX11) (T := TX11) (N := 14) hx hb hT iX11 hown hK hP 0 rfl rfl 5 (by decide) (hT _ t_767) (fun _ h9 => h9) rfl dX11_law_68 ?_
        refine lv_aload_n hx hb dX11_law_71 rfl (lv_at hl 0 rfl) ?_
        refine va_put (D := D) (ci := 6) (v := .ref (a 20)) (ty := .object "DepositJudge$Law") (C := RX6) (T := TX6) (N := 5) hx hb hT iX6 tyX6 tyX6_ok nmX6 hown hK hP hD hS 10 rfl rfl 0 (by decide) (hT _ t_816) (fun _ h9 => h9) rfl (by decide +kernel) rfl rfl (Nat.le_of_ble_eq_true rfl) dX11_law_72 (fun H locs hP hD hS => ?_)
        rw [zLD] at hP hD
        refine lv_aload_n hx hb dX11_law_75 rfl (lv_at hl 2 rfl) ?_
        refine va_get (D := D) (ci := 11) (v := .ref (a 12)) (C := RX11) (T := TX11) (N := 14) hx hb hT iX11 hown hK hP 0 rfl rfl 6 (by decide) (hT _ t_516) (fun _ h9 => h9) rfl dX11_law_76 ?_
        refine va_get (D := D) (ci := 5) (v := .int (i8 6)) (C := RX5) (T := TX5) (N := 9) hx hb hT iX5 hown hK hP 12 rfl rfl 0 (by decide) (hT _ t_609) (fun _ h9 => h9) rfl dX11_law_79 ?_
        have hg_10 : 0 ≤ (i8 6).toInt ∧ (i8 6).toInt ≤ 14 := hRi 6
        subst hQ
        have hP9 := vaP_perm swap_perm hP
        have hD9 := vaD_perm swap_perm hD
        exact W.iret (v := i8 6) hx hb hr (fun t ht hW => ⟨⟨_, ((fun p => a (swp p)), (fun k => (upd i8 2 0) (swi k)), (fun p => (r8) (swp p))), rfl, ⟨swap_Ri hRi, swap_Rr hRr, sw_Ei hEi, sw_Er hEr, sw_a⟩, by rw [ht]; exact hP9, va_K.moved hW.alike hK, hD9⟩, hS.F ht⟩) hS.2.2 dX11_law_82
      · have c_9 : r_7.toInt ≠ 0 := b_ne c_9
        refine lv_iload_n hx hb dX11_law_49 rfl (lv_at hl 0 rfl) ?_
        subst hQ
        exact W.iret (v := r_7) hx hb hr (fun t ht hW => ⟨⟨_, (a, upd i8 2 0, r8), rfl, ⟨hRi, hRr, hEi, hEr, fun _ _ => rfl⟩, by rw [ht]; exact hP, va_K.moved hW.alike hK, hD⟩, hS.F ht⟩) hS.2.2 dX11_law_50
    · have c_5 : (i 2).toInt < p0.toInt := b_nle c_5
      refine lv_iconst (v := (-1)) hx hb dX11_law_22 (by decide) ?_
      subst hQ
      exact W.iret (v := (-1)) hx hb hr (fun t ht hW => ⟨⟨_, (a, i, r), rfl, ⟨hRi, hRr, hEi, hEr, fun _ _ => rfl⟩, by rw [ht]; exact hP, va_K.moved hW.alike hK, hD⟩, hS.F ht⟩) hS.2.2 dX11_law_23
  · skip
    refine lv_if_eq (tgt := 22) hx hb dX11_law_8 (by decide) (fun c_11 => ?_) (fun c_11 => absurd (by decide) c_11)
    refine lv_iconst (v := (-1)) hx hb dX11_law_22 (by decide) ?_
    subst hQ
    exact W.iret (v := (-1)) hx hb hr (fun t ht hW => ⟨⟨_, (a, i, r), rfl, ⟨hRi, hRr, hEi, hEr, fun _ _ => rfl⟩, by rw [ht]; exact hP, va_K.moved hW.alike hK, hD⟩, hS.F ht⟩) hS.2.2 dX11_law_23
def rP2 (D : va_G) (cy : Nat → ClassId) (W1 W2 : va_W) (U : State) : Prop := va_P D vwCl W1 U.heap ∧ va_P D vwCl W2 U.heap ∧ va_K D vwCl (vT cy) U
theorem rP2_s {D : va_G} {cy : Nat → ClassId} {W1 W2 : va_W} {s : State} {H : Heap} {av : List Value} (hP : va_P D vwCl W1 H) (hP2 : va_P D vwCl W2 H) (hK : va_K D vwCl (vT cy) s) : PreS s H (va_Pc av (rP2 D cy W1 W2)) av := ⟨fun a U g mk q => ⟨q.1, q.2.1, q.2.2.1, va_K.moved (u := U) (U := U.calling g mk a) (Vm.Alike.refl U.vm) q.2.2.2⟩, fun U hU hW => ⟨rfl, by rw [hU]; exact hP, by rw [hU]; exact hP2, va_K.moved hW.alike hK⟩⟩
theorem vwy {D : va_G} {cl : List vw_C} {cy : Nat → ClassId} {a b : Nat → Nat} {i j : Nat → Int32} {r s : Nat → Nat → Int32} {q : Nat → Option Nat} {tl : va_W} {H : Heap} (hP : va_P D cl (xW cy a i r q (a 20) (a 12) ++ tl) H) (hm : ∀ c ∈ hW cy b j s, c ∈ tl) : va_P D cl (xW cy (mixA a b) (mixI i j) (mixR r s) q (mixA a b 20) (mixA a b 12) ++ (hW cy (mixA a b) (mixI i j) (mixR r s) ++ [])) H := by
  refine vaP_mem ?_ hP
  show ∀ c ∈ xW cy a i r q (a 20) (a 12) ++ (hW cy b j s ++ []), c ∈ xW cy a i r q (a 20) (a 12) ++ tl
  intro c hc
  rcases List.mem_append.mp hc with h | h
  · exact List.mem_append_left _ h
  · rw [List.append_nil] at h; exact List.mem_append_right _ (hm c h)
set_option maxHeartbeats 4000000 in
set_option maxRecDepth 100000 in
theorem c_X11_distance (l : Launch) (D : va_G) (cy : Nat → ClassId) (a : Nat → Nat) (i : Nat → Int32) (r : Nat → Nat → Int32) (q : Nat → Option Nat) (tl : va_W) (b9 : Nat → Nat) (j9 : Nat → Int32) (r9 : Nat → Nat → Int32) (tl9 : va_W) (hRi : yRi i) (hRr : yRr r) (hRi9 : yRi j9) (hRr9 : yRr r9) : Met l yX11_distance (Cond.code yX11_distance cX11_distance 4 (some .int) :: gT) { frames := 4, cells := 0, slots := 0, locals := 89 } (va_Pc [.ref (a 61), .ref (b9 61)] (rP2 D cy (xW cy a i r q (a 20) (a 12) ++ (hW cy a i r ++ tl)) (xW cy b9 j9 r9 q (b9 20) (b9 12) ++ (hW cy b9 j9 r9 ++ tl9)))) (vp_Si (fun z => True)) 0 0 (fun _ => False) := by
  refine Met.ofQ (cc := cX11_distance) (maxL := 4) (ret := (some .int)) (by decide) rfl ?_
  intro p e s m args below meth c s₁ B hml hv Q hQ
  obtain ⟨rfl, hP, hP9, hK⟩ := hv
  have hx := B.exec
  have hb := B.bytes
  have hr := B.returns
  have hlocks := B.notSynchronized
  have hT : ∀ w ∈ gT, w.before _ s = true := fun w h => atoms_spec (ws := (Cond.code yX11_distance cX11_distance 4 (some .int) :: gT)) B.pre w (List.mem_cons_of_mem _ h)
  have hown : s.vm.findClass RX11 = some m.cls := findClass_of_methodNamed B.named
  have hl := lv_entry ([.ref (a 61), .ref (b9 61)]) (n := 4) (Nat.le_of_ble_eq_true rfl)
  rw [lg_entry_eq]
  generalize (lg_sl ([.ref (a 61), .ref (b9 61)]) ++ List.replicate (4 - (lg_sl ([.ref (a 61), .ref (b9 61)])).length) Slot.unset).toArray = ls at hl ⊢
  have hl : lv_has ls 4 [(0, .ref (a 61)), (1, .ref (b9 61))] := hl
  have hEi : mEi [] i i := Ei_rf
  have hEr : mEr [] r r := Er_rf
  refine lv_aload_n hx hb dX11_distance_0 rfl (lv_at hl 0 rfl) ?_
  refine vp_callSi (W.runV (As := []) (rest := []) ⟨hx, hb, hml, hown, hT⟩ (c_X3_months l D cy a i r q tl hRi hRr) (cwV 0 hT (gV t_501 t_502 t_503 t_504 t_391) rfl rfl rfl (by decide +kernel) ⟨Nat.le_of_ble_eq_true rfl, Nat.le_of_ble_eq_true rfl⟩) (rP_v hP hK (va_recv hK hP (ci := 3) (q0 := 61) rfl rfl)) rfl rfl hl.1 rfl (lv_room (Nat.le_of_ble_eq_true rfl)) dX11_distance_1 ⟨Nat.le_of_ble_eq_true rfl, Nat.le_of_ble_eq_true rfl⟩) (fun r_1 hr_1 => ?_)
  have hr_1 : -999 ≤ r_1.toInt ∧ r_1.toInt ≤ 999 := hr_1
  refine lv_aload_n hx hb dX11_distance_4 rfl (lv_at hl 1 rfl) ?_
  refine vp_callSi (W.runV (As := []) (rest := [.int r_1]) ⟨hx, hb, hml, hown, hT⟩ (c_X3_months l D cy b9 j9 r9 q tl9 hRi9 hRr9) (cwV 0 hT (gV t_501 t_502 t_503 t_504 t_391) rfl rfl rfl (by decide +kernel) ⟨Nat.le_of_ble_eq_true rfl, Nat.le_of_ble_eq_true rfl⟩) (rP_v hP9 hK (va_recv hK hP9 (ci := 3) (q0 := 61) rfl rfl)) rfl rfl hl.1 rfl (lv_room (Nat.le_of_ble_eq_true rfl)) dX11_distance_5 ⟨Nat.le_of_ble_eq_true rfl, Nat.le_of_ble_eq_true rfl⟩) (fun r_2 hr_2 => ?_)
  have hr_2 : -999 ≤ r_2.toInt ∧ r_2.toInt ≤ 999 := hr_2
  refine lv_isub hx hb dX11_distance_8 ?_
  refine lv_topi (fun v_3 ev_3 => ?_)
  have hv_3 : v_3.toInt = r_1.toInt - r_2.toInt := by rw [ev_3]; have := b_rg r_1; have := b_rg r_2; exact i_sub (a := r_1.toInt) (b := r_2.toInt) rfl rfl (by omega) (by omega)
  refine va_mabs hx hb (by rw [hml]; exact hl.1.symm) hown (hT _ t_328) (hT _ t_288) (hT _ t_289) (hT _ t_290) (Nat.le_of_ble_eq_true rfl) (Nat.le_of_ble_eq_true rfl) (Nat.le_of_ble_eq_true rfl) (Nat.le_of_ble_eq_true rfl) dX11_distance_9 ?_
  refine lv_topi (fun v_4 ev_4 => ?_)
  refine lv_bipush (v := 12) hx hb dX11_distance_12 (by decide) ?_
  refine lv_idiv hx hb dX11_distance_14 (by decide) ?_
  refine lv_topi (fun v_5 ev_5 => ?_)
  refine lv_istore_n (lv' := [(2, .int v_5), (0, .ref (a 61)), (1, .ref (b9 61))]) hx hb dX11_distance_15 rfl hl (by decide) rfl (fun ls hl => ?_)
  refine lv_iconst (v := 0) hx hb dX11_distance_16 (by decide) ?_
  refine lv_istore_n (lv' := [(3, .int 0), (2, .int v_5), (0, .ref (a 61)), (1, .ref (b9 61))]) hx hb dX11_distance_17 rfl hl (by decide) rfl (fun ls hl => ?_)
  have loop_6 : ∀ (n : Nat) (x6_3 : Int32) (x6_2 : Int32) (ls : Array Slot), (8 - x6_3.toInt).toNat < n → (0 ≤ x6_3.toInt ∧ x6_3.toInt ≤ 8) → lv_has ls 4 [(3, .int x6_3), (2, .int x6_2), (0, .ref (a 61)), (1, .ref (b9 61))] → W p l e ({ frames := 4, cells := 0, slots := 0, locals := 89 } : Room) s m ([.ref (a 61), .ref (b9 61)] : List Value).toArray below meth c s.heap [] 0 0 Q (F0 m 18 ls []) := by
    intro n
    induction n with
    | zero =>
      intro x6_3 x6_2 ls hm6 hf6_0 hl
      exact absurd hm6 (by omega)
    | succ n ih6 =>
      intro x6_3 x6_2 ls hm6 hf6_0 hl
      refine lv_iload_n hx hb dX11_distance_18 rfl (lv_at hl 0 rfl) ?_
      refine lv_bipush (v := 8) hx hb dX11_distance_19 (by decide) ?_
      refine lv_icmp_ge (tgt := 50) hx hb dX11_distance_21 (by decide) (fun c_7 => ?_) (fun c_7 => ?_)
      · have c_7 : 8 ≤ x6_3.toInt := b_le c_7
        refine lv_iload_n hx hb dX11_distance_50 rfl (lv_at hl 1 rfl) ?_
        subst hQ
        exact W.iret (v := x6_2) hx hb hr (fun t ht hW => ⟨_, rfl, trivial, ht⟩) (fun q hq => absurd hq List.not_mem_nil) dX11_distance_51
      · have c_7 : x6_3.toInt < 8 := b_nle c_7
        refine lv_iload_n hx hb dX11_distance_24 rfl (lv_at hl 1 rfl) ?_
        refine lv_bipush (v := 10) hx hb dX11_distance_25 (by decide) ?_
        refine lv_aload_n hx hb dX11_distance_27 rfl (lv_at hl 2 rfl) ?_
        refine lv_iload_n hx hb dX11_distance_28 rfl (lv_at hl 0 rfl) ?_
        refine vp_callSi (W.runV (As := [.int x6_3]) (rest := [.int 10, .int x6_2]) ⟨hx, hb, hml, hown, hT⟩ (c_X3_worsened l D cy a i r q tl x6_3 hRi hRr) (cwV 1 hT (gV t_817 t_818 t_819 t_820 t_391) rfl rfl rfl (by decide +kernel) ⟨Nat.le_of_ble_eq_true rfl, Nat.le_of_ble_eq_true rfl⟩) (rP_v hP hK (va_recv hK hP (ci := 3) (q0 := 61) rfl rfl)) rfl rfl hl.1 rfl (lv_room (Nat.le_of_ble_eq_true rfl)) dX11_distance_29 ⟨Nat.le_of_ble_eq_true rfl, Nat.le_of_ble_eq_true rfl⟩) (fun r_8 hr_8 => ?_)
        refine lv_aload_n hx hb dX11_distance_32 rfl (lv_at hl 3 rfl) ?_
        refine lv_iload_n hx hb dX11_distance_33 rfl (lv_at hl 0 rfl) ?_
        refine vp_callSi (W.runV (As := [.int x6_3]) (rest := [.int r_8, .int 10, .int x6_2]) ⟨hx, hb, hml, hown, hT⟩ (c_X3_worsened l D cy b9 j9 r9 q tl9 x6_3 hRi9 hRr9) (cwV 1 hT (gV t_817 t_818 t_819 t_820 t_391) rfl rfl rfl (by decide +kernel) ⟨Nat.le_of_ble_eq_true rfl, Nat.le_of_ble_eq_true rfl⟩) (rP_v hP9 hK (va_recv hK hP9 (ci := 3) (q0 := 61) rfl rfl)) rfl rfl hl.1 rfl (lv_room (Nat.le_of_ble_eq_true rfl)) dX11_distance_34 ⟨Nat.le_of_ble_eq_true rfl, Nat.le_of_ble_eq_true rfl⟩) (fun r_9 hr_9 => ?_)
        refine lv_isub hx hb dX11_distance_37 ?_
        refine lv_topi (fun v_10 ev_10 => ?_)
        refine va_mabs hx hb (by rw [hml]; exact hl.1.symm) hown (hT _ t_328) (hT _ t_288) (hT _ t_289) (hT _ t_290) (Nat.le_of_ble_eq_true rfl) (Nat.le_of_ble_eq_true rfl) (Nat.le_of_ble_eq_true rfl) (Nat.le_of_ble_eq_true rfl) dX11_distance_38 ?_
        refine lv_topi (fun v_11 ev_11 => ?_)
        refine lv_imul hx hb dX11_distance_41 ?_
        refine lv_topi (fun v_12 ev_12 => ?_)
        refine lv_iadd hx hb dX11_distance_42 ?_
        refine lv_topi (fun v_13 ev_13 => ?_)
        refine lv_istore_n (lv' := [(2, .int v_13), (3, .int x6_3), (0, .ref (a 61)), (1, .ref (b9 61))]) hx hb dX11_distance_43 rfl hl (by decide) rfl (fun ls hl => ?_)
        obtain ⟨x_14, ex_14⟩ : ∃ y : Int32, y = x6_3 + 1 := ⟨_, rfl⟩
        refine lv_iinc (v := x_14) (lv' := [(3, .int x_14), (2, .int v_13), (0, .ref (a 61)), (1, .ref (b9 61))]) hx hb dX11_distance_44 hl (k := 1) rfl (by rw [ex_14]; rfl) (by decide) rfl (fun ls hl => ?_)
        have hx_14 : x_14.toInt = x6_3.toInt + 1 := by rw [ex_14]; have := b_rg x6_3; exact i_add (a := x6_3.toInt) (b := 1) rfl rfl (by omega) (by omega)
        refine lv_goto (tgt := 18) hx hb dX11_distance_47 (by decide) ?_
        exact ih6 x_14 v_13 _ (by first | omega | (simp only [Int.toNat]; omega)) (by first | omega | decide)    (lv_sub hl [0, 1, 2, 3] rfl)
  exact loop_6 _ 0 v_5 _ (Nat.lt_succ_self _) (by first | omega | decide)    hl
set_option maxHeartbeats 4000000 in
set_option maxRecDepth 100000 in
theorem c_X11_like.y (l : Launch) (D : va_G) (cy : Nat → ClassId) (a : Nat → Nat) (i : Nat → Int32) (r : Nat → Nat → Int32) (q : Nat → Option Nat) (tl : va_W) (p0 p1 : Int32) (hRi : yRi i) (hRr : yRr r) (nh : Nat) (gb : Nat → Nat → Nat) (gi : Nat → Nat → Int32) (gr : Nat → Nat → Nat → Int32) (hn : (i 0).toInt = (nh : Int)) (hH : ∀ k, k < nh → q k = some (gb k 61) ∧ yRi (gi k) ∧ yRr (gr k) ∧ ∀ c ∈ hW cy (gb k) (gi k) (gr k), c ∈ tl) (hh : 0 ≤ p0.toInt ∧ p0.toInt < (i 0).toInt) : Met l yX11_like (Cond.code yX11_like cX11_like 9 (some .int) :: gT) { frames := 5, cells := 0, slots := 0, locals := 112 } (va_Pc [.ref (a 0), .int p0, .int p1] (rP D cy (xW cy a i r q (a 20) (a 12) ++ tl))) (vp_Si (fun z => True)) 0 0 (fun _ => False) := by
  refine Met.ofQ (cc := cX11_like) (maxL := 9) (ret := (some .int)) (by decide) rfl ?_
  intro p e s m args below meth c s₁ B hml hv Q hQ
  obtain ⟨rfl, hP, hK⟩ := hv
  have hx := B.exec
  have hb := B.bytes
  have hr := B.returns
  have hlocks := B.notSynchronized
  have hT : ∀ w ∈ gT, w.before _ s = true := fun w h => atoms_spec (ws := (Cond.code yX11_like cX11_like 9 (some .int) :: gT)) B.pre w (List.mem_cons_of_mem _ h)
  have hown : s.vm.findClass RX11 = some m.cls := findClass_of_methodNamed B.named
  have hl := lv_entry ([.ref (a 0), .int p0, .int p1]) (n := 9) (Nat.le_of_ble_eq_true rfl)
  rw [lg_entry_eq]
  generalize (lg_sl ([.ref (a 0), .int p0, .int p1]) ++ List.replicate (9 - (lg_sl ([.ref (a 0), .int p0, .int p1])).length) Slot.unset).toArray = ls at hl ⊢
  have hl : lv_has ls 9 [(0, .ref (a 0)), (1, .int p0), (2, .int p1)] := hl
  have hEi : mEi [] i i := Ei_rf
  have hEr : mEr [] r r := Er_rf
  have hg0 : 0 ≤ (i 0).toInt ∧ (i 0).toInt ≤ 6 := hRi 0
  refine lv_aload_n hx hb dX11_like_0 rfl (lv_at hl 0 rfl) ?_
  refine lv_iload_n hx hb dX11_like_1 rfl (lv_at hl 1 rfl) ?_
  refine va_csq (W.runV (As := [.int p0]) (rest := []) ⟨hx, hb, hml, hown, hT⟩ (c_X11_homeAt l D cy a i r q tl p0 hRi hRr) (cwV 1 hT (gV t_443 t_444 t_445 t_446 t_2) rfl rfl rfl (by decide +kernel) ⟨Nat.le_of_ble_eq_true rfl, Nat.le_of_ble_eq_true rfl⟩) (rP_v hP hK (va_recv hK hP (ci := 11) (q0 := 0) rfl rfl)) rfl rfl hl.1 rfl (lv_room (Nat.le_of_ble_eq_true rfl)) dX11_like_2 ⟨Nat.le_of_ble_eq_true rfl, Nat.le_of_ble_eq_true rfl⟩) (fun r_1 hr_1 => ?_)
  obtain rfl : r_1 = some (gb p0.toNatClampNeg 61) := (hr_1.1 (by omega)).trans (hH p0.toNatClampNeg (by have h9 : p0.toNatClampNeg = p0.toInt.toNat := rfl; omega)).1
  refine W.eq (g2 := F0 m 5 ls [.ref (gb p0.toNatClampNeg 61)]) rfl ?_
  refine lv_astore_n (lv' := [(3, .ref (gb p0.toNatClampNeg 61)), (0, .ref (a 0)), (1, .int p0), (2, .int p1)]) hx hb dX11_like_5 rfl hl (by decide) rfl (fun ls hl => ?_)
  refine lv_aload_n hx hb dX11_like_6 rfl (lv_at hl 0 rfl) ?_
  refine lv_ifnull hx hb dX11_like_7 ?_
  refine lv_iload_n hx hb dX11_like_10 rfl (lv_at hl 3 rfl) ?_
  refine lv_iconst (v := 0) hx hb dX11_like_11 (by decide) ?_
  refine lv_iconst (v := 1) hx hb dX11_like_12 (by decide) ?_
  refine vp_callSi (W.runS (As := [.int p1, .int 0, .int 1]) (rest := []) ⟨hx, hb, hml, hown, hT⟩ (c_X11_within l p1 0 1) (va_cwS 3 hT (gS t_1 t_3 t_4 t_2) rfl rfl rfl (by decide +kernel) ⟨Nat.le_of_ble_eq_true rfl, Nat.le_of_ble_eq_true rfl⟩) preT rfl rfl hl.1 rfl (lv_room (Nat.le_of_ble_eq_true rfl)) dX11_like_13 ⟨Nat.le_of_ble_eq_true rfl, Nat.le_of_ble_eq_true rfl⟩) (fun r_2 hr_2 => ?_)
  have hr_2 : BR r_2 (0 ≤ p1.toInt ∧ p1.toInt ≤ 1) 1 0 := hr_2
  rcases hr_2 with ⟨rfl, h_3⟩ | ⟨rfl, h_3⟩
  · skip
    refine lv_if_ne (tgt := 21) hx hb dX11_like_16 (by decide) (fun c_4 => ?_) (fun c_4 => absurd c_4 (by decide))
    refine lv_bipush (v := (-2)) hx hb dX11_like_21 (by decide) ?_
    refine lv_istore (lv' := [(4, .int (-2)), (3, .ref (gb p0.toNatClampNeg 61)), (0, .ref (a 0)), (1, .int p0), (2, .int p1)]) hx hb dX11_like_23 hl (by decide) rfl (fun ls hl => ?_)
    refine lv_bipush (v := (-2)) hx hb dX11_like_25 (by decide) ?_
    refine lv_istore (lv' := [(5, .int (-2)), (4, .int (-2)), (3, .ref (gb p0.toNatClampNeg 61)), (0, .ref (a 0)), (1, .int p0), (2, .int p1)]) hx hb dX11_like_27 hl (by decide) rfl (fun ls hl => ?_)
    refine lv_iconst (v := 0) hx hb dX11_like_29 (by decide) ?_
    refine lv_istore (lv' := [(6, .int 0), (5, .int (-2)), (4, .int (-2)), (3, .ref (gb p0.toNatClampNeg 61)), (0, .ref (a 0)), (1, .int p0), (2, .int p1)]) hx hb dX11_like_30 hl (by decide) rfl (fun ls hl => ?_)
    have loop_5 : ∀ (n : Nat) (x5_6 : Int32) (x5_5 : Int32) (x5_4 : Int32) (ls : Array Slot), (6 - x5_6.toInt).toNat < n → (0 ≤ x5_6.toInt ∧ x5_6.toInt ≤ 6) → lv_has ls 9 [(6, .int x5_6), (5, .int x5_5), (4, .int x5_4), (3, .ref (gb p0.toNatClampNeg 61)), (0, .ref (a 0)), (1, .int p0), (2, .int p1)] → W p l e ({ frames := 5, cells := 0, slots := 0, locals := 112 } : Room) s m ([.ref (a 0), .int p0, .int p1] : List Value).toArray below meth c s.heap [] 0 0 Q (F0 m 32 ls []) := by
      intro n
      induction n with
      | zero =>
        intro x5_6 x5_5 x5_4 ls hm5 hf5_0 hl
        exact absurd hm5 (by omega)
      | succ n ih5 =>
        intro x5_6 x5_5 x5_4 ls hm5 hf5_0 hl
        refine lv_iload hx hb dX11_like_32 (lv_at hl 0 rfl) ?_
        refine lv_aload_n hx hb dX11_like_34 rfl (lv_at hl 4 rfl) ?_
        refine va_get (D := D) (ci := 11) (v := .int (i 0)) (C := RX11) (T := TX11) (N := 14) hx hb hT iX11 hown hK hP 0 rfl rfl 2 (by decide) (hT _ t_263) (fun _ h9 => h9) rfl dX11_like_35 ?_
        have hg_6 : 0 ≤ (i 0).toInt ∧ (i 0).toInt ≤ 6 := hRi 0
        refine lv_icmp_ge (tgt := 99) hx hb dX11_like_38 (by decide) (fun c_7 => ?_) (fun c_7 => ?_)
        · have c_7 : (i 0).toInt ≤ x5_6.toInt := b_le c_7
          refine lv_iload_n hx hb dX11_like_99 rfl (lv_at hl 6 rfl) ?_
          refine lv_if_ne (tgt := 108) hx hb dX11_like_100 (by decide) (fun c_8 => ?_) (fun c_8 => ?_)
          · have c_8 : p1.toInt ≠ 0 := b_ne c_8
            refine lv_iload hx hb dX11_like_108 (lv_at hl 1 rfl) ?_
            subst hQ
            exact W.iret (v := x5_5) hx hb hr (fun t ht hW => ⟨_, rfl, trivial, ht⟩) (fun q hq => absurd hq List.not_mem_nil) dX11_like_110
          · have c_8 : p1.toInt = 0 := b_nne c_8
            refine lv_iload hx hb dX11_like_103 (lv_at hl 2 rfl) ?_
            refine lv_goto (tgt := 110) hx hb dX11_like_105 (by decide) ?_
            subst hQ
            exact W.iret (v := x5_4) hx hb hr (fun t ht hW => ⟨_, rfl, trivial, ht⟩) (fun q hq => absurd hq List.not_mem_nil) dX11_like_110
        · have c_7 : x5_6.toInt < (i 0).toInt := b_nle c_7
          refine lv_aload_n hx hb dX11_like_41 rfl (lv_at hl 4 rfl) ?_
          refine lv_iload hx hb dX11_like_42 (lv_at hl 0 rfl) ?_
          refine va_csq (W.runV (As := [.int x5_6]) (rest := []) ⟨hx, hb, hml, hown, hT⟩ (c_X11_homeAt l D cy a i r q tl x5_6 hRi hRr) (cwV 1 hT (gV t_443 t_444 t_445 t_446 t_2) rfl rfl rfl (by decide +kernel) ⟨Nat.le_of_ble_eq_true rfl, Nat.le_of_ble_eq_true rfl⟩) (rP_v hP hK (va_recv hK hP (ci := 11) (q0 := 0) rfl rfl)) rfl rfl hl.1 rfl (lv_room (Nat.le_of_ble_eq_true rfl)) dX11_like_44 ⟨Nat.le_of_ble_eq_true rfl, Nat.le_of_ble_eq_true rfl⟩) (fun r_9 hr_9 => ?_)
          obtain rfl : r_9 = some (gb x5_6.toNatClampNeg 61) := (hr_9.1 (by omega)).trans (hH x5_6.toNatClampNeg (by have h9 : x5_6.toNatClampNeg = x5_6.toInt.toNat := rfl; omega)).1
          refine W.eq (g2 := F0 m 47 ls [.ref (gb x5_6.toNatClampNeg 61)]) rfl ?_
          refine lv_astore (lv' := [(7, .ref (gb x5_6.toNatClampNeg 61)), (6, .int x5_6), (5, .int x5_5), (4, .int x5_4), (3, .ref (gb p0.toNatClampNeg 61)), (0, .ref (a 0)), (1, .int p0), (2, .int p1)]) hx hb dX11_like_47 hl (by decide) rfl (fun ls hl => ?_)
          refine lv_iload hx hb dX11_like_49 (lv_at hl 1 rfl) ?_
          refine lv_iload_n hx hb dX11_like_51 rfl (lv_at hl 6 rfl) ?_
          refine lv_icmp_eq (tgt := 93) hx hb dX11_like_52 (by decide) (fun c_10 => ?_) (fun c_10 => ?_)
          · have c_10 : x5_6.toInt = p0.toInt := b_eq c_10
            obtain ⟨x_11, ex_11⟩ : ∃ y : Int32, y = x5_6 + 1 := ⟨_, rfl⟩
            refine lv_iinc (v := x_11) (lv' := [(6, .int x_11), (7, .ref (gb x5_6.toNatClampNeg 61)), (5, .int x5_5), (4, .int x5_4), (3, .ref (gb p0.toNatClampNeg 61)), (0, .ref (a 0)), (1, .int p0), (2, .int p1)]) hx hb dX11_like_93 hl (k := 1) rfl (by rw [ex_11]; rfl) (by decide) rfl (fun ls hl => ?_)
            have hx_11 : x_11.toInt = x5_6.toInt + 1 := by rw [ex_11]; have := b_rg x5_6; exact i_add (a := x5_6.toInt) (b := 1) rfl rfl (by omega) (by omega)
            refine lv_goto (tgt := 32) hx hb dX11_like_96 (by decide) ?_
            exact ih5 x_11 x5_5 x5_4 _ (by first | omega | (simp only [Int.toNat]; omega)) (by first | omega | decide)    (lv_sub hl [0, 2, 3, 4, 5, 6, 7] rfl)
          · have c_10 : x5_6.toInt ≠ p0.toInt := b_ne c_10
            refine lv_aload hx hb dX11_like_55 (lv_at hl 0 rfl) ?_
            refine lv_ifnonnull (tgt := 63) hx hb dX11_like_57 (by decide) ?_
            refine lv_aload_n hx hb dX11_like_63 rfl (lv_at hl 4 rfl) ?_
            refine lv_aload hx hb dX11_like_64 (lv_at hl 0 rfl) ?_
            refine vp_callSi (W.runS (As := [.ref (gb p0.toNatClampNeg 61), .ref (gb x5_6.toNatClampNeg 61)]) (rest := []) ⟨hx, hb, hml, hown, hT⟩ (c_X11_distance l D cy (mixA a (gb p0.toNatClampNeg)) (mixI i (gi p0.toNatClampNeg)) (mixR r (gr p0.toNatClampNeg)) q ([]) (mixA a (gb x5_6.toNatClampNeg)) (mixI i (gi x5_6.toNatClampNeg)) (mixR r (gr x5_6.toNatClampNeg)) ([]) (mix_Ri hRi (hH p0.toNatClampNeg (by have h9 : p0.toNatClampNeg = p0.toInt.toNat := rfl; omega)).2.1) (mix_Rr hRr (hH p0.toNatClampNeg (by have h9 : p0.toNatClampNeg = p0.toInt.toNat := rfl; omega)).2.2.1) (mix_Ri hRi (hH x5_6.toNatClampNeg (by have h9 : x5_6.toNatClampNeg = x5_6.toInt.toNat := rfl; omega)).2.1) (mix_Rr hRr (hH x5_6.toNatClampNeg (by have h9 : x5_6.toNatClampNeg = x5_6.toInt.toNat := rfl; omega)).2.2.1)) (va_cwS 2 hT (gS t_821 t_822 t_823 t_2) rfl rfl rfl (by decide +kernel) ⟨Nat.le_of_ble_eq_true rfl, Nat.le_of_ble_eq_true rfl⟩) (rP2_s (vwy hP (hH p0.toNatClampNeg (by have h9 : p0.toNatClampNeg = p0.toInt.toNat := rfl; omega)).2.2.2) (vwy hP (hH x5_6.toNatClampNeg (by have h9 : x5_6.toNatClampNeg = x5_6.toInt.toNat := rfl; omega)).2.2.2) hK) rfl rfl hl.1 rfl (lv_room (Nat.le_of_ble_eq_true rfl)) dX11_like_66 ⟨Nat.le_of_ble_eq_true rfl, Nat.le_of_ble_eq_true rfl⟩) (fun r_12 hr_12 => ?_)
            refine lv_istore (lv' := [(8, .int r_12), (7, .ref (gb x5_6.toNatClampNeg 61)), (6, .int x5_6), (5, .int x5_5), (4, .int x5_4), (3, .ref (gb p0.toNatClampNeg 61)), (0, .ref (a 0)), (1, .int p0), (2, .int p1)]) hx hb dX11_like_69 hl (by decide) rfl (fun ls hl => ?_)
            refine lv_iload hx hb dX11_like_71 (lv_at hl 4 rfl) ?_
            refine lv_bipush (v := (-2)) hx hb dX11_like_73 (by decide) ?_
            refine lv_icmp_eq (tgt := 85) hx hb dX11_like_75 (by decide) (fun c_13 => ?_) (fun c_13 => ?_)
            · have c_13 : x5_4.toInt = (-2) := b_eq c_13
              refine lv_iload hx hb dX11_like_85 (lv_at hl 2 rfl) ?_
              refine lv_istore (lv' := [(4, .int x5_6), (8, .int r_12), (7, .ref (gb x5_6.toNatClampNeg 61)), (6, .int x5_6), (5, .int x5_5), (3, .ref (gb p0.toNatClampNeg 61)), (0, .ref (a 0)), (1, .int p0), (2, .int p1)]) hx hb dX11_like_87 hl (by decide) rfl (fun ls hl => ?_)
              refine lv_iload hx hb dX11_like_89 (lv_at hl 1 rfl) ?_
              refine lv_istore (lv' := [(5, .int r_12), (4, .int x5_6), (8, .int r_12), (7, .ref (gb x5_6.toNatClampNeg 61)), (6, .int x5_6), (3, .ref (gb p0.toNatClampNeg 61)), (0, .ref (a 0)), (1, .int p0), (2, .int p1)]) hx hb dX11_like_91 hl (by decide) rfl (fun ls hl => ?_)
              obtain ⟨x_14, ex_14⟩ : ∃ y : Int32, y = x5_6 + 1 := ⟨_, rfl⟩
              refine lv_iinc (v := x_14) (lv' := [(6, .int x_14), (5, .int r_12), (4, .int x5_6), (8, .int r_12), (7, .ref (gb x5_6.toNatClampNeg 61)), (3, .ref (gb p0.toNatClampNeg 61)), (0, .ref (a 0)), (1, .int p0), (2, .int p1)]) hx hb dX11_like_93 hl (k := 4) rfl (by rw [ex_14]; rfl) (by decide) rfl (fun ls hl => ?_)
              have hx_14 : x_14.toInt = x5_6.toInt + 1 := by rw [ex_14]; have := b_rg x5_6; exact i_add (a := x5_6.toInt) (b := 1) rfl rfl (by omega) (by omega)
              refine lv_goto (tgt := 32) hx hb dX11_like_96 (by decide) ?_
              exact ih5 x_14 r_12 x5_6 _ (by first | omega | (simp only [Int.toNat]; omega)) (by first | omega | decide)    (lv_sub hl [0, 1, 2, 5, 6, 7, 8] rfl)
            · have c_13 : x5_4.toInt ≠ (-2) := b_ne c_13
              refine lv_iload hx hb dX11_like_78 (lv_at hl 0 rfl) ?_
              refine lv_iload hx hb dX11_like_80 (lv_at hl 3 rfl) ?_
              refine lv_icmp_ge (tgt := 93) hx hb dX11_like_82 (by decide) (fun c_15 => ?_) (fun c_15 => ?_)
              · have c_15 : x5_5.toInt ≤ r_12.toInt := b_le c_15
                obtain ⟨x_16, ex_16⟩ : ∃ y : Int32, y = x5_6 + 1 := ⟨_, rfl⟩
                refine lv_iinc (v := x_16) (lv' := [(6, .int x_16), (8, .int r_12), (7, .ref (gb x5_6.toNatClampNeg 61)), (5, .int x5_5), (4, .int x5_4), (3, .ref (gb p0.toNatClampNeg 61)), (0, .ref (a 0)), (1, .int p0), (2, .int p1)]) hx hb dX11_like_93 hl (k := 2) rfl (by rw [ex_16]; rfl) (by decide) rfl (fun ls hl => ?_)
                have hx_16 : x_16.toInt = x5_6.toInt + 1 := by rw [ex_16]; have := b_rg x5_6; exact i_add (a := x5_6.toInt) (b := 1) rfl rfl (by omega) (by omega)
                refine lv_goto (tgt := 32) hx hb dX11_like_96 (by decide) ?_
                exact ih5 x_16 x5_5 x5_4 _ (by first | omega | (simp only [Int.toNat]; omega)) (by first | omega | decide)    (lv_sub hl [0, 3, 4, 5, 6, 7, 8] rfl)
              · have c_15 : r_12.toInt < x5_5.toInt := b_nle c_15
                refine lv_iload hx hb dX11_like_85 (lv_at hl 2 rfl) ?_
                refine lv_istore (lv' := [(4, .int x5_6), (8, .int r_12), (7, .ref (gb x5_6.toNatClampNeg 61)), (6, .int x5_6), (5, .int x5_5), (3, .ref (gb p0.toNatClampNeg 61)), (0, .ref (a 0)), (1, .int p0), (2, .int p1)]) hx hb dX11_like_87 hl (by decide) rfl (fun ls hl => ?_)
                refine lv_iload hx hb dX11_like_89 (lv_at hl 1 rfl) ?_
                refine lv_istore (lv' := [(5, .int r_12), (4, .int x5_6), (8, .int r_12), (7, .ref (gb x5_6.toNatClampNeg 61)), (6, .int x5_6), (3, .ref (gb p0.toNatClampNeg 61)), (0, .ref (a 0)), (1, .int p0), (2, .int p1)]) hx hb dX11_like_91 hl (by decide) rfl (fun ls hl => ?_)
                obtain ⟨x_17, ex_17⟩ : ∃ y : Int32, y = x5_6 + 1 := ⟨_, rfl⟩
                refine lv_iinc (v := x_17) (lv' := [(6, .int x_17), (5, .int r_12), (4, .int x5_6), (8, .int r_12), (7, .ref (gb x5_6.toNatClampNeg 61)), (3, .ref (gb p0.toNatClampNeg 61)), (0, .ref (a 0)), (1, .int p0), (2, .int p1)]) hx hb dX11_like_93 hl (k := 4) rfl (by rw [ex_17]; rfl) (by decide) rfl (fun ls hl => ?_)
                have hx_17 : x_17.toInt = x5_6.toInt + 1 := by rw [ex_17]; have := b_rg x5_6; exact i_add (a := x5_6.toInt) (b := 1) rfl rfl (by omega) (by omega)
                refine lv_goto (tgt := 32) hx hb dX11_like_96 (by decide) ?_
                exact ih5 x_17 r_12 x5_6 _ (by first | omega | (simp only [Int.toNat]; omega)) (by first | omega | decide)    (lv_sub hl [0, 1, 2, 5, 6, 7, 8] rfl)
    exact loop_5 _ 0 (-2) (-2) _ (Nat.lt_succ_self _) (by first | omega | decide)    hl
  · skip
    refine lv_if_ne (tgt := 21) hx hb dX11_like_16 (by decide) (fun c_18 => absurd (by decide) c_18) (fun c_18 => ?_)
    refine lv_iconst (v := (-1)) hx hb dX11_like_19 (by decide) ?_
    subst hQ
    exact W.iret (v := (-1)) hx hb hr (fun t ht hW => ⟨_, rfl, trivial, ht⟩) (fun q hq => absurd hq List.not_mem_nil) dX11_like_20
set_option maxHeartbeats 4000000 in
set_option maxRecDepth 100000 in
theorem c_X11_like.b (l : Launch) (D : va_G) (cy : Nat → ClassId) (a : Nat → Nat) (i : Nat → Int32) (r : Nat → Nat → Int32) (q : Nat → Option Nat) (tl : va_W) (p0 p1 : Int32) (hRi : yRi i) (hRr : yRr r) (hh : ¬ (0 ≤ p0.toInt ∧ p0.toInt < (i 0).toInt)) : Met l yX11_like (Cond.code yX11_like cX11_like 9 (some .int) :: gT) { frames := 3, cells := 0, slots := 0, locals := 67 } (va_Pc [.ref (a 0), .int p0, .int p1] (rP D cy (xW cy a i r q (a 20) (a 12) ++ tl))) (vp_Si (fun z => z = -1)) 0 0 (fun _ => False) := by
  refine Met.ofQ (cc := cX11_like) (maxL := 9) (ret := (some .int)) (by decide) rfl ?_
  intro p e s m args below meth c s₁ B hml hv Q hQ
  obtain ⟨rfl, hP, hK⟩ := hv
  have hx := B.exec
  have hb := B.bytes
  have hr := B.returns
  have hlocks := B.notSynchronized
  have hT : ∀ w ∈ gT, w.before _ s = true := fun w h => atoms_spec (ws := (Cond.code yX11_like cX11_like 9 (some .int) :: gT)) B.pre w (List.mem_cons_of_mem _ h)
  have hown : s.vm.findClass RX11 = some m.cls := findClass_of_methodNamed B.named
  have hl := lv_entry ([.ref (a 0), .int p0, .int p1]) (n := 9) (Nat.le_of_ble_eq_true rfl)
  rw [lg_entry_eq]
  generalize (lg_sl ([.ref (a 0), .int p0, .int p1]) ++ List.replicate (9 - (lg_sl ([.ref (a 0), .int p0, .int p1])).length) Slot.unset).toArray = ls at hl ⊢
  have hl : lv_has ls 9 [(0, .ref (a 0)), (1, .int p0), (2, .int p1)] := hl
  have hEi : mEi [] i i := Ei_rf
  have hEr : mEr [] r r := Er_rf
  refine lv_aload_n hx hb dX11_like_0 rfl (lv_at hl 0 rfl) ?_
  refine lv_iload_n hx hb dX11_like_1 rfl (lv_at hl 1 rfl) ?_
  refine va_csq (W.runV (As := [.int p0]) (rest := []) ⟨hx, hb, hml, hown, hT⟩ (c_X11_homeAt l D cy a i r q tl p0 hRi hRr) (cwV 1 hT (gV t_443 t_444 t_445 t_446 t_2) rfl rfl rfl (by decide +kernel) ⟨Nat.le_of_ble_eq_true rfl, Nat.le_of_ble_eq_true rfl⟩) (rP_v hP hK (va_recv hK hP (ci := 11) (q0 := 0) rfl rfl)) rfl rfl hl.1 rfl (lv_room (Nat.le_of_ble_eq_true rfl)) dX11_like_2 ⟨Nat.le_of_ble_eq_true rfl, Nat.le_of_ble_eq_true rfl⟩) (fun r_1 hr_1 => ?_)
  obtain rfl : r_1 = none := hr_1.2 hh
  refine W.eq (g2 := F0 m 5 ls [.null]) rfl ?_
  refine lv_astore_nN (lv' := [(3, .null), (0, .ref (a 0)), (1, .int p0), (2, .int p1)]) hx hb dX11_like_5 rfl hl (by decide) rfl (fun ls hl => ?_)
  refine lv_aload_nN hx hb dX11_like_6 rfl (lv_at hl 0 rfl) ?_
  refine lv_ifnullN (tgt := 19) hx hb dX11_like_7 (by decide) ?_
  refine lv_iconst (v := (-1)) hx hb dX11_like_19 (by decide) ?_
  subst hQ
  exact W.iret (v := (-1)) hx hb hr (fun t ht hW => ⟨_, rfl, rfl, ht⟩) (fun q hq => absurd hq List.not_mem_nil) dX11_like_20
