set_option maxRecDepth 100000 in
theorem t_884 : Cond.code yX12_readsSum cX12_readsSum 3 (some .boolean) ∈ gT := tm (tb6 (List.mem_of_getElem? (i := 65) (by rfl))) (by decide +kernel)
set_option maxRecDepth 100000 in
theorem t_885 : Cond.methodLink RX12 326 yX12_readsSum ∈ gT := tm (tb6 (List.mem_of_getElem? (i := 62) (by rfl))) (by decide +kernel)
set_option maxRecDepth 100000 in
theorem t_886 : Cond.instanceMethod yX12_readsSum ∈ gT := tm (tb6 (List.mem_of_getElem? (i := 64) (by rfl))) (by decide +kernel)
theorem t_887 : Cond.selects RX12 yX12_readsSum yX12_readsSum ∈ gT := tmp (List.mem_of_getElem? (i := 37) (by decide +kernel)) (by decide +kernel)
set_option maxRecDepth 100000 in
theorem t_888 : Cond.code yX12_endsPiece cX12_endsPiece 1 none ∈ gT := tm (tb6 (List.mem_of_getElem? (i := 116) (by rfl))) (by decide +kernel)
set_option maxRecDepth 100000 in
theorem t_889 : Cond.methodLink RX12 329 yX12_endsPiece ∈ gT := tm (tb6 (List.mem_of_getElem? (i := 113) (by rfl))) (by decide +kernel)
set_option maxRecDepth 100000 in
theorem t_890 : Cond.instanceMethod yX12_endsPiece ∈ gT := tm (tb6 (List.mem_of_getElem? (i := 115) (by rfl))) (by decide +kernel)
theorem t_891 : Cond.selects RX12 yX12_endsPiece yX12_endsPiece ∈ gT := tmp (List.mem_of_getElem? (i := 48) (by decide +kernel)) (by decide +kernel)
set_option maxRecDepth 100000 in
theorem t_892 : Cond.code yX12_readsCompared cX12_readsCompared 2 (some .boolean) ∈ gT := tm (tb6 (List.mem_of_getElem? (i := 112) (by rfl))) (by decide +kernel)
set_option maxRecDepth 100000 in
theorem t_893 : Cond.methodLink RX12 332 yX12_readsCompared ∈ gT := tm (tb6 (List.mem_of_getElem? (i := 109) (by rfl))) (by decide +kernel)
set_option maxRecDepth 100000 in
theorem t_894 : Cond.instanceMethod yX12_readsCompared ∈ gT := tm (tb6 (List.mem_of_getElem? (i := 111) (by rfl))) (by decide +kernel)
theorem t_895 : Cond.selects RX12 yX12_readsCompared yX12_readsCompared ∈ gT := tmp (List.mem_of_getElem? (i := 47) (by decide +kernel)) (by decide +kernel)
set_option maxRecDepth 100000 in
theorem t_896 : Cond.code yX12_lands cX12_lands 3 none ∈ gT := tm (tb6 (List.mem_of_getElem? (i := 120) (by rfl))) (by decide +kernel)
set_option maxRecDepth 100000 in
theorem t_897 : Cond.methodLink RX12 335 yX12_lands ∈ gT := tm (tb6 (List.mem_of_getElem? (i := 117) (by rfl))) (by decide +kernel)
set_option maxRecDepth 100000 in
theorem t_898 : Cond.instanceMethod yX12_lands ∈ gT := tm (tb6 (List.mem_of_getElem? (i := 119) (by rfl))) (by decide +kernel)
theorem t_899 : Cond.selects RX12 yX12_lands yX12_lands ∈ gT := tmp (List.mem_of_getElem? (i := 49) (by decide +kernel)) (by decide +kernel)
set_option maxRecDepth 100000 in
theorem t_900 : Cond.code yX12_jumps cX12_jumps 2 none ∈ gT := tm (tb6 (List.mem_of_getElem? (i := 124) (by rfl))) (by decide +kernel)
set_option maxRecDepth 100000 in
theorem t_901 : Cond.methodLink RX12 338 yX12_jumps ∈ gT := tm (tb6 (List.mem_of_getElem? (i := 121) (by rfl))) (by decide +kernel)
set_option maxRecDepth 100000 in
theorem t_902 : Cond.instanceMethod yX12_jumps ∈ gT := tm (tb6 (List.mem_of_getElem? (i := 123) (by rfl))) (by decide +kernel)
theorem t_903 : Cond.selects RX12 yX12_jumps yX12_jumps ∈ gT := tmp (List.mem_of_getElem? (i := 50) (by decide +kernel)) (by decide +kernel)
def dl_525 : List (Nat × (Instr × Nat)) := [(0, (.aload_n 0, 1)), (1, (.invokevirtual 326, 3)), (4, (.ifCond .ne 5, 3)), (7, (.iconst 0, 1)), (8, (.ireturn, 1)), (9, (.aload_n 0, 1)), (10, (.invokevirtual 268, 3)), (13, (.bipush 60, 2)), (15, (.if_icmp .ne 8, 3)), (18, (.bipush 7, 2)), (20, (.goto 32, 3)), (23, (.aload_n 0, 1)), (24, (.invokevirtual 268, 3)), (27, (.bipush 62, 2)), (29, (.if_icmp .ne 8, 3)), (32, (.bipush 8, 2)), (34, (.goto 18, 3)), (37, (.aload_n 0, 1)), (38, (.invokevirtual 268, 3)), (41, (.bipush 61, 2))]
theorem dh_525 : dchk cX12_readsCompared dl_525 = true := by decide +kernel
theorem dX12_readsCompared_0 : decode cX12_readsCompared 0 = .ok (.aload_n 0, 1) := dget dh_525 (k := 0) rfl
theorem dX12_readsCompared_1 : decode cX12_readsCompared 1 = .ok (.invokevirtual 326, 3) := dget dh_525 (k := 1) rfl
theorem dX12_readsCompared_4 : decode cX12_readsCompared 4 = .ok (.ifCond .ne 5, 3) := dget dh_525 (k := 2) rfl
theorem dX12_readsCompared_7 : decode cX12_readsCompared 7 = .ok (.iconst 0, 1) := dget dh_525 (k := 3) rfl
theorem dX12_readsCompared_8 : decode cX12_readsCompared 8 = .ok (.ireturn, 1) := dget dh_525 (k := 4) rfl
theorem dX12_readsCompared_9 : decode cX12_readsCompared 9 = .ok (.aload_n 0, 1) := dget dh_525 (k := 5) rfl
theorem dX12_readsCompared_10 : decode cX12_readsCompared 10 = .ok (.invokevirtual 268, 3) := dget dh_525 (k := 6) rfl
theorem dX12_readsCompared_13 : decode cX12_readsCompared 13 = .ok (.bipush 60, 2) := dget dh_525 (k := 7) rfl
theorem dX12_readsCompared_15 : decode cX12_readsCompared 15 = .ok (.if_icmp .ne 8, 3) := dget dh_525 (k := 8) rfl
theorem dX12_readsCompared_18 : decode cX12_readsCompared 18 = .ok (.bipush 7, 2) := dget dh_525 (k := 9) rfl
theorem dX12_readsCompared_20 : decode cX12_readsCompared 20 = .ok (.goto 32, 3) := dget dh_525 (k := 10) rfl
theorem dX12_readsCompared_23 : decode cX12_readsCompared 23 = .ok (.aload_n 0, 1) := dget dh_525 (k := 11) rfl
theorem dX12_readsCompared_24 : decode cX12_readsCompared 24 = .ok (.invokevirtual 268, 3) := dget dh_525 (k := 12) rfl
theorem dX12_readsCompared_27 : decode cX12_readsCompared 27 = .ok (.bipush 62, 2) := dget dh_525 (k := 13) rfl
theorem dX12_readsCompared_29 : decode cX12_readsCompared 29 = .ok (.if_icmp .ne 8, 3) := dget dh_525 (k := 14) rfl
theorem dX12_readsCompared_32 : decode cX12_readsCompared 32 = .ok (.bipush 8, 2) := dget dh_525 (k := 15) rfl
theorem dX12_readsCompared_34 : decode cX12_readsCompared 34 = .ok (.goto 18, 3) := dget dh_525 (k := 16) rfl
theorem dX12_readsCompared_37 : decode cX12_readsCompared 37 = .ok (.aload_n 0, 1) := dget dh_525 (k := 17) rfl
theorem dX12_readsCompared_38 : decode cX12_readsCompared 38 = .ok (.invokevirtual 268, 3) := dget dh_525 (k := 18) rfl
theorem dX12_readsCompared_41 : decode cX12_readsCompared 41 = .ok (.bipush 61, 2) := dget dh_525 (k := 19) rfl
def dl_526 : List (Nat × (Instr × Nat)) := [(43, (.if_icmp .ne 8, 3)), (46, (.bipush 9, 2)), (48, (.goto 4, 3)), (51, (.iconst (-1), 1)), (52, (.istore_n 1, 1)), (53, (.iload_n 1, 1)), (54, (.iconst (-1), 1)), (55, (.if_icmp .ne 13, 3)), (58, (.aload_n 0, 1)), (59, (.iconst 1, 1)), (60, (.aload_n 0, 1)), (61, (.getfield 262, 3)), (64, (.invokevirtual 275, 3)), (67, (.ireturn, 1)), (68, (.aload_n 0, 1)), (69, (.aload_n 0, 1)), (70, (.getfield 262, 3)), (73, (.iconst 1, 1)), (74, (.iadd, 1)), (75, (.putfield 262, 3))]
theorem dh_526 : dchk cX12_readsCompared dl_526 = true := by decide +kernel
theorem dX12_readsCompared_43 : decode cX12_readsCompared 43 = .ok (.if_icmp .ne 8, 3) := dget dh_526 (k := 0) rfl
theorem dX12_readsCompared_46 : decode cX12_readsCompared 46 = .ok (.bipush 9, 2) := dget dh_526 (k := 1) rfl
theorem dX12_readsCompared_48 : decode cX12_readsCompared 48 = .ok (.goto 4, 3) := dget dh_526 (k := 2) rfl
theorem dX12_readsCompared_51 : decode cX12_readsCompared 51 = .ok (.iconst (-1), 1) := dget dh_526 (k := 3) rfl
theorem dX12_readsCompared_52 : decode cX12_readsCompared 52 = .ok (.istore_n 1, 1) := dget dh_526 (k := 4) rfl
theorem dX12_readsCompared_53 : decode cX12_readsCompared 53 = .ok (.iload_n 1, 1) := dget dh_526 (k := 5) rfl
theorem dX12_readsCompared_54 : decode cX12_readsCompared 54 = .ok (.iconst (-1), 1) := dget dh_526 (k := 6) rfl
theorem dX12_readsCompared_55 : decode cX12_readsCompared 55 = .ok (.if_icmp .ne 13, 3) := dget dh_526 (k := 7) rfl
theorem dX12_readsCompared_58 : decode cX12_readsCompared 58 = .ok (.aload_n 0, 1) := dget dh_526 (k := 8) rfl
theorem dX12_readsCompared_59 : decode cX12_readsCompared 59 = .ok (.iconst 1, 1) := dget dh_526 (k := 9) rfl
theorem dX12_readsCompared_60 : decode cX12_readsCompared 60 = .ok (.aload_n 0, 1) := dget dh_526 (k := 10) rfl
theorem dX12_readsCompared_61 : decode cX12_readsCompared 61 = .ok (.getfield 262, 3) := dget dh_526 (k := 11) rfl
theorem dX12_readsCompared_64 : decode cX12_readsCompared 64 = .ok (.invokevirtual 275, 3) := dget dh_526 (k := 12) rfl
theorem dX12_readsCompared_67 : decode cX12_readsCompared 67 = .ok (.ireturn, 1) := dget dh_526 (k := 13) rfl
theorem dX12_readsCompared_68 : decode cX12_readsCompared 68 = .ok (.aload_n 0, 1) := dget dh_526 (k := 14) rfl
theorem dX12_readsCompared_69 : decode cX12_readsCompared 69 = .ok (.aload_n 0, 1) := dget dh_526 (k := 15) rfl
theorem dX12_readsCompared_70 : decode cX12_readsCompared 70 = .ok (.getfield 262, 3) := dget dh_526 (k := 16) rfl
theorem dX12_readsCompared_73 : decode cX12_readsCompared 73 = .ok (.iconst 1, 1) := dget dh_526 (k := 17) rfl
theorem dX12_readsCompared_74 : decode cX12_readsCompared 74 = .ok (.iadd, 1) := dget dh_526 (k := 18) rfl
theorem dX12_readsCompared_75 : decode cX12_readsCompared 75 = .ok (.putfield 262, 3) := dget dh_526 (k := 19) rfl
def dl_527 : List (Nat × (Instr × Nat)) := [(78, (.aload_n 0, 1)), (79, (.invokevirtual 326, 3)), (82, (.ifCond .ne 5, 3)), (85, (.iconst 0, 1)), (86, (.ireturn, 1)), (87, (.aload_n 0, 1)), (88, (.iload_n 1, 1)), (89, (.iconst 0, 1)), (90, (.invokevirtual 299, 3)), (93, (.aload_n 0, 1)), (94, (.invokevirtual 329, 3)), (97, (.iconst 1, 1)), (98, (.ireturn, 1))]
theorem dh_527 : dchk cX12_readsCompared dl_527 = true := by decide +kernel
theorem dX12_readsCompared_78 : decode cX12_readsCompared 78 = .ok (.aload_n 0, 1) := dget dh_527 (k := 0) rfl
theorem dX12_readsCompared_79 : decode cX12_readsCompared 79 = .ok (.invokevirtual 326, 3) := dget dh_527 (k := 1) rfl
theorem dX12_readsCompared_82 : decode cX12_readsCompared 82 = .ok (.ifCond .ne 5, 3) := dget dh_527 (k := 2) rfl
theorem dX12_readsCompared_85 : decode cX12_readsCompared 85 = .ok (.iconst 0, 1) := dget dh_527 (k := 3) rfl
theorem dX12_readsCompared_86 : decode cX12_readsCompared 86 = .ok (.ireturn, 1) := dget dh_527 (k := 4) rfl
theorem dX12_readsCompared_87 : decode cX12_readsCompared 87 = .ok (.aload_n 0, 1) := dget dh_527 (k := 5) rfl
theorem dX12_readsCompared_88 : decode cX12_readsCompared 88 = .ok (.iload_n 1, 1) := dget dh_527 (k := 6) rfl
theorem dX12_readsCompared_89 : decode cX12_readsCompared 89 = .ok (.iconst 0, 1) := dget dh_527 (k := 7) rfl
theorem dX12_readsCompared_90 : decode cX12_readsCompared 90 = .ok (.invokevirtual 299, 3) := dget dh_527 (k := 8) rfl
theorem dX12_readsCompared_93 : decode cX12_readsCompared 93 = .ok (.aload_n 0, 1) := dget dh_527 (k := 9) rfl
theorem dX12_readsCompared_94 : decode cX12_readsCompared 94 = .ok (.invokevirtual 329, 3) := dget dh_527 (k := 10) rfl
theorem dX12_readsCompared_97 : decode cX12_readsCompared 97 = .ok (.iconst 1, 1) := dget dh_527 (k := 11) rfl
theorem dX12_readsCompared_98 : decode cX12_readsCompared 98 = .ok (.ireturn, 1) := dget dh_527 (k := 12) rfl
def dl_528 : List (Nat × (Instr × Nat)) := [(0, (.aload_n 0, 1)), (1, (.invokevirtual 268, 3)), (4, (.bipush 40, 2)), (6, (.if_icmp .eq 13, 3)), (9, (.aload_n 0, 1)), (10, (.iconst 1, 1)), (11, (.aload_n 0, 1)), (12, (.getfield 262, 3)), (15, (.invokevirtual 275, 3)), (18, (.ireturn, 1)), (19, (.aload_n 0, 1)), (20, (.iconst 0, 1)), (21, (.putfield 290, 3)), (24, (.aload_n 0, 1)), (25, (.iconst 0, 1)), (26, (.putfield 293, 3)), (29, (.aload_n 0, 1)), (30, (.bipush 13, 2)), (32, (.invokevirtual 303, 3)), (35, (.ifCond .ne 5, 3))]
theorem dh_528 : dchk cX12_readsCondition dl_528 = true := by decide +kernel
theorem dX12_readsCondition_0 : decode cX12_readsCondition 0 = .ok (.aload_n 0, 1) := dget dh_528 (k := 0) rfl
theorem dX12_readsCondition_1 : decode cX12_readsCondition 1 = .ok (.invokevirtual 268, 3) := dget dh_528 (k := 1) rfl
theorem dX12_readsCondition_4 : decode cX12_readsCondition 4 = .ok (.bipush 40, 2) := dget dh_528 (k := 2) rfl
theorem dX12_readsCondition_6 : decode cX12_readsCondition 6 = .ok (.if_icmp .eq 13, 3) := dget dh_528 (k := 3) rfl
theorem dX12_readsCondition_9 : decode cX12_readsCondition 9 = .ok (.aload_n 0, 1) := dget dh_528 (k := 4) rfl
theorem dX12_readsCondition_10 : decode cX12_readsCondition 10 = .ok (.iconst 1, 1) := dget dh_528 (k := 5) rfl
theorem dX12_readsCondition_11 : decode cX12_readsCondition 11 = .ok (.aload_n 0, 1) := dget dh_528 (k := 6) rfl
theorem dX12_readsCondition_12 : decode cX12_readsCondition 12 = .ok (.getfield 262, 3) := dget dh_528 (k := 7) rfl
theorem dX12_readsCondition_15 : decode cX12_readsCondition 15 = .ok (.invokevirtual 275, 3) := dget dh_528 (k := 8) rfl
theorem dX12_readsCondition_18 : decode cX12_readsCondition 18 = .ok (.ireturn, 1) := dget dh_528 (k := 9) rfl
theorem dX12_readsCondition_19 : decode cX12_readsCondition 19 = .ok (.aload_n 0, 1) := dget dh_528 (k := 10) rfl
theorem dX12_readsCondition_20 : decode cX12_readsCondition 20 = .ok (.iconst 0, 1) := dget dh_528 (k := 11) rfl
theorem dX12_readsCondition_21 : decode cX12_readsCondition 21 = .ok (.putfield 290, 3) := dget dh_528 (k := 12) rfl
theorem dX12_readsCondition_24 : decode cX12_readsCondition 24 = .ok (.aload_n 0, 1) := dget dh_528 (k := 13) rfl
theorem dX12_readsCondition_25 : decode cX12_readsCondition 25 = .ok (.iconst 0, 1) := dget dh_528 (k := 14) rfl
theorem dX12_readsCondition_26 : decode cX12_readsCondition 26 = .ok (.putfield 293, 3) := dget dh_528 (k := 15) rfl
theorem dX12_readsCondition_29 : decode cX12_readsCondition 29 = .ok (.aload_n 0, 1) := dget dh_528 (k := 16) rfl
theorem dX12_readsCondition_30 : decode cX12_readsCondition 30 = .ok (.bipush 13, 2) := dget dh_528 (k := 17) rfl
theorem dX12_readsCondition_32 : decode cX12_readsCondition 32 = .ok (.invokevirtual 303, 3) := dget dh_528 (k := 18) rfl
theorem dX12_readsCondition_35 : decode cX12_readsCondition 35 = .ok (.ifCond .ne 5, 3) := dget dh_528 (k := 19) rfl
def dl_529 : List (Nat × (Instr × Nat)) := [(38, (.iconst 0, 1)), (39, (.ireturn, 1)), (40, (.aload_n 0, 1)), (41, (.invokevirtual 268, 3)), (44, (.bipush 33, 2)), (46, (.if_icmp .eq 12, 3)), (49, (.aload_n 0, 1)), (50, (.invokevirtual 268, 3)), (53, (.bipush 40, 2)), (55, (.if_icmp .ne 28, 3)), (58, (.aload_n 0, 1)), (59, (.aload_n 0, 1)), (60, (.invokevirtual 268, 3)), (63, (.bipush 33, 2)), (65, (.if_icmp .ne 8, 3)), (68, (.bipush 10, 2)), (70, (.goto 5, 3)), (73, (.bipush 13, 2)), (75, (.invokevirtual 303, 3)), (78, (.ifCond .ne (-38), 3))]
theorem dh_529 : dchk cX12_readsCondition dl_529 = true := by decide +kernel
theorem dX12_readsCondition_38 : decode cX12_readsCondition 38 = .ok (.iconst 0, 1) := dget dh_529 (k := 0) rfl
theorem dX12_readsCondition_39 : decode cX12_readsCondition 39 = .ok (.ireturn, 1) := dget dh_529 (k := 1) rfl
theorem dX12_readsCondition_40 : decode cX12_readsCondition 40 = .ok (.aload_n 0, 1) := dget dh_529 (k := 2) rfl
theorem dX12_readsCondition_41 : decode cX12_readsCondition 41 = .ok (.invokevirtual 268, 3) := dget dh_529 (k := 3) rfl
theorem dX12_readsCondition_44 : decode cX12_readsCondition 44 = .ok (.bipush 33, 2) := dget dh_529 (k := 4) rfl
theorem dX12_readsCondition_46 : decode cX12_readsCondition 46 = .ok (.if_icmp .eq 12, 3) := dget dh_529 (k := 5) rfl
theorem dX12_readsCondition_49 : decode cX12_readsCondition 49 = .ok (.aload_n 0, 1) := dget dh_529 (k := 6) rfl
theorem dX12_readsCondition_50 : decode cX12_readsCondition 50 = .ok (.invokevirtual 268, 3) := dget dh_529 (k := 7) rfl
theorem dX12_readsCondition_53 : decode cX12_readsCondition 53 = .ok (.bipush 40, 2) := dget dh_529 (k := 8) rfl
theorem dX12_readsCondition_55 : decode cX12_readsCondition 55 = .ok (.if_icmp .ne 28, 3) := dget dh_529 (k := 9) rfl
theorem dX12_readsCondition_58 : decode cX12_readsCondition 58 = .ok (.aload_n 0, 1) := dget dh_529 (k := 10) rfl
theorem dX12_readsCondition_59 : decode cX12_readsCondition 59 = .ok (.aload_n 0, 1) := dget dh_529 (k := 11) rfl
theorem dX12_readsCondition_60 : decode cX12_readsCondition 60 = .ok (.invokevirtual 268, 3) := dget dh_529 (k := 12) rfl
theorem dX12_readsCondition_63 : decode cX12_readsCondition 63 = .ok (.bipush 33, 2) := dget dh_529 (k := 13) rfl
theorem dX12_readsCondition_65 : decode cX12_readsCondition 65 = .ok (.if_icmp .ne 8, 3) := dget dh_529 (k := 14) rfl
theorem dX12_readsCondition_68 : decode cX12_readsCondition 68 = .ok (.bipush 10, 2) := dget dh_529 (k := 15) rfl
theorem dX12_readsCondition_70 : decode cX12_readsCondition 70 = .ok (.goto 5, 3) := dget dh_529 (k := 16) rfl
theorem dX12_readsCondition_73 : decode cX12_readsCondition 73 = .ok (.bipush 13, 2) := dget dh_529 (k := 17) rfl
theorem dX12_readsCondition_75 : decode cX12_readsCondition 75 = .ok (.invokevirtual 303, 3) := dget dh_529 (k := 18) rfl
theorem dX12_readsCondition_78 : decode cX12_readsCondition 78 = .ok (.ifCond .ne (-38), 3) := dget dh_529 (k := 19) rfl
def dl_530 : List (Nat × (Instr × Nat)) := [(81, (.iconst 0, 1)), (82, (.ireturn, 1)), (83, (.aload_n 0, 1)), (84, (.invokevirtual 332, 3)), (87, (.ifCond .ne 5, 3)), (90, (.iconst 0, 1)), (91, (.ireturn, 1)), (92, (.aload_n 0, 1)), (93, (.invokevirtual 268, 3)), (96, (.bipush 41, 2)), (98, (.if_icmp .ne 54, 3)), (101, (.aload_n 0, 1)), (102, (.iconst 1, 1)), (103, (.invokevirtual 335, 3)), (106, (.aload_n 0, 1)), (107, (.aload_n 0, 1)), (108, (.getfield 293, 3)), (111, (.iconst 1, 1)), (112, (.isub, 1)), (113, (.putfield 293, 3))]
theorem dh_530 : dchk cX12_readsCondition dl_530 = true := by decide +kernel
theorem dX12_readsCondition_81 : decode cX12_readsCondition 81 = .ok (.iconst 0, 1) := dget dh_530 (k := 0) rfl
theorem dX12_readsCondition_82 : decode cX12_readsCondition 82 = .ok (.ireturn, 1) := dget dh_530 (k := 1) rfl
theorem dX12_readsCondition_83 : decode cX12_readsCondition 83 = .ok (.aload_n 0, 1) := dget dh_530 (k := 2) rfl
theorem dX12_readsCondition_84 : decode cX12_readsCondition 84 = .ok (.invokevirtual 332, 3) := dget dh_530 (k := 3) rfl
theorem dX12_readsCondition_87 : decode cX12_readsCondition 87 = .ok (.ifCond .ne 5, 3) := dget dh_530 (k := 4) rfl
theorem dX12_readsCondition_90 : decode cX12_readsCondition 90 = .ok (.iconst 0, 1) := dget dh_530 (k := 5) rfl
theorem dX12_readsCondition_91 : decode cX12_readsCondition 91 = .ok (.ireturn, 1) := dget dh_530 (k := 6) rfl
theorem dX12_readsCondition_92 : decode cX12_readsCondition 92 = .ok (.aload_n 0, 1) := dget dh_530 (k := 7) rfl
theorem dX12_readsCondition_93 : decode cX12_readsCondition 93 = .ok (.invokevirtual 268, 3) := dget dh_530 (k := 8) rfl
theorem dX12_readsCondition_96 : decode cX12_readsCondition 96 = .ok (.bipush 41, 2) := dget dh_530 (k := 9) rfl
theorem dX12_readsCondition_98 : decode cX12_readsCondition 98 = .ok (.if_icmp .ne 54, 3) := dget dh_530 (k := 10) rfl
theorem dX12_readsCondition_101 : decode cX12_readsCondition 101 = .ok (.aload_n 0, 1) := dget dh_530 (k := 11) rfl
theorem dX12_readsCondition_102 : decode cX12_readsCondition 102 = .ok (.iconst 1, 1) := dget dh_530 (k := 12) rfl
theorem dX12_readsCondition_103 : decode cX12_readsCondition 103 = .ok (.invokevirtual 335, 3) := dget dh_530 (k := 13) rfl
theorem dX12_readsCondition_106 : decode cX12_readsCondition 106 = .ok (.aload_n 0, 1) := dget dh_530 (k := 14) rfl
theorem dX12_readsCondition_107 : decode cX12_readsCondition 107 = .ok (.aload_n 0, 1) := dget dh_530 (k := 15) rfl
theorem dX12_readsCondition_108 : decode cX12_readsCondition 108 = .ok (.getfield 293, 3) := dget dh_530 (k := 16) rfl
theorem dX12_readsCondition_111 : decode cX12_readsCondition 111 = .ok (.iconst 1, 1) := dget dh_530 (k := 17) rfl
theorem dX12_readsCondition_112 : decode cX12_readsCondition 112 = .ok (.isub, 1) := dget dh_530 (k := 18) rfl
theorem dX12_readsCondition_113 : decode cX12_readsCondition 113 = .ok (.putfield 293, 3) := dget dh_530 (k := 19) rfl
def dl_531 : List (Nat × (Instr × Nat)) := [(116, (.aload_n 0, 1)), (117, (.aload_n 0, 1)), (118, (.getfield 290, 3)), (121, (.iconst 1, 1)), (122, (.isub, 1)), (123, (.putfield 290, 3)), (126, (.aload_n 0, 1)), (127, (.aload_n 0, 1)), (128, (.getfield 262, 3)), (131, (.iconst 1, 1)), (132, (.iadd, 1)), (133, (.putfield 262, 3)), (136, (.aload_n 0, 1)), (137, (.getfield 293, 3)), (140, (.ifCond .ne 5, 3)), (143, (.iconst 1, 1)), (144, (.ireturn, 1)), (145, (.aload_n 0, 1)), (146, (.invokevirtual 329, 3)), (149, (.goto (-57), 3))]
theorem dh_531 : dchk cX12_readsCondition dl_531 = true := by decide +kernel
theorem dX12_readsCondition_116 : decode cX12_readsCondition 116 = .ok (.aload_n 0, 1) := dget dh_531 (k := 0) rfl
theorem dX12_readsCondition_117 : decode cX12_readsCondition 117 = .ok (.aload_n 0, 1) := dget dh_531 (k := 1) rfl
theorem dX12_readsCondition_118 : decode cX12_readsCondition 118 = .ok (.getfield 290, 3) := dget dh_531 (k := 2) rfl
theorem dX12_readsCondition_121 : decode cX12_readsCondition 121 = .ok (.iconst 1, 1) := dget dh_531 (k := 3) rfl
theorem dX12_readsCondition_122 : decode cX12_readsCondition 122 = .ok (.isub, 1) := dget dh_531 (k := 4) rfl
theorem dX12_readsCondition_123 : decode cX12_readsCondition 123 = .ok (.putfield 290, 3) := dget dh_531 (k := 5) rfl
theorem dX12_readsCondition_126 : decode cX12_readsCondition 126 = .ok (.aload_n 0, 1) := dget dh_531 (k := 6) rfl
theorem dX12_readsCondition_127 : decode cX12_readsCondition 127 = .ok (.aload_n 0, 1) := dget dh_531 (k := 7) rfl
theorem dX12_readsCondition_128 : decode cX12_readsCondition 128 = .ok (.getfield 262, 3) := dget dh_531 (k := 8) rfl
theorem dX12_readsCondition_131 : decode cX12_readsCondition 131 = .ok (.iconst 1, 1) := dget dh_531 (k := 9) rfl
theorem dX12_readsCondition_132 : decode cX12_readsCondition 132 = .ok (.iadd, 1) := dget dh_531 (k := 10) rfl
theorem dX12_readsCondition_133 : decode cX12_readsCondition 133 = .ok (.putfield 262, 3) := dget dh_531 (k := 11) rfl
theorem dX12_readsCondition_136 : decode cX12_readsCondition 136 = .ok (.aload_n 0, 1) := dget dh_531 (k := 12) rfl
theorem dX12_readsCondition_137 : decode cX12_readsCondition 137 = .ok (.getfield 293, 3) := dget dh_531 (k := 13) rfl
theorem dX12_readsCondition_140 : decode cX12_readsCondition 140 = .ok (.ifCond .ne 5, 3) := dget dh_531 (k := 14) rfl
theorem dX12_readsCondition_143 : decode cX12_readsCondition 143 = .ok (.iconst 1, 1) := dget dh_531 (k := 15) rfl
theorem dX12_readsCondition_144 : decode cX12_readsCondition 144 = .ok (.ireturn, 1) := dget dh_531 (k := 16) rfl
theorem dX12_readsCondition_145 : decode cX12_readsCondition 145 = .ok (.aload_n 0, 1) := dget dh_531 (k := 17) rfl
theorem dX12_readsCondition_146 : decode cX12_readsCondition 146 = .ok (.invokevirtual 329, 3) := dget dh_531 (k := 18) rfl
theorem dX12_readsCondition_149 : decode cX12_readsCondition 149 = .ok (.goto (-57), 3) := dget dh_531 (k := 19) rfl
def dl_532 : List (Nat × (Instr × Nat)) := [(152, (.aload_n 0, 1)), (153, (.invokevirtual 268, 3)), (156, (.bipush 38, 2)), (158, (.if_icmp .eq 22, 3)), (161, (.aload_n 0, 1)), (162, (.invokevirtual 268, 3)), (165, (.bipush 124, 2)), (167, (.if_icmp .eq 13, 3)), (170, (.aload_n 0, 1)), (171, (.iconst 1, 1)), (172, (.aload_n 0, 1)), (173, (.getfield 262, 3)), (176, (.invokevirtual 275, 3)), (179, (.ireturn, 1)), (180, (.aload_n 0, 1)), (181, (.aload_n 0, 1)), (182, (.invokevirtual 268, 3)), (185, (.bipush 124, 2)), (187, (.if_icmp .ne 7, 3)), (190, (.iconst 1, 1))]
theorem dh_532 : dchk cX12_readsCondition dl_532 = true := by decide +kernel
theorem dX12_readsCondition_152 : decode cX12_readsCondition 152 = .ok (.aload_n 0, 1) := dget dh_532 (k := 0) rfl
theorem dX12_readsCondition_153 : decode cX12_readsCondition 153 = .ok (.invokevirtual 268, 3) := dget dh_532 (k := 1) rfl
theorem dX12_readsCondition_156 : decode cX12_readsCondition 156 = .ok (.bipush 38, 2) := dget dh_532 (k := 2) rfl
theorem dX12_readsCondition_158 : decode cX12_readsCondition 158 = .ok (.if_icmp .eq 22, 3) := dget dh_532 (k := 3) rfl
theorem dX12_readsCondition_161 : decode cX12_readsCondition 161 = .ok (.aload_n 0, 1) := dget dh_532 (k := 4) rfl
theorem dX12_readsCondition_162 : decode cX12_readsCondition 162 = .ok (.invokevirtual 268, 3) := dget dh_532 (k := 5) rfl
theorem dX12_readsCondition_165 : decode cX12_readsCondition 165 = .ok (.bipush 124, 2) := dget dh_532 (k := 6) rfl
theorem dX12_readsCondition_167 : decode cX12_readsCondition 167 = .ok (.if_icmp .eq 13, 3) := dget dh_532 (k := 7) rfl
theorem dX12_readsCondition_170 : decode cX12_readsCondition 170 = .ok (.aload_n 0, 1) := dget dh_532 (k := 8) rfl
theorem dX12_readsCondition_171 : decode cX12_readsCondition 171 = .ok (.iconst 1, 1) := dget dh_532 (k := 9) rfl
theorem dX12_readsCondition_172 : decode cX12_readsCondition 172 = .ok (.aload_n 0, 1) := dget dh_532 (k := 10) rfl
theorem dX12_readsCondition_173 : decode cX12_readsCondition 173 = .ok (.getfield 262, 3) := dget dh_532 (k := 11) rfl
theorem dX12_readsCondition_176 : decode cX12_readsCondition 176 = .ok (.invokevirtual 275, 3) := dget dh_532 (k := 12) rfl
theorem dX12_readsCondition_179 : decode cX12_readsCondition 179 = .ok (.ireturn, 1) := dget dh_532 (k := 13) rfl
theorem dX12_readsCondition_180 : decode cX12_readsCondition 180 = .ok (.aload_n 0, 1) := dget dh_532 (k := 14) rfl
theorem dX12_readsCondition_181 : decode cX12_readsCondition 181 = .ok (.aload_n 0, 1) := dget dh_532 (k := 15) rfl
theorem dX12_readsCondition_182 : decode cX12_readsCondition 182 = .ok (.invokevirtual 268, 3) := dget dh_532 (k := 16) rfl
theorem dX12_readsCondition_185 : decode cX12_readsCondition 185 = .ok (.bipush 124, 2) := dget dh_532 (k := 17) rfl
theorem dX12_readsCondition_187 : decode cX12_readsCondition 187 = .ok (.if_icmp .ne 7, 3) := dget dh_532 (k := 18) rfl
theorem dX12_readsCondition_190 : decode cX12_readsCondition 190 = .ok (.iconst 1, 1) := dget dh_532 (k := 19) rfl
def dl_533 : List (Nat × (Instr × Nat)) := [(191, (.goto 4, 3)), (194, (.iconst 0, 1)), (195, (.invokevirtual 335, 3)), (198, (.aload_n 0, 1)), (199, (.aload_n 0, 1)), (200, (.invokevirtual 268, 3)), (203, (.bipush 38, 2)), (205, (.if_icmp .ne 8, 3)), (208, (.bipush 11, 2)), (210, (.goto 5, 3)), (213, (.bipush 12, 2)), (215, (.invokevirtual 338, 3)), (218, (.goto (-178), 3))]
theorem dh_533 : dchk cX12_readsCondition dl_533 = true := by decide +kernel
theorem dX12_readsCondition_191 : decode cX12_readsCondition 191 = .ok (.goto 4, 3) := dget dh_533 (k := 0) rfl
theorem dX12_readsCondition_194 : decode cX12_readsCondition 194 = .ok (.iconst 0, 1) := dget dh_533 (k := 1) rfl
theorem dX12_readsCondition_195 : decode cX12_readsCondition 195 = .ok (.invokevirtual 335, 3) := dget dh_533 (k := 2) rfl
theorem dX12_readsCondition_198 : decode cX12_readsCondition 198 = .ok (.aload_n 0, 1) := dget dh_533 (k := 3) rfl
theorem dX12_readsCondition_199 : decode cX12_readsCondition 199 = .ok (.aload_n 0, 1) := dget dh_533 (k := 4) rfl
theorem dX12_readsCondition_200 : decode cX12_readsCondition 200 = .ok (.invokevirtual 268, 3) := dget dh_533 (k := 5) rfl
theorem dX12_readsCondition_203 : decode cX12_readsCondition 203 = .ok (.bipush 38, 2) := dget dh_533 (k := 6) rfl
theorem dX12_readsCondition_205 : decode cX12_readsCondition 205 = .ok (.if_icmp .ne 8, 3) := dget dh_533 (k := 7) rfl
theorem dX12_readsCondition_208 : decode cX12_readsCondition 208 = .ok (.bipush 11, 2) := dget dh_533 (k := 8) rfl
theorem dX12_readsCondition_210 : decode cX12_readsCondition 210 = .ok (.goto 5, 3) := dget dh_533 (k := 9) rfl
theorem dX12_readsCondition_213 : decode cX12_readsCondition 213 = .ok (.bipush 12, 2) := dget dh_533 (k := 10) rfl
theorem dX12_readsCondition_215 : decode cX12_readsCondition 215 = .ok (.invokevirtual 338, 3) := dget dh_533 (k := 11) rfl
theorem dX12_readsCondition_218 : decode cX12_readsCondition 218 = .ok (.goto (-178), 3) := dget dh_533 (k := 12) rfl
theorem SS_200 {f h s : Nat} {I : Nat → Int32} {R : Nat → Nat → Int32} (h0 : SS f h s I R) (hR : mRi I) : (0 ≤ (I 27).toInt ∧ (I 27).toInt ≤ 200) ∧ (0 ≤ (I 28).toInt ∧ (I 28).toInt ≤ 200) := by
  have h1 := SS_n h0
  have h2 : 0 ≤ (I 23).toInt ∧ (I 23).toInt ≤ 200 := hR 23
  have h3 : 0 ≤ (I 27).toInt ∧ (I 27).toInt ≤ 220 := hR 27
  have h4 : 0 ≤ (I 28).toInt ∧ (I 28).toInt ≤ 220 := hR 28
  omega
theorem bk_lt {a b : Int} {n : Nat} (h : (200 - a).toNat < n + 1) (h1 : a < b) (h2 : b ≤ 200) : (200 - b).toNat < n := by omega
theorem ch1 {a b : Int} (h : b = a + 1) : a < b := by omega
theorem ch3 {a b c d : Int} (h1 : a < b) (h2 : c = b) (h3 : d = c + 1) : a < d := by omega
theorem ch4 {a c v d : Int} (h2 : c = a) (h3 : v = c + 1) (h4 : d = v) : a < d := by omega
theorem ch5 {o a c v d : Int} (h1 : o < a) (h2 : c = a) (h3 : v = c + 1) (h4 : d = v) : o < d := by omega
def NP (i : Nat → Int32) : Prop := (i 27).toInt.toNat ≤ (i 23).toInt.toNat
def con (w : Nat → Int32) (m : Nat) : Prop := ∀ j, j < m → 10 ≤ cOp (w j) ∧ cOp (w j) ≤ 13
theorem con_out {w R : Nat → Int32} {m m' : Nat} (h : con w m) (he : ∀ j, j < m → R j = w j) (hm : m' = m) : outB R m' := by
  subst hm
  by_cases e : m' = 0
  · exact Or.inl e
  · right; unfold binW; rw [he _ (by omega)]; have := h (m' - 1) (by omega); omega
theorem SS_adv {f h s : Nat} {I J : Nat → Int32} {R S : Nat → Nat → Int32} (h0 : SS f h s I R) (e27 : J 27 = I 27) (e28 : J 28 = I 28) (e23 : (J 23).toInt = (I 23).toInt + 1) (e32 : S 21 = R 21) (e33 : S 22 = R 22) (h23 : 0 ≤ (I 23).toInt) : SS f h (s + 1) J S := by
  unfold SS; rw [e27, e28, e32, e33]; exact ST_adv h0 (by omega) (by omega)
theorem SS_cmp {f s : Nat} {I J : Nat → Int32} {R S : Nat → Nat → Int32} {x : Int32} {o : Int} (h0 : SS f 2 (s + 1) I R) (hx : x.toInt = 1048576 * o + 0) (ho : 7 ≤ o ∧ o ≤ 9) (e27 : (J 27).toInt = (I 27).toInt + 1) (e28 : J 28 = I 28) (e23 : J 23 = I 23) (e33 : S 22 = R 22) (e32 : S 21 = upd (R 21) (I 27).toInt.toNat x) (h27 : 0 ≤ (I 27).toInt) : SS f 1 s J S := by
  have hc := cOp_mk hx ⟨by omega, by omega⟩
  unfold SS; rw [e28, e23, e33, e32, show (J 27).toInt.toNat = (I 27).toInt.toNat + 1 by omega]
  exact ST_cmp h0 (by omega) (by rw [hc.1]; exact ho)
def RCi (f s : Nat) (i : Nat → Int32) (r : Nat → Nat → Int32) (I : Nat → Int32) (R : Nat → Nat → Int32) : Prop := SS f 1 s I R ∧ (i 23).toInt < (I 23).toInt ∧ (I 28).toInt ≤ (i 28).toInt ∧ (∀ j, j < (I 28).toInt.toNat → R 22 j = r 22 j) ∧ (∀ j, (I 28).toInt.toNat ≤ j → j < (i 28).toInt.toNat → cOp (r 22 j) = 10) ∧ low f r R
def RC (f s : Nat) (i : Nat → Int32) (r : Nat → Nat → Int32) (z : Int32) (I : Nat → Int32) (R : Nat → Nat → Int32) : Prop := (z = 1 ∧ RCi f s i r I R) ∨ z = 0
theorem RC_of {f s : Nat} {i I I3 I5 i6 I7 : Nat → Int32} {r R R5 r6 R7 : Nat → Nat → Int32} (a1 : (i 23).toInt < (I 23).toInt) (a2 : (I 28).toInt = (i 28).toInt) (a3 : ∀ j, j < (i 28).toInt.toNat → R 22 j = r 22 j) (a4 : low f r R) (c1 : (I3 23).toInt = (I 23).toInt + 1) (c2 : I3 28 = I 28) (b1 : (I3 23).toInt < (I5 23).toInt) (b2 : (I5 28).toInt = (I3 28).toInt) (b3 : ∀ j, j < (I3 28).toInt.toNat → R5 22 j = R 22 j) (b4 : low f R R5) (n1 : i6 23 = I5 23) (n2 : i6 28 = I5 28) (n3 : r6 22 = R5 22) (n4 : low f R5 r6) (e : EP f s i6 r6 I7 R7) (e23 : I7 23 = i6 23) : RC f s i r 1 I7 R7 := by
  obtain ⟨p1, p2, p3, p4, p5⟩ := e
  have hM : (i6 28).toInt = (i 28).toInt := by rw [n2, b2, c2, a2]
  have hw : ∀ j, j < (i 28).toInt.toNat → r6 22 j = r 22 j := fun j hj => by rw [n3, b3 j (by rw [c2, a2]; exact hj)]; exact a3 j hj
  refine Or.inl ⟨rfl, p1, by rw [e23, n1]; omega, by omega, fun j hj => ?_, fun j h1 h2 => ?_, low_tr a4 (low_tr b4 (low_tr n4 p4))⟩
  · rw [p5]; exact hw j (by omega)
  · rw [← hw j h2]; exact p3 j h1 (by omega)
def CM (f h : Nat) (i : Nat → Int32) (r : Nat → Nat → Int32) (I : Nat → Int32) (R : Nat → Nat → Int32) : Prop := SS f h 0 I R ∧ con (R 22) (I 28).toInt.toNat ∧ 1 ≤ (I 28).toInt ∧ cOp (R 22 0) = 13 ∧ (i 23).toInt < (I 23).toInt ∧ low f r R
theorem SS_begin {f : Nat} {I : Nat → Int32} {R : Nat → Nat → Int32} (h27 : (I 27).toInt.toNat = f) (h28 : (I 28).toInt = 0) (hp : f ≤ (I 23).toInt.toNat) : SS f 0 0 I R := by
  unfold SS; rw [h27, h28]; exact ST_start (by omega)
theorem SS_open {f h s : Nat} {I J : Nat → Int32} {R S : Nat → Nat → Int32} {x : Int32} {o : Int} (h0 : SS f h s I R) (hx : x.toInt = 1048576 * o) (ho : o = 10 ∨ o = 13) (e28 : (J 28).toInt = (I 28).toInt + 1) (e23 : (J 23).toInt = (I 23).toInt + 1) (e27 : J 27 = I 27) (e32 : S 21 = R 21) (e33 : S 22 = upd (R 22) (I 28).toInt.toNat x) (h28 : 0 ≤ (I 28).toInt) (h23 : 0 ≤ (I 23).toInt) : SS f h s J S ∧ cOp x = o := by
  have hc := cOp_mk (x := x) (o := o) (v := 0) (by omega) ⟨by omega, by omega⟩
  refine ⟨?_, hc.1⟩
  unfold SS
  rw [e33, e32, e27, show (J 28).toInt.toNat = (I 28).toInt.toNat + 1 by omega, show (J 23).toInt.toNat = (I 23).toInt.toNat + 1 by omega]
  exact ST_push h0 (by omega) (by unfold jmpW; omega)
theorem CM_start {f : Nat} {i I J : Nat → Int32} {r R S : Nat → Nat → Int32} {x : Int32} (h27 : (I 27).toInt.toNat = f) (h28 : (I 28).toInt = 0) (hp : f ≤ (I 23).toInt.toNat) (hx : x.toInt = 1048576 * 13) (e28 : (J 28).toInt = (I 28).toInt + 1) (e23 : (J 23).toInt = (I 23).toInt + 1) (e27 : J 27 = I 27) (e32 : S 21 = R 21) (e33 : S 22 = upd (R 22) (I 28).toInt.toNat x) (h23 : 0 ≤ (I 23).toInt) (hi : (i 23).toInt = (I 23).toInt) (hlow : R 21 = r 21) : CM f 0 i r J S := by
  obtain ⟨a1, a2⟩ := SS_open (SS_begin (R := R) h27 h28 hp) hx (Or.inr rfl) e28 e23 e27 e32 e33 (by omega) h23
  refine ⟨a1, fun j hj => ?_, by omega, ?_, by omega, low_tr (low_eq hlow) (low_eq e32)⟩
  · rw [e33, show j = (I 28).toInt.toNat by omega, pk_us, a2]; omega
  · rw [e33, show (I 28).toInt.toNat = 0 by omega, pk_us]; exact a2
theorem CM_open {f h : Nat} {i I J : Nat → Int32} {r R S : Nat → Nat → Int32} {x : Int32} {o : Int} (h0 : CM f h i r I R) (hx : x.toInt = 1048576 * o) (ho : o = 10 ∨ o = 13) (e28 : (J 28).toInt = (I 28).toInt + 1) (e23 : (J 23).toInt = (I 23).toInt + 1) (e27 : J 27 = I 27) (e32 : S 21 = R 21) (e33 : S 22 = upd (R 22) (I 28).toInt.toNat x) (h23 : 0 ≤ (I 23).toInt) : CM f h i r J S := by
  obtain ⟨b1, b2, b3, b4, b5, b6⟩ := h0
  obtain ⟨a1, a2⟩ := SS_open b1 hx ho e28 e23 e27 e32 e33 (by omega) h23
  refine ⟨a1, fun j hj => ?_, by omega, ?_, by omega, low_tr b6 (low_eq e32)⟩
  · rw [e33]
    by_cases e : j = (I 28).toInt.toNat
    · rw [e, pk_us, a2]; omega
    · rw [pk_un e]; exact b2 j (by omega)
  · rw [e33, pk_un (by omega)]; exact b4
theorem CM_cmp {f : Nat} {i I I2 : Nat → Int32} {r R R2 : Nat → Nat → Int32} (h0 : CM f 0 i r I R) (hc : RCi f 0 I R I2 R2) (h28 : 0 ≤ (I2 28).toInt) : CM f 1 i r I2 R2 := by
  obtain ⟨b1, b2, b3, b4, b5, b6⟩ := h0
  obtain ⟨a1, a2, a3, a4, a5, a6⟩ := hc
  have hpos : 1 ≤ (I2 28).toInt := by
    by_cases e : (I2 28).toInt = 0
    · have := a5 0 (by omega) (by omega); omega
    · omega
  exact ⟨a1, fun j hj => by rw [a4 j hj]; exact b2 j (by omega), hpos, by rw [a4 0 (by omega)]; exact b4, by omega, low_tr b6 a6⟩
theorem CM_land {f : Nat} {i I I2 : Nat → Int32} {r R R2 : Nat → Nat → Int32} (h0 : CM f 1 i r I R) (hc : LD f 0 I R I2 R2) (e23 : I2 23 = I 23) (h28 : 0 ≤ (I2 28).toInt) : CM f 1 i r I2 R2 := by
  obtain ⟨b1, b2, b3, b4, b5, b6⟩ := h0
  obtain ⟨a1, a2, a3, a4, a5⟩ := hc
  have hpos : 1 ≤ (I2 28).toInt := by
    by_cases e : (I2 28).toInt = 0
    · have := a3 0 (by omega) (by omega); unfold jmpW at this; omega
    · omega
  exact ⟨a1, fun j hj => by rw [a5]; exact b2 j (by omega), hpos, by rw [a5]; exact b4, by rw [e23]; exact b5, low_tr b6 a4⟩
theorem CM_ep {f : Nat} {i I I2 : Nat → Int32} {r R R2 : Nat → Nat → Int32} (h0 : CM f 1 i r I R) (hc : EP f 0 I R I2 R2) (e23 : I2 23 = I 23) (h28 : 0 ≤ (I2 28).toInt) : CM f 1 i r I2 R2 := by
  obtain ⟨b1, b2, b3, b4, b5, b6⟩ := h0
  obtain ⟨a1, a2, a3, a4, a5⟩ := hc
  have hpos : 1 ≤ (I2 28).toInt := by
    by_cases e : (I2 28).toInt = 0
    · have := a3 0 (by omega) (by omega); omega
    · omega
  exact ⟨a1, fun j hj => by rw [a5]; exact b2 j (by omega), hpos, by rw [a5]; exact b4, by rw [e23]; exact b5, low_tr b6 a4⟩
theorem CM_pop {f : Nat} {i I J : Nat → Int32} {r R S : Nat → Nat → Int32} (h0 : CM f 1 i r I R) (ht : topv I R ≠ 11 ∧ topv I R ≠ 12) (e27 : J 27 = I 27) (e28 : (J 28).toInt = (I 28).toInt - 1) (e23 : (J 23).toInt = (I 23).toInt + 1) (e32 : S 21 = R 21) (e33 : S 22 = R 22) (h23 : 0 ≤ (I 23).toInt) : SS f 1 0 J S ∧ (i 23).toInt < (J 23).toInt ∧ low f r S ∧ ((J 28).toInt ≠ 0 → CM f 1 i r J S) := by
  obtain ⟨b1, b2, b3, b4, b5, b6⟩ := h0
  obtain ⟨m, hm⟩ : ∃ m : Nat, (I 28).toInt.toNat = m + 1 := ⟨(I 28).toInt.toNat - 1, by omega⟩
  have htop := topv_at (r := R) hm
  have hs : SS f 1 0 J S := by
    unfold SS at b1 ⊢
    rw [hm] at b1
    rw [e27, e32, e33, show (J 28).toInt.toNat = m by omega]
    exact ST_adv (ST_pop b1 (by unfold jmpW; omega)) (by omega) (by omega)
  have hl : low f r S := low_tr b6 (low_eq e32)
  exact ⟨hs, by omega, hl, fun h => ⟨hs, fun j hj => by rw [e33]; exact b2 j (by omega), by omega, by rw [e33]; exact b4, by omega, hl⟩⟩
theorem CM_jump {f : Nat} {i I I2 : Nat → Int32} {r R R2 : Nat → Nat → Int32} (h0 : CM f 1 i r I R) (hj : JP f 0 I R I2 R2) : CM f 0 i r I2 R2 := by
  obtain ⟨b1, b2, b3, b4, b5, b6⟩ := h0
  obtain ⟨a1, a2, a3, a4, a5, a6⟩ := hj
  refine ⟨a1, fun j hj => ?_, by omega, by rw [a4 0 (by omega)]; exact b4, by omega, low_tr b6 a6⟩
  by_cases e : j = (I 28).toInt.toNat
  · rw [e]; unfold jmpW at a5; omega
  · rw [a4 j (by omega)]; exact b2 j (by omega)
def RD (i : Nat → Int32) (r : Nat → Nat → Int32) (z : Int32) (I : Nat → Int32) (R : Nat → Nat → Int32) : Prop := (z = 1 ∧ segOK (R 21) (i 27).toInt.toNat (I 27).toInt.toNat ∧ (i 23).toInt < (I 23).toInt ∧ (I 27).toInt.toNat ≤ (I 23).toInt.toNat ∧ low (i 27).toInt.toNat r R) ∨ z = 0
theorem RD_of {i J : Nat → Int32} {r S : Nat → Nat → Int32} (hs : SS (i 27).toInt.toNat 1 0 J S) (h0 : (J 28).toInt = 0) (hl : (i 23).toInt < (J 23).toInt) (hlow : low (i 27).toInt.toNat r S) (h200 : (J 23).toInt ≤ 200) : RD i r 1 J S := by
  have hn := SS_n hs
  refine Or.inl ⟨rfl, ?_, hl, by omega, hlow⟩
  unfold SS at hs
  rw [h0] at hs
  have hlt : (i 27).toInt.toNat < (J 27).toInt.toNat := by
    obtain ⟨hfn, g, g0, gn, -⟩ := hs.1
    by_cases e : (i 27).toInt.toNat = (J 27).toInt.toNat
    · rw [← e, g0] at gn; omega
    · omega
  exact PS_end hs.1 hlt (by omega)
set_option maxHeartbeats 4000000 in
set_option maxRecDepth 100000 in
theorem c_X12_readsCompared (l : Launch) (D : va_G) (cy : Nat → ClassId) (a : Nat → Nat) (i : Nat → Int32) (r : Nat → Nat → Int32) (rl : Nat → Int64) (sz : Nat) (hRi : mRi i) (hRr : mRr r) (f9 s9 : Nat) (hZ : SS f9 0 s9 i r) (hC : con (r 22) (i 28).toInt.toNat) : Met l yX12_readsCompared (Cond.code yX12_readsCompared cX12_readsCompared 2 (some .boolean) :: gT) { frames := 6, cells := 0, slots := 0, locals := 128 } (va_Pc [.ref (a 0)] (rQ D cy (mW cy a i r rl) sz)) (va_Qi (fun (z : Int32) (u : (Nat → Int32) × (Nat → Nat → Int32)) => mRi u.1 ∧ mRr u.2 ∧ mEi [23, 25, 26, 27, 28, 30] i u.1 ∧ mEr [21, 22] r u.2 ∧ (RC f9 s9 i r z u.1 u.2)) (fun (u : (Nat → Int32) × (Nat → Nat → Int32)) t => va_P D vwCl (mW cy a u.1 u.2 rl) t.heap ∧ va_K D vwCl (vT cy) t ∧ va_D (va_A (mW cy a i r rl) sz) (mW cy a u.1 u.2 rl)) (va_A (mW cy a i r rl) sz)) 0 0 (va_A (mW cy a i r rl) sz) := by
  refine Met.ofQ (cc := cX12_readsCompared) (maxL := 2) (ret := (some .boolean)) (by decide) rfl ?_
  intro p e s m args below meth c s₁ B hml hv Q hQ
  obtain ⟨rfl, hsz, hP, hK, hD0⟩ := hv
  have hx := B.exec
  have hb := B.bytes
  have hr := B.returns
  have hlocks := B.notSynchronized
  have hT : ∀ w ∈ gT, w.before _ s = true := fun w h => atoms_spec (ws := (Cond.code yX12_readsCompared cX12_readsCompared 2 (some .boolean) :: gT)) B.pre w (List.mem_cons_of_mem _ h)
  have hown : s.vm.findClass RX12 = some m.cls := findClass_of_methodNamed B.named
  subst hsz
  have hD := hD0.self (sz := s.heap.size)
  generalize hAe : va_A (mW cy a i r rl) s.heap.size = A at hD hQ
  have hA : ∀ q : Nat, s.heap.size ≤ q → A q := fun q h => by rw [← hAe]; exact Or.inr h
  have hS : va_S A s.heap s.heap [] := va_S.rf
  have hl := lv_entry ([.ref (a 0)]) (n := 2) (Nat.le_of_ble_eq_true rfl)
  rw [lg_entry_eq]
  generalize (lg_sl ([.ref (a 0)]) ++ List.replicate (2 - (lg_sl ([.ref (a 0)])).length) Slot.unset).toArray = ls at hl ⊢
  have hl : lv_has ls 2 [(0, .ref (a 0))] := hl
  have hEi : mEi [23, 25, 26, 27, 28, 30] i i := Ei_rf
  have hEr : mEr [21, 22] r r := Er_rf
  have hg23_i : 0 ≤ (i 23).toInt ∧ (i 23).toInt ≤ 200 := hRi 23
  have hb_i := SS_200 hZ hRi
  refine lv_aload_n hx hb dX12_readsCompared_0 rfl (lv_at hl 0 rfl) ?_
  have hF_1 := rF hD hS hA
  refine va_calli (va_runV (As := []) (rest := []) ⟨hx, hb, hml, hown, hT⟩ (c_X12_readsSum l D cy a i r rl _ hRi hRr f9 0 s9 hZ (con_out hC (fun _ _ => rfl) rfl)) (cwV 0 hT (gV t_884 t_885 t_886 t_887 t_6) rfl rfl rfl (by decide +kernel) ⟨Nat.le_of_ble_eq_true rfl, Nat.le_of_ble_eq_true rfl⟩) (rQ_v hP hK hD (va_recv hK hP (ci := 12) (q0 := 0) rfl rfl)) rfl rfl hl.1 rfl (lv_room (Nat.le_of_ble_eq_true rfl)) dX12_readsCompared_1 ⟨Nat.le_of_ble_eq_true rfl, Nat.le_of_ble_eq_true rfl⟩) hS (fun q _ h => hF_1 q h) hF_1 (fun r_2 u_3 t H1 locs ht hvm hr_2 hB hz1 hk1 hS => ?_)
  obtain ⟨i3, r3⟩ := u_3
  obtain ⟨hP, hK1, hD1⟩ := hB
  rw [ht] at hP
  have hD := hD1.weaken (fun k q _ h => hF_1 q.1 h)
  have hP : va_P D vwCl (mW cy a i3 r3 rl) H1 := hP
  have hD : va_D A (mW cy a i3 r3 rl) := hD
  obtain ⟨hRi, hRr, hE1, hE2, hr_2⟩ := hr_2
  have hRi : mRi i3 := hRi
  have hRr : mRr r3 := hRr
  have hEi : mEi [23, 25, 26, 27, 28, 30] _ i3 := Ei_tr hEi hE1 (by decide)
  have hEr : mEr [21, 22] _ r3 := Er_tr hEr hE2 (by decide)
  rcases hr_2 with ⟨rfl, hrs2⟩ | rfl
  · have hrs2 : SS f9 (0 + 1) s9 i3 r3 ∧ (i 23).toInt < (i3 23).toInt ∧ (i3 28).toInt = (i 28).toInt ∧ (∀ j, j < (i 28).toInt.toNat → r3 22 j = r 22 j) ∧ low f9 r r3 := hrs2
    refine lv_if_ne (tgt := 9) hx hb dX12_readsCompared_4 (by decide) (fun c_4 => ?_) (fun c_4 => absurd c_4 (by decide))
    refine lv_aload_n hx hb dX12_readsCompared_9 rfl (lv_at hl 0 rfl) ?_
    have hg23_i3 : 0 ≤ (i3 23).toInt ∧ (i3 23).toInt ≤ 200 := hRi 23
    have hb_i3 := SS_200 hrs2.1 hRi
    have hg24 : 0 ≤ (i3 24).toInt ∧ (i3 24).toInt ≤ 200 := hRi 24
    refine vp_callSi (W.runV (As := []) (rest := []) ⟨hx, hb, hml, hown, hT⟩ (c_X12_here l D cy a i3 r3 rl hRi hRr) (cwV 0 hT (gV t_254 t_255 t_256 t_257 t_6) rfl rfl rfl (by decide +kernel) ⟨Nat.le_of_ble_eq_true rfl, Nat.le_of_ble_eq_true rfl⟩) (rP_v hP hK (va_recv hK hP (ci := 12) (q0 := 0) rfl rfl)) rfl rfl hl.1 rfl (lv_room (Nat.le_of_ble_eq_true rfl)) dX12_readsCompared_10 ⟨Nat.le_of_ble_eq_true rfl, Nat.le_of_ble_eq_true rfl⟩) (fun r_5 hr_5 => ?_)
    have hqr_5 : -1 ≤ r_5.toInt ∧ r_5.toInt ≤ 255 := by rw [hr_5]; exact mHere_rg _ _
    have hwr_5 : r_5.toInt = (mHere i3 r3).toInt := congrArg Int32.toInt hr_5
    refine lv_bipush (v := 60) hx hb dX12_readsCompared_13 (by decide) ?_
    refine lv_icmp_ne (tgt := 23) hx hb dX12_readsCompared_15 (by decide) (fun c_6 => ?_) (fun c_6 => ?_)
    · have c_6 : r_5.toInt ≠ 60 := b_ne c_6
      refine lv_aload_n hx hb dX12_readsCompared_23 rfl (lv_at hl 0 rfl) ?_
      refine vp_callSi (W.runV (As := []) (rest := []) ⟨hx, hb, hml, hown, hT⟩ (c_X12_here l D cy a i3 r3 rl hRi hRr) (cwV 0 hT (gV t_254 t_255 t_256 t_257 t_6) rfl rfl rfl (by decide +kernel) ⟨Nat.le_of_ble_eq_true rfl, Nat.le_of_ble_eq_true rfl⟩) (rP_v hP hK (va_recv hK hP (ci := 12) (q0 := 0) rfl rfl)) rfl rfl hl.1 rfl (lv_room (Nat.le_of_ble_eq_true rfl)) dX12_readsCompared_24 ⟨Nat.le_of_ble_eq_true rfl, Nat.le_of_ble_eq_true rfl⟩) (fun r_7 hr_7 => ?_)
      have hqr_7 : -1 ≤ r_7.toInt ∧ r_7.toInt ≤ 255 := by rw [hr_7]; exact mHere_rg _ _
      have hwr_7 : r_7.toInt = (mHere i3 r3).toInt := congrArg Int32.toInt hr_7
      refine lv_bipush (v := 62) hx hb dX12_readsCompared_27 (by decide) ?_
      refine lv_icmp_ne (tgt := 37) hx hb dX12_readsCompared_29 (by decide) (fun c_8 => ?_) (fun c_8 => ?_)
      · have c_8 : r_7.toInt ≠ 62 := b_ne c_8
        refine lv_aload_n hx hb dX12_readsCompared_37 rfl (lv_at hl 0 rfl) ?_
        refine vp_callSi (W.runV (As := []) (rest := []) ⟨hx, hb, hml, hown, hT⟩ (c_X12_here l D cy a i3 r3 rl hRi hRr) (cwV 0 hT (gV t_254 t_255 t_256 t_257 t_6) rfl rfl rfl (by decide +kernel) ⟨Nat.le_of_ble_eq_true rfl, Nat.le_of_ble_eq_true rfl⟩) (rP_v hP hK (va_recv hK hP (ci := 12) (q0 := 0) rfl rfl)) rfl rfl hl.1 rfl (lv_room (Nat.le_of_ble_eq_true rfl)) dX12_readsCompared_38 ⟨Nat.le_of_ble_eq_true rfl, Nat.le_of_ble_eq_true rfl⟩) (fun r_9 hr_9 => ?_)
        have hqr_9 : -1 ≤ r_9.toInt ∧ r_9.toInt ≤ 255 := by rw [hr_9]; exact mHere_rg _ _
        have hwr_9 : r_9.toInt = (mHere i3 r3).toInt := congrArg Int32.toInt hr_9
        refine lv_bipush (v := 61) hx hb dX12_readsCompared_41 (by decide) ?_
        refine lv_icmp_ne (tgt := 51) hx hb dX12_readsCompared_43 (by decide) (fun c_10 => ?_) (fun c_10 => ?_)
        · have c_10 : r_9.toInt ≠ 61 := b_ne c_10
          refine lv_iconst (v := (-1)) hx hb dX12_readsCompared_51 (by decide) ?_
          refine lv_istore_n (lv' := [(1, .int (-1)), (0, .ref (a 0))]) hx hb dX12_readsCompared_52 rfl hl (by decide) rfl (fun ls hl => ?_)
          refine lv_iload_n hx hb dX12_readsCompared_53 rfl (lv_at hl 0 rfl) ?_
          refine lv_iconst (v := (-1)) hx hb dX12_readsCompared_54 (by decide) ?_
          refine lv_icmp_ne (tgt := 68) hx hb dX12_readsCompared_55 (by decide) (fun c_11 => absurd (by decide) c_11) (fun c_11 => ?_)
          refine lv_aload_n hx hb dX12_readsCompared_58 rfl (lv_at hl 1 rfl) ?_
          refine lv_iconst (v := 1) hx hb dX12_readsCompared_59 (by decide) ?_
          refine lv_aload_n hx hb dX12_readsCompared_60 rfl (lv_at hl 1 rfl) ?_
          refine va_get (D := D) (ci := 12) (v := .int (i3 23)) (C := RX12) (T := TX12) (N := 91) hx hb hT iX12 hown hK hP 0 rfl rfl 23 (by decide) (hT _ t_252) (fun _ h9 => h9) rfl dX12_readsCompared_61 ?_
          have hg_12 : 0 ≤ (i3 23).toInt ∧ (i3 23).toInt ≤ 200 := hRi 23
          have hF_13 := rF hD hS hA
          refine va_calli (va_runV (As := [.int 1, .int (i3 23)]) (rest := []) ⟨hx, hb, hml, hown, hT⟩ (c_X12_wrongAt l D cy a i3 r3 rl 1 (i3 23) _ hRi hRr) (cwV 2 hT (gV t_259 t_260 t_261 t_262 t_6) rfl rfl rfl (by decide +kernel) ⟨Nat.le_of_ble_eq_true rfl, Nat.le_of_ble_eq_true rfl⟩) (rQ_v hP hK hD (va_recv hK hP (ci := 12) (q0 := 0) rfl rfl)) rfl rfl hl.1 rfl (lv_room (Nat.le_of_ble_eq_true rfl)) dX12_readsCompared_64 ⟨Nat.le_of_ble_eq_true rfl, Nat.le_of_ble_eq_true rfl⟩) hS (fun q _ h => hF_13 q h) hF_13 (fun r_14 u_15 t H1 locs ht hvm hr_14 hB hz1 hk1 hS => ?_)
          obtain ⟨i15, r15⟩ := u_15
          obtain ⟨hP, hK1, hD1⟩ := hB
          rw [ht] at hP
          have hD := hD1.weaken (fun k q _ h => hF_13 q.1 h)
          have hP : va_P D vwCl (mW cy a i15 r15 rl) H1 := hP
          have hD : va_D A (mW cy a i15 r15 rl) := hD
          obtain ⟨hRi, hRr, hE1, hE2, hr_14⟩ := hr_14
          have hRi : mRi i15 := hRi
          have hRr : mRr r15 := hRr
          have hEi : mEi [23, 25, 26, 27, 28, 30] _ i15 := Ei_tr hEi hE1 (by decide)
          have hEr : mEr [21, 22] _ r15 := Er_tr hEr hE2 (by decide)
          subst hr_14
          subst hQ
          exact W.zret hx hb hr rfl (fun t ht hW => ⟨⟨_, (i15, r15), rfl, ⟨hRi, hRr, hEi, hEr, (Or.inr rfl)⟩, by rw [ht]; exact hP, va_K.moved hW.alike hK, hD⟩, hS.F ht⟩) hS.2.2 dX12_readsCompared_67
        · have c_10 : r_9.toInt = 61 := b_nne c_10
          refine lv_bipush (v := 9) hx hb dX12_readsCompared_46 (by decide) ?_
          refine lv_goto (tgt := 52) hx hb dX12_readsCompared_48 (by decide) ?_
          refine lv_istore_n (lv' := [(1, .int 9), (0, .ref (a 0))]) hx hb dX12_readsCompared_52 rfl hl (by decide) rfl (fun ls hl => ?_)
          refine lv_iload_n hx hb dX12_readsCompared_53 rfl (lv_at hl 0 rfl) ?_
          refine lv_iconst (v := (-1)) hx hb dX12_readsCompared_54 (by decide) ?_
          refine lv_icmp_ne (tgt := 68) hx hb dX12_readsCompared_55 (by decide) (fun c_16 => ?_) (fun c_16 => absurd c_16 (by decide))
          refine lv_aload_n hx hb dX12_readsCompared_68 rfl (lv_at hl 1 rfl) ?_
          have hlt9 := mHere_lt (i := i3) (r := r3) (by omega)
          refine lv_aload_n hx hb dX12_readsCompared_69 rfl (lv_at hl 1 rfl) ?_
          refine va_get (D := D) (ci := 12) (v := .int (i3 23)) (C := RX12) (T := TX12) (N := 91) hx hb hT iX12 hown hK hP 0 rfl rfl 23 (by decide) (hT _ t_252) (fun _ h9 => h9) rfl dX12_readsCompared_70 ?_
          have hg_17 : 0 ≤ (i3 23).toInt ∧ (i3 23).toInt ≤ 200 := hRi 23
          refine lv_iconst (v := 1) hx hb dX12_readsCompared_73 (by decide) ?_
          refine lv_iadd hx hb dX12_readsCompared_74 ?_
          refine lv_topi (fun v_18 ev_18 => ?_)
          have hv_18 : v_18.toInt = (i3 23).toInt + 1 := by rw [ev_18]; have := b_rg (i3 23); exact i_add (a := (i3 23).toInt) (b := 1) rfl rfl (by omega) (by omega)
          refine va_put (D := D) (ci := 12) (v := .int v_18) (ty := .int) (C := RX12) (T := TX12) (N := 91) hx hb hT iX12 tyX12 tyX12_ok nmX12 hown hK hP hD hS 0 rfl rfl 23 (by decide) (hT _ t_252) (fun _ h9 => h9) rfl (by decide +kernel) rfl rfl (Nat.le_of_ble_eq_true rfl) dX12_readsCompared_75 (fun H locs hP hD hS => ?_)
          rw [mP23] at hP hD
          have hRi := Ri_upd hRi 23 v_18 ⟨by show (0 : Int) ≤ v_18.toInt; omega, by show v_18.toInt ≤ (200 : Int); omega⟩
          have hEi := Ei_upd hEi 23 v_18 (by decide)
          refine lv_aload_n hx hb dX12_readsCompared_78 rfl (lv_at hl 1 rfl) ?_
          have hZ2 : SS f9 1 (s9 + 1) (upd i3 23 v_18) r3 := SS_adv hrs2.1 rfl rfl (by show v_18.toInt = _; omega) rfl rfl (by omega)
          have hO2 : outB (r3 22) ((upd i3 23 v_18) 28).toInt.toNat := con_out hC hrs2.2.2.2.1 (by show (i3 28).toInt.toNat = _; rw [hrs2.2.2.1])
          have hF_19 := rF hD hS hA
          refine va_calli (va_runV (As := []) (rest := []) ⟨hx, hb, hml, hown, hT⟩ (c_X12_readsSum l D cy a (upd i3 23 v_18) r3 rl _ hRi hRr f9 1 (s9 + 1) hZ2 hO2) (cwV 0 hT (gV t_884 t_885 t_886 t_887 t_6) rfl rfl rfl (by decide +kernel) ⟨Nat.le_of_ble_eq_true rfl, Nat.le_of_ble_eq_true rfl⟩) (rQ_v hP hK hD (va_recv hK hP (ci := 12) (q0 := 0) rfl rfl)) rfl rfl hl.1 rfl (lv_room (Nat.le_of_ble_eq_true rfl)) dX12_readsCompared_79 ⟨Nat.le_of_ble_eq_true rfl, Nat.le_of_ble_eq_true rfl⟩) hS (fun q _ h => hF_19 q h) hF_19 (fun r_20 u_21 t H1 locs ht hvm hr_20 hB hz1 hk1 hS => ?_)
          obtain ⟨i21, r21⟩ := u_21
          obtain ⟨hP, hK1, hD1⟩ := hB
          rw [ht] at hP
          have hD := hD1.weaken (fun k q _ h => hF_19 q.1 h)
          have hP : va_P D vwCl (mW cy a i21 r21 rl) H1 := hP
          have hD : va_D A (mW cy a i21 r21 rl) := hD
          obtain ⟨hRi, hRr, hE1, hE2, hr_20⟩ := hr_20
          have hRi : mRi i21 := hRi
          have hRr : mRr r21 := hRr
          have hEi : mEi [23, 25, 26, 27, 28, 30] _ i21 := Ei_tr hEi hE1 (by decide)
          have hEr : mEr [21, 22] _ r21 := Er_tr hEr hE2 (by decide)
          rcases hr_20 with ⟨rfl, hrs20⟩ | rfl
          · have hrs20 : SS f9 (1 + 1) (s9 + 1) i21 r21 ∧ ((upd i3 23 v_18) 23).toInt < (i21 23).toInt ∧ (i21 28).toInt = ((upd i3 23 v_18) 28).toInt ∧ (∀ j, j < ((upd i3 23 v_18) 28).toInt.toNat → r21 22 j = r3 22 j) ∧ low f9 r3 r21 := hrs20
            refine lv_if_ne (tgt := 87) hx hb dX12_readsCompared_82 (by decide) (fun c_22 => ?_) (fun c_22 => absurd c_22 (by decide))
            refine lv_aload_n hx hb dX12_readsCompared_87 rfl (lv_at hl 1 rfl) ?_
            have hg23_i21 : 0 ≤ (i21 23).toInt ∧ (i21 23).toInt ≤ 200 := hRi 23
            have hb_i21 := SS_200 hrs20.1 hRi
            refine lv_iload_n hx hb dX12_readsCompared_88 rfl (lv_at hl 0 rfl) ?_
            refine lv_iconst (v := 0) hx hb dX12_readsCompared_89 (by decide) ?_
            have hF_23 := rF hD hS hA
            refine va_callv (va_runV (As := [.int 9, .int 0]) (rest := []) ⟨hx, hb, hml, hown, hT⟩ (c_X12_notes l D cy a i21 r21 rl 9 0 _ hRi hRr (by first | omega | decide) (by first | omega | decide) (by show (i21 27).toInt < 220; omega)) (cwV 2 hT (gV t_854 t_855 t_856 t_857 t_6) rfl rfl rfl (by decide +kernel) ⟨Nat.le_of_ble_eq_true rfl, Nat.le_of_ble_eq_true rfl⟩) (rQ_v hP hK hD (va_recv hK hP (ci := 12) (q0 := 0) rfl rfl)) rfl rfl hl.1 rfl (lv_room (Nat.le_of_ble_eq_true rfl)) dX12_readsCompared_90 ⟨Nat.le_of_ble_eq_true rfl, Nat.le_of_ble_eq_true rfl⟩) hS (fun q _ h => hF_23 q h) hF_23 (fun u_25 t H1 locs ht hvm hr_24 hB hz1 hk1 hS => ?_)
            obtain ⟨i25, r25⟩ := u_25
            obtain ⟨hP, hK1, hD1⟩ := hB
            rw [ht] at hP
            have hD := hD1.weaken (fun k q _ h => hF_23 q.1 h)
            have hP : va_P D vwCl (mW cy a i25 r25 rl) H1 := hP
            have hD : va_D A (mW cy a i25 r25 rl) := hD
            obtain ⟨hRi, hRr, hE1, hE2, hr_24⟩ := hr_24
            have hRi : mRi i25 := hRi
            have hRr : mRr r25 := hRr
            have hEi : mEi [23, 25, 26, 27, 28, 30] _ i25 := Ei_tr hEi hE1 (by decide)
            have hEr : mEr [21, 22] _ r25 := Er_tr hEr hE2 (by decide)
            obtain ⟨hn24, x24, hx24, hr24⟩ := hr_24
            have hn24 : (i25 27).toInt = (i21 27).toInt + 1 := hn24
            have hr24 : r25 21 = upd (r21 21) (i21 27).toInt.toNat x24 := hr24
            have e23_24 : i25 23 = i21 23 := hE1 23 (by decide)
            have e28_24 : i25 28 = i21 28 := hE1 28 (by decide)
            have e33_24 : r25 22 = r21 22 := hE2 22 (by decide)
            have hx24 : x24.toInt = 1048576 * 9 + 0 := hx24
            refine lv_aload_n hx hb dX12_readsCompared_93 rfl (lv_at hl 1 rfl) ?_
            have hZ3 : SS f9 1 s9 i25 r25 := SS_cmp hrs20.1 hx24 (by omega) hn24 e28_24 e23_24 e33_24 hr24 (by omega)
            have hF_26 := rF hD hS hA
            refine va_callv (va_runV (As := []) (rest := []) ⟨hx, hb, hml, hown, hT⟩ (c_X12_endsPiece l D cy a i25 r25 rl _ hRi hRr f9 s9 hZ3) (cwV 0 hT (gV t_888 t_889 t_890 t_891 t_6) rfl rfl rfl (by decide +kernel) ⟨Nat.le_of_ble_eq_true rfl, Nat.le_of_ble_eq_true rfl⟩) (rQ_v hP hK hD (va_recv hK hP (ci := 12) (q0 := 0) rfl rfl)) rfl rfl hl.1 rfl (lv_room (Nat.le_of_ble_eq_true rfl)) dX12_readsCompared_94 ⟨Nat.le_of_ble_eq_true rfl, Nat.le_of_ble_eq_true rfl⟩) hS (fun q _ h => hF_26 q h) hF_26 (fun u_28 t H1 locs ht hvm hr_27 hB hz1 hk1 hS => ?_)
            obtain ⟨i28, r28⟩ := u_28
            obtain ⟨hP, hK1, hD1⟩ := hB
            rw [ht] at hP
            have hD := hD1.weaken (fun k q _ h => hF_26 q.1 h)
            have hP : va_P D vwCl (mW cy a i28 r28 rl) H1 := hP
            have hD : va_D A (mW cy a i28 r28 rl) := hD
            obtain ⟨hRi, hRr, hE1, hE2, hr_27⟩ := hr_27
            have hRi : mRi i28 := hRi
            have hRr : mRr r28 := hRr
            have hEi : mEi [23, 25, 26, 27, 28, 30] _ i28 := Ei_tr hEi hE1 (by decide)
            have hEr : mEr [21, 22] _ r28 := Er_tr hEr hE2 (by decide)
            have hr_27 : EP f9 s9 i25 r25 i28 r28 := hr_27
            refine lv_iconst (v := 1) hx hb dX12_readsCompared_97 (by decide) ?_
            subst hQ
            have e23z : i28 23 = i25 23 := hE1 23 (by decide)
            have hj : RC f9 s9 i r 1 i28 r28 := RC_of (I3 := upd i3 23 v_18) hrs2.2.1 hrs2.2.2.1 hrs2.2.2.2.1 hrs2.2.2.2.2 (by show v_18.toInt = _; omega) rfl hrs20.2.1 hrs20.2.2.1 hrs20.2.2.2.1 hrs20.2.2.2.2 e23_24 e28_24 e33_24 (low_upd hr24 (SS_n hrs20.1).1) hr_27 e23z
            exact W.zret hx hb hr rfl (fun t ht hW => ⟨⟨_, (i28, r28), rfl, ⟨hRi, hRr, hEi, hEr, hj⟩, by rw [ht]; exact hP, va_K.moved hW.alike hK, hD⟩, hS.F ht⟩) hS.2.2 dX12_readsCompared_98
          · skip
            refine lv_if_ne (tgt := 87) hx hb dX12_readsCompared_82 (by decide) (fun c_29 => absurd (by decide) c_29) (fun c_29 => ?_)
            refine lv_iconst (v := 0) hx hb dX12_readsCompared_85 (by decide) ?_
            subst hQ
            exact W.zret hx hb hr rfl (fun t ht hW => ⟨⟨_, (i21, r21), rfl, ⟨hRi, hRr, hEi, hEr, (Or.inr rfl)⟩, by rw [ht]; exact hP, va_K.moved hW.alike hK, hD⟩, hS.F ht⟩) hS.2.2 dX12_readsCompared_86
      · have c_8 : r_7.toInt = 62 := b_nne c_8
        refine lv_bipush (v := 8) hx hb dX12_readsCompared_32 (by decide) ?_
        refine lv_goto (tgt := 52) hx hb dX12_readsCompared_34 (by decide) ?_
        refine lv_istore_n (lv' := [(1, .int 8), (0, .ref (a 0))]) hx hb dX12_readsCompared_52 rfl hl (by decide) rfl (fun ls hl => ?_)
        refine lv_iload_n hx hb dX12_readsCompared_53 rfl (lv_at hl 0 rfl) ?_
        refine lv_iconst (v := (-1)) hx hb dX12_readsCompared_54 (by decide) ?_
        refine lv_icmp_ne (tgt := 68) hx hb dX12_readsCompared_55 (by decide) (fun c_30 => ?_) (fun c_30 => absurd c_30 (by decide))
        refine lv_aload_n hx hb dX12_readsCompared_68 rfl (lv_at hl 1 rfl) ?_
        have hlt9 := mHere_lt (i := i3) (r := r3) (by omega)
        refine lv_aload_n hx hb dX12_readsCompared_69 rfl (lv_at hl 1 rfl) ?_
        refine va_get (D := D) (ci := 12) (v := .int (i3 23)) (C := RX12) (T := TX12) (N := 91) hx hb hT iX12 hown hK hP 0 rfl rfl 23 (by decide) (hT _ t_252) (fun _ h9 => h9) rfl dX12_readsCompared_70 ?_
        have hg_31 : 0 ≤ (i3 23).toInt ∧ (i3 23).toInt ≤ 200 := hRi 23
        refine lv_iconst (v := 1) hx hb dX12_readsCompared_73 (by decide) ?_
        refine lv_iadd hx hb dX12_readsCompared_74 ?_
        refine lv_topi (fun v_32 ev_32 => ?_)
        have hv_32 : v_32.toInt = (i3 23).toInt + 1 := by rw [ev_32]; have := b_rg (i3 23); exact i_add (a := (i3 23).toInt) (b := 1) rfl rfl (by omega) (by omega)
        refine va_put (D := D) (ci := 12) (v := .int v_32) (ty := .int) (C := RX12) (T := TX12) (N := 91) hx hb hT iX12 tyX12 tyX12_ok nmX12 hown hK hP hD hS 0 rfl rfl 23 (by decide) (hT _ t_252) (fun _ h9 => h9) rfl (by decide +kernel) rfl rfl (Nat.le_of_ble_eq_true rfl) dX12_readsCompared_75 (fun H locs hP hD hS => ?_)
        rw [mP23] at hP hD
        have hRi := Ri_upd hRi 23 v_32 ⟨by show (0 : Int) ≤ v_32.toInt; omega, by show v_32.toInt ≤ (200 : Int); omega⟩
        have hEi := Ei_upd hEi 23 v_32 (by decide)
        refine lv_aload_n hx hb dX12_readsCompared_78 rfl (lv_at hl 1 rfl) ?_
        have hZ2 : SS f9 1 (s9 + 1) (upd i3 23 v_32) r3 := SS_adv hrs2.1 rfl rfl (by show v_32.toInt = _; omega) rfl rfl (by omega)
        have hO2 : outB (r3 22) ((upd i3 23 v_32) 28).toInt.toNat := con_out hC hrs2.2.2.2.1 (by show (i3 28).toInt.toNat = _; rw [hrs2.2.2.1])
        have hF_33 := rF hD hS hA
        refine va_calli (va_runV (As := []) (rest := []) ⟨hx, hb, hml, hown, hT⟩ (c_X12_readsSum l D cy a (upd i3 23 v_32) r3 rl _ hRi hRr f9 1 (s9 + 1) hZ2 hO2) (cwV 0 hT (gV t_884 t_885 t_886 t_887 t_6) rfl rfl rfl (by decide +kernel) ⟨Nat.le_of_ble_eq_true rfl, Nat.le_of_ble_eq_true rfl⟩) (rQ_v hP hK hD (va_recv hK hP (ci := 12) (q0 := 0) rfl rfl)) rfl rfl hl.1 rfl (lv_room (Nat.le_of_ble_eq_true rfl)) dX12_readsCompared_79 ⟨Nat.le_of_ble_eq_true rfl, Nat.le_of_ble_eq_true rfl⟩) hS (fun q _ h => hF_33 q h) hF_33 (fun r_34 u_35 t H1 locs ht hvm hr_34 hB hz1 hk1 hS => ?_)
        obtain ⟨i35, r35⟩ := u_35
        obtain ⟨hP, hK1, hD1⟩ := hB
        rw [ht] at hP
        have hD := hD1.weaken (fun k q _ h => hF_33 q.1 h)
        have hP : va_P D vwCl (mW cy a i35 r35 rl) H1 := hP
        have hD : va_D A (mW cy a i35 r35 rl) := hD
        obtain ⟨hRi, hRr, hE1, hE2, hr_34⟩ := hr_34
        have hRi : mRi i35 := hRi
        have hRr : mRr r35 := hRr
        have hEi : mEi [23, 25, 26, 27, 28, 30] _ i35 := Ei_tr hEi hE1 (by decide)
        have hEr : mEr [21, 22] _ r35 := Er_tr hEr hE2 (by decide)
        rcases hr_34 with ⟨rfl, hrs34⟩ | rfl
        · have hrs34 : SS f9 (1 + 1) (s9 + 1) i35 r35 ∧ ((upd i3 23 v_32) 23).toInt < (i35 23).toInt ∧ (i35 28).toInt = ((upd i3 23 v_32) 28).toInt ∧ (∀ j, j < ((upd i3 23 v_32) 28).toInt.toNat → r35 22 j = r3 22 j) ∧ low f9 r3 r35 := hrs34
          refine lv_if_ne (tgt := 87) hx hb dX12_readsCompared_82 (by decide) (fun c_36 => ?_) (fun c_36 => absurd c_36 (by decide))
          refine lv_aload_n hx hb dX12_readsCompared_87 rfl (lv_at hl 1 rfl) ?_
          have hg23_i35 : 0 ≤ (i35 23).toInt ∧ (i35 23).toInt ≤ 200 := hRi 23
          have hb_i35 := SS_200 hrs34.1 hRi
          refine lv_iload_n hx hb dX12_readsCompared_88 rfl (lv_at hl 0 rfl) ?_
          refine lv_iconst (v := 0) hx hb dX12_readsCompared_89 (by decide) ?_
          have hF_37 := rF hD hS hA
          refine va_callv (va_runV (As := [.int 8, .int 0]) (rest := []) ⟨hx, hb, hml, hown, hT⟩ (c_X12_notes l D cy a i35 r35 rl 8 0 _ hRi hRr (by first | omega | decide) (by first | omega | decide) (by show (i35 27).toInt < 220; omega)) (cwV 2 hT (gV t_854 t_855 t_856 t_857 t_6) rfl rfl rfl (by decide +kernel) ⟨Nat.le_of_ble_eq_true rfl, Nat.le_of_ble_eq_true rfl⟩) (rQ_v hP hK hD (va_recv hK hP (ci := 12) (q0 := 0) rfl rfl)) rfl rfl hl.1 rfl (lv_room (Nat.le_of_ble_eq_true rfl)) dX12_readsCompared_90 ⟨Nat.le_of_ble_eq_true rfl, Nat.le_of_ble_eq_true rfl⟩) hS (fun q _ h => hF_37 q h) hF_37 (fun u_39 t H1 locs ht hvm hr_38 hB hz1 hk1 hS => ?_)
          obtain ⟨i39, r39⟩ := u_39
          obtain ⟨hP, hK1, hD1⟩ := hB
          rw [ht] at hP
          have hD := hD1.weaken (fun k q _ h => hF_37 q.1 h)
          have hP : va_P D vwCl (mW cy a i39 r39 rl) H1 := hP
          have hD : va_D A (mW cy a i39 r39 rl) := hD
          obtain ⟨hRi, hRr, hE1, hE2, hr_38⟩ := hr_38
          have hRi : mRi i39 := hRi
          have hRr : mRr r39 := hRr
          have hEi : mEi [23, 25, 26, 27, 28, 30] _ i39 := Ei_tr hEi hE1 (by decide)
          have hEr : mEr [21, 22] _ r39 := Er_tr hEr hE2 (by decide)
          obtain ⟨hn38, x38, hx38, hr38⟩ := hr_38
          have hn38 : (i39 27).toInt = (i35 27).toInt + 1 := hn38
          have hr38 : r39 21 = upd (r35 21) (i35 27).toInt.toNat x38 := hr38
          have e23_38 : i39 23 = i35 23 := hE1 23 (by decide)
          have e28_38 : i39 28 = i35 28 := hE1 28 (by decide)
          have e33_38 : r39 22 = r35 22 := hE2 22 (by decide)
          have hx38 : x38.toInt = 1048576 * 8 + 0 := hx38
          refine lv_aload_n hx hb dX12_readsCompared_93 rfl (lv_at hl 1 rfl) ?_
          have hZ3 : SS f9 1 s9 i39 r39 := SS_cmp hrs34.1 hx38 (by omega) hn38 e28_38 e23_38 e33_38 hr38 (by omega)
          have hF_40 := rF hD hS hA
          refine va_callv (va_runV (As := []) (rest := []) ⟨hx, hb, hml, hown, hT⟩ (c_X12_endsPiece l D cy a i39 r39 rl _ hRi hRr f9 s9 hZ3) (cwV 0 hT (gV t_888 t_889 t_890 t_891 t_6) rfl rfl rfl (by decide +kernel) ⟨Nat.le_of_ble_eq_true rfl, Nat.le_of_ble_eq_true rfl⟩) (rQ_v hP hK hD (va_recv hK hP (ci := 12) (q0 := 0) rfl rfl)) rfl rfl hl.1 rfl (lv_room (Nat.le_of_ble_eq_true rfl)) dX12_readsCompared_94 ⟨Nat.le_of_ble_eq_true rfl, Nat.le_of_ble_eq_true rfl⟩) hS (fun q _ h => hF_40 q h) hF_40 (fun u_42 t H1 locs ht hvm hr_41 hB hz1 hk1 hS => ?_)
          obtain ⟨i42, r42⟩ := u_42
          obtain ⟨hP, hK1, hD1⟩ := hB
          rw [ht] at hP
          have hD := hD1.weaken (fun k q _ h => hF_40 q.1 h)
          have hP : va_P D vwCl (mW cy a i42 r42 rl) H1 := hP
          have hD : va_D A (mW cy a i42 r42 rl) := hD
          obtain ⟨hRi, hRr, hE1, hE2, hr_41⟩ := hr_41
          have hRi : mRi i42 := hRi
          have hRr : mRr r42 := hRr
          have hEi : mEi [23, 25, 26, 27, 28, 30] _ i42 := Ei_tr hEi hE1 (by decide)
          have hEr : mEr [21, 22] _ r42 := Er_tr hEr hE2 (by decide)
          have hr_41 : EP f9 s9 i39 r39 i42 r42 := hr_41
          refine lv_iconst (v := 1) hx hb dX12_readsCompared_97 (by decide) ?_
          subst hQ
          have e23z : i42 23 = i39 23 := hE1 23 (by decide)
          have hj : RC f9 s9 i r 1 i42 r42 := RC_of (I3 := upd i3 23 v_32) hrs2.2.1 hrs2.2.2.1 hrs2.2.2.2.1 hrs2.2.2.2.2 (by show v_32.toInt = _; omega) rfl hrs34.2.1 hrs34.2.2.1 hrs34.2.2.2.1 hrs34.2.2.2.2 e23_38 e28_38 e33_38 (low_upd hr38 (SS_n hrs34.1).1) hr_41 e23z
          exact W.zret hx hb hr rfl (fun t ht hW => ⟨⟨_, (i42, r42), rfl, ⟨hRi, hRr, hEi, hEr, hj⟩, by rw [ht]; exact hP, va_K.moved hW.alike hK, hD⟩, hS.F ht⟩) hS.2.2 dX12_readsCompared_98
        · skip
          refine lv_if_ne (tgt := 87) hx hb dX12_readsCompared_82 (by decide) (fun c_43 => absurd (by decide) c_43) (fun c_43 => ?_)
          refine lv_iconst (v := 0) hx hb dX12_readsCompared_85 (by decide) ?_
          subst hQ
          exact W.zret hx hb hr rfl (fun t ht hW => ⟨⟨_, (i35, r35), rfl, ⟨hRi, hRr, hEi, hEr, (Or.inr rfl)⟩, by rw [ht]; exact hP, va_K.moved hW.alike hK, hD⟩, hS.F ht⟩) hS.2.2 dX12_readsCompared_86
    · have c_6 : r_5.toInt = 60 := b_nne c_6
      refine lv_bipush (v := 7) hx hb dX12_readsCompared_18 (by decide) ?_
      refine lv_goto (tgt := 52) hx hb dX12_readsCompared_20 (by decide) ?_
      refine lv_istore_n (lv' := [(1, .int 7), (0, .ref (a 0))]) hx hb dX12_readsCompared_52 rfl hl (by decide) rfl (fun ls hl => ?_)
      refine lv_iload_n hx hb dX12_readsCompared_53 rfl (lv_at hl 0 rfl) ?_
      refine lv_iconst (v := (-1)) hx hb dX12_readsCompared_54 (by decide) ?_
      refine lv_icmp_ne (tgt := 68) hx hb dX12_readsCompared_55 (by decide) (fun c_44 => ?_) (fun c_44 => absurd c_44 (by decide))
      refine lv_aload_n hx hb dX12_readsCompared_68 rfl (lv_at hl 1 rfl) ?_
      have hlt9 := mHere_lt (i := i3) (r := r3) (by omega)
      refine lv_aload_n hx hb dX12_readsCompared_69 rfl (lv_at hl 1 rfl) ?_
      refine va_get (D := D) (ci := 12) (v := .int (i3 23)) (C := RX12) (T := TX12) (N := 91) hx hb hT iX12 hown hK hP 0 rfl rfl 23 (by decide) (hT _ t_252) (fun _ h9 => h9) rfl dX12_readsCompared_70 ?_
      have hg_45 : 0 ≤ (i3 23).toInt ∧ (i3 23).toInt ≤ 200 := hRi 23
      refine lv_iconst (v := 1) hx hb dX12_readsCompared_73 (by decide) ?_
      refine lv_iadd hx hb dX12_readsCompared_74 ?_
      refine lv_topi (fun v_46 ev_46 => ?_)
      have hv_46 : v_46.toInt = (i3 23).toInt + 1 := by rw [ev_46]; have := b_rg (i3 23); exact i_add (a := (i3 23).toInt) (b := 1) rfl rfl (by omega) (by omega)
      refine va_put (D := D) (ci := 12) (v := .int v_46) (ty := .int) (C := RX12) (T := TX12) (N := 91) hx hb hT iX12 tyX12 tyX12_ok nmX12 hown hK hP hD hS 0 rfl rfl 23 (by decide) (hT _ t_252) (fun _ h9 => h9) rfl (by decide +kernel) rfl rfl (Nat.le_of_ble_eq_true rfl) dX12_readsCompared_75 (fun H locs hP hD hS => ?_)
      rw [mP23] at hP hD
      have hRi := Ri_upd hRi 23 v_46 ⟨by show (0 : Int) ≤ v_46.toInt; omega, by show v_46.toInt ≤ (200 : Int); omega⟩
      have hEi := Ei_upd hEi 23 v_46 (by decide)
      refine lv_aload_n hx hb dX12_readsCompared_78 rfl (lv_at hl 1 rfl) ?_
      have hZ2 : SS f9 1 (s9 + 1) (upd i3 23 v_46) r3 := SS_adv hrs2.1 rfl rfl (by show v_46.toInt = _; omega) rfl rfl (by omega)
      have hO2 : outB (r3 22) ((upd i3 23 v_46) 28).toInt.toNat := con_out hC hrs2.2.2.2.1 (by show (i3 28).toInt.toNat = _; rw [hrs2.2.2.1])
      have hF_47 := rF hD hS hA
      refine va_calli (va_runV (As := []) (rest := []) ⟨hx, hb, hml, hown, hT⟩ (c_X12_readsSum l D cy a (upd i3 23 v_46) r3 rl _ hRi hRr f9 1 (s9 + 1) hZ2 hO2) (cwV 0 hT (gV t_884 t_885 t_886 t_887 t_6) rfl rfl rfl (by decide +kernel) ⟨Nat.le_of_ble_eq_true rfl, Nat.le_of_ble_eq_true rfl⟩) (rQ_v hP hK hD (va_recv hK hP (ci := 12) (q0 := 0) rfl rfl)) rfl rfl hl.1 rfl (lv_room (Nat.le_of_ble_eq_true rfl)) dX12_readsCompared_79 ⟨Nat.le_of_ble_eq_true rfl, Nat.le_of_ble_eq_true rfl⟩) hS (fun q _ h => hF_47 q h) hF_47 (fun r_48 u_49 t H1 locs ht hvm hr_48 hB hz1 hk1 hS => ?_)
      obtain ⟨i49, r49⟩ := u_49
      obtain ⟨hP, hK1, hD1⟩ := hB
      rw [ht] at hP
      have hD := hD1.weaken (fun k q _ h => hF_47 q.1 h)
      have hP : va_P D vwCl (mW cy a i49 r49 rl) H1 := hP
      have hD : va_D A (mW cy a i49 r49 rl) := hD
      obtain ⟨hRi, hRr, hE1, hE2, hr_48⟩ := hr_48
      have hRi : mRi i49 := hRi
      have hRr : mRr r49 := hRr
      have hEi : mEi [23, 25, 26, 27, 28, 30] _ i49 := Ei_tr hEi hE1 (by decide)
      have hEr : mEr [21, 22] _ r49 := Er_tr hEr hE2 (by decide)
      rcases hr_48 with ⟨rfl, hrs48⟩ | rfl
      · have hrs48 : SS f9 (1 + 1) (s9 + 1) i49 r49 ∧ ((upd i3 23 v_46) 23).toInt < (i49 23).toInt ∧ (i49 28).toInt = ((upd i3 23 v_46) 28).toInt ∧ (∀ j, j < ((upd i3 23 v_46) 28).toInt.toNat → r49 22 j = r3 22 j) ∧ low f9 r3 r49 := hrs48
        refine lv_if_ne (tgt := 87) hx hb dX12_readsCompared_82 (by decide) (fun c_50 => ?_) (fun c_50 => absurd c_50 (by decide))
        refine lv_aload_n hx hb dX12_readsCompared_87 rfl (lv_at hl 1 rfl) ?_
        have hg23_i49 : 0 ≤ (i49 23).toInt ∧ (i49 23).toInt ≤ 200 := hRi 23
        have hb_i49 := SS_200 hrs48.1 hRi
        refine lv_iload_n hx hb dX12_readsCompared_88 rfl (lv_at hl 0 rfl) ?_
        refine lv_iconst (v := 0) hx hb dX12_readsCompared_89 (by decide) ?_
        have hF_51 := rF hD hS hA
        refine va_callv (va_runV (As := [.int 7, .int 0]) (rest := []) ⟨hx, hb, hml, hown, hT⟩ (c_X12_notes l D cy a i49 r49 rl 7 0 _ hRi hRr (by first | omega | decide) (by first | omega | decide) (by show (i49 27).toInt < 220; omega)) (cwV 2 hT (gV t_854 t_855 t_856 t_857 t_6) rfl rfl rfl (by decide +kernel) ⟨Nat.le_of_ble_eq_true rfl, Nat.le_of_ble_eq_true rfl⟩) (rQ_v hP hK hD (va_recv hK hP (ci := 12) (q0 := 0) rfl rfl)) rfl rfl hl.1 rfl (lv_room (Nat.le_of_ble_eq_true rfl)) dX12_readsCompared_90 ⟨Nat.le_of_ble_eq_true rfl, Nat.le_of_ble_eq_true rfl⟩) hS (fun q _ h => hF_51 q h) hF_51 (fun u_53 t H1 locs ht hvm hr_52 hB hz1 hk1 hS => ?_)
        obtain ⟨i53, r53⟩ := u_53
        obtain ⟨hP, hK1, hD1⟩ := hB
        rw [ht] at hP
        have hD := hD1.weaken (fun k q _ h => hF_51 q.1 h)
        have hP : va_P D vwCl (mW cy a i53 r53 rl) H1 := hP
        have hD : va_D A (mW cy a i53 r53 rl) := hD
        obtain ⟨hRi, hRr, hE1, hE2, hr_52⟩ := hr_52
        have hRi : mRi i53 := hRi
        have hRr : mRr r53 := hRr
        have hEi : mEi [23, 25, 26, 27, 28, 30] _ i53 := Ei_tr hEi hE1 (by decide)
        have hEr : mEr [21, 22] _ r53 := Er_tr hEr hE2 (by decide)
        obtain ⟨hn52, x52, hx52, hr52⟩ := hr_52
        have hn52 : (i53 27).toInt = (i49 27).toInt + 1 := hn52
        have hr52 : r53 21 = upd (r49 21) (i49 27).toInt.toNat x52 := hr52
        have e23_52 : i53 23 = i49 23 := hE1 23 (by decide)
        have e28_52 : i53 28 = i49 28 := hE1 28 (by decide)
        have e33_52 : r53 22 = r49 22 := hE2 22 (by decide)
        have hx52 : x52.toInt = 1048576 * 7 + 0 := hx52
        refine lv_aload_n hx hb dX12_readsCompared_93 rfl (lv_at hl 1 rfl) ?_
        have hZ3 : SS f9 1 s9 i53 r53 := SS_cmp hrs48.1 hx52 (by omega) hn52 e28_52 e23_52 e33_52 hr52 (by omega)
        have hF_54 := rF hD hS hA
        refine va_callv (va_runV (As := []) (rest := []) ⟨hx, hb, hml, hown, hT⟩ (c_X12_endsPiece l D cy a i53 r53 rl _ hRi hRr f9 s9 hZ3) (cwV 0 hT (gV t_888 t_889 t_890 t_891 t_6) rfl rfl rfl (by decide +kernel) ⟨Nat.le_of_ble_eq_true rfl, Nat.le_of_ble_eq_true rfl⟩) (rQ_v hP hK hD (va_recv hK hP (ci := 12) (q0 := 0) rfl rfl)) rfl rfl hl.1 rfl (lv_room (Nat.le_of_ble_eq_true rfl)) dX12_readsCompared_94 ⟨Nat.le_of_ble_eq_true rfl, Nat.le_of_ble_eq_true rfl⟩) hS (fun q _ h => hF_54 q h) hF_54 (fun u_56 t H1 locs ht hvm hr_55 hB hz1 hk1 hS => ?_)
        obtain ⟨i56, r56⟩ := u_56
        obtain ⟨hP, hK1, hD1⟩ := hB
        rw [ht] at hP
        have hD := hD1.weaken (fun k q _ h => hF_54 q.1 h)
        have hP : va_P D vwCl (mW cy a i56 r56 rl) H1 := hP
        have hD : va_D A (mW cy a i56 r56 rl) := hD
        obtain ⟨hRi, hRr, hE1, hE2, hr_55⟩ := hr_55
        have hRi : mRi i56 := hRi
        have hRr : mRr r56 := hRr
        have hEi : mEi [23, 25, 26, 27, 28, 30] _ i56 := Ei_tr hEi hE1 (by decide)
        have hEr : mEr [21, 22] _ r56 := Er_tr hEr hE2 (by decide)
        have hr_55 : EP f9 s9 i53 r53 i56 r56 := hr_55
        refine lv_iconst (v := 1) hx hb dX12_readsCompared_97 (by decide) ?_
        subst hQ
        have e23z : i56 23 = i53 23 := hE1 23 (by decide)
        have hj : RC f9 s9 i r 1 i56 r56 := RC_of (I3 := upd i3 23 v_46) hrs2.2.1 hrs2.2.2.1 hrs2.2.2.2.1 hrs2.2.2.2.2 (by show v_46.toInt = _; omega) rfl hrs48.2.1 hrs48.2.2.1 hrs48.2.2.2.1 hrs48.2.2.2.2 e23_52 e28_52 e33_52 (low_upd hr52 (SS_n hrs48.1).1) hr_55 e23z
        exact W.zret hx hb hr rfl (fun t ht hW => ⟨⟨_, (i56, r56), rfl, ⟨hRi, hRr, hEi, hEr, hj⟩, by rw [ht]; exact hP, va_K.moved hW.alike hK, hD⟩, hS.F ht⟩) hS.2.2 dX12_readsCompared_98
      · skip
        refine lv_if_ne (tgt := 87) hx hb dX12_readsCompared_82 (by decide) (fun c_57 => absurd (by decide) c_57) (fun c_57 => ?_)
        refine lv_iconst (v := 0) hx hb dX12_readsCompared_85 (by decide) ?_
        subst hQ
        exact W.zret hx hb hr rfl (fun t ht hW => ⟨⟨_, (i49, r49), rfl, ⟨hRi, hRr, hEi, hEr, (Or.inr rfl)⟩, by rw [ht]; exact hP, va_K.moved hW.alike hK, hD⟩, hS.F ht⟩) hS.2.2 dX12_readsCompared_86
  · skip
    refine lv_if_ne (tgt := 9) hx hb dX12_readsCompared_4 (by decide) (fun c_58 => absurd (by decide) c_58) (fun c_58 => ?_)
    refine lv_iconst (v := 0) hx hb dX12_readsCompared_7 (by decide) ?_
    subst hQ
    exact W.zret hx hb hr rfl (fun t ht hW => ⟨⟨_, (i3, r3), rfl, ⟨hRi, hRr, hEi, hEr, (Or.inr rfl)⟩, by rw [ht]; exact hP, va_K.moved hW.alike hK, hD⟩, hS.F ht⟩) hS.2.2 dX12_readsCompared_8
set_option maxHeartbeats 4000000 in
set_option maxRecDepth 100000 in
theorem c_X12_readsCondition (l : Launch) (D : va_G) (cy : Nat → ClassId) (a : Nat → Nat) (i : Nat → Int32) (r : Nat → Nat → Int32) (rl : Nat → Int64) (sz : Nat) (hRi : mRi i) (hRr : mRr r) (hN : NP i) : Met l yX12_readsCondition (Cond.code yX12_readsCondition cX12_readsCondition 1 (some .boolean) :: gT) { frames := 7, cells := 0, slots := 0, locals := 149 } (va_Pc [.ref (a 0)] (rQ D cy (mW cy a i r rl) sz)) (va_Qi (fun (z : Int32) (u : (Nat → Int32) × (Nat → Nat → Int32)) => mRi u.1 ∧ mRr u.2 ∧ mEi [23, 25, 26, 27, 28, 30] i u.1 ∧ mEr [21, 22] r u.2 ∧ (RD i r z u.1 u.2)) (fun (u : (Nat → Int32) × (Nat → Nat → Int32)) t => va_P D vwCl (mW cy a u.1 u.2 rl) t.heap ∧ va_K D vwCl (vT cy) t ∧ va_D (va_A (mW cy a i r rl) sz) (mW cy a u.1 u.2 rl)) (va_A (mW cy a i r rl) sz)) 0 0 (va_A (mW cy a i r rl) sz) := by
  refine Met.ofQ (cc := cX12_readsCondition) (maxL := 1) (ret := (some .boolean)) (by decide) rfl ?_
  intro p e s m args below meth c s₁ B hml hv Q hQ
  obtain ⟨rfl, hsz, hP, hK, hD0⟩ := hv
  have hx := B.exec
  have hb := B.bytes
  have hr := B.returns
  have hlocks := B.notSynchronized
  have hT : ∀ w ∈ gT, w.before _ s = true := fun w h => atoms_spec (ws := (Cond.code yX12_readsCondition cX12_readsCondition 1 (some .boolean) :: gT)) B.pre w (List.mem_cons_of_mem _ h)
  have hown : s.vm.findClass RX12 = some m.cls := findClass_of_methodNamed B.named
  subst hsz
  have hD := hD0.self (sz := s.heap.size)
  generalize hAe : va_A (mW cy a i r rl) s.heap.size = A at hD hQ
  have hA : ∀ q : Nat, s.heap.size ≤ q → A q := fun q h => by rw [← hAe]; exact Or.inr h
  have hS : va_S A s.heap s.heap [] := va_S.rf
  have hl := lv_entry ([.ref (a 0)]) (n := 1) (Nat.le_of_ble_eq_true rfl)
  rw [lg_entry_eq]
  generalize (lg_sl ([.ref (a 0)]) ++ List.replicate (1 - (lg_sl ([.ref (a 0)])).length) Slot.unset).toArray = ls at hl ⊢
  have hl : lv_has ls 1 [(0, .ref (a 0))] := hl
  have hEi : mEi [23, 25, 26, 27, 28, 30] i i := Ei_rf
  have hEr : mEr [21, 22] r r := Er_rf
  have hg23i : 0 ≤ (i 23).toInt ∧ (i 23).toInt ≤ 200 := hRi 23
  have hg24i : 0 ≤ (i 24).toInt ∧ (i 24).toInt ≤ 200 := hRi 24
  refine lv_aload_n hx hb dX12_readsCondition_0 rfl (lv_at hl 0 rfl) ?_
  refine vp_callSi (W.runV (As := []) (rest := []) ⟨hx, hb, hml, hown, hT⟩ (c_X12_here l D cy a i r rl hRi hRr) (cwV 0 hT (gV t_254 t_255 t_256 t_257 t_6) rfl rfl rfl (by decide +kernel) ⟨Nat.le_of_ble_eq_true rfl, Nat.le_of_ble_eq_true rfl⟩) (rP_v hP hK (va_recv hK hP (ci := 12) (q0 := 0) rfl rfl)) rfl rfl hl.1 rfl (lv_room (Nat.le_of_ble_eq_true rfl)) dX12_readsCondition_1 ⟨Nat.le_of_ble_eq_true rfl, Nat.le_of_ble_eq_true rfl⟩) (fun r_1 hr_1 => ?_)
  have hqr_1 : -1 ≤ r_1.toInt ∧ r_1.toInt ≤ 255 := by rw [hr_1]; exact mHere_rg _ _
  have hwr_1 : r_1.toInt = (mHere i r).toInt := congrArg Int32.toInt hr_1
  refine lv_bipush (v := 40) hx hb dX12_readsCondition_4 (by decide) ?_
  refine lv_icmp_eq (tgt := 19) hx hb dX12_readsCondition_6 (by decide) (fun c_2 => ?_) (fun c_2 => ?_)
  · have c_2 : r_1.toInt = 40 := b_eq c_2
    have hlt0 := mHere_lt (i := i) (r := r) (by omega)
    refine lv_aload_n hx hb dX12_readsCondition_19 rfl (lv_at hl 0 rfl) ?_
    refine lv_iconst (v := 0) hx hb dX12_readsCondition_20 (by decide) ?_
    refine va_put (D := D) (ci := 12) (v := .int 0) (ty := .int) (C := RX12) (T := TX12) (N := 91) hx hb hT iX12 tyX12 tyX12_ok nmX12 hown hK hP hD hS 0 rfl rfl 26 (by decide) (hT _ t_848) (fun _ h9 => h9) rfl (by decide +kernel) rfl rfl (Nat.le_of_ble_eq_true rfl) dX12_readsCondition_21 (fun H locs hP hD hS => ?_)
    rw [mP26] at hP hD
    have hRi := Ri_upd hRi 26 0 (b_rg _)
    have hEi := Ei_upd hEi 26 0 (by decide)
    refine lv_aload_n hx hb dX12_readsCondition_24 rfl (lv_at hl 0 rfl) ?_
    refine lv_iconst (v := 0) hx hb dX12_readsCondition_25 (by decide) ?_
    refine va_put (D := D) (ci := 12) (v := .int 0) (ty := .int) (C := RX12) (T := TX12) (N := 91) hx hb hT iX12 tyX12 tyX12_ok nmX12 hown hK hP hD hS 0 rfl rfl 28 (by decide) (hT _ t_849) (fun _ h9 => h9) rfl (by decide +kernel) rfl rfl (Nat.le_of_ble_eq_true rfl) dX12_readsCondition_26 (fun H locs hP hD hS => ?_)
    rw [mP28] at hP hD
    have hRi := Ri_upd hRi 28 0 ⟨by decide, by decide⟩
    have hEi := Ei_upd hEi 28 0 (by decide)
    refine lv_aload_n hx hb dX12_readsCondition_29 rfl (lv_at hl 0 rfl) ?_
    refine lv_bipush (v := 13) hx hb dX12_readsCondition_30 (by decide) ?_
    have hF_3 := rF hD hS hA
    refine va_calli (va_runV (As := [.int 13]) (rest := []) ⟨hx, hb, hml, hown, hT⟩ (c_X12_opens l D cy a (upd (upd i 26 0) 28 0) r rl 13 _ hRi hRr (by first | omega | decide) (by show ((i 23).toInt : Int) < 200; omega) (by show (0 : Int) ≤ 200; omega)) (cwV 1 hT (gV t_865 t_866 t_867 t_868 t_6) rfl rfl rfl (by decide +kernel) ⟨Nat.le_of_ble_eq_true rfl, Nat.le_of_ble_eq_true rfl⟩) (rQ_v hP hK hD (va_recv hK hP (ci := 12) (q0 := 0) rfl rfl)) rfl rfl hl.1 rfl (lv_room (Nat.le_of_ble_eq_true rfl)) dX12_readsCondition_32 ⟨Nat.le_of_ble_eq_true rfl, Nat.le_of_ble_eq_true rfl⟩) hS (fun q _ h => hF_3 q h) hF_3 (fun r_4 u_5 t H1 locs ht hvm hr_4 hB hz1 hk1 hS => ?_)
    obtain ⟨i5, r5⟩ := u_5
    obtain ⟨hP, hK1, hD1⟩ := hB
    rw [ht] at hP
    have hD := hD1.weaken (fun k q _ h => hF_3 q.1 h)
    have hP : va_P D vwCl (mW cy a i5 r5 rl) H1 := hP
    have hD : va_D A (mW cy a i5 r5 rl) := hD
    obtain ⟨hRi, hRr, hE1, hE2, hr_4⟩ := hr_4
    have hRi : mRi i5 := hRi
    have hRr : mRr r5 := hRr
    have hEi : mEi [23, 25, 26, 27, 28, 30] _ i5 := Ei_tr hEi hE1 (by decide)
    have hEr : mEr [21, 22] _ r5 := Er_tr hEr hE2 (by decide)
    rcases hr_4 with ⟨rfl, ho28_4, ho23_4, x4, hx4, hr4⟩ | rfl
    · have ho28_4 : (i5 28).toInt = ((upd (upd i 26 0) 28 0) 28).toInt + 1 := ho28_4
      have ho23_4 : (i5 23).toInt = ((upd (upd i 26 0) 28 0) 23).toInt + 1 := ho23_4
      have hx4 : x4.toInt = 1048576 * 13 := hx4
      have hr4 : r5 22 = upd (r 22) ((upd (upd i 26 0) 28 0) 28).toInt.toNat x4 := hr4
      have e27_4 : i5 27 = (upd (upd i 26 0) 28 0) 27 := hE1 27 (by decide)
      have e32_4 : r5 21 = r 21 := hE2 21 (by decide)
      refine lv_if_ne (tgt := 40) hx hb dX12_readsCondition_35 (by decide) (fun c_6 => ?_) (fun c_6 => absurd c_6 (by decide))
      have loop_7 : ∀ (n : Nat) (i7 : Nat → Int32) (r7 : Nat → Nat → Int32) (H : Heap) (locs : List Loc) (ls : Array Slot), (200 - (i7 23).toInt).toNat < n → mRi i7 → mEi [23, 25, 26, 27, 28, 30] i i7 → mRr r7 → mEr [21, 22] r r7 → (CM ((i 27).toInt.toNat) 0 i r i7 r7) → va_P D vwCl (mW cy a i7 r7 rl) H → va_D A (mW cy a i7 r7 rl) → va_S A s.heap H locs → lv_has ls 1 [(0, .ref (a 0))] → W p l e ({ frames := 7, cells := 0, slots := 0, locals := 149 } : Room) s m ([.ref (a 0)] : List Value).toArray below meth c H locs 0 0 Q (F0 m 40 ls []) := by
        intro n
        induction n with
        | zero =>
          intro i7 r7 H locs ls hm7 hRi hEi hRr hEr hx7 hP hD hS hl
          exact absurd hm7 (by omega)
        | succ n ih7 =>
          intro i7 r7 H locs ls hm7 hRi hEi hRr hEr hx7 hP hD hS hl
          refine lv_aload_n hx hb dX12_readsCondition_40 rfl (lv_at hl 0 rfl) ?_
          have hg23_i7 : 0 ≤ (i7 23).toInt ∧ (i7 23).toInt ≤ 200 := hRi 23
          have hb_i7 := SS_200 hx7.1 hRi
          have hg24 : 0 ≤ (i7 24).toInt ∧ (i7 24).toInt ≤ 200 := hRi 24
          refine vp_callSi (W.runV (As := []) (rest := []) ⟨hx, hb, hml, hown, hT⟩ (c_X12_here l D cy a i7 r7 rl hRi hRr) (cwV 0 hT (gV t_254 t_255 t_256 t_257 t_6) rfl rfl rfl (by decide +kernel) ⟨Nat.le_of_ble_eq_true rfl, Nat.le_of_ble_eq_true rfl⟩) (rP_v hP hK (va_recv hK hP (ci := 12) (q0 := 0) rfl rfl)) rfl rfl hl.1 rfl (lv_room (Nat.le_of_ble_eq_true rfl)) dX12_readsCondition_41 ⟨Nat.le_of_ble_eq_true rfl, Nat.le_of_ble_eq_true rfl⟩) (fun r_8 hr_8 => ?_)
          have hqr_8 : -1 ≤ r_8.toInt ∧ r_8.toInt ≤ 255 := by rw [hr_8]; exact mHere_rg _ _
          have hwr_8 : r_8.toInt = (mHere i7 r7).toInt := congrArg Int32.toInt hr_8
          refine lv_bipush (v := 33) hx hb dX12_readsCondition_44 (by decide) ?_
          refine lv_icmp_eq (tgt := 58) hx hb dX12_readsCondition_46 (by decide) (fun c_9 => ?_) (fun c_9 => ?_)
          · have c_9 : r_8.toInt = 33 := b_eq c_9
            refine lv_aload_n hx hb dX12_readsCondition_58 rfl (lv_at hl 0 rfl) ?_
            have hlt9 := mHere_lt (i := i7) (r := r7) (by omega)
            refine lv_aload_n hx hb dX12_readsCondition_59 rfl (lv_at hl 0 rfl) ?_
            refine vp_callSi (W.runV (As := []) (rest := [.ref (a 0)]) ⟨hx, hb, hml, hown, hT⟩ (c_X12_here l D cy a i7 r7 rl hRi hRr) (cwV 0 hT (gV t_254 t_255 t_256 t_257 t_6) rfl rfl rfl (by decide +kernel) ⟨Nat.le_of_ble_eq_true rfl, Nat.le_of_ble_eq_true rfl⟩) (rP_v hP hK (va_recv hK hP (ci := 12) (q0 := 0) rfl rfl)) rfl rfl hl.1 rfl (lv_room (Nat.le_of_ble_eq_true rfl)) dX12_readsCondition_60 ⟨Nat.le_of_ble_eq_true rfl, Nat.le_of_ble_eq_true rfl⟩) (fun r_10 hr_10 => ?_)
            have hqr_10 : -1 ≤ r_10.toInt ∧ r_10.toInt ≤ 255 := by rw [hr_10]; exact mHere_rg _ _
            have hwr_10 : r_10.toInt = (mHere i7 r7).toInt := congrArg Int32.toInt hr_10
            refine lv_bipush (v := 33) hx hb dX12_readsCondition_63 (by decide) ?_
            refine lv_icmp_ne (tgt := 73) hx hb dX12_readsCondition_65 (by decide) (fun c_11 => ?_) (fun c_11 => ?_)
            · have c_11 : r_10.toInt ≠ 33 := b_ne c_11
              refine lv_bipush (v := 13) hx hb dX12_readsCondition_73 (by decide) ?_
              have hF_12 := rF hD hS hA
              refine va_calli (va_runV (As := [.int 13]) (rest := []) ⟨hx, hb, hml, hown, hT⟩ (c_X12_opens l D cy a i7 r7 rl 13 _ hRi hRr (by first | omega | decide) (by show ((i7 23).toInt : Int) < 200; omega) (by show ((i7 28).toInt : Int) ≤ 200; omega)) (cwV 1 hT (gV t_865 t_866 t_867 t_868 t_6) rfl rfl rfl (by decide +kernel) ⟨Nat.le_of_ble_eq_true rfl, Nat.le_of_ble_eq_true rfl⟩) (rQ_v hP hK hD (va_recv hK hP (ci := 12) (q0 := 0) rfl rfl)) rfl rfl hl.1 rfl (lv_room (Nat.le_of_ble_eq_true rfl)) dX12_readsCondition_75 ⟨Nat.le_of_ble_eq_true rfl, Nat.le_of_ble_eq_true rfl⟩) hS (fun q _ h => hF_12 q h) hF_12 (fun r_13 u_14 t H1 locs ht hvm hr_13 hB hz1 hk1 hS => ?_)
              obtain ⟨i14, r14⟩ := u_14
              obtain ⟨hP, hK1, hD1⟩ := hB
              rw [ht] at hP
              have hD := hD1.weaken (fun k q _ h => hF_12 q.1 h)
              have hP : va_P D vwCl (mW cy a i14 r14 rl) H1 := hP
              have hD : va_D A (mW cy a i14 r14 rl) := hD
              obtain ⟨hRi, hRr, hE1, hE2, hr_13⟩ := hr_13
              have hRi : mRi i14 := hRi
              have hRr : mRr r14 := hRr
              have hEi : mEi [23, 25, 26, 27, 28, 30] _ i14 := Ei_tr hEi hE1 (by decide)
              have hEr : mEr [21, 22] _ r14 := Er_tr hEr hE2 (by decide)
              rcases hr_13 with ⟨rfl, ho28_13, ho23_13, x13, hx13, hr13⟩ | rfl
              · have ho28_13 : (i14 28).toInt = (i7 28).toInt + 1 := ho28_13
                have ho23_13 : (i14 23).toInt = (i7 23).toInt + 1 := ho23_13
                have hx13 : x13.toInt = 1048576 * 13 := hx13
                have hr13 : r14 22 = upd (r7 22) (i7 28).toInt.toNat x13 := hr13
                have e27_13 : i14 27 = i7 27 := hE1 27 (by decide)
                have e32_13 : r14 21 = r7 21 := hE2 21 (by decide)
                refine lv_if_ne (tgt := 40) hx hb dX12_readsCondition_78 (by decide) (fun c_15 => ?_) (fun c_15 => absurd c_15 (by decide))
                exact ih7 i14 r14 _ _ _ (bk_lt hm7 (ch1 ho23_13) (show _ ≤ (200 : Int) from (hRi 23).2))  hRi hEi hRr hEr (CM_open (o := 13) hx7 hx13 (by decide) ho28_13 ho23_13 e27_13 e32_13 hr13 (by omega)) hP hD hS (lv_sub hl [0] rfl)
              · skip
                refine lv_if_ne (tgt := 40) hx hb dX12_readsCondition_78 (by decide) (fun c_16 => absurd (by decide) c_16) (fun c_16 => ?_)
                refine lv_iconst (v := 0) hx hb dX12_readsCondition_81 (by decide) ?_
                subst hQ
                exact W.zret hx hb hr rfl (fun t ht hW => ⟨⟨_, (i14, r14), rfl, ⟨hRi, hRr, hEi, hEr, (Or.inr rfl)⟩, by rw [ht]; exact hP, va_K.moved hW.alike hK, hD⟩, hS.F ht⟩) hS.2.2 dX12_readsCondition_82
            · have c_11 : r_10.toInt = 33 := b_nne c_11
              refine lv_bipush (v := 10) hx hb dX12_readsCondition_68 (by decide) ?_
              refine lv_goto (tgt := 75) hx hb dX12_readsCondition_70 (by decide) ?_
              have hF_17 := rF hD hS hA
              refine va_calli (va_runV (As := [.int 10]) (rest := []) ⟨hx, hb, hml, hown, hT⟩ (c_X12_opens l D cy a i7 r7 rl 10 _ hRi hRr (by first | omega | decide) (by show ((i7 23).toInt : Int) < 200; omega) (by show ((i7 28).toInt : Int) ≤ 200; omega)) (cwV 1 hT (gV t_865 t_866 t_867 t_868 t_6) rfl rfl rfl (by decide +kernel) ⟨Nat.le_of_ble_eq_true rfl, Nat.le_of_ble_eq_true rfl⟩) (rQ_v hP hK hD (va_recv hK hP (ci := 12) (q0 := 0) rfl rfl)) rfl rfl hl.1 rfl (lv_room (Nat.le_of_ble_eq_true rfl)) dX12_readsCondition_75 ⟨Nat.le_of_ble_eq_true rfl, Nat.le_of_ble_eq_true rfl⟩) hS (fun q _ h => hF_17 q h) hF_17 (fun r_18 u_19 t H1 locs ht hvm hr_18 hB hz1 hk1 hS => ?_)
              obtain ⟨i19, r19⟩ := u_19
              obtain ⟨hP, hK1, hD1⟩ := hB
              rw [ht] at hP
              have hD := hD1.weaken (fun k q _ h => hF_17 q.1 h)
              have hP : va_P D vwCl (mW cy a i19 r19 rl) H1 := hP
              have hD : va_D A (mW cy a i19 r19 rl) := hD
              obtain ⟨hRi, hRr, hE1, hE2, hr_18⟩ := hr_18
              have hRi : mRi i19 := hRi
              have hRr : mRr r19 := hRr
              have hEi : mEi [23, 25, 26, 27, 28, 30] _ i19 := Ei_tr hEi hE1 (by decide)
              have hEr : mEr [21, 22] _ r19 := Er_tr hEr hE2 (by decide)
              rcases hr_18 with ⟨rfl, ho28_18, ho23_18, x18, hx18, hr18⟩ | rfl
              · have ho28_18 : (i19 28).toInt = (i7 28).toInt + 1 := ho28_18
                have ho23_18 : (i19 23).toInt = (i7 23).toInt + 1 := ho23_18
                have hx18 : x18.toInt = 1048576 * 10 := hx18
                have hr18 : r19 22 = upd (r7 22) (i7 28).toInt.toNat x18 := hr18
                have e27_18 : i19 27 = i7 27 := hE1 27 (by decide)
                have e32_18 : r19 21 = r7 21 := hE2 21 (by decide)
                refine lv_if_ne (tgt := 40) hx hb dX12_readsCondition_78 (by decide) (fun c_20 => ?_) (fun c_20 => absurd c_20 (by decide))
                exact ih7 i19 r19 _ _ _ (bk_lt hm7 (ch1 ho23_18) (show _ ≤ (200 : Int) from (hRi 23).2))  hRi hEi hRr hEr (CM_open (o := 10) hx7 hx18 (by decide) ho28_18 ho23_18 e27_18 e32_18 hr18 (by omega)) hP hD hS (lv_sub hl [0] rfl)
              · skip
                refine lv_if_ne (tgt := 40) hx hb dX12_readsCondition_78 (by decide) (fun c_21 => absurd (by decide) c_21) (fun c_21 => ?_)
                refine lv_iconst (v := 0) hx hb dX12_readsCondition_81 (by decide) ?_
                subst hQ
                exact W.zret hx hb hr rfl (fun t ht hW => ⟨⟨_, (i19, r19), rfl, ⟨hRi, hRr, hEi, hEr, (Or.inr rfl)⟩, by rw [ht]; exact hP, va_K.moved hW.alike hK, hD⟩, hS.F ht⟩) hS.2.2 dX12_readsCondition_82
          · have c_9 : r_8.toInt ≠ 33 := b_ne c_9
            refine lv_aload_n hx hb dX12_readsCondition_49 rfl (lv_at hl 0 rfl) ?_
            refine vp_callSi (W.runV (As := []) (rest := []) ⟨hx, hb, hml, hown, hT⟩ (c_X12_here l D cy a i7 r7 rl hRi hRr) (cwV 0 hT (gV t_254 t_255 t_256 t_257 t_6) rfl rfl rfl (by decide +kernel) ⟨Nat.le_of_ble_eq_true rfl, Nat.le_of_ble_eq_true rfl⟩) (rP_v hP hK (va_recv hK hP (ci := 12) (q0 := 0) rfl rfl)) rfl rfl hl.1 rfl (lv_room (Nat.le_of_ble_eq_true rfl)) dX12_readsCondition_50 ⟨Nat.le_of_ble_eq_true rfl, Nat.le_of_ble_eq_true rfl⟩) (fun r_22 hr_22 => ?_)
            have hqr_22 : -1 ≤ r_22.toInt ∧ r_22.toInt ≤ 255 := by rw [hr_22]; exact mHere_rg _ _
            have hwr_22 : r_22.toInt = (mHere i7 r7).toInt := congrArg Int32.toInt hr_22
            refine lv_bipush (v := 40) hx hb dX12_readsCondition_53 (by decide) ?_
            refine lv_icmp_ne (tgt := 83) hx hb dX12_readsCondition_55 (by decide) (fun c_23 => ?_) (fun c_23 => ?_)
            · have c_23 : r_22.toInt ≠ 40 := b_ne c_23
              refine lv_aload_n hx hb dX12_readsCondition_83 rfl (lv_at hl 0 rfl) ?_
              have hF_24 := rF hD hS hA
              refine va_calli (va_runV (As := []) (rest := []) ⟨hx, hb, hml, hown, hT⟩ (c_X12_readsCompared l D cy a i7 r7 rl _ hRi hRr ((i 27).toInt.toNat) 0 hx7.1 hx7.2.1) (cwV 0 hT (gV t_892 t_893 t_894 t_895 t_6) rfl rfl rfl (by decide +kernel) ⟨Nat.le_of_ble_eq_true rfl, Nat.le_of_ble_eq_true rfl⟩) (rQ_v hP hK hD (va_recv hK hP (ci := 12) (q0 := 0) rfl rfl)) rfl rfl hl.1 rfl (lv_room (Nat.le_of_ble_eq_true rfl)) dX12_readsCondition_84 ⟨Nat.le_of_ble_eq_true rfl, Nat.le_of_ble_eq_true rfl⟩) hS (fun q _ h => hF_24 q h) hF_24 (fun r_25 u_26 t H1 locs ht hvm hr_25 hB hz1 hk1 hS => ?_)
              obtain ⟨i26, r26⟩ := u_26
              obtain ⟨hP, hK1, hD1⟩ := hB
              rw [ht] at hP
              have hD := hD1.weaken (fun k q _ h => hF_24 q.1 h)
              have hP : va_P D vwCl (mW cy a i26 r26 rl) H1 := hP
              have hD : va_D A (mW cy a i26 r26 rl) := hD
              obtain ⟨hRi, hRr, hE1, hE2, hr_25⟩ := hr_25
              have hRi : mRi i26 := hRi
              have hRr : mRr r26 := hRr
              have hEi : mEi [23, 25, 26, 27, 28, 30] _ i26 := Ei_tr hEi hE1 (by decide)
              have hEr : mEr [21, 22] _ r26 := Er_tr hEr hE2 (by decide)
              rcases hr_25 with ⟨rfl, hrc25⟩ | rfl
              · have hrc25 : RCi ((i 27).toInt.toNat) 0 i7 r7 i26 r26 := hrc25
                refine lv_if_ne (tgt := 92) hx hb dX12_readsCondition_87 (by decide) (fun c_27 => ?_) (fun c_27 => absurd c_27 (by decide))
                have loop_28 : ∀ (n : Nat) (i28 : Nat → Int32) (r28 : Nat → Nat → Int32) (H : Heap) (locs : List Loc) (ls : Array Slot), (200 - (i28 23).toInt).toNat < n → mRi i28 → mEi [23, 25, 26, 27, 28, 30] i i28 → mRr r28 → mEr [21, 22] r r28 → (CM ((i 27).toInt.toNat) 1 i r i28 r28 ∧ (i7 23).toInt < (i28 23).toInt) → va_P D vwCl (mW cy a i28 r28 rl) H → va_D A (mW cy a i28 r28 rl) → va_S A s.heap H locs → lv_has ls 1 [(0, .ref (a 0))] → W p l e ({ frames := 7, cells := 0, slots := 0, locals := 149 } : Room) s m ([.ref (a 0)] : List Value).toArray below meth c H locs 0 0 Q (F0 m 92 ls []) := by
                  intro n
                  induction n with
                  | zero =>
                    intro i28 r28 H locs ls hm28 hRi hEi hRr hEr hx28 hP hD hS hl
                    exact absurd hm28 (by omega)
                  | succ n ih28 =>
                    intro i28 r28 H locs ls hm28 hRi hEi hRr hEr hx28 hP hD hS hl
                    refine lv_aload_n hx hb dX12_readsCondition_92 rfl (lv_at hl 0 rfl) ?_
                    have hy28 := hx28
                    have hg23_i28 : 0 ≤ (i28 23).toInt ∧ (i28 23).toInt ≤ 200 := hRi 23
                    have hb_i28 := SS_200 hx28.1.1 hRi
                    have hg24 : 0 ≤ (i28 24).toInt ∧ (i28 24).toInt ≤ 200 := hRi 24
                    have hpm : 1 ≤ (i28 28).toInt := hx28.1.2.2.1
                    refine vp_callSi (W.runV (As := []) (rest := []) ⟨hx, hb, hml, hown, hT⟩ (c_X12_here l D cy a i28 r28 rl hRi hRr) (cwV 0 hT (gV t_254 t_255 t_256 t_257 t_6) rfl rfl rfl (by decide +kernel) ⟨Nat.le_of_ble_eq_true rfl, Nat.le_of_ble_eq_true rfl⟩) (rP_v hP hK (va_recv hK hP (ci := 12) (q0 := 0) rfl rfl)) rfl rfl hl.1 rfl (lv_room (Nat.le_of_ble_eq_true rfl)) dX12_readsCondition_93 ⟨Nat.le_of_ble_eq_true rfl, Nat.le_of_ble_eq_true rfl⟩) (fun r_29 hr_29 => ?_)
                    have hqr_29 : -1 ≤ r_29.toInt ∧ r_29.toInt ≤ 255 := by rw [hr_29]; exact mHere_rg _ _
                    have hwr_29 : r_29.toInt = (mHere i28 r28).toInt := congrArg Int32.toInt hr_29
                    refine lv_bipush (v := 41) hx hb dX12_readsCondition_96 (by decide) ?_
                    refine lv_icmp_ne (tgt := 152) hx hb dX12_readsCondition_98 (by decide) (fun c_30 => ?_) (fun c_30 => ?_)
                    · have c_30 : r_29.toInt ≠ 41 := b_ne c_30
                      refine lv_aload_n hx hb dX12_readsCondition_152 rfl (lv_at hl 0 rfl) ?_
                      refine vp_callSi (W.runV (As := []) (rest := []) ⟨hx, hb, hml, hown, hT⟩ (c_X12_here l D cy a i28 r28 rl hRi hRr) (cwV 0 hT (gV t_254 t_255 t_256 t_257 t_6) rfl rfl rfl (by decide +kernel) ⟨Nat.le_of_ble_eq_true rfl, Nat.le_of_ble_eq_true rfl⟩) (rP_v hP hK (va_recv hK hP (ci := 12) (q0 := 0) rfl rfl)) rfl rfl hl.1 rfl (lv_room (Nat.le_of_ble_eq_true rfl)) dX12_readsCondition_153 ⟨Nat.le_of_ble_eq_true rfl, Nat.le_of_ble_eq_true rfl⟩) (fun r_31 hr_31 => ?_)
                      have hqr_31 : -1 ≤ r_31.toInt ∧ r_31.toInt ≤ 255 := by rw [hr_31]; exact mHere_rg _ _
                      have hwr_31 : r_31.toInt = (mHere i28 r28).toInt := congrArg Int32.toInt hr_31
                      refine lv_bipush (v := 38) hx hb dX12_readsCondition_156 (by decide) ?_
                      refine lv_icmp_eq (tgt := 180) hx hb dX12_readsCondition_158 (by decide) (fun c_32 => ?_) (fun c_32 => ?_)
                      · have c_32 : r_31.toInt = 38 := b_eq c_32
                        refine lv_aload_n hx hb dX12_readsCondition_180 rfl (lv_at hl 0 rfl) ?_
                        have hlt9 := mHere_lt (i := i28) (r := r28) (by omega)
                        refine lv_aload_n hx hb dX12_readsCondition_181 rfl (lv_at hl 0 rfl) ?_
                        refine vp_callSi (W.runV (As := []) (rest := [.ref (a 0)]) ⟨hx, hb, hml, hown, hT⟩ (c_X12_here l D cy a i28 r28 rl hRi hRr) (cwV 0 hT (gV t_254 t_255 t_256 t_257 t_6) rfl rfl rfl (by decide +kernel) ⟨Nat.le_of_ble_eq_true rfl, Nat.le_of_ble_eq_true rfl⟩) (rP_v hP hK (va_recv hK hP (ci := 12) (q0 := 0) rfl rfl)) rfl rfl hl.1 rfl (lv_room (Nat.le_of_ble_eq_true rfl)) dX12_readsCondition_182 ⟨Nat.le_of_ble_eq_true rfl, Nat.le_of_ble_eq_true rfl⟩) (fun r_33 hr_33 => ?_)
                        have hqr_33 : -1 ≤ r_33.toInt ∧ r_33.toInt ≤ 255 := by rw [hr_33]; exact mHere_rg _ _
                        have hwr_33 : r_33.toInt = (mHere i28 r28).toInt := congrArg Int32.toInt hr_33
                        refine lv_bipush (v := 124) hx hb dX12_readsCondition_185 (by decide) ?_
                        refine lv_icmp_ne (tgt := 194) hx hb dX12_readsCondition_187 (by decide) (fun c_34 => ?_) (fun c_34 => ?_)
                        · have c_34 : r_33.toInt ≠ 124 := b_ne c_34
                          refine lv_iconst (v := 0) hx hb dX12_readsCondition_194 (by decide) ?_
                          have hF_35 := rF hD hS hA
                          refine va_callv (va_runV (As := [.int 0]) (rest := []) ⟨hx, hb, hml, hown, hT⟩ (c_X12_lands l D cy a i28 r28 rl 0 _ hRi hRr ((i 27).toInt.toNat) 0 hx28.1.1) (cwV 1 hT (gV t_896 t_897 t_898 t_899 t_6) rfl rfl rfl (by decide +kernel) ⟨Nat.le_of_ble_eq_true rfl, Nat.le_of_ble_eq_true rfl⟩) (rQ_v hP hK hD (va_recv hK hP (ci := 12) (q0 := 0) rfl rfl)) rfl rfl hl.1 rfl (lv_room (Nat.le_of_ble_eq_true rfl)) dX12_readsCondition_195 ⟨Nat.le_of_ble_eq_true rfl, Nat.le_of_ble_eq_true rfl⟩) hS (fun q _ h => hF_35 q h) hF_35 (fun u_37 t H1 locs ht hvm hr_36 hB hz1 hk1 hS => ?_)
                          obtain ⟨i37, r37⟩ := u_37
                          obtain ⟨hP, hK1, hD1⟩ := hB
                          rw [ht] at hP
                          have hD := hD1.weaken (fun k q _ h => hF_35 q.1 h)
                          have hP : va_P D vwCl (mW cy a i37 r37 rl) H1 := hP
                          have hD : va_D A (mW cy a i37 r37 rl) := hD
                          obtain ⟨hRi, hRr, hE1, hE2, hr_36⟩ := hr_36
                          have hRi : mRi i37 := hRi
                          have hRr : mRr r37 := hRr
                          have hEi : mEi [23, 25, 26, 27, 28, 30] _ i37 := Ei_tr hEi hE1 (by decide)
                          have hEr : mEr [21, 22] _ r37 := Er_tr hEr hE2 (by decide)
                          have hr_36 : LD ((i 27).toInt.toNat) 0 i28 r28 i37 r37 ∧ ((0 : Int32).toInt ≠ 0 → topv i37 r37 ≠ 11 ∧ topv i37 r37 ≠ 12) := hr_36
                          have e23l : i37 23 = i28 23 := hE1 23 (by decide)
                          have e23m : (i37 23).toInt = (i28 23).toInt := congrArg Int32.toInt e23l
                          have hcl2 := CM_land hx28.1 hr_36.1 e23l (hRi 28).1
                          have hg23_i37 : 0 ≤ (i37 23).toInt ∧ (i37 23).toInt ≤ 200 := hRi 23
                          have hb_i37 := SS_200 hcl2.1 hRi
                          have hpn : 1 ≤ (i37 28).toInt := hcl2.2.2.1
                          refine lv_aload_n hx hb dX12_readsCondition_198 rfl (lv_at hl 0 rfl) ?_
                          refine lv_aload_n hx hb dX12_readsCondition_199 rfl (lv_at hl 0 rfl) ?_
                          refine vp_callSi (W.runV (As := []) (rest := [.ref (a 0)]) ⟨hx, hb, hml, hown, hT⟩ (c_X12_here l D cy a i37 r37 rl hRi hRr) (cwV 0 hT (gV t_254 t_255 t_256 t_257 t_6) rfl rfl rfl (by decide +kernel) ⟨Nat.le_of_ble_eq_true rfl, Nat.le_of_ble_eq_true rfl⟩) (rP_v hP hK (va_recv hK hP (ci := 12) (q0 := 0) rfl rfl)) rfl rfl hl.1 rfl (lv_room (Nat.le_of_ble_eq_true rfl)) dX12_readsCondition_200 ⟨Nat.le_of_ble_eq_true rfl, Nat.le_of_ble_eq_true rfl⟩) (fun r_38 hr_38 => ?_)
                          have hqr_38 : -1 ≤ r_38.toInt ∧ r_38.toInt ≤ 255 := by rw [hr_38]; exact mHere_rg _ _
                          have hwr_38 : r_38.toInt = (mHere i37 r37).toInt := congrArg Int32.toInt hr_38
                          refine lv_bipush (v := 38) hx hb dX12_readsCondition_203 (by decide) ?_
                          refine lv_icmp_ne (tgt := 213) hx hb dX12_readsCondition_205 (by decide) (fun c_39 => ?_) (fun c_39 => ?_)
                          · have c_39 : r_38.toInt ≠ 38 := b_ne c_39
                            refine lv_bipush (v := 12) hx hb dX12_readsCondition_213 (by decide) ?_
                            have hF_40 := rF hD hS hA
                            refine va_callv (va_runV (As := [.int 12]) (rest := []) ⟨hx, hb, hml, hown, hT⟩ (c_X12_jumps l D cy a i37 r37 rl 12 _ hRi hRr ((i 27).toInt.toNat) 0 hcl2.1 (by first | omega | decide) (by omega)) (cwV 1 hT (gV t_900 t_901 t_902 t_903 t_6) rfl rfl rfl (by decide +kernel) ⟨Nat.le_of_ble_eq_true rfl, Nat.le_of_ble_eq_true rfl⟩) (rQ_v hP hK hD (va_recv hK hP (ci := 12) (q0 := 0) rfl rfl)) rfl rfl hl.1 rfl (lv_room (Nat.le_of_ble_eq_true rfl)) dX12_readsCondition_215 ⟨Nat.le_of_ble_eq_true rfl, Nat.le_of_ble_eq_true rfl⟩) hS (fun q _ h => hF_40 q h) hF_40 (fun u_42 t H1 locs ht hvm hr_41 hB hz1 hk1 hS => ?_)
                            obtain ⟨i42, r42⟩ := u_42
                            obtain ⟨hP, hK1, hD1⟩ := hB
                            rw [ht] at hP
                            have hD := hD1.weaken (fun k q _ h => hF_40 q.1 h)
                            have hP : va_P D vwCl (mW cy a i42 r42 rl) H1 := hP
                            have hD : va_D A (mW cy a i42 r42 rl) := hD
                            obtain ⟨hRi, hRr, hE1, hE2, hr_41⟩ := hr_41
                            have hRi : mRi i42 := hRi
                            have hRr : mRr r42 := hRr
                            have hEi : mEi [23, 25, 26, 27, 28, 30] _ i42 := Ei_tr hEi hE1 (by decide)
                            have hEr : mEr [21, 22] _ r42 := Er_tr hEr hE2 (by decide)
                            have hr_41 : JP ((i 27).toInt.toNat) 0 i37 r37 i42 r42 := hr_41
                            refine lv_goto (tgt := 40) hx hb dX12_readsCondition_218 (by decide) ?_
                            exact ih7 i42 r42 _ _ _ (bk_lt hm7 (ch3 hy28.2 e23m hr_41.2.2.1) (show _ ≤ (200 : Int) from (hRi 23).2))  hRi hEi hRr hEr (CM_jump hcl2 hr_41) hP hD hS (lv_sub hl [0] rfl)
                          · have c_39 : r_38.toInt = 38 := b_nne c_39
                            refine lv_bipush (v := 11) hx hb dX12_readsCondition_208 (by decide) ?_
                            refine lv_goto (tgt := 215) hx hb dX12_readsCondition_210 (by decide) ?_
                            have hF_43 := rF hD hS hA
                            refine va_callv (va_runV (As := [.int 11]) (rest := []) ⟨hx, hb, hml, hown, hT⟩ (c_X12_jumps l D cy a i37 r37 rl 11 _ hRi hRr ((i 27).toInt.toNat) 0 hcl2.1 (by first | omega | decide) (by omega)) (cwV 1 hT (gV t_900 t_901 t_902 t_903 t_6) rfl rfl rfl (by decide +kernel) ⟨Nat.le_of_ble_eq_true rfl, Nat.le_of_ble_eq_true rfl⟩) (rQ_v hP hK hD (va_recv hK hP (ci := 12) (q0 := 0) rfl rfl)) rfl rfl hl.1 rfl (lv_room (Nat.le_of_ble_eq_true rfl)) dX12_readsCondition_215 ⟨Nat.le_of_ble_eq_true rfl, Nat.le_of_ble_eq_true rfl⟩) hS (fun q _ h => hF_43 q h) hF_43 (fun u_45 t H1 locs ht hvm hr_44 hB hz1 hk1 hS => ?_)
                            obtain ⟨i45, r45⟩ := u_45
                            obtain ⟨hP, hK1, hD1⟩ := hB
                            rw [ht] at hP
                            have hD := hD1.weaken (fun k q _ h => hF_43 q.1 h)
                            have hP : va_P D vwCl (mW cy a i45 r45 rl) H1 := hP
                            have hD : va_D A (mW cy a i45 r45 rl) := hD
                            obtain ⟨hRi, hRr, hE1, hE2, hr_44⟩ := hr_44
                            have hRi : mRi i45 := hRi
                            have hRr : mRr r45 := hRr
                            have hEi : mEi [23, 25, 26, 27, 28, 30] _ i45 := Ei_tr hEi hE1 (by decide)
                            have hEr : mEr [21, 22] _ r45 := Er_tr hEr hE2 (by decide)
                            have hr_44 : JP ((i 27).toInt.toNat) 0 i37 r37 i45 r45 := hr_44
                            refine lv_goto (tgt := 40) hx hb dX12_readsCondition_218 (by decide) ?_
                            exact ih7 i45 r45 _ _ _ (bk_lt hm7 (ch3 hy28.2 e23m hr_44.2.2.1) (show _ ≤ (200 : Int) from (hRi 23).2))  hRi hEi hRr hEr (CM_jump hcl2 hr_44) hP hD hS (lv_sub hl [0] rfl)
                        · have c_34 : r_33.toInt = 124 := b_nne c_34
                          refine lv_iconst (v := 1) hx hb dX12_readsCondition_190 (by decide) ?_
                          refine lv_goto (tgt := 195) hx hb dX12_readsCondition_191 (by decide) ?_
                          have hF_46 := rF hD hS hA
                          refine va_callv (va_runV (As := [.int 1]) (rest := []) ⟨hx, hb, hml, hown, hT⟩ (c_X12_lands l D cy a i28 r28 rl 1 _ hRi hRr ((i 27).toInt.toNat) 0 hx28.1.1) (cwV 1 hT (gV t_896 t_897 t_898 t_899 t_6) rfl rfl rfl (by decide +kernel) ⟨Nat.le_of_ble_eq_true rfl, Nat.le_of_ble_eq_true rfl⟩) (rQ_v hP hK hD (va_recv hK hP (ci := 12) (q0 := 0) rfl rfl)) rfl rfl hl.1 rfl (lv_room (Nat.le_of_ble_eq_true rfl)) dX12_readsCondition_195 ⟨Nat.le_of_ble_eq_true rfl, Nat.le_of_ble_eq_true rfl⟩) hS (fun q _ h => hF_46 q h) hF_46 (fun u_48 t H1 locs ht hvm hr_47 hB hz1 hk1 hS => ?_)
                          obtain ⟨i48, r48⟩ := u_48
                          obtain ⟨hP, hK1, hD1⟩ := hB
                          rw [ht] at hP
                          have hD := hD1.weaken (fun k q _ h => hF_46 q.1 h)
                          have hP : va_P D vwCl (mW cy a i48 r48 rl) H1 := hP
                          have hD : va_D A (mW cy a i48 r48 rl) := hD
                          obtain ⟨hRi, hRr, hE1, hE2, hr_47⟩ := hr_47
                          have hRi : mRi i48 := hRi
                          have hRr : mRr r48 := hRr
                          have hEi : mEi [23, 25, 26, 27, 28, 30] _ i48 := Ei_tr hEi hE1 (by decide)
                          have hEr : mEr [21, 22] _ r48 := Er_tr hEr hE2 (by decide)
                          have hr_47 : LD ((i 27).toInt.toNat) 0 i28 r28 i48 r48 ∧ ((1 : Int32).toInt ≠ 0 → topv i48 r48 ≠ 11 ∧ topv i48 r48 ≠ 12) := hr_47
                          have e23l : i48 23 = i28 23 := hE1 23 (by decide)
                          have e23m : (i48 23).toInt = (i28 23).toInt := congrArg Int32.toInt e23l
                          have hcl2 := CM_land hx28.1 hr_47.1 e23l (hRi 28).1
                          have hg23_i48 : 0 ≤ (i48 23).toInt ∧ (i48 23).toInt ≤ 200 := hRi 23
                          have hb_i48 := SS_200 hcl2.1 hRi
                          have hpn : 1 ≤ (i48 28).toInt := hcl2.2.2.1
                          refine lv_aload_n hx hb dX12_readsCondition_198 rfl (lv_at hl 0 rfl) ?_
                          refine lv_aload_n hx hb dX12_readsCondition_199 rfl (lv_at hl 0 rfl) ?_
                          refine vp_callSi (W.runV (As := []) (rest := [.ref (a 0)]) ⟨hx, hb, hml, hown, hT⟩ (c_X12_here l D cy a i48 r48 rl hRi hRr) (cwV 0 hT (gV t_254 t_255 t_256 t_257 t_6) rfl rfl rfl (by decide +kernel) ⟨Nat.le_of_ble_eq_true rfl, Nat.le_of_ble_eq_true rfl⟩) (rP_v hP hK (va_recv hK hP (ci := 12) (q0 := 0) rfl rfl)) rfl rfl hl.1 rfl (lv_room (Nat.le_of_ble_eq_true rfl)) dX12_readsCondition_200 ⟨Nat.le_of_ble_eq_true rfl, Nat.le_of_ble_eq_true rfl⟩) (fun r_49 hr_49 => ?_)
                          have hqr_49 : -1 ≤ r_49.toInt ∧ r_49.toInt ≤ 255 := by rw [hr_49]; exact mHere_rg _ _
                          have hwr_49 : r_49.toInt = (mHere i48 r48).toInt := congrArg Int32.toInt hr_49
                          refine lv_bipush (v := 38) hx hb dX12_readsCondition_203 (by decide) ?_
                          refine lv_icmp_ne (tgt := 213) hx hb dX12_readsCondition_205 (by decide) (fun c_50 => ?_) (fun c_50 => ?_)
                          · have c_50 : r_49.toInt ≠ 38 := b_ne c_50
                            refine lv_bipush (v := 12) hx hb dX12_readsCondition_213 (by decide) ?_
                            have hF_51 := rF hD hS hA
                            refine va_callv (va_runV (As := [.int 12]) (rest := []) ⟨hx, hb, hml, hown, hT⟩ (c_X12_jumps l D cy a i48 r48 rl 12 _ hRi hRr ((i 27).toInt.toNat) 0 hcl2.1 (by first | omega | decide) (by omega)) (cwV 1 hT (gV t_900 t_901 t_902 t_903 t_6) rfl rfl rfl (by decide +kernel) ⟨Nat.le_of_ble_eq_true rfl, Nat.le_of_ble_eq_true rfl⟩) (rQ_v hP hK hD (va_recv hK hP (ci := 12) (q0 := 0) rfl rfl)) rfl rfl hl.1 rfl (lv_room (Nat.le_of_ble_eq_true rfl)) dX12_readsCondition_215 ⟨Nat.le_of_ble_eq_true rfl, Nat.le_of_ble_eq_true rfl⟩) hS (fun q _ h => hF_51 q h) hF_51 (fun u_53 t H1 locs ht hvm hr_52 hB hz1 hk1 hS => ?_)
                            obtain ⟨i53, r53⟩ := u_53
                            obtain ⟨hP, hK1, hD1⟩ := hB
                            rw [ht] at hP
                            have hD := hD1.weaken (fun k q _ h => hF_51 q.1 h)
                            have hP : va_P D vwCl (mW cy a i53 r53 rl) H1 := hP
                            have hD : va_D A (mW cy a i53 r53 rl) := hD
                            obtain ⟨hRi, hRr, hE1, hE2, hr_52⟩ := hr_52
                            have hRi : mRi i53 := hRi
                            have hRr : mRr r53 := hRr
                            have hEi : mEi [23, 25, 26, 27, 28, 30] _ i53 := Ei_tr hEi hE1 (by decide)
                            have hEr : mEr [21, 22] _ r53 := Er_tr hEr hE2 (by decide)
                            have hr_52 : JP ((i 27).toInt.toNat) 0 i48 r48 i53 r53 := hr_52
                            refine lv_goto (tgt := 40) hx hb dX12_readsCondition_218 (by decide) ?_
                            exact ih7 i53 r53 _ _ _ (bk_lt hm7 (ch3 hy28.2 e23m hr_52.2.2.1) (show _ ≤ (200 : Int) from (hRi 23).2))  hRi hEi hRr hEr (CM_jump hcl2 hr_52) hP hD hS (lv_sub hl [0] rfl)
                          · have c_50 : r_49.toInt = 38 := b_nne c_50
                            refine lv_bipush (v := 11) hx hb dX12_readsCondition_208 (by decide) ?_
                            refine lv_goto (tgt := 215) hx hb dX12_readsCondition_210 (by decide) ?_
                            have hF_54 := rF hD hS hA
                            refine va_callv (va_runV (As := [.int 11]) (rest := []) ⟨hx, hb, hml, hown, hT⟩ (c_X12_jumps l D cy a i48 r48 rl 11 _ hRi hRr ((i 27).toInt.toNat) 0 hcl2.1 (by first | omega | decide) (by omega)) (cwV 1 hT (gV t_900 t_901 t_902 t_903 t_6) rfl rfl rfl (by decide +kernel) ⟨Nat.le_of_ble_eq_true rfl, Nat.le_of_ble_eq_true rfl⟩) (rQ_v hP hK hD (va_recv hK hP (ci := 12) (q0 := 0) rfl rfl)) rfl rfl hl.1 rfl (lv_room (Nat.le_of_ble_eq_true rfl)) dX12_readsCondition_215 ⟨Nat.le_of_ble_eq_true rfl, Nat.le_of_ble_eq_true rfl⟩) hS (fun q _ h => hF_54 q h) hF_54 (fun u_56 t H1 locs ht hvm hr_55 hB hz1 hk1 hS => ?_)
                            obtain ⟨i56, r56⟩ := u_56
                            obtain ⟨hP, hK1, hD1⟩ := hB
                            rw [ht] at hP
                            have hD := hD1.weaken (fun k q _ h => hF_54 q.1 h)
                            have hP : va_P D vwCl (mW cy a i56 r56 rl) H1 := hP
                            have hD : va_D A (mW cy a i56 r56 rl) := hD
                            obtain ⟨hRi, hRr, hE1, hE2, hr_55⟩ := hr_55
                            have hRi : mRi i56 := hRi
                            have hRr : mRr r56 := hRr
                            have hEi : mEi [23, 25, 26, 27, 28, 30] _ i56 := Ei_tr hEi hE1 (by decide)
                            have hEr : mEr [21, 22] _ r56 := Er_tr hEr hE2 (by decide)
                            have hr_55 : JP ((i 27).toInt.toNat) 0 i48 r48 i56 r56 := hr_55
                            refine lv_goto (tgt := 40) hx hb dX12_readsCondition_218 (by decide) ?_
                            exact ih7 i56 r56 _ _ _ (bk_lt hm7 (ch3 hy28.2 e23m hr_55.2.2.1) (show _ ≤ (200 : Int) from (hRi 23).2))  hRi hEi hRr hEr (CM_jump hcl2 hr_55) hP hD hS (lv_sub hl [0] rfl)
                      · have c_32 : r_31.toInt ≠ 38 := b_ne c_32
                        refine lv_aload_n hx hb dX12_readsCondition_161 rfl (lv_at hl 0 rfl) ?_
                        refine vp_callSi (W.runV (As := []) (rest := []) ⟨hx, hb, hml, hown, hT⟩ (c_X12_here l D cy a i28 r28 rl hRi hRr) (cwV 0 hT (gV t_254 t_255 t_256 t_257 t_6) rfl rfl rfl (by decide +kernel) ⟨Nat.le_of_ble_eq_true rfl, Nat.le_of_ble_eq_true rfl⟩) (rP_v hP hK (va_recv hK hP (ci := 12) (q0 := 0) rfl rfl)) rfl rfl hl.1 rfl (lv_room (Nat.le_of_ble_eq_true rfl)) dX12_readsCondition_162 ⟨Nat.le_of_ble_eq_true rfl, Nat.le_of_ble_eq_true rfl⟩) (fun r_57 hr_57 => ?_)
                        have hqr_57 : -1 ≤ r_57.toInt ∧ r_57.toInt ≤ 255 := by rw [hr_57]; exact mHere_rg _ _
                        have hwr_57 : r_57.toInt = (mHere i28 r28).toInt := congrArg Int32.toInt hr_57
                        refine lv_bipush (v := 124) hx hb dX12_readsCondition_165 (by decide) ?_
                        refine lv_icmp_eq (tgt := 180) hx hb dX12_readsCondition_167 (by decide) (fun c_58 => ?_) (fun c_58 => ?_)
                        · have c_58 : r_57.toInt = 124 := b_eq c_58
                          refine lv_aload_n hx hb dX12_readsCondition_180 rfl (lv_at hl 0 rfl) ?_
                          have hlt9 := mHere_lt (i := i28) (r := r28) (by omega)
                          refine lv_aload_n hx hb dX12_readsCondition_181 rfl (lv_at hl 0 rfl) ?_
                          refine vp_callSi (W.runV (As := []) (rest := [.ref (a 0)]) ⟨hx, hb, hml, hown, hT⟩ (c_X12_here l D cy a i28 r28 rl hRi hRr) (cwV 0 hT (gV t_254 t_255 t_256 t_257 t_6) rfl rfl rfl (by decide +kernel) ⟨Nat.le_of_ble_eq_true rfl, Nat.le_of_ble_eq_true rfl⟩) (rP_v hP hK (va_recv hK hP (ci := 12) (q0 := 0) rfl rfl)) rfl rfl hl.1 rfl (lv_room (Nat.le_of_ble_eq_true rfl)) dX12_readsCondition_182 ⟨Nat.le_of_ble_eq_true rfl, Nat.le_of_ble_eq_true rfl⟩) (fun r_59 hr_59 => ?_)
                          have hqr_59 : -1 ≤ r_59.toInt ∧ r_59.toInt ≤ 255 := by rw [hr_59]; exact mHere_rg _ _
                          have hwr_59 : r_59.toInt = (mHere i28 r28).toInt := congrArg Int32.toInt hr_59
                          refine lv_bipush (v := 124) hx hb dX12_readsCondition_185 (by decide) ?_
                          refine lv_icmp_ne (tgt := 194) hx hb dX12_readsCondition_187 (by decide) (fun c_60 => ?_) (fun c_60 => ?_)
                          · have c_60 : r_59.toInt ≠ 124 := b_ne c_60
                            refine lv_iconst (v := 0) hx hb dX12_readsCondition_194 (by decide) ?_
                            have hF_61 := rF hD hS hA
                            refine va_callv (va_runV (As := [.int 0]) (rest := []) ⟨hx, hb, hml, hown, hT⟩ (c_X12_lands l D cy a i28 r28 rl 0 _ hRi hRr ((i 27).toInt.toNat) 0 hx28.1.1) (cwV 1 hT (gV t_896 t_897 t_898 t_899 t_6) rfl rfl rfl (by decide +kernel) ⟨Nat.le_of_ble_eq_true rfl, Nat.le_of_ble_eq_true rfl⟩) (rQ_v hP hK hD (va_recv hK hP (ci := 12) (q0 := 0) rfl rfl)) rfl rfl hl.1 rfl (lv_room (Nat.le_of_ble_eq_true rfl)) dX12_readsCondition_195 ⟨Nat.le_of_ble_eq_true rfl, Nat.le_of_ble_eq_true rfl⟩) hS (fun q _ h => hF_61 q h) hF_61 (fun u_63 t H1 locs ht hvm hr_62 hB hz1 hk1 hS => ?_)
                            obtain ⟨i63, r63⟩ := u_63
                            obtain ⟨hP, hK1, hD1⟩ := hB
                            rw [ht] at hP
                            have hD := hD1.weaken (fun k q _ h => hF_61 q.1 h)
                            have hP : va_P D vwCl (mW cy a i63 r63 rl) H1 := hP
                            have hD : va_D A (mW cy a i63 r63 rl) := hD
                            obtain ⟨hRi, hRr, hE1, hE2, hr_62⟩ := hr_62
                            have hRi : mRi i63 := hRi
                            have hRr : mRr r63 := hRr
                            have hEi : mEi [23, 25, 26, 27, 28, 30] _ i63 := Ei_tr hEi hE1 (by decide)
                            have hEr : mEr [21, 22] _ r63 := Er_tr hEr hE2 (by decide)
                            have hr_62 : LD ((i 27).toInt.toNat) 0 i28 r28 i63 r63 ∧ ((0 : Int32).toInt ≠ 0 → topv i63 r63 ≠ 11 ∧ topv i63 r63 ≠ 12) := hr_62
                            have e23l : i63 23 = i28 23 := hE1 23 (by decide)
                            have e23m : (i63 23).toInt = (i28 23).toInt := congrArg Int32.toInt e23l
                            have hcl2 := CM_land hx28.1 hr_62.1 e23l (hRi 28).1
                            have hg23_i63 : 0 ≤ (i63 23).toInt ∧ (i63 23).toInt ≤ 200 := hRi 23
                            have hb_i63 := SS_200 hcl2.1 hRi
                            have hpn : 1 ≤ (i63 28).toInt := hcl2.2.2.1
                            refine lv_aload_n hx hb dX12_readsCondition_198 rfl (lv_at hl 0 rfl) ?_
                            refine lv_aload_n hx hb dX12_readsCondition_199 rfl (lv_at hl 0 rfl) ?_
                            refine vp_callSi (W.runV (As := []) (rest := [.ref (a 0)]) ⟨hx, hb, hml, hown, hT⟩ (c_X12_here l D cy a i63 r63 rl hRi hRr) (cwV 0 hT (gV t_254 t_255 t_256 t_257 t_6) rfl rfl rfl (by decide +kernel) ⟨Nat.le_of_ble_eq_true rfl, Nat.le_of_ble_eq_true rfl⟩) (rP_v hP hK (va_recv hK hP (ci := 12) (q0 := 0) rfl rfl)) rfl rfl hl.1 rfl (lv_room (Nat.le_of_ble_eq_true rfl)) dX12_readsCondition_200 ⟨Nat.le_of_ble_eq_true rfl, Nat.le_of_ble_eq_true rfl⟩) (fun r_64 hr_64 => ?_)
                            have hqr_64 : -1 ≤ r_64.toInt ∧ r_64.toInt ≤ 255 := by rw [hr_64]; exact mHere_rg _ _
                            have hwr_64 : r_64.toInt = (mHere i63 r63).toInt := congrArg Int32.toInt hr_64
                            refine lv_bipush (v := 38) hx hb dX12_readsCondition_203 (by decide) ?_
                            refine lv_icmp_ne (tgt := 213) hx hb dX12_readsCondition_205 (by decide) (fun c_65 => ?_) (fun c_65 => ?_)
                            · have c_65 : r_64.toInt ≠ 38 := b_ne c_65
                              refine lv_bipush (v := 12) hx hb dX12_readsCondition_213 (by decide) ?_
                              have hF_66 := rF hD hS hA
                              refine va_callv (va_runV (As := [.int 12]) (rest := []) ⟨hx, hb, hml, hown, hT⟩ (c_X12_jumps l D cy a i63 r63 rl 12 _ hRi hRr ((i 27).toInt.toNat) 0 hcl2.1 (by first | omega | decide) (by omega)) (cwV 1 hT (gV t_900 t_901 t_902 t_903 t_6) rfl rfl rfl (by decide +kernel) ⟨Nat.le_of_ble_eq_true rfl, Nat.le_of_ble_eq_true rfl⟩) (rQ_v hP hK hD (va_recv hK hP (ci := 12) (q0 := 0) rfl rfl)) rfl rfl hl.1 rfl (lv_room (Nat.le_of_ble_eq_true rfl)) dX12_readsCondition_215 ⟨Nat.le_of_ble_eq_true rfl, Nat.le_of_ble_eq_true rfl⟩) hS (fun q _ h => hF_66 q h) hF_66 (fun u_68 t H1 locs ht hvm hr_67 hB hz1 hk1 hS => ?_)
                              obtain ⟨i68, r68⟩ := u_68
                              obtain ⟨hP, hK1, hD1⟩ := hB
                              rw [ht] at hP
                              have hD := hD1.weaken (fun k q _ h => hF_66 q.1 h)
                              have hP : va_P D vwCl (mW cy a i68 r68 rl) H1 := hP
                              have hD : va_D A (mW cy a i68 r68 rl) := hD
                              obtain ⟨hRi, hRr, hE1, hE2, hr_67⟩ := hr_67
                              have hRi : mRi i68 := hRi
                              have hRr : mRr r68 := hRr
                              have hEi : mEi [23, 25, 26, 27, 28, 30] _ i68 := Ei_tr hEi hE1 (by decide)
                              have hEr : mEr [21, 22] _ r68 := Er_tr hEr hE2 (by decide)
                              have hr_67 : JP ((i 27).toInt.toNat) 0 i63 r63 i68 r68 := hr_67
                              refine lv_goto (tgt := 40) hx hb dX12_readsCondition_218 (by decide) ?_
                              exact ih7 i68 r68 _ _ _ (bk_lt hm7 (ch3 hy28.2 e23m hr_67.2.2.1) (show _ ≤ (200 : Int) from (hRi 23).2))  hRi hEi hRr hEr (CM_jump hcl2 hr_67) hP hD hS (lv_sub hl [0] rfl)
                            · have c_65 : r_64.toInt = 38 := b_nne c_65
                              refine lv_bipush (v := 11) hx hb dX12_readsCondition_208 (by decide) ?_
                              refine lv_goto (tgt := 215) hx hb dX12_readsCondition_210 (by decide) ?_
                              have hF_69 := rF hD hS hA
                              refine va_callv (va_runV (As := [.int 11]) (rest := []) ⟨hx, hb, hml, hown, hT⟩ (c_X12_jumps l D cy a i63 r63 rl 11 _ hRi hRr ((i 27).toInt.toNat) 0 hcl2.1 (by first | omega | decide) (by omega)) (cwV 1 hT (gV t_900 t_901 t_902 t_903 t_6) rfl rfl rfl (by decide +kernel) ⟨Nat.le_of_ble_eq_true rfl, Nat.le_of_ble_eq_true rfl⟩) (rQ_v hP hK hD (va_recv hK hP (ci := 12) (q0 := 0) rfl rfl)) rfl rfl hl.1 rfl (lv_room (Nat.le_of_ble_eq_true rfl)) dX12_readsCondition_215 ⟨Nat.le_of_ble_eq_true rfl, Nat.le_of_ble_eq_true rfl⟩) hS (fun q _ h => hF_69 q h) hF_69 (fun u_71 t H1 locs ht hvm hr_70 hB hz1 hk1 hS => ?_)
                              obtain ⟨i71, r71⟩ := u_71
                              obtain ⟨hP, hK1, hD1⟩ := hB
                              rw [ht] at hP
                              have hD := hD1.weaken (fun k q _ h => hF_69 q.1 h)
                              have hP : va_P D vwCl (mW cy a i71 r71 rl) H1 := hP
                              have hD : va_D A (mW cy a i71 r71 rl) := hD
                              obtain ⟨hRi, hRr, hE1, hE2, hr_70⟩ := hr_70
                              have hRi : mRi i71 := hRi
                              have hRr : mRr r71 := hRr
                              have hEi : mEi [23, 25, 26, 27, 28, 30] _ i71 := Ei_tr hEi hE1 (by decide)
                              have hEr : mEr [21, 22] _ r71 := Er_tr hEr hE2 (by decide)
                              have hr_70 : JP ((i 27).toInt.toNat) 0 i63 r63 i71 r71 := hr_70
                              refine lv_goto (tgt := 40) hx hb dX12_readsCondition_218 (by decide) ?_
                              exact ih7 i71 r71 _ _ _ (bk_lt hm7 (ch3 hy28.2 e23m hr_70.2.2.1) (show _ ≤ (200 : Int) from (hRi 23).2))  hRi hEi hRr hEr (CM_jump hcl2 hr_70) hP hD hS (lv_sub hl [0] rfl)
                          · have c_60 : r_59.toInt = 124 := b_nne c_60
                            refine lv_iconst (v := 1) hx hb dX12_readsCondition_190 (by decide) ?_
                            refine lv_goto (tgt := 195) hx hb dX12_readsCondition_191 (by decide) ?_
                            have hF_72 := rF hD hS hA
                            refine va_callv (va_runV (As := [.int 1]) (rest := []) ⟨hx, hb, hml, hown, hT⟩ (c_X12_lands l D cy a i28 r28 rl 1 _ hRi hRr ((i 27).toInt.toNat) 0 hx28.1.1) (cwV 1 hT (gV t_896 t_897 t_898 t_899 t_6) rfl rfl rfl (by decide +kernel) ⟨Nat.le_of_ble_eq_true rfl, Nat.le_of_ble_eq_true rfl⟩) (rQ_v hP hK hD (va_recv hK hP (ci := 12) (q0 := 0) rfl rfl)) rfl rfl hl.1 rfl (lv_room (Nat.le_of_ble_eq_true rfl)) dX12_readsCondition_195 ⟨Nat.le_of_ble_eq_true rfl, Nat.le_of_ble_eq_true rfl⟩) hS (fun q _ h => hF_72 q h) hF_72 (fun u_74 t H1 locs ht hvm hr_73 hB hz1 hk1 hS => ?_)
                            obtain ⟨i74, r74⟩ := u_74
                            obtain ⟨hP, hK1, hD1⟩ := hB
                            rw [ht] at hP
                            have hD := hD1.weaken (fun k q _ h => hF_72 q.1 h)
                            have hP : va_P D vwCl (mW cy a i74 r74 rl) H1 := hP
                            have hD : va_D A (mW cy a i74 r74 rl) := hD
                            obtain ⟨hRi, hRr, hE1, hE2, hr_73⟩ := hr_73
                            have hRi : mRi i74 := hRi
                            have hRr : mRr r74 := hRr
                            have hEi : mEi [23, 25, 26, 27, 28, 30] _ i74 := Ei_tr hEi hE1 (by decide)
                            have hEr : mEr [21, 22] _ r74 := Er_tr hEr hE2 (by decide)
                            have hr_73 : LD ((i 27).toInt.toNat) 0 i28 r28 i74 r74 ∧ ((1 : Int32).toInt ≠ 0 → topv i74 r74 ≠ 11 ∧ topv i74 r74 ≠ 12) := hr_73
                            have e23l : i74 23 = i28 23 := hE1 23 (by decide)
                            have e23m : (i74 23).toInt = (i28 23).toInt := congrArg Int32.toInt e23l
                            have hcl2 := CM_land hx28.1 hr_73.1 e23l (hRi 28).1
                            have hg23_i74 : 0 ≤ (i74 23).toInt ∧ (i74 23).toInt ≤ 200 := hRi 23
                            have hb_i74 := SS_200 hcl2.1 hRi
                            have hpn : 1 ≤ (i74 28).toInt := hcl2.2.2.1
                            refine lv_aload_n hx hb dX12_readsCondition_198 rfl (lv_at hl 0 rfl) ?_
                            refine lv_aload_n hx hb dX12_readsCondition_199 rfl (lv_at hl 0 rfl) ?_
                            refine vp_callSi (W.runV (As := []) (rest := [.ref (a 0)]) ⟨hx, hb, hml, hown, hT⟩ (c_X12_here l D cy a i74 r74 rl hRi hRr) (cwV 0 hT (gV t_254 t_255 t_256 t_257 t_6) rfl rfl rfl (by decide +kernel) ⟨Nat.le_of_ble_eq_true rfl, Nat.le_of_ble_eq_true rfl⟩) (rP_v hP hK (va_recv hK hP (ci := 12) (q0 := 0) rfl rfl)) rfl rfl hl.1 rfl (lv_room (Nat.le_of_ble_eq_true rfl)) dX12_readsCondition_200 ⟨Nat.le_of_ble_eq_true rfl, Nat.le_of_ble_eq_true rfl⟩) (fun r_75 hr_75 => ?_)
                            have hqr_75 : -1 ≤ r_75.toInt ∧ r_75.toInt ≤ 255 := by rw [hr_75]; exact mHere_rg _ _
                            have hwr_75 : r_75.toInt = (mHere i74 r74).toInt := congrArg Int32.toInt hr_75
                            refine lv_bipush (v := 38) hx hb dX12_readsCondition_203 (by decide) ?_
                            refine lv_icmp_ne (tgt := 213) hx hb dX12_readsCondition_205 (by decide) (fun c_76 => ?_) (fun c_76 => ?_)
                            · have c_76 : r_75.toInt ≠ 38 := b_ne c_76
                              refine lv_bipush (v := 12) hx hb dX12_readsCondition_213 (by decide) ?_
                              have hF_77 := rF hD hS hA
                              refine va_callv (va_runV (As := [.int 12]) (rest := []) ⟨hx, hb, hml, hown, hT⟩ (c_X12_jumps l D cy a i74 r74 rl 12 _ hRi hRr ((i 27).toInt.toNat) 0 hcl2.1 (by first | omega | decide) (by omega)) (cwV 1 hT (gV t_900 t_901 t_902 t_903 t_6) rfl rfl rfl (by decide +kernel) ⟨Nat.le_of_ble_eq_true rfl, Nat.le_of_ble_eq_true rfl⟩) (rQ_v hP hK hD (va_recv hK hP (ci := 12) (q0 := 0) rfl rfl)) rfl rfl hl.1 rfl (lv_room (Nat.le_of_ble_eq_true rfl)) dX12_readsCondition_215 ⟨Nat.le_of_ble_eq_true rfl, Nat.le_of_ble_eq_true rfl⟩) hS (fun q _ h => hF_77 q h) hF_77 (fun u_79 t H1 locs ht hvm hr_78 hB hz1 hk1 hS => ?_)
                              obtain ⟨i79, r79⟩ := u_79
                              obtain ⟨hP, hK1, hD1⟩ := hB
                              rw [ht] at hP
                              have hD := hD1.weaken (fun k q _ h => hF_77 q.1 h)
                              have hP : va_P D vwCl (mW cy a i79 r79 rl) H1 := hP
                              have hD : va_D A (mW cy a i79 r79 rl) := hD
                              obtain ⟨hRi, hRr, hE1, hE2, hr_78⟩ := hr_78
                              have hRi : mRi i79 := hRi
                              have hRr : mRr r79 := hRr
                              have hEi : mEi [23, 25, 26, 27, 28, 30] _ i79 := Ei_tr hEi hE1 (by decide)
                              have hEr : mEr [21, 22] _ r79 := Er_tr hEr hE2 (by decide)
                              have hr_78 : JP ((i 27).toInt.toNat) 0 i74 r74 i79 r79 := hr_78
                              refine lv_goto (tgt := 40) hx hb dX12_readsCondition_218 (by decide) ?_
                              exact ih7 i79 r79 _ _ _ (bk_lt hm7 (ch3 hy28.2 e23m hr_78.2.2.1) (show _ ≤ (200 : Int) from (hRi 23).2))  hRi hEi hRr hEr (CM_jump hcl2 hr_78) hP hD hS (lv_sub hl [0] rfl)
                            · have c_76 : r_75.toInt = 38 := b_nne c_76
                              refine lv_bipush (v := 11) hx hb dX12_readsCondition_208 (by decide) ?_
                              refine lv_goto (tgt := 215) hx hb dX12_readsCondition_210 (by decide) ?_
                              have hF_80 := rF hD hS hA
                              refine va_callv (va_runV (As := [.int 11]) (rest := []) ⟨hx, hb, hml, hown, hT⟩ (c_X12_jumps l D cy a i74 r74 rl 11 _ hRi hRr ((i 27).toInt.toNat) 0 hcl2.1 (by first | omega | decide) (by omega)) (cwV 1 hT (gV t_900 t_901 t_902 t_903 t_6) rfl rfl rfl (by decide +kernel) ⟨Nat.le_of_ble_eq_true rfl, Nat.le_of_ble_eq_true rfl⟩) (rQ_v hP hK hD (va_recv hK hP (ci := 12) (q0 := 0) rfl rfl)) rfl rfl hl.1 rfl (lv_room (Nat.le_of_ble_eq_true rfl)) dX12_readsCondition_215 ⟨Nat.le_of_ble_eq_true rfl, Nat.le_of_ble_eq_true rfl⟩) hS (fun q _ h => hF_80 q h) hF_80 (fun u_82 t H1 locs ht hvm hr_81 hB hz1 hk1 hS => ?_)
                              obtain ⟨i82, r82⟩ := u_82
                              obtain ⟨hP, hK1, hD1⟩ := hB
                              rw [ht] at hP
                              have hD := hD1.weaken (fun k q _ h => hF_80 q.1 h)
                              have hP : va_P D vwCl (mW cy a i82 r82 rl) H1 := hP
                              have hD : va_D A (mW cy a i82 r82 rl) := hD
                              obtain ⟨hRi, hRr, hE1, hE2, hr_81⟩ := hr_81
                              have hRi : mRi i82 := hRi
                              have hRr : mRr r82 := hRr
                              have hEi : mEi [23, 25, 26, 27, 28, 30] _ i82 := Ei_tr hEi hE1 (by decide)
                              have hEr : mEr [21, 22] _ r82 := Er_tr hEr hE2 (by decide)
                              have hr_81 : JP ((i 27).toInt.toNat) 0 i74 r74 i82 r82 := hr_81
                              refine lv_goto (tgt := 40) hx hb dX12_readsCondition_218 (by decide) ?_
                              exact ih7 i82 r82 _ _ _ (bk_lt hm7 (ch3 hy28.2 e23m hr_81.2.2.1) (show _ ≤ (200 : Int) from (hRi 23).2))  hRi hEi hRr hEr (CM_jump hcl2 hr_81) hP hD hS (lv_sub hl [0] rfl)
                        · have c_58 : r_57.toInt ≠ 124 := b_ne c_58
                          refine lv_aload_n hx hb dX12_readsCondition_170 rfl (lv_at hl 0 rfl) ?_
                          refine lv_iconst (v := 1) hx hb dX12_readsCondition_171 (by decide) ?_
                          refine lv_aload_n hx hb dX12_readsCondition_172 rfl (lv_at hl 0 rfl) ?_
                          refine va_get (D := D) (ci := 12) (v := .int (i28 23)) (C := RX12) (T := TX12) (N := 91) hx hb hT iX12 hown hK hP 0 rfl rfl 23 (by decide) (hT _ t_252) (fun _ h9 => h9) rfl dX12_readsCondition_173 ?_
                          have hg_83 : 0 ≤ (i28 23).toInt ∧ (i28 23).toInt ≤ 200 := hRi 23
                          have hF_84 := rF hD hS hA
                          refine va_calli (va_runV (As := [.int 1, .int (i28 23)]) (rest := []) ⟨hx, hb, hml, hown, hT⟩ (c_X12_wrongAt l D cy a i28 r28 rl 1 (i28 23) _ hRi hRr) (cwV 2 hT (gV t_259 t_260 t_261 t_262 t_6) rfl rfl rfl (by decide +kernel) ⟨Nat.le_of_ble_eq_true rfl, Nat.le_of_ble_eq_true rfl⟩) (rQ_v hP hK hD (va_recv hK hP (ci := 12) (q0 := 0) rfl rfl)) rfl rfl hl.1 rfl (lv_room (Nat.le_of_ble_eq_true rfl)) dX12_readsCondition_176 ⟨Nat.le_of_ble_eq_true rfl, Nat.le_of_ble_eq_true rfl⟩) hS (fun q _ h => hF_84 q h) hF_84 (fun r_85 u_86 t H1 locs ht hvm hr_85 hB hz1 hk1 hS => ?_)
                          obtain ⟨i86, r86⟩ := u_86
                          obtain ⟨hP, hK1, hD1⟩ := hB
                          rw [ht] at hP
                          have hD := hD1.weaken (fun k q _ h => hF_84 q.1 h)
                          have hP : va_P D vwCl (mW cy a i86 r86 rl) H1 := hP
                          have hD : va_D A (mW cy a i86 r86 rl) := hD
                          obtain ⟨hRi, hRr, hE1, hE2, hr_85⟩ := hr_85
                          have hRi : mRi i86 := hRi
                          have hRr : mRr r86 := hRr
                          have hEi : mEi [23, 25, 26, 27, 28, 30] _ i86 := Ei_tr hEi hE1 (by decide)
                          have hEr : mEr [21, 22] _ r86 := Er_tr hEr hE2 (by decide)
                          subst hr_85
                          subst hQ
                          exact W.zret hx hb hr rfl (fun t ht hW => ⟨⟨_, (i86, r86), rfl, ⟨hRi, hRr, hEi, hEr, (Or.inr rfl)⟩, by rw [ht]; exact hP, va_K.moved hW.alike hK, hD⟩, hS.F ht⟩) hS.2.2 dX12_readsCondition_179
                    · have c_30 : r_29.toInt = 41 := b_nne c_30
                      have hlt9 := mHere_lt (i := i28) (r := r28) (by omega)
                      refine lv_aload_n hx hb dX12_readsCondition_101 rfl (lv_at hl 0 rfl) ?_
                      refine lv_iconst (v := 1) hx hb dX12_readsCondition_102 (by decide) ?_
                      have hF_87 := rF hD hS hA
                      refine va_callv (va_runV (As := [.int 1]) (rest := []) ⟨hx, hb, hml, hown, hT⟩ (c_X12_lands l D cy a i28 r28 rl 1 _ hRi hRr ((i 27).toInt.toNat) 0 hx28.1.1) (cwV 1 hT (gV t_896 t_897 t_898 t_899 t_6) rfl rfl rfl (by decide +kernel) ⟨Nat.le_of_ble_eq_true rfl, Nat.le_of_ble_eq_true rfl⟩) (rQ_v hP hK hD (va_recv hK hP (ci := 12) (q0 := 0) rfl rfl)) rfl rfl hl.1 rfl (lv_room (Nat.le_of_ble_eq_true rfl)) dX12_readsCondition_103 ⟨Nat.le_of_ble_eq_true rfl, Nat.le_of_ble_eq_true rfl⟩) hS (fun q _ h => hF_87 q h) hF_87 (fun u_89 t H1 locs ht hvm hr_88 hB hz1 hk1 hS => ?_)
                      obtain ⟨i89, r89⟩ := u_89
                      obtain ⟨hP, hK1, hD1⟩ := hB
                      rw [ht] at hP
                      have hD := hD1.weaken (fun k q _ h => hF_87 q.1 h)
                      have hP : va_P D vwCl (mW cy a i89 r89 rl) H1 := hP
                      have hD : va_D A (mW cy a i89 r89 rl) := hD
                      obtain ⟨hRi, hRr, hE1, hE2, hr_88⟩ := hr_88
                      have hRi : mRi i89 := hRi
                      have hRr : mRr r89 := hRr
                      have hEi : mEi [23, 25, 26, 27, 28, 30] _ i89 := Ei_tr hEi hE1 (by decide)
                      have hEr : mEr [21, 22] _ r89 := Er_tr hEr hE2 (by decide)
                      have hr_88 : LD ((i 27).toInt.toNat) 0 i28 r28 i89 r89 ∧ ((1 : Int32).toInt ≠ 0 → topv i89 r89 ≠ 11 ∧ topv i89 r89 ≠ 12) := hr_88
                      have e23l : i89 23 = i28 23 := hE1 23 (by decide)
                      have e23m : (i89 23).toInt = (i28 23).toInt := congrArg Int32.toInt e23l
                      have hcl := CM_land hx28.1 hr_88.1 e23l (hRi 28).1
                      have hg23_i89 : 0 ≤ (i89 23).toInt ∧ (i89 23).toInt ≤ 200 := hRi 23
                      have hb_i89 := SS_200 hcl.1 hRi
                      have hpn : 1 ≤ (i89 28).toInt := hcl.2.2.1
                      refine lv_aload_n hx hb dX12_readsCondition_106 rfl (lv_at hl 0 rfl) ?_
                      refine lv_aload_n hx hb dX12_readsCondition_107 rfl (lv_at hl 0 rfl) ?_
                      refine va_get (D := D) (ci := 12) (v := .int (i89 28)) (C := RX12) (T := TX12) (N := 91) hx hb hT iX12 hown hK hP 0 rfl rfl 28 (by decide) (hT _ t_849) (fun _ h9 => h9) rfl dX12_readsCondition_108 ?_
                      have hg_90 : 0 ≤ (i89 28).toInt ∧ (i89 28).toInt ≤ 220 := hRi 28
                      refine lv_iconst (v := 1) hx hb dX12_readsCondition_111 (by decide) ?_
                      refine lv_isub hx hb dX12_readsCondition_112 ?_
                      refine lv_topi (fun v_91 ev_91 => ?_)
                      have hv_91 : v_91.toInt = (i89 28).toInt - 1 := by rw [ev_91]; have := b_rg (i89 28); exact i_sub (a := (i89 28).toInt) (b := 1) rfl rfl (by omega) (by omega)
                      refine va_put (D := D) (ci := 12) (v := .int v_91) (ty := .int) (C := RX12) (T := TX12) (N := 91) hx hb hT iX12 tyX12 tyX12_ok nmX12 hown hK hP hD hS 0 rfl rfl 28 (by decide) (hT _ t_849) (fun _ h9 => h9) rfl (by decide +kernel) rfl rfl (Nat.le_of_ble_eq_true rfl) dX12_readsCondition_113 (fun H locs hP hD hS => ?_)
                      rw [mP28] at hP hD
                      have hRi := Ri_upd hRi 28 v_91 ⟨by show (0 : Int) ≤ v_91.toInt; omega, by show v_91.toInt ≤ (220 : Int); omega⟩
                      have hEi := Ei_upd hEi 28 v_91 (by decide)
                      refine lv_aload_n hx hb dX12_readsCondition_116 rfl (lv_at hl 0 rfl) ?_
                      refine lv_aload_n hx hb dX12_readsCondition_117 rfl (lv_at hl 0 rfl) ?_
                      refine va_get (D := D) (ci := 12) (v := .int (i89 26)) (C := RX12) (T := TX12) (N := 91) hx hb hT iX12 hown hK hP 0 rfl rfl 26 (by decide) (hT _ t_848) (fun _ h9 => h9) rfl dX12_readsCondition_118 ?_
                      refine lv_iconst (v := 1) hx hb dX12_readsCondition_121 (by decide) ?_
                      refine lv_isub hx hb dX12_readsCondition_122 ?_
                      refine lv_topi (fun v_92 ev_92 => ?_)
                      refine va_put (D := D) (ci := 12) (v := .int v_92) (ty := .int) (C := RX12) (T := TX12) (N := 91) hx hb hT iX12 tyX12 tyX12_ok nmX12 hown hK hP hD hS 0 rfl rfl 26 (by decide) (hT _ t_848) (fun _ h9 => h9) rfl (by decide +kernel) rfl rfl (Nat.le_of_ble_eq_true rfl) dX12_readsCondition_123 (fun H locs hP hD hS => ?_)
                      rw [mP26] at hP hD
                      have hRi := Ri_upd hRi 26 v_92 (b_rg _)
                      have hEi := Ei_upd hEi 26 v_92 (by decide)
                      refine lv_aload_n hx hb dX12_readsCondition_126 rfl (lv_at hl 0 rfl) ?_
                      refine lv_aload_n hx hb dX12_readsCondition_127 rfl (lv_at hl 0 rfl) ?_
                      refine va_get (D := D) (ci := 12) (v := .int (i89 23)) (C := RX12) (T := TX12) (N := 91) hx hb hT iX12 hown hK hP 0 rfl rfl 23 (by decide) (hT _ t_252) (fun _ h9 => h9) rfl dX12_readsCondition_128 ?_
                      have hg_93 : 0 ≤ (i89 23).toInt ∧ (i89 23).toInt ≤ 200 := hRi 23
                      refine lv_iconst (v := 1) hx hb dX12_readsCondition_131 (by decide) ?_
                      refine lv_iadd hx hb dX12_readsCondition_132 ?_
                      refine lv_topi (fun v_94 ev_94 => ?_)
                      have hv_94 : v_94.toInt = (i89 23).toInt + 1 := by rw [ev_94]; have := b_rg (i89 23); exact i_add (a := (i89 23).toInt) (b := 1) rfl rfl (by omega) (by omega)
                      refine va_put (D := D) (ci := 12) (v := .int v_94) (ty := .int) (C := RX12) (T := TX12) (N := 91) hx hb hT iX12 tyX12 tyX12_ok nmX12 hown hK hP hD hS 0 rfl rfl 23 (by decide) (hT _ t_252) (fun _ h9 => h9) rfl (by decide +kernel) rfl rfl (Nat.le_of_ble_eq_true rfl) dX12_readsCondition_133 (fun H locs hP hD hS => ?_)
                      rw [mP23] at hP hD
                      have hRi := Ri_upd hRi 23 v_94 ⟨by show (0 : Int) ≤ v_94.toInt; omega, by show v_94.toInt ≤ (200 : Int); omega⟩
                      have hEi := Ei_upd hEi 23 v_94 (by decide)
                      refine lv_aload_n hx hb dX12_readsCondition_136 rfl (lv_at hl 0 rfl) ?_
                      have hpp : SS ((i 27).toInt.toNat) 1 0 (upd (upd (upd i89 28 v_91) 26 v_92) 23 v_94) r89 ∧ (i 23).toInt < ((upd (upd (upd i89 28 v_91) 26 v_92) 23 v_94) 23).toInt ∧ low ((i 27).toInt.toNat) r r89 ∧ (((upd (upd (upd i89 28 v_91) 26 v_92) 23 v_94) 28).toInt ≠ 0 → CM ((i 27).toInt.toNat) 1 i r (upd (upd (upd i89 28 v_91) 26 v_92) 23 v_94) r89) := CM_pop hcl (hr_88.2 (by decide)) rfl (by show v_91.toInt = _; omega) (by show v_94.toInt = _; omega) rfl rfl (by omega)
                      refine va_get (D := D) (ci := 12) (v := .int v_91) (C := RX12) (T := TX12) (N := 91) hx hb hT iX12 hown hK hP 0 rfl rfl 28 (by decide) (hT _ t_849) (fun _ h9 => h9) rfl dX12_readsCondition_137 ?_
                      refine lv_if_ne (tgt := 145) hx hb dX12_readsCondition_140 (by decide) (fun c_95 => ?_) (fun c_95 => ?_)
                      · have c_95 : v_91.toInt ≠ 0 := b_ne c_95
                        refine lv_aload_n hx hb dX12_readsCondition_145 rfl (lv_at hl 0 rfl) ?_
                        have hcq := hpp.2.2.2 (by show v_91.toInt ≠ 0; omega)
                        have hF_96 := rF hD hS hA
                        refine va_callv (va_runV (As := []) (rest := []) ⟨hx, hb, hml, hown, hT⟩ (c_X12_endsPiece l D cy a (upd (upd (upd i89 28 v_91) 26 v_92) 23 v_94) r89 rl _ hRi hRr ((i 27).toInt.toNat) 0 hcq.1) (cwV 0 hT (gV t_888 t_889 t_890 t_891 t_6) rfl rfl rfl (by decide +kernel) ⟨Nat.le_of_ble_eq_true rfl, Nat.le_of_ble_eq_true rfl⟩) (rQ_v hP hK hD (va_recv hK hP (ci := 12) (q0 := 0) rfl rfl)) rfl rfl hl.1 rfl (lv_room (Nat.le_of_ble_eq_true rfl)) dX12_readsCondition_146 ⟨Nat.le_of_ble_eq_true rfl, Nat.le_of_ble_eq_true rfl⟩) hS (fun q _ h => hF_96 q h) hF_96 (fun u_98 t H1 locs ht hvm hr_97 hB hz1 hk1 hS => ?_)
                        obtain ⟨i98, r98⟩ := u_98
                        obtain ⟨hP, hK1, hD1⟩ := hB
                        rw [ht] at hP
                        have hD := hD1.weaken (fun k q _ h => hF_96 q.1 h)
                        have hP : va_P D vwCl (mW cy a i98 r98 rl) H1 := hP
                        have hD : va_D A (mW cy a i98 r98 rl) := hD
                        obtain ⟨hRi, hRr, hE1, hE2, hr_97⟩ := hr_97
                        have hRi : mRi i98 := hRi
                        have hRr : mRr r98 := hRr
                        have hEi : mEi [23, 25, 26, 27, 28, 30] _ i98 := Ei_tr hEi hE1 (by decide)
                        have hEr : mEr [21, 22] _ r98 := Er_tr hEr hE2 (by decide)
                        have hr_97 : EP ((i 27).toInt.toNat) 0 (upd (upd (upd i89 28 v_91) 26 v_92) 23 v_94) r89 i98 r98 := hr_97
                        refine lv_goto (tgt := 92) hx hb dX12_readsCondition_149 (by decide) ?_
                        have e23e : i98 23 = (upd (upd (upd i89 28 v_91) 26 v_92) 23 v_94) 23 := hE1 23 (by decide)
                        have e23f : (i98 23).toInt = v_94.toInt := congrArg Int32.toInt e23e
                        exact ih28 i98 r98 _ _ _ (bk_lt hm28 (ch4 e23m hv_94 e23f) (show _ ≤ (200 : Int) from (hRi 23).2))  hRi hEi hRr hEr ⟨CM_ep hcq hr_97 e23e (hRi 28).1, ch5 hy28.2 e23m hv_94 e23f⟩ hP hD hS (lv_sub hl [0] rfl)
                      · have c_95 : v_91.toInt = 0 := b_nne c_95
                        refine lv_iconst (v := 1) hx hb dX12_readsCondition_143 (by decide) ?_
                        subst hQ
                        have hj : RD i r 1 (upd (upd (upd i89 28 v_91) 26 v_92) 23 v_94) r89 := RD_of hpp.1 (by show v_91.toInt = 0; omega) hpp.2.1 hpp.2.2.1 (by show v_94.toInt ≤ 200; omega)
                        exact W.zret hx hb hr rfl (fun t ht hW => ⟨⟨_, (upd (upd (upd i89 28 v_91) 26 v_92) 23 v_94, r89), rfl, ⟨hRi, hRr, hEi, hEr, hj⟩, by rw [ht]; exact hP, va_K.moved hW.alike hK, hD⟩, hS.F ht⟩) hS.2.2 dX12_readsCondition_144
                exact loop_28 _ i26 r26 _ _ _ (Nat.lt_succ_self _)  hRi hEi hRr hEr ⟨CM_cmp hx7 hrc25 (hRi 28).1, hrc25.2.1⟩ hP hD hS hl
              · skip
                refine lv_if_ne (tgt := 92) hx hb dX12_readsCondition_87 (by decide) (fun c_99 => absurd (by decide) c_99) (fun c_99 => ?_)
                refine lv_iconst (v := 0) hx hb dX12_readsCondition_90 (by decide) ?_
                subst hQ
                exact W.zret hx hb hr rfl (fun t ht hW => ⟨⟨_, (i26, r26), rfl, ⟨hRi, hRr, hEi, hEr, (Or.inr rfl)⟩, by rw [ht]; exact hP, va_K.moved hW.alike hK, hD⟩, hS.F ht⟩) hS.2.2 dX12_readsCondition_91
            · have c_23 : r_22.toInt = 40 := b_nne c_23
              refine lv_aload_n hx hb dX12_readsCondition_58 rfl (lv_at hl 0 rfl) ?_
              have hlt9 := mHere_lt (i := i7) (r := r7) (by omega)
              refine lv_aload_n hx hb dX12_readsCondition_59 rfl (lv_at hl 0 rfl) ?_
              refine vp_callSi (W.runV (As := []) (rest := [.ref (a 0)]) ⟨hx, hb, hml, hown, hT⟩ (c_X12_here l D cy a i7 r7 rl hRi hRr) (cwV 0 hT (gV t_254 t_255 t_256 t_257 t_6) rfl rfl rfl (by decide +kernel) ⟨Nat.le_of_ble_eq_true rfl, Nat.le_of_ble_eq_true rfl⟩) (rP_v hP hK (va_recv hK hP (ci := 12) (q0 := 0) rfl rfl)) rfl rfl hl.1 rfl (lv_room (Nat.le_of_ble_eq_true rfl)) dX12_readsCondition_60 ⟨Nat.le_of_ble_eq_true rfl, Nat.le_of_ble_eq_true rfl⟩) (fun r_100 hr_100 => ?_)
              have hqr_100 : -1 ≤ r_100.toInt ∧ r_100.toInt ≤ 255 := by rw [hr_100]; exact mHere_rg _ _
              have hwr_100 : r_100.toInt = (mHere i7 r7).toInt := congrArg Int32.toInt hr_100
              refine lv_bipush (v := 33) hx hb dX12_readsCondition_63 (by decide) ?_
              refine lv_icmp_ne (tgt := 73) hx hb dX12_readsCondition_65 (by decide) (fun c_101 => ?_) (fun c_101 => ?_)
              · have c_101 : r_100.toInt ≠ 33 := b_ne c_101
                refine lv_bipush (v := 13) hx hb dX12_readsCondition_73 (by decide) ?_
                have hF_102 := rF hD hS hA
                refine va_calli (va_runV (As := [.int 13]) (rest := []) ⟨hx, hb, hml, hown, hT⟩ (c_X12_opens l D cy a i7 r7 rl 13 _ hRi hRr (by first | omega | decide) (by show ((i7 23).toInt : Int) < 200; omega) (by show ((i7 28).toInt : Int) ≤ 200; omega)) (cwV 1 hT (gV t_865 t_866 t_867 t_868 t_6) rfl rfl rfl (by decide +kernel) ⟨Nat.le_of_ble_eq_true rfl, Nat.le_of_ble_eq_true rfl⟩) (rQ_v hP hK hD (va_recv hK hP (ci := 12) (q0 := 0) rfl rfl)) rfl rfl hl.1 rfl (lv_room (Nat.le_of_ble_eq_true rfl)) dX12_readsCondition_75 ⟨Nat.le_of_ble_eq_true rfl, Nat.le_of_ble_eq_true rfl⟩) hS (fun q _ h => hF_102 q h) hF_102 (fun r_103 u_104 t H1 locs ht hvm hr_103 hB hz1 hk1 hS => ?_)
                obtain ⟨i104, r104⟩ := u_104
                obtain ⟨hP, hK1, hD1⟩ := hB
                rw [ht] at hP
                have hD := hD1.weaken (fun k q _ h => hF_102 q.1 h)
                have hP : va_P D vwCl (mW cy a i104 r104 rl) H1 := hP
                have hD : va_D A (mW cy a i104 r104 rl) := hD
                obtain ⟨hRi, hRr, hE1, hE2, hr_103⟩ := hr_103
                have hRi : mRi i104 := hRi
                have hRr : mRr r104 := hRr
                have hEi : mEi [23, 25, 26, 27, 28, 30] _ i104 := Ei_tr hEi hE1 (by decide)
                have hEr : mEr [21, 22] _ r104 := Er_tr hEr hE2 (by decide)
                rcases hr_103 with ⟨rfl, ho28_103, ho23_103, x103, hx103, hr103⟩ | rfl
                · have ho28_103 : (i104 28).toInt = (i7 28).toInt + 1 := ho28_103
                  have ho23_103 : (i104 23).toInt = (i7 23).toInt + 1 := ho23_103
                  have hx103 : x103.toInt = 1048576 * 13 := hx103
                  have hr103 : r104 22 = upd (r7 22) (i7 28).toInt.toNat x103 := hr103
                  have e27_103 : i104 27 = i7 27 := hE1 27 (by decide)
                  have e32_103 : r104 21 = r7 21 := hE2 21 (by decide)
                  refine lv_if_ne (tgt := 40) hx hb dX12_readsCondition_78 (by decide) (fun c_105 => ?_) (fun c_105 => absurd c_105 (by decide))
                  exact ih7 i104 r104 _ _ _ (bk_lt hm7 (ch1 ho23_103) (show _ ≤ (200 : Int) from (hRi 23).2))  hRi hEi hRr hEr (CM_open (o := 13) hx7 hx103 (by decide) ho28_103 ho23_103 e27_103 e32_103 hr103 (by omega)) hP hD hS (lv_sub hl [0] rfl)
                · skip
                  refine lv_if_ne (tgt := 40) hx hb dX12_readsCondition_78 (by decide) (fun c_106 => absurd (by decide) c_106) (fun c_106 => ?_)
                  refine lv_iconst (v := 0) hx hb dX12_readsCondition_81 (by decide) ?_
                  subst hQ
                  exact W.zret hx hb hr rfl (fun t ht hW => ⟨⟨_, (i104, r104), rfl, ⟨hRi, hRr, hEi, hEr, (Or.inr rfl)⟩, by rw [ht]; exact hP, va_K.moved hW.alike hK, hD⟩, hS.F ht⟩) hS.2.2 dX12_readsCondition_82
              · have c_101 : r_100.toInt = 33 := b_nne c_101
                refine lv_bipush (v := 10) hx hb dX12_readsCondition_68 (by decide) ?_
                refine lv_goto (tgt := 75) hx hb dX12_readsCondition_70 (by decide) ?_
                have hF_107 := rF hD hS hA
                refine va_calli (va_runV (As := [.int 10]) (rest := []) ⟨hx, hb, hml, hown, hT⟩ (c_X12_opens l D cy a i7 r7 rl 10 _ hRi hRr (by first | omega | decide) (by show ((i7 23).toInt : Int) < 200; omega) (by show ((i7 28).toInt : Int) ≤ 200; omega)) (cwV 1 hT (gV t_865 t_866 t_867 t_868 t_6) rfl rfl rfl (by decide +kernel) ⟨Nat.le_of_ble_eq_true rfl, Nat.le_of_ble_eq_true rfl⟩) (rQ_v hP hK hD (va_recv hK hP (ci := 12) (q0 := 0) rfl rfl)) rfl rfl hl.1 rfl (lv_room (Nat.le_of_ble_eq_true rfl)) dX12_readsCondition_75 ⟨Nat.le_of_ble_eq_true rfl, Nat.le_of_ble_eq_true rfl⟩) hS (fun q _ h => hF_107 q h) hF_107 (fun r_108 u_109 t H1 locs ht hvm hr_108 hB hz1 hk1 hS => ?_)
                obtain ⟨i109, r109⟩ := u_109
                obtain ⟨hP, hK1, hD1⟩ := hB
                rw [ht] at hP
                have hD := hD1.weaken (fun k q _ h => hF_107 q.1 h)
                have hP : va_P D vwCl (mW cy a i109 r109 rl) H1 := hP
                have hD : va_D A (mW cy a i109 r109 rl) := hD
                obtain ⟨hRi, hRr, hE1, hE2, hr_108⟩ := hr_108
                have hRi : mRi i109 := hRi
                have hRr : mRr r109 := hRr
                have hEi : mEi [23, 25, 26, 27, 28, 30] _ i109 := Ei_tr hEi hE1 (by decide)
                have hEr : mEr [21, 22] _ r109 := Er_tr hEr hE2 (by decide)
                rcases hr_108 with ⟨rfl, ho28_108, ho23_108, x108, hx108, hr108⟩ | rfl
                · have ho28_108 : (i109 28).toInt = (i7 28).toInt + 1 := ho28_108
                  have ho23_108 : (i109 23).toInt = (i7 23).toInt + 1 := ho23_108
                  have hx108 : x108.toInt = 1048576 * 10 := hx108
                  have hr108 : r109 22 = upd (r7 22) (i7 28).toInt.toNat x108 := hr108
                  have e27_108 : i109 27 = i7 27 := hE1 27 (by decide)
                  have e32_108 : r109 21 = r7 21 := hE2 21 (by decide)
                  refine lv_if_ne (tgt := 40) hx hb dX12_readsCondition_78 (by decide) (fun c_110 => ?_) (fun c_110 => absurd c_110 (by decide))
                  exact ih7 i109 r109 _ _ _ (bk_lt hm7 (ch1 ho23_108) (show _ ≤ (200 : Int) from (hRi 23).2))  hRi hEi hRr hEr (CM_open (o := 10) hx7 hx108 (by decide) ho28_108 ho23_108 e27_108 e32_108 hr108 (by omega)) hP hD hS (lv_sub hl [0] rfl)
                · skip
                  refine lv_if_ne (tgt := 40) hx hb dX12_readsCondition_78 (by decide) (fun c_111 => absurd (by decide) c_111) (fun c_111 => ?_)
                  refine lv_iconst (v := 0) hx hb dX12_readsCondition_81 (by decide) ?_
                  subst hQ
                  exact W.zret hx hb hr rfl (fun t ht hW => ⟨⟨_, (i109, r109), rfl, ⟨hRi, hRr, hEi, hEr, (Or.inr rfl)⟩, by rw [ht]; exact hP, va_K.moved hW.alike hK, hD⟩, hS.F ht⟩) hS.2.2 dX12_readsCondition_82
      exact loop_7 _ i5 r5 _ _ _ (Nat.lt_succ_self _)  hRi hEi hRr hEr (CM_start (I := (upd (upd i 26 0) 28 0)) (R := r) (x := x4) rfl rfl hN hx4 ho28_4 ho23_4 e27_4 e32_4 hr4 (by show 0 ≤ (i 23).toInt; omega) rfl rfl) hP hD hS hl
    · skip
      refine lv_if_ne (tgt := 40) hx hb dX12_readsCondition_35 (by decide) (fun c_112 => absurd (by decide) c_112) (fun c_112 => ?_)
      refine lv_iconst (v := 0) hx hb dX12_readsCondition_38 (by decide) ?_
      subst hQ
      exact W.zret hx hb hr rfl (fun t ht hW => ⟨⟨_, (i5, r5), rfl, ⟨hRi, hRr, hEi, hEr, (Or.inr rfl)⟩, by rw [ht]; exact hP, va_K.moved hW.alike hK, hD⟩, hS.F ht⟩) hS.2.2 dX12_readsCondition_39
  · have c_2 : r_1.toInt ≠ 40 := b_ne c_2
    refine lv_aload_n hx hb dX12_readsCondition_9 rfl (lv_at hl 0 rfl) ?_
    refine lv_iconst (v := 1) hx hb dX12_readsCondition_10 (by decide) ?_
    refine lv_aload_n hx hb dX12_readsCondition_11 rfl (lv_at hl 0 rfl) ?_
    refine va_get (D := D) (ci := 12) (v := .int (i 23)) (C := RX12) (T := TX12) (N := 91) hx hb hT iX12 hown hK hP 0 rfl rfl 23 (by decide) (hT _ t_252) (fun _ h9 => h9) rfl dX12_readsCondition_12 ?_
    have hg_113 : 0 ≤ (i 23).toInt ∧ (i 23).toInt ≤ 200 := hRi 23
    have hF_114 := rF hD hS hA
    refine va_calli (va_runV (As := [.int 1, .int (i 23)]) (rest := []) ⟨hx, hb, hml, hown, hT⟩ (c_X12_wrongAt l D cy a i r rl 1 (i 23) _ hRi hRr) (cwV 2 hT (gV t_259 t_260 t_261 t_262 t_6) rfl rfl rfl (by decide +kernel) ⟨Nat.le_of_ble_eq_true rfl, Nat.le_of_ble_eq_true rfl⟩) (rQ_v hP hK hD (va_recv hK hP (ci := 12) (q0 := 0) rfl rfl)) rfl rfl hl.1 rfl (lv_room (Nat.le_of_ble_eq_true rfl)) dX12_readsCondition_15 ⟨Nat.le_of_ble_eq_true rfl, Nat.le_of_ble_eq_true rfl⟩) hS (fun q _ h => hF_114 q h) hF_114 (fun r_115 u_116 t H1 locs ht hvm hr_115 hB hz1 hk1 hS => ?_)
    obtain ⟨i116, r116⟩ := u_116
    obtain ⟨hP, hK1, hD1⟩ := hB
    rw [ht] at hP
    have hD := hD1.weaken (fun k q _ h => hF_114 q.1 h)
    have hP : va_P D vwCl (mW cy a i116 r116 rl) H1 := hP
    have hD : va_D A (mW cy a i116 r116 rl) := hD
    obtain ⟨hRi, hRr, hE1, hE2, hr_115⟩ := hr_115
    have hRi : mRi i116 := hRi
    have hRr : mRr r116 := hRr
    have hEi : mEi [23, 25, 26, 27, 28, 30] _ i116 := Ei_tr hEi hE1 (by decide)
    have hEr : mEr [21, 22] _ r116 := Er_tr hEr hE2 (by decide)
    subst hr_115
    subst hQ
    exact W.zret hx hb hr rfl (fun t ht hW => ⟨⟨_, (i116, r116), rfl, ⟨hRi, hRr, hEi, hEr, (Or.inr rfl)⟩, by rw [ht]; exact hP, va_K.moved hW.alike hK, hD⟩, hS.F ht⟩) hS.2.2 dX12_readsCondition_18
