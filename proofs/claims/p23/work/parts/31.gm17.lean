set_option maxRecDepth 100000 in
theorem t_842 : Cond.fieldLink RX12 279 "DepositJudgeModel" "number0" "I" ∈ gT := tm (tb4 (List.mem_of_getElem? (i := 227) (by rfl))) (by decide +kernel)
set_option maxRecDepth 100000 in
theorem t_843 : Cond.code yX12_isDigit cX12_isDigit 1 (some .boolean) ∈ gT := tm (tb6 (List.mem_of_getElem? (i := 78) (by rfl))) (by decide +kernel)
set_option maxRecDepth 100000 in
theorem t_844 : Cond.methodLink RX12 282 yX12_isDigit ∈ gT := tm (tb6 (List.mem_of_getElem? (i := 75) (by rfl))) (by decide +kernel)
set_option maxRecDepth 100000 in
theorem t_845 : Cond.instanceMethod yX12_isDigit ∈ gT := tm (tb6 (List.mem_of_getElem? (i := 77) (by rfl))) (by decide +kernel)
theorem t_846 : Cond.selects RX12 yX12_isDigit yX12_isDigit ∈ gT := tmp (List.mem_of_getElem? (i := 40) (by decide +kernel)) (by decide +kernel)
set_option maxRecDepth 100000 in
theorem t_847 : Cond.fieldLink RX12 286 "DepositJudgeModel" "codeMany" "I" ∈ gT := tm (tb4 (List.mem_of_getElem? (i := 224) (by rfl))) (by decide +kernel)
set_option maxRecDepth 100000 in
theorem t_848 : Cond.fieldLink RX12 290 "DepositJudgeModel" "open" "I" ∈ gT := tm (tb4 (List.mem_of_getElem? (i := 223) (by rfl))) (by decide +kernel)
set_option maxRecDepth 100000 in
theorem t_849 : Cond.fieldLink RX12 293 "DepositJudgeModel" "waiting" "I" ∈ gT := tm (tb4 (List.mem_of_getElem? (i := 225) (by rfl))) (by decide +kernel)
def dl_500 : List (Nat × (Instr × Nat)) := [(0, (.iload_n 1, 1)), (1, (.istore_n 2, 1)), (2, (.iload_n 2, 1)), (3, (.aload_n 0, 1)), (4, (.getfield 293, 3)), (7, (.if_icmp .ge 26, 3)), (10, (.aload_n 0, 1)), (11, (.getfield 75, 3)), (14, (.iload_n 2, 1)), (15, (.iaload, 1)), (16, (.ldc_w 289, 3)), (19, (.idiv, 1)), (20, (.bipush 14, 2)), (22, (.if_icmp .ne 5, 3)), (25, (.iconst 1, 1)), (26, (.ireturn, 1)), (27, (.iinc 2 1, 3)), (30, (.goto (-28), 3)), (33, (.iconst 0, 1)), (34, (.ireturn, 1))]
theorem dh_500 : dchk cX12_hasOpenSum dl_500 = true := by decide +kernel
theorem dX12_hasOpenSum_0 : decode cX12_hasOpenSum 0 = .ok (.iload_n 1, 1) := dget dh_500 (k := 0) rfl
theorem dX12_hasOpenSum_1 : decode cX12_hasOpenSum 1 = .ok (.istore_n 2, 1) := dget dh_500 (k := 1) rfl
theorem dX12_hasOpenSum_2 : decode cX12_hasOpenSum 2 = .ok (.iload_n 2, 1) := dget dh_500 (k := 2) rfl
theorem dX12_hasOpenSum_3 : decode cX12_hasOpenSum 3 = .ok (.aload_n 0, 1) := dget dh_500 (k := 3) rfl
theorem dX12_hasOpenSum_4 : decode cX12_hasOpenSum 4 = .ok (.getfield 293, 3) := dget dh_500 (k := 4) rfl
theorem dX12_hasOpenSum_7 : decode cX12_hasOpenSum 7 = .ok (.if_icmp .ge 26, 3) := dget dh_500 (k := 5) rfl
theorem dX12_hasOpenSum_10 : decode cX12_hasOpenSum 10 = .ok (.aload_n 0, 1) := dget dh_500 (k := 6) rfl
theorem dX12_hasOpenSum_11 : decode cX12_hasOpenSum 11 = .ok (.getfield 75, 3) := dget dh_500 (k := 7) rfl
theorem dX12_hasOpenSum_14 : decode cX12_hasOpenSum 14 = .ok (.iload_n 2, 1) := dget dh_500 (k := 8) rfl
theorem dX12_hasOpenSum_15 : decode cX12_hasOpenSum 15 = .ok (.iaload, 1) := dget dh_500 (k := 9) rfl
theorem dX12_hasOpenSum_16 : decode cX12_hasOpenSum 16 = .ok (.ldc_w 289, 3) := dget dh_500 (k := 10) rfl
theorem dX12_hasOpenSum_19 : decode cX12_hasOpenSum 19 = .ok (.idiv, 1) := dget dh_500 (k := 11) rfl
theorem dX12_hasOpenSum_20 : decode cX12_hasOpenSum 20 = .ok (.bipush 14, 2) := dget dh_500 (k := 12) rfl
theorem dX12_hasOpenSum_22 : decode cX12_hasOpenSum 22 = .ok (.if_icmp .ne 5, 3) := dget dh_500 (k := 13) rfl
theorem dX12_hasOpenSum_25 : decode cX12_hasOpenSum 25 = .ok (.iconst 1, 1) := dget dh_500 (k := 14) rfl
theorem dX12_hasOpenSum_26 : decode cX12_hasOpenSum 26 = .ok (.ireturn, 1) := dget dh_500 (k := 15) rfl
theorem dX12_hasOpenSum_27 : decode cX12_hasOpenSum 27 = .ok (.iinc 2 1, 3) := dget dh_500 (k := 16) rfl
theorem dX12_hasOpenSum_30 : decode cX12_hasOpenSum 30 = .ok (.goto (-28), 3) := dget dh_500 (k := 17) rfl
theorem dX12_hasOpenSum_33 : decode cX12_hasOpenSum 33 = .ok (.iconst 0, 1) := dget dh_500 (k := 18) rfl
theorem dX12_hasOpenSum_34 : decode cX12_hasOpenSum 34 = .ok (.ireturn, 1) := dget dh_500 (k := 19) rfl
def dl_501 : List (Nat × (Instr × Nat)) := [(0, (.aload_n 0, 1)), (1, (.getfield 72, 3)), (4, (.aload_n 0, 1)), (5, (.getfield 286, 3)), (8, (.ldc_w 289, 3)), (11, (.iload_n 1, 1)), (12, (.imul, 1)), (13, (.iload_n 2, 1)), (14, (.iadd, 1)), (15, (.iastore, 1)), (16, (.aload_n 0, 1)), (17, (.aload_n 0, 1)), (18, (.getfield 286, 3)), (21, (.iconst 1, 1)), (22, (.iadd, 1)), (23, (.putfield 286, 3)), (26, (.return_, 1))]
theorem dh_501 : dchk cX12_notes dl_501 = true := by decide +kernel
theorem dX12_notes_0 : decode cX12_notes 0 = .ok (.aload_n 0, 1) := dget dh_501 (k := 0) rfl
theorem dX12_notes_1 : decode cX12_notes 1 = .ok (.getfield 72, 3) := dget dh_501 (k := 1) rfl
theorem dX12_notes_4 : decode cX12_notes 4 = .ok (.aload_n 0, 1) := dget dh_501 (k := 2) rfl
theorem dX12_notes_5 : decode cX12_notes 5 = .ok (.getfield 286, 3) := dget dh_501 (k := 3) rfl
theorem dX12_notes_8 : decode cX12_notes 8 = .ok (.ldc_w 289, 3) := dget dh_501 (k := 4) rfl
theorem dX12_notes_11 : decode cX12_notes 11 = .ok (.iload_n 1, 1) := dget dh_501 (k := 5) rfl
theorem dX12_notes_12 : decode cX12_notes 12 = .ok (.imul, 1) := dget dh_501 (k := 6) rfl
theorem dX12_notes_13 : decode cX12_notes 13 = .ok (.iload_n 2, 1) := dget dh_501 (k := 7) rfl
theorem dX12_notes_14 : decode cX12_notes 14 = .ok (.iadd, 1) := dget dh_501 (k := 8) rfl
theorem dX12_notes_15 : decode cX12_notes 15 = .ok (.iastore, 1) := dget dh_501 (k := 9) rfl
theorem dX12_notes_16 : decode cX12_notes 16 = .ok (.aload_n 0, 1) := dget dh_501 (k := 10) rfl
theorem dX12_notes_17 : decode cX12_notes 17 = .ok (.aload_n 0, 1) := dget dh_501 (k := 11) rfl
theorem dX12_notes_18 : decode cX12_notes 18 = .ok (.getfield 286, 3) := dget dh_501 (k := 12) rfl
theorem dX12_notes_21 : decode cX12_notes 21 = .ok (.iconst 1, 1) := dget dh_501 (k := 13) rfl
theorem dX12_notes_22 : decode cX12_notes 22 = .ok (.iadd, 1) := dget dh_501 (k := 14) rfl
theorem dX12_notes_23 : decode cX12_notes 23 = .ok (.putfield 286, 3) := dget dh_501 (k := 15) rfl
theorem dX12_notes_26 : decode cX12_notes 26 = .ok (.return_, 1) := dget dh_501 (k := 16) rfl
def dl_502 : List (Nat × (Instr × Nat)) := [(0, (.aload_n 0, 1)), (1, (.getfield 290, 3)), (4, (.bipush 6, 2)), (6, (.if_icmp .ne 13, 3)), (9, (.aload_n 0, 1)), (10, (.iconst 5, 1)), (11, (.aload_n 0, 1)), (12, (.getfield 262, 3)), (15, (.invokevirtual 275, 3)), (18, (.ireturn, 1)), (19, (.aload_n 0, 1)), (20, (.aload_n 0, 1)), (21, (.getfield 290, 3)), (24, (.iconst 1, 1)), (25, (.iadd, 1)), (26, (.putfield 290, 3)), (29, (.aload_n 0, 1)), (30, (.getfield 75, 3)), (33, (.aload_n 0, 1)), (34, (.getfield 293, 3))]
theorem dh_502 : dchk cX12_opens dl_502 = true := by decide +kernel
theorem dX12_opens_0 : decode cX12_opens 0 = .ok (.aload_n 0, 1) := dget dh_502 (k := 0) rfl
theorem dX12_opens_1 : decode cX12_opens 1 = .ok (.getfield 290, 3) := dget dh_502 (k := 1) rfl
theorem dX12_opens_4 : decode cX12_opens 4 = .ok (.bipush 6, 2) := dget dh_502 (k := 2) rfl
theorem dX12_opens_6 : decode cX12_opens 6 = .ok (.if_icmp .ne 13, 3) := dget dh_502 (k := 3) rfl
theorem dX12_opens_9 : decode cX12_opens 9 = .ok (.aload_n 0, 1) := dget dh_502 (k := 4) rfl
theorem dX12_opens_10 : decode cX12_opens 10 = .ok (.iconst 5, 1) := dget dh_502 (k := 5) rfl
theorem dX12_opens_11 : decode cX12_opens 11 = .ok (.aload_n 0, 1) := dget dh_502 (k := 6) rfl
theorem dX12_opens_12 : decode cX12_opens 12 = .ok (.getfield 262, 3) := dget dh_502 (k := 7) rfl
theorem dX12_opens_15 : decode cX12_opens 15 = .ok (.invokevirtual 275, 3) := dget dh_502 (k := 8) rfl
theorem dX12_opens_18 : decode cX12_opens 18 = .ok (.ireturn, 1) := dget dh_502 (k := 9) rfl
theorem dX12_opens_19 : decode cX12_opens 19 = .ok (.aload_n 0, 1) := dget dh_502 (k := 10) rfl
theorem dX12_opens_20 : decode cX12_opens 20 = .ok (.aload_n 0, 1) := dget dh_502 (k := 11) rfl
theorem dX12_opens_21 : decode cX12_opens 21 = .ok (.getfield 290, 3) := dget dh_502 (k := 12) rfl
theorem dX12_opens_24 : decode cX12_opens 24 = .ok (.iconst 1, 1) := dget dh_502 (k := 13) rfl
theorem dX12_opens_25 : decode cX12_opens 25 = .ok (.iadd, 1) := dget dh_502 (k := 14) rfl
theorem dX12_opens_26 : decode cX12_opens 26 = .ok (.putfield 290, 3) := dget dh_502 (k := 15) rfl
theorem dX12_opens_29 : decode cX12_opens 29 = .ok (.aload_n 0, 1) := dget dh_502 (k := 16) rfl
theorem dX12_opens_30 : decode cX12_opens 30 = .ok (.getfield 75, 3) := dget dh_502 (k := 17) rfl
theorem dX12_opens_33 : decode cX12_opens 33 = .ok (.aload_n 0, 1) := dget dh_502 (k := 18) rfl
theorem dX12_opens_34 : decode cX12_opens 34 = .ok (.getfield 293, 3) := dget dh_502 (k := 19) rfl
def dl_503 : List (Nat × (Instr × Nat)) := [(37, (.ldc_w 289, 3)), (40, (.iload_n 1, 1)), (41, (.imul, 1)), (42, (.iastore, 1)), (43, (.aload_n 0, 1)), (44, (.aload_n 0, 1)), (45, (.getfield 293, 3)), (48, (.iconst 1, 1)), (49, (.iadd, 1)), (50, (.putfield 293, 3)), (53, (.aload_n 0, 1)), (54, (.aload_n 0, 1)), (55, (.getfield 262, 3)), (58, (.iconst 1, 1)), (59, (.iadd, 1)), (60, (.putfield 262, 3)), (63, (.iconst 1, 1)), (64, (.ireturn, 1))]
theorem dh_503 : dchk cX12_opens dl_503 = true := by decide +kernel
theorem dX12_opens_37 : decode cX12_opens 37 = .ok (.ldc_w 289, 3) := dget dh_503 (k := 0) rfl
theorem dX12_opens_40 : decode cX12_opens 40 = .ok (.iload_n 1, 1) := dget dh_503 (k := 1) rfl
theorem dX12_opens_41 : decode cX12_opens 41 = .ok (.imul, 1) := dget dh_503 (k := 2) rfl
theorem dX12_opens_42 : decode cX12_opens 42 = .ok (.iastore, 1) := dget dh_503 (k := 3) rfl
theorem dX12_opens_43 : decode cX12_opens 43 = .ok (.aload_n 0, 1) := dget dh_503 (k := 4) rfl
theorem dX12_opens_44 : decode cX12_opens 44 = .ok (.aload_n 0, 1) := dget dh_503 (k := 5) rfl
theorem dX12_opens_45 : decode cX12_opens 45 = .ok (.getfield 293, 3) := dget dh_503 (k := 6) rfl
theorem dX12_opens_48 : decode cX12_opens 48 = .ok (.iconst 1, 1) := dget dh_503 (k := 7) rfl
theorem dX12_opens_49 : decode cX12_opens 49 = .ok (.iadd, 1) := dget dh_503 (k := 8) rfl
theorem dX12_opens_50 : decode cX12_opens 50 = .ok (.putfield 293, 3) := dget dh_503 (k := 9) rfl
theorem dX12_opens_53 : decode cX12_opens 53 = .ok (.aload_n 0, 1) := dget dh_503 (k := 10) rfl
theorem dX12_opens_54 : decode cX12_opens 54 = .ok (.aload_n 0, 1) := dget dh_503 (k := 11) rfl
theorem dX12_opens_55 : decode cX12_opens 55 = .ok (.getfield 262, 3) := dget dh_503 (k := 12) rfl
theorem dX12_opens_58 : decode cX12_opens 58 = .ok (.iconst 1, 1) := dget dh_503 (k := 13) rfl
theorem dX12_opens_59 : decode cX12_opens 59 = .ok (.iadd, 1) := dget dh_503 (k := 14) rfl
theorem dX12_opens_60 : decode cX12_opens 60 = .ok (.putfield 262, 3) := dget dh_503 (k := 15) rfl
theorem dX12_opens_63 : decode cX12_opens 63 = .ok (.iconst 1, 1) := dget dh_503 (k := 16) rfl
theorem dX12_opens_64 : decode cX12_opens 64 = .ok (.ireturn, 1) := dget dh_503 (k := 17) rfl
def dl_504 : List (Nat × (Instr × Nat)) := [(0, (.aload_n 0, 1)), (1, (.getfield 262, 3)), (4, (.istore_n 1, 1)), (5, (.aload_n 0, 1)), (6, (.iconst 0, 1)), (7, (.putfield 279, 3)), (10, (.aload_n 0, 1)), (11, (.invokevirtual 282, 3)), (14, (.ifCond .eq 55, 3)), (17, (.aload_n 0, 1)), (18, (.getfield 262, 3)), (21, (.iload_n 1, 1)), (22, (.iconst 5, 1)), (23, (.iadd, 1)), (24, (.if_icmp .ne 13, 3)), (27, (.aload_n 0, 1)), (28, (.iconst 2, 1)), (29, (.aload_n 0, 1)), (30, (.getfield 262, 3)), (33, (.invokevirtual 275, 3))]
theorem dh_504 : dchk cX12_readsNumber dl_504 = true := by decide +kernel
theorem dX12_readsNumber_0 : decode cX12_readsNumber 0 = .ok (.aload_n 0, 1) := dget dh_504 (k := 0) rfl
theorem dX12_readsNumber_1 : decode cX12_readsNumber 1 = .ok (.getfield 262, 3) := dget dh_504 (k := 1) rfl
theorem dX12_readsNumber_4 : decode cX12_readsNumber 4 = .ok (.istore_n 1, 1) := dget dh_504 (k := 2) rfl
theorem dX12_readsNumber_5 : decode cX12_readsNumber 5 = .ok (.aload_n 0, 1) := dget dh_504 (k := 3) rfl
theorem dX12_readsNumber_6 : decode cX12_readsNumber 6 = .ok (.iconst 0, 1) := dget dh_504 (k := 4) rfl
theorem dX12_readsNumber_7 : decode cX12_readsNumber 7 = .ok (.putfield 279, 3) := dget dh_504 (k := 5) rfl
theorem dX12_readsNumber_10 : decode cX12_readsNumber 10 = .ok (.aload_n 0, 1) := dget dh_504 (k := 6) rfl
theorem dX12_readsNumber_11 : decode cX12_readsNumber 11 = .ok (.invokevirtual 282, 3) := dget dh_504 (k := 7) rfl
theorem dX12_readsNumber_14 : decode cX12_readsNumber 14 = .ok (.ifCond .eq 55, 3) := dget dh_504 (k := 8) rfl
theorem dX12_readsNumber_17 : decode cX12_readsNumber 17 = .ok (.aload_n 0, 1) := dget dh_504 (k := 9) rfl
theorem dX12_readsNumber_18 : decode cX12_readsNumber 18 = .ok (.getfield 262, 3) := dget dh_504 (k := 10) rfl
theorem dX12_readsNumber_21 : decode cX12_readsNumber 21 = .ok (.iload_n 1, 1) := dget dh_504 (k := 11) rfl
theorem dX12_readsNumber_22 : decode cX12_readsNumber 22 = .ok (.iconst 5, 1) := dget dh_504 (k := 12) rfl
theorem dX12_readsNumber_23 : decode cX12_readsNumber 23 = .ok (.iadd, 1) := dget dh_504 (k := 13) rfl
theorem dX12_readsNumber_24 : decode cX12_readsNumber 24 = .ok (.if_icmp .ne 13, 3) := dget dh_504 (k := 14) rfl
theorem dX12_readsNumber_27 : decode cX12_readsNumber 27 = .ok (.aload_n 0, 1) := dget dh_504 (k := 15) rfl
theorem dX12_readsNumber_28 : decode cX12_readsNumber 28 = .ok (.iconst 2, 1) := dget dh_504 (k := 16) rfl
theorem dX12_readsNumber_29 : decode cX12_readsNumber 29 = .ok (.aload_n 0, 1) := dget dh_504 (k := 17) rfl
theorem dX12_readsNumber_30 : decode cX12_readsNumber 30 = .ok (.getfield 262, 3) := dget dh_504 (k := 18) rfl
theorem dX12_readsNumber_33 : decode cX12_readsNumber 33 = .ok (.invokevirtual 275, 3) := dget dh_504 (k := 19) rfl
def dl_505 : List (Nat × (Instr × Nat)) := [(36, (.ireturn, 1)), (37, (.aload_n 0, 1)), (38, (.bipush 10, 2)), (40, (.aload_n 0, 1)), (41, (.getfield 279, 3)), (44, (.imul, 1)), (45, (.aload_n 0, 1)), (46, (.invokevirtual 268, 3)), (49, (.iadd, 1)), (50, (.bipush 48, 2)), (52, (.isub, 1)), (53, (.putfield 279, 3)), (56, (.aload_n 0, 1)), (57, (.aload_n 0, 1)), (58, (.getfield 262, 3)), (61, (.iconst 1, 1)), (62, (.iadd, 1)), (63, (.putfield 262, 3)), (66, (.goto (-56), 3)), (69, (.iconst 1, 1))]
theorem dh_505 : dchk cX12_readsNumber dl_505 = true := by decide +kernel
theorem dX12_readsNumber_36 : decode cX12_readsNumber 36 = .ok (.ireturn, 1) := dget dh_505 (k := 0) rfl
theorem dX12_readsNumber_37 : decode cX12_readsNumber 37 = .ok (.aload_n 0, 1) := dget dh_505 (k := 1) rfl
theorem dX12_readsNumber_38 : decode cX12_readsNumber 38 = .ok (.bipush 10, 2) := dget dh_505 (k := 2) rfl
theorem dX12_readsNumber_40 : decode cX12_readsNumber 40 = .ok (.aload_n 0, 1) := dget dh_505 (k := 3) rfl
theorem dX12_readsNumber_41 : decode cX12_readsNumber 41 = .ok (.getfield 279, 3) := dget dh_505 (k := 4) rfl
theorem dX12_readsNumber_44 : decode cX12_readsNumber 44 = .ok (.imul, 1) := dget dh_505 (k := 5) rfl
theorem dX12_readsNumber_45 : decode cX12_readsNumber 45 = .ok (.aload_n 0, 1) := dget dh_505 (k := 6) rfl
theorem dX12_readsNumber_46 : decode cX12_readsNumber 46 = .ok (.invokevirtual 268, 3) := dget dh_505 (k := 7) rfl
theorem dX12_readsNumber_49 : decode cX12_readsNumber 49 = .ok (.iadd, 1) := dget dh_505 (k := 8) rfl
theorem dX12_readsNumber_50 : decode cX12_readsNumber 50 = .ok (.bipush 48, 2) := dget dh_505 (k := 9) rfl
theorem dX12_readsNumber_52 : decode cX12_readsNumber 52 = .ok (.isub, 1) := dget dh_505 (k := 10) rfl
theorem dX12_readsNumber_53 : decode cX12_readsNumber 53 = .ok (.putfield 279, 3) := dget dh_505 (k := 11) rfl
theorem dX12_readsNumber_56 : decode cX12_readsNumber 56 = .ok (.aload_n 0, 1) := dget dh_505 (k := 12) rfl
theorem dX12_readsNumber_57 : decode cX12_readsNumber 57 = .ok (.aload_n 0, 1) := dget dh_505 (k := 13) rfl
theorem dX12_readsNumber_58 : decode cX12_readsNumber 58 = .ok (.getfield 262, 3) := dget dh_505 (k := 14) rfl
theorem dX12_readsNumber_61 : decode cX12_readsNumber 61 = .ok (.iconst 1, 1) := dget dh_505 (k := 15) rfl
theorem dX12_readsNumber_62 : decode cX12_readsNumber 62 = .ok (.iadd, 1) := dget dh_505 (k := 16) rfl
theorem dX12_readsNumber_63 : decode cX12_readsNumber 63 = .ok (.putfield 262, 3) := dget dh_505 (k := 17) rfl
theorem dX12_readsNumber_66 : decode cX12_readsNumber 66 = .ok (.goto (-56), 3) := dget dh_505 (k := 18) rfl
theorem dX12_readsNumber_69 : decode cX12_readsNumber 69 = .ok (.iconst 1, 1) := dget dh_505 (k := 19) rfl
def dl_506 : List (Nat × (Instr × Nat)) := [(70, (.ireturn, 1))]
theorem dh_506 : dchk cX12_readsNumber dl_506 = true := by decide +kernel
theorem dX12_readsNumber_70 : decode cX12_readsNumber 70 = .ok (.ireturn, 1) := dget dh_506 (k := 0) rfl
def dl_507 : List (Nat × (Instr × Nat)) := [(0, (.aload_n 0, 1)), (1, (.getfield 293, 3)), (4, (.ifCond .ne 7, 3)), (7, (.iconst (-1), 1)), (8, (.goto 18, 3)), (11, (.aload_n 0, 1)), (12, (.getfield 75, 3)), (15, (.aload_n 0, 1)), (16, (.getfield 293, 3)), (19, (.iconst 1, 1)), (20, (.isub, 1)), (21, (.iaload, 1)), (22, (.ldc_w 289, 3)), (25, (.idiv, 1)), (26, (.ireturn, 1))]
theorem dh_507 : dchk cX12_top dl_507 = true := by decide +kernel
theorem dX12_top_0 : decode cX12_top 0 = .ok (.aload_n 0, 1) := dget dh_507 (k := 0) rfl
theorem dX12_top_1 : decode cX12_top 1 = .ok (.getfield 293, 3) := dget dh_507 (k := 1) rfl
theorem dX12_top_4 : decode cX12_top 4 = .ok (.ifCond .ne 7, 3) := dget dh_507 (k := 2) rfl
theorem dX12_top_7 : decode cX12_top 7 = .ok (.iconst (-1), 1) := dget dh_507 (k := 3) rfl
theorem dX12_top_8 : decode cX12_top 8 = .ok (.goto 18, 3) := dget dh_507 (k := 4) rfl
theorem dX12_top_11 : decode cX12_top 11 = .ok (.aload_n 0, 1) := dget dh_507 (k := 5) rfl
theorem dX12_top_12 : decode cX12_top 12 = .ok (.getfield 75, 3) := dget dh_507 (k := 6) rfl
theorem dX12_top_15 : decode cX12_top 15 = .ok (.aload_n 0, 1) := dget dh_507 (k := 7) rfl
theorem dX12_top_16 : decode cX12_top 16 = .ok (.getfield 293, 3) := dget dh_507 (k := 8) rfl
theorem dX12_top_19 : decode cX12_top 19 = .ok (.iconst 1, 1) := dget dh_507 (k := 9) rfl
theorem dX12_top_20 : decode cX12_top 20 = .ok (.isub, 1) := dget dh_507 (k := 10) rfl
theorem dX12_top_21 : decode cX12_top 21 = .ok (.iaload, 1) := dget dh_507 (k := 11) rfl
theorem dX12_top_22 : decode cX12_top 22 = .ok (.ldc_w 289, 3) := dget dh_507 (k := 12) rfl
theorem dX12_top_25 : decode cX12_top 25 = .ok (.idiv, 1) := dget dh_507 (k := 13) rfl
theorem dX12_top_26 : decode cX12_top 26 = .ok (.ireturn, 1) := dget dh_507 (k := 14) rfl
def topv (i : Nat → Int32) (r : Nat → Nat → Int32) : Int := if (i 28).toInt = 0 then -1 else cOp (r 22 ((i 28).toInt.toNat - 1))
theorem mHere_eq {i I : Nat → Int32} {r : Nat → Nat → Int32} (h1 : I 23 = i 23) (h2 : I 24 = i 24) : mHere I r = mHere i r := by unfold mHere; rw [h1, h2]
/-- the number so far, by how many digits it has -/
def numI (d n : Int) : Prop := (d = 0 ∧ n = 0) ∨ (d = 1 ∧ n ≤ 9) ∨ (d = 2 ∧ n ≤ 99) ∨ (d = 3 ∧ n ≤ 999) ∨ (d = 4 ∧ n ≤ 9999) ∨ (d = 5 ∧ n ≤ 99999)
theorem numI_step {d n m : Int} (h : numI d n) (hd : d ≠ 5) (hm : m ≤ 10 * n + 9) : numI (d + 1) m := by unfold numI at *; omega
theorem numI_rg {d n : Int} (h : numI d n) : 0 ≤ d ∧ d ≤ 5 ∧ n ≤ 99999 ∧ (d ≠ 5 → n ≤ 9999) := by unfold numI at h; omega
set_option maxHeartbeats 4000000 in
set_option maxRecDepth 100000 in
theorem c_X12_readsNumber (l : Launch) (D : va_G) (cy : Nat → ClassId) (a : Nat → Nat) (i : Nat → Int32) (r : Nat → Nat → Int32) (rl : Nat → Int64) (sz : Nat) (hRi : mRi i) (hRr : mRr r) (hd : 48 ≤ (mHere i r).toInt ∧ (mHere i r).toInt ≤ 57) : Met l yX12_readsNumber (Cond.code yX12_readsNumber cX12_readsNumber 2 (some .boolean) :: gT) { frames := 3, cells := 0, slots := 0, locals := 64 } (va_Pc [.ref (a 0)] (rQ D cy (mW cy a i r rl) sz)) (va_Qi (fun (z : Int32) (u : (Nat → Int32) × (Nat → Nat → Int32)) => mRi u.1 ∧ mRr u.2 ∧ mEi [23, 25, 30] i u.1 ∧ mEr [] r u.2 ∧ ((z = 1 ∧ (i 23).toInt < (u.1 23).toInt) ∨ z = 0)) (fun (u : (Nat → Int32) × (Nat → Nat → Int32)) t => va_P D vwCl (mW cy a u.1 u.2 rl) t.heap ∧ va_K D vwCl (vT cy) t ∧ va_D (va_A (mW cy a i r rl) sz) (mW cy a u.1 u.2 rl)) (va_A (mW cy a i r rl) sz)) 0 0 (va_A (mW cy a i r rl) sz) := by
  refine Met.ofQ (cc := cX12_readsNumber) (maxL := 2) (ret := (some .boolean)) (by decide) rfl ?_
  intro p e s m args below meth c s₁ B hml hv Q hQ
  obtain ⟨rfl, hsz, hP, hK, hD0⟩ := hv
  have hx := B.exec
  have hb := B.bytes
  have hr := B.returns
  have hlocks := B.notSynchronized
  have hT : ∀ w ∈ gT, w.before _ s = true := fun w h => atoms_spec (ws := (Cond.code yX12_readsNumber cX12_readsNumber 2 (some .boolean) :: gT)) B.pre w (List.mem_cons_of_mem _ h)
  have hown : s.vm.findClass RX12 = some m.cls := findClass_of_methodNamed B.named
  subst hsz
  have hD := hD0.self (sz := s.heap.size)
  generalize hAe : va_A (mW cy a i r rl) s.heap.size = A at hD hQ
  have hA : ∀ q : Nat, s.heap.size ≤ q → A q := fun q h => by rw [← hAe]; exact Or.inr h
  have hS : va_S A s.heap s.heap [] := va_S.rf
  have hl := lv_entry ([.ref (a 0)]) (n := 2) (Nat.le_of_ble_eq_true rfl)
  rw [lg_entry_eq]
  generalize (lg_sl ([.ref (a 0)]) ++ List.replicate (2 - (lg_sl ([.ref (a 0)])).length) Slot.unset).toArray = ls at hl ⊢
  have hl : lv_has ls 2 [(0, .ref (a 0))] := hl
  have hEi : mEi [23, 25, 30] i i := Ei_rf
  have hEr : mEr [] r r := Er_rf
  refine lv_aload_n hx hb dX12_readsNumber_0 rfl (lv_at hl 0 rfl) ?_
  refine va_get (D := D) (ci := 12) (v := .int (i 23)) (C := RX12) (T := TX12) (N := 91) hx hb hT iX12 hown hK hP 0 rfl rfl 23 (by decide) (hT _ t_252) (fun _ h9 => h9) rfl dX12_readsNumber_1 ?_
  have hg_1 : 0 ≤ (i 23).toInt ∧ (i 23).toInt ≤ 200 := hRi 23
  refine lv_istore_n (lv' := [(1, .int (i 23)), (0, .ref (a 0))]) hx hb dX12_readsNumber_4 rfl hl (by decide) rfl (fun ls hl => ?_)
  refine lv_aload_n hx hb dX12_readsNumber_5 rfl (lv_at hl 1 rfl) ?_
  refine lv_iconst (v := 0) hx hb dX12_readsNumber_6 (by decide) ?_
  refine va_put (D := D) (ci := 12) (v := .int 0) (ty := .int) (C := RX12) (T := TX12) (N := 91) hx hb hT iX12 tyX12 tyX12_ok nmX12 hown hK hP hD hS 0 rfl rfl 30 (by decide) (hT _ t_842) (fun _ h9 => h9) rfl (by decide +kernel) rfl rfl (Nat.le_of_ble_eq_true rfl) dX12_readsNumber_7 (fun H locs hP hD hS => ?_)
  rw [mP30] at hP hD
  have hRi := Ri_upd hRi 30 0 ⟨by decide, by decide⟩
  have hEi := Ei_upd hEi 30 0 (by decide)
  have loop_2 : ∀ (n : Nat) (i2 : Nat → Int32) (H : Heap) (locs : List Loc) (ls : Array Slot), (200 - (i2 23).toInt).toNat < n → mRi i2 → mEi [23, 25, 30] i i2 → (numI ((i2 23).toInt - (i 23).toInt) (i2 30).toInt) → va_P D vwCl (mW cy a i2 r rl) H → va_D A (mW cy a i2 r rl) → va_S A s.heap H locs → lv_has ls 2 [(1, .int (i 23)), (0, .ref (a 0))] → W p l e ({ frames := 3, cells := 0, slots := 0, locals := 64 } : Room) s m ([.ref (a 0)] : List Value).toArray below meth c H locs 0 0 Q (F0 m 10 ls []) := by
    intro n
    induction n with
    | zero =>
      intro i2 H locs ls hm2 hRi hEi hx2 hP hD hS hl
      exact absurd hm2 (by omega)
    | succ n ih2 =>
      intro i2 H locs ls hm2 hRi hEi hx2 hP hD hS hl
      refine lv_aload_n hx hb dX12_readsNumber_10 rfl (lv_at hl 1 rfl) ?_
      have hnr := numI_rg hx2
      have hg24 : 0 ≤ (i2 24).toInt ∧ (i2 24).toInt ≤ 200 := hRi 24
      have hg23 : 0 ≤ (i2 23).toInt ∧ (i2 23).toInt ≤ 200 := hRi 23
      have hg30 : 0 ≤ (i2 30).toInt ∧ (i2 30).toInt ≤ 99999 := hRi 30
      have h24 : i2 24 = i 24 := hEi 24 (by decide)
      refine vp_callSi (W.runV (As := []) (rest := []) ⟨hx, hb, hml, hown, hT⟩ (c_X12_isDigit l D cy a i2 r rl hRi hRr) (cwV 0 hT (gV t_843 t_844 t_845 t_846 t_6) rfl rfl rfl (by decide +kernel) ⟨Nat.le_of_ble_eq_true rfl, Nat.le_of_ble_eq_true rfl⟩) (rP_v hP hK (va_recv hK hP (ci := 12) (q0 := 0) rfl rfl)) rfl rfl hl.1 rfl (lv_room (Nat.le_of_ble_eq_true rfl)) dX12_readsNumber_11 ⟨Nat.le_of_ble_eq_true rfl, Nat.le_of_ble_eq_true rfl⟩) (fun r_3 hr_3 => ?_)
      have hr_3 : BR r_3 (48 ≤ (mHere i2 r).toInt ∧ (mHere i2 r).toInt ≤ 57) 1 0 := hr_3
      rcases hr_3 with ⟨rfl, h_4⟩ | ⟨rfl, h_4⟩
      · skip
        refine lv_if_eq (tgt := 69) hx hb dX12_readsNumber_14 (by decide) (fun c_5 => absurd c_5 (by decide)) (fun c_5 => ?_)
        refine lv_aload_n hx hb dX12_readsNumber_17 rfl (lv_at hl 1 rfl) ?_
        refine va_get (D := D) (ci := 12) (v := .int (i2 23)) (C := RX12) (T := TX12) (N := 91) hx hb hT iX12 hown hK hP 0 rfl rfl 23 (by decide) (hT _ t_252) (fun _ h9 => h9) rfl dX12_readsNumber_18 ?_
        have hg_6 : 0 ≤ (i2 23).toInt ∧ (i2 23).toInt ≤ 200 := hRi 23
        have hlt9 := mHere_lt (i := i2) (r := r) (by omega)
        refine lv_iload_n hx hb dX12_readsNumber_21 rfl (lv_at hl 0 rfl) ?_
        refine lv_iconst (v := 5) hx hb dX12_readsNumber_22 (by decide) ?_
        refine lv_iadd hx hb dX12_readsNumber_23 ?_
        refine lv_topi (fun v_7 ev_7 => ?_)
        have hv_7 : v_7.toInt = (i 23).toInt + 5 := by rw [ev_7]; have := b_rg (i 23); exact i_add (a := (i 23).toInt) (b := 5) rfl rfl (by omega) (by omega)
        refine lv_icmp_ne (tgt := 37) hx hb dX12_readsNumber_24 (by decide) (fun c_8 => ?_) (fun c_8 => ?_)
        · have c_8 : (i2 23).toInt ≠ v_7.toInt := b_ne c_8
          refine lv_aload_n hx hb dX12_readsNumber_37 rfl (lv_at hl 1 rfl) ?_
          refine lv_bipush (v := 10) hx hb dX12_readsNumber_38 (by decide) ?_
          refine lv_aload_n hx hb dX12_readsNumber_40 rfl (lv_at hl 1 rfl) ?_
          refine va_get (D := D) (ci := 12) (v := .int (i2 30)) (C := RX12) (T := TX12) (N := 91) hx hb hT iX12 hown hK hP 0 rfl rfl 30 (by decide) (hT _ t_842) (fun _ h9 => h9) rfl dX12_readsNumber_41 ?_
          have hg_9 : 0 ≤ (i2 30).toInt ∧ (i2 30).toInt ≤ 99999 := hRi 30
          have hn9 : (i2 30).toInt ≤ 9999 := hnr.2.2.2 (by omega)
          refine lv_imul hx hb dX12_readsNumber_44 ?_
          refine lv_topi (fun v_10 ev_10 => ?_)
          have hv_10 : v_10.toInt = 10 * (i2 30).toInt := by rw [ev_10]; have := b_rg (i2 30); exact i_mul (a := 10) (b := (i2 30).toInt) rfl rfl (by omega) (by omega)
          refine lv_aload_n hx hb dX12_readsNumber_45 rfl (lv_at hl 1 rfl) ?_
          refine vp_callSi (W.runV (As := []) (rest := [.int v_10, .ref (a 0)]) ⟨hx, hb, hml, hown, hT⟩ (c_X12_here l D cy a i2 r rl hRi hRr) (cwV 0 hT (gV t_254 t_255 t_256 t_257 t_6) rfl rfl rfl (by decide +kernel) ⟨Nat.le_of_ble_eq_true rfl, Nat.le_of_ble_eq_true rfl⟩) (rP_v hP hK (va_recv hK hP (ci := 12) (q0 := 0) rfl rfl)) rfl rfl hl.1 rfl (lv_room (Nat.le_of_ble_eq_true rfl)) dX12_readsNumber_46 ⟨Nat.le_of_ble_eq_true rfl, Nat.le_of_ble_eq_true rfl⟩) (fun r_11 hr_11 => ?_)
          have hqr_11 : -1 ≤ r_11.toInt ∧ r_11.toInt ≤ 255 := by rw [hr_11]; exact mHere_rg _ _
          have hwr_11 : r_11.toInt = (mHere i2 r).toInt := congrArg Int32.toInt hr_11
          refine lv_iadd hx hb dX12_readsNumber_49 ?_
          refine lv_topi (fun v_12 ev_12 => ?_)
          have hv_12 : v_12.toInt = v_10.toInt + r_11.toInt := by rw [ev_12]; have := b_rg v_10; have := b_rg r_11; exact i_add (a := v_10.toInt) (b := r_11.toInt) rfl rfl (by omega) (by omega)
          refine lv_bipush (v := 48) hx hb dX12_readsNumber_50 (by decide) ?_
          refine lv_isub hx hb dX12_readsNumber_52 ?_
          refine lv_topi (fun v_13 ev_13 => ?_)
          have hv_13 : v_13.toInt = v_12.toInt - 48 := by rw [ev_13]; have := b_rg v_12; exact i_sub (a := v_12.toInt) (b := 48) rfl rfl (by omega) (by omega)
          refine va_put (D := D) (ci := 12) (v := .int v_13) (ty := .int) (C := RX12) (T := TX12) (N := 91) hx hb hT iX12 tyX12 tyX12_ok nmX12 hown hK hP hD hS 0 rfl rfl 30 (by decide) (hT _ t_842) (fun _ h9 => h9) rfl (by decide +kernel) rfl rfl (Nat.le_of_ble_eq_true rfl) dX12_readsNumber_53 (fun H locs hP hD hS => ?_)
          rw [mP30] at hP hD
          have hRi := Ri_upd hRi 30 v_13 ⟨by show (0 : Int) ≤ v_13.toInt; omega, by show v_13.toInt ≤ (99999 : Int); omega⟩
          have hEi := Ei_upd hEi 30 v_13 (by decide)
          refine lv_aload_n hx hb dX12_readsNumber_56 rfl (lv_at hl 1 rfl) ?_
          refine lv_aload_n hx hb dX12_readsNumber_57 rfl (lv_at hl 1 rfl) ?_
          refine va_get (D := D) (ci := 12) (v := .int (i2 23)) (C := RX12) (T := TX12) (N := 91) hx hb hT iX12 hown hK hP 0 rfl rfl 23 (by decide) (hT _ t_252) (fun _ h9 => h9) rfl dX12_readsNumber_58 ?_
          refine lv_iconst (v := 1) hx hb dX12_readsNumber_61 (by decide) ?_
          refine lv_iadd hx hb dX12_readsNumber_62 ?_
          refine lv_topi (fun v_14 ev_14 => ?_)
          have hv_14 : v_14.toInt = (i2 23).toInt + 1 := by rw [ev_14]; have := b_rg (i2 23); exact i_add (a := (i2 23).toInt) (b := 1) rfl rfl (by omega) (by omega)
          refine va_put (D := D) (ci := 12) (v := .int v_14) (ty := .int) (C := RX12) (T := TX12) (N := 91) hx hb hT iX12 tyX12 tyX12_ok nmX12 hown hK hP hD hS 0 rfl rfl 23 (by decide) (hT _ t_252) (fun _ h9 => h9) rfl (by decide +kernel) rfl rfl (Nat.le_of_ble_eq_true rfl) dX12_readsNumber_63 (fun H locs hP hD hS => ?_)
          rw [mP23] at hP hD
          have hRi := Ri_upd hRi 23 v_14 ⟨by show (0 : Int) ≤ v_14.toInt; omega, by show v_14.toInt ≤ (200 : Int); omega⟩
          have hEi := Ei_upd hEi 23 v_14 (by decide)
          refine lv_goto (tgt := 10) hx hb dX12_readsNumber_66 (by decide) ?_
          have hd9 : v_14.toInt - (i 23).toInt = ((i2 23).toInt - (i 23).toInt) + 1 := by omega
          have hmm23 : ((upd (upd i2 30 v_13) 23 v_14) 23).toInt = v_14.toInt := rfl
          exact ih2 (upd (upd i2 30 v_13) 23 v_14) _ _ _ (by first | omega | (simp only [Int.toNat]; omega))  hRi hEi (by show numI (v_14.toInt - (i 23).toInt) v_13.toInt; rw [hd9]; exact numI_step hx2 (by omega) (by omega)) hP hD hS (lv_sub hl [0, 1] rfl)
        · have c_8 : (i2 23).toInt = v_7.toInt := b_nne c_8
          refine lv_aload_n hx hb dX12_readsNumber_27 rfl (lv_at hl 1 rfl) ?_
          refine lv_iconst (v := 2) hx hb dX12_readsNumber_28 (by decide) ?_
          refine lv_aload_n hx hb dX12_readsNumber_29 rfl (lv_at hl 1 rfl) ?_
          refine va_get (D := D) (ci := 12) (v := .int (i2 23)) (C := RX12) (T := TX12) (N := 91) hx hb hT iX12 hown hK hP 0 rfl rfl 23 (by decide) (hT _ t_252) (fun _ h9 => h9) rfl dX12_readsNumber_30 ?_
          have hF_15 := rF hD hS hA
          refine va_calli (va_runV (As := [.int 2, .int (i2 23)]) (rest := []) ⟨hx, hb, hml, hown, hT⟩ (c_X12_wrongAt l D cy a i2 r rl 2 (i2 23) _ hRi hRr) (cwV 2 hT (gV t_259 t_260 t_261 t_262 t_6) rfl rfl rfl (by decide +kernel) ⟨Nat.le_of_ble_eq_true rfl, Nat.le_of_ble_eq_true rfl⟩) (rQ_v hP hK hD (va_recv hK hP (ci := 12) (q0 := 0) rfl rfl)) rfl rfl hl.1 rfl (lv_room (Nat.le_of_ble_eq_true rfl)) dX12_readsNumber_33 ⟨Nat.le_of_ble_eq_true rfl, Nat.le_of_ble_eq_true rfl⟩) hS (fun q _ h => hF_15 q h) hF_15 (fun r_16 u_17 t H1 locs ht hvm hr_16 hB hz1 hk1 hS => ?_)
          obtain ⟨i17, r17⟩ := u_17
          obtain ⟨hP, hK1, hD1⟩ := hB
          rw [ht] at hP
          have hD := hD1.weaken (fun k q _ h => hF_15 q.1 h)
          have hP : va_P D vwCl (mW cy a i17 r17 rl) H1 := hP
          have hD : va_D A (mW cy a i17 r17 rl) := hD
          obtain ⟨hRi, hRr, hE1, hE2, hr_16⟩ := hr_16
          have hRi : mRi i17 := hRi
          have hRr : mRr r17 := hRr
          have hEi : mEi [23, 25, 30] _ i17 := Ei_tr hEi hE1 (by decide)
          have hEr : mEr [] _ r17 := Er_tr hEr hE2 (by decide)
          subst hr_16
          subst hQ
          exact W.zret hx hb hr rfl (fun t ht hW => ⟨⟨_, (i17, r17), rfl, ⟨hRi, hRr, hEi, hEr, (Or.inr rfl)⟩, by rw [ht]; exact hP, va_K.moved hW.alike hK, hD⟩, hS.F ht⟩) hS.2.2 dX12_readsNumber_36
      · skip
        refine lv_if_eq (tgt := 69) hx hb dX12_readsNumber_14 (by decide) (fun c_18 => ?_) (fun c_18 => absurd (by decide) c_18)
        refine lv_iconst (v := 1) hx hb dX12_readsNumber_69 (by decide) ?_
        subst hQ
        have hlt : (i 23).toInt < (i2 23).toInt := by
          by_cases h9 : (i2 23).toInt = (i 23).toInt
          · have h8 := mHere_eq (r := r) (Int32.toInt_inj.mp h9) h24; rw [h8] at h_4; exact absurd hd h_4
          · omega
        exact W.zret hx hb hr rfl (fun t ht hW => ⟨⟨_, (i2, r), rfl, ⟨hRi, hRr, hEi, hEr, (Or.inl ⟨rfl, hlt⟩)⟩, by rw [ht]; exact hP, va_K.moved hW.alike hK, hD⟩, hS.F ht⟩) hS.2.2 dX12_readsNumber_70
  exact loop_2 _ (upd i 30 0) _ _ _ (Nat.lt_succ_self _)  hRi hEi (Or.inl ⟨by show (i 23).toInt - (i 23).toInt = 0; omega, rfl⟩) hP hD hS hl
set_option maxHeartbeats 4000000 in
set_option maxRecDepth 100000 in
theorem c_X12_notes (l : Launch) (D : va_G) (cy : Nat → ClassId) (a : Nat → Nat) (i : Nat → Int32) (r : Nat → Nat → Int32) (rl : Nat → Int64) (p0 p1 : Int32) (sz : Nat) (hRi : mRi i) (hRr : mRr r) (q0 : 0 ≤ p0.toInt ∧ p0.toInt ≤ 14) (q1 : 0 ≤ p1.toInt ∧ p1.toInt ≤ 99999) (hc : (i 27).toInt < 220) : Met l yX12_notes (Cond.code yX12_notes cX12_notes 3 none :: gT) { frames := 1, cells := 0, slots := 0, locals := 24 } (va_Pc [.ref (a 0), .int p0, .int p1] (rQ D cy (mW cy a i r rl) sz)) (va_Qv (fun u : (Nat → Int32) × (Nat → Nat → Int32) => mRi u.1 ∧ mRr u.2 ∧ mEi [27] i u.1 ∧ mEr [21] r u.2 ∧ ((u.1 27).toInt = (i 27).toInt + 1 ∧ ∃ x : Int32, x.toInt = 1048576 * p0.toInt + p1.toInt ∧ u.2 21 = upd (r 21) (i 27).toInt.toNat x)) (fun (u : (Nat → Int32) × (Nat → Nat → Int32)) t => va_P D vwCl (mW cy a u.1 u.2 rl) t.heap ∧ va_K D vwCl (vT cy) t ∧ va_D (va_A (mW cy a i r rl) sz) (mW cy a u.1 u.2 rl)) (va_A (mW cy a i r rl) sz)) 0 0 (va_A (mW cy a i r rl) sz) := by
  refine Met.ofQ (cc := cX12_notes) (maxL := 3) (ret := none) (by decide) rfl ?_
  intro p e s m args below meth c s₁ B hml hv Q hQ
  obtain ⟨rfl, hsz, hP, hK, hD0⟩ := hv
  have hx := B.exec
  have hb := B.bytes
  have hr := B.returns
  have hlocks := B.notSynchronized
  have hT : ∀ w ∈ gT, w.before _ s = true := fun w h => atoms_spec (ws := (Cond.code yX12_notes cX12_notes 3 none :: gT)) B.pre w (List.mem_cons_of_mem _ h)
  have hown : s.vm.findClass RX12 = some m.cls := findClass_of_methodNamed B.named
  subst hsz
  have hD := hD0.self (sz := s.heap.size)
  generalize hAe : va_A (mW cy a i r rl) s.heap.size = A at hD hQ
  have hA : ∀ q : Nat, s.heap.size ≤ q → A q := fun q h => by rw [← hAe]; exact Or.inr h
  have hS : va_S A s.heap s.heap [] := va_S.rf
  have hl := lv_entry ([.ref (a 0), .int p0, .int p1]) (n := 3) (Nat.le_of_ble_eq_true rfl)
  rw [lg_entry_eq]
  generalize (lg_sl ([.ref (a 0), .int p0, .int p1]) ++ List.replicate (3 - (lg_sl ([.ref (a 0), .int p0, .int p1])).length) Slot.unset).toArray = ls at hl ⊢
  have hl : lv_has ls 3 [(0, .ref (a 0)), (1, .int p0), (2, .int p1)] := hl
  have hEi : mEi [27] i i := Ei_rf
  have hEr : mEr [21] r r := Er_rf
  have hg27 : 0 ≤ (i 27).toInt ∧ (i 27).toInt ≤ 220 := hRi 27
  refine lv_aload_n hx hb dX12_notes_0 rfl (lv_at hl 0 rfl) ?_
  refine va_get (D := D) (ci := 12) (v := .ref (a 21)) (C := RX12) (T := TX12) (N := 91) hx hb hT iX12 hown hK hP 0 rfl rfl 32 (by decide) (hT _ t_788) (fun _ h9 => h9) rfl dX12_notes_1 ?_
  refine lv_aload_n hx hb dX12_notes_4 rfl (lv_at hl 0 rfl) ?_
  refine va_get (D := D) (ci := 12) (v := .int (i 27)) (C := RX12) (T := TX12) (N := 91) hx hb hT iX12 hown hK hP 0 rfl rfl 27 (by decide) (hT _ t_847) (fun _ h9 => h9) rfl dX12_notes_5 ?_
  have hg_1 : 0 ≤ (i 27).toInt ∧ (i 27).toInt ≤ 220 := hRi 27
  refine lv_ldcw (v := 1048576) hx hb hown (hT _ t_84) dX12_notes_8 ?_
  refine lv_iload_n hx hb dX12_notes_11 rfl (lv_at hl 1 rfl) ?_
  refine lv_imul hx hb dX12_notes_12 ?_
  refine lv_topi (fun v_2 ev_2 => ?_)
  have hv_2 : v_2.toInt = 1048576 * p0.toInt := by rw [ev_2]; have := b_rg p0; exact i_mul (a := 1048576) (b := p0.toInt) rfl rfl (by omega) (by omega)
  refine lv_iload_n hx hb dX12_notes_13 rfl (lv_at hl 2 rfl) ?_
  refine lv_iadd hx hb dX12_notes_14 ?_
  refine lv_topi (fun v_3 ev_3 => ?_)
  have hv_3 : v_3.toInt = v_2.toInt + p1.toInt := by rw [ev_3]; have := b_rg v_2; have := b_rg p1; exact i_add (a := v_2.toInt) (b := p1.toInt) rfl rfl (by omega) (by omega)
  refine va_iast hx hb hK hP hD hS 21 0 rfl rfl (vp_inI (by omega) (by omega)) dX12_notes_15 (fun H locs hP hD hS => ?_)
  rw [mS21] at hP hD
  have hRr : mRr (va_up r 21 (upd (r 21) ((i 27).toNatClampNeg) v_3)) := Rr_upd hRr 21 ((i 27).toNatClampNeg) v_3 (b_rg _)
  have hEr : mEr [21] _ (va_up r 21 (upd (r 21) ((i 27).toNatClampNeg) v_3)) := Er_up hEr 21 _ (by decide)
  refine lv_aload_n hx hb dX12_notes_16 rfl (lv_at hl 0 rfl) ?_
  refine lv_aload_n hx hb dX12_notes_17 rfl (lv_at hl 0 rfl) ?_
  refine va_get (D := D) (ci := 12) (v := .int (i 27)) (C := RX12) (T := TX12) (N := 91) hx hb hT iX12 hown hK hP 0 rfl rfl 27 (by decide) (hT _ t_847) (fun _ h9 => h9) rfl dX12_notes_18 ?_
  refine lv_iconst (v := 1) hx hb dX12_notes_21 (by decide) ?_
  refine lv_iadd hx hb dX12_notes_22 ?_
  refine lv_topi (fun v_4 ev_4 => ?_)
  have hv_4 : v_4.toInt = (i 27).toInt + 1 := by rw [ev_4]; have := b_rg (i 27); exact i_add (a := (i 27).toInt) (b := 1) rfl rfl (by omega) (by omega)
  refine va_put (D := D) (ci := 12) (v := .int v_4) (ty := .int) (C := RX12) (T := TX12) (N := 91) hx hb hT iX12 tyX12 tyX12_ok nmX12 hown hK hP hD hS 0 rfl rfl 27 (by decide) (hT _ t_847) (fun _ h9 => h9) rfl (by decide +kernel) rfl rfl (Nat.le_of_ble_eq_true rfl) dX12_notes_23 (fun H locs hP hD hS => ?_)
  rw [mP27] at hP hD
  have hRi := Ri_upd hRi 27 v_4 ⟨by show (0 : Int) ≤ v_4.toInt; omega, by show v_4.toInt ≤ (220 : Int); omega⟩
  have hEi := Ei_upd hEi 27 v_4 (by decide)
  subst hQ
  exact W.vret hx hb hr (fun t ht hW => ⟨⟨(upd i 27 v_4, va_up r 21 (upd (r 21) ((i 27).toNatClampNeg) v_3)), rfl, ⟨hRi, hRr, hEi, hEr, ⟨by show v_4.toInt = _; omega, v_3, by omega, rfl⟩⟩, by rw [ht]; exact hP, va_K.moved hW.alike hK, hD⟩, hS.F ht⟩) hS.2.2 dX12_notes_26
set_option maxHeartbeats 4000000 in
set_option maxRecDepth 100000 in
theorem c_X12_opens (l : Launch) (D : va_G) (cy : Nat → ClassId) (a : Nat → Nat) (i : Nat → Int32) (r : Nat → Nat → Int32) (rl : Nat → Int64) (p0 : Int32) (sz : Nat) (hRi : mRi i) (hRr : mRr r) (q0 : 10 ≤ p0.toInt ∧ p0.toInt ≤ 14) (h23 : (i 23).toInt < 200) (h28 : (i 28).toInt ≤ 200) : Met l yX12_opens (Cond.code yX12_opens cX12_opens 2 (some .boolean) :: gT) { frames := 2, cells := 0, slots := 0, locals := 46 } (va_Pc [.ref (a 0), .int p0] (rQ D cy (mW cy a i r rl) sz)) (va_Qi (fun (z : Int32) (u : (Nat → Int32) × (Nat → Nat → Int32)) => mRi u.1 ∧ mRr u.2 ∧ mEi [23, 25, 26, 28] i u.1 ∧ mEr [22] r u.2 ∧ ((z = 1 ∧ (u.1 28).toInt = (i 28).toInt + 1 ∧ (u.1 23).toInt = (i 23).toInt + 1 ∧ ∃ x : Int32, x.toInt = 1048576 * p0.toInt ∧ u.2 22 = upd (r 22) (i 28).toInt.toNat x) ∨ z = 0)) (fun (u : (Nat → Int32) × (Nat → Nat → Int32)) t => va_P D vwCl (mW cy a u.1 u.2 rl) t.heap ∧ va_K D vwCl (vT cy) t ∧ va_D (va_A (mW cy a i r rl) sz) (mW cy a u.1 u.2 rl)) (va_A (mW cy a i r rl) sz)) 0 0 (va_A (mW cy a i r rl) sz) := by
  refine Met.ofQ (cc := cX12_opens) (maxL := 2) (ret := (some .boolean)) (by decide) rfl ?_
  intro p e s m args below meth c s₁ B hml hv Q hQ
  obtain ⟨rfl, hsz, hP, hK, hD0⟩ := hv
  have hx := B.exec
  have hb := B.bytes
  have hr := B.returns
  have hlocks := B.notSynchronized
  have hT : ∀ w ∈ gT, w.before _ s = true := fun w h => atoms_spec (ws := (Cond.code yX12_opens cX12_opens 2 (some .boolean) :: gT)) B.pre w (List.mem_cons_of_mem _ h)
  have hown : s.vm.findClass RX12 = some m.cls := findClass_of_methodNamed B.named
  subst hsz
  have hD := hD0.self (sz := s.heap.size)
  generalize hAe : va_A (mW cy a i r rl) s.heap.size = A at hD hQ
  have hA : ∀ q : Nat, s.heap.size ≤ q → A q := fun q h => by rw [← hAe]; exact Or.inr h
  have hS : va_S A s.heap s.heap [] := va_S.rf
  have hl := lv_entry ([.ref (a 0), .int p0]) (n := 2) (Nat.le_of_ble_eq_true rfl)
  rw [lg_entry_eq]
  generalize (lg_sl ([.ref (a 0), .int p0]) ++ List.replicate (2 - (lg_sl ([.ref (a 0), .int p0])).length) Slot.unset).toArray = ls at hl ⊢
  have hl : lv_has ls 2 [(0, .ref (a 0)), (1, .int p0)] := hl
  have hEi : mEi [23, 25, 26, 28] i i := Ei_rf
  have hEr : mEr [22] r r := Er_rf
  have hg28 : 0 ≤ (i 28).toInt ∧ (i 28).toInt ≤ 220 := hRi 28
  have hg23 : 0 ≤ (i 23).toInt ∧ (i 23).toInt ≤ 200 := hRi 23
  refine lv_aload_n hx hb dX12_opens_0 rfl (lv_at hl 0 rfl) ?_
  refine va_get (D := D) (ci := 12) (v := .int (i 26)) (C := RX12) (T := TX12) (N := 91) hx hb hT iX12 hown hK hP 0 rfl rfl 26 (by decide) (hT _ t_848) (fun _ h9 => h9) rfl dX12_opens_1 ?_
  refine lv_bipush (v := 6) hx hb dX12_opens_4 (by decide) ?_
  refine lv_icmp_ne (tgt := 19) hx hb dX12_opens_6 (by decide) (fun c_1 => ?_) (fun c_1 => ?_)
  · have c_1 : (i 26).toInt ≠ 6 := b_ne c_1
    refine lv_aload_n hx hb dX12_opens_19 rfl (lv_at hl 0 rfl) ?_
    refine lv_aload_n hx hb dX12_opens_20 rfl (lv_at hl 0 rfl) ?_
    refine va_get (D := D) (ci := 12) (v := .int (i 26)) (C := RX12) (T := TX12) (N := 91) hx hb hT iX12 hown hK hP 0 rfl rfl 26 (by decide) (hT _ t_848) (fun _ h9 => h9) rfl dX12_opens_21 ?_
    refine lv_iconst (v := 1) hx hb dX12_opens_24 (by decide) ?_
    refine lv_iadd hx hb dX12_opens_25 ?_
    refine lv_topi (fun v_2 ev_2 => ?_)
    refine va_put (D := D) (ci := 12) (v := .int v_2) (ty := .int) (C := RX12) (T := TX12) (N := 91) hx hb hT iX12 tyX12 tyX12_ok nmX12 hown hK hP hD hS 0 rfl rfl 26 (by decide) (hT _ t_848) (fun _ h9 => h9) rfl (by decide +kernel) rfl rfl (Nat.le_of_ble_eq_true rfl) dX12_opens_26 (fun H locs hP hD hS => ?_)
    rw [mP26] at hP hD
    have hRi := Ri_upd hRi 26 v_2 (b_rg _)
    have hEi := Ei_upd hEi 26 v_2 (by decide)
    refine lv_aload_n hx hb dX12_opens_29 rfl (lv_at hl 0 rfl) ?_
    refine va_get (D := D) (ci := 12) (v := .ref (a 22)) (C := RX12) (T := TX12) (N := 91) hx hb hT iX12 hown hK hP 0 rfl rfl 33 (by decide) (hT _ t_789) (fun _ h9 => h9) rfl dX12_opens_30 ?_
    refine lv_aload_n hx hb dX12_opens_33 rfl (lv_at hl 0 rfl) ?_
    refine va_get (D := D) (ci := 12) (v := .int (i 28)) (C := RX12) (T := TX12) (N := 91) hx hb hT iX12 hown hK hP 0 rfl rfl 28 (by decide) (hT _ t_849) (fun _ h9 => h9) rfl dX12_opens_34 ?_
    have hg_3 : 0 ≤ (i 28).toInt ∧ (i 28).toInt ≤ 220 := hRi 28
    refine lv_ldcw (v := 1048576) hx hb hown (hT _ t_84) dX12_opens_37 ?_
    refine lv_iload_n hx hb dX12_opens_40 rfl (lv_at hl 1 rfl) ?_
    refine lv_imul hx hb dX12_opens_41 ?_
    refine lv_topi (fun v_4 ev_4 => ?_)
    have hv_4 : v_4.toInt = 1048576 * p0.toInt := by rw [ev_4]; have := b_rg p0; exact i_mul (a := 1048576) (b := p0.toInt) rfl rfl (by omega) (by omega)
    refine va_iast hx hb hK hP hD hS 22 0 rfl rfl (vp_inI (by omega) (by omega)) dX12_opens_42 (fun H locs hP hD hS => ?_)
    rw [mS22] at hP hD
    have hRr : mRr (va_up r 22 (upd (r 22) ((i 28).toNatClampNeg) v_4)) := Rr_upd hRr 22 ((i 28).toNatClampNeg) v_4 (b_rg _)
    have hEr : mEr [22] _ (va_up r 22 (upd (r 22) ((i 28).toNatClampNeg) v_4)) := Er_up hEr 22 _ (by decide)
    refine lv_aload_n hx hb dX12_opens_43 rfl (lv_at hl 0 rfl) ?_
    refine lv_aload_n hx hb dX12_opens_44 rfl (lv_at hl 0 rfl) ?_
    refine va_get (D := D) (ci := 12) (v := .int (i 28)) (C := RX12) (T := TX12) (N := 91) hx hb hT iX12 hown hK hP 0 rfl rfl 28 (by decide) (hT _ t_849) (fun _ h9 => h9) rfl dX12_opens_45 ?_
    refine lv_iconst (v := 1) hx hb dX12_opens_48 (by decide) ?_
    refine lv_iadd hx hb dX12_opens_49 ?_
    refine lv_topi (fun v_5 ev_5 => ?_)
    have hv_5 : v_5.toInt = (i 28).toInt + 1 := by rw [ev_5]; have := b_rg (i 28); exact i_add (a := (i 28).toInt) (b := 1) rfl rfl (by omega) (by omega)
    refine va_put (D := D) (ci := 12) (v := .int v_5) (ty := .int) (C := RX12) (T := TX12) (N := 91) hx hb hT iX12 tyX12 tyX12_ok nmX12 hown hK hP hD hS 0 rfl rfl 28 (by decide) (hT _ t_849) (fun _ h9 => h9) rfl (by decide +kernel) rfl rfl (Nat.le_of_ble_eq_true rfl) dX12_opens_50 (fun H locs hP hD hS => ?_)
    rw [mP28] at hP hD
    have hRi := Ri_upd hRi 28 v_5 ⟨by show (0 : Int) ≤ v_5.toInt; omega, by show v_5.toInt ≤ (220 : Int); omega⟩
    have hEi := Ei_upd hEi 28 v_5 (by decide)
    refine lv_aload_n hx hb dX12_opens_53 rfl (lv_at hl 0 rfl) ?_
    refine lv_aload_n hx hb dX12_opens_54 rfl (lv_at hl 0 rfl) ?_
    refine va_get (D := D) (ci := 12) (v := .int (i 23)) (C := RX12) (T := TX12) (N := 91) hx hb hT iX12 hown hK hP 0 rfl rfl 23 (by decide) (hT _ t_252) (fun _ h9 => h9) rfl dX12_opens_55 ?_
    have hg_6 : 0 ≤ (i 23).toInt ∧ (i 23).toInt ≤ 200 := hRi 23
    refine lv_iconst (v := 1) hx hb dX12_opens_58 (by decide) ?_
    refine lv_iadd hx hb dX12_opens_59 ?_
    refine lv_topi (fun v_7 ev_7 => ?_)
    have hv_7 : v_7.toInt = (i 23).toInt + 1 := by rw [ev_7]; have := b_rg (i 23); exact i_add (a := (i 23).toInt) (b := 1) rfl rfl (by omega) (by omega)
    refine va_put (D := D) (ci := 12) (v := .int v_7) (ty := .int) (C := RX12) (T := TX12) (N := 91) hx hb hT iX12 tyX12 tyX12_ok nmX12 hown hK hP hD hS 0 rfl rfl 23 (by decide) (hT _ t_252) (fun _ h9 => h9) rfl (by decide +kernel) rfl rfl (Nat.le_of_ble_eq_true rfl) dX12_opens_60 (fun H locs hP hD hS => ?_)
    rw [mP23] at hP hD
    have hRi := Ri_upd hRi 23 v_7 ⟨by show (0 : Int) ≤ v_7.toInt; omega, by show v_7.toInt ≤ (200 : Int); omega⟩
    have hEi := Ei_upd hEi 23 v_7 (by decide)
    refine lv_iconst (v := 1) hx hb dX12_opens_63 (by decide) ?_
    subst hQ
    exact W.zret hx hb hr rfl (fun t ht hW => ⟨⟨_, (upd (upd (upd i 26 v_2) 28 v_5) 23 v_7, va_up r 22 (upd (r 22) ((i 28).toNatClampNeg) v_4)), rfl, ⟨hRi, hRr, hEi, hEr, (Or.inl ⟨rfl, by show v_5.toInt = _; omega, by show v_7.toInt = _; omega, v_4, by omega, rfl⟩)⟩, by rw [ht]; exact hP, va_K.moved hW.alike hK, hD⟩, hS.F ht⟩) hS.2.2 dX12_opens_64
  · have c_1 : (i 26).toInt = 6 := b_nne c_1
    refine lv_aload_n hx hb dX12_opens_9 rfl (lv_at hl 0 rfl) ?_
    refine lv_iconst (v := 5) hx hb dX12_opens_10 (by decide) ?_
    refine lv_aload_n hx hb dX12_opens_11 rfl (lv_at hl 0 rfl) ?_
    refine va_get (D := D) (ci := 12) (v := .int (i 23)) (C := RX12) (T := TX12) (N := 91) hx hb hT iX12 hown hK hP 0 rfl rfl 23 (by decide) (hT _ t_252) (fun _ h9 => h9) rfl dX12_opens_12 ?_
    have hg_8 : 0 ≤ (i 23).toInt ∧ (i 23).toInt ≤ 200 := hRi 23
    have hF_9 := rF hD hS hA
    refine va_calli (va_runV (As := [.int 5, .int (i 23)]) (rest := []) ⟨hx, hb, hml, hown, hT⟩ (c_X12_wrongAt l D cy a i r rl 5 (i 23) _ hRi hRr) (cwV 2 hT (gV t_259 t_260 t_261 t_262 t_6) rfl rfl rfl (by decide +kernel) ⟨Nat.le_of_ble_eq_true rfl, Nat.le_of_ble_eq_true rfl⟩) (rQ_v hP hK hD (va_recv hK hP (ci := 12) (q0 := 0) rfl rfl)) rfl rfl hl.1 rfl (lv_room (Nat.le_of_ble_eq_true rfl)) dX12_opens_15 ⟨Nat.le_of_ble_eq_true rfl, Nat.le_of_ble_eq_true rfl⟩) hS (fun q _ h => hF_9 q h) hF_9 (fun r_10 u_11 t H1 locs ht hvm hr_10 hB hz1 hk1 hS => ?_)
    obtain ⟨i11, r11⟩ := u_11
    obtain ⟨hP, hK1, hD1⟩ := hB
    rw [ht] at hP
    have hD := hD1.weaken (fun k q _ h => hF_9 q.1 h)
    have hP : va_P D vwCl (mW cy a i11 r11 rl) H1 := hP
    have hD : va_D A (mW cy a i11 r11 rl) := hD
    obtain ⟨hRi, hRr, hE1, hE2, hr_10⟩ := hr_10
    have hRi : mRi i11 := hRi
    have hRr : mRr r11 := hRr
    have hEi : mEi [23, 25, 26, 28] _ i11 := Ei_tr hEi hE1 (by decide)
    have hEr : mEr [22] _ r11 := Er_tr hEr hE2 (by decide)
    subst hr_10
    subst hQ
    exact W.zret hx hb hr rfl (fun t ht hW => ⟨⟨_, (i11, r11), rfl, ⟨hRi, hRr, hEi, hEr, (Or.inr rfl)⟩, by rw [ht]; exact hP, va_K.moved hW.alike hK, hD⟩, hS.F ht⟩) hS.2.2 dX12_opens_18
set_option maxHeartbeats 4000000 in
set_option maxRecDepth 100000 in
theorem c_X12_top (l : Launch) (D : va_G) (cy : Nat → ClassId) (a : Nat → Nat) (i : Nat → Int32) (r : Nat → Nat → Int32) (rl : Nat → Int64) (hRi : mRi i) (hRr : mRr r) (hw : ∀ j : Nat, j < (i 28).toInt.toNat → 0 ≤ (r 22 j).toInt) : Met l yX12_top (Cond.code yX12_top cX12_top 1 (some .int) :: gT) { frames := 1, cells := 0, slots := 0, locals := 24 } (va_Pc [.ref (a 0)] (rP D cy (mW cy a i r rl))) (vp_Si (fun z => z.toInt = topv i r)) 0 0 (fun _ => False) := by
  refine Met.ofQ (cc := cX12_top) (maxL := 1) (ret := (some .int)) (by decide) rfl ?_
  intro p e s m args below meth c s₁ B hml hv Q hQ
  obtain ⟨rfl, hP, hK⟩ := hv
  have hx := B.exec
  have hb := B.bytes
  have hr := B.returns
  have hlocks := B.notSynchronized
  have hT : ∀ w ∈ gT, w.before _ s = true := fun w h => atoms_spec (ws := (Cond.code yX12_top cX12_top 1 (some .int) :: gT)) B.pre w (List.mem_cons_of_mem _ h)
  have hown : s.vm.findClass RX12 = some m.cls := findClass_of_methodNamed B.named
  have hl := lv_entry ([.ref (a 0)]) (n := 1) (Nat.le_of_ble_eq_true rfl)
  rw [lg_entry_eq]
  generalize (lg_sl ([.ref (a 0)]) ++ List.replicate (1 - (lg_sl ([.ref (a 0)])).length) Slot.unset).toArray = ls at hl ⊢
  have hl : lv_has ls 1 [(0, .ref (a 0))] := hl
  have hEi : mEi [23, 24, 25, 26, 27, 28, 29, 30, 60] i i := Ei_rf
  have hEr : mEr [21, 22, 23, 24, 25, 26, 32, 33, 34, 35, 36, 37, 38, 39, 48, 49, 57, 61, 62] r r := Er_rf
  have hg28 : 0 ≤ (i 28).toInt ∧ (i 28).toInt ≤ 220 := hRi 28
  refine lv_aload_n hx hb dX12_top_0 rfl (lv_at hl 0 rfl) ?_
  refine va_get (D := D) (ci := 12) (v := .int (i 28)) (C := RX12) (T := TX12) (N := 91) hx hb hT iX12 hown hK hP 0 rfl rfl 28 (by decide) (hT _ t_849) (fun _ h9 => h9) rfl dX12_top_1 ?_
  have hg_1 : 0 ≤ (i 28).toInt ∧ (i 28).toInt ≤ 220 := hRi 28
  refine lv_if_ne (tgt := 11) hx hb dX12_top_4 (by decide) (fun c_2 => ?_) (fun c_2 => ?_)
  · have c_2 : (i 28).toInt ≠ 0 := b_ne c_2
    refine lv_aload_n hx hb dX12_top_11 rfl (lv_at hl 0 rfl) ?_
    refine va_get (D := D) (ci := 12) (v := .ref (a 22)) (C := RX12) (T := TX12) (N := 91) hx hb hT iX12 hown hK hP 0 rfl rfl 33 (by decide) (hT _ t_789) (fun _ h9 => h9) rfl dX12_top_12 ?_
    refine lv_aload_n hx hb dX12_top_15 rfl (lv_at hl 0 rfl) ?_
    refine va_get (D := D) (ci := 12) (v := .int (i 28)) (C := RX12) (T := TX12) (N := 91) hx hb hT iX12 hown hK hP 0 rfl rfl 28 (by decide) (hT _ t_849) (fun _ h9 => h9) rfl dX12_top_16 ?_
    refine lv_iconst (v := 1) hx hb dX12_top_19 (by decide) ?_
    refine lv_isub hx hb dX12_top_20 ?_
    refine lv_topi (fun v_3 ev_3 => ?_)
    have hv_3 : v_3.toInt = (i 28).toInt - 1 := by rw [ev_3]; have := b_rg (i 28); exact i_sub (a := (i 28).toInt) (b := 1) rfl rfl (by omega) (by omega)
    refine va_iald hx hb hK hP 22 0 rfl rfl (vp_inI (by omega) (by omega)) dX12_top_21 ?_
    refine lv_topi (fun v_4 ev_4 => ?_)
    refine lv_ldcw (v := 1048576) hx hb hown (hT _ t_84) dX12_top_22 ?_
    refine lv_idiv hx hb dX12_top_25 (by decide) ?_
    refine lv_topi (fun v_5 ev_5 => ?_)
    subst hQ
    exact W.iret (v := v_5) hx hb hr (fun t ht hW => ⟨_, rfl, (by have hix : v_3.toNatClampNeg = (i 28).toInt.toNat - 1 := (by show v_3.toInt.toNat = _; omega); have h0 := hw ((i 28).toInt.toNat - 1) (by omega); rw [ev_5, ev_4, hix]; unfold topv; rw [if_neg (by omega)]; exact idivU h0), ht⟩) (fun q hq => absurd hq List.not_mem_nil) dX12_top_26
  · have c_2 : (i 28).toInt = 0 := b_nne c_2
    refine lv_iconst (v := (-1)) hx hb dX12_top_7 (by decide) ?_
    refine lv_goto (tgt := 26) hx hb dX12_top_8 (by decide) ?_
    subst hQ
    exact W.iret (v := (-1)) hx hb hr (fun t ht hW => ⟨_, rfl, (by unfold topv; rw [if_pos (by omega)]; rfl), ht⟩) (fun q hq => absurd hq List.not_mem_nil) dX12_top_26
def hasO (w : Nat → Int32) (b m : Nat) : Prop := ∃ k : Nat, b ≤ k ∧ k < m ∧ cOp (w k) = 14
def noO (w : Nat → Int32) (b m : Nat) : Prop := ∀ k : Nat, b ≤ k → k < m → cOp (w k) ≠ 14
set_option maxHeartbeats 4000000 in
set_option maxRecDepth 100000 in
theorem c_X12_hasOpenSum (l : Launch) (D : va_G) (cy : Nat → ClassId) (a : Nat → Nat) (i : Nat → Int32) (r : Nat → Nat → Int32) (rl : Nat → Int64) (p0 : Int32) (hRi : mRi i) (hRr : mRr r) (q0 : 0 ≤ p0.toInt ∧ p0.toInt ≤ 220) (hw : ∀ j : Nat, j < (i 28).toInt.toNat → 0 ≤ (r 22 j).toInt) : Met l yX12_hasOpenSum (Cond.code yX12_hasOpenSum cX12_hasOpenSum 3 (some .boolean) :: gT) { frames := 1, cells := 0, slots := 0, locals := 24 } (va_Pc [.ref (a 0), .int p0] (rP D cy (mW cy a i r rl))) (vp_Si (fun z => BR z (hasO (r 22) p0.toInt.toNat (i 28).toInt.toNat) 1 0)) 0 0 (fun _ => False) := by
  refine Met.ofQ (cc := cX12_hasOpenSum) (maxL := 3) (ret := (some .boolean)) (by decide) rfl ?_
  intro p e s m args below meth c s₁ B hml hv Q hQ
  obtain ⟨rfl, hP, hK⟩ := hv
  have hx := B.exec
  have hb := B.bytes
  have hr := B.returns
  have hlocks := B.notSynchronized
  have hT : ∀ w ∈ gT, w.before _ s = true := fun w h => atoms_spec (ws := (Cond.code yX12_hasOpenSum cX12_hasOpenSum 3 (some .boolean) :: gT)) B.pre w (List.mem_cons_of_mem _ h)
  have hown : s.vm.findClass RX12 = some m.cls := findClass_of_methodNamed B.named
  have hl := lv_entry ([.ref (a 0), .int p0]) (n := 3) (Nat.le_of_ble_eq_true rfl)
  rw [lg_entry_eq]
  generalize (lg_sl ([.ref (a 0), .int p0]) ++ List.replicate (3 - (lg_sl ([.ref (a 0), .int p0])).length) Slot.unset).toArray = ls at hl ⊢
  have hl : lv_has ls 3 [(0, .ref (a 0)), (1, .int p0)] := hl
  have hEi : mEi [23, 24, 25, 26, 27, 28, 29, 30, 60] i i := Ei_rf
  have hEr : mEr [21, 22, 23, 24, 25, 26, 32, 33, 34, 35, 36, 37, 38, 39, 48, 49, 57, 61, 62] r r := Er_rf
  have hg28 : 0 ≤ (i 28).toInt ∧ (i 28).toInt ≤ 220 := hRi 28
  refine lv_iload_n hx hb dX12_hasOpenSum_0 rfl (lv_at hl 1 rfl) ?_
  refine lv_istore_n (lv' := [(2, .int p0), (0, .ref (a 0)), (1, .int p0)]) hx hb dX12_hasOpenSum_1 rfl hl (by decide) rfl (fun ls hl => ?_)
  have loop_1 : ∀ (n : Nat) (x1_2 : Int32) (ls : Array Slot), (220 - x1_2.toInt).toNat < n → (0 ≤ x1_2.toInt ∧ x1_2.toInt ≤ 220) → (noO (r 22) p0.toInt.toNat x1_2.toInt.toNat ∧ p0.toInt ≤ x1_2.toInt) → lv_has ls 3 [(2, .int x1_2), (0, .ref (a 0)), (1, .int p0)] → W p l e ({ frames := 1, cells := 0, slots := 0, locals := 24 } : Room) s m ([.ref (a 0), .int p0] : List Value).toArray below meth c s.heap [] 0 0 Q (F0 m 2 ls []) := by
    intro n
    induction n with
    | zero =>
      intro x1_2 ls hm1 hf1_0 hx1 hl
      exact absurd hm1 (by omega)
    | succ n ih1 =>
      intro x1_2 ls hm1 hf1_0 hx1 hl
      refine lv_iload_n hx hb dX12_hasOpenSum_2 rfl (lv_at hl 0 rfl) ?_
      refine lv_aload_n hx hb dX12_hasOpenSum_3 rfl (lv_at hl 1 rfl) ?_
      refine va_get (D := D) (ci := 12) (v := .int (i 28)) (C := RX12) (T := TX12) (N := 91) hx hb hT iX12 hown hK hP 0 rfl rfl 28 (by decide) (hT _ t_849) (fun _ h9 => h9) rfl dX12_hasOpenSum_4 ?_
      have hg_2 : 0 ≤ (i 28).toInt ∧ (i 28).toInt ≤ 220 := hRi 28
      refine lv_icmp_ge (tgt := 33) hx hb dX12_hasOpenSum_7 (by decide) (fun c_3 => ?_) (fun c_3 => ?_)
      · have c_3 : (i 28).toInt ≤ x1_2.toInt := b_le c_3
        refine lv_iconst (v := 0) hx hb dX12_hasOpenSum_33 (by decide) ?_
        subst hQ
        exact W.zret hx hb hr rfl (fun t ht hW => ⟨_, rfl, Or.inr ⟨rfl, fun h9 => by obtain ⟨k, h1, h2, h3⟩ := h9; exact hx1.1 k h1 (by omega) h3⟩, ht⟩) (fun q hq => absurd hq List.not_mem_nil) dX12_hasOpenSum_34
      · have c_3 : x1_2.toInt < (i 28).toInt := b_nle c_3
        refine lv_aload_n hx hb dX12_hasOpenSum_10 rfl (lv_at hl 1 rfl) ?_
        refine va_get (D := D) (ci := 12) (v := .ref (a 22)) (C := RX12) (T := TX12) (N := 91) hx hb hT iX12 hown hK hP 0 rfl rfl 33 (by decide) (hT _ t_789) (fun _ h9 => h9) rfl dX12_hasOpenSum_11 ?_
        refine lv_iload_n hx hb dX12_hasOpenSum_14 rfl (lv_at hl 0 rfl) ?_
        refine va_iald hx hb hK hP 22 0 rfl rfl (vp_inI (by omega) (by omega)) dX12_hasOpenSum_15 ?_
        refine lv_topi (fun v_4 ev_4 => ?_)
        refine lv_ldcw (v := 1048576) hx hb hown (hT _ t_84) dX12_hasOpenSum_16 ?_
        refine lv_idiv hx hb dX12_hasOpenSum_19 (by decide) ?_
        refine lv_topi (fun v_5 ev_5 => ?_)
        have hop : v_5.toInt = cOp (r 22 x1_2.toInt.toNat) := by rw [ev_5, ev_4]; exact idivU (hw _ (by show x1_2.toInt.toNat < _; omega))
        refine lv_bipush (v := 14) hx hb dX12_hasOpenSum_20 (by decide) ?_
        refine lv_icmp_ne (tgt := 27) hx hb dX12_hasOpenSum_22 (by decide) (fun c_6 => ?_) (fun c_6 => ?_)
        · have c_6 : v_5.toInt ≠ 14 := b_ne c_6
          obtain ⟨x_7, ex_7⟩ : ∃ y : Int32, y = x1_2 + 1 := ⟨_, rfl⟩
          refine lv_iinc (v := x_7) (lv' := [(2, .int x_7), (0, .ref (a 0)), (1, .int p0)]) hx hb dX12_hasOpenSum_27 hl (k := 0) rfl (by rw [ex_7]; rfl) (by decide) rfl (fun ls hl => ?_)
          have hx_7 : x_7.toInt = x1_2.toInt + 1 := by rw [ex_7]; have := b_rg x1_2; exact i_add (a := x1_2.toInt) (b := 1) rfl rfl (by omega) (by omega)
          refine lv_goto (tgt := 2) hx hb dX12_hasOpenSum_30 (by decide) ?_
          have hst : noO (r 22) p0.toInt.toNat x_7.toInt.toNat := by
            intro k h1 h2
            by_cases h9 : k = x1_2.toInt.toNat
            · rw [h9, ← hop]; omega
            · exact hx1.1 k h1 (by omega)
          exact ih1 x_7 _ (by first | omega | (simp only [Int.toNat]; omega)) (by first | omega | decide)  ⟨hst, by omega⟩  (lv_sub hl [0, 1, 2] rfl)
        · have c_6 : v_5.toInt = 14 := b_nne c_6
          refine lv_iconst (v := 1) hx hb dX12_hasOpenSum_25 (by decide) ?_
          subst hQ
          exact W.zret hx hb hr rfl (fun t ht hW => ⟨_, rfl, Or.inl ⟨rfl, x1_2.toInt.toNat, by omega, by omega, by rw [← hop]; omega⟩, ht⟩) (fun q hq => absurd hq List.not_mem_nil) dX12_hasOpenSum_26
  exact loop_1 _ p0 _ (Nat.lt_succ_self _) (by first | omega | decide)  ⟨fun k h1 h2 => absurd h2 (by omega), by omega⟩  hl
