set_option maxRecDepth 100000 in
theorem t_842 : Cond.fieldLink RX12 279 "DepositJudgeModel" "number0" "I" ∈ gT := tm (tb4 (List.mem_of_getElem? (i := 227) (by rfl))) (by decide +kernel)
set_option maxRecDepth 100000 in
theorem t_843 : Cond.code yX12_isDigit cX12_isDigit 1 (some .boolean) ∈ gT := tm (tb6 (List.mem_of_getElem? (i := 78) (by rfl))) (by decide +kernel)
set_option maxRecDepth 100000 in
theorem t_844 : Cond.methodLink RX12 282 yX12_isDigit ∈ gT := tm (tb6 (List.mem_of_getElem? (i := 75) (by rfl))) (by decide +kernel)
set_option maxRecDepth 100000 in
theorem t_845 : Cond.instanceMethod yX12_isDigit ∈ gT := tm (tb6 (List.mem_of_getElem? (i := 77) (by rfl))) (by decide +kernel)
theorem t_846 : Cond.selects RX12 yX12_isDigit yX12_isDigit ∈ gT := tmp (List.mem_of_getElem? (i := 40) (by decide +kernel)) (by decide +kernel)
set_option maxRecDepth 100000 in
theorem t_847 : Cond.fieldLink RX12 286 "DepositJudgeModel" "codeMany" "I" ∈ gT := tm (tb4 (List.mem_of_getElem? (i := 224) (by rfl))) (by decide +kernel)
set_option maxRecDepth 100000 in
theorem t_848 : Cond.fieldLink RX12 290 "DepositJudgeModel" "open" "I" ∈ gT := tm (tb4 (List.mem_of_getElem? (i := 223) (by rfl))) (by decide +kernel)
set_option maxRecDepth 100000 in
theorem t_849 : Cond.fieldLink RX12 293 "DepositJudgeModel" "waiting" "I" ∈ gT := tm (tb4 (List.mem_of_getElem? (i := 225) (by rfl))) (by decide +kernel)
def dl_500 : List (Nat × (Instr × Nat)) := [(0, (.iload_n 1, 1)), (1, (.istore_n 2, 1)), (2, (.iload_n 2, 1)), (3, (.aload_n 0, 1)), (4, (.getfield 293, 3)), (7, (.if_icmp .ge 26, 3)), (10, (.aload_n 0, 1)), (11, (.getfield 75, 3)), (14, (.iload_n 2, 1)), (15, (.iaload, 1)), (16, (.ldc_w 289, 3)), (19, (.idiv, 1)), (20, (.bipush 14, 2)), (22, (.if_icmp .ne 5, 3)), (25, (.iconst 1, 1)), (26, (.ireturn, 1)), (27, (.iinc 2 1, 3)), (30, (.goto (-28), 3)), (33, (.iconst 0, 1)), (34, (.ireturn, 1))]
theorem dh_500 : dchk cX12_hasOpenSum dl_500 = true := by decide +kernel
theorem dX12_hasOpenSum_0 : decode cX12_hasOpenSum 0 = .ok (.iload_n 1, 1) := dget dh_500 (k := 0) rfl
theorem dX12_hasOpenSum_1 : decode cX12_hasOpenSum 1 = .ok (.istore_n 2, 1) := dget dh_500 (k := 1) rfl
theorem dX12_hasOpenSum_2 : decode cX12_hasOpenSum 2 = .ok (.iload_n 2, 1) := dget dh_500 (k := 2) rfl
theorem dX12_hasOpenSum_3 : decode cX12_hasOpenSum 3 = .ok (.aload_n 0, 1) := dget dh_500 (k := 3) rfl
theorem dX12_hasOpenSum_4 : decode cX12_hasOpenSum 4 = .ok (.getfield 293, 3) := dget dh_500 (k := 4) rfl
theorem dX12_hasOpenSum_7 : decode cX12_hasOpenSum 7 = .ok (.if_icmp .ge 26, 3) := dget dh_500 (k := 5) rfl
theorem dX12_hasOpenSum_10 : decode cX12_hasOpenSum 10 = .ok (.aload_n 0, 1) := dget dh_500 (k := 6) rfl
theorem dX12_hasOpenSum_11 : decode cX12_hasOpenSum 11 = .ok (.getfield 75, 3) := dget dh_500 (k := 7) rfl
theorem dX12_hasOpenSum_14 : decode cX12_hasOpenSum 14 = .ok (.iload_n 2, 1) := dget dh_500 (k := 8) rfl
theorem dX12_hasOpenSum_15 : decode cX12_hasOpenSum 15 = .ok (.iaload, 1) := dget dh_500 (k := 9) rfl
theorem dX12_hasOpenSum_16 : decode cX12_hasOpenSum 16 = .ok (.ldc_w 289, 3) := dget dh_500 (k := 10) rfl
theorem dX12_hasOpenSum_19 : decode cX12_hasOpenSum 19 = .ok (.idiv, 1) := dget dh_500 (k := 11) rfl
theorem dX12_hasOpenSum_20 : decode cX12_hasOpenSum 20 = .ok (.bipush 14, 2) := dget dh_500 (k := 12) rfl
theorem dX12_hasOpenSum_22 : decode cX12_hasOpenSum 22 = .ok (.if_icmp .ne 5, 3) := dget dh_500 (k := 13) rfl
theorem dX12_hasOpenSum_25 : decode cX12_hasOpenSum 25 = .ok (.iconst 1, 1) := dget dh_500 (k := 14) rfl
theorem dX12_hasOpenSum_26 : decode cX12_hasOpenSum 26 = .ok (.ireturn, 1) := dget dh_500 (k := 15) rfl
theorem dX12_hasOpenSum_27 : decode cX12_hasOpenSum 27 = .ok (.iinc 2 1, 3) := dget dh_500 (k := 16) rfl
theorem dX12_hasOpenSum_30 : decode cX12_hasOpenSum 30 = .ok (.goto (-28), 3) := dget dh_500 (k := 17) rfl
theorem dX12_hasOpenSum_33 : decode cX12_hasOpenSum 33 = .ok (.iconst 0, 1) := dget dh_500 (k := 18) rfl
theorem dX12_hasOpenSum_34 : decode cX12_hasOpenSum 34 = .ok (.ireturn, 1) := dget dh_500 (k := 19) rfl
def dl_501 : List (Nat × (Instr × Nat)) := [(0, (.aload_n 0, 1)), (1, (.getfield 72, 3)), (4, (.aload_n 0, 1)), (5, (.getfield 286, 3)), (8, (.ldc_w 289, 3)), (11, (.iload_n 1, 1)), (12, (.imul, 1)), (13, (.iload_n 2, 1)), (14, (.iadd, 1)), (15, (.iastore, 1)), (16, (.aload_n 0, 1)), (17, (.aload_n 0, 1)), (18, (.getfield 286, 3)), (21, (.iconst 1, 1)), (22, (.iadd, 1)), (23, (.putfield 286, 3)), (26, (.return_, 1))]
theorem dh_501 : dchk cX12_notes dl_501 = true := by decide +kernel
theorem dX12_notes_0 : decode cX12_notes 0 = .ok (.aload_n 0, 1) := dget dh_501 (k := 0) rfl
theorem dX12_notes_1 : decode cX12_notes 1 = .ok (.getfield 72, 3) := dget dh_501 (k := 1) rfl
theorem dX12_notes_4 : decode cX12_notes 4 = .ok (.aload_n 0, 1) := dget dh_501 (k := 2) rfl
theorem dX12_notes_5 : decode cX12_notes 5 = .ok (.getfield 286, 3) := dget dh_501 (k := 3) rfl
theorem dX12_notes_8 : decode cX12_notes 8 = .ok (.ldc_w 289, 3) := dget dh_501 (k := 4) rfl
theorem dX12_notes_11 : decode cX12_notes 11 = .ok (.iload_n 1, 1) := dget dh_501 (k := 5) rfl
theorem dX12_notes_12 : decode cX12_notes 12 = .ok (.imul, 1) := dget dh_501 (k := 6) rfl
theorem dX12_notes_13 : decode cX12_notes 13 = .ok (.iload_n 2, 1) := dget dh_501 (k := 7) rfl
theorem dX12_notes_14 : decode cX12_notes 14 = .ok (.iadd, 1) := dget dh_501 (k := 8) rfl
theorem dX12_notes_15 : decode cX12_notes 15 = .ok (.iastore, 1) := dget dh_501 (k := 9) rfl
theorem dX12_notes_16 : decode cX12_notes 16 = .ok (.aload_n 0, 1) := dget dh_501 (k := 10) rfl
theorem dX12_notes_17 : decode cX12_notes 17 = .ok (.aload_n 0, 1) := dget dh_501 (k := 11) rfl
theorem dX12_notes_18 : decode cX12_notes 18 = .ok (.getfield 286, 3) := dget dh_501 (k := 12) rfl
theorem dX12_notes_21 : decode cX12_notes 21 = .ok (.iconst 1, 1) := dget dh_501 (k := 13) rfl
theorem dX12_notes_22 : decode cX12_notes 22 = .ok (.iadd, 1) := dget dh_501 (k := 14) rfl
theorem dX12_notes_23 : decode cX12_notes 23 = .ok (.putfield 286, 3) := dget dh_501 (k := 15) rfl
theorem dX12_notes_26 : decode cX12_notes 26 = .ok (.return_, 1) := dget dh_501 (k := 16) rfl
def dl_502 : List (Nat × (Instr × Nat)) := [(0, (.aload_n 0, 1)), (1, (.getfield 290, 3)), (4, (.bipush 6, 2)), (6, (.if_icmp .ne 13, 3)), (9, (.aload_n 0, 1)), (10, (.iconst 5, 1)), (11, (.aload_n 0, 1)), (12, (.getfield 262, 3)), (15, (.invokevirtual 275, 3)), (18, (.ireturn, 1)), (19, (.aload_n 0, 1)), (20, (.aload_n 0, 1)), (21, (.getfield 290, 3)), (24, (.iconst 1, 1)), (25, (.iadd, 1)), (26, (.putfield 290, 3)), (29, (.aload_n 0, 1)), (30, (.getfield 75, 3)), (33, (.aload_n 0, 1)), (34, (.getfield 293, 3))]
theorem dh_502 : dchk cX12_opens dl_502 = true := by decide +kernel
theorem dX12_opens_0 : decode cX12_opens 0 = .ok (.aload_n 0, 1) := dget dh_502 (k := 0) rfl
theorem dX12_opens_1 : decode cX12_opens 1 = .ok (.getfield 290, 3) := dget dh_502 (k := 1) rfl
theorem dX12_opens_4 : decode cX12_opens 4 = .ok (.bipush 6, 2) := dget dh_502 (k := 2) rfl
theorem dX12_opens_6 : decode cX12_opens 6 = .ok (.if_icmp .ne 13, 3) := dget dh_502 (k := 3) rfl
theorem dX12_opens_9 : decode cX12_opens 9 = .ok (.aload_n 0, 1) := dget dh_502 (k := 4) rfl
theorem dX12_opens_10 : decode cX12_opens 10 = .ok (.iconst 5, 1) := dget dh_502 (k := 5) rfl
theorem dX12_opens_11 : decode cX12_opens 11 = .ok (.aload_n 0, 1) := dget dh_502 (k := 6) rfl
theorem dX12_opens_12 : decode cX12_opens 12 = .ok (.getfield 262, 3) := dget dh_502 (k := 7) rfl
theorem dX12_opens_15 : decode cX12_opens 15 = .ok (.invokevirtual 275, 3) := dget dh_502 (k := 8) rfl
theorem dX12_opens_18 : decode cX12_opens 18 = .ok (.ireturn, 1) := dget dh_502 (k := 9) rfl
theorem dX12_opens_19 : decode cX12_opens 19 = .ok (.aload_n 0, 1) := dget dh_502 (k := 10) rfl
theorem dX12_opens_20 : decode cX12_opens 20 = .ok (.aload_n 0, 1) := dget dh_502 (k := 11) rfl
theorem dX12_opens_21 : decode cX12_opens 21 = .ok (.getfield 290, 3) := dget dh_502 (k := 12) rfl
theorem dX12_opens_24 : decode cX12_opens 24 = .ok (.iconst 1, 1) := dget dh_502 (k := 13) rfl
theorem dX12_opens_25 : decode cX12_opens 25 = .ok (.iadd, 1) := dget dh_502 (k := 14) rfl
theorem dX12_opens_26 : decode cX12_opens 26 = .ok (.putfield 290, 3) := dget dh_502 (k := 15) rfl
theorem dX12_opens_29 : decode cX12_opens 29 = .ok (.aload_n 0, 1) := dget dh_502 (k := 16) rfl
theorem dX12_opens_30 : decode cX12_opens 30 = .ok (.getfield 75, 3) := dget dh_502 (k := 17) rfl
theorem dX12_opens_33 : decode cX12_opens 33 = .ok (.aload_n 0, 1) := dget dh_502 (k := 18) rfl
theorem dX12_opens_34 : decode cX12_opens 34 = .ok (.getfield 293, 3) := dget dh_502 (k := 19) rfl
def dl_503 : List (Nat × (Instr × Nat)) := [(37, (.ldc_w 289, 3)), (40, (.iload_n 1, 1)), (41, (.imul, 1)), (42, (.iastore, 1)), (43, (.aload_n 0, 1)), (44, (.aload_n 0, 1)), (45, (.getfield 293, 3)), (48, (.iconst 1, 1)), (49, (.iadd, 1)), (50, (.putfield 293, 3)), (53, (.aload_n 0, 1)), (54, (.aload_n 0, 1)), (55, (.getfield 262, 3)), (58, (.iconst 1, 1)), (59, (.iadd, 1)), (60, (.putfield 262, 3)), (63, (.iconst 1, 1)), (64, (.ireturn, 1))]
theorem dh_503 : dchk cX12_opens dl_503 = true := by decide +kernel
theorem dX12_opens_37 : decode cX12_opens 37 = .ok (.ldc_w 289, 3) := dget dh_503 (k := 0) rfl
theorem dX12_opens_40 : decode cX12_opens 40 = .ok (.iload_n 1, 1) := dget dh_503 (k := 1) rfl
theorem dX12_opens_41 : decode cX12_opens 41 = .ok (.imul, 1) := dget dh_503 (k := 2) rfl
theorem dX12_opens_42 : decode cX12_opens 42 = .ok (.iastore, 1) := dget dh_503 (k := 3) rfl
theorem dX12_opens_43 : decode cX12_opens 43 = .ok (.aload_n 0, 1) := dget dh_503 (k := 4) rfl
theorem dX12_opens_44 : decode cX12_opens 44 = .ok (.aload_n 0, 1) := dget dh_503 (k := 5) rfl
theorem dX12_opens_45 : decode cX12_opens 45 = .ok (.getfield 293, 3) := dget dh_503 (k := 6) rfl
theorem dX12_opens_48 : decode cX12_opens 48 = .ok (.iconst 1, 1) := dget dh_503 (k := 7) rfl
theorem dX12_opens_49 : decode cX12_opens 49 = .ok (.iadd, 1) := dget dh_503 (k := 8) rfl
theorem dX12_opens_50 : decode cX12_opens 50 = .ok (.putfield 293, 3) := dget dh_503 (k := 9) rfl
theorem dX12_opens_53 : decode cX12_opens 53 = .ok (.aload_n 0, 1) := dget dh_503 (k := 10) rfl
theorem dX12_opens_54 : decode cX12_opens 54 = .ok (.aload_n 0, 1) := dget dh_503 (k := 11) rfl
theorem dX12_opens_55 : decode cX12_opens 55 = .ok (.getfield 262, 3) := dget dh_503 (k := 12) rfl
theorem dX12_opens_58 : decode cX12_opens 58 = .ok (.iconst 1, 1) := dget dh_503 (k := 13) rfl
theorem dX12_opens_59 : decode cX12_opens 59 = .ok (.iadd, 1) := dget dh_503 (k := 14) rfl
theorem dX12_opens_60 : decode cX12_opens 60 = .ok (.putfield 262, 3) := dget dh_503 (k := 15) rfl
theorem dX12_opens_63 : decode cX12_opens 63 = .ok (.iconst 1, 1) := dget dh_503 (k := 16) rfl
theorem dX12_opens_64 : decode cX12_opens 64 = .ok (.ireturn, 1) := dget dh_503 (k := 17) rfl
def dl_504 : List (Nat × (Instr × Nat)) := [(0, (.aload_n 0, 1)), (1, (.getfield 262, 3)), (4, (.istore_n 1, 1)), (5, (.aload_n 0, 1)), (6, (.iconst 0, 1)), (7, (.putfield 279, 3)), (10, (.aload_n 0, 1)), (11, (.invokevirtual 282, 3)), (14, (.ifCond .eq 55, 3)), (17, (.aload_n 0, 1)), (18, (.getfield 262, 3)), (21, (.iload_n 1, 1)), (22, (.iconst 5, 1)), (23, (.iadd, 1)), (24, (.if_icmp .ne 13, 3)), (27, (.aload_n 0, 1)), (28, (.iconst 2, 1)), (29, (.aload_n 0, 1)), (30, (.getfield 262, 3)), (33, (.invokevirtual 275, 3))]
theorem dh_504 : dchk cX12_readsNumber dl_504 = true := by decide +kernel
theorem dX12_readsNumber_0 : decode cX12_readsNumber 0 = .ok (.aload_n 0, 1) := dget dh_504 (k := 0) rfl
theorem dX12_readsNumber_1 : decode cX12_readsNumber 1 = .ok (.getfield 262, 3) := dget dh_504 (k := 1) rfl
theorem dX12_readsNumber_4 : decode cX12_readsNumber 4 = .ok (.istore_n 1, 1) := dget dh_504 (k := 2) rfl
theorem dX12_readsNumber_5 : decode cX12_readsNumber 5 = .ok (.aload_n 0, 1) := dget dh_504 (k := 3) rfl
theorem dX12_readsNumber_6 : decode cX12_readsNumber 6 = .ok (.iconst 0, 1) := dget dh_504 (k := 4) rfl
theorem dX12_readsNumber_7 : decode cX12_readsNumber 7 = .ok (.putfield 279, 3) := dget dh_504 (k := 5) rfl
theorem dX12_readsNumber_10 : decode cX12_readsNumber 10 = .ok (.aload_n 0, 1) := dget dh_504 (k := 6) rfl
theorem dX12_readsNumber_11 : decode cX12_readsNumber 11 = .ok (.invokevirtual 282, 3) := dget dh_504 (k := 7) rfl
theorem dX12_readsNumber_14 : decode cX12_readsNumber 14 = .ok (.ifCond .eq 55, 3) := dget dh_504 (k := 8) rfl
theorem dX12_readsNumber_17 : decode cX12_readsNumber 17 = .ok (.aload_n 0, 1) := dget dh_504 (k := 9) rfl
theorem dX12_readsNumber_18 : decode cX12_readsNumber 18 = .ok (.getfield 262, 3) := dget dh_504 (k := 10) rfl
theorem dX12_readsNumber_21 : decode cX12_readsNumber 21 = .ok (.iload_n 1, 1) := dget dh_504 (k := 11) rfl
theorem dX12_readsNumber_22 : decode cX12_readsNumber 22 = .ok (.iconst 5, 1) := dget dh_504 (k := 12) rfl
theorem dX12_readsNumber_23 : decode cX12_readsNumber 23 = .ok (.iadd, 1) := dget dh_504 (k := 13) rfl
theorem dX12_readsNumber_24 : decode cX12_readsNumber 24 = .ok (.if_icmp .ne 13, 3) := dget dh_504 (k := 14) rfl
theorem dX12_readsNumber_27 : decode cX12_readsNumber 27 = .ok (.aload_n 0, 1) := dget dh_504 (k := 15) rfl
theorem dX12_readsNumber_28 : decode cX12_readsNumber 28 = .ok (.iconst 2, 1) := dget dh_504 (k := 16) rfl
theorem dX12_readsNumber_29 : decode cX12_readsNumber 29 = .ok (.aload_n 0, 1) := dget dh_504 (k := 17) rfl
theorem dX12_readsNumber_30 : decode cX12_readsNumber 30 = .ok (.getfield 262, 3) := dget dh_504 (k := 18) rfl
theorem dX12_readsNumber_33 : decode cX12_readsNumber 33 = .ok (.invokevirtual 275, 3) := dget dh_504 (k := 19) rfl
def dl_505 : List (Nat × (Instr × Nat)) := [(36, (.ireturn, 1)), (37, (.aload_n 0, 1)), (38, (.bipush 10, 2)), (40, (.aload_n 0, 1)), (41, (.getfield 279, 3)), (44, (.imul, 1)), (45, (.aload_n 0, 1)), (46, (.invokevirtual 268, 3)), (49, (.iadd, 1)), (50, (.bipush 48, 2)), (52, (.isub, 1)), (53, (.putfield 279, 3)), (56, (.aload_n 0, 1)), (57, (.aload_n 0, 1)), (58, (.getfield 262, 3)), (61, (.iconst 1, 1)), (62, (.iadd, 1)), (63, (.putfield 262, 3)), (66, (.goto (-56), 3)), (69, (.iconst 1, 1))]
theorem dh_505 : dchk cX12_readsNumber dl_505 = true := by decide +kernel
theorem dX12_readsNumber_36 : decode cX12_readsNumber 36 = .ok (.ireturn, 1) := dget dh_505 (k := 0) rfl
theorem dX12_readsNumber_37 : decode cX12_readsNumber 37 = .ok (.aload_n 0, 1) := dget dh_505 (k := 1) rfl
theorem dX12_readsNumber_38 : decode cX12_readsNumber 38 = .ok (.bipush 10, 2) := dget dh_505 (k := 2) rfl
theorem dX12_readsNumber_40 : decode cX12_readsNumber 40 = .ok (.aload_n 0, 1) := dget dh_505 (k := 3) rfl
theorem dX12_readsNumber_41 : decode cX12_readsNumber 41 = .ok (.getfield 279, 3) := dget dh_505 (k := 4) rfl
theorem dX12_readsNumber_44 : decode cX12_readsNumber 44 = .ok (.imul, 1) := dget dh_505 (k := 5) rfl
theorem dX12_readsNumber_45 : decode cX12_readsNumber 45 = .ok (.aload_n 0, 1) := dget dh_505 (k := 6) rfl
theorem dX12_readsNumber_46 : decode cX12_readsNumber 46 = .ok (.invokevirtual 268, 3) := dget dh_505 (k := 7) rfl
theorem dX12_readsNumber_49 : decode cX12_readsNumber 49 = .ok (.iadd, 1) := dget dh_505 (k := 8) rfl
theorem dX12_readsNumber_50 : decode cX12_readsNumber 50 = .ok (.bipush 48, 2) := dget dh_505 (k := 9) rfl
theorem dX12_readsNumber_52 : decode cX12_readsNumber 52 = .ok (.isub, 1) := dget dh_505 (k := 10) rfl
theorem dX12_readsNumber_53 : decode cX12_readsNumber 53 = .ok (.putfield 279, 3) := dget dh_505 (k := 11) rfl
theorem dX12_readsNumber_56 : decode cX12_readsNumber 56 = .ok (.aload_n 0, 1) := dget dh_505 (k := 12) rfl
theorem dX12_readsNumber_57 : decode cX12_readsNumber 57 = .ok (.aload_n 0, 1) := dget dh_505 (k := 13) rfl
theorem dX12_readsNumber_58 : decode cX12_readsNumber 58 = .ok (.getfield 262, 3) := dget dh_505 (k := 14) rfl
theorem dX12_readsNumber_61 : decode cX12_readsNumber 61 = .ok (.iconst 1, 1) := dget dh_505 (k := 15) rfl
theorem dX12_readsNumber_62 : decode cX12_readsNumber 62 = .ok (.iadd, 1) := dget dh_505 (k := 16) rfl
theorem dX12_readsNumber_63 : decode cX12_readsNumber 63 = .ok (.putfield 262, 3) := dget dh_505 (k := 17) rfl
theorem dX12_readsNumber_66 : decode cX12_readsNumber 66 = .ok (.goto (-56), 3) := dget dh_505 (k := 18) rfl
theorem dX12_readsNumber_69 : decode cX12_readsNumber 69 = .ok (.iconst 1, 1) := dget dh_505 (k := 19) rfl
def dl_506 : List (Nat × (Instr × Nat)) := [(70, (.ireturn, 1))]
theorem dh_506 : dchk cX12_readsNumber dl_506 = true := by decide +kernel
theorem dX12_readsNumber_70 : decode cX12_readsNumber 70 = .ok (.ireturn, 1) := dget dh_506 (k := 0) rfl
def dl_507 : List (Nat × (Instr × Nat)) := [(0, (.aload_n 0, 1)), (1, (.getfield 293, 3)), (4, (.ifCond .ne 7, 3)), (7, (.iconst (-1), 1)), (8, (.goto 18, 3)), (11, (.aload_n 0, 1)), (12, (.getfield 75, 3)), (15, (.aload_n 0, 1)), (16, (.getfield 293, 3)), (19, (.iconst 1, 1)), (20, (.isub, 1)), (21, (.iaload, 1)), (22, (.ldc_w 289, 3)), (25, (.idiv, 1)), (26, (.ireturn, 1))]
theorem dh_507 : dchk cX12_top dl_507 = true := by decide +kernel
theorem dX12_top_0 : decode cX12_top 0 = .ok (.aload_n 0, 1) := dget dh_507 (k := 0) rfl
theorem dX12_top_1 : decode cX12_top 1 = .ok (.getfield 293, 3) := dget dh_507 (k := 1) rfl
theorem dX12_top_4 : decode cX12_top 4 = .ok (.ifCond .ne 7, 3) := dget dh_507 (k := 2) rfl
theorem dX12_top_7 : decode cX12_top 7 = .ok (.iconst (-1), 1) := dget dh_507 (k := 3) rfl
theorem dX12_top_8 : decode cX12_top 8 = .ok (.goto 18, 3) := dget dh_507 (k := 4) rfl
theorem dX12_top_11 : decode cX12_top 11 = .ok (.aload_n 0, 1) := dget dh_507 (k := 5) rfl
theorem dX12_top_12 : decode cX12_top 12 = .ok (.getfield 75, 3) := dget dh_507 (k := 6) rfl
theorem dX12_top_15 : decode cX12_top 15 = .ok (.aload_n 0, 1) := dget dh_507 (k := 7) rfl
theorem dX12_top_16 : decode cX12_top 16 = .ok (.getfield 293, 3) := dget dh_507 (k := 8) rfl
theorem dX12_top_19 : decode cX12_top 19 = .ok (.iconst 1, 1) := dget dh_507 (k := 9) rfl
theorem dX12_top_20 : decode cX12_top 20 = .ok (.isub, 1) := dget dh_507 (k := 10) rfl
theorem dX12_top_21 : decode cX12_top 21 = .ok (.iaload, 1) := dget dh_507 (k := 11) rfl
theorem dX12_top_22 : decode cX12_top 22 = .ok (.ldc_w 289, 3) := dget dh_507 (k := 12) rfl
theorem dX12_top_25 : decode cX12_top 25 = .ok (.idiv, 1) := dget dh_507 (k := 13) rfl
theorem dX12_top_26 : decode cX12_top 26 = .ok (.ireturn, 1) := dget dh_507 (k := 14) rfl
-- the reader of a law's text, as a machine: phase, place, how many are open, how many wait, how many steps, where a sum began, what comes behind it, where the test begins; what waits, the steps
abbrev qE := Nat × Nat × (Nat → Nat → Int32)
abbrev qC := Nat × Nat × Int32 × Nat × Nat × Nat × Nat × qE × (Nat → Int32) × (Nat → Int32)
def qc (ph p : Nat) (o : Int32) (m n b rc : Nat) (hf : qE) (w c : Nat → Int32) : qC := (ph, p, o, m, n, b, rc, hf, w, c)
-- a clause begins, a clause ends: its letter, where its amount and its test begin, where it ends
def qBg (x : qE) (l n : Nat) : qE := (n, x.2.1, fun k => if k = 0 then upd (x.2.2 0) x.2.1 (nI l) else if k = 1 then upd (x.2.2 1) x.2.1 (nI n) else x.2.2 k)
def qNd (x : qE) (n : Nat) : qE := (x.1, x.2.1 + 1, fun k => if k = 2 then upd (x.2.2 2) x.2.1 (nI x.1) else if k = 3 then upd (x.2.2 3) x.2.1 (nI n) else x.2.2 k)
def qLt (x : Int) : Prop := x = 102 ∨ x = 112 ∨ x = 100 ∨ x = 116 ∨ x = 98
def qTop (w : Nat → Int32) (m : Nat) : Int := if m = 0 then -1 else cOp (w (m - 1))
def qSum (x : Int) : Int := if x = 43 then 2 else if x = 45 then 3 else if x = 42 then 4 else if x = 47 then 5 else if x = 37 then 6 else -1
def qCmp (x : Int) : Int := if x = 60 then 7 else if x = 62 then 8 else if x = 61 then 9 else -1
def qFct (x : Int) : Int := if x = 107 then 0 else if x = 114 then 1 else if x = 115 then 2 else if x = 111 then 3 else if x = 97 then 4 else if x = 109 then 5 else if x = 110 then 6 else if x = 103 then 7 else if x = 99 then 8 else if x = 118 then 9 else -1
def qHas (w : Nat → Int32) (b : Nat) : Nat → Bool
  | 0 => false
  | m + 1 => (decide (b ≤ m) && decide (cOp (w m) = 14)) || qHas w b m
def qCnt (tx : Nat → Int) : Nat → Nat → Nat
  | _, 0 => 0
  | p, f + 1 => if 48 ≤ tx p ∧ tx p ≤ 57 then 1 + qCnt tx (p + 1) f else 0
def qVal (tx : Nat → Int) (p : Nat) : Nat → Int
  | 0 => 0
  | k + 1 => 10 * qVal tx p k + (tx (p + k) - 48)
def qLnd (w c : Nat → Int32) (m n : Nat) : Nat → Int32 := upd c (cV (w (m - 1))).toNat (nI (1048576 * (cOp (c (cV (w (m - 1))).toNat)).toNat + n))
def qStep (tx : Nat → Int) (S : qC) : qC :=
  match S with
  | (ph, p, o, m, n, b, rc, hf, w, c) =>
    if ph = 0 then
      (if tx p = 91 then (if o = 6 then qc 20 p 5 m n b rc hf w c else qc 0 (p + 1) (o + 1) (m + 1) n b rc hf (upd w m (nI 14680064)) c)
       else if 48 ≤ tx p ∧ tx p ≤ 57 then (if qCnt tx p 6 = 6 then qc 20 (p + 5) 2 m n b rc hf w c else qc 1 (p + qCnt tx p 6) o m (n + 1) b rc hf w (upd c n (nI (qVal tx p (qCnt tx p 6)).toNat)))
       else if 0 ≤ qFct (tx p) then qc 1 (p + 1) o m (n + 1) b rc hf w (upd c n (nI (1048576 + (qFct (tx p)).toNat)))
       else qc 20 p 1 m n b rc hf w c)
    else if ph = 1 then
      (if 4 ≤ qTop w m ∧ qTop w m ≤ 6 then qc 1 p o (m - 1) (n + 1) b rc hf w (upd c n (nI (1048576 * (qTop w m).toNat))) else qc 2 p o m n b rc hf w c)
    else if ph = 2 then
      (if 4 ≤ qSum (tx p) then qc 0 (p + 1) o (m + 1) n b rc hf (upd w m (nI (1048576 * (qSum (tx p)).toNat))) c else qc 3 p o m n b rc hf w c)
    else if ph = 3 then
      (if 2 ≤ qTop w m ∧ qTop w m ≤ 6 then qc 3 p o (m - 1) (n + 1) b rc hf w (upd c n (nI (1048576 * (qTop w m).toNat))) else qc 4 p o m n b rc hf w c)
    else if ph = 4 then
      (if 2 ≤ qSum (tx p) ∧ qSum (tx p) ≤ 3 then qc 0 (p + 1) o (m + 1) n b rc hf (upd w m (nI (1048576 * (qSum (tx p)).toNat))) c
       else if qHas w b m = true then (if tx p = 93 then qc 1 (p + 1) (o - 1) (m - 1) n b rc hf w c else qc 20 p 1 m n b rc hf w c)
       else qc 5 p o m n b rc hf w c)
    else if ph = 5 then
      (if rc = 0 then qc 6 p o m n b rc (n, hf.2) w c
       else if rc = 1 then (if 7 ≤ qCmp (tx p) then qc 0 (p + 1) o m n m (qCmp (tx p)).toNat hf w c else qc 20 p 1 m n b rc hf w c)
       else qc 7 p o m (n + 1) b rc hf w (upd c n (nI (1048576 * rc))))
    else if ph = 6 then
      (if tx p = 40 then qc 8 (p + 1) 1 1 n b rc hf (upd w 0 (nI 13631488)) c else qc 20 p 1 m n b rc hf w c)
    else if ph = 7 then
      (if qTop w m = 10 then qc 7 p (o - 1) (m - 1) (n + 1) b rc hf w (upd c n (nI 10485760)) else qc 9 p o m n b rc hf w c)
    else if ph = 8 then
      (if tx p = 33 then (if o = 6 then qc 20 p 5 m n b rc hf w c else qc 8 (p + 1) (o + 1) (m + 1) n b rc hf (upd w m (nI 10485760)) c)
       else if tx p = 40 then (if o = 6 then qc 20 p 5 m n b rc hf w c else qc 8 (p + 1) (o + 1) (m + 1) n b rc hf (upd w m (nI 13631488)) c)
       else qc 0 p o m n m 1 hf w c)
    else if ph = 9 then
      (if qTop w m = 11 then qc 9 p o (m - 1) n b rc hf w (qLnd w c m n)
       else if tx p = 38 then qc 8 (p + 1) o (m + 1) (n + 1) b rc hf (upd w m (nI (11534336 + n))) (upd c n (nI 11534336))
       else qc 10 p o m n b rc hf w c)
    else if ph = 10 then
      (if qTop w m = 11 ∨ qTop w m = 12 then qc 10 p o (m - 1) n b rc hf w (qLnd w c m n)
       else if tx p = 124 then qc 8 (p + 1) o (m + 1) (n + 1) b rc hf (upd w m (nI (12582912 + n))) (upd c n (nI 12582912))
       else if tx p = 41 then (if m = 1 then qc 11 (p + 1) (o - 1) 0 n b rc hf w c else qc 7 (p + 1) (o - 1) (m - 1) n b rc hf w c)
       else qc 20 p 1 m n b rc hf w c)
    else if ph = 11 then
      (if tx p = -1 then qc 13 p o m n b rc (qNd hf n) w c
       else if tx p = 59 then qc 14 (p + 1) o m n b rc (qNd hf n) w c
       else qc 20 p 1 m n b rc hf w c)
    else if ph = 14 then
      (if tx p = 102 ∨ tx p = 112 ∨ tx p = 100 ∨ tx p = 116 ∨ tx p = 98 then
        (if hf.2.1 = 14 then qc 20 p 4 m n b rc hf w c
         else if tx p = 98 then qc 6 (p + 1) 0 0 n 0 0 (qBg hf (tx p).toNat n) w c
         else qc 0 (p + 1) 0 0 n 0 0 (qBg hf (tx p).toNat n) w c)
       else qc 20 p 1 m n b rc hf w c)
    else S
def qIt (tx : Nat → Int) : Nat → qC → qC
  | 0, S => S
  | k + 1, S => qIt tx k (qStep tx S)
-- the machine comes from S to T
def qR (tx : Nat → Int) (S T : qC) : Prop := ∃ k, qIt tx k S = T
theorem qIt_add (tx : Nat → Int) : ∀ j k S, qIt tx (j + k) S = qIt tx k (qIt tx j S) := by
  intro j
  induction j with
  | zero => intro k S; rw [Nat.zero_add]; rfl
  | succ j ih => intro k S; rw [Nat.succ_add]; exact ih k (qStep tx S)
theorem qIt_fix {tx : Nat → Int} {T : qC} (h : qStep tx T = T) : ∀ k, qIt tx k T = T := by
  intro k
  induction k with
  | zero => rfl
  | succ k ih => show qIt tx k (qStep tx T) = T; rw [h]; exact ih
section QR
variable {tx : Nat → Int} {S T U : qC}
theorem qR_rf : qR tx S S := ⟨0, rfl⟩
theorem qR_tr (h : qR tx S T) (h2 : qR tx T U) : qR tx S U := by
  obtain ⟨j, rfl⟩ := h
  obtain ⟨k, rfl⟩ := h2
  exact ⟨j + k, qIt_add tx j k S⟩
theorem qR_1 (h : qStep tx S = T) : qR tx S T := ⟨1, h⟩
-- one end alone
theorem qR_un (h : qR tx S T) (h2 : qR tx S U) (hT : qStep tx T = T) (hU : qStep tx U = U) : T = U := by
  obtain ⟨j, rfl⟩ := h
  obtain ⟨k, rfl⟩ := h2
  have a1 := qIt_fix hT k
  have a2 := qIt_fix hU j
  rw [← qIt_add] at a1 a2
  rw [Nat.add_comm k j] at a2
  exact a1.symm.trans a2
end QR
theorem qS_end {tx : Nat → Int} {S : qC} (h : S.1 = 13 ∨ S.1 = 20) : qStep tx S = S := by
  obtain ⟨ph, p, o, m, n, b, rc, hf, w, c⟩ := S
  have h : ph = 13 ∨ ph = 20 := h
  show (if ph = 0 then _ else _) = _
  rw [if_neg (by omega), if_neg (by omega), if_neg (by omega), if_neg (by omega), if_neg (by omega), if_neg (by omega), if_neg (by omega), if_neg (by omega), if_neg (by omega), if_neg (by omega), if_neg (by omega), if_neg (by omega), if_neg (by omega)]
-- the machine's moves
section QM
variable {tx : Nat → Int} {p m n b rc : Nat} {o : Int32} {hf : qE} {w c : Nat → Int32}
theorem qP_0 : qStep tx (qc 0 p o m n b rc hf w c) = (if tx p = 91 then (if o = 6 then qc 20 p 5 m n b rc hf w c else qc 0 (p + 1) (o + 1) (m + 1) n b rc hf (upd w m (nI 14680064)) c) else if 48 ≤ tx p ∧ tx p ≤ 57 then (if qCnt tx p 6 = 6 then qc 20 (p + 5) 2 m n b rc hf w c else qc 1 (p + qCnt tx p 6) o m (n + 1) b rc hf w (upd c n (nI (qVal tx p (qCnt tx p 6)).toNat))) else if 0 ≤ qFct (tx p) then qc 1 (p + 1) o m (n + 1) b rc hf w (upd c n (nI (1048576 + (qFct (tx p)).toNat))) else qc 20 p 1 m n b rc hf w c) := rfl
theorem qP_1 : qStep tx (qc 1 p o m n b rc hf w c) = (if 4 ≤ qTop w m ∧ qTop w m ≤ 6 then qc 1 p o (m - 1) (n + 1) b rc hf w (upd c n (nI (1048576 * (qTop w m).toNat))) else qc 2 p o m n b rc hf w c) := rfl
theorem qP_2 : qStep tx (qc 2 p o m n b rc hf w c) = (if 4 ≤ qSum (tx p) then qc 0 (p + 1) o (m + 1) n b rc hf (upd w m (nI (1048576 * (qSum (tx p)).toNat))) c else qc 3 p o m n b rc hf w c) := rfl
theorem qP_3 : qStep tx (qc 3 p o m n b rc hf w c) = (if 2 ≤ qTop w m ∧ qTop w m ≤ 6 then qc 3 p o (m - 1) (n + 1) b rc hf w (upd c n (nI (1048576 * (qTop w m).toNat))) else qc 4 p o m n b rc hf w c) := rfl
theorem qP_4 : qStep tx (qc 4 p o m n b rc hf w c) = (if 2 ≤ qSum (tx p) ∧ qSum (tx p) ≤ 3 then qc 0 (p + 1) o (m + 1) n b rc hf (upd w m (nI (1048576 * (qSum (tx p)).toNat))) c else if qHas w b m = true then (if tx p = 93 then qc 1 (p + 1) (o - 1) (m - 1) n b rc hf w c else qc 20 p 1 m n b rc hf w c) else qc 5 p o m n b rc hf w c) := rfl
theorem qP_5 : qStep tx (qc 5 p o m n b rc hf w c) = (if rc = 0 then qc 6 p o m n b rc (n, hf.2) w c else if rc = 1 then (if 7 ≤ qCmp (tx p) then qc 0 (p + 1) o m n m (qCmp (tx p)).toNat hf w c else qc 20 p 1 m n b rc hf w c) else qc 7 p o m (n + 1) b rc hf w (upd c n (nI (1048576 * rc)))) := rfl
theorem qP_6 : qStep tx (qc 6 p o m n b rc hf w c) = (if tx p = 40 then qc 8 (p + 1) 1 1 n b rc hf (upd w 0 (nI 13631488)) c else qc 20 p 1 m n b rc hf w c) := rfl
theorem qP_7 : qStep tx (qc 7 p o m n b rc hf w c) = (if qTop w m = 10 then qc 7 p (o - 1) (m - 1) (n + 1) b rc hf w (upd c n (nI 10485760)) else qc 9 p o m n b rc hf w c) := rfl
theorem qP_8 : qStep tx (qc 8 p o m n b rc hf w c) = (if tx p = 33 then (if o = 6 then qc 20 p 5 m n b rc hf w c else qc 8 (p + 1) (o + 1) (m + 1) n b rc hf (upd w m (nI 10485760)) c) else if tx p = 40 then (if o = 6 then qc 20 p 5 m n b rc hf w c else qc 8 (p + 1) (o + 1) (m + 1) n b rc hf (upd w m (nI 13631488)) c) else qc 0 p o m n m 1 hf w c) := rfl
theorem qP_9 : qStep tx (qc 9 p o m n b rc hf w c) = (if qTop w m = 11 then qc 9 p o (m - 1) n b rc hf w (qLnd w c m n) else if tx p = 38 then qc 8 (p + 1) o (m + 1) (n + 1) b rc hf (upd w m (nI (11534336 + n))) (upd c n (nI 11534336)) else qc 10 p o m n b rc hf w c) := rfl
theorem qP_10 : qStep tx (qc 10 p o m n b rc hf w c) = (if qTop w m = 11 ∨ qTop w m = 12 then qc 10 p o (m - 1) n b rc hf w (qLnd w c m n) else if tx p = 124 then qc 8 (p + 1) o (m + 1) (n + 1) b rc hf (upd w m (nI (12582912 + n))) (upd c n (nI 12582912)) else if tx p = 41 then (if m = 1 then qc 11 (p + 1) (o - 1) 0 n b rc hf w c else qc 7 (p + 1) (o - 1) (m - 1) n b rc hf w c) else qc 20 p 1 m n b rc hf w c) := rfl
theorem qP_11 : qStep tx (qc 11 p o m n b rc hf w c) = (if tx p = -1 then qc 13 p o m n b rc (qNd hf n) w c else if tx p = 59 then qc 14 (p + 1) o m n b rc (qNd hf n) w c else qc 20 p 1 m n b rc hf w c) := rfl
theorem qP_14 : qStep tx (qc 14 p o m n b rc hf w c) = (if tx p = 102 ∨ tx p = 112 ∨ tx p = 100 ∨ tx p = 116 ∨ tx p = 98 then (if hf.2.1 = 14 then qc 20 p 4 m n b rc hf w c else if tx p = 98 then qc 6 (p + 1) 0 0 n 0 0 (qBg hf (tx p).toNat n) w c else qc 0 (p + 1) 0 0 n 0 0 (qBg hf (tx p).toNat n) w c) else qc 20 p 1 m n b rc hf w c) := rfl
theorem qm_brk (h : tx p = 91) (ho : o ≠ 6) : qR tx (qc 0 p o m n b rc hf w c) (qc 0 (p + 1) (o + 1) (m + 1) n b rc hf (upd w m (nI 14680064)) c) := qR_1 (by
  rw [qP_0, if_pos h, if_neg ho])
theorem qm_brk6 (h : tx p = 91) (ho : o = 6) : qR tx (qc 0 p o m n b rc hf w c) (qc 20 p 5 m n b rc hf w c) := qR_1 (by
  rw [qP_0, if_pos h, if_pos ho])
theorem qm_num6 (h : 48 ≤ tx p ∧ tx p ≤ 57) (hc : qCnt tx p 6 = 6) : qR tx (qc 0 p o m n b rc hf w c) (qc 20 (p + 5) 2 m n b rc hf w c) := qR_1 (by
  rw [qP_0, if_neg (show ¬ tx p = 91 by omega), if_pos h, if_pos hc])
theorem qm_num (h : 48 ≤ tx p ∧ tx p ≤ 57) (hc : qCnt tx p 6 ≠ 6) : qR tx (qc 0 p o m n b rc hf w c) (qc 1 (p + qCnt tx p 6) o m (n + 1) b rc hf w (upd c n (nI (qVal tx p (qCnt tx p 6)).toNat))) := qR_1 (by
  rw [qP_0, if_neg (show ¬ tx p = 91 by omega), if_pos h, if_neg hc])
theorem qm_let (h1 : tx p ≠ 91) (h2 : ¬ (48 ≤ tx p ∧ tx p ≤ 57)) (h : 0 ≤ qFct (tx p)) : qR tx (qc 0 p o m n b rc hf w c) (qc 1 (p + 1) o m (n + 1) b rc hf w (upd c n (nI (1048576 + (qFct (tx p)).toNat)))) := qR_1 (by
  rw [qP_0, if_neg h1, if_neg h2, if_pos h])
theorem qm_nof (h1 : tx p ≠ 91) (h2 : ¬ (48 ≤ tx p ∧ tx p ≤ 57)) (h : ¬ 0 ≤ qFct (tx p)) : qR tx (qc 0 p o m n b rc hf w c) (qc 20 p 1 m n b rc hf w c) := qR_1 (by
  rw [qP_0, if_neg h1, if_neg h2, if_neg h])
theorem qm_pop1 (h : 4 ≤ qTop w m ∧ qTop w m ≤ 6) : qR tx (qc 1 p o m n b rc hf w c) (qc 1 p o (m - 1) (n + 1) b rc hf w (upd c n (nI (1048576 * (qTop w m).toNat)))) := qR_1 (by
  rw [qP_1, if_pos h])
theorem qm_12 (h : ¬ (4 ≤ qTop w m ∧ qTop w m ≤ 6)) : qR tx (qc 1 p o m n b rc hf w c) (qc 2 p o m n b rc hf w c) := qR_1 (by
  rw [qP_1, if_neg h])
theorem qm_tim (h : 4 ≤ qSum (tx p)) : qR tx (qc 2 p o m n b rc hf w c) (qc 0 (p + 1) o (m + 1) n b rc hf (upd w m (nI (1048576 * (qSum (tx p)).toNat))) c) := qR_1 (by
  rw [qP_2, if_pos h])
theorem qm_23 (h : ¬ 4 ≤ qSum (tx p)) : qR tx (qc 2 p o m n b rc hf w c) (qc 3 p o m n b rc hf w c) := qR_1 (by
  rw [qP_2, if_neg h])
theorem qm_pop3 (h : 2 ≤ qTop w m ∧ qTop w m ≤ 6) : qR tx (qc 3 p o m n b rc hf w c) (qc 3 p o (m - 1) (n + 1) b rc hf w (upd c n (nI (1048576 * (qTop w m).toNat)))) := qR_1 (by
  rw [qP_3, if_pos h])
theorem qm_34 (h : ¬ (2 ≤ qTop w m ∧ qTop w m ≤ 6)) : qR tx (qc 3 p o m n b rc hf w c) (qc 4 p o m n b rc hf w c) := qR_1 (by
  rw [qP_3, if_neg h])
theorem qm_pls (h : 2 ≤ qSum (tx p) ∧ qSum (tx p) ≤ 3) : qR tx (qc 4 p o m n b rc hf w c) (qc 0 (p + 1) o (m + 1) n b rc hf (upd w m (nI (1048576 * (qSum (tx p)).toNat))) c) := qR_1 (by
  rw [qP_4, if_pos h])
theorem qm_cls (h : ¬ (2 ≤ qSum (tx p) ∧ qSum (tx p) ≤ 3)) (h2 : qHas w b m = true) (h3 : tx p = 93) : qR tx (qc 4 p o m n b rc hf w c) (qc 1 (p + 1) (o - 1) (m - 1) n b rc hf w c) := qR_1 (by
  rw [qP_4, if_neg h, if_pos h2, if_pos h3])
theorem qm_noc (h : ¬ (2 ≤ qSum (tx p) ∧ qSum (tx p) ≤ 3)) (h2 : qHas w b m = true) (h3 : tx p ≠ 93) : qR tx (qc 4 p o m n b rc hf w c) (qc 20 p 1 m n b rc hf w c) := qR_1 (by
  rw [qP_4, if_neg h, if_pos h2, if_neg h3])
theorem qm_45 (h : ¬ (2 ≤ qSum (tx p) ∧ qSum (tx p) ≤ 3)) (h2 : ¬ qHas w b m = true) : qR tx (qc 4 p o m n b rc hf w c) (qc 5 p o m n b rc hf w c) := qR_1 (by
  rw [qP_4, if_neg h, if_neg h2])
theorem qm_56  : qR tx (qc 5 p o m n b 0 hf w c) (qc 6 p o m n b 0 (n, hf.2) w c) := qR_1 (by
  rw [qP_5, if_pos rfl])
theorem qm_cmp (h : 7 ≤ qCmp (tx p)) : qR tx (qc 5 p o m n b 1 hf w c) (qc 0 (p + 1) o m n m (qCmp (tx p)).toNat hf w c) := qR_1 (by
  rw [qP_5, if_neg (by decide), if_pos rfl, if_pos h])
theorem qm_noq (h : ¬ 7 ≤ qCmp (tx p)) : qR tx (qc 5 p o m n b 1 hf w c) (qc 20 p 1 m n b 1 hf w c) := qR_1 (by
  rw [qP_5, if_neg (by decide), if_pos rfl, if_neg h])
theorem qm_57 (h : 2 ≤ rc) : qR tx (qc 5 p o m n b rc hf w c) (qc 7 p o m (n + 1) b rc hf w (upd c n (nI (1048576 * rc)))) := qR_1 (by
  rw [qP_5, if_neg (show ¬ rc = 0 by omega), if_neg (show ¬ rc = 1 by omega)])
theorem qm_68 (h : tx p = 40) : qR tx (qc 6 p o m n b rc hf w c) (qc 8 (p + 1) 1 1 n b rc hf (upd w 0 (nI 13631488)) c) := qR_1 (by
  rw [qP_6, if_pos h])
theorem qm_no6 (h : tx p ≠ 40) : qR tx (qc 6 p o m n b rc hf w c) (qc 20 p 1 m n b rc hf w c) := qR_1 (by
  rw [qP_6, if_neg h])
theorem qm_pop7 (h : qTop w m = 10) : qR tx (qc 7 p o m n b rc hf w c) (qc 7 p (o - 1) (m - 1) (n + 1) b rc hf w (upd c n (nI 10485760))) := qR_1 (by
  rw [qP_7, if_pos h])
theorem qm_79 (h : qTop w m ≠ 10) : qR tx (qc 7 p o m n b rc hf w c) (qc 9 p o m n b rc hf w c) := qR_1 (by
  rw [qP_7, if_neg h])
theorem qm_not6 (h : tx p = 33) (ho : o = 6) : qR tx (qc 8 p o m n b rc hf w c) (qc 20 p 5 m n b rc hf w c) := qR_1 (by
  rw [qP_8, if_pos h, if_pos ho])
theorem qm_not (h : tx p = 33) (ho : o ≠ 6) : qR tx (qc 8 p o m n b rc hf w c) (qc 8 (p + 1) (o + 1) (m + 1) n b rc hf (upd w m (nI 10485760)) c) := qR_1 (by
  rw [qP_8, if_pos h, if_neg ho])
theorem qm_opn6 (h : tx p = 40) (ho : o = 6) : qR tx (qc 8 p o m n b rc hf w c) (qc 20 p 5 m n b rc hf w c) := qR_1 (by
  rw [qP_8, if_neg (show ¬ tx p = 33 by omega), if_pos h, if_pos ho])
theorem qm_opn (h : tx p = 40) (ho : o ≠ 6) : qR tx (qc 8 p o m n b rc hf w c) (qc 8 (p + 1) (o + 1) (m + 1) n b rc hf (upd w m (nI 13631488)) c) := qR_1 (by
  rw [qP_8, if_neg (show ¬ tx p = 33 by omega), if_pos h, if_neg ho])
theorem qm_80 (h1 : tx p ≠ 33) (h2 : tx p ≠ 40) : qR tx (qc 8 p o m n b rc hf w c) (qc 0 p o m n m 1 hf w c) := qR_1 (by
  rw [qP_8, if_neg h1, if_neg h2])
theorem qm_lnd9 (h : qTop w m = 11) : qR tx (qc 9 p o m n b rc hf w c) (qc 9 p o (m - 1) n b rc hf w (qLnd w c m n)) := qR_1 (by
  rw [qP_9, if_pos h])
theorem qm_and (h : qTop w m ≠ 11) (h2 : tx p = 38) : qR tx (qc 9 p o m n b rc hf w c) (qc 8 (p + 1) o (m + 1) (n + 1) b rc hf (upd w m (nI (11534336 + n))) (upd c n (nI 11534336))) := qR_1 (by
  rw [qP_9, if_neg h, if_pos h2])
theorem qm_9a (h : qTop w m ≠ 11) (h2 : tx p ≠ 38) : qR tx (qc 9 p o m n b rc hf w c) (qc 10 p o m n b rc hf w c) := qR_1 (by
  rw [qP_9, if_neg h, if_neg h2])
theorem qm_lnda (h : qTop w m = 11 ∨ qTop w m = 12) : qR tx (qc 10 p o m n b rc hf w c) (qc 10 p o (m - 1) n b rc hf w (qLnd w c m n)) := qR_1 (by
  rw [qP_10, if_pos h])
theorem qm_or (h : ¬ (qTop w m = 11 ∨ qTop w m = 12)) (h2 : tx p = 124) : qR tx (qc 10 p o m n b rc hf w c) (qc 8 (p + 1) o (m + 1) (n + 1) b rc hf (upd w m (nI (12582912 + n))) (upd c n (nI 12582912))) := qR_1 (by
  rw [qP_10, if_neg h, if_pos h2])
theorem qm_end (h : ¬ (qTop w m = 11 ∨ qTop w m = 12)) (h3 : tx p = 41) (hm : m = 1) : qR tx (qc 10 p o m n b rc hf w c) (qc 11 (p + 1) (o - 1) 0 n b rc hf w c) := qR_1 (by
  rw [qP_10, if_neg h, if_neg (show ¬ tx p = 124 by omega), if_pos h3, if_pos hm])
theorem qm_clp (h : ¬ (qTop w m = 11 ∨ qTop w m = 12)) (h3 : tx p = 41) (hm : m ≠ 1) : qR tx (qc 10 p o m n b rc hf w c) (qc 7 (p + 1) (o - 1) (m - 1) n b rc hf w c) := qR_1 (by
  rw [qP_10, if_neg h, if_neg (show ¬ tx p = 124 by omega), if_pos h3, if_neg hm])
theorem qm_noa (h : ¬ (qTop w m = 11 ∨ qTop w m = 12)) (h2 : tx p ≠ 124) (h3 : tx p ≠ 41) : qR tx (qc 10 p o m n b rc hf w c) (qc 20 p 1 m n b rc hf w c) := qR_1 (by
  rw [qP_10, if_neg h, if_neg h2, if_neg h3])
theorem qm_fin (h : tx p = -1) : qR tx (qc 11 p o m n b rc hf w c) (qc 13 p o m n b rc (qNd hf n) w c) := qR_1 (by
  rw [qP_11, if_pos h])
theorem qm_nxt (h : tx p = 59) : qR tx (qc 11 p o m n b rc hf w c) (qc 14 (p + 1) o m n b rc (qNd hf n) w c) := qR_1 (by
  rw [qP_11, if_neg (show ¬ tx p = -1 by omega), if_pos h])
theorem qm_nob (h1 : tx p ≠ -1) (h2 : tx p ≠ 59) : qR tx (qc 11 p o m n b rc hf w c) (qc 20 p 1 m n b rc hf w c) := qR_1 (by
  rw [qP_11, if_neg h1, if_neg h2])
theorem qm_nol (h : ¬ qLt (tx p)) : qR tx (qc 14 p o m n b rc hf w c) (qc 20 p 1 m n b rc hf w c) := qR_1 (by
  unfold qLt at h
  rw [qP_14, if_neg h])
theorem qm_ful (h : qLt (tx p)) (h2 : hf.2.1 = 14) : qR tx (qc 14 p o m n b rc hf w c) (qc 20 p 4 m n b rc hf w c) := qR_1 (by
  unfold qLt at h
  rw [qP_14, if_pos h, if_pos h2])
theorem qm_clb (h : tx p = 98) (h2 : hf.2.1 ≠ 14) : qR tx (qc 14 p o m n b rc hf w c) (qc 6 (p + 1) 0 0 n 0 0 (qBg hf (tx p).toNat n) w c) := qR_1 (by
  rw [qP_14, if_pos (show tx p = 102 ∨ tx p = 112 ∨ tx p = 100 ∨ tx p = 116 ∨ tx p = 98 by omega), if_neg h2, if_pos h])
theorem qm_cle (h : qLt (tx p)) (h1 : tx p ≠ 98) (h2 : hf.2.1 ≠ 14) : qR tx (qc 14 p o m n b rc hf w c) (qc 0 (p + 1) 0 0 n 0 0 (qBg hf (tx p).toNat n) w c) := qR_1 (by
  unfold qLt at h
  rw [qP_14, if_pos h, if_neg h2, if_neg h1])
end QM
theorem qSum_r (x : Int) : qSum x = -1 ∨ (2 ≤ qSum x ∧ qSum x ≤ 6) := by
  unfold qSum
  by_cases h1 : x = 43
  · rw [if_pos h1]; omega
  · rw [if_neg h1]
    by_cases h2 : x = 45
    · rw [if_pos h2]; omega
    · rw [if_neg h2]
      by_cases h3 : x = 42
      · rw [if_pos h3]; omega
      · rw [if_neg h3]
        by_cases h4 : x = 47
        · rw [if_pos h4]; omega
        · rw [if_neg h4]
          by_cases h5 : x = 37
          · rw [if_pos h5]; omega
          · rw [if_neg h5]; omega
theorem qCmp_r (x : Int) : qCmp x = -1 ∨ (7 ≤ qCmp x ∧ qCmp x ≤ 9) := by
  unfold qCmp
  by_cases h1 : x = 60
  · rw [if_pos h1]; omega
  · rw [if_neg h1]
    by_cases h2 : x = 62
    · rw [if_pos h2]; omega
    · rw [if_neg h2]
      by_cases h3 : x = 61
      · rw [if_pos h3]; omega
      · rw [if_neg h3]; omega
theorem qHas_iff {w : Nat → Int32} {b : Nat} : ∀ m, qHas w b m = true ↔ ∃ k, b ≤ k ∧ k < m ∧ cOp (w k) = 14 := by
  intro m
  induction m with
  | zero => exact ⟨fun h => absurd h Bool.false_ne_true, fun ⟨k, _, h, _⟩ => absurd h (Nat.not_lt_zero k)⟩
  | succ m ih =>
    rw [qHas, Bool.or_eq_true, Bool.and_eq_true, ih]
    constructor
    · rintro (⟨h1, h2⟩ | ⟨k, h1, h2, h3⟩)
      · exact ⟨m, of_decide_eq_true h1, by omega, of_decide_eq_true h2⟩
      · exact ⟨k, h1, by omega, h3⟩
    · rintro ⟨k, h1, h2, h3⟩
      by_cases e : k = m
      · subst e; exact Or.inl ⟨decide_eq_true h1, decide_eq_true h3⟩
      · exact Or.inr ⟨k, h1, by omega, h3⟩
theorem qTop_s {w : Nat → Int32} {m : Nat} : qTop w (m + 1) = cOp (w m) := by
  unfold qTop; rw [if_neg (by omega), Nat.add_sub_cancel]
theorem qTop_co {w w2 : Nat → Int32} {m : Nat} (h : ∀ k, k < m → w2 k = w k) : qTop w2 m = qTop w m := by
  unfold qTop
  by_cases e : m = 0
  · rw [if_pos e, if_pos e]
  · rw [if_neg e, if_neg e, h (m - 1) (by omega)]
theorem cOp_n {o v : Nat} (ho : o ≤ 14) (hv : v < 1048576) : cOp (nI (1048576 * o + v)) = (o : Int) ∧ cV (nI (1048576 * o + v)) = (v : Int) := by
  refine cOp_mk (o := (o : Int)) (v := (v : Int)) ?_ (by omega)
  rw [nI_toInt (by omega)]; omega
theorem o_11 {o : Int32} : o + 1 - 1 = o := by
  have h : o + 1 - 1 + 1 = o + 1 := Int32.sub_add_cancel (o + 1) 1
  have h2 : ((o + 1 - 1).toBitVec + 1#32).toNat = (o.toBitVec + 1#32).toNat := congrArg (fun x : Int32 => x.toBitVec.toNat) h
  rw [BitVec.toNat_add, BitVec.toNat_add] at h2
  have a := (o + 1 - 1).toBitVec.isLt
  have b := o.toBitVec.isLt
  have c : (1#32).toNat = 1 := rfl
  exact Int32.toBitVec_inj.mp (BitVec.eq_of_toNat_eq (by omega))
theorem ne6 {x : Int32} (h : x.toInt ≠ 6) : x ≠ 6 := fun e => h (by rw [e]; rfl)
-- what stands at a place of the text
def qTX (e : Int32) (t : Nat → Int32) (p : Nat) : Int := if (p : Int) < e.toInt then (t p &&& 255).toInt else -1
theorem qTX_lt {e : Int32} {t : Nat → Int32} {p : Nat} (h : qTX e t p ≠ -1) : (p : Int) < e.toInt := by
  unfold qTX at h
  by_cases h2 : (p : Int) < e.toInt
  · exact h2
  · rw [if_neg h2] at h; exact absurd rfl h
-- digits, one after the other
theorem qCnt_eq {tx : Nat → Int} : ∀ (f p k : Nat), k < f → (∀ j, j < k → 48 ≤ tx (p + j) ∧ tx (p + j) ≤ 57) → ¬ (48 ≤ tx (p + k) ∧ tx (p + k) ≤ 57) → qCnt tx p f = k := by
  intro f
  induction f with
  | zero => intro p k h; omega
  | succ f ih =>
    intro p k h h1 h2
    rw [qCnt]
    cases k with
    | zero => exact if_neg h2
    | succ k =>
      have h3 := h1 0 (by omega)
      rw [Nat.add_zero] at h3
      rw [if_pos h3, ih (p + 1) k (by omega) (fun j hj => by have h4 := h1 (j + 1) (by omega); rw [show p + 1 + j = p + (j + 1) by omega]; exact h4) (by rw [show p + 1 + k = p + (k + 1) by omega]; exact h2)]
      omega
theorem qCnt_all {tx : Nat → Int} : ∀ (f p : Nat), (∀ j, j < f → 48 ≤ tx (p + j) ∧ tx (p + j) ≤ 57) → qCnt tx p f = f := by
  intro f
  induction f with
  | zero => intro p _; rfl
  | succ f ih =>
    intro p h1
    have h3 := h1 0 (by omega)
    rw [Nat.add_zero] at h3
    rw [qCnt, if_pos h3, ih (p + 1) (fun j hj => by have h4 := h1 (j + 1) (by omega); rw [show p + 1 + j = p + (j + 1) by omega]; exact h4)]
    omega
-- a number while it is read
def qNu (tx : Nat → Int) (p k : Nat) (v : Int) : Prop := (∀ j, j < k → 48 ≤ tx (p + j) ∧ tx (p + j) ≤ 57) ∧ v = qVal tx p k
theorem qVal_r {tx : Nat → Int} {p : Nat} : ∀ k, (∀ j, j < k → 48 ≤ tx (p + j) ∧ tx (p + j) ≤ 57) → 0 ≤ qVal tx p k ∧ qVal tx p k < 10 ^ k := by
  intro k
  induction k with
  | zero => intro _; exact ⟨Int.le_refl 0, show (0 : Int) < 1 by decide⟩
  | succ k ih =>
    intro h
    have h1 := ih (fun j hj => h j (by omega))
    have h2 := h k (by omega)
    rw [qVal, Int.pow_succ]; omega
theorem qNu_0 {tx : Nat → Int} {p : Nat} : qNu tx p 0 0 := ⟨fun j hj => absurd hj (Nat.not_lt_zero j), rfl⟩
theorem qNu_s {tx : Nat → Int} {p k k2 : Nat} {v v2 : Int} (h : qNu tx p k v) (hd : 48 ≤ tx (p + k) ∧ tx (p + k) ≤ 57) (hk : k2 = k + 1) (e : v2 = 10 * v + (tx (p + k) - 48)) : qNu tx p k2 v2 := by
  subst hk
  refine ⟨fun j hj => ?_, by rw [qVal, ← h.2]; exact e⟩
  by_cases e2 : j = k
  · rw [e2]; exact hd
  · exact h.1 j (by omega)
theorem qNu_b {tx : Nat → Int} {p k : Nat} {v : Int} (h : qNu tx p k v) (hk : k ≤ 5) : 0 ≤ v ∧ v ≤ 99999 ∧ (k ≤ 4 → v ≤ 9999) := by
  have h1 := qVal_r k h.1
  rw [h.2]
  rcases (show k = 0 ∨ k = 1 ∨ k = 2 ∨ k = 3 ∨ k = 4 ∨ k = 5 by omega) with rfl | rfl | rfl | rfl | rfl | rfl <;> omega
-- where a reading may begin
def qI0 (S0 : qC) : Prop := ∃ (o : Int32) (m b rc h : Nat) (cl : Nat → Nat → Int32) (w c : Nat → Int32), S0 = qc 14 0 o m 0 b rc (h, 0, cl) w c
def topv (i : Nat → Int32) (r : Nat → Nat → Int32) : Int := if (i 28).toInt = 0 then -1 else cOp (r 22 ((i 28).toInt.toNat - 1))
theorem mHere_eq {i I : Nat → Int32} {r : Nat → Nat → Int32} (h1 : I 23 = i 23) (h2 : I 24 = i 24) : mHere I r = mHere i r := by unfold mHere; rw [h1, h2]
/-- the number so far, by how many digits it has -/
def numI (d n : Int) : Prop := (d = 0 ∧ n = 0) ∨ (d = 1 ∧ n ≤ 9) ∨ (d = 2 ∧ n ≤ 99) ∨ (d = 3 ∧ n ≤ 999) ∨ (d = 4 ∧ n ≤ 9999) ∨ (d = 5 ∧ n ≤ 99999)
theorem numI_step {d n m : Int} (h : numI d n) (hd : d ≠ 5) (hm : m ≤ 10 * n + 9) : numI (d + 1) m := by unfold numI at *; omega
theorem numI_rg {d n : Int} (h : numI d n) : 0 ≤ d ∧ d ≤ 5 ∧ n ≤ 99999 ∧ (d ≠ 5 → n ≤ 9999) := by unfold numI at h; omega
-- the reference's reader, as the machine
theorem qTX_c {e e2 : Int32} {t t2 : Nat → Int32} (h1 : e2 = e) (h2 : t2 = t) : qTX e t = qTX e2 t2 := by rw [h1, h2]
theorem nI_i {x : Int32} {v : Nat} (h : x.toInt = (v : Int)) : x = nI v := by
  have := b_rg x
  exact Int32.toInt_inj.mp (by rw [nI_toInt (by omega)]; exact h)
section MQ
variable {tx : Nat → Int} {i I J : Nat → Int32} {r R S : Nat → Nat → Int32} {S0 T0 : qC} {v v2 x y p0 : Int32} {ph b rc : Nat} {hf : qE}
theorem mHere_tx (ht : tx = qTX (i 24) (r 20)) (h0 : 0 ≤ (i 23).toInt) : (mHere i r).toInt = tx (i 23).toInt.toNat := by
  rw [ht]
  unfold mHere qTX
  by_cases h : (i 23).toInt < (i 24).toInt
  · rw [if_pos h, if_pos (by omega)]; rfl
  · rw [if_neg h, if_neg (by omega)]; rfl
def mQ (ph b rc : Nat) (hf : qE) (i : Nat → Int32) (r : Nat → Nat → Int32) : qC := qc ph (i 23).toInt.toNat (i 26) (i 28).toInt.toNat (i 27).toInt.toNat b rc hf (r 22) (r 21)
theorem mQ_eq {p m n : Nat} {o : Int32} {w c : Nat → Int32} (h23 : (J 23).toInt.toNat = p) (h26 : J 26 = o) (h28 : (J 28).toInt.toNat = m) (h27 : (J 27).toInt.toNat = n) (h33 : S 22 = w) (h32 : S 21 = c) : mQ ph b rc hf J S = qc ph p o m n b rc hf w c := by
  unfold mQ; rw [h23, h26, h28, h27, h33, h32]
def qFa (tx : Nat → Int) (S0 : qC) (v : Int32) : Prop := ∃ T : qC, qR tx S0 T ∧ T.1 = 20 ∧ v.toInt = -1000 * T.2.2.1.toInt - (T.2.1 : Int)
theorem qFa_1 {k9 : Int32} {kz : Int} {p9 m n : Nat} {w c : Nat → Int32} (h : qR tx S0 (qc 20 p9 k9 m n b rc hf w c)) (e : v.toInt = -1000 * kz - (p9 : Int)) (hk : k9.toInt = kz := by decide) : qFa tx S0 v := ⟨_, h, rfl, by show v.toInt = -1000 * k9.toInt - (p9 : Int); rw [hk]; exact e⟩
theorem qFa_tr (h : qR tx S0 T0) (h2 : qFa tx T0 v) : qFa tx S0 v := by
  obtain ⟨U, a1, a2, a3⟩ := h2
  exact ⟨U, qR_tr h a1, a2, a3⟩
theorem topv_q (h : 0 ≤ (i 28).toInt) : topv i r = qTop (r 22) (i 28).toInt.toNat := by
  unfold topv qTop
  by_cases e : (i 28).toInt = 0
  · rw [if_pos e, if_pos (by omega)]
  · rw [if_neg e, if_neg (by omega)]
theorem mQ_pop {o2 : Int32} (hx : x.toInt = 1048576 * topv I R + 0) (ht : 2 ≤ topv I R ∧ topv I R ≤ 10) (e27 : (J 27).toInt = (I 27).toInt + 1) (e28 : (J 28).toInt = (I 28).toInt - 1) (e23 : J 23 = I 23) (e33 : S 22 = R 22) (e32 : S 21 = upd (R 21) (I 27).toInt.toNat x) (h27 : 0 ≤ (I 27).toInt) (h28 : 0 ≤ (I 28).toInt) (e26 : J 26 = o2) : mQ ph b rc hf J S = qc ph (I 23).toInt.toNat o2 ((I 28).toInt.toNat - 1) ((I 27).toInt.toNat + 1) b rc hf (R 22) (upd (R 21) (I 27).toInt.toNat (nI (1048576 * (qTop (R 22) (I 28).toInt.toNat).toNat))) := by
  have hx2 : x = nI (1048576 * (qTop (R 22) (I 28).toInt.toNat).toNat) := by
    rw [← topv_q h28]
    exact nI_i (by omega)
  exact mQ_eq (by rw [e23]) e26 (by omega) (by omega) e33 (by rw [e32, hx2])
-- what closes a sum
def qCi (tx : Nat → Int) (p0 : Int32) (i : Nat → Int32) (r : Nat → Nat → Int32) (I : Nat → Int32) (R : Nat → Nat → Int32) : Prop := ∀ (b rc : Nat) (hf : qE), qR tx (mQ 1 b rc hf i r) (mQ 1 b rc hf I R) ∨ (p0.toInt ≠ 0 ∧ (¬ 4 ≤ qSum (tx (i 23).toInt.toNat) → qR tx (mQ 1 b rc hf i r) (mQ 3 b rc hf I R)))
def qCl (tx : Nat → Int) (p0 : Int32) (i : Nat → Int32) (r : Nat → Nat → Int32) (I : Nat → Int32) (R : Nat → Nat → Int32) : Prop := ∀ (b rc : Nat) (hf : qE), (p0.toInt = 0 → qR tx (mQ 1 b rc hf i r) (mQ 2 b rc hf I R)) ∧ (p0.toInt ≠ 0 → ¬ 4 ≤ qSum (tx (i 23).toInt.toNat) → qR tx (mQ 1 b rc hf i r) (mQ 4 b rc hf I R))
theorem qCi_0 : qCi tx p0 i r i r := fun _ _ _ => Or.inl qR_rf
theorem qCi_s (h : qCi tx p0 i r I R) (ht : (4 ≤ topv I R ∧ topv I R ≤ 6) ∨ (p0.toInt ≠ 0 ∧ 2 ≤ topv I R ∧ topv I R ≤ 3)) (hx : x.toInt = 1048576 * topv I R + 0) (e27 : (J 27).toInt = (I 27).toInt + 1) (e28 : (J 28).toInt = (I 28).toInt - 1) (e23 : J 23 = I 23) (e33 : S 22 = R 22) (e32 : S 21 = upd (R 21) (I 27).toInt.toNat x) (e26 : J 26 = I 26) (ei : I 23 = i 23) (h27 : 0 ≤ (I 27).toInt) (h28 : 0 ≤ (I 28).toInt) : qCi tx p0 i r J S := by
  intro b rc hf
  have e : ∀ ph, mQ ph b rc hf J S = _ := fun ph => mQ_pop (ph := ph) (b := b) (rc := rc) (hf := hf) hx (by omega) e27 e28 e23 e33 e32 h27 h28 e26
  rw [topv_q h28] at ht
  rw [e 1, e 3]
  rcases h b rc hf with h1 | ⟨h1, h2⟩
  · rcases ht with ht | ⟨h0, ht⟩
    · exact Or.inl (qR_tr h1 (qm_pop1 ht))
    · refine Or.inr ⟨h0, fun h9 => ?_⟩
      rw [← ei] at h9
      exact qR_tr h1 (qR_tr (qm_12 (by omega)) (qR_tr (qm_23 h9) (qm_pop3 ⟨ht.1, by omega⟩)))
  · exact Or.inr ⟨h1, fun h9 => qR_tr (h2 h9) (qm_pop3 (by omega))⟩
theorem qCi_e (h : qCi tx p0 i r I R) (h1 : ¬ (4 ≤ topv I R ∧ topv I R ≤ 6)) (h2 : p0.toInt ≠ 0 → ¬ (2 ≤ topv I R ∧ topv I R ≤ 6)) (ei : I 23 = i 23) (h28 : 0 ≤ (I 28).toInt) : qCl tx p0 i r I R := by
  rw [topv_q h28] at h1 h2
  intro b rc hf
  refine ⟨fun h0 => ?_, fun h0 h9 => ?_⟩
  · rcases h b rc hf with a | ⟨a, _⟩
    · exact qR_tr a (qm_12 h1)
    · exact absurd h0 a
  · rcases h b rc hf with a | ⟨_, a⟩
    · exact qR_tr a (qR_tr (qm_12 h1) (qR_tr (qm_23 (by rw [ei]; exact h9)) (qm_34 (h2 h0))))
    · exact qR_tr (a h9) (qm_34 (h2 h0))
-- a piece ends
def qEi (tx : Nat → Int) (ph : Nat) (i : Nat → Int32) (r : Nat → Nat → Int32) (I : Nat → Int32) (R : Nat → Nat → Int32) : Prop := ∀ (b rc : Nat) (hf : qE), qR tx (mQ 7 b rc hf i r) (mQ ph b rc hf I R)
theorem qEi_0 : qEi tx 7 i r i r := fun _ _ _ => qR_rf
theorem qEi_s (h : qEi tx 7 i r I R) (ht : topv I R = 10) (hx : x.toInt = 1048576 * 10 + 0) (e27 : (J 27).toInt = (I 27).toInt + 1) (e28 : (J 28).toInt = (I 28).toInt - 1) (e23 : J 23 = I 23) (e33 : S 22 = R 22) (e32 : S 21 = upd (R 21) (I 27).toInt.toNat x) (e26 : J 26 = I 26 - 1) (h27 : 0 ≤ (I 27).toInt) (h28 : 0 ≤ (I 28).toInt) : qEi tx 7 i r J S := by
  intro b rc hf
  have e := mQ_pop (ph := 7) (b := b) (rc := rc) (hf := hf) (by rw [ht]; exact hx) (by omega) e27 e28 e23 e33 e32 h27 h28 e26
  have ht2 : qTop (R 22) (I 28).toInt.toNat = 10 := by rw [← topv_q h28]; exact ht
  rw [ht2, show 1048576 * (10 : Int).toNat = 10485760 from rfl] at e
  rw [e]
  exact qR_tr (h b rc hf) (qm_pop7 ht2)
theorem qEi_e (h : qEi tx 7 i r I R) (ht : topv I R ≠ 10) (h28 : 0 ≤ (I 28).toInt) : qEi tx 9 i r I R := by
  rw [topv_q h28] at ht
  exact fun b rc hf => qR_tr (h b rc hf) (qm_79 ht)
-- jumps land
def qLi (tx : Nat → Int) (p0 : Int32) (i : Nat → Int32) (r : Nat → Nat → Int32) (I : Nat → Int32) (R : Nat → Nat → Int32) : Prop := ∀ (b rc : Nat) (hf : qE), qR tx (mQ 9 b rc hf i r) (mQ 9 b rc hf I R) ∨ (p0.toInt ≠ 0 ∧ (tx (i 23).toInt.toNat ≠ 38 → qR tx (mQ 9 b rc hf i r) (mQ 10 b rc hf I R)))
def qLl (tx : Nat → Int) (p0 : Int32) (i : Nat → Int32) (r : Nat → Nat → Int32) (I : Nat → Int32) (R : Nat → Nat → Int32) : Prop := (p0.toInt = 0 → topv I R ≠ 11) ∧ ∀ (b rc : Nat) (hf : qE), (p0.toInt = 0 → qR tx (mQ 9 b rc hf i r) (mQ 9 b rc hf I R)) ∧ (p0.toInt ≠ 0 → tx (i 23).toInt.toNat ≠ 38 → qR tx (mQ 9 b rc hf i r) (mQ 10 b rc hf I R))
theorem qLi_0 : qLi tx p0 i r i r := fun _ _ _ => Or.inl qR_rf
theorem qLi_s {u : Nat} (h : qLi tx p0 i r I R) (ht : topv I R = 11 ∨ (p0.toInt ≠ 0 ∧ topv I R = 12)) (hv : cV (R 22 ((I 28).toInt.toNat - 1)) = (u : Int)) (hc : 0 ≤ (R 21 u).toInt) (hx : x.toInt = 1048576 * cOp (R 21 u) + (I 27).toInt.toNat) (hn : (I 27).toInt ≤ 220) (e27 : J 27 = I 27) (e28 : (J 28).toInt = (I 28).toInt - 1) (e23 : J 23 = I 23) (e26 : J 26 = I 26) (e33 : S 22 = R 22) (e32 : S 21 = upd (R 21) u x) (ei : I 23 = i 23) (h28 : 0 ≤ (I 28).toInt) : qLi tx p0 i r J S := by
  have hc2 : 0 ≤ cOp (R 21 u) := by unfold cOp; omega
  have hx2 : x = nI (1048576 * (cOp (R 21 u)).toNat + (I 27).toInt.toNat) := nI_i (by omega)
  have hu : (cV (R 22 ((I 28).toInt.toNat - 1))).toNat = u := by rw [hv]; exact Int.toNat_natCast u
  have e : ∀ (ph b rc : Nat) (hf : qE), mQ ph b rc hf J S = qc ph (I 23).toInt.toNat (I 26) ((I 28).toInt.toNat - 1) (I 27).toInt.toNat b rc hf (R 22) (qLnd (R 22) (R 21) (I 28).toInt.toNat (I 27).toInt.toNat) := fun ph b rc hf => mQ_eq (by rw [e23]) e26 (by omega) (by rw [e27]) e33 (by unfold qLnd; rw [hu, e32, hx2])
  rw [topv_q h28] at ht
  intro b rc hf
  rw [e 9, e 10]
  rcases h b rc hf with h1 | ⟨h1, h2⟩
  · rcases ht with ht | ⟨h0, ht⟩
    · exact Or.inl (qR_tr h1 (qm_lnd9 ht))
    · refine Or.inr ⟨h0, fun h9 => ?_⟩
      rw [← ei] at h9
      exact qR_tr h1 (qR_tr (qm_9a (by omega) h9) (qm_lnda (Or.inr ht)))
  · exact Or.inr ⟨h1, fun h9 => qR_tr (h2 h9) (qm_lnda (by omega))⟩
theorem qLi_e (h : qLi tx p0 i r I R) (h1 : p0.toInt = 0 → topv I R ≠ 11) (h2 : p0.toInt ≠ 0 → topv I R ≠ 11 ∧ topv I R ≠ 12) (ei : I 23 = i 23) (h28 : 0 ≤ (I 28).toInt) : qLl tx p0 i r I R := by
  refine ⟨h1, fun b rc hf => ⟨fun h0 => ?_, fun h0 h9 => ?_⟩⟩
  · rcases h b rc hf with a | ⟨a, _⟩
    · exact a
    · exact absurd h0 a
  · rw [topv_q h28] at h2
    rcases h b rc hf with a | ⟨_, a⟩
    · exact qR_tr a (qm_9a (h2 h0).1 (by rw [ei]; exact h9))
    · exact a h9
-- a jump is noted
def qJp (p0 : Int32) (i : Nat → Int32) (r : Nat → Nat → Int32) (I : Nat → Int32) (R : Nat → Nat → Int32) : Prop := ∀ (ph b rc : Nat) (hf : qE), mQ ph b rc hf I R = qc ph ((i 23).toInt.toNat + 1) (i 26) ((i 28).toInt.toNat + 1) ((i 27).toInt.toNat + 1) b rc hf (upd (r 22) (i 28).toInt.toNat (nI (1048576 * p0.toInt.toNat + (i 27).toInt.toNat))) (upd (r 21) (i 27).toInt.toNat (nI (1048576 * p0.toInt.toNat)))
theorem qJp_of (ho : p0.toInt = 11 ∨ p0.toInt = 12) (hx : x.toInt = 1048576 * p0.toInt + 0) (hy : y.toInt = 1048576 * p0.toInt + (i 27).toInt) (e27 : (I 27).toInt = (i 27).toInt + 1) (e28 : (I 28).toInt = (i 28).toInt + 1) (e23 : (I 23).toInt = (i 23).toInt + 1) (e26 : I 26 = i 26) (e33 : R 22 = upd (r 22) (i 28).toInt.toNat y) (e32 : R 21 = upd (r 21) (i 27).toInt.toNat x) (h27 : 0 ≤ (i 27).toInt) (h28 : 0 ≤ (i 28).toInt) (h23 : 0 ≤ (i 23).toInt) : qJp p0 i r I R := fun ph b rc hf => mQ_eq (by omega) e26 (by omega) (by omega) (by rw [e33, nI_i (x := y) (v := 1048576 * p0.toInt.toNat + (i 27).toInt.toNat) (by omega)]) (by rw [e32, nI_i (x := x) (v := 1048576 * p0.toInt.toNat) (by omega)])
-- a factor
def qG (tx : Nat → Int) (ph1 ph2 : Nat) (i : Nat → Int32) (r : Nat → Nat → Int32) (I : Nat → Int32) (R : Nat → Nat → Int32) (z : Int32) : Prop := ∀ (b rc : Nat) (hf : qE), (z.toInt ≠ 0 → qR tx (mQ ph1 b rc hf i r) (mQ ph2 b rc hf I R)) ∧ (z.toInt = 0 → qFa tx (mQ ph1 b rc hf i r) (I 25))
def qFi (tx : Nat → Int) (i : Nat → Int32) (r : Nat → Nat → Int32) (I : Nat → Int32) (R : Nat → Nat → Int32) : Prop := ∀ (b rc : Nat) (hf : qE), qR tx (mQ 0 b rc hf i r) (mQ 0 b rc hf I R)
theorem qFi_0 : qFi tx i r i r := fun _ _ _ => qR_rf
theorem qFi_o (h : qFi tx i r I R) (h91 : tx (I 23).toInt.toNat = 91) (h6 : I 26 ≠ 6) (e26 : J 26 = I 26 + 1) (hx : x.toInt = 1048576 * 14) (e28 : (J 28).toInt = (I 28).toInt + 1) (e23 : (J 23).toInt = (I 23).toInt + 1) (e27 : J 27 = I 27) (e32 : S 21 = R 21) (e33 : S 22 = upd (R 22) (I 28).toInt.toNat x) (h28 : 0 ≤ (I 28).toInt) (h23 : 0 ≤ (I 23).toInt) : qFi tx i r J S := by
  intro b rc hf
  rw [mQ_eq (J := J) (S := S) (p := (I 23).toInt.toNat + 1) (m := (I 28).toInt.toNat + 1) (n := (I 27).toInt.toNat) (w := upd (R 22) (I 28).toInt.toNat (nI 14680064)) (by omega) e26 (by omega) (by rw [e27]) (by rw [e33, nI_i (x := x) (v := 14680064) (by omega)]) e32]
  exact qR_tr (h b rc hf) (qm_brk h91 h6)
theorem qFi_6 {ph2 : Nat} (h : qFi tx i r I R) (h91 : tx (I 23).toInt.toNat = 91) (h6 : I 26 = 6) (e : (J 25).toInt = -5000 - (I 23).toInt) (h23 : 0 ≤ (I 23).toInt) : qG tx 0 ph2 i r J S 0 := fun b rc hf => ⟨fun h9 => absurd rfl h9, fun _ => qFa_1 (kz := 5) (qR_tr (h b rc hf) (qm_brk6 h91 h6)) (by omega)⟩
theorem qFi_n (h : qFi tx i r I R) (hd : 48 ≤ tx (I 23).toInt.toNat ∧ tx (I 23).toInt.toNat ≤ 57) (hn : qCnt tx (I 23).toInt.toNat 6 ≠ 6) (e23 : (J 23).toInt = (I 23).toInt + (qCnt tx (I 23).toInt.toNat 6 : Nat)) (hx : x.toInt = qVal tx (I 23).toInt.toNat (qCnt tx (I 23).toInt.toNat 6)) (h0 : 0 ≤ x.toInt) (e28 : J 28 = I 28) (e26 : J 26 = I 26) (e27 : (J 27).toInt = (I 27).toInt + 1) (e33 : S 22 = R 22) (e32 : S 21 = upd (R 21) (I 27).toInt.toNat x) (h27 : 0 ≤ (I 27).toInt) (h23 : 0 ≤ (I 23).toInt) : qG tx 0 1 i r J S 1 := by
  refine fun b rc hf => ⟨fun _ => ?_, fun h9 => absurd h9 (by decide)⟩
  rw [mQ_eq (J := J) (S := S) (p := (I 23).toInt.toNat + qCnt tx (I 23).toInt.toNat 6) (m := (I 28).toInt.toNat) (n := (I 27).toInt.toNat + 1) (c := upd (R 21) (I 27).toInt.toNat (nI (qVal tx (I 23).toInt.toNat (qCnt tx (I 23).toInt.toNat 6)).toNat)) (by omega) e26 (by rw [e28]) (by omega) e33 (by rw [e32, nI_i (x := x) (v := (qVal tx (I 23).toInt.toNat (qCnt tx (I 23).toInt.toNat 6)).toNat) (by omega)])]
  exact qR_tr (h b rc hf) (qm_num hd hn)
theorem qFi_n6 (h : qFi tx i r I R) (hd : 48 ≤ tx (I 23).toInt.toNat ∧ tx (I 23).toInt.toNat ≤ 57) (hn : qCnt tx (I 23).toInt.toNat 6 = 6) (e : (J 25).toInt = -2000 - ((I 23).toInt + 5)) (h23 : 0 ≤ (I 23).toInt) : qG tx 0 1 i r J S 0 := fun b rc hf => ⟨fun h9 => absurd rfl h9, fun _ => qFa_1 (kz := 2) (qR_tr (h b rc hf) (qm_num6 hd hn)) (by omega)⟩
theorem qFi_l (h : qFi tx i r I R) (h1 : tx (I 23).toInt.toNat ≠ 91) (h2 : ¬ (48 ≤ tx (I 23).toInt.toNat ∧ tx (I 23).toInt.toNat ≤ 57)) (h3 : 0 ≤ qFct (tx (I 23).toInt.toNat)) (e23 : (J 23).toInt = (I 23).toInt + 1) (hx : x.toInt = 1048576 + qFct (tx (I 23).toInt.toNat)) (e28 : J 28 = I 28) (e26 : J 26 = I 26) (e27 : (J 27).toInt = (I 27).toInt + 1) (e33 : S 22 = R 22) (e32 : S 21 = upd (R 21) (I 27).toInt.toNat x) (h27 : 0 ≤ (I 27).toInt) (h23 : 0 ≤ (I 23).toInt) : qG tx 0 1 i r J S 1 := by
  refine fun b rc hf => ⟨fun _ => ?_, fun h9 => absurd h9 (by decide)⟩
  rw [mQ_eq (J := J) (S := S) (p := (I 23).toInt.toNat + 1) (m := (I 28).toInt.toNat) (n := (I 27).toInt.toNat + 1) (c := upd (R 21) (I 27).toInt.toNat (nI (1048576 + (qFct (tx (I 23).toInt.toNat)).toNat))) (by omega) e26 (by rw [e28]) (by omega) e33 (by rw [e32, nI_i (x := x) (v := 1048576 + (qFct (tx (I 23).toInt.toNat)).toNat) (by omega)])]
  exact qR_tr (h b rc hf) (qm_let h1 h2 h3)
theorem qFi_no (h : qFi tx i r I R) (h1 : tx (I 23).toInt.toNat ≠ 91) (h2 : ¬ (48 ≤ tx (I 23).toInt.toNat ∧ tx (I 23).toInt.toNat ≤ 57)) (h3 : ¬ 0 ≤ qFct (tx (I 23).toInt.toNat)) (e : (J 25).toInt = -1000 - (I 23).toInt) (h23 : 0 ≤ (I 23).toInt) : qG tx 0 1 i r J S 0 := fun b rc hf => ⟨fun h9 => absurd rfl h9, fun _ => qFa_1 (kz := 1) (qR_tr (h b rc hf) (qm_nof h1 h2 h3)) (by omega)⟩
end MQ
theorem qFct_at {x v : Int} {z : Int32} (hx : x = v) (hz : z.toInt = qFct v) : z.toInt = qFct x := by rw [hx]; exact hz
theorem qFct_no {x : Int} (a0 : x ≠ 107) (a1 : x ≠ 114) (a2 : x ≠ 115) (a3 : x ≠ 111) (a4 : x ≠ 97) (a5 : x ≠ 109) (a6 : x ≠ 110) (a7 : x ≠ 103) (a8 : x ≠ 99) (a9 : x ≠ 118) : (-1 : Int32).toInt = qFct x := by
  unfold qFct; rw [if_neg a0, if_neg a1, if_neg a2, if_neg a3, if_neg a4, if_neg a5, if_neg a6, if_neg a7, if_neg a8, if_neg a9]; rfl
theorem qSum_at {x v : Int} {z : Int32} (hx : x = v) (hz : z.toInt = qSum v) : z.toInt = qSum x := by rw [hx]; exact hz
theorem qSum_no {x : Int} (a0 : x ≠ 43) (a1 : x ≠ 45) (a2 : x ≠ 42) (a3 : x ≠ 47) (a4 : x ≠ 37) : (-1 : Int32).toInt = qSum x := by
  unfold qSum; rw [if_neg a0, if_neg a1, if_neg a2, if_neg a3, if_neg a4]; rfl
set_option maxHeartbeats 4000000 in
set_option maxRecDepth 100000 in
theorem c_X12_readsNumber (l : Launch) (D : va_G) (cy : Nat → ClassId) (a : Nat → Nat) (i : Nat → Int32) (r : Nat → Nat → Int32) (rl : Nat → Int64) (sz : Nat) (hRi : mRi i) (hRr : mRr r) (tx : Nat → Int) (hte : tx = qTX (i 24) (r 20)) (hd : 48 ≤ (mHere i r).toInt ∧ (mHere i r).toInt ≤ 57) : Met l yX12_readsNumber (Cond.code yX12_readsNumber cX12_readsNumber 2 (some .boolean) :: gT) { frames := 3, cells := 0, slots := 0, locals := 64 } (va_Pc [.ref (a 0)] (rQ D cy (mW cy a i r rl) sz)) (va_Qi (fun (z : Int32) (u : (Nat → Int32) × (Nat → Nat → Int32)) => mRi u.1 ∧ mRr u.2 ∧ mEi [23, 25, 30] i u.1 ∧ mEr [] r u.2 ∧ (((z = 1 ∧ (i 23).toInt < (u.1 23).toInt) ∨ z = 0) ∧ (z.toInt ≠ 0 → qCnt tx (i 23).toInt.toNat 6 ≠ 6 ∧ (u.1 23).toInt = (i 23).toInt + ((qCnt tx (i 23).toInt.toNat 6 : Nat) : Int) ∧ (u.1 30).toInt = qVal tx (i 23).toInt.toNat (qCnt tx (i 23).toInt.toNat 6)) ∧ (z.toInt = 0 → qCnt tx (i 23).toInt.toNat 6 = 6 ∧ (u.1 25).toInt = -2000 - ((i 23).toInt + 5)))) (fun (u : (Nat → Int32) × (Nat → Nat → Int32)) t => va_P D vwCl (mW cy a u.1 u.2 rl) t.heap ∧ va_K D vwCl (vT cy) t ∧ va_D (va_A (mW cy a i r rl) sz) (mW cy a u.1 u.2 rl)) (va_A (mW cy a i r rl) sz)) 0 0 (va_A (mW cy a i r rl) sz) := by
  refine Met.ofQ (cc := cX12_readsNumber) (maxL := 2) (ret := (some .boolean)) (by decide) rfl ?_
  intro p e s m args below meth c s₁ B hml hv Q hQ
  obtain ⟨rfl, hsz, hP, hK, hD0⟩ := hv
  have hx := B.exec
  have hb := B.bytes
  have hr := B.returns
  have hlocks := B.notSynchronized
  have hT : ∀ w ∈ gT, w.before _ s = true := fun w h => atoms_spec (ws := (Cond.code yX12_readsNumber cX12_readsNumber 2 (some .boolean) :: gT)) B.pre w (List.mem_cons_of_mem _ h)
  have hown : s.vm.findClass RX12 = some m.cls := findClass_of_methodNamed B.named
  subst hsz
  have hD := hD0.self (sz := s.heap.size)
  generalize hAe : va_A (mW cy a i r rl) s.heap.size = A at hD hQ
  have hA : ∀ q : Nat, s.heap.size ≤ q → A q := fun q h => by rw [← hAe]; exact Or.inr h
  have hS : va_S A s.heap s.heap [] := va_S.rf
  have hl := lv_entry ([.ref (a 0)]) (n := 2) (Nat.le_of_ble_eq_true rfl)
  rw [lg_entry_eq]
  generalize (lg_sl ([.ref (a 0)]) ++ List.replicate (2 - (lg_sl ([.ref (a 0)])).length) Slot.unset).toArray = ls at hl ⊢
  have hl : lv_has ls 2 [(0, .ref (a 0))] := hl
  have hEi : mEi [23, 25, 30] i i := Ei_rf
  have hEr : mEr [] r r := Er_rf
  have hg23z : 0 ≤ (i 23).toInt := (hRi 23).1
  refine lv_aload_n hx hb dX12_readsNumber_0 rfl (lv_at hl 0 rfl) ?_
  refine va_get (D := D) (ci := 12) (v := .int (i 23)) (C := RX12) (T := TX12) (N := 91) hx hb hT iX12 hown hK hP 0 rfl rfl 23 (by decide) (hT _ t_252) (fun _ h9 => h9) rfl dX12_readsNumber_1 ?_
  have hg_1 : 0 ≤ (i 23).toInt ∧ (i 23).toInt ≤ 200 := hRi 23
  refine lv_istore_n (lv' := [(1, .int (i 23)), (0, .ref (a 0))]) hx hb dX12_readsNumber_4 rfl hl (by decide) rfl (fun ls hl => ?_)
  refine lv_aload_n hx hb dX12_readsNumber_5 rfl (lv_at hl 1 rfl) ?_
  refine lv_iconst (v := 0) hx hb dX12_readsNumber_6 (by decide) ?_
  refine va_put (D := D) (ci := 12) (v := .int 0) (ty := .int) (C := RX12) (T := TX12) (N := 91) hx hb hT iX12 tyX12 tyX12_ok nmX12 hown hK hP hD hS 0 rfl rfl 30 (by decide) (hT _ t_842) (fun _ h9 => h9) rfl (by decide +kernel) rfl rfl (Nat.le_of_ble_eq_true rfl) dX12_readsNumber_7 (fun H locs hP hD hS => ?_)
  rw [mP30] at hP hD
  have hRi := Ri_upd hRi 30 0 ⟨by decide, by decide⟩
  have hEi := Ei_upd hEi 30 0 (by decide)
  have loop_2 : ∀ (n : Nat) (i2 : Nat → Int32) (H : Heap) (locs : List Loc) (ls : Array Slot), (200 - (i2 23).toInt).toNat < n → mRi i2 → mEi [23, 25, 30] i i2 → (numI ((i2 23).toInt - (i 23).toInt) (i2 30).toInt ∧ qNu tx (i 23).toInt.toNat ((i2 23).toInt - (i 23).toInt).toNat (i2 30).toInt) → va_P D vwCl (mW cy a i2 r rl) H → va_D A (mW cy a i2 r rl) → va_S A s.heap H locs → lv_has ls 2 [(1, .int (i 23)), (0, .ref (a 0))] → W p l e ({ frames := 3, cells := 0, slots := 0, locals := 64 } : Room) s m ([.ref (a 0)] : List Value).toArray below meth c H locs 0 0 Q (F0 m 10 ls []) := by
    intro n
    induction n with
    | zero =>
      intro i2 H locs ls hm2 hRi hEi hx2 hP hD hS hl
      exact absurd hm2 (by omega)
    | succ n ih2 =>
      intro i2 H locs ls hm2 hRi hEi hx2 hP hD hS hl
      refine lv_aload_n hx hb dX12_readsNumber_10 rfl (lv_at hl 1 rfl) ?_
      obtain ⟨hx2, hnu⟩ := hx2
      have hg23i : 0 ≤ (i 23).toInt := hg23z
      have hnr := numI_rg hx2
      have hg24 : 0 ≤ (i2 24).toInt ∧ (i2 24).toInt ≤ 200 := hRi 24
      have hg23 : 0 ≤ (i2 23).toInt ∧ (i2 23).toInt ≤ 200 := hRi 23
      have hg30 : 0 ≤ (i2 30).toInt ∧ (i2 30).toInt ≤ 99999 := hRi 30
      have h24 : i2 24 = i 24 := hEi 24 (by decide)
      have hmt : (mHere i2 r).toInt = tx (i2 23).toInt.toNat := mHere_tx (hte.trans (qTX_c (hEi 24 (by decide)) (hEr 20 (by decide)))) (show 0 ≤ (i2 23).toInt from (hRi 23).1)
      have hPK : (i2 23).toInt.toNat = (i 23).toInt.toNat + ((i2 23).toInt - (i 23).toInt).toNat := by omega
      rw [hPK] at hmt
      refine vp_callSi (W.runV (As := []) (rest := []) ⟨hx, hb, hml, hown, hT⟩ (c_X12_isDigit l D cy a i2 r rl hRi hRr) (cwV 0 hT (gV t_843 t_844 t_845 t_846 t_6) rfl rfl rfl (by decide +kernel) ⟨Nat.le_of_ble_eq_true rfl, Nat.le_of_ble_eq_true rfl⟩) (rP_v hP hK (va_recv hK hP (ci := 12) (q0 := 0) rfl rfl)) rfl rfl hl.1 rfl (lv_room (Nat.le_of_ble_eq_true rfl)) dX12_readsNumber_11 ⟨Nat.le_of_ble_eq_true rfl, Nat.le_of_ble_eq_true rfl⟩) (fun r_3 hr_3 => ?_)
      have hr_3 : BR r_3 (48 ≤ (mHere i2 r).toInt ∧ (mHere i2 r).toInt ≤ 57) 1 0 := hr_3
      rcases hr_3 with ⟨rfl, h_4⟩ | ⟨rfl, h_4⟩
      · skip
        refine lv_if_eq (tgt := 69) hx hb dX12_readsNumber_14 (by decide) (fun c_5 => absurd c_5 (by decide)) (fun c_5 => ?_)
        refine lv_aload_n hx hb dX12_readsNumber_17 rfl (lv_at hl 1 rfl) ?_
        refine va_get (D := D) (ci := 12) (v := .int (i2 23)) (C := RX12) (T := TX12) (N := 91) hx hb hT iX12 hown hK hP 0 rfl rfl 23 (by decide) (hT _ t_252) (fun _ h9 => h9) rfl dX12_readsNumber_18 ?_
        have hg_6 : 0 ≤ (i2 23).toInt ∧ (i2 23).toInt ≤ 200 := hRi 23
        have hlt9 := mHere_lt (i := i2) (r := r) (by omega)
        refine lv_iload_n hx hb dX12_readsNumber_21 rfl (lv_at hl 0 rfl) ?_
        refine lv_iconst (v := 5) hx hb dX12_readsNumber_22 (by decide) ?_
        refine lv_iadd hx hb dX12_readsNumber_23 ?_
        refine lv_topi (fun v_7 ev_7 => ?_)
        have hv_7 : v_7.toInt = (i 23).toInt + 5 := by rw [ev_7]; have := b_rg (i 23); exact i_add (a := (i 23).toInt) (b := 5) rfl rfl (by omega) (by omega)
        refine lv_icmp_ne (tgt := 37) hx hb dX12_readsNumber_24 (by decide) (fun c_8 => ?_) (fun c_8 => ?_)
        · have c_8 : (i2 23).toInt ≠ v_7.toInt := b_ne c_8
          refine lv_aload_n hx hb dX12_readsNumber_37 rfl (lv_at hl 1 rfl) ?_
          refine lv_bipush (v := 10) hx hb dX12_readsNumber_38 (by decide) ?_
          refine lv_aload_n hx hb dX12_readsNumber_40 rfl (lv_at hl 1 rfl) ?_
          refine va_get (D := D) (ci := 12) (v := .int (i2 30)) (C := RX12) (T := TX12) (N := 91) hx hb hT iX12 hown hK hP 0 rfl rfl 30 (by decide) (hT _ t_842) (fun _ h9 => h9) rfl dX12_readsNumber_41 ?_
          have hg_9 : 0 ≤ (i2 30).toInt ∧ (i2 30).toInt ≤ 99999 := hRi 30
          have hn9 : (i2 30).toInt ≤ 9999 := hnr.2.2.2 (by omega)
          refine lv_imul hx hb dX12_readsNumber_44 ?_
          refine lv_topi (fun v_10 ev_10 => ?_)
          have hv_10 : v_10.toInt = 10 * (i2 30).toInt := by rw [ev_10]; have := b_rg (i2 30); exact i_mul (a := 10) (b := (i2 30).toInt) rfl rfl (by omega) (by omega)
          refine lv_aload_n hx hb dX12_readsNumber_45 rfl (lv_at hl 1 rfl) ?_
          refine vp_callSi (W.runV (As := []) (rest := [.int v_10, .ref (a 0)]) ⟨hx, hb, hml, hown, hT⟩ (c_X12_here l D cy a i2 r rl hRi hRr) (cwV 0 hT (gV t_254 t_255 t_256 t_257 t_6) rfl rfl rfl (by decide +kernel) ⟨Nat.le_of_ble_eq_true rfl, Nat.le_of_ble_eq_true rfl⟩) (rP_v hP hK (va_recv hK hP (ci := 12) (q0 := 0) rfl rfl)) rfl rfl hl.1 rfl (lv_room (Nat.le_of_ble_eq_true rfl)) dX12_readsNumber_46 ⟨Nat.le_of_ble_eq_true rfl, Nat.le_of_ble_eq_true rfl⟩) (fun r_11 hr_11 => ?_)
          have hqr_11 : -1 ≤ r_11.toInt ∧ r_11.toInt ≤ 255 := by rw [hr_11]; exact mHere_rg _ _
          have hwr_11 : r_11.toInt = (mHere i2 r).toInt := congrArg Int32.toInt hr_11
          refine lv_iadd hx hb dX12_readsNumber_49 ?_
          refine lv_topi (fun v_12 ev_12 => ?_)
          have hv_12 : v_12.toInt = v_10.toInt + r_11.toInt := by rw [ev_12]; have := b_rg v_10; have := b_rg r_11; exact i_add (a := v_10.toInt) (b := r_11.toInt) rfl rfl (by omega) (by omega)
          refine lv_bipush (v := 48) hx hb dX12_readsNumber_50 (by decide) ?_
          refine lv_isub hx hb dX12_readsNumber_52 ?_
          refine lv_topi (fun v_13 ev_13 => ?_)
          have hv_13 : v_13.toInt = v_12.toInt - 48 := by rw [ev_13]; have := b_rg v_12; exact i_sub (a := v_12.toInt) (b := 48) rfl rfl (by omega) (by omega)
          refine va_put (D := D) (ci := 12) (v := .int v_13) (ty := .int) (C := RX12) (T := TX12) (N := 91) hx hb hT iX12 tyX12 tyX12_ok nmX12 hown hK hP hD hS 0 rfl rfl 30 (by decide) (hT _ t_842) (fun _ h9 => h9) rfl (by decide +kernel) rfl rfl (Nat.le_of_ble_eq_true rfl) dX12_readsNumber_53 (fun H locs hP hD hS => ?_)
          rw [mP30] at hP hD
          have hRi := Ri_upd hRi 30 v_13 ⟨by show (0 : Int) ≤ v_13.toInt; omega, by show v_13.toInt ≤ (99999 : Int); omega⟩
          have hEi := Ei_upd hEi 30 v_13 (by decide)
          refine lv_aload_n hx hb dX12_readsNumber_56 rfl (lv_at hl 1 rfl) ?_
          refine lv_aload_n hx hb dX12_readsNumber_57 rfl (lv_at hl 1 rfl) ?_
          refine va_get (D := D) (ci := 12) (v := .int (i2 23)) (C := RX12) (T := TX12) (N := 91) hx hb hT iX12 hown hK hP 0 rfl rfl 23 (by decide) (hT _ t_252) (fun _ h9 => h9) rfl dX12_readsNumber_58 ?_
          refine lv_iconst (v := 1) hx hb dX12_readsNumber_61 (by decide) ?_
          refine lv_iadd hx hb dX12_readsNumber_62 ?_
          refine lv_topi (fun v_14 ev_14 => ?_)
          have hv_14 : v_14.toInt = (i2 23).toInt + 1 := by rw [ev_14]; have := b_rg (i2 23); exact i_add (a := (i2 23).toInt) (b := 1) rfl rfl (by omega) (by omega)
          refine va_put (D := D) (ci := 12) (v := .int v_14) (ty := .int) (C := RX12) (T := TX12) (N := 91) hx hb hT iX12 tyX12 tyX12_ok nmX12 hown hK hP hD hS 0 rfl rfl 23 (by decide) (hT _ t_252) (fun _ h9 => h9) rfl (by decide +kernel) rfl rfl (Nat.le_of_ble_eq_true rfl) dX12_readsNumber_63 (fun H locs hP hD hS => ?_)
          rw [mP23] at hP hD
          have hRi := Ri_upd hRi 23 v_14 ⟨by show (0 : Int) ≤ v_14.toInt; omega, by show v_14.toInt ≤ (200 : Int); omega⟩
          have hEi := Ei_upd hEi 23 v_14 (by decide)
          refine lv_goto (tgt := 10) hx hb dX12_readsNumber_66 (by decide) ?_
          have hd9 : v_14.toInt - (i 23).toInt = ((i2 23).toInt - (i 23).toInt) + 1 := by omega
          have hmm23 : ((upd (upd i2 30 v_13) 23 v_14) 23).toInt = v_14.toInt := rfl
          exact ih2 (upd (upd i2 30 v_13) 23 v_14) _ _ _ (by first | omega | (simp only [Int.toNat]; omega))  hRi hEi ⟨(by show numI (v_14.toInt - (i 23).toInt) v_13.toInt; rw [hd9]; exact numI_step hx2 (by omega) (by omega)), by show qNu tx (i 23).toInt.toNat (v_14.toInt - (i 23).toInt).toNat v_13.toInt; exact qNu_s hnu (by rw [← hmt]; exact h_4) (by omega) (by omega)⟩ hP hD hS (lv_sub hl [0, 1] rfl)
        · have c_8 : (i2 23).toInt = v_7.toInt := b_nne c_8
          refine lv_aload_n hx hb dX12_readsNumber_27 rfl (lv_at hl 1 rfl) ?_
          refine lv_iconst (v := 2) hx hb dX12_readsNumber_28 (by decide) ?_
          refine lv_aload_n hx hb dX12_readsNumber_29 rfl (lv_at hl 1 rfl) ?_
          refine va_get (D := D) (ci := 12) (v := .int (i2 23)) (C := RX12) (T := TX12) (N := 91) hx hb hT iX12 hown hK hP 0 rfl rfl 23 (by decide) (hT _ t_252) (fun _ h9 => h9) rfl dX12_readsNumber_30 ?_
          have hF_15 := rF hD hS hA
          refine va_calli (va_runV (As := [.int 2, .int (i2 23)]) (rest := []) ⟨hx, hb, hml, hown, hT⟩ (c_X12_wrongAt l D cy a i2 r rl 2 (i2 23) _ hRi hRr (by first | omega | decide) (by have h9 : 0 ≤ (i2 23).toInt ∧ (i2 23).toInt ≤ 200 := hRi 23; omega)) (cwV 2 hT (gV t_259 t_260 t_261 t_262 t_6) rfl rfl rfl (by decide +kernel) ⟨Nat.le_of_ble_eq_true rfl, Nat.le_of_ble_eq_true rfl⟩) (rQ_v hP hK hD (va_recv hK hP (ci := 12) (q0 := 0) rfl rfl)) rfl rfl hl.1 rfl (lv_room (Nat.le_of_ble_eq_true rfl)) dX12_readsNumber_33 ⟨Nat.le_of_ble_eq_true rfl, Nat.le_of_ble_eq_true rfl⟩) hS (fun q _ h => hF_15 q h) hF_15 (fun r_16 u_17 t H1 locs ht hvm hr_16 hB hz1 hk1 hS => ?_)
          obtain ⟨i17, r17⟩ := u_17
          obtain ⟨hP, hK1, hD1⟩ := hB
          rw [ht] at hP
          have hD := hD1.weaken (fun k q _ h => hF_15 q.1 h)
          have hP : va_P D vwCl (mW cy a i17 r17 rl) H1 := hP
          have hD : va_D A (mW cy a i17 r17 rl) := hD
          obtain ⟨hRi, hRr, hE1, hE2, hr_16⟩ := hr_16
          have hRi : mRi i17 := hRi
          have hRr : mRr r17 := hRr
          have hEi : mEi [23, 25, 30] _ i17 := Ei_tr hEi hE1 (by decide)
          have hEr : mEr [] _ r17 := Er_tr hEr hE2 (by decide)
          obtain ⟨hr_16, hw0⟩ := hr_16
          have hwf : (i17 25).toInt = -2000 - (i2 23).toInt := hw0
          clear hw0
          subst hr_16
          subst hQ
          have hk5 : ((i2 23).toInt - (i 23).toInt).toNat = 5 := by omega
          have hc6 : qCnt tx (i 23).toInt.toNat 6 = 6 := qCnt_all 6 _ (fun j hj => by by_cases h9 : j = 5; (· rw [h9, ← hk5, ← hmt]; exact h_4); (· exact hnu.1 j (by omega)))
          have hpo9 : (((0 : Int32) = 1 ∧ (i 23).toInt < (i17 23).toInt) ∨ (0 : Int32) = 0) ∧ ((0 : Int32).toInt ≠ 0 → qCnt tx (i 23).toInt.toNat 6 ≠ 6 ∧ (i17 23).toInt = (i 23).toInt + ((qCnt tx (i 23).toInt.toNat 6 : Nat) : Int) ∧ (i17 30).toInt = qVal tx (i 23).toInt.toNat (qCnt tx (i 23).toInt.toNat 6)) ∧ ((0 : Int32).toInt = 0 → qCnt tx (i 23).toInt.toNat 6 = 6 ∧ (i17 25).toInt = -2000 - ((i 23).toInt + 5)) := ⟨Or.inr rfl, fun h9 => absurd rfl h9, fun _ => ⟨hc6, by omega⟩⟩
          exact W.zret hx hb hr rfl (fun t ht hW => ⟨⟨_, (i17, r17), rfl, ⟨hRi, hRr, hEi, hEr, hpo9⟩, by rw [ht]; exact hP, va_K.moved hW.alike hK, hD⟩, hS.F ht⟩) hS.2.2 dX12_readsNumber_36
      · skip
        refine lv_if_eq (tgt := 69) hx hb dX12_readsNumber_14 (by decide) (fun c_18 => ?_) (fun c_18 => absurd (by decide) c_18)
        refine lv_iconst (v := 1) hx hb dX12_readsNumber_69 (by decide) ?_
        subst hQ
        have hlt : (i 23).toInt < (i2 23).toInt := by
          by_cases h9 : (i2 23).toInt = (i 23).toInt
          · have h8 := mHere_eq (r := r) (Int32.toInt_inj.mp h9) h24; rw [h8] at h_4; exact absurd hd h_4
          · omega
        have hcn : qCnt tx (i 23).toInt.toNat 6 = ((i2 23).toInt - (i 23).toInt).toNat := qCnt_eq 6 _ _ (by omega) hnu.1 (by rw [← hmt]; exact h_4)
        have hpo9 : (((1 : Int32) = 1 ∧ (i 23).toInt < (i2 23).toInt) ∨ (1 : Int32) = 0) ∧ ((1 : Int32).toInt ≠ 0 → qCnt tx (i 23).toInt.toNat 6 ≠ 6 ∧ (i2 23).toInt = (i 23).toInt + ((qCnt tx (i 23).toInt.toNat 6 : Nat) : Int) ∧ (i2 30).toInt = qVal tx (i 23).toInt.toNat (qCnt tx (i 23).toInt.toNat 6)) ∧ ((1 : Int32).toInt = 0 → qCnt tx (i 23).toInt.toNat 6 = 6 ∧ (i2 25).toInt = -2000 - ((i 23).toInt + 5)) := ⟨Or.inl ⟨rfl, hlt⟩, fun _ => ⟨by rw [hcn]; omega, by rw [hcn]; omega, by rw [hcn]; exact hnu.2⟩, fun h9 => absurd h9 (by decide)⟩
        exact W.zret hx hb hr rfl (fun t ht hW => ⟨⟨_, (i2, r), rfl, ⟨hRi, hRr, hEi, hEr, hpo9⟩, by rw [ht]; exact hP, va_K.moved hW.alike hK, hD⟩, hS.F ht⟩) hS.2.2 dX12_readsNumber_70
  exact loop_2 _ (upd i 30 0) _ _ _ (Nat.lt_succ_self _)  hRi hEi ⟨(Or.inl ⟨by show (i 23).toInt - (i 23).toInt = 0; omega, rfl⟩), by show qNu tx (i 23).toInt.toNat ((i 23).toInt - (i 23).toInt).toNat (0 : Int32).toInt; rw [show ((i 23).toInt - (i 23).toInt).toNat = 0 by omega]; exact qNu_0⟩ hP hD hS hl
set_option maxHeartbeats 4000000 in
set_option maxRecDepth 100000 in
theorem c_X12_notes (l : Launch) (D : va_G) (cy : Nat → ClassId) (a : Nat → Nat) (i : Nat → Int32) (r : Nat → Nat → Int32) (rl : Nat → Int64) (p0 p1 : Int32) (sz : Nat) (hRi : mRi i) (hRr : mRr r) (q0 : 0 ≤ p0.toInt ∧ p0.toInt ≤ 14) (q1 : 0 ≤ p1.toInt ∧ p1.toInt ≤ 99999) (hc : (i 27).toInt < 220) : Met l yX12_notes (Cond.code yX12_notes cX12_notes 3 none :: gT) { frames := 1, cells := 0, slots := 0, locals := 24 } (va_Pc [.ref (a 0), .int p0, .int p1] (rQ D cy (mW cy a i r rl) sz)) (va_Qv (fun u : (Nat → Int32) × (Nat → Nat → Int32) => mRi u.1 ∧ mRr u.2 ∧ mEi [27] i u.1 ∧ mEr [21] r u.2 ∧ ((u.1 27).toInt = (i 27).toInt + 1 ∧ ∃ x : Int32, x.toInt = 1048576 * p0.toInt + p1.toInt ∧ u.2 21 = upd (r 21) (i 27).toInt.toNat x)) (fun (u : (Nat → Int32) × (Nat → Nat → Int32)) t => va_P D vwCl (mW cy a u.1 u.2 rl) t.heap ∧ va_K D vwCl (vT cy) t ∧ va_D (va_A (mW cy a i r rl) sz) (mW cy a u.1 u.2 rl)) (va_A (mW cy a i r rl) sz)) 0 0 (va_A (mW cy a i r rl) sz) := by
  refine Met.ofQ (cc := cX12_notes) (maxL := 3) (ret := none) (by decide) rfl ?_
  intro p e s m args below meth c s₁ B hml hv Q hQ
  obtain ⟨rfl, hsz, hP, hK, hD0⟩ := hv
  have hx := B.exec
  have hb := B.bytes
  have hr := B.returns
  have hlocks := B.notSynchronized
  have hT : ∀ w ∈ gT, w.before _ s = true := fun w h => atoms_spec (ws := (Cond.code yX12_notes cX12_notes 3 none :: gT)) B.pre w (List.mem_cons_of_mem _ h)
  have hown : s.vm.findClass RX12 = some m.cls := findClass_of_methodNamed B.named
  subst hsz
  have hD := hD0.self (sz := s.heap.size)
  generalize hAe : va_A (mW cy a i r rl) s.heap.size = A at hD hQ
  have hA : ∀ q : Nat, s.heap.size ≤ q → A q := fun q h => by rw [← hAe]; exact Or.inr h
  have hS : va_S A s.heap s.heap [] := va_S.rf
  have hl := lv_entry ([.ref (a 0), .int p0, .int p1]) (n := 3) (Nat.le_of_ble_eq_true rfl)
  rw [lg_entry_eq]
  generalize (lg_sl ([.ref (a 0), .int p0, .int p1]) ++ List.replicate (3 - (lg_sl ([.ref (a 0), .int p0, .int p1])).length) Slot.unset).toArray = ls at hl ⊢
  have hl : lv_has ls 3 [(0, .ref (a 0)), (1, .int p0), (2, .int p1)] := hl
  have hEi : mEi [27] i i := Ei_rf
  have hEr : mEr [21] r r := Er_rf
  have hg27 : 0 ≤ (i 27).toInt ∧ (i 27).toInt ≤ 220 := hRi 27
  refine lv_aload_n hx hb dX12_notes_0 rfl (lv_at hl 0 rfl) ?_
  refine va_get (D := D) (ci := 12) (v := .ref (a 21)) (C := RX12) (T := TX12) (N := 91) hx hb hT iX12 hown hK hP 0 rfl rfl 32 (by decide) (hT _ t_788) (fun _ h9 => h9) rfl dX12_notes_1 ?_
  refine lv_aload_n hx hb dX12_notes_4 rfl (lv_at hl 0 rfl) ?_
  refine va_get (D := D) (ci := 12) (v := .int (i 27)) (C := RX12) (T := TX12) (N := 91) hx hb hT iX12 hown hK hP 0 rfl rfl 27 (by decide) (hT _ t_847) (fun _ h9 => h9) rfl dX12_notes_5 ?_
  have hg_1 : 0 ≤ (i 27).toInt ∧ (i 27).toInt ≤ 220 := hRi 27
  refine lv_ldcw (v := 1048576) hx hb hown (hT _ t_84) dX12_notes_8 ?_
  refine lv_iload_n hx hb dX12_notes_11 rfl (lv_at hl 1 rfl) ?_
  refine lv_imul hx hb dX12_notes_12 ?_
  refine lv_topi (fun v_2 ev_2 => ?_)
  have hv_2 : v_2.toInt = 1048576 * p0.toInt := by rw [ev_2]; have := b_rg p0; exact i_mul (a := 1048576) (b := p0.toInt) rfl rfl (by omega) (by omega)
  refine lv_iload_n hx hb dX12_notes_13 rfl (lv_at hl 2 rfl) ?_
  refine lv_iadd hx hb dX12_notes_14 ?_
  refine lv_topi (fun v_3 ev_3 => ?_)
  have hv_3 : v_3.toInt = v_2.toInt + p1.toInt := by rw [ev_3]; have := b_rg v_2; have := b_rg p1; exact i_add (a := v_2.toInt) (b := p1.toInt) rfl rfl (by omega) (by omega)
  refine va_iast hx hb hK hP hD hS 21 0 rfl rfl (vp_inI (by omega) (by omega)) dX12_notes_15 (fun H locs hP hD hS => ?_)
  rw [mS21] at hP hD
  have hRr : mRr (va_up r 21 (upd (r 21) ((i 27).toNatClampNeg) v_3)) := Rr_upd hRr 21 ((i 27).toNatClampNeg) v_3 (b_rg _)
  have hEr : mEr [21] _ (va_up r 21 (upd (r 21) ((i 27).toNatClampNeg) v_3)) := Er_up hEr 21 _ (by decide)
  refine lv_aload_n hx hb dX12_notes_16 rfl (lv_at hl 0 rfl) ?_
  refine lv_aload_n hx hb dX12_notes_17 rfl (lv_at hl 0 rfl) ?_
  refine va_get (D := D) (ci := 12) (v := .int (i 27)) (C := RX12) (T := TX12) (N := 91) hx hb hT iX12 hown hK hP 0 rfl rfl 27 (by decide) (hT _ t_847) (fun _ h9 => h9) rfl dX12_notes_18 ?_
  refine lv_iconst (v := 1) hx hb dX12_notes_21 (by decide) ?_
  refine lv_iadd hx hb dX12_notes_22 ?_
  refine lv_topi (fun v_4 ev_4 => ?_)
  have hv_4 : v_4.toInt = (i 27).toInt + 1 := by rw [ev_4]; have := b_rg (i 27); exact i_add (a := (i 27).toInt) (b := 1) rfl rfl (by omega) (by omega)
  refine va_put (D := D) (ci := 12) (v := .int v_4) (ty := .int) (C := RX12) (T := TX12) (N := 91) hx hb hT iX12 tyX12 tyX12_ok nmX12 hown hK hP hD hS 0 rfl rfl 27 (by decide) (hT _ t_847) (fun _ h9 => h9) rfl (by decide +kernel) rfl rfl (Nat.le_of_ble_eq_true rfl) dX12_notes_23 (fun H locs hP hD hS => ?_)
  rw [mP27] at hP hD
  have hRi := Ri_upd hRi 27 v_4 ⟨by show (0 : Int) ≤ v_4.toInt; omega, by show v_4.toInt ≤ (220 : Int); omega⟩
  have hEi := Ei_upd hEi 27 v_4 (by decide)
  subst hQ
  exact W.vret hx hb hr (fun t ht hW => ⟨⟨(upd i 27 v_4, va_up r 21 (upd (r 21) ((i 27).toNatClampNeg) v_3)), rfl, ⟨hRi, hRr, hEi, hEr, ⟨by show v_4.toInt = _; omega, v_3, by omega, rfl⟩⟩, by rw [ht]; exact hP, va_K.moved hW.alike hK, hD⟩, hS.F ht⟩) hS.2.2 dX12_notes_26
set_option maxHeartbeats 4000000 in
set_option maxRecDepth 100000 in
theorem c_X12_opens (l : Launch) (D : va_G) (cy : Nat → ClassId) (a : Nat → Nat) (i : Nat → Int32) (r : Nat → Nat → Int32) (rl : Nat → Int64) (p0 : Int32) (sz : Nat) (hRi : mRi i) (hRr : mRr r) (q0 : 10 ≤ p0.toInt ∧ p0.toInt ≤ 14) (h23 : (i 23).toInt < 200) (h28 : (i 28).toInt ≤ 200) : Met l yX12_opens (Cond.code yX12_opens cX12_opens 2 (some .boolean) :: gT) { frames := 2, cells := 0, slots := 0, locals := 46 } (va_Pc [.ref (a 0), .int p0] (rQ D cy (mW cy a i r rl) sz)) (va_Qi (fun (z : Int32) (u : (Nat → Int32) × (Nat → Nat → Int32)) => mRi u.1 ∧ mRr u.2 ∧ mEi [23, 25, 26, 28] i u.1 ∧ mEr [22] r u.2 ∧ (((z = 1 ∧ (u.1 28).toInt = (i 28).toInt + 1 ∧ (u.1 23).toInt = (i 23).toInt + 1 ∧ ∃ x : Int32, x.toInt = 1048576 * p0.toInt ∧ u.2 22 = upd (r 22) (i 28).toInt.toNat x) ∨ z = 0) ∧ (z.toInt ≠ 0 → i 26 ≠ 6 ∧ u.1 26 = i 26 + 1) ∧ (z.toInt = 0 → i 26 = 6 ∧ (u.1 25).toInt = -5000 - (i 23).toInt))) (fun (u : (Nat → Int32) × (Nat → Nat → Int32)) t => va_P D vwCl (mW cy a u.1 u.2 rl) t.heap ∧ va_K D vwCl (vT cy) t ∧ va_D (va_A (mW cy a i r rl) sz) (mW cy a u.1 u.2 rl)) (va_A (mW cy a i r rl) sz)) 0 0 (va_A (mW cy a i r rl) sz) := by
  refine Met.ofQ (cc := cX12_opens) (maxL := 2) (ret := (some .boolean)) (by decide) rfl ?_
  intro p e s m args below meth c s₁ B hml hv Q hQ
  obtain ⟨rfl, hsz, hP, hK, hD0⟩ := hv
  have hx := B.exec
  have hb := B.bytes
  have hr := B.returns
  have hlocks := B.notSynchronized
  have hT : ∀ w ∈ gT, w.before _ s = true := fun w h => atoms_spec (ws := (Cond.code yX12_opens cX12_opens 2 (some .boolean) :: gT)) B.pre w (List.mem_cons_of_mem _ h)
  have hown : s.vm.findClass RX12 = some m.cls := findClass_of_methodNamed B.named
  subst hsz
  have hD := hD0.self (sz := s.heap.size)
  generalize hAe : va_A (mW cy a i r rl) s.heap.size = A at hD hQ
  have hA : ∀ q : Nat, s.heap.size ≤ q → A q := fun q h => by rw [← hAe]; exact Or.inr h
  have hS : va_S A s.heap s.heap [] := va_S.rf
  have hl := lv_entry ([.ref (a 0), .int p0]) (n := 2) (Nat.le_of_ble_eq_true rfl)
  rw [lg_entry_eq]
  generalize (lg_sl ([.ref (a 0), .int p0]) ++ List.replicate (2 - (lg_sl ([.ref (a 0), .int p0])).length) Slot.unset).toArray = ls at hl ⊢
  have hl : lv_has ls 2 [(0, .ref (a 0)), (1, .int p0)] := hl
  have hEi : mEi [23, 25, 26, 28] i i := Ei_rf
  have hEr : mEr [22] r r := Er_rf
  have hg28 : 0 ≤ (i 28).toInt ∧ (i 28).toInt ≤ 220 := hRi 28
  have hg23 : 0 ≤ (i 23).toInt ∧ (i 23).toInt ≤ 200 := hRi 23
  refine lv_aload_n hx hb dX12_opens_0 rfl (lv_at hl 0 rfl) ?_
  refine va_get (D := D) (ci := 12) (v := .int (i 26)) (C := RX12) (T := TX12) (N := 91) hx hb hT iX12 hown hK hP 0 rfl rfl 26 (by decide) (hT _ t_848) (fun _ h9 => h9) rfl dX12_opens_1 ?_
  refine lv_bipush (v := 6) hx hb dX12_opens_4 (by decide) ?_
  refine lv_icmp_ne (tgt := 19) hx hb dX12_opens_6 (by decide) (fun c_1 => ?_) (fun c_1 => ?_)
  · have c_1 : (i 26).toInt ≠ 6 := b_ne c_1
    refine lv_aload_n hx hb dX12_opens_19 rfl (lv_at hl 0 rfl) ?_
    refine lv_aload_n hx hb dX12_opens_20 rfl (lv_at hl 0 rfl) ?_
    refine va_get (D := D) (ci := 12) (v := .int (i 26)) (C := RX12) (T := TX12) (N := 91) hx hb hT iX12 hown hK hP 0 rfl rfl 26 (by decide) (hT _ t_848) (fun _ h9 => h9) rfl dX12_opens_21 ?_
    refine lv_iconst (v := 1) hx hb dX12_opens_24 (by decide) ?_
    refine lv_iadd hx hb dX12_opens_25 ?_
    refine lv_topi (fun v_2 ev_2 => ?_)
    refine va_put (D := D) (ci := 12) (v := .int v_2) (ty := .int) (C := RX12) (T := TX12) (N := 91) hx hb hT iX12 tyX12 tyX12_ok nmX12 hown hK hP hD hS 0 rfl rfl 26 (by decide) (hT _ t_848) (fun _ h9 => h9) rfl (by decide +kernel) rfl rfl (Nat.le_of_ble_eq_true rfl) dX12_opens_26 (fun H locs hP hD hS => ?_)
    rw [mP26] at hP hD
    have hRi := Ri_upd hRi 26 v_2 (b_rg _)
    have hEi := Ei_upd hEi 26 v_2 (by decide)
    refine lv_aload_n hx hb dX12_opens_29 rfl (lv_at hl 0 rfl) ?_
    refine va_get (D := D) (ci := 12) (v := .ref (a 22)) (C := RX12) (T := TX12) (N := 91) hx hb hT iX12 hown hK hP 0 rfl rfl 33 (by decide) (hT _ t_789) (fun _ h9 => h9) rfl dX12_opens_30 ?_
    refine lv_aload_n hx hb dX12_opens_33 rfl (lv_at hl 0 rfl) ?_
    refine va_get (D := D) (ci := 12) (v := .int (i 28)) (C := RX12) (T := TX12) (N := 91) hx hb hT iX12 hown hK hP 0 rfl rfl 28 (by decide) (hT _ t_849) (fun _ h9 => h9) rfl dX12_opens_34 ?_
    have hg_3 : 0 ≤ (i 28).toInt ∧ (i 28).toInt ≤ 220 := hRi 28
    refine lv_ldcw (v := 1048576) hx hb hown (hT _ t_84) dX12_opens_37 ?_
    refine lv_iload_n hx hb dX12_opens_40 rfl (lv_at hl 1 rfl) ?_
    refine lv_imul hx hb dX12_opens_41 ?_
    refine lv_topi (fun v_4 ev_4 => ?_)
    have hv_4 : v_4.toInt = 1048576 * p0.toInt := by rw [ev_4]; have := b_rg p0; exact i_mul (a := 1048576) (b := p0.toInt) rfl rfl (by omega) (by omega)
    refine va_iast hx hb hK hP hD hS 22 0 rfl rfl (vp_inI (by omega) (by omega)) dX12_opens_42 (fun H locs hP hD hS => ?_)
    rw [mS22] at hP hD
    have hRr : mRr (va_up r 22 (upd (r 22) ((i 28).toNatClampNeg) v_4)) := Rr_upd hRr 22 ((i 28).toNatClampNeg) v_4 (b_rg _)
    have hEr : mEr [22] _ (va_up r 22 (upd (r 22) ((i 28).toNatClampNeg) v_4)) := Er_up hEr 22 _ (by decide)
    refine lv_aload_n hx hb dX12_opens_43 rfl (lv_at hl 0 rfl) ?_
    refine lv_aload_n hx hb dX12_opens_44 rfl (lv_at hl 0 rfl) ?_
    refine va_get (D := D) (ci := 12) (v := .int (i 28)) (C := RX12) (T := TX12) (N := 91) hx hb hT iX12 hown hK hP 0 rfl rfl 28 (by decide) (hT _ t_849) (fun _ h9 => h9) rfl dX12_opens_45 ?_
    refine lv_iconst (v := 1) hx hb dX12_opens_48 (by decide) ?_
    refine lv_iadd hx hb dX12_opens_49 ?_
    refine lv_topi (fun v_5 ev_5 => ?_)
    have hv_5 : v_5.toInt = (i 28).toInt + 1 := by rw [ev_5]; have := b_rg (i 28); exact i_add (a := (i 28).toInt) (b := 1) rfl rfl (by omega) (by omega)
    refine va_put (D := D) (ci := 12) (v := .int v_5) (ty := .int) (C := RX12) (T := TX12) (N := 91) hx hb hT iX12 tyX12 tyX12_ok nmX12 hown hK hP hD hS 0 rfl rfl 28 (by decide) (hT _ t_849) (fun _ h9 => h9) rfl (by decide +kernel) rfl rfl (Nat.le_of_ble_eq_true rfl) dX12_opens_50 (fun H locs hP hD hS => ?_)
    rw [mP28] at hP hD
    have hRi := Ri_upd hRi 28 v_5 ⟨by show (0 : Int) ≤ v_5.toInt; omega, by show v_5.toInt ≤ (220 : Int); omega⟩
    have hEi := Ei_upd hEi 28 v_5 (by decide)
    refine lv_aload_n hx hb dX12_opens_53 rfl (lv_at hl 0 rfl) ?_
    refine lv_aload_n hx hb dX12_opens_54 rfl (lv_at hl 0 rfl) ?_
    refine va_get (D := D) (ci := 12) (v := .int (i 23)) (C := RX12) (T := TX12) (N := 91) hx hb hT iX12 hown hK hP 0 rfl rfl 23 (by decide) (hT _ t_252) (fun _ h9 => h9) rfl dX12_opens_55 ?_
    have hg_6 : 0 ≤ (i 23).toInt ∧ (i 23).toInt ≤ 200 := hRi 23
    refine lv_iconst (v := 1) hx hb dX12_opens_58 (by decide) ?_
    refine lv_iadd hx hb dX12_opens_59 ?_
    refine lv_topi (fun v_7 ev_7 => ?_)
    have hv_7 : v_7.toInt = (i 23).toInt + 1 := by rw [ev_7]; have := b_rg (i 23); exact i_add (a := (i 23).toInt) (b := 1) rfl rfl (by omega) (by omega)
    refine va_put (D := D) (ci := 12) (v := .int v_7) (ty := .int) (C := RX12) (T := TX12) (N := 91) hx hb hT iX12 tyX12 tyX12_ok nmX12 hown hK hP hD hS 0 rfl rfl 23 (by decide) (hT _ t_252) (fun _ h9 => h9) rfl (by decide +kernel) rfl rfl (Nat.le_of_ble_eq_true rfl) dX12_opens_60 (fun H locs hP hD hS => ?_)
    rw [mP23] at hP hD
    have hRi := Ri_upd hRi 23 v_7 ⟨by show (0 : Int) ≤ v_7.toInt; omega, by show v_7.toInt ≤ (200 : Int); omega⟩
    have hEi := Ei_upd hEi 23 v_7 (by decide)
    refine lv_iconst (v := 1) hx hb dX12_opens_63 (by decide) ?_
    subst hQ
    have hpo9 : (((1 : Int32) = 1 ∧ ((upd (upd (upd i 26 v_2) 28 v_5) 23 v_7) 28).toInt = (i 28).toInt + 1 ∧ ((upd (upd (upd i 26 v_2) 28 v_5) 23 v_7) 23).toInt = (i 23).toInt + 1 ∧ ∃ x : Int32, x.toInt = 1048576 * p0.toInt ∧ (va_up r 22 (upd (r 22) ((i 28).toNatClampNeg) v_4)) 22 = upd (r 22) (i 28).toInt.toNat x) ∨ (1 : Int32) = 0) ∧ ((1 : Int32).toInt ≠ 0 → i 26 ≠ 6 ∧ (upd (upd (upd i 26 v_2) 28 v_5) 23 v_7) 26 = i 26 + 1) ∧ ((1 : Int32).toInt = 0 → i 26 = 6 ∧ ((upd (upd (upd i 26 v_2) 28 v_5) 23 v_7) 25).toInt = -5000 - (i 23).toInt) := ⟨(Or.inl ⟨rfl, by show v_5.toInt = _; omega, by show v_7.toInt = _; omega, v_4, by omega, rfl⟩), fun _ => ⟨ne6 (by omega), ev_2⟩, fun h9 => absurd h9 (by decide)⟩
    exact W.zret hx hb hr rfl (fun t ht hW => ⟨⟨_, (upd (upd (upd i 26 v_2) 28 v_5) 23 v_7, va_up r 22 (upd (r 22) ((i 28).toNatClampNeg) v_4)), rfl, ⟨hRi, hRr, hEi, hEr, hpo9⟩, by rw [ht]; exact hP, va_K.moved hW.alike hK, hD⟩, hS.F ht⟩) hS.2.2 dX12_opens_64
  · have c_1 : (i 26).toInt = 6 := b_nne c_1
    refine lv_aload_n hx hb dX12_opens_9 rfl (lv_at hl 0 rfl) ?_
    refine lv_iconst (v := 5) hx hb dX12_opens_10 (by decide) ?_
    refine lv_aload_n hx hb dX12_opens_11 rfl (lv_at hl 0 rfl) ?_
    refine va_get (D := D) (ci := 12) (v := .int (i 23)) (C := RX12) (T := TX12) (N := 91) hx hb hT iX12 hown hK hP 0 rfl rfl 23 (by decide) (hT _ t_252) (fun _ h9 => h9) rfl dX12_opens_12 ?_
    have hg_8 : 0 ≤ (i 23).toInt ∧ (i 23).toInt ≤ 200 := hRi 23
    have hF_9 := rF hD hS hA
    refine va_calli (va_runV (As := [.int 5, .int (i 23)]) (rest := []) ⟨hx, hb, hml, hown, hT⟩ (c_X12_wrongAt l D cy a i r rl 5 (i 23) _ hRi hRr (by first | omega | decide) (by have h9 : 0 ≤ (i 23).toInt ∧ (i 23).toInt ≤ 200 := hRi 23; omega)) (cwV 2 hT (gV t_259 t_260 t_261 t_262 t_6) rfl rfl rfl (by decide +kernel) ⟨Nat.le_of_ble_eq_true rfl, Nat.le_of_ble_eq_true rfl⟩) (rQ_v hP hK hD (va_recv hK hP (ci := 12) (q0 := 0) rfl rfl)) rfl rfl hl.1 rfl (lv_room (Nat.le_of_ble_eq_true rfl)) dX12_opens_15 ⟨Nat.le_of_ble_eq_true rfl, Nat.le_of_ble_eq_true rfl⟩) hS (fun q _ h => hF_9 q h) hF_9 (fun r_10 u_11 t H1 locs ht hvm hr_10 hB hz1 hk1 hS => ?_)
    obtain ⟨i11, r11⟩ := u_11
    obtain ⟨hP, hK1, hD1⟩ := hB
    rw [ht] at hP
    have hD := hD1.weaken (fun k q _ h => hF_9 q.1 h)
    have hP : va_P D vwCl (mW cy a i11 r11 rl) H1 := hP
    have hD : va_D A (mW cy a i11 r11 rl) := hD
    obtain ⟨hRi, hRr, hE1, hE2, hr_10⟩ := hr_10
    have hRi : mRi i11 := hRi
    have hRr : mRr r11 := hRr
    have hEi : mEi [23, 25, 26, 28] _ i11 := Ei_tr hEi hE1 (by decide)
    have hEr : mEr [22] _ r11 := Er_tr hEr hE2 (by decide)
    obtain ⟨hr_10, hw0⟩ := hr_10
    have hwf : (i11 25).toInt = -5000 - (i 23).toInt := hw0
    clear hw0
    subst hr_10
    subst hQ
    have hpo9 : (((0 : Int32) = 1 ∧ (i11 28).toInt = (i 28).toInt + 1 ∧ (i11 23).toInt = (i 23).toInt + 1 ∧ ∃ x : Int32, x.toInt = 1048576 * p0.toInt ∧ r11 22 = upd (r 22) (i 28).toInt.toNat x) ∨ (0 : Int32) = 0) ∧ ((0 : Int32).toInt ≠ 0 → i 26 ≠ 6 ∧ i11 26 = i 26 + 1) ∧ ((0 : Int32).toInt = 0 → i 26 = 6 ∧ (i11 25).toInt = -5000 - (i 23).toInt) := ⟨Or.inr rfl, fun h9 => absurd rfl h9, fun _ => ⟨Int32.toInt_inj.mp (show (i 26).toInt = 6 by omega), by omega⟩⟩
    exact W.zret hx hb hr rfl (fun t ht hW => ⟨⟨_, (i11, r11), rfl, ⟨hRi, hRr, hEi, hEr, hpo9⟩, by rw [ht]; exact hP, va_K.moved hW.alike hK, hD⟩, hS.F ht⟩) hS.2.2 dX12_opens_18
set_option maxHeartbeats 4000000 in
set_option maxRecDepth 100000 in
theorem c_X12_top (l : Launch) (D : va_G) (cy : Nat → ClassId) (a : Nat → Nat) (i : Nat → Int32) (r : Nat → Nat → Int32) (rl : Nat → Int64) (hRi : mRi i) (hRr : mRr r) (hw : ∀ j : Nat, j < (i 28).toInt.toNat → 0 ≤ (r 22 j).toInt) : Met l yX12_top (Cond.code yX12_top cX12_top 1 (some .int) :: gT) { frames := 1, cells := 0, slots := 0, locals := 24 } (va_Pc [.ref (a 0)] (rP D cy (mW cy a i r rl))) (vp_Si (fun z => z.toInt = topv i r)) 0 0 (fun _ => False) := by
  refine Met.ofQ (cc := cX12_top) (maxL := 1) (ret := (some .int)) (by decide) rfl ?_
  intro p e s m args below meth c s₁ B hml hv Q hQ
  obtain ⟨rfl, hP, hK⟩ := hv
  have hx := B.exec
  have hb := B.bytes
  have hr := B.returns
  have hlocks := B.notSynchronized
  have hT : ∀ w ∈ gT, w.before _ s = true := fun w h => atoms_spec (ws := (Cond.code yX12_top cX12_top 1 (some .int) :: gT)) B.pre w (List.mem_cons_of_mem _ h)
  have hown : s.vm.findClass RX12 = some m.cls := findClass_of_methodNamed B.named
  have hl := lv_entry ([.ref (a 0)]) (n := 1) (Nat.le_of_ble_eq_true rfl)
  rw [lg_entry_eq]
  generalize (lg_sl ([.ref (a 0)]) ++ List.replicate (1 - (lg_sl ([.ref (a 0)])).length) Slot.unset).toArray = ls at hl ⊢
  have hl : lv_has ls 1 [(0, .ref (a 0))] := hl
  have hEi : mEi [23, 24, 25, 26, 27, 28, 29, 30, 60] i i := Ei_rf
  have hEr : mEr [21, 22, 23, 24, 25, 26, 32, 33, 34, 35, 36, 37, 38, 39, 48, 49, 57, 61, 62] r r := Er_rf
  have hg28 : 0 ≤ (i 28).toInt ∧ (i 28).toInt ≤ 220 := hRi 28
  refine lv_aload_n hx hb dX12_top_0 rfl (lv_at hl 0 rfl) ?_
  refine va_get (D := D) (ci := 12) (v := .int (i 28)) (C := RX12) (T := TX12) (N := 91) hx hb hT iX12 hown hK hP 0 rfl rfl 28 (by decide) (hT _ t_849) (fun _ h9 => h9) rfl dX12_top_1 ?_
  have hg_1 : 0 ≤ (i 28).toInt ∧ (i 28).toInt ≤ 220 := hRi 28
  refine lv_if_ne (tgt := 11) hx hb dX12_top_4 (by decide) (fun c_2 => ?_) (fun c_2 => ?_)
  · have c_2 : (i 28).toInt ≠ 0 := b_ne c_2
    refine lv_aload_n hx hb dX12_top_11 rfl (lv_at hl 0 rfl) ?_
    refine va_get (D := D) (ci := 12) (v := .ref (a 22)) (C := RX12) (T := TX12) (N := 91) hx hb hT iX12 hown hK hP 0 rfl rfl 33 (by decide) (hT _ t_789) (fun _ h9 => h9) rfl dX12_top_12 ?_
    refine lv_aload_n hx hb dX12_top_15 rfl (lv_at hl 0 rfl) ?_
    refine va_get (D := D) (ci := 12) (v := .int (i 28)) (C := RX12) (T := TX12) (N := 91) hx hb hT iX12 hown hK hP 0 rfl rfl 28 (by decide) (hT _ t_849) (fun _ h9 => h9) rfl dX12_top_16 ?_
    refine lv_iconst (v := 1) hx hb dX12_top_19 (by decide) ?_
    refine lv_isub hx hb dX12_top_20 ?_
    refine lv_topi (fun v_3 ev_3 => ?_)
    have hv_3 : v_3.toInt = (i 28).toInt - 1 := by rw [ev_3]; have := b_rg (i 28); exact i_sub (a := (i 28).toInt) (b := 1) rfl rfl (by omega) (by omega)
    refine va_iald hx hb hK hP 22 0 rfl rfl (vp_inI (by omega) (by omega)) dX12_top_21 ?_
    refine lv_topi (fun v_4 ev_4 => ?_)
    refine lv_ldcw (v := 1048576) hx hb hown (hT _ t_84) dX12_top_22 ?_
    refine lv_idiv hx hb dX12_top_25 (by decide) ?_
    refine lv_topi (fun v_5 ev_5 => ?_)
    subst hQ
    exact W.iret (v := v_5) hx hb hr (fun t ht hW => ⟨_, rfl, (by have hix : v_3.toNatClampNeg = (i 28).toInt.toNat - 1 := (by show v_3.toInt.toNat = _; omega); have h0 := hw ((i 28).toInt.toNat - 1) (by omega); rw [ev_5, ev_4, hix]; unfold topv; rw [if_neg (by omega)]; exact idivU h0), ht⟩) (fun q hq => absurd hq List.not_mem_nil) dX12_top_26
  · have c_2 : (i 28).toInt = 0 := b_nne c_2
    refine lv_iconst (v := (-1)) hx hb dX12_top_7 (by decide) ?_
    refine lv_goto (tgt := 26) hx hb dX12_top_8 (by decide) ?_
    subst hQ
    exact W.iret (v := (-1)) hx hb hr (fun t ht hW => ⟨_, rfl, (by unfold topv; rw [if_pos (by omega)]; rfl), ht⟩) (fun q hq => absurd hq List.not_mem_nil) dX12_top_26
def hasO (w : Nat → Int32) (b m : Nat) : Prop := ∃ k : Nat, b ≤ k ∧ k < m ∧ cOp (w k) = 14
def noO (w : Nat → Int32) (b m : Nat) : Prop := ∀ k : Nat, b ≤ k → k < m → cOp (w k) ≠ 14
set_option maxHeartbeats 4000000 in
set_option maxRecDepth 100000 in
theorem c_X12_hasOpenSum (l : Launch) (D : va_G) (cy : Nat → ClassId) (a : Nat → Nat) (i : Nat → Int32) (r : Nat → Nat → Int32) (rl : Nat → Int64) (p0 : Int32) (hRi : mRi i) (hRr : mRr r) (q0 : 0 ≤ p0.toInt ∧ p0.toInt ≤ 220) (hw : ∀ j : Nat, j < (i 28).toInt.toNat → 0 ≤ (r 22 j).toInt) : Met l yX12_hasOpenSum (Cond.code yX12_hasOpenSum cX12_hasOpenSum 3 (some .boolean) :: gT) { frames := 1, cells := 0, slots := 0, locals := 24 } (va_Pc [.ref (a 0), .int p0] (rP D cy (mW cy a i r rl))) (vp_Si (fun z => BR z (hasO (r 22) p0.toInt.toNat (i 28).toInt.toNat) 1 0)) 0 0 (fun _ => False) := by
  refine Met.ofQ (cc := cX12_hasOpenSum) (maxL := 3) (ret := (some .boolean)) (by decide) rfl ?_
  intro p e s m args below meth c s₁ B hml hv Q hQ
  obtain ⟨rfl, hP, hK⟩ := hv
  have hx := B.exec
  have hb := B.bytes
  have hr := B.returns
  have hlocks := B.notSynchronized
  have hT : ∀ w ∈ gT, w.before _ s = true := fun w h => atoms_spec (ws := (Cond.code yX12_hasOpenSum cX12_hasOpenSum 3 (some .boolean) :: gT)) B.pre w (List.mem_cons_of_mem _ h)
  have hown : s.vm.findClass RX12 = some m.cls := findClass_of_methodNamed B.named
  have hl := lv_entry ([.ref (a 0), .int p0]) (n := 3) (Nat.le_of_ble_eq_true rfl)
  rw [lg_entry_eq]
  generalize (lg_sl ([.ref (a 0), .int p0]) ++ List.replicate (3 - (lg_sl ([.ref (a 0), .int p0])).length) Slot.unset).toArray = ls at hl ⊢
  have hl : lv_has ls 3 [(0, .ref (a 0)), (1, .int p0)] := hl
  have hEi : mEi [23, 24, 25, 26, 27, 28, 29, 30, 60] i i := Ei_rf
  have hEr : mEr [21, 22, 23, 24, 25, 26, 32, 33, 34, 35, 36, 37, 38, 39, 48, 49, 57, 61, 62] r r := Er_rf
  have hg28 : 0 ≤ (i 28).toInt ∧ (i 28).toInt ≤ 220 := hRi 28
  refine lv_iload_n hx hb dX12_hasOpenSum_0 rfl (lv_at hl 1 rfl) ?_
  refine lv_istore_n (lv' := [(2, .int p0), (0, .ref (a 0)), (1, .int p0)]) hx hb dX12_hasOpenSum_1 rfl hl (by decide) rfl (fun ls hl => ?_)
  have loop_1 : ∀ (n : Nat) (x1_2 : Int32) (ls : Array Slot), (220 - x1_2.toInt).toNat < n → (0 ≤ x1_2.toInt ∧ x1_2.toInt ≤ 220) → (noO (r 22) p0.toInt.toNat x1_2.toInt.toNat ∧ p0.toInt ≤ x1_2.toInt) → lv_has ls 3 [(2, .int x1_2), (0, .ref (a 0)), (1, .int p0)] → W p l e ({ frames := 1, cells := 0, slots := 0, locals := 24 } : Room) s m ([.ref (a 0), .int p0] : List Value).toArray below meth c s.heap [] 0 0 Q (F0 m 2 ls []) := by
    intro n
    induction n with
    | zero =>
      intro x1_2 ls hm1 hf1_0 hx1 hl
      exact absurd hm1 (by omega)
    | succ n ih1 =>
      intro x1_2 ls hm1 hf1_0 hx1 hl
      refine lv_iload_n hx hb dX12_hasOpenSum_2 rfl (lv_at hl 0 rfl) ?_
      refine lv_aload_n hx hb dX12_hasOpenSum_3 rfl (lv_at hl 1 rfl) ?_
      refine va_get (D := D) (ci := 12) (v := .int (i 28)) (C := RX12) (T := TX12) (N := 91) hx hb hT iX12 hown hK hP 0 rfl rfl 28 (by decide) (hT _ t_849) (fun _ h9 => h9) rfl dX12_hasOpenSum_4 ?_
      have hg_2 : 0 ≤ (i 28).toInt ∧ (i 28).toInt ≤ 220 := hRi 28
      refine lv_icmp_ge (tgt := 33) hx hb dX12_hasOpenSum_7 (by decide) (fun c_3 => ?_) (fun c_3 => ?_)
      · have c_3 : (i 28).toInt ≤ x1_2.toInt := b_le c_3
        refine lv_iconst (v := 0) hx hb dX12_hasOpenSum_33 (by decide) ?_
        subst hQ
        exact W.zret hx hb hr rfl (fun t ht hW => ⟨_, rfl, Or.inr ⟨rfl, fun h9 => by obtain ⟨k, h1, h2, h3⟩ := h9; exact hx1.1 k h1 (by omega) h3⟩, ht⟩) (fun q hq => absurd hq List.not_mem_nil) dX12_hasOpenSum_34
      · have c_3 : x1_2.toInt < (i 28).toInt := b_nle c_3
        refine lv_aload_n hx hb dX12_hasOpenSum_10 rfl (lv_at hl 1 rfl) ?_
        refine va_get (D := D) (ci := 12) (v := .ref (a 22)) (C := RX12) (T := TX12) (N := 91) hx hb hT iX12 hown hK hP 0 rfl rfl 33 (by decide) (hT _ t_789) (fun _ h9 => h9) rfl dX12_hasOpenSum_11 ?_
        refine lv_iload_n hx hb dX12_hasOpenSum_14 rfl (lv_at hl 0 rfl) ?_
        refine va_iald hx hb hK hP 22 0 rfl rfl (vp_inI (by omega) (by omega)) dX12_hasOpenSum_15 ?_
        refine lv_topi (fun v_4 ev_4 => ?_)
        refine lv_ldcw (v := 1048576) hx hb hown (hT _ t_84) dX12_hasOpenSum_16 ?_
        refine lv_idiv hx hb dX12_hasOpenSum_19 (by decide) ?_
        refine lv_topi (fun v_5 ev_5 => ?_)
        have hop : v_5.toInt = cOp (r 22 x1_2.toInt.toNat) := by rw [ev_5, ev_4]; exact idivU (hw _ (by show x1_2.toInt.toNat < _; omega))
        refine lv_bipush (v := 14) hx hb dX12_hasOpenSum_20 (by decide) ?_
        refine lv_icmp_ne (tgt := 27) hx hb dX12_hasOpenSum_22 (by decide) (fun c_6 => ?_) (fun c_6 => ?_)
        · have c_6 : v_5.toInt ≠ 14 := b_ne c_6
          obtain ⟨x_7, ex_7⟩ : ∃ y : Int32, y = x1_2 + 1 := ⟨_, rfl⟩
          refine lv_iinc (v := x_7) (lv' := [(2, .int x_7), (0, .ref (a 0)), (1, .int p0)]) hx hb dX12_hasOpenSum_27 hl (k := 0) rfl (by rw [ex_7]; rfl) (by decide) rfl (fun ls hl => ?_)
          have hx_7 : x_7.toInt = x1_2.toInt + 1 := by rw [ex_7]; have := b_rg x1_2; exact i_add (a := x1_2.toInt) (b := 1) rfl rfl (by omega) (by omega)
          refine lv_goto (tgt := 2) hx hb dX12_hasOpenSum_30 (by decide) ?_
          have hst : noO (r 22) p0.toInt.toNat x_7.toInt.toNat := by
            intro k h1 h2
            by_cases h9 : k = x1_2.toInt.toNat
            · rw [h9, ← hop]; omega
            · exact hx1.1 k h1 (by omega)
          exact ih1 x_7 _ (by first | omega | (simp only [Int.toNat]; omega)) (by first | omega | decide)  ⟨hst, by omega⟩  (lv_sub hl [0, 1, 2] rfl)
        · have c_6 : v_5.toInt = 14 := b_nne c_6
          refine lv_iconst (v := 1) hx hb dX12_hasOpenSum_25 (by decide) ?_
          subst hQ
          exact W.zret hx hb hr rfl (fun t ht hW => ⟨_, rfl, Or.inl ⟨rfl, x1_2.toInt.toNat, by omega, by omega, by rw [← hop]; omega⟩, ht⟩) (fun q hq => absurd hq List.not_mem_nil) dX12_hasOpenSum_26
  exact loop_1 _ p0 _ (Nat.lt_succ_self _) (by first | omega | decide)  ⟨fun k h1 h2 => absurd h2 (by omega), by omega⟩  hl
