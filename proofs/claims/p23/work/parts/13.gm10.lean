set_option maxRecDepth 100000 in
theorem t_232 : Cond.fieldLink RX12 500 "DepositJudgeModel" "isKept" "Z" ∈ gT := tm (tb5 (List.mem_of_getElem? (i := 35) (by rfl))) (by decide +kernel)
set_option maxRecDepth 100000 in
theorem t_233 : Cond.fieldLink RX12 504 "DepositJudgeModel" "keptClaims" "I" ∈ gT := tm (tb5 (List.mem_of_getElem? (i := 36) (by rfl))) (by decide +kernel)
set_option maxRecDepth 100000 in
theorem t_234 : Cond.fieldLink RX12 507 "DepositJudgeModel" "keptX" "I" ∈ gT := tm (tb5 (List.mem_of_getElem? (i := 37) (by rfl))) (by decide +kernel)
set_option maxRecDepth 100000 in
theorem t_235 : Cond.fieldLink RX12 199 "DepositJudgeModel" "keptHome" "[I" ∈ gT := tm (tb5 (List.mem_of_getElem? (i := 38) (by rfl))) (by decide +kernel)
set_option maxRecDepth 100000 in
theorem t_236 : Cond.code yX12_copies cX12_copies 4 none ∈ gT := tm (tb7 (List.mem_of_getElem? (i := 135) (by rfl))) (by decide +kernel)
set_option maxRecDepth 100000 in
theorem t_237 : Cond.methodLink RX12 510 yX12_copies ∈ gT := tm (tb7 (List.mem_of_getElem? (i := 133) (by rfl))) (by decide +kernel)
set_option maxRecDepth 100000 in
theorem t_238 : Cond.static yX12_copies ∈ gT := tm (tb7 (List.mem_of_getElem? (i := 134) (by rfl))) (by decide +kernel)
set_option maxRecDepth 100000 in
theorem t_239 : Cond.fieldLink RX12 202 "DepositJudgeModel" "keptThing" "[I" ∈ gT := tm (tb5 (List.mem_of_getElem? (i := 39) (by rfl))) (by decide +kernel)
set_option maxRecDepth 100000 in
theorem t_240 : Cond.fieldLink RX12 205 "DepositJudgeModel" "keptCause" "[I" ∈ gT := tm (tb5 (List.mem_of_getElem? (i := 40) (by rfl))) (by decide +kernel)
set_option maxRecDepth 100000 in
theorem t_241 : Cond.fieldLink RX12 208 "DepositJudgeModel" "keptEvidence" "[I" ∈ gT := tm (tb5 (List.mem_of_getElem? (i := 41) (by rfl))) (by decide +kernel)
set_option maxRecDepth 100000 in
theorem t_242 : Cond.fieldLink RX12 211 "DepositJudgeModel" "keptDay" "[I" ∈ gT := tm (tb5 (List.mem_of_getElem? (i := 42) (by rfl))) (by decide +kernel)
set_option maxRecDepth 100000 in
theorem t_243 : Cond.fieldLink RX12 214 "DepositJudgeModel" "keptAgreed" "[I" ∈ gT := tm (tb5 (List.mem_of_getElem? (i := 43) (by rfl))) (by decide +kernel)
set_option maxRecDepth 100000 in
theorem t_244 : Cond.fieldLink RX12 217 "DepositJudgeModel" "keptAnswer" "[I" ∈ gT := tm (tb5 (List.mem_of_getElem? (i := 44) (by rfl))) (by decide +kernel)
set_option maxRecDepth 100000 in
theorem t_245 : Cond.fieldLink RX12 220 "DepositJudgeModel" "keptOwner" "[I" ∈ gT := tm (tb5 (List.mem_of_getElem? (i := 45) (by rfl))) (by decide +kernel)
set_option maxRecDepth 100000 in
theorem t_246 : Cond.fieldLink RX12 223 "DepositJudgeModel" "keptTenant" "[I" ∈ gT := tm (tb5 (List.mem_of_getElem? (i := 46) (by rfl))) (by decide +kernel)
set_option maxRecDepth 100000 in
theorem t_247 : Cond.fieldLink RX12 226 "DepositJudgeModel" "keptProof" "[Z" ∈ gT := tm (tb5 (List.mem_of_getElem? (i := 47) (by rfl))) (by decide +kernel)
def dl_180 : List (Nat × (Instr × Nat)) := [(0, (.iconst 0, 1)), (1, (.istore_n 3, 1)), (2, (.iload_n 3, 1)), (3, (.iload_n 2, 1)), (4, (.if_icmp .ge 15, 3)), (7, (.aload_n 1, 1)), (8, (.iload_n 3, 1)), (9, (.aload_n 0, 1)), (10, (.iload_n 3, 1)), (11, (.iaload, 1)), (12, (.iastore, 1)), (13, (.iinc 3 1, 3)), (16, (.goto (-14), 3)), (19, (.return_, 1))]
theorem dh_180 : dchk cX12_copies dl_180 = true := by decide +kernel
theorem dX12_copies_0 : decode cX12_copies 0 = .ok (.iconst 0, 1) := dget dh_180 (k := 0) rfl
theorem dX12_copies_1 : decode cX12_copies 1 = .ok (.istore_n 3, 1) := dget dh_180 (k := 1) rfl
theorem dX12_copies_2 : decode cX12_copies 2 = .ok (.iload_n 3, 1) := dget dh_180 (k := 2) rfl
theorem dX12_copies_3 : decode cX12_copies 3 = .ok (.iload_n 2, 1) := dget dh_180 (k := 3) rfl
theorem dX12_copies_4 : decode cX12_copies 4 = .ok (.if_icmp .ge 15, 3) := dget dh_180 (k := 4) rfl
theorem dX12_copies_7 : decode cX12_copies 7 = .ok (.aload_n 1, 1) := dget dh_180 (k := 5) rfl
theorem dX12_copies_8 : decode cX12_copies 8 = .ok (.iload_n 3, 1) := dget dh_180 (k := 6) rfl
theorem dX12_copies_9 : decode cX12_copies 9 = .ok (.aload_n 0, 1) := dget dh_180 (k := 7) rfl
theorem dX12_copies_10 : decode cX12_copies 10 = .ok (.iload_n 3, 1) := dget dh_180 (k := 8) rfl
theorem dX12_copies_11 : decode cX12_copies 11 = .ok (.iaload, 1) := dget dh_180 (k := 9) rfl
theorem dX12_copies_12 : decode cX12_copies 12 = .ok (.iastore, 1) := dget dh_180 (k := 10) rfl
theorem dX12_copies_13 : decode cX12_copies 13 = .ok (.iinc 3 1, 3) := dget dh_180 (k := 11) rfl
theorem dX12_copies_16 : decode cX12_copies 16 = .ok (.goto (-14), 3) := dget dh_180 (k := 12) rfl
theorem dX12_copies_19 : decode cX12_copies 19 = .ok (.return_, 1) := dget dh_180 (k := 13) rfl
def dl_181 : List (Nat × (Instr × Nat)) := [(0, (.aload_n 0, 1)), (1, (.iconst 1, 1)), (2, (.putfield 500, 3)), (5, (.aload_n 0, 1)), (6, (.aload_n 0, 1)), (7, (.getfield 417, 3)), (10, (.putfield 504, 3)), (13, (.aload_n 0, 1)), (14, (.aload_n 0, 1)), (15, (.getfield 229, 3)), (18, (.putfield 507, 3)), (21, (.aload_n 0, 1)), (22, (.getfield 129, 3)), (25, (.aload_n 0, 1)), (26, (.getfield 199, 3)), (29, (.bipush 30, 2)), (31, (.invokestatic 510, 3)), (34, (.aload_n 0, 1)), (35, (.getfield 132, 3)), (38, (.aload_n 0, 1))]
theorem dh_181 : dchk cX12_keep dl_181 = true := by decide +kernel
theorem dX12_keep_0 : decode cX12_keep 0 = .ok (.aload_n 0, 1) := dget dh_181 (k := 0) rfl
theorem dX12_keep_1 : decode cX12_keep 1 = .ok (.iconst 1, 1) := dget dh_181 (k := 1) rfl
theorem dX12_keep_2 : decode cX12_keep 2 = .ok (.putfield 500, 3) := dget dh_181 (k := 2) rfl
theorem dX12_keep_5 : decode cX12_keep 5 = .ok (.aload_n 0, 1) := dget dh_181 (k := 3) rfl
theorem dX12_keep_6 : decode cX12_keep 6 = .ok (.aload_n 0, 1) := dget dh_181 (k := 4) rfl
theorem dX12_keep_7 : decode cX12_keep 7 = .ok (.getfield 417, 3) := dget dh_181 (k := 5) rfl
theorem dX12_keep_10 : decode cX12_keep 10 = .ok (.putfield 504, 3) := dget dh_181 (k := 6) rfl
theorem dX12_keep_13 : decode cX12_keep 13 = .ok (.aload_n 0, 1) := dget dh_181 (k := 7) rfl
theorem dX12_keep_14 : decode cX12_keep 14 = .ok (.aload_n 0, 1) := dget dh_181 (k := 8) rfl
theorem dX12_keep_15 : decode cX12_keep 15 = .ok (.getfield 229, 3) := dget dh_181 (k := 9) rfl
theorem dX12_keep_18 : decode cX12_keep 18 = .ok (.putfield 507, 3) := dget dh_181 (k := 10) rfl
theorem dX12_keep_21 : decode cX12_keep 21 = .ok (.aload_n 0, 1) := dget dh_181 (k := 11) rfl
theorem dX12_keep_22 : decode cX12_keep 22 = .ok (.getfield 129, 3) := dget dh_181 (k := 12) rfl
theorem dX12_keep_25 : decode cX12_keep 25 = .ok (.aload_n 0, 1) := dget dh_181 (k := 13) rfl
theorem dX12_keep_26 : decode cX12_keep 26 = .ok (.getfield 199, 3) := dget dh_181 (k := 14) rfl
theorem dX12_keep_29 : decode cX12_keep 29 = .ok (.bipush 30, 2) := dget dh_181 (k := 15) rfl
theorem dX12_keep_31 : decode cX12_keep 31 = .ok (.invokestatic 510, 3) := dget dh_181 (k := 16) rfl
theorem dX12_keep_34 : decode cX12_keep 34 = .ok (.aload_n 0, 1) := dget dh_181 (k := 17) rfl
theorem dX12_keep_35 : decode cX12_keep 35 = .ok (.getfield 132, 3) := dget dh_181 (k := 18) rfl
theorem dX12_keep_38 : decode cX12_keep 38 = .ok (.aload_n 0, 1) := dget dh_181 (k := 19) rfl
def dl_182 : List (Nat × (Instr × Nat)) := [(39, (.getfield 202, 3)), (42, (.bipush 30, 2)), (44, (.invokestatic 510, 3)), (47, (.aload_n 0, 1)), (48, (.getfield 135, 3)), (51, (.aload_n 0, 1)), (52, (.getfield 205, 3)), (55, (.bipush 30, 2)), (57, (.invokestatic 510, 3)), (60, (.aload_n 0, 1)), (61, (.getfield 138, 3)), (64, (.aload_n 0, 1)), (65, (.getfield 208, 3)), (68, (.bipush 30, 2)), (70, (.invokestatic 510, 3)), (73, (.aload_n 0, 1)), (74, (.getfield 141, 3)), (77, (.aload_n 0, 1)), (78, (.getfield 211, 3)), (81, (.bipush 30, 2))]
theorem dh_182 : dchk cX12_keep dl_182 = true := by decide +kernel
theorem dX12_keep_39 : decode cX12_keep 39 = .ok (.getfield 202, 3) := dget dh_182 (k := 0) rfl
theorem dX12_keep_42 : decode cX12_keep 42 = .ok (.bipush 30, 2) := dget dh_182 (k := 1) rfl
theorem dX12_keep_44 : decode cX12_keep 44 = .ok (.invokestatic 510, 3) := dget dh_182 (k := 2) rfl
theorem dX12_keep_47 : decode cX12_keep 47 = .ok (.aload_n 0, 1) := dget dh_182 (k := 3) rfl
theorem dX12_keep_48 : decode cX12_keep 48 = .ok (.getfield 135, 3) := dget dh_182 (k := 4) rfl
theorem dX12_keep_51 : decode cX12_keep 51 = .ok (.aload_n 0, 1) := dget dh_182 (k := 5) rfl
theorem dX12_keep_52 : decode cX12_keep 52 = .ok (.getfield 205, 3) := dget dh_182 (k := 6) rfl
theorem dX12_keep_55 : decode cX12_keep 55 = .ok (.bipush 30, 2) := dget dh_182 (k := 7) rfl
theorem dX12_keep_57 : decode cX12_keep 57 = .ok (.invokestatic 510, 3) := dget dh_182 (k := 8) rfl
theorem dX12_keep_60 : decode cX12_keep 60 = .ok (.aload_n 0, 1) := dget dh_182 (k := 9) rfl
theorem dX12_keep_61 : decode cX12_keep 61 = .ok (.getfield 138, 3) := dget dh_182 (k := 10) rfl
theorem dX12_keep_64 : decode cX12_keep 64 = .ok (.aload_n 0, 1) := dget dh_182 (k := 11) rfl
theorem dX12_keep_65 : decode cX12_keep 65 = .ok (.getfield 208, 3) := dget dh_182 (k := 12) rfl
theorem dX12_keep_68 : decode cX12_keep 68 = .ok (.bipush 30, 2) := dget dh_182 (k := 13) rfl
theorem dX12_keep_70 : decode cX12_keep 70 = .ok (.invokestatic 510, 3) := dget dh_182 (k := 14) rfl
theorem dX12_keep_73 : decode cX12_keep 73 = .ok (.aload_n 0, 1) := dget dh_182 (k := 15) rfl
theorem dX12_keep_74 : decode cX12_keep 74 = .ok (.getfield 141, 3) := dget dh_182 (k := 16) rfl
theorem dX12_keep_77 : decode cX12_keep 77 = .ok (.aload_n 0, 1) := dget dh_182 (k := 17) rfl
theorem dX12_keep_78 : decode cX12_keep 78 = .ok (.getfield 211, 3) := dget dh_182 (k := 18) rfl
theorem dX12_keep_81 : decode cX12_keep 81 = .ok (.bipush 30, 2) := dget dh_182 (k := 19) rfl
def dl_183 : List (Nat × (Instr × Nat)) := [(83, (.invokestatic 510, 3)), (86, (.aload_n 0, 1)), (87, (.getfield 144, 3)), (90, (.aload_n 0, 1)), (91, (.getfield 214, 3)), (94, (.bipush 30, 2)), (96, (.invokestatic 510, 3)), (99, (.aload_n 0, 1)), (100, (.getfield 147, 3)), (103, (.aload_n 0, 1)), (104, (.getfield 217, 3)), (107, (.bipush 30, 2)), (109, (.invokestatic 510, 3)), (112, (.aload_n 0, 1)), (113, (.getfield 160, 3)), (116, (.aload_n 0, 1)), (117, (.getfield 220, 3)), (120, (.bipush 6, 2)), (122, (.invokestatic 510, 3)), (125, (.aload_n 0, 1))]
theorem dh_183 : dchk cX12_keep dl_183 = true := by decide +kernel
theorem dX12_keep_83 : decode cX12_keep 83 = .ok (.invokestatic 510, 3) := dget dh_183 (k := 0) rfl
theorem dX12_keep_86 : decode cX12_keep 86 = .ok (.aload_n 0, 1) := dget dh_183 (k := 1) rfl
theorem dX12_keep_87 : decode cX12_keep 87 = .ok (.getfield 144, 3) := dget dh_183 (k := 2) rfl
theorem dX12_keep_90 : decode cX12_keep 90 = .ok (.aload_n 0, 1) := dget dh_183 (k := 3) rfl
theorem dX12_keep_91 : decode cX12_keep 91 = .ok (.getfield 214, 3) := dget dh_183 (k := 4) rfl
theorem dX12_keep_94 : decode cX12_keep 94 = .ok (.bipush 30, 2) := dget dh_183 (k := 5) rfl
theorem dX12_keep_96 : decode cX12_keep 96 = .ok (.invokestatic 510, 3) := dget dh_183 (k := 6) rfl
theorem dX12_keep_99 : decode cX12_keep 99 = .ok (.aload_n 0, 1) := dget dh_183 (k := 7) rfl
theorem dX12_keep_100 : decode cX12_keep 100 = .ok (.getfield 147, 3) := dget dh_183 (k := 8) rfl
theorem dX12_keep_103 : decode cX12_keep 103 = .ok (.aload_n 0, 1) := dget dh_183 (k := 9) rfl
theorem dX12_keep_104 : decode cX12_keep 104 = .ok (.getfield 217, 3) := dget dh_183 (k := 10) rfl
theorem dX12_keep_107 : decode cX12_keep 107 = .ok (.bipush 30, 2) := dget dh_183 (k := 11) rfl
theorem dX12_keep_109 : decode cX12_keep 109 = .ok (.invokestatic 510, 3) := dget dh_183 (k := 12) rfl
theorem dX12_keep_112 : decode cX12_keep 112 = .ok (.aload_n 0, 1) := dget dh_183 (k := 13) rfl
theorem dX12_keep_113 : decode cX12_keep 113 = .ok (.getfield 160, 3) := dget dh_183 (k := 14) rfl
theorem dX12_keep_116 : decode cX12_keep 116 = .ok (.aload_n 0, 1) := dget dh_183 (k := 15) rfl
theorem dX12_keep_117 : decode cX12_keep 117 = .ok (.getfield 220, 3) := dget dh_183 (k := 16) rfl
theorem dX12_keep_120 : decode cX12_keep 120 = .ok (.bipush 6, 2) := dget dh_183 (k := 17) rfl
theorem dX12_keep_122 : decode cX12_keep 122 = .ok (.invokestatic 510, 3) := dget dh_183 (k := 18) rfl
theorem dX12_keep_125 : decode cX12_keep 125 = .ok (.aload_n 0, 1) := dget dh_183 (k := 19) rfl
def dl_184 : List (Nat × (Instr × Nat)) := [(126, (.getfield 163, 3)), (129, (.aload_n 0, 1)), (130, (.getfield 223, 3)), (133, (.bipush 6, 2)), (135, (.invokestatic 510, 3)), (138, (.iconst 0, 1)), (139, (.istore_n 1, 1)), (140, (.iload_n 1, 1)), (141, (.bipush 30, 2)), (143, (.if_icmp .ge 21, 3)), (146, (.aload_n 0, 1)), (147, (.getfield 226, 3)), (150, (.iload_n 1, 1)), (151, (.aload_n 0, 1)), (152, (.getfield 150, 3)), (155, (.iload_n 1, 1)), (156, (.baload, 1)), (157, (.bastore, 1)), (158, (.iinc 1 1, 3)), (161, (.goto (-21), 3))]
theorem dh_184 : dchk cX12_keep dl_184 = true := by decide +kernel
theorem dX12_keep_126 : decode cX12_keep 126 = .ok (.getfield 163, 3) := dget dh_184 (k := 0) rfl
theorem dX12_keep_129 : decode cX12_keep 129 = .ok (.aload_n 0, 1) := dget dh_184 (k := 1) rfl
theorem dX12_keep_130 : decode cX12_keep 130 = .ok (.getfield 223, 3) := dget dh_184 (k := 2) rfl
theorem dX12_keep_133 : decode cX12_keep 133 = .ok (.bipush 6, 2) := dget dh_184 (k := 3) rfl
theorem dX12_keep_135 : decode cX12_keep 135 = .ok (.invokestatic 510, 3) := dget dh_184 (k := 4) rfl
theorem dX12_keep_138 : decode cX12_keep 138 = .ok (.iconst 0, 1) := dget dh_184 (k := 5) rfl
theorem dX12_keep_139 : decode cX12_keep 139 = .ok (.istore_n 1, 1) := dget dh_184 (k := 6) rfl
theorem dX12_keep_140 : decode cX12_keep 140 = .ok (.iload_n 1, 1) := dget dh_184 (k := 7) rfl
theorem dX12_keep_141 : decode cX12_keep 141 = .ok (.bipush 30, 2) := dget dh_184 (k := 8) rfl
theorem dX12_keep_143 : decode cX12_keep 143 = .ok (.if_icmp .ge 21, 3) := dget dh_184 (k := 9) rfl
theorem dX12_keep_146 : decode cX12_keep 146 = .ok (.aload_n 0, 1) := dget dh_184 (k := 10) rfl
theorem dX12_keep_147 : decode cX12_keep 147 = .ok (.getfield 226, 3) := dget dh_184 (k := 11) rfl
theorem dX12_keep_150 : decode cX12_keep 150 = .ok (.iload_n 1, 1) := dget dh_184 (k := 12) rfl
theorem dX12_keep_151 : decode cX12_keep 151 = .ok (.aload_n 0, 1) := dget dh_184 (k := 13) rfl
theorem dX12_keep_152 : decode cX12_keep 152 = .ok (.getfield 150, 3) := dget dh_184 (k := 14) rfl
theorem dX12_keep_155 : decode cX12_keep 155 = .ok (.iload_n 1, 1) := dget dh_184 (k := 15) rfl
theorem dX12_keep_156 : decode cX12_keep 156 = .ok (.baload, 1) := dget dh_184 (k := 16) rfl
theorem dX12_keep_157 : decode cX12_keep 157 = .ok (.bastore, 1) := dget dh_184 (k := 17) rfl
theorem dX12_keep_158 : decode cX12_keep 158 = .ok (.iinc 1 1, 3) := dget dh_184 (k := 18) rfl
theorem dX12_keep_161 : decode cX12_keep 161 = .ok (.goto (-21), 3) := dget dh_184 (k := 19) rfl
def dl_185 : List (Nat × (Instr × Nat)) := [(164, (.aload_n 0, 1)), (165, (.getfield 417, 3)), (168, (.ireturn, 1))]
theorem dh_185 : dchk cX12_keep dl_185 = true := by decide +kernel
theorem dX12_keep_164 : decode cX12_keep 164 = .ok (.aload_n 0, 1) := dget dh_185 (k := 0) rfl
theorem dX12_keep_165 : decode cX12_keep 165 = .ok (.getfield 417, 3) := dget dh_185 (k := 1) rfl
theorem dX12_keep_168 : decode cX12_keep 168 = .ok (.ireturn, 1) := dget dh_185 (k := 2) rfl
def dl_186 : List (Nat × (Instr × Nat)) := [(0, (.aload_n 0, 1)), (1, (.getfield 500, 3)), (4, (.ifCond .ne 5, 3)), (7, (.iconst 0, 1)), (8, (.ireturn, 1)), (9, (.aload_n 0, 1)), (10, (.aload_n 0, 1)), (11, (.getfield 504, 3)), (14, (.putfield 417, 3)), (17, (.aload_n 0, 1)), (18, (.aload_n 0, 1)), (19, (.getfield 507, 3)), (22, (.putfield 229, 3)), (25, (.aload_n 0, 1)), (26, (.getfield 199, 3)), (29, (.aload_n 0, 1)), (30, (.getfield 129, 3)), (33, (.bipush 30, 2)), (35, (.invokestatic 510, 3)), (38, (.aload_n 0, 1))]
theorem dh_186 : dchk cX12_undo dl_186 = true := by decide +kernel
theorem dX12_undo_0 : decode cX12_undo 0 = .ok (.aload_n 0, 1) := dget dh_186 (k := 0) rfl
theorem dX12_undo_1 : decode cX12_undo 1 = .ok (.getfield 500, 3) := dget dh_186 (k := 1) rfl
theorem dX12_undo_4 : decode cX12_undo 4 = .ok (.ifCond .ne 5, 3) := dget dh_186 (k := 2) rfl
theorem dX12_undo_7 : decode cX12_undo 7 = .ok (.iconst 0, 1) := dget dh_186 (k := 3) rfl
theorem dX12_undo_8 : decode cX12_undo 8 = .ok (.ireturn, 1) := dget dh_186 (k := 4) rfl
theorem dX12_undo_9 : decode cX12_undo 9 = .ok (.aload_n 0, 1) := dget dh_186 (k := 5) rfl
theorem dX12_undo_10 : decode cX12_undo 10 = .ok (.aload_n 0, 1) := dget dh_186 (k := 6) rfl
theorem dX12_undo_11 : decode cX12_undo 11 = .ok (.getfield 504, 3) := dget dh_186 (k := 7) rfl
theorem dX12_undo_14 : decode cX12_undo 14 = .ok (.putfield 417, 3) := dget dh_186 (k := 8) rfl
theorem dX12_undo_17 : decode cX12_undo 17 = .ok (.aload_n 0, 1) := dget dh_186 (k := 9) rfl
theorem dX12_undo_18 : decode cX12_undo 18 = .ok (.aload_n 0, 1) := dget dh_186 (k := 10) rfl
theorem dX12_undo_19 : decode cX12_undo 19 = .ok (.getfield 507, 3) := dget dh_186 (k := 11) rfl
theorem dX12_undo_22 : decode cX12_undo 22 = .ok (.putfield 229, 3) := dget dh_186 (k := 12) rfl
theorem dX12_undo_25 : decode cX12_undo 25 = .ok (.aload_n 0, 1) := dget dh_186 (k := 13) rfl
theorem dX12_undo_26 : decode cX12_undo 26 = .ok (.getfield 199, 3) := dget dh_186 (k := 14) rfl
theorem dX12_undo_29 : decode cX12_undo 29 = .ok (.aload_n 0, 1) := dget dh_186 (k := 15) rfl
theorem dX12_undo_30 : decode cX12_undo 30 = .ok (.getfield 129, 3) := dget dh_186 (k := 16) rfl
theorem dX12_undo_33 : decode cX12_undo 33 = .ok (.bipush 30, 2) := dget dh_186 (k := 17) rfl
theorem dX12_undo_35 : decode cX12_undo 35 = .ok (.invokestatic 510, 3) := dget dh_186 (k := 18) rfl
theorem dX12_undo_38 : decode cX12_undo 38 = .ok (.aload_n 0, 1) := dget dh_186 (k := 19) rfl
def dl_187 : List (Nat × (Instr × Nat)) := [(39, (.getfield 202, 3)), (42, (.aload_n 0, 1)), (43, (.getfield 132, 3)), (46, (.bipush 30, 2)), (48, (.invokestatic 510, 3)), (51, (.aload_n 0, 1)), (52, (.getfield 205, 3)), (55, (.aload_n 0, 1)), (56, (.getfield 135, 3)), (59, (.bipush 30, 2)), (61, (.invokestatic 510, 3)), (64, (.aload_n 0, 1)), (65, (.getfield 208, 3)), (68, (.aload_n 0, 1)), (69, (.getfield 138, 3)), (72, (.bipush 30, 2)), (74, (.invokestatic 510, 3)), (77, (.aload_n 0, 1)), (78, (.getfield 211, 3)), (81, (.aload_n 0, 1))]
theorem dh_187 : dchk cX12_undo dl_187 = true := by decide +kernel
theorem dX12_undo_39 : decode cX12_undo 39 = .ok (.getfield 202, 3) := dget dh_187 (k := 0) rfl
theorem dX12_undo_42 : decode cX12_undo 42 = .ok (.aload_n 0, 1) := dget dh_187 (k := 1) rfl
theorem dX12_undo_43 : decode cX12_undo 43 = .ok (.getfield 132, 3) := dget dh_187 (k := 2) rfl
theorem dX12_undo_46 : decode cX12_undo 46 = .ok (.bipush 30, 2) := dget dh_187 (k := 3) rfl
theorem dX12_undo_48 : decode cX12_undo 48 = .ok (.invokestatic 510, 3) := dget dh_187 (k := 4) rfl
theorem dX12_undo_51 : decode cX12_undo 51 = .ok (.aload_n 0, 1) := dget dh_187 (k := 5) rfl
theorem dX12_undo_52 : decode cX12_undo 52 = .ok (.getfield 205, 3) := dget dh_187 (k := 6) rfl
theorem dX12_undo_55 : decode cX12_undo 55 = .ok (.aload_n 0, 1) := dget dh_187 (k := 7) rfl
theorem dX12_undo_56 : decode cX12_undo 56 = .ok (.getfield 135, 3) := dget dh_187 (k := 8) rfl
theorem dX12_undo_59 : decode cX12_undo 59 = .ok (.bipush 30, 2) := dget dh_187 (k := 9) rfl
theorem dX12_undo_61 : decode cX12_undo 61 = .ok (.invokestatic 510, 3) := dget dh_187 (k := 10) rfl
theorem dX12_undo_64 : decode cX12_undo 64 = .ok (.aload_n 0, 1) := dget dh_187 (k := 11) rfl
theorem dX12_undo_65 : decode cX12_undo 65 = .ok (.getfield 208, 3) := dget dh_187 (k := 12) rfl
theorem dX12_undo_68 : decode cX12_undo 68 = .ok (.aload_n 0, 1) := dget dh_187 (k := 13) rfl
theorem dX12_undo_69 : decode cX12_undo 69 = .ok (.getfield 138, 3) := dget dh_187 (k := 14) rfl
theorem dX12_undo_72 : decode cX12_undo 72 = .ok (.bipush 30, 2) := dget dh_187 (k := 15) rfl
theorem dX12_undo_74 : decode cX12_undo 74 = .ok (.invokestatic 510, 3) := dget dh_187 (k := 16) rfl
theorem dX12_undo_77 : decode cX12_undo 77 = .ok (.aload_n 0, 1) := dget dh_187 (k := 17) rfl
theorem dX12_undo_78 : decode cX12_undo 78 = .ok (.getfield 211, 3) := dget dh_187 (k := 18) rfl
theorem dX12_undo_81 : decode cX12_undo 81 = .ok (.aload_n 0, 1) := dget dh_187 (k := 19) rfl
def dl_188 : List (Nat × (Instr × Nat)) := [(82, (.getfield 141, 3)), (85, (.bipush 30, 2)), (87, (.invokestatic 510, 3)), (90, (.aload_n 0, 1)), (91, (.getfield 214, 3)), (94, (.aload_n 0, 1)), (95, (.getfield 144, 3)), (98, (.bipush 30, 2)), (100, (.invokestatic 510, 3)), (103, (.aload_n 0, 1)), (104, (.getfield 217, 3)), (107, (.aload_n 0, 1)), (108, (.getfield 147, 3)), (111, (.bipush 30, 2)), (113, (.invokestatic 510, 3)), (116, (.aload_n 0, 1)), (117, (.getfield 220, 3)), (120, (.aload_n 0, 1)), (121, (.getfield 160, 3)), (124, (.bipush 6, 2))]
theorem dh_188 : dchk cX12_undo dl_188 = true := by decide +kernel
theorem dX12_undo_82 : decode cX12_undo 82 = .ok (.getfield 141, 3) := dget dh_188 (k := 0) rfl
theorem dX12_undo_85 : decode cX12_undo 85 = .ok (.bipush 30, 2) := dget dh_188 (k := 1) rfl
theorem dX12_undo_87 : decode cX12_undo 87 = .ok (.invokestatic 510, 3) := dget dh_188 (k := 2) rfl
theorem dX12_undo_90 : decode cX12_undo 90 = .ok (.aload_n 0, 1) := dget dh_188 (k := 3) rfl
theorem dX12_undo_91 : decode cX12_undo 91 = .ok (.getfield 214, 3) := dget dh_188 (k := 4) rfl
theorem dX12_undo_94 : decode cX12_undo 94 = .ok (.aload_n 0, 1) := dget dh_188 (k := 5) rfl
theorem dX12_undo_95 : decode cX12_undo 95 = .ok (.getfield 144, 3) := dget dh_188 (k := 6) rfl
theorem dX12_undo_98 : decode cX12_undo 98 = .ok (.bipush 30, 2) := dget dh_188 (k := 7) rfl
theorem dX12_undo_100 : decode cX12_undo 100 = .ok (.invokestatic 510, 3) := dget dh_188 (k := 8) rfl
theorem dX12_undo_103 : decode cX12_undo 103 = .ok (.aload_n 0, 1) := dget dh_188 (k := 9) rfl
theorem dX12_undo_104 : decode cX12_undo 104 = .ok (.getfield 217, 3) := dget dh_188 (k := 10) rfl
theorem dX12_undo_107 : decode cX12_undo 107 = .ok (.aload_n 0, 1) := dget dh_188 (k := 11) rfl
theorem dX12_undo_108 : decode cX12_undo 108 = .ok (.getfield 147, 3) := dget dh_188 (k := 12) rfl
theorem dX12_undo_111 : decode cX12_undo 111 = .ok (.bipush 30, 2) := dget dh_188 (k := 13) rfl
theorem dX12_undo_113 : decode cX12_undo 113 = .ok (.invokestatic 510, 3) := dget dh_188 (k := 14) rfl
theorem dX12_undo_116 : decode cX12_undo 116 = .ok (.aload_n 0, 1) := dget dh_188 (k := 15) rfl
theorem dX12_undo_117 : decode cX12_undo 117 = .ok (.getfield 220, 3) := dget dh_188 (k := 16) rfl
theorem dX12_undo_120 : decode cX12_undo 120 = .ok (.aload_n 0, 1) := dget dh_188 (k := 17) rfl
theorem dX12_undo_121 : decode cX12_undo 121 = .ok (.getfield 160, 3) := dget dh_188 (k := 18) rfl
theorem dX12_undo_124 : decode cX12_undo 124 = .ok (.bipush 6, 2) := dget dh_188 (k := 19) rfl
def dl_189 : List (Nat × (Instr × Nat)) := [(126, (.invokestatic 510, 3)), (129, (.aload_n 0, 1)), (130, (.getfield 223, 3)), (133, (.aload_n 0, 1)), (134, (.getfield 163, 3)), (137, (.bipush 6, 2)), (139, (.invokestatic 510, 3)), (142, (.iconst 0, 1)), (143, (.istore_n 1, 1)), (144, (.iload_n 1, 1)), (145, (.bipush 30, 2)), (147, (.if_icmp .ge 21, 3)), (150, (.aload_n 0, 1)), (151, (.getfield 150, 3)), (154, (.iload_n 1, 1)), (155, (.aload_n 0, 1)), (156, (.getfield 226, 3)), (159, (.iload_n 1, 1)), (160, (.baload, 1)), (161, (.bastore, 1))]
theorem dh_189 : dchk cX12_undo dl_189 = true := by decide +kernel
theorem dX12_undo_126 : decode cX12_undo 126 = .ok (.invokestatic 510, 3) := dget dh_189 (k := 0) rfl
theorem dX12_undo_129 : decode cX12_undo 129 = .ok (.aload_n 0, 1) := dget dh_189 (k := 1) rfl
theorem dX12_undo_130 : decode cX12_undo 130 = .ok (.getfield 223, 3) := dget dh_189 (k := 2) rfl
theorem dX12_undo_133 : decode cX12_undo 133 = .ok (.aload_n 0, 1) := dget dh_189 (k := 3) rfl
theorem dX12_undo_134 : decode cX12_undo 134 = .ok (.getfield 163, 3) := dget dh_189 (k := 4) rfl
theorem dX12_undo_137 : decode cX12_undo 137 = .ok (.bipush 6, 2) := dget dh_189 (k := 5) rfl
theorem dX12_undo_139 : decode cX12_undo 139 = .ok (.invokestatic 510, 3) := dget dh_189 (k := 6) rfl
theorem dX12_undo_142 : decode cX12_undo 142 = .ok (.iconst 0, 1) := dget dh_189 (k := 7) rfl
theorem dX12_undo_143 : decode cX12_undo 143 = .ok (.istore_n 1, 1) := dget dh_189 (k := 8) rfl
theorem dX12_undo_144 : decode cX12_undo 144 = .ok (.iload_n 1, 1) := dget dh_189 (k := 9) rfl
theorem dX12_undo_145 : decode cX12_undo 145 = .ok (.bipush 30, 2) := dget dh_189 (k := 10) rfl
theorem dX12_undo_147 : decode cX12_undo 147 = .ok (.if_icmp .ge 21, 3) := dget dh_189 (k := 11) rfl
theorem dX12_undo_150 : decode cX12_undo 150 = .ok (.aload_n 0, 1) := dget dh_189 (k := 12) rfl
theorem dX12_undo_151 : decode cX12_undo 151 = .ok (.getfield 150, 3) := dget dh_189 (k := 13) rfl
theorem dX12_undo_154 : decode cX12_undo 154 = .ok (.iload_n 1, 1) := dget dh_189 (k := 14) rfl
theorem dX12_undo_155 : decode cX12_undo 155 = .ok (.aload_n 0, 1) := dget dh_189 (k := 15) rfl
theorem dX12_undo_156 : decode cX12_undo 156 = .ok (.getfield 226, 3) := dget dh_189 (k := 16) rfl
theorem dX12_undo_159 : decode cX12_undo 159 = .ok (.iload_n 1, 1) := dget dh_189 (k := 17) rfl
theorem dX12_undo_160 : decode cX12_undo 160 = .ok (.baload, 1) := dget dh_189 (k := 18) rfl
theorem dX12_undo_161 : decode cX12_undo 161 = .ok (.bastore, 1) := dget dh_189 (k := 19) rfl
def dl_190 : List (Nat × (Instr × Nat)) := [(162, (.iinc 1 1, 3)), (165, (.goto (-21), 3)), (168, (.iconst 1, 1)), (169, (.ireturn, 1))]
theorem dh_190 : dchk cX12_undo dl_190 = true := by decide +kernel
theorem dX12_undo_162 : decode cX12_undo 162 = .ok (.iinc 1 1, 3) := dget dh_190 (k := 0) rfl
theorem dX12_undo_165 : decode cX12_undo 165 = .ok (.goto (-21), 3) := dget dh_190 (k := 1) rfl
theorem dX12_undo_168 : decode cX12_undo 168 = .ok (.iconst 1, 1) := dget dh_190 (k := 2) rfl
theorem dX12_undo_169 : decode cX12_undo 169 = .ok (.ireturn, 1) := dget dh_190 (k := 3) rfl
theorem mE_keep {i I : Nat → Int32} {r R : Nat → Nat → Int32} (h : mE i r) (hc : (i 51).toInt ≤ 30) (e0 : I 0 = i 0) (e31 : I 31 = i 31) (e51 : I 51 = i 51) (e79 : I 79 = i 51) (h81 : ∀ c, c < 30 → R 63 c = r 40 c) (h82 : ∀ c, c < 30 → R 64 c = r 41 c)
    (e5 : R 4 = r 4) (e11 : R 10 = r 10) (e15 : R 14 = r 14) (e38 : R 27 = r 27) (e39 : R 28 = r 28) (e40 : R 29 = r 29) (e41 : R 30 = r 30) (e42 : R 31 = r 31) (e52 : R 40 = r 40) (e53 : R 41 = r 41) : mE I R := by
  obtain ⟨a1, a2, a3, a4, a5⟩ := h
  refine ⟨by rw [e0, e5]; exact a1, by rw [e11, e15]; exact a2, by rw [e51, e52, e53, e11, e0]; exact a3, ?_, by rw [e31, e38, e39, e40, e41, e42]; exact a5⟩
  intro c hcc
  rw [e79] at hcc
  rw [h81 c (by omega), h82 c (by omega), e11, e0]
  exact a3 c hcc
theorem mE_undo {i I : Nat → Int32} {r R : Nat → Nat → Int32} (h : mE i r) (hc : (i 79).toInt ≤ 30) (e0 : I 0 = i 0) (e31 : I 31 = i 31) (e51 : I 51 = i 79) (e79 : I 79 = i 79) (h52 : ∀ c, c < 30 → R 40 c = r 63 c) (h53 : ∀ c, c < 30 → R 41 c = r 64 c)
    (e5 : R 4 = r 4) (e11 : R 10 = r 10) (e15 : R 14 = r 14) (e38 : R 27 = r 27) (e39 : R 28 = r 28) (e40 : R 29 = r 29) (e41 : R 30 = r 30) (e42 : R 31 = r 31) (e81 : R 63 = r 63) (e82 : R 64 = r 64) : mE I R := by
  obtain ⟨a1, a2, a3, a4, a5⟩ := h
  refine ⟨by rw [e0, e5]; exact a1, by rw [e11, e15]; exact a2, ?_, by rw [e79, e81, e82, e11, e0]; exact a4, by rw [e31, e38, e39, e40, e41, e42]; exact a5⟩
  intro c hcc
  rw [e51] at hcc
  rw [h52 c (by omega), h53 c (by omega), e11, e0]
  exact a4 c hcc
set_option maxHeartbeats 4000000 in
set_option maxRecDepth 100000 in
theorem c_X12_copies30 (l : Launch) (D : va_G) (cy : Nat → ClassId) (h1 h2 : Nat) (f g : Nat → Int32) (sz : Nat) : Met l yX12_copies (Cond.code yX12_copies cX12_copies 4 none :: gT) { frames := 1, cells := 0, slots := 0, locals := 24 } (va_Pc [.ref h1, .ref h2, .int 30] (rQ D cy [(h1, .inl (cy 0, 30, .inl f)), (h2, .inl (cy 0, 30, .inl g))] sz)) (va_Qv (fun u : Nat → Int32 => ∀ t, u t = if t < 30 then f t else g t) (fun (u : Nat → Int32) t => va_P D vwCl [(h1, .inl (cy 0, 30, .inl f)), (h2, .inl (cy 0, 30, .inl u))] t.heap ∧ va_K D vwCl (vT cy) t ∧ va_D (va_A [(h1, .inl (cy 0, 30, .inl f)), (h2, .inl (cy 0, 30, .inl g))] sz) [(h1, .inl (cy 0, 30, .inl f)), (h2, .inl (cy 0, 30, .inl u))]) (va_A [(h1, .inl (cy 0, 30, .inl f)), (h2, .inl (cy 0, 30, .inl g))] sz)) 0 0 (va_A [(h1, .inl (cy 0, 30, .inl f)), (h2, .inl (cy 0, 30, .inl g))] sz) := by
  refine Met.ofQ (cc := cX12_copies) (maxL := 4) (ret := none) (by decide) rfl ?_
  intro p e s m args below meth c s₁ B hml hv Q hQ
  obtain ⟨rfl, hsz, hP, hK, hD0⟩ := hv
  have hx := B.exec
  have hb := B.bytes
  have hr := B.returns
  have hlocks := B.notSynchronized
  have hT : ∀ w ∈ gT, w.before _ s = true := fun w h => atoms_spec (ws := (Cond.code yX12_copies cX12_copies 4 none :: gT)) B.pre w (List.mem_cons_of_mem _ h)
  have hown : s.vm.findClass RX12 = some m.cls := findClass_of_methodNamed B.named
  subst hsz
  have hD := hD0.self (sz := s.heap.size)
  generalize hAe : va_A [(h1, .inl (cy 0, 30, .inl f)), (h2, .inl (cy 0, 30, .inl g))] s.heap.size = A at hD hQ
  have hA : ∀ q : Nat, s.heap.size ≤ q → A q := fun q h => by rw [← hAe]; exact Or.inr h
  have hS : va_S A s.heap s.heap [] := va_S.rf
  have hl := lv_entry ([.ref h1, .ref h2, .int 30]) (n := 4) (Nat.le_of_ble_eq_true rfl)
  rw [lg_entry_eq]
  generalize (lg_sl ([.ref h1, .ref h2, .int 30]) ++ List.replicate (4 - (lg_sl ([.ref h1, .ref h2, .int 30])).length) Slot.unset).toArray = ls at hl ⊢
  have hl : lv_has ls 4 [(0, .ref h1), (1, .ref h2), (2, .int 30)] := hl
  refine lv_iconst (v := 0) hx hb dX12_copies_0 (by decide) ?_
  refine lv_istore_n (lv' := [(3, .int 0), (0, .ref h1), (1, .ref h2), (2, .int 30)]) hx hb dX12_copies_1 rfl hl (by decide) rfl (fun ls hl => ?_)
  have loop_1 : ∀ (n j1 : Nat) (x1 : Int32) (g1_1 : Nat → Int32) (H : Heap) (locs : List Loc) (ls : Array Slot), j1 + n = 30 → x1 = nI j1 → (∀ t, g1_1 t = if t < j1 then f t else g t) → va_P D vwCl [(h1, .inl (cy 0, 30, .inl f)), (h2, .inl (cy 0, 30, .inl g1_1))] H → va_D A [(h1, .inl (cy 0, 30, .inl f)), (h2, .inl (cy 0, 30, .inl g1_1))] → va_S A s.heap H locs → lv_has ls 4 [(3, .int x1), (0, .ref h1), (1, .ref h2), (2, .int 30)] → W p l e ({ frames := 1, cells := 0, slots := 0, locals := 24 } : Room) s m ([.ref h1, .ref h2, .int 30] : List Value).toArray below meth c H locs 0 0 Q (F0 m 2 ls []) := by
    intro n
    induction n with
    | zero =>
      intro j1 x1 g1_1 H locs ls hj1 hq1 hi1 hP hD hS hl
      obtain rfl : j1 = 30 := by omega
      obtain rfl : x1 = 30 := hq1.trans (by decide)
      refine lv_iload_n hx hb dX12_copies_2 rfl (lv_at hl 0 rfl) ?_
      refine lv_iload_n hx hb dX12_copies_3 rfl (lv_at hl 3 rfl) ?_
      refine lv_icmp_ge (tgt := 19) hx hb dX12_copies_4 (by decide) (fun c_2 => ?_) (fun c_2 => absurd (by decide) c_2)
      subst hQ
      exact W.vret hx hb hr (fun t ht hW => ⟨⟨g1_1, rfl, hi1, by rw [ht]; exact hP, va_K.moved hW.alike hK, hD⟩, hS.F ht⟩) hS.2.2 dX12_copies_19
    | succ n ih1 =>
      intro j1 x1 g1_1 H locs ls hj1 hq1 hi1 hP hD hS hl
      have hx1 : x1.toInt = (j1 : Int) := by rw [hq1]; exact nI_toInt (by omega)
      have hcx1 : x1.toNatClampNeg = j1 := by rw [hq1]; exact nI_clamp (by omega)
      refine lv_iload_n hx hb dX12_copies_2 rfl (lv_at hl 0 rfl) ?_
      refine lv_iload_n hx hb dX12_copies_3 rfl (lv_at hl 3 rfl) ?_
      refine lv_icmp_ge (tgt := 19) hx hb dX12_copies_4 (by decide) (fun c_3 => by have c_3 : 30 ≤ x1.toInt := b_le c_3; omega) (fun c_3 => ?_)
      have c_3 : x1.toInt < 30 := b_nle c_3
      refine lv_aload_n hx hb dX12_copies_7 rfl (lv_at hl 2 rfl) ?_
      refine lv_iload_n hx hb dX12_copies_8 rfl (lv_at hl 0 rfl) ?_
      refine lv_aload_n hx hb dX12_copies_9 rfl (lv_at hl 1 rfl) ?_
      refine lv_iload_n hx hb dX12_copies_10 rfl (lv_at hl 0 rfl) ?_
      refine va_iald hx hb hK hP 0 0 rfl rfl (vp_inI (by omega) (by omega)) dX12_copies_11 ?_
      refine lv_topi (fun v_4 ev_4 => ?_)
      refine va_iast hx hb hK hP hD hS 1 0 rfl rfl (vp_inI (by omega) (by omega)) dX12_copies_12 (fun H locs hP hD hS => ?_)
      have hP : va_P D vwCl [(h1, .inl (cy 0, 30, .inl f)), (h2, .inl (cy 0, 30, .inl (upd g1_1 x1.toNatClampNeg v_4)))] H := hP
      have hD : va_D A [(h1, .inl (cy 0, 30, .inl f)), (h2, .inl (cy 0, 30, .inl (upd g1_1 x1.toNatClampNeg v_4)))] := hD
      obtain ⟨x_5, ex_5⟩ : ∃ y : Int32, y = x1 + 1 := ⟨_, rfl⟩
      refine lv_iinc (v := x_5) (lv' := [(3, .int x_5), (0, .ref h1), (1, .ref h2), (2, .int 30)]) hx hb dX12_copies_13 hl (k := 0) rfl (by rw [ex_5]; rfl) (by decide) rfl (fun ls hl => ?_)
      refine lv_goto (tgt := 2) hx hb dX12_copies_16 (by decide) ?_
      have hst_6 : ∀ t, (upd g1_1 x1.toNatClampNeg v_4) t = if t < j1 + 1 then f t else g t := by
        intro t
        rw [hcx1]; unfold upd
        by_cases h9 : t = j1
        · rw [if_pos h9, if_pos (by omega), ev_4, hcx1, h9]
        · rw [if_neg h9, hi1]
          by_cases h8 : t < j1
          · rw [if_pos h8, if_pos (by omega)]
          · rw [if_neg h8, if_neg (by omega)]
      exact ih1 (j1 + 1) x_5 (upd g1_1 x1.toNatClampNeg v_4) _ _ _ (by omega) (by rw [ex_5, hq1]; exact nI_1 j1) hst_6 hP hD hS (lv_sub hl [0, 1, 2, 3] rfl)
  exact loop_1 30 0 0 g _ _ _ (by omega) rfl (fun t => rfl) hP hD hS hl
set_option maxHeartbeats 4000000 in
set_option maxRecDepth 100000 in
theorem c_X12_copies6 (l : Launch) (D : va_G) (cy : Nat → ClassId) (h1 h2 : Nat) (f g : Nat → Int32) (sz : Nat) : Met l yX12_copies (Cond.code yX12_copies cX12_copies 4 none :: gT) { frames := 1, cells := 0, slots := 0, locals := 24 } (va_Pc [.ref h1, .ref h2, .int 6] (rQ D cy [(h1, .inl (cy 0, 6, .inl f)), (h2, .inl (cy 0, 6, .inl g))] sz)) (va_Qv (fun u : Nat → Int32 => ∀ t, u t = if t < 6 then f t else g t) (fun (u : Nat → Int32) t => va_P D vwCl [(h1, .inl (cy 0, 6, .inl f)), (h2, .inl (cy 0, 6, .inl u))] t.heap ∧ va_K D vwCl (vT cy) t ∧ va_D (va_A [(h1, .inl (cy 0, 6, .inl f)), (h2, .inl (cy 0, 6, .inl g))] sz) [(h1, .inl (cy 0, 6, .inl f)), (h2, .inl (cy 0, 6, .inl u))]) (va_A [(h1, .inl (cy 0, 6, .inl f)), (h2, .inl (cy 0, 6, .inl g))] sz)) 0 0 (va_A [(h1, .inl (cy 0, 6, .inl f)), (h2, .inl (cy 0, 6, .inl g))] sz) := by
  refine Met.ofQ (cc := cX12_copies) (maxL := 4) (ret := none) (by decide) rfl ?_
  intro p e s m args below meth c s₁ B hml hv Q hQ
  obtain ⟨rfl, hsz, hP, hK, hD0⟩ := hv
  have hx := B.exec
  have hb := B.bytes
  have hr := B.returns
  have hlocks := B.notSynchronized
  have hT : ∀ w ∈ gT, w.before _ s = true := fun w h => atoms_spec (ws := (Cond.code yX12_copies cX12_copies 4 none :: gT)) B.pre w (List.mem_cons_of_mem _ h)
  have hown : s.vm.findClass RX12 = some m.cls := findClass_of_methodNamed B.named
  subst hsz
  have hD := hD0.self (sz := s.heap.size)
  generalize hAe : va_A [(h1, .inl (cy 0, 6, .inl f)), (h2, .inl (cy 0, 6, .inl g))] s.heap.size = A at hD hQ
  have hA : ∀ q : Nat, s.heap.size ≤ q → A q := fun q h => by rw [← hAe]; exact Or.inr h
  have hS : va_S A s.heap s.heap [] := va_S.rf
  have hl := lv_entry ([.ref h1, .ref h2, .int 6]) (n := 4) (Nat.le_of_ble_eq_true rfl)
  rw [lg_entry_eq]
  generalize (lg_sl ([.ref h1, .ref h2, .int 6]) ++ List.replicate (4 - (lg_sl ([.ref h1, .ref h2, .int 6])).length) Slot.unset).toArray = ls at hl ⊢
  have hl : lv_has ls 4 [(0, .ref h1), (1, .ref h2), (2, .int 6)] := hl
  refine lv_iconst (v := 0) hx hb dX12_copies_0 (by decide) ?_
  refine lv_istore_n (lv' := [(3, .int 0), (0, .ref h1), (1, .ref h2), (2, .int 6)]) hx hb dX12_copies_1 rfl hl (by decide) rfl (fun ls hl => ?_)
  have loop_1 : ∀ (n j1 : Nat) (x1 : Int32) (g1_1 : Nat → Int32) (H : Heap) (locs : List Loc) (ls : Array Slot), j1 + n = 6 → x1 = nI j1 → (∀ t, g1_1 t = if t < j1 then f t else g t) → va_P D vwCl [(h1, .inl (cy 0, 6, .inl f)), (h2, .inl (cy 0, 6, .inl g1_1))] H → va_D A [(h1, .inl (cy 0, 6, .inl f)), (h2, .inl (cy 0, 6, .inl g1_1))] → va_S A s.heap H locs → lv_has ls 4 [(3, .int x1), (0, .ref h1), (1, .ref h2), (2, .int 6)] → W p l e ({ frames := 1, cells := 0, slots := 0, locals := 24 } : Room) s m ([.ref h1, .ref h2, .int 6] : List Value).toArray below meth c H locs 0 0 Q (F0 m 2 ls []) := by
    intro n
    induction n with
    | zero =>
      intro j1 x1 g1_1 H locs ls hj1 hq1 hi1 hP hD hS hl
      obtain rfl : j1 = 6 := by omega
      obtain rfl : x1 = 6 := hq1.trans (by decide)
      refine lv_iload_n hx hb dX12_copies_2 rfl (lv_at hl 0 rfl) ?_
      refine lv_iload_n hx hb dX12_copies_3 rfl (lv_at hl 3 rfl) ?_
      refine lv_icmp_ge (tgt := 19) hx hb dX12_copies_4 (by decide) (fun c_2 => ?_) (fun c_2 => absurd (by decide) c_2)
      subst hQ
      exact W.vret hx hb hr (fun t ht hW => ⟨⟨g1_1, rfl, hi1, by rw [ht]; exact hP, va_K.moved hW.alike hK, hD⟩, hS.F ht⟩) hS.2.2 dX12_copies_19
    | succ n ih1 =>
      intro j1 x1 g1_1 H locs ls hj1 hq1 hi1 hP hD hS hl
      have hx1 : x1.toInt = (j1 : Int) := by rw [hq1]; exact nI_toInt (by omega)
      have hcx1 : x1.toNatClampNeg = j1 := by rw [hq1]; exact nI_clamp (by omega)
      refine lv_iload_n hx hb dX12_copies_2 rfl (lv_at hl 0 rfl) ?_
      refine lv_iload_n hx hb dX12_copies_3 rfl (lv_at hl 3 rfl) ?_
      refine lv_icmp_ge (tgt := 19) hx hb dX12_copies_4 (by decide) (fun c_3 => by have c_3 : 6 ≤ x1.toInt := b_le c_3; omega) (fun c_3 => ?_)
      have c_3 : x1.toInt < 6 := b_nle c_3
      refine lv_aload_n hx hb dX12_copies_7 rfl (lv_at hl 2 rfl) ?_
      refine lv_iload_n hx hb dX12_copies_8 rfl (lv_at hl 0 rfl) ?_
      refine lv_aload_n hx hb dX12_copies_9 rfl (lv_at hl 1 rfl) ?_
      refine lv_iload_n hx hb dX12_copies_10 rfl (lv_at hl 0 rfl) ?_
      refine va_iald hx hb hK hP 0 0 rfl rfl (vp_inI (by omega) (by omega)) dX12_copies_11 ?_
      refine lv_topi (fun v_4 ev_4 => ?_)
      refine va_iast hx hb hK hP hD hS 1 0 rfl rfl (vp_inI (by omega) (by omega)) dX12_copies_12 (fun H locs hP hD hS => ?_)
      have hP : va_P D vwCl [(h1, .inl (cy 0, 6, .inl f)), (h2, .inl (cy 0, 6, .inl (upd g1_1 x1.toNatClampNeg v_4)))] H := hP
      have hD : va_D A [(h1, .inl (cy 0, 6, .inl f)), (h2, .inl (cy 0, 6, .inl (upd g1_1 x1.toNatClampNeg v_4)))] := hD
      obtain ⟨x_5, ex_5⟩ : ∃ y : Int32, y = x1 + 1 := ⟨_, rfl⟩
      refine lv_iinc (v := x_5) (lv' := [(3, .int x_5), (0, .ref h1), (1, .ref h2), (2, .int 6)]) hx hb dX12_copies_13 hl (k := 0) rfl (by rw [ex_5]; rfl) (by decide) rfl (fun ls hl => ?_)
      refine lv_goto (tgt := 2) hx hb dX12_copies_16 (by decide) ?_
      have hst_6 : ∀ t, (upd g1_1 x1.toNatClampNeg v_4) t = if t < j1 + 1 then f t else g t := by
        intro t
        rw [hcx1]; unfold upd
        by_cases h9 : t = j1
        · rw [if_pos h9, if_pos (by omega), ev_4, hcx1, h9]
        · rw [if_neg h9, hi1]
          by_cases h8 : t < j1
          · rw [if_pos h8, if_pos (by omega)]
          · rw [if_neg h8, if_neg (by omega)]
      exact ih1 (j1 + 1) x_5 (upd g1_1 x1.toNatClampNeg v_4) _ _ _ (by omega) (by rw [ex_5, hq1]; exact nI_1 j1) hst_6 hP hD hS (lv_sub hl [0, 1, 2, 3] rfl)
  exact loop_1 6 0 0 g _ _ _ (by omega) rfl (fun t => rfl) hP hD hS hl
