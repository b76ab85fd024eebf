set_option maxRecDepth 100000 in
theorem t_232 : Cond.fieldLink RX12 500 "DepositJudgeModel" "isKept" "Z" ∈ gT := tm (tb5 (List.mem_of_getElem? (i := 35) (by rfl))) (by decide +kernel)
set_option maxRecDepth 100000 in
theorem t_233 : Cond.fieldLink RX12 504 "DepositJudgeModel" "keptClaims" "I" ∈ gT := tm (tb5 (List.mem_of_getElem? (i := 36) (by rfl))) (by decide +kernel)
set_option maxRecDepth 100000 in
theorem t_234 : Cond.fieldLink RX12 507 "DepositJudgeModel" "keptX" "I" ∈ gT := tm (tb5 (List.mem_of_getElem? (i := 37) (by rfl))) (by decide +kernel)
set_option maxRecDepth 100000 in
theorem t_235 : Cond.fieldLink RX12 199 "DepositJudgeModel" "keptHome" "[I" ∈ gT := tm (tb5 (List.mem_of_getElem? (i := 38) (by rfl))) (by decide +kernel)
set_option maxRecDepth 100000 in
theorem t_236 : Cond.code yX12_copies cX12_copies 4 none ∈ gT := tm (tb7 (List.mem_of_getElem? (i := 135) (by rfl))) (by decide +kernel)
set_option maxRecDepth 100000 in
theorem t_237 : Cond.methodLink RX12 510 yX12_copies ∈ gT := tm (tb7 (List.mem_of_getElem? (i := 133) (by rfl))) (by decide +kernel)
set_option maxRecDepth 100000 in
theorem t_238 : Cond.static yX12_copies ∈ gT := tm (tb7 (List.mem_of_getElem? (i := 134) (by rfl))) (by decide +kernel)
set_option maxRecDepth 100000 in
theorem t_239 : Cond.fieldLink RX12 202 "DepositJudgeModel" "keptThing" "[I" ∈ gT := tm (tb5 (List.mem_of_getElem? (i := 39) (by rfl))) (by decide +kernel)
set_option maxRecDepth 100000 in
theorem t_240 : Cond.fieldLink RX12 205 "DepositJudgeModel" "keptCause" "[I" ∈ gT := tm (tb5 (List.mem_of_getElem? (i := 40) (by rfl))) (by decide +kernel)
set_option maxRecDepth 100000 in
theorem t_241 : Cond.fieldLink RX12 208 "DepositJudgeModel" "keptEvidence" "[I" ∈ gT := tm (tb5 (List.mem_of_getElem? (i := 41) (by rfl))) (by decide +kernel)
set_option maxRecDepth 100000 in
theorem t_242 : Cond.fieldLink RX12 211 "DepositJudgeModel" "keptDay" "[I" ∈ gT := tm (tb5 (List.mem_of_getElem? (i := 42) (by rfl))) (by decide +kernel)
set_option maxRecDepth 100000 in
theorem t_243 : Cond.fieldLink RX12 214 "DepositJudgeModel" "keptAgreed" "[I" ∈ gT := tm (tb5 (List.mem_of_getElem? (i := 43) (by rfl))) (by decide +kernel)
set_option maxRecDepth 100000 in
theorem t_244 : Cond.fieldLink RX12 217 "DepositJudgeModel" "keptAnswer" "[I" ∈ gT := tm (tb5 (List.mem_of_getElem? (i := 44) (by rfl))) (by decide +kernel)
set_option maxRecDepth 100000 in
theorem t_245 : Cond.fieldLink RX12 220 "DepositJudgeModel" "keptOwner" "[I" ∈ gT := tm (tb5 (List.mem_of_getElem? (i := 45) (by rfl))) (by decide +kernel)
set_option maxRecDepth 100000 in
theorem t_246 : Cond.fieldLink RX12 223 "DepositJudgeModel" "keptTenant" "[I" ∈ gT := tm (tb5 (List.mem_of_getElem? (i := 46) (by rfl))) (by decide +kernel)
set_option maxRecDepth 100000 in
theorem t_247 : Cond.fieldLink RX12 226 "DepositJudgeModel" "keptProof" "[Z" ∈ gT := tm (tb5 (List.mem_of_getElem? (i := 47) (by rfl))) (by decide +kernel)
def dl_180 : List (Nat × (Instr × Nat)) := [(0, (.iconst 0, 1)), (1, (.istore_n 3, 1)), (2, (.iload_n 3, 1)), (3, (.iload_n 2, 1)), (4, (.if_icmp .ge 15, 3)), (7, (.aload_n 1, 1)), (8, (.iload_n 3, 1)), (9, (.aload_n 0, 1)), (10, (.iload_n 3, 1)), (11, (.iaload, 1)), (12, (.iastore, 1)), (13, (.iinc 3 1, 3)), (16, (.goto (-14), 3)), (19, (.return_, 1))]
theorem dh_180 : dchk cX12_copies dl_180 = true := by decide +kernel
theorem dX12_copies_0 : decode cX12_copies 0 = .ok (.iconst 0, 1) := dget dh_180 (k := 0) rfl
theorem dX12_copies_1 : decode cX12_copies 1 = .ok (.istore_n 3, 1) := dget dh_180 (k := 1) rfl
theorem dX12_copies_2 : decode cX12_copies 2 = .ok (.iload_n 3, 1) := dget dh_180 (k := 2) rfl
theorem dX12_copies_3 : decode cX12_copies 3 = .ok (.iload_n 2, 1) := dget dh_180 (k := 3) rfl
theorem dX12_copies_4 : decode cX12_copies 4 = .ok (.if_icmp .ge 15, 3) := dget dh_180 (k := 4) rfl
theorem dX12_copies_7 : decode cX12_copies 7 = .ok (.aload_n 1, 1) := dget dh_180 (k := 5) rfl
theorem dX12_copies_8 : decode cX12_copies 8 = .ok (.iload_n 3, 1) := dget dh_180 (k := 6) rfl
theorem dX12_copies_9 : decode cX12_copies 9 = .ok (.aload_n 0, 1) := dget dh_180 (k := 7) rfl
theorem dX12_copies_10 : decode cX12_copies 10 = .ok (.iload_n 3, 1) := dget dh_180 (k := 8) rfl
theorem dX12_copies_11 : decode cX12_copies 11 = .ok (.iaload, 1) := dget dh_180 (k := 9) rfl
theorem dX12_copies_12 : decode cX12_copies 12 = .ok (.iastore, 1) := dget dh_180 (k := 10) rfl
theorem dX12_copies_13 : decode cX12_copies 13 = .ok (.iinc 3 1, 3) := dget dh_180 (k := 11) rfl
theorem dX12_copies_16 : decode cX12_copies 16 = .ok (.goto (-14), 3) := dget dh_180 (k := 12) rfl
theorem dX12_copies_19 : decode cX12_copies 19 = .ok (.return_, 1) := dget dh_180 (k := 13) rfl
def dl_181 : List (Nat × (Instr × Nat)) := [(0, (.aload_n 0, 1)), (1, (.iconst 1, 1)), (2, (.putfield 500, 3)), (5, (.aload_n 0, 1)), (6, (.aload_n 0, 1)), (7, (.getfield 417, 3)), (10, (.putfield 504, 3)), (13, (.aload_n 0, 1)), (14, (.aload_n 0, 1)), (15, (.getfield 229, 3)), (18, (.putfield 507, 3)), (21, (.aload_n 0, 1)), (22, (.getfield 129, 3)), (25, (.aload_n 0, 1)), (26, (.getfield 199, 3)), (29, (.bipush 30, 2)), (31, (.invokestatic 510, 3)), (34, (.aload_n 0, 1)), (35, (.getfield 132, 3)), (38, (.aload_n 0, 1))]
theorem dh_181 : dchk cX12_keep dl_181 = true := by decide +kernel
theorem dX12_keep_0 : decode cX12_keep 0 = .ok (.aload_n 0, 1) := dget dh_181 (k := 0) rfl
theorem dX12_keep_1 : decode cX12_keep 1 = .ok (.iconst 1, 1) := dget dh_181 (k := 1) rfl
theorem dX12_keep_2 : decode cX12_keep 2 = .ok (.putfield 500, 3) := dget dh_181 (k := 2) rfl
theorem dX12_keep_5 : decode cX12_keep 5 = .ok (.aload_n 0, 1) := dget dh_181 (k := 3) rfl
theorem dX12_keep_6 : decode cX12_keep 6 = .ok (.aload_n 0, 1) := dget dh_181 (k := 4) rfl
theorem dX12_keep_7 : decode cX12_keep 7 = .ok (.getfield 417, 3) := dget dh_181 (k := 5) rfl
theorem dX12_keep_10 : decode cX12_keep 10 = .ok (.putfield 504, 3) := dget dh_181 (k := 6) rfl
theorem dX12_keep_13 : decode cX12_keep 13 = .ok (.aload_n 0, 1) := dget dh_181 (k := 7) rfl
theorem dX12_keep_14 : decode cX12_keep 14 = .ok (.aload_n 0, 1) := dget dh_181 (k := 8) rfl
theorem dX12_keep_15 : decode cX12_keep 15 = .ok (.getfield 229, 3) := dget dh_181 (k := 9) rfl
theorem dX12_keep_18 : decode cX12_keep 18 = .ok (.putfield 507, 3) := dget dh_181 (k := 10) rfl
theorem dX12_keep_21 : decode cX12_keep 21 = .ok (.aload_n 0, 1) := dget dh_181 (k := 11) rfl
theorem dX12_keep_22 : decode cX12_keep 22 = .ok (.getfield 129, 3) := dget dh_181 (k := 12) rfl
theorem dX12_keep_25 : decode cX12_keep 25 = .ok (.aload_n 0, 1) := dget dh_181 (k := 13) rfl
theorem dX12_keep_26 : decode cX12_keep 26 = .ok (.getfield 199, 3) := dget dh_181 (k := 14) rfl
theorem dX12_keep_29 : decode cX12_keep 29 = .ok (.bipush 30, 2) := dget dh_181 (k := 15) rfl
theorem dX12_keep_31 : decode cX12_keep 31 = .ok (.invokestatic 510, 3) := dget dh_181 (k := 16) rfl
theorem dX12_keep_34 : decode cX12_keep 34 = .ok (.aload_n 0, 1) := dget dh_181 (k := 17) rfl
theorem dX12_keep_35 : decode cX12_keep 35 = .ok (.getfield 132, 3) := dget dh_181 (k := 18) rfl
theorem dX12_keep_38 : decode cX12_keep 38 = .ok (.aload_n 0, 1) := dget dh_181 (k := 19) rfl
def dl_182 : List (Nat × (Instr × Nat)) := [(39, (.getfield 202, 3)), (42, (.bipush 30, 2)), (44, (.invokestatic 510, 3)), (47, (.aload_n 0, 1)), (48, (.getfield 135, 3)), (51, (.aload_n 0, 1)), (52, (.getfield 205, 3)), (55, (.bipush 30, 2)), (57, (.invokestatic 510, 3)), (60, (.aload_n 0, 1)), (61, (.getfield 138, 3)), (64, (.aload_n 0, 1)), (65, (.getfield 208, 3)), (68, (.bipush 30, 2)), (70, (.invokestatic 510, 3)), (73, (.aload_n 0, 1)), (74, (.getfield 141, 3)), (77, (.aload_n 0, 1)), (78, (.getfield 211, 3)), (81, (.bipush 30, 2))]
theorem dh_182 : dchk cX12_keep dl_182 = true := by decide +kernel
theorem dX12_keep_39 : decode cX12_keep 39 = .ok (.getfield 202, 3) := dget dh_182 (k := 0) rfl
theorem dX12_keep_42 : decode cX12_keep 42 = .ok (.bipush 30, 2) := dget dh_182 (k := 1) rfl
theorem dX12_keep_44 : decode cX12_keep 44 = .ok (.invokestatic 510, 3) := dget dh_182 (k := 2) rfl
theorem dX12_keep_47 : decode cX12_keep 47 = .ok (.aload_n 0, 1) := dget dh_182 (k := 3) rfl
theorem dX12_keep_48 : decode cX12_keep 48 = .ok (.getfield 135, 3) := dget dh_182 (k := 4) rfl
theorem dX12_keep_51 : decode cX12_keep 51 = .ok (.aload_n 0, 1) := dget dh_182 (k := 5) rfl
theorem dX12_keep_52 : decode cX12_keep 52 = .ok (.getfield 205, 3) := dget dh_182 (k := 6) rfl
theorem dX12_keep_55 : decode cX12_keep 55 = .ok (.bipush 30, 2) := dget dh_182 (k := 7) rfl
theorem dX12_keep_57 : decode cX12_keep 57 = .ok (.invokestatic 510, 3) := dget dh_182 (k := 8) rfl
theorem dX12_keep_60 : decode cX12_keep 60 = .ok (.aload_n 0, 1) := dget dh_182 (k := 9) rfl
theorem dX12_keep_61 : decode cX12_keep 61 = .ok (.getfield 138, 3) := dget dh_182 (k := 10) rfl
theorem dX12_keep_64 : decode cX12_keep 64 = .ok (.aload_n 0, 1) := dget dh_182 (k := 11) rfl
theorem dX12_keep_65 : decode cX12_keep 65 = .ok (.getfield 208, 3) := dget dh_182 (k := 12) rfl
theorem dX12_keep_68 : decode cX12_keep 68 = .ok (.bipush 30, 2) := dget dh_182 (k := 13) rfl
theorem dX12_keep_70 : decode cX12_keep 70 = .ok (.invokestatic 510, 3) := dget dh_182 (k := 14) rfl
theorem dX12_keep_73 : decode cX12_keep 73 = .ok (.aload_n 0, 1) := dget dh_182 (k := 15) rfl
theorem dX12_keep_74 : decode cX12_keep 74 = .ok (.getfield 141, 3) := dget dh_182 (k := 16) rfl
theorem dX12_keep_77 : decode cX12_keep 77 = .ok (.aload_n 0, 1) := dget dh_182 (k := 17) rfl
theorem dX12_keep_78 : decode cX12_keep 78 = .ok (.getfield 211, 3) := dget dh_182 (k := 18) rfl
theorem dX12_keep_81 : decode cX12_keep 81 = .ok (.bipush 30, 2) := dget dh_182 (k := 19) rfl
def dl_183 : List (Nat × (Instr × Nat)) := [(83, (.invokestatic 510, 3)), (86, (.aload_n 0, 1)), (87, (.getfield 144, 3)), (90, (.aload_n 0, 1)), (91, (.getfield 214, 3)), (94, (.bipush 30, 2)), (96, (.invokestatic 510, 3)), (99, (.aload_n 0, 1)), (100, (.getfield 147, 3)), (103, (.aload_n 0, 1)), (104, (.getfield 217, 3)), (107, (.bipush 30, 2)), (109, (.invokestatic 510, 3)), (112, (.aload_n 0, 1)), (113, (.getfield 160, 3)), (116, (.aload_n 0, 1)), (117, (.getfield 220, 3)), (120, (.bipush 6, 2)), (122, (.invokestatic 510, 3)), (125, (.aload_n 0, 1))]
theorem dh_183 : dchk cX12_keep dl_183 = true := by decide +kernel
theorem dX12_keep_83 : decode cX12_keep 83 = .ok (.invokestatic 510, 3) := dget dh_183 (k := 0) rfl
theorem dX12_keep_86 : decode cX12_keep 86 = .ok (.aload_n 0, 1) := dget dh_183 (k := 1) rfl
theorem dX12_keep_87 : decode cX12_keep 87 = .ok (.getfield 144, 3) := dget dh_183 (k := 2) rfl
theorem dX12_keep_90 : decode cX12_keep 90 = .ok (.aload_n 0, 1) := dget dh_183 (k := 3) rfl
theorem dX12_keep_91 : decode cX12_keep 91 = .ok (.getfield 214, 3) := dget dh_183 (k := 4) rfl
theorem dX12_keep_94 : decode cX12_keep 94 = .ok (.bipush 30, 2) := dget dh_183 (k := 5) rfl
theorem dX12_keep_96 : decode cX12_keep 96 = .ok (.invokestatic 510, 3) := dget dh_183 (k := 6) rfl
theorem dX12_keep_99 : decode cX12_keep 99 = .ok (.aload_n 0, 1) := dget dh_183 (k := 7) rfl
theorem dX12_keep_100 : decode cX12_keep 100 = .ok (.getfield 147, 3) := dget dh_183 (k := 8) rfl
theorem dX12_keep_103 : decode cX12_keep 103 = .ok (.aload_n 0, 1) := dget dh_183 (k := 9) rfl
theorem dX12_keep_104 : decode cX12_keep 104 = .ok (.getfield 217, 3) := dget dh_183 (k := 10) rfl
theorem dX12_keep_107 : decode cX12_keep 107 = .ok (.bipush 30, 2) := dget dh_183 (k := 11) rfl
theorem dX12_keep_109 : decode cX12_keep 109 = .ok (.invokestatic 510, 3) := dget dh_183 (k := 12) rfl
theorem dX12_keep_112 : decode cX12_keep 112 = .ok (.aload_n 0, 1) := dget dh_183 (k := 13) rfl
theorem dX12_keep_113 : decode cX12_keep 113 = .ok (.getfield 160, 3) := dget dh_183 (k := 14) rfl
theorem dX12_keep_116 : decode cX12_keep 116 = .ok (.aload_n 0, 1) := dget dh_183 (k := 15) rfl
theorem dX12_keep_117 : decode cX12_keep 117 = .ok (.getfield 220, 3) := dget dh_183 (k := 16) rfl
theorem dX12_keep_120 : decode cX12_keep 120 = .ok (.bipush 6, 2) := dget dh_183 (k := 17) rfl
theorem dX12_keep_122 : decode cX12_keep 122 = .ok (.invokestatic 510, 3) := dget dh_183 (k := 18) rfl
theorem dX12_keep_125 : decode cX12_keep 125 = .ok (.aload_n 0, 1) := dget dh_183 (k := 19) rfl
def dl_184 : List (Nat × (Instr × Nat)) := [(126, (.getfield 163, 3)), (129, (.aload_n 0, 1)), (130, (.getfield 223, 3)), (133, (.bipush 6, 2)), (135, (.invokestatic 510, 3)), (138, (.iconst 0, 1)), (139, (.istore_n 1, 1)), (140, (.iload_n 1, 1)), (141, (.bipush 30, 2)), (143, (.if_icmp .ge 21, 3)), (146, (.aload_n 0, 1)), (147, (.getfield 226, 3)), (150, (.iload_n 1, 1)), (151, (.aload_n 0, 1)), (152, (.getfield 150, 3)), (155, (.iload_n 1, 1)), (156, (.baload, 1)), (157, (.bastore, 1)), (158, (.iinc 1 1, 3)), (161, (.goto (-21), 3))]
theorem dh_184 : dchk cX12_keep dl_184 = true := by decide +kernel
theorem dX12_keep_126 : decode cX12_keep 126 = .ok (.getfield 163, 3) := dget dh_184 (k := 0) rfl
theorem dX12_keep_129 : decode cX12_keep 129 = .ok (.aload_n 0, 1) := dget dh_184 (k := 1) rfl
theorem dX12_keep_130 : decode cX12_keep 130 = .ok (.getfield 223, 3) := dget dh_184 (k := 2) rfl
theorem dX12_keep_133 : decode cX12_keep 133 = .ok (.bipush 6, 2) := dget dh_184 (k := 3) rfl
theorem dX12_keep_135 : decode cX12_keep 135 = .ok (.invokestatic 510, 3) := dget dh_184 (k := 4) rfl
theorem dX12_keep_138 : decode cX12_keep 138 = .ok (.iconst 0, 1) := dget dh_184 (k := 5) rfl
theorem dX12_keep_139 : decode cX12_keep 139 = .ok (.istore_n 1, 1) := dget dh_184 (k := 6) rfl
theorem dX12_keep_140 : decode cX12_keep 140 = .ok (.iload_n 1, 1) := dget dh_184 (k := 7) rfl
theorem dX12_keep_141 : decode cX12_keep 141 = .ok (.bipush 30, 2) := dget dh_184 (k := 8) rfl
theorem dX12_keep_143 : decode cX12_keep 143 = .ok (.if_icmp .ge 21, 3) := dget dh_184 (k := 9) rfl
theorem dX12_keep_146 : decode cX12_keep 146 = .ok (.aload_n 0, 1) := dget dh_184 (k := 10) rfl
theorem dX12_keep_147 : decode cX12_keep 147 = .ok (.getfield 226, 3) := dget dh_184 (k := 11) rfl
theorem dX12_keep_150 : decode cX12_keep 150 = .ok (.iload_n 1, 1) := dget dh_184 (k := 12) rfl
theorem dX12_keep_151 : decode cX12_keep 151 = .ok (.aload_n 0, 1) := dget dh_184 (k := 13) rfl
theorem dX12_keep_152 : decode cX12_keep 152 = .ok (.getfield 150, 3) := dget dh_184 (k := 14) rfl
theorem dX12_keep_155 : decode cX12_keep 155 = .ok (.iload_n 1, 1) := dget dh_184 (k := 15) rfl
theorem dX12_keep_156 : decode cX12_keep 156 = .ok (.baload, 1) := dget dh_184 (k := 16) rfl
theorem dX12_keep_157 : decode cX12_keep 157 = .ok (.bastore, 1) := dget dh_184 (k := 17) rfl
theorem dX12_keep_158 : decode cX12_keep 158 = .ok (.iinc 1 1, 3) := dget dh_184 (k := 18) rfl
theorem dX12_keep_161 : decode cX12_keep 161 = .ok (.goto (-21), 3) := dget dh_184 (k := 19) rfl
def dl_185 : List (Nat × (Instr × Nat)) := [(164, (.aload_n 0, 1)), (165, (.getfield 417, 3)), (168, (.ireturn, 1))]
theorem dh_185 : dchk cX12_keep dl_185 = true := by decide +kernel
theorem dX12_keep_164 : decode cX12_keep 164 = .ok (.aload_n 0, 1) := dget dh_185 (k := 0) rfl
theorem dX12_keep_165 : decode cX12_keep 165 = .ok (.getfield 417, 3) := dget dh_185 (k := 1) rfl
theorem dX12_keep_168 : decode cX12_keep 168 = .ok (.ireturn, 1) := dget dh_185 (k := 2) rfl
def dl_186 : List (Nat × (Instr × Nat)) := [(0, (.aload_n 0, 1)), (1, (.getfield 500, 3)), (4, (.ifCond .ne 5, 3)), (7, (.iconst 0, 1)), (8, (.ireturn, 1)), (9, (.aload_n 0, 1)), (10, (.aload_n 0, 1)), (11, (.getfield 504, 3)), (14, (.putfield 417, 3)), (17, (.aload_n 0, 1)), (18, (.aload_n 0, 1)), (19, (.getfield 507, 3)), (22, (.putfield 229, 3)), (25, (.aload_n 0, 1)), (26, (.getfield 199, 3)), (29, (.aload_n 0, 1)), (30, (.getfield 129, 3)), (33, (.bipush 30, 2)), (35, (.invokestatic 510, 3)), (38, (.aload_n 0, 1))]
theorem dh_186 : dchk cX12_undo dl_186 = true := by decide +kernel
theorem dX12_undo_0 : decode cX12_undo 0 = .ok (.aload_n 0, 1) := dget dh_186 (k := 0) rfl
theorem dX12_undo_1 : decode cX12_undo 1 = .ok (.getfield 500, 3) := dget dh_186 (k := 1) rfl
theorem dX12_undo_4 : decode cX12_undo 4 = .ok (.ifCond .ne 5, 3) := dget dh_186 (k := 2) rfl
theorem dX12_undo_7 : decode cX12_undo 7 = .ok (.iconst 0, 1) := dget dh_186 (k := 3) rfl
theorem dX12_undo_8 : decode cX12_undo 8 = .ok (.ireturn, 1) := dget dh_186 (k := 4) rfl
theorem dX12_undo_9 : decode cX12_undo 9 = .ok (.aload_n 0, 1) := dget dh_186 (k := 5) rfl
theorem dX12_undo_10 : decode cX12_undo 10 = .ok (.aload_n 0, 1) := dget dh_186 (k := 6) rfl
theorem dX12_undo_11 : decode cX12_undo 11 = .ok (.getfield 504, 3) := dget dh_186 (k := 7) rfl
theorem dX12_undo_14 : decode cX12_undo 14 = .ok (.putfield 417, 3) := dget dh_186 (k := 8) rfl
theorem dX12_undo_17 : decode cX12_undo 17 = .ok (.aload_n 0, 1) := dget dh_186 (k := 9) rfl
theorem dX12_undo_18 : decode cX12_undo 18 = .ok (.aload_n 0, 1) := dget dh_186 (k := 10) rfl
theorem dX12_undo_19 : decode cX12_undo 19 = .ok (.getfield 507, 3) := dget dh_186 (k := 11) rfl
theorem dX12_undo_22 : decode cX12_undo 22 = .ok (.putfield 229, 3) := dget dh_186 (k := 12) rfl
theorem dX12_undo_25 : decode cX12_undo 25 = .ok (.aload_n 0, 1) := dget dh_186 (k := 13) rfl
theorem dX12_undo_26 : decode cX12_undo 26 = .ok (.getfield 199, 3) := dget dh_186 (k := 14) rfl
theorem dX12_undo_29 : decode cX12_undo 29 = .ok (.aload_n 0, 1) := dget dh_186 (k := 15) rfl
theorem dX12_undo_30 : decode cX12_undo 30 = .ok (.getfield 129, 3) := dget dh_186 (k := 16) rfl
theorem dX12_undo_33 : decode cX12_undo 33 = .ok (.bipush 30, 2) := dget dh_186 (k := 17) rfl
theorem dX12_undo_35 : decode cX12_undo 35 = .ok (.invokestatic 510, 3) := dget dh_186 (k := 18) rfl
theorem dX12_undo_38 : decode cX12_undo 38 = .ok (.aload_n 0, 1) := dget dh_186 (k := 19) rfl
def dl_187 : List (Nat × (Instr × Nat)) := [(39, (.getfield 202, 3)), (42, (.aload_n 0, 1)), (43, (.getfield 132, 3)), (46, (.bipush 30, 2)), (48, (.invokestatic 510, 3)), (51, (.aload_n 0, 1)), (52, (.getfield 205, 3)), (55, (.aload_n 0, 1)), (56, (.getfield 135, 3)), (59, (.bipush 30, 2)), (61, (.invokestatic 510, 3)), (64, (.aload_n 0, 1)), (65, (.getfield 208, 3)), (68, (.aload_n 0, 1)), (69, (.getfield 138, 3)), (72, (.bipush 30, 2)), (74, (.invokestatic 510, 3)), (77, (.aload_n 0, 1)), (78, (.getfield 211, 3)), (81, (.aload_n 0, 1))]
theorem dh_187 : dchk cX12_undo dl_187 = true := by decide +kernel
theorem dX12_undo_39 : decode cX12_undo 39 = .ok (.getfield 202, 3) := dget dh_187 (k := 0) rfl
theorem dX12_undo_42 : decode cX12_undo 42 = .ok (.aload_n 0, 1) := dget dh_187 (k := 1) rfl
theorem dX12_undo_43 : decode cX12_undo 43 = .ok (.getfield 132, 3) := dget dh_187 (k := 2) rfl
theorem dX12_undo_46 : decode cX12_undo 46 = .ok (.bipush 30, 2) := dget dh_187 (k := 3) rfl
theorem dX12_undo_48 : decode cX12_undo 48 = .ok (.invokestatic 510, 3) := dget dh_187 (k := 4) rfl
theorem dX12_undo_51 : decode cX12_undo 51 = .ok (.aload_n 0, 1) := dget dh_187 (k := 5) rfl
theorem dX12_undo_52 : decode cX12_undo 52 = .ok (.getfield 205, 3) := dget dh_187 (k := 6) rfl
theorem dX12_undo_55 : decode cX12_undo 55 = .ok (.aload_n 0, 1) := dget dh_187 (k := 7) rfl
theorem dX12_undo_56 : decode cX12_undo 56 = .ok (.getfield 135, 3) := dget dh_187 (k := 8) rfl
theorem dX12_undo_59 : decode cX12_undo 59 = .ok (.bipush 30, 2) := dget dh_187 (k := 9) rfl
theorem dX12_undo_61 : decode cX12_undo 61 = .ok (.invokestatic 510, 3) := dget dh_187 (k := 10) rfl
theorem dX12_undo_64 : decode cX12_undo 64 = .ok (.aload_n 0, 1) := dget dh_187 (k := 11) rfl
theorem dX12_undo_65 : decode cX12_undo 65 = .ok (.getfield 208, 3) := dget dh_187 (k := 12) rfl
theorem dX12_undo_68 : decode cX12_undo 68 = .ok (.aload_n 0, 1) := dget dh_187 (k := 13) rfl
theorem dX12_undo_69 : decode cX12_undo 69 = .ok (.getfield 138, 3) := dget dh_187 (k := 14) rfl
theorem dX12_undo_72 : decode cX12_undo 72 = .ok (.bipush 30, 2) := dget dh_187 (k := 15) rfl
theorem dX12_undo_74 : decode cX12_undo 74 = .ok (.invokestatic 510, 3) := dget dh_187 (k := 16) rfl
theorem dX12_undo_77 : decode cX12_undo 77 = .ok (.aload_n 0, 1) := dget dh_187 (k := 17) rfl
theorem dX12_undo_78 : decode cX12_undo 78 = .ok (.getfield 211, 3) := dget dh_187 (k := 18) rfl
theorem dX12_undo_81 : decode cX12_undo 81 = .ok (.aload_n 0, 1) := dget dh_187 (k := 19) rfl
def dl_188 : List (Nat × (Instr × Nat)) := [(82, (.getfield 141, 3)), (85, (.bipush 30, 2)), (87, (.invokestatic 510, 3)), (90, (.aload_n 0, 1)), (91, (.getfield 214, 3)), (94, (.aload_n 0, 1)), (95, (.getfield 144, 3)), (98, (.bipush 30, 2)), (100, (.invokestatic 510, 3)), (103, (.aload_n 0, 1)), (104, (.getfield 217, 3)), (107, (.aload_n 0, 1)), (108, (.getfield 147, 3)), (111, (.bipush 30, 2)), (113, (.invokestatic 510, 3)), (116, (.aload_n 0, 1)), (117, (.getfield 220, 3)), (120, (.aload_n 0, 1)), (121, (.getfield 160, 3)), (124, (.bipush 6, 2))]
theorem dh_188 : dchk cX12_undo dl_188 = true := by decide +kernel
theorem dX12_undo_82 : decode cX12_undo 82 = .ok (.getfield 141, 3) := dget dh_188 (k := 0) rfl
theorem dX12_undo_85 : decode cX12_undo 85 = .ok (.bipush 30, 2) := dget dh_188 (k := 1) rfl
theorem dX12_undo_87 : decode cX12_undo 87 = .ok (.invokestatic 510, 3) := dget dh_188 (k := 2) rfl
theorem dX12_undo_90 : decode cX12_undo 90 = .ok (.aload_n 0, 1) := dget dh_188 (k := 3) rfl
theorem dX12_undo_91 : decode cX12_undo 91 = .ok (.getfield 214, 3) := dget dh_188 (k := 4) rfl
theorem dX12_undo_94 : decode cX12_undo 94 = .ok (.aload_n 0, 1) := dget dh_188 (k := 5) rfl
theorem dX12_undo_95 : decode cX12_undo 95 = .ok (.getfield 144, 3) := dget dh_188 (k := 6) rfl
theorem dX12_undo_98 : decode cX12_undo 98 = .ok (.bipush 30, 2) := dget dh_188 (k := 7) rfl
theorem dX12_undo_100 : decode cX12_undo 100 = .ok (.invokestatic 510, 3) := dget dh_188 (k := 8) rfl
theorem dX12_undo_103 : decode cX12_undo 103 = .ok (.aload_n 0, 1) := dget dh_188 (k := 9) rfl
theorem dX12_undo_104 : decode cX12_undo 104 = .ok (.getfield 217, 3) := dget dh_188 (k := 10) rfl
theorem dX12_undo_107 : decode cX12_undo 107 = .ok (.aload_n 0, 1) := dget dh_188 (k := 11) rfl
theorem dX12_undo_108 : decode cX12_undo 108 = .ok (.getfield 147, 3) := dget dh_188 (k := 12) rfl
theorem dX12_undo_111 : decode cX12_undo 111 = .ok (.bipush 30, 2) := dget dh_188 (k := 13) rfl
theorem dX12_undo_113 : decode cX12_undo 113 = .ok (.invokestatic 510, 3) := dget dh_188 (k := 14) rfl
theorem dX12_undo_116 : decode cX12_undo 116 = .ok (.aload_n 0, 1) := dget dh_188 (k := 15) rfl
theorem dX12_undo_117 : decode cX12_undo 117 = .ok (.getfield 220, 3) := dget dh_188 (k := 16) rfl
theorem dX12_undo_120 : decode cX12_undo 120 = .ok (.aload_n 0, 1) := dget dh_188 (k := 17) rfl
theorem dX12_undo_121 : decode cX12_undo 121 = .ok (.getfield 160, 3) := dget dh_188 (k := 18) rfl
theorem dX12_undo_124 : decode cX12_undo 124 = .ok (.bipush 6, 2) := dget dh_188 (k := 19) rfl
def dl_189 : List (Nat × (Instr × Nat)) := [(126, (.invokestatic 510, 3)), (129, (.aload_n 0, 1)), (130, (.getfield 223, 3)), (133, (.aload_n 0, 1)), (134, (.getfield 163, 3)), (137, (.bipush 6, 2)), (139, (.invokestatic 510, 3)), (142, (.iconst 0, 1)), (143, (.istore_n 1, 1)), (144, (.iload_n 1, 1)), (145, (.bipush 30, 2)), (147, (.if_icmp .ge 21, 3)), (150, (.aload_n 0, 1)), (151, (.getfield 150, 3)), (154, (.iload_n 1, 1)), (155, (.aload_n 0, 1)), (156, (.getfield 226, 3)), (159, (.iload_n 1, 1)), (160, (.baload, 1)), (161, (.bastore, 1))]
theorem dh_189 : dchk cX12_undo dl_189 = true := by decide +kernel
theorem dX12_undo_126 : decode cX12_undo 126 = .ok (.invokestatic 510, 3) := dget dh_189 (k := 0) rfl
theorem dX12_undo_129 : decode cX12_undo 129 = .ok (.aload_n 0, 1) := dget dh_189 (k := 1) rfl
theorem dX12_undo_130 : decode cX12_undo 130 = .ok (.getfield 223, 3) := dget dh_189 (k := 2) rfl
theorem dX12_undo_133 : decode cX12_undo 133 = .ok (.aload_n 0, 1) := dget dh_189 (k := 3) rfl
theorem dX12_undo_134 : decode cX12_undo 134 = .ok (.getfield 163, 3) := dget dh_189 (k := 4) rfl
theorem dX12_undo_137 : decode cX12_undo 137 = .ok (.bipush 6, 2) := dget dh_189 (k := 5) rfl
theorem dX12_undo_139 : decode cX12_undo 139 = .ok (.invokestatic 510, 3) := dget dh_189 (k := 6) rfl
theorem dX12_undo_142 : decode cX12_undo 142 = .ok (.iconst 0, 1) := dget dh_189 (k := 7) rfl
theorem dX12_undo_143 : decode cX12_undo 143 = .ok (.istore_n 1, 1) := dget dh_189 (k := 8) rfl
theorem dX12_undo_144 : decode cX12_undo 144 = .ok (.iload_n 1, 1) := dget dh_189 (k := 9) rfl
theorem dX12_undo_145 : decode cX12_undo 145 = .ok (.bipush 30, 2) := dget dh_189 (k := 10) rfl
theorem dX12_undo_147 : decode cX12_undo 147 = .ok (.if_icmp .ge 21, 3) := dget dh_189 (k := 11) rfl
theorem dX12_undo_150 : decode cX12_undo 150 = .ok (.aload_n 0, 1) := dget dh_189 (k := 12) rfl
theorem dX12_undo_151 : decode cX12_undo 151 = .ok (.getfield 150, 3) := dget dh_189 (k := 13) rfl
theorem dX12_undo_154 : decode cX12_undo 154 = .ok (.iload_n 1, 1) := dget dh_189 (k := 14) rfl
theorem dX12_undo_155 : decode cX12_undo 155 = .ok (.aload_n 0, 1) := dget dh_189 (k := 15) rfl
theorem dX12_undo_156 : decode cX12_undo 156 = .ok (.getfield 226, 3) := dget dh_189 (k := 16) rfl
theorem dX12_undo_159 : decode cX12_undo 159 = .ok (.iload_n 1, 1) := dget dh_189 (k := 17) rfl
theorem dX12_undo_160 : decode cX12_undo 160 = .ok (.baload, 1) := dget dh_189 (k := 18) rfl
theorem dX12_undo_161 : decode cX12_undo 161 = .ok (.bastore, 1) := dget dh_189 (k := 19) rfl
def dl_190 : List (Nat × (Instr × Nat)) := [(162, (.iinc 1 1, 3)), (165, (.goto (-21), 3)), (168, (.iconst 1, 1)), (169, (.ireturn, 1))]
theorem dh_190 : dchk cX12_undo dl_190 = true := by decide +kernel
theorem dX12_undo_162 : decode cX12_undo 162 = .ok (.iinc 1 1, 3) := dget dh_190 (k := 0) rfl
theorem dX12_undo_165 : decode cX12_undo 165 = .ok (.goto (-21), 3) := dget dh_190 (k := 1) rfl
theorem dX12_undo_168 : decode cX12_undo 168 = .ok (.iconst 1, 1) := dget dh_190 (k := 2) rfl
theorem dX12_undo_169 : decode cX12_undo 169 = .ok (.ireturn, 1) := dget dh_190 (k := 3) rfl
theorem mE_keep {i I : Nat → Int32} {r R : Nat → Nat → Int32} (h : mE i r) (hc : (i 51).toInt ≤ 30) (e0 : I 0 = i 0) (e31 : I 31 = i 31) (e51 : I 51 = i 51) (e79 : I 79 = i 51) (h81 : ∀ c, c < 30 → R 63 c = r 40 c) (h82 : ∀ c, c < 30 → R 64 c = r 41 c)
    (e5 : R 4 = r 4) (e11 : R 10 = r 10) (e15 : R 14 = r 14) (e38 : R 27 = r 27) (e39 : R 28 = r 28) (e40 : R 29 = r 29) (e41 : R 30 = r 30) (e42 : R 31 = r 31) (e52 : R 40 = r 40) (e53 : R 41 = r 41) : mE I R := by
  obtain ⟨a1, a2, a3, a4, a5⟩ := h
  refine ⟨by rw [e0, e5]; exact a1, by rw [e11, e15]; exact a2, by rw [e51, e52, e53, e11, e0]; exact a3, ?_, by rw [e31, e38, e39, e40, e41, e42]; exact a5⟩
  intro c hcc
  rw [e79] at hcc
  rw [h81 c (by omega), h82 c (by omega), e11, e0]
  exact a3 c hcc
theorem mE_undo {i I : Nat → Int32} {r R : Nat → Nat → Int32} (h : mE i r) (hc : (i 79).toInt ≤ 30) (e0 : I 0 = i 0) (e31 : I 31 = i 31) (e51 : I 51 = i 79) (e79 : I 79 = i 79) (h52 : ∀ c, c < 30 → R 40 c = r 63 c) (h53 : ∀ c, c < 30 → R 41 c = r 64 c)
    (e5 : R 4 = r 4) (e11 : R 10 = r 10) (e15 : R 14 = r 14) (e38 : R 27 = r 27) (e39 : R 28 = r 28) (e40 : R 29 = r 29) (e41 : R 30 = r 30) (e42 : R 31 = r 31) (e81 : R 63 = r 63) (e82 : R 64 = r 64) : mE I R := by
  obtain ⟨a1, a2, a3, a4, a5⟩ := h
  refine ⟨by rw [e0, e5]; exact a1, by rw [e11, e15]; exact a2, ?_, by rw [e79, e81, e82, e11, e0]; exact a4, by rw [e31, e38, e39, e40, e41, e42]; exact a5⟩
  intro c hcc
  rw [e51] at hcc
  rw [h52 c (by omega), h53 c (by omega), e11, e0]
  exact a4 c hcc
set_option maxHeartbeats 4000000 in
set_option maxRecDepth 100000 in
theorem c_X12_copies30 (l : Launch) (D : va_G) (cy : Nat → ClassId) (h1 h2 : Nat) (f g : Nat → Int32) (sz : Nat) : Met l yX12_copies (Cond.code yX12_copies cX12_copies 4 none :: gT) { frames := 1, cells := 0, slots := 0, locals := 24 } (va_Pc [.ref h1, .ref h2, .int 30] (rQ D cy [(h1, .inl (cy 0, 30, .inl f)), (h2, .inl (cy 0, 30, .inl g))] sz)) (va_Qv (fun u : Nat → Int32 => ∀ t, u t = if t < 30 then f t else g t) (fun (u : Nat → Int32) t => va_P D vwCl [(h1, .inl (cy 0, 30, .inl f)), (h2, .inl (cy 0, 30, .inl u))] t.heap ∧ va_K D vwCl (vT cy) t ∧ va_D (va_A [(h1, .inl (cy 0, 30, .inl f)), (h2, .inl (cy 0, 30, .inl g))] sz) [(h1, .inl (cy 0, 30, .inl f)), (h2, .inl (cy 0, 30, .inl u))]) (va_A [(h1, .inl (cy 0, 30, .inl f)), (h2, .inl (cy 0, 30, .inl g))] sz)) 0 0 (va_A [(h1, .inl (cy 0, 30, .inl f)), (h2, .inl (cy 0, 30, .inl g))] sz) := by
  refine Met.ofQ (cc := cX12_copies) (maxL := 4) (ret := none) (by decide) rfl ?_
  intro p e s m args below meth c s₁ B hml hv Q hQ
  obtain ⟨rfl, hsz, hP, hK, hD0⟩ := hv
  have hx := B.exec
  have hb := B.bytes
  have hr := B.returns
  have hlocks := B.notSynchronized
  have hT : ∀ w ∈ gT, w.before _ s = true := fun w h => atoms_spec (ws := (Cond.code yX12_copies cX12_copies 4 none :: gT)) B.pre w (List.mem_cons_of_mem _ h)
  have hown : s.vm.findClass RX12 = some m.cls := findClass_of_methodNamed B.named
  subst hsz
  have hD := hD0.self (sz := s.heap.size)
  generalize hAe : va_A [(h1, .inl (cy 0, 30, .inl f)), (h2, .inl (cy 0, 30, .inl g))] s.heap.size = A at hD hQ
  have hA : ∀ q : Nat, s.heap.size ≤ q → A q := fun q h => by rw [← hAe]; exact Or.inr h
  have hS : va_S A s.heap s.heap [] := va_S.rf
  have hl := lv_entry ([.ref h1, .ref h2, .int 30]) (n := 4) (Nat.le_of_ble_eq_true rfl)
  rw [lg_entry_eq]
  generalize (lg_sl ([.ref h1, .ref h2, .int 30]) ++ List.replicate (4 - (lg_sl ([.ref h1, .ref h2, .int 30])).length) Slot.unset).toArray = ls at hl ⊢
  have hl : lv_has ls 4 [(0, .ref h1), (1, .ref h2), (2, .int 30)] := hl
  refine lv_iconst (v := 0) hx hb dX12_copies_0 (by decide) ?_
  refine lv_istore_n (lv' := [(3, .int 0), (0, .ref h1), (1, .ref h2), (2, .int 30)]) hx hb dX12_copies_1 rfl hl (by decide) rfl (fun ls hl => ?_)
  have loop_1 : ∀ (n j1 : Nat) (x1 : Int32) (g1_1 : Nat → Int32) (H : Heap) (locs : List Loc) (ls : Array Slot), j1 + n = 30 → x1 = nI j1 → (∀ t, g1_1 t = if t < j1 then f t else g t) → va_P D vwCl [(h1, .inl (cy 0, 30, .inl f)), (h2, .inl (cy 0, 30, .inl g1_1))] H → va_D A [(h1, .inl (cy 0, 30, .inl f)), (h2, .inl (cy 0, 30, .inl g1_1))] → va_S A s.heap H locs → lv_has ls 4 [(3, .int x1), (0, .ref h1), (1, .ref h2), (2, .int 30)] → W p l e ({ frames := 1, cells := 0, slots := 0, locals := 24 } : Room) s m ([.ref h1, .ref h2, .int 30] : List Value).toArray below meth c H locs 0 0 Q (F0 m 2 ls []) := by
    intro n
    induction n with
    | zero =>
      intro j1 x1 g1_1 H locs ls hj1 hq1 hi1 hP hD hS hl
      obtain rfl : j1 = 30 := by omega
      obtain rfl : x1 = 30 := hq1.trans (by decide)
      refine lv_iload_n hx hb dX12_copies_2 rfl (lv_at hl 0 rfl) ?_
      refine lv_iload_n hx hb dX12_copies_3 rfl (lv_at hl 3 rfl) ?_
      refine lv_icmp_ge (tgt := 19) hx hb dX12_copies_4 (by decide) (fun c_2 => ?_) (fun c_2 => absurd (by decide) c_2)
      subst hQ
      exact W.vret hx hb hr (fun t ht hW => ⟨⟨g1_1, rfl, hi1, by rw [ht]; exact hP, va_K.moved hW.alike hK, hD⟩, hS.F ht⟩) hS.2.2 dX12_copies_19
    | succ n ih1 =>
      intro j1 x1 g1_1 H locs ls hj1 hq1 hi1 hP hD hS hl
      have hx1 : x1.toInt = (j1 : Int) := by rw [hq1]; exact nI_toInt (by omega)
      have hcx1 : x1.toNatClampNeg = j1 := by rw [hq1]; exact nI_clamp (by omega)
      refine lv_iload_n hx hb dX12_copies_2 rfl (lv_at hl 0 rfl) ?_
      refine lv_iload_n hx hb dX12_copies_3 rfl (lv_at hl 3 rfl) ?_
      refine lv_icmp_ge (tgt := 19) hx hb dX12_copies_4 (by decide) (fun c_3 => by have c_3 : 30 ≤ x1.toInt := b_le c_3; omega) (fun c_3 => ?_)
      have c_3 : x1.toInt < 30 := b_nle c_3
      refine lv_aload_n hx hb dX12_copies_7 rfl (lv_at hl 2 rfl) ?_
      refine lv_iload_n hx hb dX12_copies_8 rfl (lv_at hl 0 rfl) ?_
      refine lv_aload_n hx hb dX12_copies_9 rfl (lv_at hl 1 rfl) ?_
      refine lv_iload_n hx hb dX12_copies_10 rfl (lv_at hl 0 rfl) ?_
      refine va_iald hx hb hK hP 0 0 rfl rfl (vp_inI (by omega) (by omega)) dX12_copies_11 ?_
      refine lv_topi (fun v_4 ev_4 => ?_)
      refine va_iast hx hb hK hP hD hS 1 0 rfl rfl (vp_inI (by omega) (by omega)) dX12_copies_12 (fun H locs hP hD hS => ?_)
      have hP : va_P D vwCl [(h1, .inl (cy 0, 30, .inl f)), (h2, .inl (cy 0, 30, .inl (upd g1_1 x1.toNatClampNeg v_4)))] H := hP
      have hD : va_D A [(h1, .inl (cy 0, 30, .inl f)), (h2, .inl (cy 0, 30, .inl (upd g1_1 x1.toNatClampNeg v_4)))] := hD
      obtain ⟨x_5, ex_5⟩ : ∃ y : Int32, y = x1 + 1 := ⟨_, rfl⟩
      refine lv_iinc (v := x_5) (lv' := [(3, .int x_5), (0, .ref h1), (1, .ref h2), (2, .int 30)]) hx hb dX12_copies_13 hl (k := 0) rfl (by rw [ex_5]; rfl) (by decide) rfl (fun ls hl => ?_)
      refine lv_goto (tgt := 2) hx hb dX12_copies_16 (by decide) ?_
      have hst_6 : ∀ t, (upd g1_1 x1.toNatClampNeg v_4) t = if t < j1 + 1 then f t else g t := by
        intro t
        rw [hcx1]; unfold upd
        by_cases h9 : t = j1
        · rw [if_pos h9, if_pos (by omega), ev_4, hcx1, h9]
        · rw [if_neg h9, hi1]
          by_cases h8 : t < j1
          · rw [if_pos h8, if_pos (by omega)]
          · rw [if_neg h8, if_neg (by omega)]
      exact ih1 (j1 + 1) x_5 (upd g1_1 x1.toNatClampNeg v_4) _ _ _ (by omega) (by rw [ex_5, hq1]; exact nI_1 j1) hst_6 hP hD hS (lv_sub hl [0, 1, 2, 3] rfl)
  exact loop_1 30 0 0 g _ _ _ (by omega) rfl (fun t => rfl) hP hD hS hl
set_option maxHeartbeats 4000000 in
set_option maxRecDepth 100000 in
theorem c_X12_copies6 (l : Launch) (D : va_G) (cy : Nat → ClassId) (h1 h2 : Nat) (f g : Nat → Int32) (sz : Nat) : Met l yX12_copies (Cond.code yX12_copies cX12_copies 4 none :: gT) { frames := 1, cells := 0, slots := 0, locals := 24 } (va_Pc [.ref h1, .ref h2, .int 6] (rQ D cy [(h1, .inl (cy 0, 6, .inl f)), (h2, .inl (cy 0, 6, .inl g))] sz)) (va_Qv (fun u : Nat → Int32 => ∀ t, u t = if t < 6 then f t else g t) (fun (u : Nat → Int32) t => va_P D vwCl [(h1, .inl (cy 0, 6, .inl f)), (h2, .inl (cy 0, 6, .inl u))] t.heap ∧ va_K D vwCl (vT cy) t ∧ va_D (va_A [(h1, .inl (cy 0, 6, .inl f)), (h2, .inl (cy 0, 6, .inl g))] sz) [(h1, .inl (cy 0, 6, .inl f)), (h2, .inl (cy 0, 6, .inl u))]) (va_A [(h1, .inl (cy 0, 6, .inl f)), (h2, .inl (cy 0, 6, .inl g))] sz)) 0 0 (va_A [(h1, .inl (cy 0, 6, .inl f)), (h2, .inl (cy 0, 6, .inl g))] sz) := by
  refine Met.ofQ (cc := cX12_copies) (maxL := 4) (ret := none) (by decide) rfl ?_
  intro p e s m args below meth c s₁ B hml hv Q hQ
  obtain ⟨rfl, hsz, hP, hK, hD0⟩ := hv
  have hx := B.exec
  have hb := B.bytes
  have hr := B.returns
  have hlocks := B.notSynchronized
  have hT : ∀ w ∈ gT, w.before _ s = true := fun w h => atoms_spec (ws := (Cond.code yX12_copies cX12_copies 4 none :: gT)) B.pre w (List.mem_cons_of_mem _ h)
  have hown : s.vm.findClass RX12 = some m.cls := findClass_of_methodNamed B.named
  subst hsz
  have hD := hD0.self (sz := s.heap.size)
  generalize hAe : va_A [(h1, .inl (cy 0, 6, .inl f)), (h2, .inl (cy 0, 6, .inl g))] s.heap.size = A at hD hQ
  have hA : ∀ q : Nat, s.heap.size ≤ q → A q := fun q h => by rw [← hAe]; exact Or.inr h
  have hS : va_S A s.heap s.heap [] := va_S.rf
  have hl := lv_entry ([.ref h1, .ref h2, .int 6]) (n := 4) (Nat.le_of_ble_eq_true rfl)
  rw [lg_entry_eq]
  generalize (lg_sl ([.ref h1, .ref h2, .int 6]) ++ List.replicate (4 - (lg_sl ([.ref h1, .ref h2, .int 6])).length) Slot.unset).toArray = ls at hl ⊢
  have hl : lv_has ls 4 [(0, .ref h1), (1, .ref h2), (2, .int 6)] := hl
  refine lv_iconst (v := 0) hx hb dX12_copies_0 (by decide) ?_
  refine lv_istore_n (lv' := [(3, .int 0), (0, .ref h1), (1, .ref h2), (2, .int 6)]) hx hb dX12_copies_1 rfl hl (by decide) rfl (fun ls hl => ?_)
  have loop_1 : ∀ (n j1 : Nat) (x1 : Int32) (g1_1 : Nat → Int32) (H : Heap) (locs : List Loc) (ls : Array Slot), j1 + n = 6 → x1 = nI j1 → (∀ t, g1_1 t = if t < j1 then f t else g t) → va_P D vwCl [(h1, .inl (cy 0, 6, .inl f)), (h2, .inl (cy 0, 6, .inl g1_1))] H → va_D A [(h1, .inl (cy 0, 6, .inl f)), (h2, .inl (cy 0, 6, .inl g1_1))] → va_S A s.heap H locs → lv_has ls 4 [(3, .int x1), (0, .ref h1), (1, .ref h2), (2, .int 6)] → W p l e ({ frames := 1, cells := 0, slots := 0, locals := 24 } : Room) s m ([.ref h1, .ref h2, .int 6] : List Value).toArray below meth c H locs 0 0 Q (F0 m 2 ls []) := by
    intro n
    induction n with
    | zero =>
      intro j1 x1 g1_1 H locs ls hj1 hq1 hi1 hP hD hS hl
      obtain rfl : j1 = 6 := by omega
      obtain rfl : x1 = 6 := hq1.trans (by decide)
      refine lv_iload_n hx hb dX12_copies_2 rfl (lv_at hl 0 rfl) ?_
      refine lv_iload_n hx hb dX12_copies_3 rfl (lv_at hl 3 rfl) ?_
      refine lv_icmp_ge (tgt := 19) hx hb dX12_copies_4 (by decide) (fun c_2 => ?_) (fun c_2 => absurd (by decide) c_2)
      subst hQ
      exact W.vret hx hb hr (fun t ht hW => ⟨⟨g1_1, rfl, hi1, by rw [ht]; exact hP, va_K.moved hW.alike hK, hD⟩, hS.F ht⟩) hS.2.2 dX12_copies_19
    | succ n ih1 =>
      intro j1 x1 g1_1 H locs ls hj1 hq1 hi1 hP hD hS hl
      have hx1 : x1.toInt = (j1 : Int) := by rw [hq1]; exact nI_toInt (by omega)
      have hcx1 : x1.toNatClampNeg = j1 := by rw [hq1]; exact nI_clamp (by omega)
      refine lv_iload_n hx hb dX12_copies_2 rfl (lv_at hl 0 rfl) ?_
      refine lv_iload_n hx hb dX12_copies_3 rfl (lv_at hl 3 rfl) ?_
      refine lv_icmp_ge (tgt := 19) hx hb dX12_copies_4 (by decide) (fun c_3 => by have c_3 : 6 ≤ x1.toInt := b_le c_3; omega) (fun c_3 => ?_)
      have c_3 : x1.toInt < 6 := b_nle c_3
      refine lv_aload_n hx hb dX12_copies_7 rfl (lv_at hl 2 rfl) ?_
      refine lv_iload_n hx hb dX12_copies_8 rfl (lv_at hl 0 rfl) ?_
      refine lv_aload_n hx hb dX12_copies_9 rfl (lv_at hl 1 rfl) ?_
      refine lv_iload_n hx hb dX12_copies_10 rfl (lv_at hl 0 rfl) ?_
      refine va_iald hx hb hK hP 0 0 rfl rfl (vp_inI (by omega) (by omega)) dX12_copies_11 ?_
      refine lv_topi (fun v_4 ev_4 => ?_)
      refine va_iast hx hb hK hP hD hS 1 0 rfl rfl (vp_inI (by omega) (by omega)) dX12_copies_12 (fun H locs hP hD hS => ?_)
      have hP : va_P D vwCl [(h1, .inl (cy 0, 6, .inl f)), (h2, .inl (cy 0, 6, .inl (upd g1_1 x1.toNatClampNeg v_4)))] H := hP
      have hD : va_D A [(h1, .inl (cy 0, 6, .inl f)), (h2, .inl (cy 0, 6, .inl (upd g1_1 x1.toNatClampNeg v_4)))] := hD
      obtain ⟨x_5, ex_5⟩ : ∃ y : Int32, y = x1 + 1 := ⟨_, rfl⟩
      refine lv_iinc (v := x_5) (lv' := [(3, .int x_5), (0, .ref h1), (1, .ref h2), (2, .int 6)]) hx hb dX12_copies_13 hl (k := 0) rfl (by rw [ex_5]; rfl) (by decide) rfl (fun ls hl => ?_)
      refine lv_goto (tgt := 2) hx hb dX12_copies_16 (by decide) ?_
      have hst_6 : ∀ t, (upd g1_1 x1.toNatClampNeg v_4) t = if t < j1 + 1 then f t else g t := by
        intro t
        rw [hcx1]; unfold upd
        by_cases h9 : t = j1
        · rw [if_pos h9, if_pos (by omega), ev_4, hcx1, h9]
        · rw [if_neg h9, hi1]
          by_cases h8 : t < j1
          · rw [if_pos h8, if_pos (by omega)]
          · rw [if_neg h8, if_neg (by omega)]
      exact ih1 (j1 + 1) x_5 (upd g1_1 x1.toNatClampNeg v_4) _ _ _ (by omega) (by rw [ex_5, hq1]; exact nI_1 j1) hst_6 hP hD hS (lv_sub hl [0, 1, 2, 3] rfl)
  exact loop_1 6 0 0 g _ _ _ (by omega) rfl (fun t => rfl) hP hD hS hl
set_option maxHeartbeats 4000000 in
set_option maxRecDepth 100000 in
theorem c_X12_keep (l : Launch) (D : va_G) (cy : Nat → ClassId) (a : Nat → Nat) (i : Nat → Int32) (r : Nat → Nat → Int32) (rl : Nat → Int64) (sz : Nat) (hRi : mRi i) (hRr : mRr r) (hE : mE i r) : Met l yX12_keep (Cond.code yX12_keep cX12_keep 2 (some .int) :: gT) { frames := 2, cells := 0, slots := 0, locals := 47 } (va_Pc [.ref (a 0)] (rQ D cy (mW cy a i r rl) sz)) (va_Qi (fun (z : Int32) (u : (Nat → Int32) × (Nat → Nat → Int32)) => mRi u.1 ∧ mRr u.2 ∧ mEi [78, 79, 80] i u.1 ∧ mEr [63, 64, 65, 66, 67, 68, 69, 70, 71, 72] r u.2 ∧ (mE u.1 u.2)) (fun (u : (Nat → Int32) × (Nat → Nat → Int32)) t => va_P D vwCl (mW cy a u.1 u.2 rl) t.heap ∧ va_K D vwCl (vT cy) t ∧ va_D (va_A (mW cy a i r rl) sz) (mW cy a u.1 u.2 rl)) (va_A (mW cy a i r rl) sz)) 0 0 (va_A (mW cy a i r rl) sz) := by
  refine Met.ofQ (cc := cX12_keep) (maxL := 2) (ret := (some .int)) (by decide) rfl ?_
  intro p e s m args below meth c s₁ B hml hv Q hQ
  obtain ⟨rfl, hsz, hP, hK, hD0⟩ := hv
  have hx := B.exec
  have hb := B.bytes
  have hr := B.returns
  have hlocks := B.notSynchronized
  have hT : ∀ w ∈ gT, w.before _ s = true := fun w h => atoms_spec (ws := (Cond.code yX12_keep cX12_keep 2 (some .int) :: gT)) B.pre w (List.mem_cons_of_mem _ h)
  have hown : s.vm.findClass RX12 = some m.cls := findClass_of_methodNamed B.named
  subst hsz
  have hD := hD0.self (sz := s.heap.size)
  generalize hAe : va_A (mW cy a i r rl) s.heap.size = A at hD hQ
  have hA : ∀ q : Nat, s.heap.size ≤ q → A q := fun q h => by rw [← hAe]; exact Or.inr h
  have hS : va_S A s.heap s.heap [] := va_S.rf
  have hl := lv_entry ([.ref (a 0)]) (n := 2) (Nat.le_of_ble_eq_true rfl)
  rw [lg_entry_eq]
  generalize (lg_sl ([.ref (a 0)]) ++ List.replicate (2 - (lg_sl ([.ref (a 0)])).length) Slot.unset).toArray = ls at hl ⊢
  have hl : lv_has ls 2 [(0, .ref (a 0))] := hl
  have hEi : mEi [78, 79, 80] i i := Ei_rf
  have hEr : mEr [63, 64, 65, 66, 67, 68, 69, 70, 71, 72] r r := Er_rf
  have hRi0 := hRi
  refine lv_aload_n hx hb dX12_keep_0 rfl (lv_at hl 0 rfl) ?_
  refine lv_iconst (v := 1) hx hb dX12_keep_1 (by decide) ?_
  refine va_put (D := D) (ci := 12) (v := .int 1) (ty := .boolean) (C := RX12) (T := TX12) (N := 91) hx hb hT iX12 tyX12 tyX12_ok nmX12 hown hK hP hD hS 0 rfl rfl 78 (by decide) (hT _ t_232) (fun _ h9 => h9) rfl (by decide +kernel) rfl rfl (Nat.le_of_ble_eq_true rfl) dX12_keep_2 (fun H locs hP hD hS => ?_)
  rw [mP78] at hP hD
  have hRi := Ri_upd hRi 78 1 ⟨by decide, by decide⟩
  have hEi := Ei_upd hEi 78 1 (by decide)
  refine lv_aload_n hx hb dX12_keep_5 rfl (lv_at hl 0 rfl) ?_
  refine lv_aload_n hx hb dX12_keep_6 rfl (lv_at hl 0 rfl) ?_
  refine va_get (D := D) (ci := 12) (v := .int (i 51)) (C := RX12) (T := TX12) (N := 91) hx hb hT iX12 hown hK hP 0 rfl rfl 51 (by decide) (hT _ t_11) (fun _ h9 => h9) rfl dX12_keep_7 ?_
  have hg_1 : 0 ≤ (i 51).toInt ∧ (i 51).toInt ≤ 30 := hRi 51
  refine va_put (D := D) (ci := 12) (v := .int (i 51)) (ty := .int) (C := RX12) (T := TX12) (N := 91) hx hb hT iX12 tyX12 tyX12_ok nmX12 hown hK hP hD hS 0 rfl rfl 79 (by decide) (hT _ t_233) (fun _ h9 => h9) rfl (by decide +kernel) rfl rfl (Nat.le_of_ble_eq_true rfl) dX12_keep_10 (fun H locs hP hD hS => ?_)
  rw [mP79] at hP hD
  have hRi := Ri_upd hRi 79 (i 51) ⟨by show (0 : Int) ≤ (i 51).toInt; omega, by show (i 51).toInt ≤ (30 : Int); omega⟩
  have hEi := Ei_upd hEi 79 (i 51) (by decide)
  refine lv_aload_n hx hb dX12_keep_13 rfl (lv_at hl 0 rfl) ?_
  refine lv_aload_n hx hb dX12_keep_14 rfl (lv_at hl 0 rfl) ?_
  refine va_get (D := D) (ci := 12) (v := .int (i 1)) (C := RX12) (T := TX12) (N := 91) hx hb hT iX12 hown hK hP 0 rfl rfl 1 (by decide) (hT _ t_181) (fun _ h9 => h9) rfl dX12_keep_15 ?_
  have hg_2 : 0 ≤ (i 1).toInt ∧ (i 1).toInt ≤ 65535 := hRi 1
  refine va_put (D := D) (ci := 12) (v := .int (i 1)) (ty := .int) (C := RX12) (T := TX12) (N := 91) hx hb hT iX12 tyX12 tyX12_ok nmX12 hown hK hP hD hS 0 rfl rfl 80 (by decide) (hT _ t_234) (fun _ h9 => h9) rfl (by decide +kernel) rfl rfl (Nat.le_of_ble_eq_true rfl) dX12_keep_18 (fun H locs hP hD hS => ?_)
  rw [mP80] at hP hD
  have hRi := Ri_upd hRi 80 (i 1) ⟨by show (0 : Int) ≤ (i 1).toInt; omega, by show (i 1).toInt ≤ (65535 : Int); omega⟩
  have hEi := Ei_upd hEi 80 (i 1) (by decide)
  refine lv_aload_n hx hb dX12_keep_21 rfl (lv_at hl 0 rfl) ?_
  refine va_get (D := D) (ci := 12) (v := .ref (a 40)) (C := RX12) (T := TX12) (N := 91) hx hb hT iX12 hown hK hP 0 rfl rfl 52 (by decide) (hT _ t_75) (fun _ h9 => h9) rfl dX12_keep_22 ?_
  refine lv_aload_n hx hb dX12_keep_25 rfl (lv_at hl 0 rfl) ?_
  refine va_get (D := D) (ci := 12) (v := .ref (a 63)) (C := RX12) (T := TX12) (N := 91) hx hb hT iX12 hown hK hP 0 rfl rfl 81 (by decide) (hT _ t_235) (fun _ h9 => h9) rfl dX12_keep_26 ?_
  refine lv_bipush (v := 30) hx hb dX12_keep_29 (by decide) ?_
  have hP_3 := hP.sub (ws' := [(a 40, .inl (cy 0, 30, .inl (r 40))), (a 63, .inl (cy 0, 30, .inl (r 63)))]) [40, 63] rfl
  have hD_5 := hD.sub (ws' := [(a 40, .inl (cy 0, 30, .inl (r 40))), (a 63, .inl (cy 0, 30, .inl (r 63)))]) [40, 63] (by decide) rfl
  have hF_4 := va_free (wc := [(a 40, .inl (cy 0, 30, .inl (r 40))), (a 63, .inl (cy 0, 30, .inl (r 63)))]) hD hS hA [40, 63] rfl
  refine va_callv (va_runS (As := [.ref (a 40), .ref (a 63), .int 30]) (rest := []) ⟨hx, hb, hml, hown, hT⟩ (c_X12_copies30 l D cy (a 40) (a 63) (r 40) (r 63) _) (va_cwS 3 hT (gS t_236 t_237 t_238 t_6) rfl rfl rfl (by decide +kernel) ⟨Nat.le_of_ble_eq_true rfl, Nat.le_of_ble_eq_true rfl⟩) (rQ_s hP_3 hK hD_5) rfl rfl hl.1 rfl (lv_room (Nat.le_of_ble_eq_true rfl)) dX12_keep_31 ⟨Nat.le_of_ble_eq_true rfl, Nat.le_of_ble_eq_true rfl⟩) hS (fun q _ h => hF_4 q h) hF_4 (fun u_7 t H1 locs ht hvm hr_6 hB hz1 hk1 hS => ?_)
  obtain ⟨hP1, hK1, hD1⟩ := hB
  rw [ht] at hP1
  obtain ⟨hP, hD⟩ := rj (wc := [(a 40, .inl (cy 0, 30, .inl (r 40))), (a 63, .inl (cy 0, 30, .inl (r 63)))]) (w1 := [(a 40, .inl (cy 0, 30, .inl (r 40))), (a 63, .inl (cy 0, 30, .inl u_7))]) hP hD [40, 63] rfl rfl hk1 hP1
  have hP : va_P D vwCl (mW cy a (upd (upd (upd i 78 1) 79 (i 51)) 80 (i 1)) (va_up r 63 u_7) rl) H1 := hP
  have hD : va_D A (mW cy a (upd (upd (upd i 78 1) 79 (i 51)) 80 (i 1)) (va_up r 63 u_7) rl) := hD
  have hRr : mRr (va_up r 63 u_7) := Rr_up hRr 63 u_7 (fun j => (hr_6 j).symm ▸ (show 0 ≤ (if j < 30 then (r 40) j else (r 63) j).toInt ∧ (if j < 30 then (r 40) j else (r 63) j).toInt ≤ 5 from (by split; exact hRr 40 j; exact hRr 63 j)))
  have hEr : mEr [63, 64, 65, 66, 67, 68, 69, 70, 71, 72] _ (va_up r 63 u_7) := Er_up hEr 63 _ (by decide)
  refine lv_aload_n hx hb dX12_keep_34 rfl (lv_at hl 0 rfl) ?_
  refine va_get (D := D) (ci := 12) (v := .ref (a 41)) (C := RX12) (T := TX12) (N := 91) hx hb hT iX12 hown hK hP 0 rfl rfl 53 (by decide) (hT _ t_76) (fun _ h9 => h9) rfl dX12_keep_35 ?_
  refine lv_aload_n hx hb dX12_keep_38 rfl (lv_at hl 0 rfl) ?_
  refine va_get (D := D) (ci := 12) (v := .ref (a 64)) (C := RX12) (T := TX12) (N := 91) hx hb hT iX12 hown hK hP 0 rfl rfl 82 (by decide) (hT _ t_239) (fun _ h9 => h9) rfl dX12_keep_39 ?_
  refine lv_bipush (v := 30) hx hb dX12_keep_42 (by decide) ?_
  have hP_8 := hP.sub (ws' := [(a 41, .inl (cy 0, 30, .inl ((va_up r 63 u_7) 41))), (a 64, .inl (cy 0, 30, .inl ((va_up r 63 u_7) 64)))]) [41, 64] rfl
  have hD_10 := hD.sub (ws' := [(a 41, .inl (cy 0, 30, .inl ((va_up r 63 u_7) 41))), (a 64, .inl (cy 0, 30, .inl ((va_up r 63 u_7) 64)))]) [41, 64] (by decide) rfl
  have hF_9 := va_free (wc := [(a 41, .inl (cy 0, 30, .inl ((va_up r 63 u_7) 41))), (a 64, .inl (cy 0, 30, .inl ((va_up r 63 u_7) 64)))]) hD hS hA [41, 64] rfl
  refine va_callv (va_runS (As := [.ref (a 41), .ref (a 64), .int 30]) (rest := []) ⟨hx, hb, hml, hown, hT⟩ (c_X12_copies30 l D cy (a 41) (a 64) ((va_up r 63 u_7) 41) ((va_up r 63 u_7) 64) _) (va_cwS 3 hT (gS t_236 t_237 t_238 t_6) rfl rfl rfl (by decide +kernel) ⟨Nat.le_of_ble_eq_true rfl, Nat.le_of_ble_eq_true rfl⟩) (rQ_s hP_8 hK hD_10) rfl rfl hl.1 rfl (lv_room (Nat.le_of_ble_eq_true rfl)) dX12_keep_44 ⟨Nat.le_of_ble_eq_true rfl, Nat.le_of_ble_eq_true rfl⟩) hS (fun q _ h => hF_9 q h) hF_9 (fun u_12 t H1 locs ht hvm hr_11 hB hz1 hk1 hS => ?_)
  obtain ⟨hP1, hK1, hD1⟩ := hB
  rw [ht] at hP1
  obtain ⟨hP, hD⟩ := rj (wc := [(a 41, .inl (cy 0, 30, .inl ((va_up r 63 u_7) 41))), (a 64, .inl (cy 0, 30, .inl ((va_up r 63 u_7) 64)))]) (w1 := [(a 41, .inl (cy 0, 30, .inl ((va_up r 63 u_7) 41))), (a 64, .inl (cy 0, 30, .inl u_12))]) hP hD [41, 64] rfl rfl hk1 hP1
  have hP : va_P D vwCl (mW cy a (upd (upd (upd i 78 1) 79 (i 51)) 80 (i 1)) (va_up (va_up r 63 u_7) 64 u_12) rl) H1 := hP
  have hD : va_D A (mW cy a (upd (upd (upd i 78 1) 79 (i 51)) 80 (i 1)) (va_up (va_up r 63 u_7) 64 u_12) rl) := hD
  have hRr : mRr (va_up (va_up r 63 u_7) 64 u_12) := Rr_up hRr 64 u_12 (fun j => (hr_11 j).symm ▸ (show 0 ≤ (if j < 30 then ((va_up r 63 u_7) 41) j else ((va_up r 63 u_7) 64) j).toInt ∧ (if j < 30 then ((va_up r 63 u_7) 41) j else ((va_up r 63 u_7) 64) j).toInt ≤ 19 from (by split; exact hRr 41 j; exact hRr 64 j)))
  have hEr : mEr [63, 64, 65, 66, 67, 68, 69, 70, 71, 72] _ (va_up (va_up r 63 u_7) 64 u_12) := Er_up hEr 64 _ (by decide)
  refine lv_aload_n hx hb dX12_keep_47 rfl (lv_at hl 0 rfl) ?_
  refine va_get (D := D) (ci := 12) (v := .ref (a 42)) (C := RX12) (T := TX12) (N := 91) hx hb hT iX12 hown hK hP 0 rfl rfl 54 (by decide) (hT _ t_81) (fun _ h9 => h9) rfl dX12_keep_48 ?_
  refine lv_aload_n hx hb dX12_keep_51 rfl (lv_at hl 0 rfl) ?_
  refine va_get (D := D) (ci := 12) (v := .ref (a 65)) (C := RX12) (T := TX12) (N := 91) hx hb hT iX12 hown hK hP 0 rfl rfl 83 (by decide) (hT _ t_240) (fun _ h9 => h9) rfl dX12_keep_52 ?_
  refine lv_bipush (v := 30) hx hb dX12_keep_55 (by decide) ?_
  have hP_13 := hP.sub (ws' := [(a 42, .inl (cy 0, 30, .inl ((va_up (va_up r 63 u_7) 64 u_12) 42))), (a 65, .inl (cy 0, 30, .inl ((va_up (va_up r 63 u_7) 64 u_12) 65)))]) [42, 65] rfl
  have hD_15 := hD.sub (ws' := [(a 42, .inl (cy 0, 30, .inl ((va_up (va_up r 63 u_7) 64 u_12) 42))), (a 65, .inl (cy 0, 30, .inl ((va_up (va_up r 63 u_7) 64 u_12) 65)))]) [42, 65] (by decide) rfl
  have hF_14 := va_free (wc := [(a 42, .inl (cy 0, 30, .inl ((va_up (va_up r 63 u_7) 64 u_12) 42))), (a 65, .inl (cy 0, 30, .inl ((va_up (va_up r 63 u_7) 64 u_12) 65)))]) hD hS hA [42, 65] rfl
  refine va_callv (va_runS (As := [.ref (a 42), .ref (a 65), .int 30]) (rest := []) ⟨hx, hb, hml, hown, hT⟩ (c_X12_copies30 l D cy (a 42) (a 65) ((va_up (va_up r 63 u_7) 64 u_12) 42) ((va_up (va_up r 63 u_7) 64 u_12) 65) _) (va_cwS 3 hT (gS t_236 t_237 t_238 t_6) rfl rfl rfl (by decide +kernel) ⟨Nat.le_of_ble_eq_true rfl, Nat.le_of_ble_eq_true rfl⟩) (rQ_s hP_13 hK hD_15) rfl rfl hl.1 rfl (lv_room (Nat.le_of_ble_eq_true rfl)) dX12_keep_57 ⟨Nat.le_of_ble_eq_true rfl, Nat.le_of_ble_eq_true rfl⟩) hS (fun q _ h => hF_14 q h) hF_14 (fun u_17 t H1 locs ht hvm hr_16 hB hz1 hk1 hS => ?_)
  obtain ⟨hP1, hK1, hD1⟩ := hB
  rw [ht] at hP1
  obtain ⟨hP, hD⟩ := rj (wc := [(a 42, .inl (cy 0, 30, .inl ((va_up (va_up r 63 u_7) 64 u_12) 42))), (a 65, .inl (cy 0, 30, .inl ((va_up (va_up r 63 u_7) 64 u_12) 65)))]) (w1 := [(a 42, .inl (cy 0, 30, .inl ((va_up (va_up r 63 u_7) 64 u_12) 42))), (a 65, .inl (cy 0, 30, .inl u_17))]) hP hD [42, 65] rfl rfl hk1 hP1
  have hP : va_P D vwCl (mW cy a (upd (upd (upd i 78 1) 79 (i 51)) 80 (i 1)) (va_up (va_up (va_up r 63 u_7) 64 u_12) 65 u_17) rl) H1 := hP
  have hD : va_D A (mW cy a (upd (upd (upd i 78 1) 79 (i 51)) 80 (i 1)) (va_up (va_up (va_up r 63 u_7) 64 u_12) 65 u_17) rl) := hD
  have hRr : mRr (va_up (va_up (va_up r 63 u_7) 64 u_12) 65 u_17) := Rr_up hRr 65 u_17 (fun j => (hr_16 j).symm ▸ (show 0 ≤ (if j < 30 then ((va_up (va_up r 63 u_7) 64 u_12) 42) j else ((va_up (va_up r 63 u_7) 64 u_12) 65) j).toInt ∧ (if j < 30 then ((va_up (va_up r 63 u_7) 64 u_12) 42) j else ((va_up (va_up r 63 u_7) 64 u_12) 65) j).toInt ≤ 9 from (by split; exact hRr 42 j; exact hRr 65 j)))
  have hEr : mEr [63, 64, 65, 66, 67, 68, 69, 70, 71, 72] _ (va_up (va_up (va_up r 63 u_7) 64 u_12) 65 u_17) := Er_up hEr 65 _ (by decide)
  refine lv_aload_n hx hb dX12_keep_60 rfl (lv_at hl 0 rfl) ?_
  refine va_get (D := D) (ci := 12) (v := .ref (a 43)) (C := RX12) (T := TX12) (N := 91) hx hb hT iX12 hown hK hP 0 rfl rfl 55 (by decide) (hT _ t_31) (fun _ h9 => h9) rfl dX12_keep_61 ?_
  refine lv_aload_n hx hb dX12_keep_64 rfl (lv_at hl 0 rfl) ?_
  refine va_get (D := D) (ci := 12) (v := .ref (a 66)) (C := RX12) (T := TX12) (N := 91) hx hb hT iX12 hown hK hP 0 rfl rfl 84 (by decide) (hT _ t_241) (fun _ h9 => h9) rfl dX12_keep_65 ?_
  refine lv_bipush (v := 30) hx hb dX12_keep_68 (by decide) ?_
  have hP_18 := hP.sub (ws' := [(a 43, .inl (cy 0, 30, .inl ((va_up (va_up (va_up r 63 u_7) 64 u_12) 65 u_17) 43))), (a 66, .inl (cy 0, 30, .inl ((va_up (va_up (va_up r 63 u_7) 64 u_12) 65 u_17) 66)))]) [43, 66] rfl
  have hD_20 := hD.sub (ws' := [(a 43, .inl (cy 0, 30, .inl ((va_up (va_up (va_up r 63 u_7) 64 u_12) 65 u_17) 43))), (a 66, .inl (cy 0, 30, .inl ((va_up (va_up (va_up r 63 u_7) 64 u_12) 65 u_17) 66)))]) [43, 66] (by decide) rfl
  have hF_19 := va_free (wc := [(a 43, .inl (cy 0, 30, .inl ((va_up (va_up (va_up r 63 u_7) 64 u_12) 65 u_17) 43))), (a 66, .inl (cy 0, 30, .inl ((va_up (va_up (va_up r 63 u_7) 64 u_12) 65 u_17) 66)))]) hD hS hA [43, 66] rfl
  refine va_callv (va_runS (As := [.ref (a 43), .ref (a 66), .int 30]) (rest := []) ⟨hx, hb, hml, hown, hT⟩ (c_X12_copies30 l D cy (a 43) (a 66) ((va_up (va_up (va_up r 63 u_7) 64 u_12) 65 u_17) 43) ((va_up (va_up (va_up r 63 u_7) 64 u_12) 65 u_17) 66) _) (va_cwS 3 hT (gS t_236 t_237 t_238 t_6) rfl rfl rfl (by decide +kernel) ⟨Nat.le_of_ble_eq_true rfl, Nat.le_of_ble_eq_true rfl⟩) (rQ_s hP_18 hK hD_20) rfl rfl hl.1 rfl (lv_room (Nat.le_of_ble_eq_true rfl)) dX12_keep_70 ⟨Nat.le_of_ble_eq_true rfl, Nat.le_of_ble_eq_true rfl⟩) hS (fun q _ h => hF_19 q h) hF_19 (fun u_22 t H1 locs ht hvm hr_21 hB hz1 hk1 hS => ?_)
  obtain ⟨hP1, hK1, hD1⟩ := hB
  rw [ht] at hP1
  obtain ⟨hP, hD⟩ := rj (wc := [(a 43, .inl (cy 0, 30, .inl ((va_up (va_up (va_up r 63 u_7) 64 u_12) 65 u_17) 43))), (a 66, .inl (cy 0, 30, .inl ((va_up (va_up (va_up r 63 u_7) 64 u_12) 65 u_17) 66)))]) (w1 := [(a 43, .inl (cy 0, 30, .inl ((va_up (va_up (va_up r 63 u_7) 64 u_12) 65 u_17) 43))), (a 66, .inl (cy 0, 30, .inl u_22))]) hP hD [43, 66] rfl rfl hk1 hP1
  have hP : va_P D vwCl (mW cy a (upd (upd (upd i 78 1) 79 (i 51)) 80 (i 1)) (va_up (va_up (va_up (va_up r 63 u_7) 64 u_12) 65 u_17) 66 u_22) rl) H1 := hP
  have hD : va_D A (mW cy a (upd (upd (upd i 78 1) 79 (i 51)) 80 (i 1)) (va_up (va_up (va_up (va_up r 63 u_7) 64 u_12) 65 u_17) 66 u_22) rl) := hD
  have hRr : mRr (va_up (va_up (va_up (va_up r 63 u_7) 64 u_12) 65 u_17) 66 u_22) := Rr_up hRr 66 u_22 (fun j => (hr_21 j).symm ▸ (show 0 ≤ (if j < 30 then ((va_up (va_up (va_up r 63 u_7) 64 u_12) 65 u_17) 43) j else ((va_up (va_up (va_up r 63 u_7) 64 u_12) 65 u_17) 66) j).toInt ∧ (if j < 30 then ((va_up (va_up (va_up r 63 u_7) 64 u_12) 65 u_17) 43) j else ((va_up (va_up (va_up r 63 u_7) 64 u_12) 65 u_17) 66) j).toInt ≤ 7 from (by split; exact hRr 43 j; exact hRr 66 j)))
  have hEr : mEr [63, 64, 65, 66, 67, 68, 69, 70, 71, 72] _ (va_up (va_up (va_up (va_up r 63 u_7) 64 u_12) 65 u_17) 66 u_22) := Er_up hEr 66 _ (by decide)
  refine lv_aload_n hx hb dX12_keep_73 rfl (lv_at hl 0 rfl) ?_
  refine va_get (D := D) (ci := 12) (v := .ref (a 44)) (C := RX12) (T := TX12) (N := 91) hx hb hT iX12 hown hK hP 0 rfl rfl 56 (by decide) (hT _ t_139) (fun _ h9 => h9) rfl dX12_keep_74 ?_
  refine lv_aload_n hx hb dX12_keep_77 rfl (lv_at hl 0 rfl) ?_
  refine va_get (D := D) (ci := 12) (v := .ref (a 67)) (C := RX12) (T := TX12) (N := 91) hx hb hT iX12 hown hK hP 0 rfl rfl 85 (by decide) (hT _ t_242) (fun _ h9 => h9) rfl dX12_keep_78 ?_
  refine lv_bipush (v := 30) hx hb dX12_keep_81 (by decide) ?_
  have hP_23 := hP.sub (ws' := [(a 44, .inl (cy 0, 30, .inl ((va_up (va_up (va_up (va_up r 63 u_7) 64 u_12) 65 u_17) 66 u_22) 44))), (a 67, .inl (cy 0, 30, .inl ((va_up (va_up (va_up (va_up r 63 u_7) 64 u_12) 65 u_17) 66 u_22) 67)))]) [44, 67] rfl
  have hD_25 := hD.sub (ws' := [(a 44, .inl (cy 0, 30, .inl ((va_up (va_up (va_up (va_up r 63 u_7) 64 u_12) 65 u_17) 66 u_22) 44))), (a 67, .inl (cy 0, 30, .inl ((va_up (va_up (va_up (va_up r 63 u_7) 64 u_12) 65 u_17) 66 u_22) 67)))]) [44, 67] (by decide) rfl
  have hF_24 := va_free (wc := [(a 44, .inl (cy 0, 30, .inl ((va_up (va_up (va_up (va_up r 63 u_7) 64 u_12) 65 u_17) 66 u_22) 44))), (a 67, .inl (cy 0, 30, .inl ((va_up (va_up (va_up (va_up r 63 u_7) 64 u_12) 65 u_17) 66 u_22) 67)))]) hD hS hA [44, 67] rfl
  refine va_callv (va_runS (As := [.ref (a 44), .ref (a 67), .int 30]) (rest := []) ⟨hx, hb, hml, hown, hT⟩ (c_X12_copies30 l D cy (a 44) (a 67) ((va_up (va_up (va_up (va_up r 63 u_7) 64 u_12) 65 u_17) 66 u_22) 44) ((va_up (va_up (va_up (va_up r 63 u_7) 64 u_12) 65 u_17) 66 u_22) 67) _) (va_cwS 3 hT (gS t_236 t_237 t_238 t_6) rfl rfl rfl (by decide +kernel) ⟨Nat.le_of_ble_eq_true rfl, Nat.le_of_ble_eq_true rfl⟩) (rQ_s hP_23 hK hD_25) rfl rfl hl.1 rfl (lv_room (Nat.le_of_ble_eq_true rfl)) dX12_keep_83 ⟨Nat.le_of_ble_eq_true rfl, Nat.le_of_ble_eq_true rfl⟩) hS (fun q _ h => hF_24 q h) hF_24 (fun u_27 t H1 locs ht hvm hr_26 hB hz1 hk1 hS => ?_)
  obtain ⟨hP1, hK1, hD1⟩ := hB
  rw [ht] at hP1
  obtain ⟨hP, hD⟩ := rj (wc := [(a 44, .inl (cy 0, 30, .inl ((va_up (va_up (va_up (va_up r 63 u_7) 64 u_12) 65 u_17) 66 u_22) 44))), (a 67, .inl (cy 0, 30, .inl ((va_up (va_up (va_up (va_up r 63 u_7) 64 u_12) 65 u_17) 66 u_22) 67)))]) (w1 := [(a 44, .inl (cy 0, 30, .inl ((va_up (va_up (va_up (va_up r 63 u_7) 64 u_12) 65 u_17) 66 u_22) 44))), (a 67, .inl (cy 0, 30, .inl u_27))]) hP hD [44, 67] rfl rfl hk1 hP1
  have hP : va_P D vwCl (mW cy a (upd (upd (upd i 78 1) 79 (i 51)) 80 (i 1)) (va_up (va_up (va_up (va_up (va_up r 63 u_7) 64 u_12) 65 u_17) 66 u_22) 67 u_27) rl) H1 := hP
  have hD : va_D A (mW cy a (upd (upd (upd i 78 1) 79 (i 51)) 80 (i 1)) (va_up (va_up (va_up (va_up (va_up r 63 u_7) 64 u_12) 65 u_17) 66 u_22) 67 u_27) rl) := hD
  have hRr : mRr (va_up (va_up (va_up (va_up (va_up r 63 u_7) 64 u_12) 65 u_17) 66 u_22) 67 u_27) := Rr_up hRr 67 u_27 (fun j => (hr_26 j).symm ▸ (show 0 ≤ (if j < 30 then ((va_up (va_up (va_up (va_up r 63 u_7) 64 u_12) 65 u_17) 66 u_22) 44) j else ((va_up (va_up (va_up (va_up r 63 u_7) 64 u_12) 65 u_17) 66 u_22) 67) j).toInt ∧ (if j < 30 then ((va_up (va_up (va_up (va_up r 63 u_7) 64 u_12) 65 u_17) 66 u_22) 44) j else ((va_up (va_up (va_up (va_up r 63 u_7) 64 u_12) 65 u_17) 66 u_22) 67) j).toInt ≤ 9999 from (by split; exact hRr 44 j; exact hRr 67 j)))
  have hEr : mEr [63, 64, 65, 66, 67, 68, 69, 70, 71, 72] _ (va_up (va_up (va_up (va_up (va_up r 63 u_7) 64 u_12) 65 u_17) 66 u_22) 67 u_27) := Er_up hEr 67 _ (by decide)
  refine lv_aload_n hx hb dX12_keep_86 rfl (lv_at hl 0 rfl) ?_
  refine va_get (D := D) (ci := 12) (v := .ref (a 45)) (C := RX12) (T := TX12) (N := 91) hx hb hT iX12 hown hK hP 0 rfl rfl 57 (by decide) (hT _ t_133) (fun _ h9 => h9) rfl dX12_keep_87 ?_
  refine lv_aload_n hx hb dX12_keep_90 rfl (lv_at hl 0 rfl) ?_
  refine va_get (D := D) (ci := 12) (v := .ref (a 68)) (C := RX12) (T := TX12) (N := 91) hx hb hT iX12 hown hK hP 0 rfl rfl 86 (by decide) (hT _ t_243) (fun _ h9 => h9) rfl dX12_keep_91 ?_
  refine lv_bipush (v := 30) hx hb dX12_keep_94 (by decide) ?_
  have hP_28 := hP.sub (ws' := [(a 45, .inl (cy 0, 30, .inl ((va_up (va_up (va_up (va_up (va_up r 63 u_7) 64 u_12) 65 u_17) 66 u_22) 67 u_27) 45))), (a 68, .inl (cy 0, 30, .inl ((va_up (va_up (va_up (va_up (va_up r 63 u_7) 64 u_12) 65 u_17) 66 u_22) 67 u_27) 68)))]) [45, 68] rfl
  have hD_30 := hD.sub (ws' := [(a 45, .inl (cy 0, 30, .inl ((va_up (va_up (va_up (va_up (va_up r 63 u_7) 64 u_12) 65 u_17) 66 u_22) 67 u_27) 45))), (a 68, .inl (cy 0, 30, .inl ((va_up (va_up (va_up (va_up (va_up r 63 u_7) 64 u_12) 65 u_17) 66 u_22) 67 u_27) 68)))]) [45, 68] (by decide) rfl
  have hF_29 := va_free (wc := [(a 45, .inl (cy 0, 30, .inl ((va_up (va_up (va_up (va_up (va_up r 63 u_7) 64 u_12) 65 u_17) 66 u_22) 67 u_27) 45))), (a 68, .inl (cy 0, 30, .inl ((va_up (va_up (va_up (va_up (va_up r 63 u_7) 64 u_12) 65 u_17) 66 u_22) 67 u_27) 68)))]) hD hS hA [45, 68] rfl
  refine va_callv (va_runS (As := [.ref (a 45), .ref (a 68), .int 30]) (rest := []) ⟨hx, hb, hml, hown, hT⟩ (c_X12_copies30 l D cy (a 45) (a 68) ((va_up (va_up (va_up (va_up (va_up r 63 u_7) 64 u_12) 65 u_17) 66 u_22) 67 u_27) 45) ((va_up (va_up (va_up (va_up (va_up r 63 u_7) 64 u_12) 65 u_17) 66 u_22) 67 u_27) 68) _) (va_cwS 3 hT (gS t_236 t_237 t_238 t_6) rfl rfl rfl (by decide +kernel) ⟨Nat.le_of_ble_eq_true rfl, Nat.le_of_ble_eq_true rfl⟩) (rQ_s hP_28 hK hD_30) rfl rfl hl.1 rfl (lv_room (Nat.le_of_ble_eq_true rfl)) dX12_keep_96 ⟨Nat.le_of_ble_eq_true rfl, Nat.le_of_ble_eq_true rfl⟩) hS (fun q _ h => hF_29 q h) hF_29 (fun u_32 t H1 locs ht hvm hr_31 hB hz1 hk1 hS => ?_)
  obtain ⟨hP1, hK1, hD1⟩ := hB
  rw [ht] at hP1
  obtain ⟨hP, hD⟩ := rj (wc := [(a 45, .inl (cy 0, 30, .inl ((va_up (va_up (va_up (va_up (va_up r 63 u_7) 64 u_12) 65 u_17) 66 u_22) 67 u_27) 45))), (a 68, .inl (cy 0, 30, .inl ((va_up (va_up (va_up (va_up (va_up r 63 u_7) 64 u_12) 65 u_17) 66 u_22) 67 u_27) 68)))]) (w1 := [(a 45, .inl (cy 0, 30, .inl ((va_up (va_up (va_up (va_up (va_up r 63 u_7) 64 u_12) 65 u_17) 66 u_22) 67 u_27) 45))), (a 68, .inl (cy 0, 30, .inl u_32))]) hP hD [45, 68] rfl rfl hk1 hP1
  have hP : va_P D vwCl (mW cy a (upd (upd (upd i 78 1) 79 (i 51)) 80 (i 1)) (va_up (va_up (va_up (va_up (va_up (va_up r 63 u_7) 64 u_12) 65 u_17) 66 u_22) 67 u_27) 68 u_32) rl) H1 := hP
  have hD : va_D A (mW cy a (upd (upd (upd i 78 1) 79 (i 51)) 80 (i 1)) (va_up (va_up (va_up (va_up (va_up (va_up r 63 u_7) 64 u_12) 65 u_17) 66 u_22) 67 u_27) 68 u_32) rl) := hD
  have hRr : mRr (va_up (va_up (va_up (va_up (va_up (va_up r 63 u_7) 64 u_12) 65 u_17) 66 u_22) 67 u_27) 68 u_32) := Rr_up hRr 68 u_32 (fun j => (hr_31 j).symm ▸ (show 0 ≤ (if j < 30 then ((va_up (va_up (va_up (va_up (va_up r 63 u_7) 64 u_12) 65 u_17) 66 u_22) 67 u_27) 45) j else ((va_up (va_up (va_up (va_up (va_up r 63 u_7) 64 u_12) 65 u_17) 66 u_22) 67 u_27) 68) j).toInt ∧ (if j < 30 then ((va_up (va_up (va_up (va_up (va_up r 63 u_7) 64 u_12) 65 u_17) 66 u_22) 67 u_27) 45) j else ((va_up (va_up (va_up (va_up (va_up r 63 u_7) 64 u_12) 65 u_17) 66 u_22) 67 u_27) 68) j).toInt ≤ 999999 from (by split; exact hRr 45 j; exact hRr 68 j)))
  have hEr : mEr [63, 64, 65, 66, 67, 68, 69, 70, 71, 72] _ (va_up (va_up (va_up (va_up (va_up (va_up r 63 u_7) 64 u_12) 65 u_17) 66 u_22) 67 u_27) 68 u_32) := Er_up hEr 68 _ (by decide)
  refine lv_aload_n hx hb dX12_keep_99 rfl (lv_at hl 0 rfl) ?_
  refine va_get (D := D) (ci := 12) (v := .ref (a 46)) (C := RX12) (T := TX12) (N := 91) hx hb hT iX12 hown hK hP 0 rfl rfl 58 (by decide) (hT _ t_138) (fun _ h9 => h9) rfl dX12_keep_100 ?_
  refine lv_aload_n hx hb dX12_keep_103 rfl (lv_at hl 0 rfl) ?_
  refine va_get (D := D) (ci := 12) (v := .ref (a 69)) (C := RX12) (T := TX12) (N := 91) hx hb hT iX12 hown hK hP 0 rfl rfl 87 (by decide) (hT _ t_244) (fun _ h9 => h9) rfl dX12_keep_104 ?_
  refine lv_bipush (v := 30) hx hb dX12_keep_107 (by decide) ?_
  have hP_33 := hP.sub (ws' := [(a 46, .inl (cy 0, 30, .inl ((va_up (va_up (va_up (va_up (va_up (va_up r 63 u_7) 64 u_12) 65 u_17) 66 u_22) 67 u_27) 68 u_32) 46))), (a 69, .inl (cy 0, 30, .inl ((va_up (va_up (va_up (va_up (va_up (va_up r 63 u_7) 64 u_12) 65 u_17) 66 u_22) 67 u_27) 68 u_32) 69)))]) [46, 69] rfl
  have hD_35 := hD.sub (ws' := [(a 46, .inl (cy 0, 30, .inl ((va_up (va_up (va_up (va_up (va_up (va_up r 63 u_7) 64 u_12) 65 u_17) 66 u_22) 67 u_27) 68 u_32) 46))), (a 69, .inl (cy 0, 30, .inl ((va_up (va_up (va_up (va_up (va_up (va_up r 63 u_7) 64 u_12) 65 u_17) 66 u_22) 67 u_27) 68 u_32) 69)))]) [46, 69] (by decide) rfl
  have hF_34 := va_free (wc := [(a 46, .inl (cy 0, 30, .inl ((va_up (va_up (va_up (va_up (va_up (va_up r 63 u_7) 64 u_12) 65 u_17) 66 u_22) 67 u_27) 68 u_32) 46))), (a 69, .inl (cy 0, 30, .inl ((va_up (va_up (va_up (va_up (va_up (va_up r 63 u_7) 64 u_12) 65 u_17) 66 u_22) 67 u_27) 68 u_32) 69)))]) hD hS hA [46, 69] rfl
  refine va_callv (va_runS (As := [.ref (a 46), .ref (a 69), .int 30]) (rest := []) ⟨hx, hb, hml, hown, hT⟩ (c_X12_copies30 l D cy (a 46) (a 69) ((va_up (va_up (va_up (va_up (va_up (va_up r 63 u_7) 64 u_12) 65 u_17) 66 u_22) 67 u_27) 68 u_32) 46) ((va_up (va_up (va_up (va_up (va_up (va_up r 63 u_7) 64 u_12) 65 u_17) 66 u_22) 67 u_27) 68 u_32) 69) _) (va_cwS 3 hT (gS t_236 t_237 t_238 t_6) rfl rfl rfl (by decide +kernel) ⟨Nat.le_of_ble_eq_true rfl, Nat.le_of_ble_eq_true rfl⟩) (rQ_s hP_33 hK hD_35) rfl rfl hl.1 rfl (lv_room (Nat.le_of_ble_eq_true rfl)) dX12_keep_109 ⟨Nat.le_of_ble_eq_true rfl, Nat.le_of_ble_eq_true rfl⟩) hS (fun q _ h => hF_34 q h) hF_34 (fun u_37 t H1 locs ht hvm hr_36 hB hz1 hk1 hS => ?_)
  obtain ⟨hP1, hK1, hD1⟩ := hB
  rw [ht] at hP1
  obtain ⟨hP, hD⟩ := rj (wc := [(a 46, .inl (cy 0, 30, .inl ((va_up (va_up (va_up (va_up (va_up (va_up r 63 u_7) 64 u_12) 65 u_17) 66 u_22) 67 u_27) 68 u_32) 46))), (a 69, .inl (cy 0, 30, .inl ((va_up (va_up (va_up (va_up (va_up (va_up r 63 u_7) 64 u_12) 65 u_17) 66 u_22) 67 u_27) 68 u_32) 69)))]) (w1 := [(a 46, .inl (cy 0, 30, .inl ((va_up (va_up (va_up (va_up (va_up (va_up r 63 u_7) 64 u_12) 65 u_17) 66 u_22) 67 u_27) 68 u_32) 46))), (a 69, .inl (cy 0, 30, .inl u_37))]) hP hD [46, 69] rfl rfl hk1 hP1
  have hP : va_P D vwCl (mW cy a (upd (upd (upd i 78 1) 79 (i 51)) 80 (i 1)) (va_up (va_up (va_up (va_up (va_up (va_up (va_up r 63 u_7) 64 u_12) 65 u_17) 66 u_22) 67 u_27) 68 u_32) 69 u_37) rl) H1 := hP
  have hD : va_D A (mW cy a (upd (upd (upd i 78 1) 79 (i 51)) 80 (i 1)) (va_up (va_up (va_up (va_up (va_up (va_up (va_up r 63 u_7) 64 u_12) 65 u_17) 66 u_22) 67 u_27) 68 u_32) 69 u_37) rl) := hD
  have hRr : mRr (va_up (va_up (va_up (va_up (va_up (va_up (va_up r 63 u_7) 64 u_12) 65 u_17) 66 u_22) 67 u_27) 68 u_32) 69 u_37) := Rr_up hRr 69 u_37 (fun j => (hr_36 j).symm ▸ (show -1 ≤ (if j < 30 then ((va_up (va_up (va_up (va_up (va_up (va_up r 63 u_7) 64 u_12) 65 u_17) 66 u_22) 67 u_27) 68 u_32) 46) j else ((va_up (va_up (va_up (va_up (va_up (va_up r 63 u_7) 64 u_12) 65 u_17) 66 u_22) 67 u_27) 68 u_32) 69) j).toInt ∧ (if j < 30 then ((va_up (va_up (va_up (va_up (va_up (va_up r 63 u_7) 64 u_12) 65 u_17) 66 u_22) 67 u_27) 68 u_32) 46) j else ((va_up (va_up (va_up (va_up (va_up (va_up r 63 u_7) 64 u_12) 65 u_17) 66 u_22) 67 u_27) 68 u_32) 69) j).toInt ≤ 9999 from (by split; exact hRr 46 j; exact hRr 69 j)))
  have hEr : mEr [63, 64, 65, 66, 67, 68, 69, 70, 71, 72] _ (va_up (va_up (va_up (va_up (va_up (va_up (va_up r 63 u_7) 64 u_12) 65 u_17) 66 u_22) 67 u_27) 68 u_32) 69 u_37) := Er_up hEr 69 _ (by decide)
  refine lv_aload_n hx hb dX12_keep_112 rfl (lv_at hl 0 rfl) ?_
  refine va_get (D := D) (ci := 12) (v := .ref (a 50)) (C := RX12) (T := TX12) (N := 91) hx hb hT iX12 hown hK hP 0 rfl rfl 64 (by decide) (hT _ t_186) (fun _ h9 => h9) rfl dX12_keep_113 ?_
  refine lv_aload_n hx hb dX12_keep_116 rfl (lv_at hl 0 rfl) ?_
  refine va_get (D := D) (ci := 12) (v := .ref (a 70)) (C := RX12) (T := TX12) (N := 91) hx hb hT iX12 hown hK hP 0 rfl rfl 88 (by decide) (hT _ t_245) (fun _ h9 => h9) rfl dX12_keep_117 ?_
  refine lv_bipush (v := 6) hx hb dX12_keep_120 (by decide) ?_
  have hP_38 := hP.sub (ws' := [(a 50, .inl (cy 0, 6, .inl ((va_up (va_up (va_up (va_up (va_up (va_up (va_up r 63 u_7) 64 u_12) 65 u_17) 66 u_22) 67 u_27) 68 u_32) 69 u_37) 50))), (a 70, .inl (cy 0, 6, .inl ((va_up (va_up (va_up (va_up (va_up (va_up (va_up r 63 u_7) 64 u_12) 65 u_17) 66 u_22) 67 u_27) 68 u_32) 69 u_37) 70)))]) [50, 70] rfl
  have hD_40 := hD.sub (ws' := [(a 50, .inl (cy 0, 6, .inl ((va_up (va_up (va_up (va_up (va_up (va_up (va_up r 63 u_7) 64 u_12) 65 u_17) 66 u_22) 67 u_27) 68 u_32) 69 u_37) 50))), (a 70, .inl (cy 0, 6, .inl ((va_up (va_up (va_up (va_up (va_up (va_up (va_up r 63 u_7) 64 u_12) 65 u_17) 66 u_22) 67 u_27) 68 u_32) 69 u_37) 70)))]) [50, 70] (by decide) rfl
  have hF_39 := va_free (wc := [(a 50, .inl (cy 0, 6, .inl ((va_up (va_up (va_up (va_up (va_up (va_up (va_up r 63 u_7) 64 u_12) 65 u_17) 66 u_22) 67 u_27) 68 u_32) 69 u_37) 50))), (a 70, .inl (cy 0, 6, .inl ((va_up (va_up (va_up (va_up (va_up (va_up (va_up r 63 u_7) 64 u_12) 65 u_17) 66 u_22) 67 u_27) 68 u_32) 69 u_37) 70)))]) hD hS hA [50, 70] rfl
  refine va_callv (va_runS (As := [.ref (a 50), .ref (a 70), .int 6]) (rest := []) ⟨hx, hb, hml, hown, hT⟩ (c_X12_copies6 l D cy (a 50) (a 70) ((va_up (va_up (va_up (va_up (va_up (va_up (va_up r 63 u_7) 64 u_12) 65 u_17) 66 u_22) 67 u_27) 68 u_32) 69 u_37) 50) ((va_up (va_up (va_up (va_up (va_up (va_up (va_up r 63 u_7) 64 u_12) 65 u_17) 66 u_22) 67 u_27) 68 u_32) 69 u_37) 70) _) (va_cwS 3 hT (gS t_236 t_237 t_238 t_6) rfl rfl rfl (by decide +kernel) ⟨Nat.le_of_ble_eq_true rfl, Nat.le_of_ble_eq_true rfl⟩) (rQ_s hP_38 hK hD_40) rfl rfl hl.1 rfl (lv_room (Nat.le_of_ble_eq_true rfl)) dX12_keep_122 ⟨Nat.le_of_ble_eq_true rfl, Nat.le_of_ble_eq_true rfl⟩) hS (fun q _ h => hF_39 q h) hF_39 (fun u_42 t H1 locs ht hvm hr_41 hB hz1 hk1 hS => ?_)
  obtain ⟨hP1, hK1, hD1⟩ := hB
  rw [ht] at hP1
  obtain ⟨hP, hD⟩ := rj (wc := [(a 50, .inl (cy 0, 6, .inl ((va_up (va_up (va_up (va_up (va_up (va_up (va_up r 63 u_7) 64 u_12) 65 u_17) 66 u_22) 67 u_27) 68 u_32) 69 u_37) 50))), (a 70, .inl (cy 0, 6, .inl ((va_up (va_up (va_up (va_up (va_up (va_up (va_up r 63 u_7) 64 u_12) 65 u_17) 66 u_22) 67 u_27) 68 u_32) 69 u_37) 70)))]) (w1 := [(a 50, .inl (cy 0, 6, .inl ((va_up (va_up (va_up (va_up (va_up (va_up (va_up r 63 u_7) 64 u_12) 65 u_17) 66 u_22) 67 u_27) 68 u_32) 69 u_37) 50))), (a 70, .inl (cy 0, 6, .inl u_42))]) hP hD [50, 70] rfl rfl hk1 hP1
  have hP : va_P D vwCl (mW cy a (upd (upd (upd i 78 1) 79 (i 51)) 80 (i 1)) (va_up (va_up (va_up (va_up (va_up (va_up (va_up (va_up r 63 u_7) 64 u_12) 65 u_17) 66 u_22) 67 u_27) 68 u_32) 69 u_37) 70 u_42) rl) H1 := hP
  have hD : va_D A (mW cy a (upd (upd (upd i 78 1) 79 (i 51)) 80 (i 1)) (va_up (va_up (va_up (va_up (va_up (va_up (va_up (va_up r 63 u_7) 64 u_12) 65 u_17) 66 u_22) 67 u_27) 68 u_32) 69 u_37) 70 u_42) rl) := hD
  have hRr : mRr (va_up (va_up (va_up (va_up (va_up (va_up (va_up (va_up r 63 u_7) 64 u_12) 65 u_17) 66 u_22) 67 u_27) 68 u_32) 69 u_37) 70 u_42) := Rr_up hRr 70 u_42 (fun j => (hr_41 j).symm ▸ (show 0 ≤ (if j < 6 then ((va_up (va_up (va_up (va_up (va_up (va_up (va_up r 63 u_7) 64 u_12) 65 u_17) 66 u_22) 67 u_27) 68 u_32) 69 u_37) 50) j else ((va_up (va_up (va_up (va_up (va_up (va_up (va_up r 63 u_7) 64 u_12) 65 u_17) 66 u_22) 67 u_27) 68 u_32) 69 u_37) 70) j).toInt ∧ (if j < 6 then ((va_up (va_up (va_up (va_up (va_up (va_up (va_up r 63 u_7) 64 u_12) 65 u_17) 66 u_22) 67 u_27) 68 u_32) 69 u_37) 50) j else ((va_up (va_up (va_up (va_up (va_up (va_up (va_up r 63 u_7) 64 u_12) 65 u_17) 66 u_22) 67 u_27) 68 u_32) 69 u_37) 70) j).toInt ≤ 1000000 from (by split; exact hRr 50 j; exact hRr 70 j)))
  have hEr : mEr [63, 64, 65, 66, 67, 68, 69, 70, 71, 72] _ (va_up (va_up (va_up (va_up (va_up (va_up (va_up (va_up r 63 u_7) 64 u_12) 65 u_17) 66 u_22) 67 u_27) 68 u_32) 69 u_37) 70 u_42) := Er_up hEr 70 _ (by decide)
  refine lv_aload_n hx hb dX12_keep_125 rfl (lv_at hl 0 rfl) ?_
  refine va_get (D := D) (ci := 12) (v := .ref (a 51)) (C := RX12) (T := TX12) (N := 91) hx hb hT iX12 hown hK hP 0 rfl rfl 65 (by decide) (hT _ t_185) (fun _ h9 => h9) rfl dX12_keep_126 ?_
  refine lv_aload_n hx hb dX12_keep_129 rfl (lv_at hl 0 rfl) ?_
  refine va_get (D := D) (ci := 12) (v := .ref (a 71)) (C := RX12) (T := TX12) (N := 91) hx hb hT iX12 hown hK hP 0 rfl rfl 89 (by decide) (hT _ t_246) (fun _ h9 => h9) rfl dX12_keep_130 ?_
  refine lv_bipush (v := 6) hx hb dX12_keep_133 (by decide) ?_
  have hP_43 := hP.sub (ws' := [(a 51, .inl (cy 0, 6, .inl ((va_up (va_up (va_up (va_up (va_up (va_up (va_up (va_up r 63 u_7) 64 u_12) 65 u_17) 66 u_22) 67 u_27) 68 u_32) 69 u_37) 70 u_42) 51))), (a 71, .inl (cy 0, 6, .inl ((va_up (va_up (va_up (va_up (va_up (va_up (va_up (va_up r 63 u_7) 64 u_12) 65 u_17) 66 u_22) 67 u_27) 68 u_32) 69 u_37) 70 u_42) 71)))]) [51, 71] rfl
  have hD_45 := hD.sub (ws' := [(a 51, .inl (cy 0, 6, .inl ((va_up (va_up (va_up (va_up (va_up (va_up (va_up (va_up r 63 u_7) 64 u_12) 65 u_17) 66 u_22) 67 u_27) 68 u_32) 69 u_37) 70 u_42) 51))), (a 71, .inl (cy 0, 6, .inl ((va_up (va_up (va_up (va_up (va_up (va_up (va_up (va_up r 63 u_7) 64 u_12) 65 u_17) 66 u_22) 67 u_27) 68 u_32) 69 u_37) 70 u_42) 71)))]) [51, 71] (by decide) rfl
  have hF_44 := va_free (wc := [(a 51, .inl (cy 0, 6, .inl ((va_up (va_up (va_up (va_up (va_up (va_up (va_up (va_up r 63 u_7) 64 u_12) 65 u_17) 66 u_22) 67 u_27) 68 u_32) 69 u_37) 70 u_42) 51))), (a 71, .inl (cy 0, 6, .inl ((va_up (va_up (va_up (va_up (va_up (va_up (va_up (va_up r 63 u_7) 64 u_12) 65 u_17) 66 u_22) 67 u_27) 68 u_32) 69 u_37) 70 u_42) 71)))]) hD hS hA [51, 71] rfl
  refine va_callv (va_runS (As := [.ref (a 51), .ref (a 71), .int 6]) (rest := []) ⟨hx, hb, hml, hown, hT⟩ (c_X12_copies6 l D cy (a 51) (a 71) ((va_up (va_up (va_up (va_up (va_up (va_up (va_up (va_up r 63 u_7) 64 u_12) 65 u_17) 66 u_22) 67 u_27) 68 u_32) 69 u_37) 70 u_42) 51) ((va_up (va_up (va_up (va_up (va_up (va_up (va_up (va_up r 63 u_7) 64 u_12) 65 u_17) 66 u_22) 67 u_27) 68 u_32) 69 u_37) 70 u_42) 71) _) (va_cwS 3 hT (gS t_236 t_237 t_238 t_6) rfl rfl rfl (by decide +kernel) ⟨Nat.le_of_ble_eq_true rfl, Nat.le_of_ble_eq_true rfl⟩) (rQ_s hP_43 hK hD_45) rfl rfl hl.1 rfl (lv_room (Nat.le_of_ble_eq_true rfl)) dX12_keep_135 ⟨Nat.le_of_ble_eq_true rfl, Nat.le_of_ble_eq_true rfl⟩) hS (fun q _ h => hF_44 q h) hF_44 (fun u_47 t H1 locs ht hvm hr_46 hB hz1 hk1 hS => ?_)
  obtain ⟨hP1, hK1, hD1⟩ := hB
  rw [ht] at hP1
  obtain ⟨hP, hD⟩ := rj (wc := [(a 51, .inl (cy 0, 6, .inl ((va_up (va_up (va_up (va_up (va_up (va_up (va_up (va_up r 63 u_7) 64 u_12) 65 u_17) 66 u_22) 67 u_27) 68 u_32) 69 u_37) 70 u_42) 51))), (a 71, .inl (cy 0, 6, .inl ((va_up (va_up (va_up (va_up (va_up (va_up (va_up (va_up r 63 u_7) 64 u_12) 65 u_17) 66 u_22) 67 u_27) 68 u_32) 69 u_37) 70 u_42) 71)))]) (w1 := [(a 51, .inl (cy 0, 6, .inl ((va_up (va_up (va_up (va_up (va_up (va_up (va_up (va_up r 63 u_7) 64 u_12) 65 u_17) 66 u_22) 67 u_27) 68 u_32) 69 u_37) 70 u_42) 51))), (a 71, .inl (cy 0, 6, .inl u_47))]) hP hD [51, 71] rfl rfl hk1 hP1
  have hP : va_P D vwCl (mW cy a (upd (upd (upd i 78 1) 79 (i 51)) 80 (i 1)) (va_up (va_up (va_up (va_up (va_up (va_up (va_up (va_up (va_up r 63 u_7) 64 u_12) 65 u_17) 66 u_22) 67 u_27) 68 u_32) 69 u_37) 70 u_42) 71 u_47) rl) H1 := hP
  have hD : va_D A (mW cy a (upd (upd (upd i 78 1) 79 (i 51)) 80 (i 1)) (va_up (va_up (va_up (va_up (va_up (va_up (va_up (va_up (va_up r 63 u_7) 64 u_12) 65 u_17) 66 u_22) 67 u_27) 68 u_32) 69 u_37) 70 u_42) 71 u_47) rl) := hD
  have hRr : mRr (va_up (va_up (va_up (va_up (va_up (va_up (va_up (va_up (va_up r 63 u_7) 64 u_12) 65 u_17) 66 u_22) 67 u_27) 68 u_32) 69 u_37) 70 u_42) 71 u_47) := Rr_up hRr 71 u_47 (fun j => (hr_46 j).symm ▸ (show 0 ≤ (if j < 6 then ((va_up (va_up (va_up (va_up (va_up (va_up (va_up (va_up r 63 u_7) 64 u_12) 65 u_17) 66 u_22) 67 u_27) 68 u_32) 69 u_37) 70 u_42) 51) j else ((va_up (va_up (va_up (va_up (va_up (va_up (va_up (va_up r 63 u_7) 64 u_12) 65 u_17) 66 u_22) 67 u_27) 68 u_32) 69 u_37) 70 u_42) 71) j).toInt ∧ (if j < 6 then ((va_up (va_up (va_up (va_up (va_up (va_up (va_up (va_up r 63 u_7) 64 u_12) 65 u_17) 66 u_22) 67 u_27) 68 u_32) 69 u_37) 70 u_42) 51) j else ((va_up (va_up (va_up (va_up (va_up (va_up (va_up (va_up r 63 u_7) 64 u_12) 65 u_17) 66 u_22) 67 u_27) 68 u_32) 69 u_37) 70 u_42) 71) j).toInt ≤ 1000000 from (by split; exact hRr 51 j; exact hRr 71 j)))
  have hEr : mEr [63, 64, 65, 66, 67, 68, 69, 70, 71, 72] _ (va_up (va_up (va_up (va_up (va_up (va_up (va_up (va_up (va_up r 63 u_7) 64 u_12) 65 u_17) 66 u_22) 67 u_27) 68 u_32) 69 u_37) 70 u_42) 71 u_47) := Er_up hEr 71 _ (by decide)
  refine lv_iconst (v := 0) hx hb dX12_keep_138 (by decide) ?_
  refine lv_istore_n (lv' := [(1, .int 0), (0, .ref (a 0))]) hx hb dX12_keep_139 rfl hl (by decide) rfl (fun ls hl => ?_)
  have loop_48 : ∀ (n : Nat) (x48_1 : Int32) (r48 : Nat → Nat → Int32) (H : Heap) (locs : List Loc) (ls : Array Slot), (30 - x48_1.toInt).toNat < n → (0 ≤ x48_1.toInt ∧ x48_1.toInt ≤ 30) → mRr r48 → mEr [63, 64, 65, 66, 67, 68, 69, 70, 71, 72] r r48 → (mEr [72] (va_up (va_up (va_up (va_up (va_up (va_up (va_up (va_up (va_up r 63 u_7) 64 u_12) 65 u_17) 66 u_22) 67 u_27) 68 u_32) 69 u_37) 70 u_42) 71 u_47) r48) → va_P D vwCl (mW cy a (upd (upd (upd i 78 1) 79 (i 51)) 80 (i 1)) r48 rl) H → va_D A (mW cy a (upd (upd (upd i 78 1) 79 (i 51)) 80 (i 1)) r48 rl) → va_S A s.heap H locs → lv_has ls 2 [(1, .int x48_1), (0, .ref (a 0))] → W p l e ({ frames := 2, cells := 0, slots := 0, locals := 47 } : Room) s m ([.ref (a 0)] : List Value).toArray below meth c H locs 0 0 Q (F0 m 140 ls []) := by
    intro n
    induction n with
    | zero =>
      intro x48_1 r48 H locs ls hm48 hf48_0 hRr hEr hx48 hP hD hS hl
      exact absurd hm48 (by omega)
    | succ n ih48 =>
      intro x48_1 r48 H locs ls hm48 hf48_0 hRr hEr hx48 hP hD hS hl
      refine lv_iload_n hx hb dX12_keep_140 rfl (lv_at hl 0 rfl) ?_
      refine lv_bipush (v := 30) hx hb dX12_keep_141 (by decide) ?_
      refine lv_icmp_ge (tgt := 164) hx hb dX12_keep_143 (by decide) (fun c_49 => ?_) (fun c_49 => ?_)
      · have c_49 : 30 ≤ x48_1.toInt := b_le c_49
        refine lv_aload_n hx hb dX12_keep_164 rfl (lv_at hl 1 rfl) ?_
        refine va_get (D := D) (ci := 12) (v := .int (i 51)) (C := RX12) (T := TX12) (N := 91) hx hb hT iX12 hown hK hP 0 rfl rfl 51 (by decide) (hT _ t_11) (fun _ h9 => h9) rfl dX12_keep_165 ?_
        subst hQ
        have ha : ∀ c, c < 30 → r48 63 c = r 40 c := by
          intro c hc
          rw [hx48 63 (by decide)]
          exact (hr_6 c).trans (if_pos hc)
        have hb9 : ∀ c, c < 30 → r48 64 c = r 41 c := by
          intro c hc
          rw [hx48 64 (by decide)]
          exact (hr_11 c).trans (if_pos hc)
        exact W.iret (v := i 51) hx hb hr (fun t ht hW => ⟨⟨_, (upd (upd (upd i 78 1) 79 (i 51)) 80 (i 1), r48), rfl, ⟨hRi, hRr, hEi, hEr, mE_keep hE (by have h9 : (i 51).toInt ≤ 30 := (hRi0 51).2; exact h9) rfl rfl rfl rfl ha hb9 (hx48 4 (by decide)) (hx48 10 (by decide)) (hx48 14 (by decide)) (hx48 27 (by decide)) (hx48 28 (by decide)) (hx48 29 (by decide)) (hx48 30 (by decide)) (hx48 31 (by decide)) (hx48 40 (by decide)) (hx48 41 (by decide))⟩, by rw [ht]; exact hP, va_K.moved hW.alike hK, hD⟩, hS.F ht⟩) hS.2.2 dX12_keep_168
      · have c_49 : x48_1.toInt < 30 := b_nle c_49
        refine lv_aload_n hx hb dX12_keep_146 rfl (lv_at hl 1 rfl) ?_
        refine va_get (D := D) (ci := 12) (v := .ref (a 72)) (C := RX12) (T := TX12) (N := 91) hx hb hT iX12 hown hK hP 0 rfl rfl 90 (by decide) (hT _ t_247) (fun _ h9 => h9) rfl dX12_keep_147 ?_
        refine lv_iload_n hx hb dX12_keep_150 rfl (lv_at hl 0 rfl) ?_
        refine lv_aload_n hx hb dX12_keep_151 rfl (lv_at hl 1 rfl) ?_
        refine va_get (D := D) (ci := 12) (v := .ref (a 47)) (C := RX12) (T := TX12) (N := 91) hx hb hT iX12 hown hK hP 0 rfl rfl 59 (by decide) (hT _ t_152) (fun _ h9 => h9) rfl dX12_keep_152 ?_
        refine lv_iload_n hx hb dX12_keep_155 rfl (lv_at hl 0 rfl) ?_
        refine va_zald hx hb hK hP 47 2 rfl rfl (vp_inI (by omega) (by omega)) dX12_keep_156 ?_
        refine lv_topi (fun v_50 ev_50 => ?_)
        refine va_zast hx hb hK hP hD hS 72 2 rfl rfl (vp_inI (by omega) (by omega)) dX12_keep_157 (fun H locs hP hD hS => ?_)
        rw [mS72] at hP hD
        have hRr : mRr (va_up r48 72 (upd (r48 72) x48_1.toNatClampNeg (vp_nar .boolean v_50))) := Rr_upd hRr 72 (x48_1.toNatClampNeg) (vp_nar .boolean v_50) (b_rg _)
        have hEr : mEr [63, 64, 65, 66, 67, 68, 69, 70, 71, 72] _ (va_up r48 72 (upd (r48 72) x48_1.toNatClampNeg (vp_nar .boolean v_50))) := Er_up hEr 72 _ (by decide)
        obtain ⟨x_51, ex_51⟩ : ∃ y : Int32, y = x48_1 + 1 := ⟨_, rfl⟩
        refine lv_iinc (v := x_51) (lv' := [(1, .int x_51), (0, .ref (a 0))]) hx hb dX12_keep_158 hl (k := 0) rfl (by rw [ex_51]; rfl) (by decide) rfl (fun ls hl => ?_)
        have hx_51 : x_51.toInt = x48_1.toInt + 1 := by rw [ex_51]; have := b_rg x48_1; exact i_add (a := x48_1.toInt) (b := 1) rfl rfl (by omega) (by omega)
        refine lv_goto (tgt := 140) hx hb dX12_keep_161 (by decide) ?_
        exact ih48 x_51 (va_up r48 72 (upd (r48 72) x48_1.toNatClampNeg (vp_nar .boolean v_50))) _ _ _ (by first | omega | (simp only [Int.toNat]; omega)) (by first | omega | decide) hRr hEr (Er_up hx48 72 _ (by decide)) hP hD hS (lv_sub hl [0, 1] rfl)
  exact loop_48 _ 0 (va_up (va_up (va_up (va_up (va_up (va_up (va_up (va_up (va_up r 63 u_7) 64 u_12) 65 u_17) 66 u_22) 67 u_27) 68 u_32) 69 u_37) 70 u_42) 71 u_47) _ _ _ (Nat.lt_succ_self _) (by first | omega | decide) hRr hEr (Er_rf) hP hD hS hl
set_option maxHeartbeats 4000000 in
set_option maxRecDepth 100000 in
theorem c_X12_undo (l : Launch) (D : va_G) (cy : Nat → ClassId) (a : Nat → Nat) (i : Nat → Int32) (r : Nat → Nat → Int32) (rl : Nat → Int64) (sz : Nat) (hRi : mRi i) (hRr : mRr r) (hE : mE i r) : Met l yX12_undo (Cond.code yX12_undo cX12_undo 2 (some .boolean) :: gT) { frames := 2, cells := 0, slots := 0, locals := 47 } (va_Pc [.ref (a 0)] (rQ D cy (mW cy a i r rl) sz)) (va_Qi (fun (z : Int32) (u : (Nat → Int32) × (Nat → Nat → Int32)) => mRi u.1 ∧ mRr u.2 ∧ mEi [1, 51] i u.1 ∧ mEr [40, 41, 42, 43, 44, 45, 46, 47, 50, 51] r u.2 ∧ (mE u.1 u.2)) (fun (u : (Nat → Int32) × (Nat → Nat → Int32)) t => va_P D vwCl (mW cy a u.1 u.2 rl) t.heap ∧ va_K D vwCl (vT cy) t ∧ va_D (va_A (mW cy a i r rl) sz) (mW cy a u.1 u.2 rl)) (va_A (mW cy a i r rl) sz)) 0 0 (va_A (mW cy a i r rl) sz) := by
  refine Met.ofQ (cc := cX12_undo) (maxL := 2) (ret := (some .boolean)) (by decide) rfl ?_
  intro p e s m args below meth c s₁ B hml hv Q hQ
  obtain ⟨rfl, hsz, hP, hK, hD0⟩ := hv
  have hx := B.exec
  have hb := B.bytes
  have hr := B.returns
  have hlocks := B.notSynchronized
  have hT : ∀ w ∈ gT, w.before _ s = true := fun w h => atoms_spec (ws := (Cond.code yX12_undo cX12_undo 2 (some .boolean) :: gT)) B.pre w (List.mem_cons_of_mem _ h)
  have hown : s.vm.findClass RX12 = some m.cls := findClass_of_methodNamed B.named
  subst hsz
  have hD := hD0.self (sz := s.heap.size)
  generalize hAe : va_A (mW cy a i r rl) s.heap.size = A at hD hQ
  have hA : ∀ q : Nat, s.heap.size ≤ q → A q := fun q h => by rw [← hAe]; exact Or.inr h
  have hS : va_S A s.heap s.heap [] := va_S.rf
  have hl := lv_entry ([.ref (a 0)]) (n := 2) (Nat.le_of_ble_eq_true rfl)
  rw [lg_entry_eq]
  generalize (lg_sl ([.ref (a 0)]) ++ List.replicate (2 - (lg_sl ([.ref (a 0)])).length) Slot.unset).toArray = ls at hl ⊢
  have hl : lv_has ls 2 [(0, .ref (a 0))] := hl
  have hEi : mEi [1, 51] i i := Ei_rf
  have hEr : mEr [40, 41, 42, 43, 44, 45, 46, 47, 50, 51] r r := Er_rf
  have hRi0 := hRi
  refine lv_aload_n hx hb dX12_undo_0 rfl (lv_at hl 0 rfl) ?_
  refine va_get (D := D) (ci := 12) (v := .int (i 78)) (C := RX12) (T := TX12) (N := 91) hx hb hT iX12 hown hK hP 0 rfl rfl 78 (by decide) (hT _ t_232) (fun _ h9 => h9) rfl dX12_undo_1 ?_
  have hg_1 : 0 ≤ (i 78).toInt ∧ (i 78).toInt ≤ 1 := hRi 78
  refine lv_if_ne (tgt := 9) hx hb dX12_undo_4 (by decide) (fun c_2 => ?_) (fun c_2 => ?_)
  · have c_2 : (i 78).toInt ≠ 0 := b_ne c_2
    refine lv_aload_n hx hb dX12_undo_9 rfl (lv_at hl 0 rfl) ?_
    refine lv_aload_n hx hb dX12_undo_10 rfl (lv_at hl 0 rfl) ?_
    refine va_get (D := D) (ci := 12) (v := .int (i 79)) (C := RX12) (T := TX12) (N := 91) hx hb hT iX12 hown hK hP 0 rfl rfl 79 (by decide) (hT _ t_233) (fun _ h9 => h9) rfl dX12_undo_11 ?_
    have hg_3 : 0 ≤ (i 79).toInt ∧ (i 79).toInt ≤ 30 := hRi 79
    refine va_put (D := D) (ci := 12) (v := .int (i 79)) (ty := .int) (C := RX12) (T := TX12) (N := 91) hx hb hT iX12 tyX12 tyX12_ok nmX12 hown hK hP hD hS 0 rfl rfl 51 (by decide) (hT _ t_11) (fun _ h9 => h9) rfl (by decide +kernel) rfl rfl (Nat.le_of_ble_eq_true rfl) dX12_undo_14 (fun H locs hP hD hS => ?_)
    rw [mP51] at hP hD
    have hRi := Ri_upd hRi 51 (i 79) ⟨by show (0 : Int) ≤ (i 79).toInt; omega, by show (i 79).toInt ≤ (30 : Int); omega⟩
    have hEi := Ei_upd hEi 51 (i 79) (by decide)
    refine lv_aload_n hx hb dX12_undo_17 rfl (lv_at hl 0 rfl) ?_
    refine lv_aload_n hx hb dX12_undo_18 rfl (lv_at hl 0 rfl) ?_
    refine va_get (D := D) (ci := 12) (v := .int (i 80)) (C := RX12) (T := TX12) (N := 91) hx hb hT iX12 hown hK hP 0 rfl rfl 80 (by decide) (hT _ t_234) (fun _ h9 => h9) rfl dX12_undo_19 ?_
    have hg_4 : 0 ≤ (i 80).toInt ∧ (i 80).toInt ≤ 65535 := hRi 80
    refine va_put (D := D) (ci := 12) (v := .int (i 80)) (ty := .int) (C := RX12) (T := TX12) (N := 91) hx hb hT iX12 tyX12 tyX12_ok nmX12 hown hK hP hD hS 0 rfl rfl 1 (by decide) (hT _ t_181) (fun _ h9 => h9) rfl (by decide +kernel) rfl rfl (Nat.le_of_ble_eq_true rfl) dX12_undo_22 (fun H locs hP hD hS => ?_)
    rw [mP1] at hP hD
    have hRi := Ri_upd hRi 1 (i 80) ⟨by show (0 : Int) ≤ (i 80).toInt; omega, by show (i 80).toInt ≤ (65535 : Int); omega⟩
    have hEi := Ei_upd hEi 1 (i 80) (by decide)
    refine lv_aload_n hx hb dX12_undo_25 rfl (lv_at hl 0 rfl) ?_
    refine va_get (D := D) (ci := 12) (v := .ref (a 63)) (C := RX12) (T := TX12) (N := 91) hx hb hT iX12 hown hK hP 0 rfl rfl 81 (by decide) (hT _ t_235) (fun _ h9 => h9) rfl dX12_undo_26 ?_
    refine lv_aload_n hx hb dX12_undo_29 rfl (lv_at hl 0 rfl) ?_
    refine va_get (D := D) (ci := 12) (v := .ref (a 40)) (C := RX12) (T := TX12) (N := 91) hx hb hT iX12 hown hK hP 0 rfl rfl 52 (by decide) (hT _ t_75) (fun _ h9 => h9) rfl dX12_undo_30 ?_
    refine lv_bipush (v := 30) hx hb dX12_undo_33 (by decide) ?_
    have hP_5 := hP.sub (ws' := [(a 63, .inl (cy 0, 30, .inl (r 63))), (a 40, .inl (cy 0, 30, .inl (r 40)))]) [63, 40] rfl
    have hD_7 := hD.sub (ws' := [(a 63, .inl (cy 0, 30, .inl (r 63))), (a 40, .inl (cy 0, 30, .inl (r 40)))]) [63, 40] (by decide) rfl
    have hF_6 := va_free (wc := [(a 63, .inl (cy 0, 30, .inl (r 63))), (a 40, .inl (cy 0, 30, .inl (r 40)))]) hD hS hA [63, 40] rfl
    refine va_callv (va_runS (As := [.ref (a 63), .ref (a 40), .int 30]) (rest := []) ⟨hx, hb, hml, hown, hT⟩ (c_X12_copies30 l D cy (a 63) (a 40) (r 63) (r 40) _) (va_cwS 3 hT (gS t_236 t_237 t_238 t_6) rfl rfl rfl (by decide +kernel) ⟨Nat.le_of_ble_eq_true rfl, Nat.le_of_ble_eq_true rfl⟩) (rQ_s hP_5 hK hD_7) rfl rfl hl.1 rfl (lv_room (Nat.le_of_ble_eq_true rfl)) dX12_undo_35 ⟨Nat.le_of_ble_eq_true rfl, Nat.le_of_ble_eq_true rfl⟩) hS (fun q _ h => hF_6 q h) hF_6 (fun u_9 t H1 locs ht hvm hr_8 hB hz1 hk1 hS => ?_)
    obtain ⟨hP1, hK1, hD1⟩ := hB
    rw [ht] at hP1
    obtain ⟨hP, hD⟩ := rj (wc := [(a 63, .inl (cy 0, 30, .inl (r 63))), (a 40, .inl (cy 0, 30, .inl (r 40)))]) (w1 := [(a 63, .inl (cy 0, 30, .inl (r 63))), (a 40, .inl (cy 0, 30, .inl u_9))]) hP hD [63, 40] rfl rfl hk1 hP1
    have hP : va_P D vwCl (mW cy a (upd (upd i 51 (i 79)) 1 (i 80)) (va_up r 40 u_9) rl) H1 := hP
    have hD : va_D A (mW cy a (upd (upd i 51 (i 79)) 1 (i 80)) (va_up r 40 u_9) rl) := hD
    have hRr : mRr (va_up r 40 u_9) := Rr_up hRr 40 u_9 (fun j => (hr_8 j).symm ▸ (show 0 ≤ (if j < 30 then (r 63) j else (r 40) j).toInt ∧ (if j < 30 then (r 63) j else (r 40) j).toInt ≤ 5 from (by split; exact hRr 63 j; exact hRr 40 j)))
    have hEr : mEr [40, 41, 42, 43, 44, 45, 46, 47, 50, 51] _ (va_up r 40 u_9) := Er_up hEr 40 _ (by decide)
    refine lv_aload_n hx hb dX12_undo_38 rfl (lv_at hl 0 rfl) ?_
    refine va_get (D := D) (ci := 12) (v := .ref (a 64)) (C := RX12) (T := TX12) (N := 91) hx hb hT iX12 hown hK hP 0 rfl rfl 82 (by decide) (hT _ t_239) (fun _ h9 => h9) rfl dX12_undo_39 ?_
    refine lv_aload_n hx hb dX12_undo_42 rfl (lv_at hl 0 rfl) ?_
    refine va_get (D := D) (ci := 12) (v := .ref (a 41)) (C := RX12) (T := TX12) (N := 91) hx hb hT iX12 hown hK hP 0 rfl rfl 53 (by decide) (hT _ t_76) (fun _ h9 => h9) rfl dX12_undo_43 ?_
    refine lv_bipush (v := 30) hx hb dX12_undo_46 (by decide) ?_
    have hP_10 := hP.sub (ws' := [(a 64, .inl (cy 0, 30, .inl ((va_up r 40 u_9) 64))), (a 41, .inl (cy 0, 30, .inl ((va_up r 40 u_9) 41)))]) [64, 41] rfl
    have hD_12 := hD.sub (ws' := [(a 64, .inl (cy 0, 30, .inl ((va_up r 40 u_9) 64))), (a 41, .inl (cy 0, 30, .inl ((va_up r 40 u_9) 41)))]) [64, 41] (by decide) rfl
    have hF_11 := va_free (wc := [(a 64, .inl (cy 0, 30, .inl ((va_up r 40 u_9) 64))), (a 41, .inl (cy 0, 30, .inl ((va_up r 40 u_9) 41)))]) hD hS hA [64, 41] rfl
    refine va_callv (va_runS (As := [.ref (a 64), .ref (a 41), .int 30]) (rest := []) ⟨hx, hb, hml, hown, hT⟩ (c_X12_copies30 l D cy (a 64) (a 41) ((va_up r 40 u_9) 64) ((va_up r 40 u_9) 41) _) (va_cwS 3 hT (gS t_236 t_237 t_238 t_6) rfl rfl rfl (by decide +kernel) ⟨Nat.le_of_ble_eq_true rfl, Nat.le_of_ble_eq_true rfl⟩) (rQ_s hP_10 hK hD_12) rfl rfl hl.1 rfl (lv_room (Nat.le_of_ble_eq_true rfl)) dX12_undo_48 ⟨Nat.le_of_ble_eq_true rfl, Nat.le_of_ble_eq_true rfl⟩) hS (fun q _ h => hF_11 q h) hF_11 (fun u_14 t H1 locs ht hvm hr_13 hB hz1 hk1 hS => ?_)
    obtain ⟨hP1, hK1, hD1⟩ := hB
    rw [ht] at hP1
    obtain ⟨hP, hD⟩ := rj (wc := [(a 64, .inl (cy 0, 30, .inl ((va_up r 40 u_9) 64))), (a 41, .inl (cy 0, 30, .inl ((va_up r 40 u_9) 41)))]) (w1 := [(a 64, .inl (cy 0, 30, .inl ((va_up r 40 u_9) 64))), (a 41, .inl (cy 0, 30, .inl u_14))]) hP hD [64, 41] rfl rfl hk1 hP1
    have hP : va_P D vwCl (mW cy a (upd (upd i 51 (i 79)) 1 (i 80)) (va_up (va_up r 40 u_9) 41 u_14) rl) H1 := hP
    have hD : va_D A (mW cy a (upd (upd i 51 (i 79)) 1 (i 80)) (va_up (va_up r 40 u_9) 41 u_14) rl) := hD
    have hRr : mRr (va_up (va_up r 40 u_9) 41 u_14) := Rr_up hRr 41 u_14 (fun j => (hr_13 j).symm ▸ (show 0 ≤ (if j < 30 then ((va_up r 40 u_9) 64) j else ((va_up r 40 u_9) 41) j).toInt ∧ (if j < 30 then ((va_up r 40 u_9) 64) j else ((va_up r 40 u_9) 41) j).toInt ≤ 19 from (by split; exact hRr 64 j; exact hRr 41 j)))
    have hEr : mEr [40, 41, 42, 43, 44, 45, 46, 47, 50, 51] _ (va_up (va_up r 40 u_9) 41 u_14) := Er_up hEr 41 _ (by decide)
    refine lv_aload_n hx hb dX12_undo_51 rfl (lv_at hl 0 rfl) ?_
    refine va_get (D := D) (ci := 12) (v := .ref (a 65)) (C := RX12) (T := TX12) (N := 91) hx hb hT iX12 hown hK hP 0 rfl rfl 83 (by decide) (hT _ t_240) (fun _ h9 => h9) rfl dX12_undo_52 ?_
    refine lv_aload_n hx hb dX12_undo_55 rfl (lv_at hl 0 rfl) ?_
    refine va_get (D := D) (ci := 12) (v := .ref (a 42)) (C := RX12) (T := TX12) (N := 91) hx hb hT iX12 hown hK hP 0 rfl rfl 54 (by decide) (hT _ t_81) (fun _ h9 => h9) rfl dX12_undo_56 ?_
    refine lv_bipush (v := 30) hx hb dX12_undo_59 (by decide) ?_
    have hP_15 := hP.sub (ws' := [(a 65, .inl (cy 0, 30, .inl ((va_up (va_up r 40 u_9) 41 u_14) 65))), (a 42, .inl (cy 0, 30, .inl ((va_up (va_up r 40 u_9) 41 u_14) 42)))]) [65, 42] rfl
    have hD_17 := hD.sub (ws' := [(a 65, .inl (cy 0, 30, .inl ((va_up (va_up r 40 u_9) 41 u_14) 65))), (a 42, .inl (cy 0, 30, .inl ((va_up (va_up r 40 u_9) 41 u_14) 42)))]) [65, 42] (by decide) rfl
    have hF_16 := va_free (wc := [(a 65, .inl (cy 0, 30, .inl ((va_up (va_up r 40 u_9) 41 u_14) 65))), (a 42, .inl (cy 0, 30, .inl ((va_up (va_up r 40 u_9) 41 u_14) 42)))]) hD hS hA [65, 42] rfl
    refine va_callv (va_runS (As := [.ref (a 65), .ref (a 42), .int 30]) (rest := []) ⟨hx, hb, hml, hown, hT⟩ (c_X12_copies30 l D cy (a 65) (a 42) ((va_up (va_up r 40 u_9) 41 u_14) 65) ((va_up (va_up r 40 u_9) 41 u_14) 42) _) (va_cwS 3 hT (gS t_236 t_237 t_238 t_6) rfl rfl rfl (by decide +kernel) ⟨Nat.le_of_ble_eq_true rfl, Nat.le_of_ble_eq_true rfl⟩) (rQ_s hP_15 hK hD_17) rfl rfl hl.1 rfl (lv_room (Nat.le_of_ble_eq_true rfl)) dX12_undo_61 ⟨Nat.le_of_ble_eq_true rfl, Nat.le_of_ble_eq_true rfl⟩) hS (fun q _ h => hF_16 q h) hF_16 (fun u_19 t H1 locs ht hvm hr_18 hB hz1 hk1 hS => ?_)
    obtain ⟨hP1, hK1, hD1⟩ := hB
    rw [ht] at hP1
    obtain ⟨hP, hD⟩ := rj (wc := [(a 65, .inl (cy 0, 30, .inl ((va_up (va_up r 40 u_9) 41 u_14) 65))), (a 42, .inl (cy 0, 30, .inl ((va_up (va_up r 40 u_9) 41 u_14) 42)))]) (w1 := [(a 65, .inl (cy 0, 30, .inl ((va_up (va_up r 40 u_9) 41 u_14) 65))), (a 42, .inl (cy 0, 30, .inl u_19))]) hP hD [65, 42] rfl rfl hk1 hP1
    have hP : va_P D vwCl (mW cy a (upd (upd i 51 (i 79)) 1 (i 80)) (va_up (va_up (va_up r 40 u_9) 41 u_14) 42 u_19) rl) H1 := hP
    have hD : va_D A (mW cy a (upd (upd i 51 (i 79)) 1 (i 80)) (va_up (va_up (va_up r 40 u_9) 41 u_14) 42 u_19) rl) := hD
    have hRr : mRr (va_up (va_up (va_up r 40 u_9) 41 u_14) 42 u_19) := Rr_up hRr 42 u_19 (fun j => (hr_18 j).symm ▸ (show 0 ≤ (if j < 30 then ((va_up (va_up r 40 u_9) 41 u_14) 65) j else ((va_up (va_up r 40 u_9) 41 u_14) 42) j).toInt ∧ (if j < 30 then ((va_up (va_up r 40 u_9) 41 u_14) 65) j else ((va_up (va_up r 40 u_9) 41 u_14) 42) j).toInt ≤ 9 from (by split; exact hRr 65 j; exact hRr 42 j)))
    have hEr : mEr [40, 41, 42, 43, 44, 45, 46, 47, 50, 51] _ (va_up (va_up (va_up r 40 u_9) 41 u_14) 42 u_19) := Er_up hEr 42 _ (by decide)
    refine lv_aload_n hx hb dX12_undo_64 rfl (lv_at hl 0 rfl) ?_
    refine va_get (D := D) (ci := 12) (v := .ref (a 66)) (C := RX12) (T := TX12) (N := 91) hx hb hT iX12 hown hK hP 0 rfl rfl 84 (by decide) (hT _ t_241) (fun _ h9 => h9) rfl dX12_undo_65 ?_
    refine lv_aload_n hx hb dX12_undo_68 rfl (lv_at hl 0 rfl) ?_
    refine va_get (D := D) (ci := 12) (v := .ref (a 43)) (C := RX12) (T := TX12) (N := 91) hx hb hT iX12 hown hK hP 0 rfl rfl 55 (by decide) (hT _ t_31) (fun _ h9 => h9) rfl dX12_undo_69 ?_
    refine lv_bipush (v := 30) hx hb dX12_undo_72 (by decide) ?_
    have hP_20 := hP.sub (ws' := [(a 66, .inl (cy 0, 30, .inl ((va_up (va_up (va_up r 40 u_9) 41 u_14) 42 u_19) 66))), (a 43, .inl (cy 0, 30, .inl ((va_up (va_up (va_up r 40 u_9) 41 u_14) 42 u_19) 43)))]) [66, 43] rfl
    have hD_22 := hD.sub (ws' := [(a 66, .inl (cy 0, 30, .inl ((va_up (va_up (va_up r 40 u_9) 41 u_14) 42 u_19) 66))), (a 43, .inl (cy 0, 30, .inl ((va_up (va_up (va_up r 40 u_9) 41 u_14) 42 u_19) 43)))]) [66, 43] (by decide) rfl
    have hF_21 := va_free (wc := [(a 66, .inl (cy 0, 30, .inl ((va_up (va_up (va_up r 40 u_9) 41 u_14) 42 u_19) 66))), (a 43, .inl (cy 0, 30, .inl ((va_up (va_up (va_up r 40 u_9) 41 u_14) 42 u_19) 43)))]) hD hS hA [66, 43] rfl
    refine va_callv (va_runS (As := [.ref (a 66), .ref (a 43), .int 30]) (rest := []) ⟨hx, hb, hml, hown, hT⟩ (c_X12_copies30 l D cy (a 66) (a 43) ((va_up (va_up (va_up r 40 u_9) 41 u_14) 42 u_19) 66) ((va_up (va_up (va_up r 40 u_9) 41 u_14) 42 u_19) 43) _) (va_cwS 3 hT (gS t_236 t_237 t_238 t_6) rfl rfl rfl (by decide +kernel) ⟨Nat.le_of_ble_eq_true rfl, Nat.le_of_ble_eq_true rfl⟩) (rQ_s hP_20 hK hD_22) rfl rfl hl.1 rfl (lv_room (Nat.le_of_ble_eq_true rfl)) dX12_undo_74 ⟨Nat.le_of_ble_eq_true rfl, Nat.le_of_ble_eq_true rfl⟩) hS (fun q _ h => hF_21 q h) hF_21 (fun u_24 t H1 locs ht hvm hr_23 hB hz1 hk1 hS => ?_)
    obtain ⟨hP1, hK1, hD1⟩ := hB
    rw [ht] at hP1
    obtain ⟨hP, hD⟩ := rj (wc := [(a 66, .inl (cy 0, 30, .inl ((va_up (va_up (va_up r 40 u_9) 41 u_14) 42 u_19) 66))), (a 43, .inl (cy 0, 30, .inl ((va_up (va_up (va_up r 40 u_9) 41 u_14) 42 u_19) 43)))]) (w1 := [(a 66, .inl (cy 0, 30, .inl ((va_up (va_up (va_up r 40 u_9) 41 u_14) 42 u_19) 66))), (a 43, .inl (cy 0, 30, .inl u_24))]) hP hD [66, 43] rfl rfl hk1 hP1
    have hP : va_P D vwCl (mW cy a (upd (upd i 51 (i 79)) 1 (i 80)) (va_up (va_up (va_up (va_up r 40 u_9) 41 u_14) 42 u_19) 43 u_24) rl) H1 := hP
    have hD : va_D A (mW cy a (upd (upd i 51 (i 79)) 1 (i 80)) (va_up (va_up (va_up (va_up r 40 u_9) 41 u_14) 42 u_19) 43 u_24) rl) := hD
    have hRr : mRr (va_up (va_up (va_up (va_up r 40 u_9) 41 u_14) 42 u_19) 43 u_24) := Rr_up hRr 43 u_24 (fun j => (hr_23 j).symm ▸ (show 0 ≤ (if j < 30 then ((va_up (va_up (va_up r 40 u_9) 41 u_14) 42 u_19) 66) j else ((va_up (va_up (va_up r 40 u_9) 41 u_14) 42 u_19) 43) j).toInt ∧ (if j < 30 then ((va_up (va_up (va_up r 40 u_9) 41 u_14) 42 u_19) 66) j else ((va_up (va_up (va_up r 40 u_9) 41 u_14) 42 u_19) 43) j).toInt ≤ 7 from (by split; exact hRr 66 j; exact hRr 43 j)))
    have hEr : mEr [40, 41, 42, 43, 44, 45, 46, 47, 50, 51] _ (va_up (va_up (va_up (va_up r 40 u_9) 41 u_14) 42 u_19) 43 u_24) := Er_up hEr 43 _ (by decide)
    refine lv_aload_n hx hb dX12_undo_77 rfl (lv_at hl 0 rfl) ?_
    refine va_get (D := D) (ci := 12) (v := .ref (a 67)) (C := RX12) (T := TX12) (N := 91) hx hb hT iX12 hown hK hP 0 rfl rfl 85 (by decide) (hT _ t_242) (fun _ h9 => h9) rfl dX12_undo_78 ?_
    refine lv_aload_n hx hb dX12_undo_81 rfl (lv_at hl 0 rfl) ?_
    refine va_get (D := D) (ci := 12) (v := .ref (a 44)) (C := RX12) (T := TX12) (N := 91) hx hb hT iX12 hown hK hP 0 rfl rfl 56 (by decide) (hT _ t_139) (fun _ h9 => h9) rfl dX12_undo_82 ?_
    refine lv_bipush (v := 30) hx hb dX12_undo_85 (by decide) ?_
    have hP_25 := hP.sub (ws' := [(a 67, .inl (cy 0, 30, .inl ((va_up (va_up (va_up (va_up r 40 u_9) 41 u_14) 42 u_19) 43 u_24) 67))), (a 44, .inl (cy 0, 30, .inl ((va_up (va_up (va_up (va_up r 40 u_9) 41 u_14) 42 u_19) 43 u_24) 44)))]) [67, 44] rfl
    have hD_27 := hD.sub (ws' := [(a 67, .inl (cy 0, 30, .inl ((va_up (va_up (va_up (va_up r 40 u_9) 41 u_14) 42 u_19) 43 u_24) 67))), (a 44, .inl (cy 0, 30, .inl ((va_up (va_up (va_up (va_up r 40 u_9) 41 u_14) 42 u_19) 43 u_24) 44)))]) [67, 44] (by decide) rfl
    have hF_26 := va_free (wc := [(a 67, .inl (cy 0, 30, .inl ((va_up (va_up (va_up (va_up r 40 u_9) 41 u_14) 42 u_19) 43 u_24) 67))), (a 44, .inl (cy 0, 30, .inl ((va_up (va_up (va_up (va_up r 40 u_9) 41 u_14) 42 u_19) 43 u_24) 44)))]) hD hS hA [67, 44] rfl
    refine va_callv (va_runS (As := [.ref (a 67), .ref (a 44), .int 30]) (rest := []) ⟨hx, hb, hml, hown, hT⟩ (c_X12_copies30 l D cy (a 67) (a 44) ((va_up (va_up (va_up (va_up r 40 u_9) 41 u_14) 42 u_19) 43 u_24) 67) ((va_up (va_up (va_up (va_up r 40 u_9) 41 u_14) 42 u_19) 43 u_24) 44) _) (va_cwS 3 hT (gS t_236 t_237 t_238 t_6) rfl rfl rfl (by decide +kernel) ⟨Nat.le_of_ble_eq_true rfl, Nat.le_of_ble_eq_true rfl⟩) (rQ_s hP_25 hK hD_27) rfl rfl hl.1 rfl (lv_room (Nat.le_of_ble_eq_true rfl)) dX12_undo_87 ⟨Nat.le_of_ble_eq_true rfl, Nat.le_of_ble_eq_true rfl⟩) hS (fun q _ h => hF_26 q h) hF_26 (fun u_29 t H1 locs ht hvm hr_28 hB hz1 hk1 hS => ?_)
    obtain ⟨hP1, hK1, hD1⟩ := hB
    rw [ht] at hP1
    obtain ⟨hP, hD⟩ := rj (wc := [(a 67, .inl (cy 0, 30, .inl ((va_up (va_up (va_up (va_up r 40 u_9) 41 u_14) 42 u_19) 43 u_24) 67))), (a 44, .inl (cy 0, 30, .inl ((va_up (va_up (va_up (va_up r 40 u_9) 41 u_14) 42 u_19) 43 u_24) 44)))]) (w1 := [(a 67, .inl (cy 0, 30, .inl ((va_up (va_up (va_up (va_up r 40 u_9) 41 u_14) 42 u_19) 43 u_24) 67))), (a 44, .inl (cy 0, 30, .inl u_29))]) hP hD [67, 44] rfl rfl hk1 hP1
    have hP : va_P D vwCl (mW cy a (upd (upd i 51 (i 79)) 1 (i 80)) (va_up (va_up (va_up (va_up (va_up r 40 u_9) 41 u_14) 42 u_19) 43 u_24) 44 u_29) rl) H1 := hP
    have hD : va_D A (mW cy a (upd (upd i 51 (i 79)) 1 (i 80)) (va_up (va_up (va_up (va_up (va_up r 40 u_9) 41 u_14) 42 u_19) 43 u_24) 44 u_29) rl) := hD
    have hRr : mRr (va_up (va_up (va_up (va_up (va_up r 40 u_9) 41 u_14) 42 u_19) 43 u_24) 44 u_29) := Rr_up hRr 44 u_29 (fun j => (hr_28 j).symm ▸ (show 0 ≤ (if j < 30 then ((va_up (va_up (va_up (va_up r 40 u_9) 41 u_14) 42 u_19) 43 u_24) 67) j else ((va_up (va_up (va_up (va_up r 40 u_9) 41 u_14) 42 u_19) 43 u_24) 44) j).toInt ∧ (if j < 30 then ((va_up (va_up (va_up (va_up r 40 u_9) 41 u_14) 42 u_19) 43 u_24) 67) j else ((va_up (va_up (va_up (va_up r 40 u_9) 41 u_14) 42 u_19) 43 u_24) 44) j).toInt ≤ 9999 from (by split; exact hRr 67 j; exact hRr 44 j)))
    have hEr : mEr [40, 41, 42, 43, 44, 45, 46, 47, 50, 51] _ (va_up (va_up (va_up (va_up (va_up r 40 u_9) 41 u_14) 42 u_19) 43 u_24) 44 u_29) := Er_up hEr 44 _ (by decide)
    refine lv_aload_n hx hb dX12_undo_90 rfl (lv_at hl 0 rfl) ?_
    refine va_get (D := D) (ci := 12) (v := .ref (a 68)) (C := RX12) (T := TX12) (N := 91) hx hb hT iX12 hown hK hP 0 rfl rfl 86 (by decide) (hT _ t_243) (fun _ h9 => h9) rfl dX12_undo_91 ?_
    refine lv_aload_n hx hb dX12_undo_94 rfl (lv_at hl 0 rfl) ?_
    refine va_get (D := D) (ci := 12) (v := .ref (a 45)) (C := RX12) (T := TX12) (N := 91) hx hb hT iX12 hown hK hP 0 rfl rfl 57 (by decide) (hT _ t_133) (fun _ h9 => h9) rfl dX12_undo_95 ?_
    refine lv_bipush (v := 30) hx hb dX12_undo_98 (by decide) ?_
    have hP_30 := hP.sub (ws' := [(a 68, .inl (cy 0, 30, .inl ((va_up (va_up (va_up (va_up (va_up r 40 u_9) 41 u_14) 42 u_19) 43 u_24) 44 u_29) 68))), (a 45, .inl (cy 0, 30, .inl ((va_up (va_up (va_up (va_up (va_up r 40 u_9) 41 u_14) 42 u_19) 43 u_24) 44 u_29) 45)))]) [68, 45] rfl
    have hD_32 := hD.sub (ws' := [(a 68, .inl (cy 0, 30, .inl ((va_up (va_up (va_up (va_up (va_up r 40 u_9) 41 u_14) 42 u_19) 43 u_24) 44 u_29) 68))), (a 45, .inl (cy 0, 30, .inl ((va_up (va_up (va_up (va_up (va_up r 40 u_9) 41 u_14) 42 u_19) 43 u_24) 44 u_29) 45)))]) [68, 45] (by decide) rfl
    have hF_31 := va_free (wc := [(a 68, .inl (cy 0, 30, .inl ((va_up (va_up (va_up (va_up (va_up r 40 u_9) 41 u_14) 42 u_19) 43 u_24) 44 u_29) 68))), (a 45, .inl (cy 0, 30, .inl ((va_up (va_up (va_up (va_up (va_up r 40 u_9) 41 u_14) 42 u_19) 43 u_24) 44 u_29) 45)))]) hD hS hA [68, 45] rfl
    refine va_callv (va_runS (As := [.ref (a 68), .ref (a 45), .int 30]) (rest := []) ⟨hx, hb, hml, hown, hT⟩ (c_X12_copies30 l D cy (a 68) (a 45) ((va_up (va_up (va_up (va_up (va_up r 40 u_9) 41 u_14) 42 u_19) 43 u_24) 44 u_29) 68) ((va_up (va_up (va_up (va_up (va_up r 40 u_9) 41 u_14) 42 u_19) 43 u_24) 44 u_29) 45) _) (va_cwS 3 hT (gS t_236 t_237 t_238 t_6) rfl rfl rfl (by decide +kernel) ⟨Nat.le_of_ble_eq_true rfl, Nat.le_of_ble_eq_true rfl⟩) (rQ_s hP_30 hK hD_32) rfl rfl hl.1 rfl (lv_room (Nat.le_of_ble_eq_true rfl)) dX12_undo_100 ⟨Nat.le_of_ble_eq_true rfl, Nat.le_of_ble_eq_true rfl⟩) hS (fun q _ h => hF_31 q h) hF_31 (fun u_34 t H1 locs ht hvm hr_33 hB hz1 hk1 hS => ?_)
    obtain ⟨hP1, hK1, hD1⟩ := hB
    rw [ht] at hP1
    obtain ⟨hP, hD⟩ := rj (wc := [(a 68, .inl (cy 0, 30, .inl ((va_up (va_up (va_up (va_up (va_up r 40 u_9) 41 u_14) 42 u_19) 43 u_24) 44 u_29) 68))), (a 45, .inl (cy 0, 30, .inl ((va_up (va_up (va_up (va_up (va_up r 40 u_9) 41 u_14) 42 u_19) 43 u_24) 44 u_29) 45)))]) (w1 := [(a 68, .inl (cy 0, 30, .inl ((va_up (va_up (va_up (va_up (va_up r 40 u_9) 41 u_14) 42 u_19) 43 u_24) 44 u_29) 68))), (a 45, .inl (cy 0, 30, .inl u_34))]) hP hD [68, 45] rfl rfl hk1 hP1
    have hP : va_P D vwCl (mW cy a (upd (upd i 51 (i 79)) 1 (i 80)) (va_up (va_up (va_up (va_up (va_up (va_up r 40 u_9) 41 u_14) 42 u_19) 43 u_24) 44 u_29) 45 u_34) rl) H1 := hP
    have hD : va_D A (mW cy a (upd (upd i 51 (i 79)) 1 (i 80)) (va_up (va_up (va_up (va_up (va_up (va_up r 40 u_9) 41 u_14) 42 u_19) 43 u_24) 44 u_29) 45 u_34) rl) := hD
    have hRr : mRr (va_up (va_up (va_up (va_up (va_up (va_up r 40 u_9) 41 u_14) 42 u_19) 43 u_24) 44 u_29) 45 u_34) := Rr_up hRr 45 u_34 (fun j => (hr_33 j).symm ▸ (show 0 ≤ (if j < 30 then ((va_up (va_up (va_up (va_up (va_up r 40 u_9) 41 u_14) 42 u_19) 43 u_24) 44 u_29) 68) j else ((va_up (va_up (va_up (va_up (va_up r 40 u_9) 41 u_14) 42 u_19) 43 u_24) 44 u_29) 45) j).toInt ∧ (if j < 30 then ((va_up (va_up (va_up (va_up (va_up r 40 u_9) 41 u_14) 42 u_19) 43 u_24) 44 u_29) 68) j else ((va_up (va_up (va_up (va_up (va_up r 40 u_9) 41 u_14) 42 u_19) 43 u_24) 44 u_29) 45) j).toInt ≤ 999999 from (by split; exact hRr 68 j; exact hRr 45 j)))
    have hEr : mEr [40, 41, 42, 43, 44, 45, 46, 47, 50, 51] _ (va_up (va_up (va_up (va_up (va_up (va_up r 40 u_9) 41 u_14) 42 u_19) 43 u_24) 44 u_29) 45 u_34) := Er_up hEr 45 _ (by decide)
    refine lv_aload_n hx hb dX12_undo_103 rfl (lv_at hl 0 rfl) ?_
    refine va_get (D := D) (ci := 12) (v := .ref (a 69)) (C := RX12) (T := TX12) (N := 91) hx hb hT iX12 hown hK hP 0 rfl rfl 87 (by decide) (hT _ t_244) (fun _ h9 => h9) rfl dX12_undo_104 ?_
    refine lv_aload_n hx hb dX12_undo_107 rfl (lv_at hl 0 rfl) ?_
    refine va_get (D := D) (ci := 12) (v := .ref (a 46)) (C := RX12) (T := TX12) (N := 91) hx hb hT iX12 hown hK hP 0 rfl rfl 58 (by decide) (hT _ t_138) (fun _ h9 => h9) rfl dX12_undo_108 ?_
    refine lv_bipush (v := 30) hx hb dX12_undo_111 (by decide) ?_
    have hP_35 := hP.sub (ws' := [(a 69, .inl (cy 0, 30, .inl ((va_up (va_up (va_up (va_up (va_up (va_up r 40 u_9) 41 u_14) 42 u_19) 43 u_24) 44 u_29) 45 u_34) 69))), (a 46, .inl (cy 0, 30, .inl ((va_up (va_up (va_up (va_up (va_up (va_up r 40 u_9) 41 u_14) 42 u_19) 43 u_24) 44 u_29) 45 u_34) 46)))]) [69, 46] rfl
    have hD_37 := hD.sub (ws' := [(a 69, .inl (cy 0, 30, .inl ((va_up (va_up (va_up (va_up (va_up (va_up r 40 u_9) 41 u_14) 42 u_19) 43 u_24) 44 u_29) 45 u_34) 69))), (a 46, .inl (cy 0, 30, .inl ((va_up (va_up (va_up (va_up (va_up (va_up r 40 u_9) 41 u_14) 42 u_19) 43 u_24) 44 u_29) 45 u_34) 46)))]) [69, 46] (by decide) rfl
    have hF_36 := va_free (wc := [(a 69, .inl (cy 0, 30, .inl ((va_up (va_up (va_up (va_up (va_up (va_up r 40 u_9) 41 u_14) 42 u_19) 43 u_24) 44 u_29) 45 u_34) 69))), (a 46, .inl (cy 0, 30, .inl ((va_up (va_up (va_up (va_up (va_up (va_up r 40 u_9) 41 u_14) 42 u_19) 43 u_24) 44 u_29) 45 u_34) 46)))]) hD hS hA [69, 46] rfl
    refine va_callv (va_runS (As := [.ref (a 69), .ref (a 46), .int 30]) (rest := []) ⟨hx, hb, hml, hown, hT⟩ (c_X12_copies30 l D cy (a 69) (a 46) ((va_up (va_up (va_up (va_up (va_up (va_up r 40 u_9) 41 u_14) 42 u_19) 43 u_24) 44 u_29) 45 u_34) 69) ((va_up (va_up (va_up (va_up (va_up (va_up r 40 u_9) 41 u_14) 42 u_19) 43 u_24) 44 u_29) 45 u_34) 46) _) (va_cwS 3 hT (gS t_236 t_237 t_238 t_6) rfl rfl rfl (by decide +kernel) ⟨Nat.le_of_ble_eq_true rfl, Nat.le_of_ble_eq_true rfl⟩) (rQ_s hP_35 hK hD_37) rfl rfl hl.1 rfl (lv_room (Nat.le_of_ble_eq_true rfl)) dX12_undo_113 ⟨Nat.le_of_ble_eq_true rfl, Nat.le_of_ble_eq_true rfl⟩) hS (fun q _ h => hF_36 q h) hF_36 (fun u_39 t H1 locs ht hvm hr_38 hB hz1 hk1 hS => ?_)
    obtain ⟨hP1, hK1, hD1⟩ := hB
    rw [ht] at hP1
    obtain ⟨hP, hD⟩ := rj (wc := [(a 69, .inl (cy 0, 30, .inl ((va_up (va_up (va_up (va_up (va_up (va_up r 40 u_9) 41 u_14) 42 u_19) 43 u_24) 44 u_29) 45 u_34) 69))), (a 46, .inl (cy 0, 30, .inl ((va_up (va_up (va_up (va_up (va_up (va_up r 40 u_9) 41 u_14) 42 u_19) 43 u_24) 44 u_29) 45 u_34) 46)))]) (w1 := [(a 69, .inl (cy 0, 30, .inl ((va_up (va_up (va_up (va_up (va_up (va_up r 40 u_9) 41 u_14) 42 u_19) 43 u_24) 44 u_29) 45 u_34) 69))), (a 46, .inl (cy 0, 30, .inl u_39))]) hP hD [69, 46] rfl rfl hk1 hP1
    have hP : va_P D vwCl (mW cy a (upd (upd i 51 (i 79)) 1 (i 80)) (va_up (va_up (va_up (va_up (va_up (va_up (va_up r 40 u_9) 41 u_14) 42 u_19) 43 u_24) 44 u_29) 45 u_34) 46 u_39) rl) H1 := hP
    have hD : va_D A (mW cy a (upd (upd i 51 (i 79)) 1 (i 80)) (va_up (va_up (va_up (va_up (va_up (va_up (va_up r 40 u_9) 41 u_14) 42 u_19) 43 u_24) 44 u_29) 45 u_34) 46 u_39) rl) := hD
    have hRr : mRr (va_up (va_up (va_up (va_up (va_up (va_up (va_up r 40 u_9) 41 u_14) 42 u_19) 43 u_24) 44 u_29) 45 u_34) 46 u_39) := Rr_up hRr 46 u_39 (fun j => (hr_38 j).symm ▸ (show -1 ≤ (if j < 30 then ((va_up (va_up (va_up (va_up (va_up (va_up r 40 u_9) 41 u_14) 42 u_19) 43 u_24) 44 u_29) 45 u_34) 69) j else ((va_up (va_up (va_up (va_up (va_up (va_up r 40 u_9) 41 u_14) 42 u_19) 43 u_24) 44 u_29) 45 u_34) 46) j).toInt ∧ (if j < 30 then ((va_up (va_up (va_up (va_up (va_up (va_up r 40 u_9) 41 u_14) 42 u_19) 43 u_24) 44 u_29) 45 u_34) 69) j else ((va_up (va_up (va_up (va_up (va_up (va_up r 40 u_9) 41 u_14) 42 u_19) 43 u_24) 44 u_29) 45 u_34) 46) j).toInt ≤ 9999 from (by split; exact hRr 69 j; exact hRr 46 j)))
    have hEr : mEr [40, 41, 42, 43, 44, 45, 46, 47, 50, 51] _ (va_up (va_up (va_up (va_up (va_up (va_up (va_up r 40 u_9) 41 u_14) 42 u_19) 43 u_24) 44 u_29) 45 u_34) 46 u_39) := Er_up hEr 46 _ (by decide)
    refine lv_aload_n hx hb dX12_undo_116 rfl (lv_at hl 0 rfl) ?_
    refine va_get (D := D) (ci := 12) (v := .ref (a 70)) (C := RX12) (T := TX12) (N := 91) hx hb hT iX12 hown hK hP 0 rfl rfl 88 (by decide) (hT _ t_245) (fun _ h9 => h9) rfl dX12_undo_117 ?_
    refine lv_aload_n hx hb dX12_undo_120 rfl (lv_at hl 0 rfl) ?_
    refine va_get (D := D) (ci := 12) (v := .ref (a 50)) (C := RX12) (T := TX12) (N := 91) hx hb hT iX12 hown hK hP 0 rfl rfl 64 (by decide) (hT _ t_186) (fun _ h9 => h9) rfl dX12_undo_121 ?_
    refine lv_bipush (v := 6) hx hb dX12_undo_124 (by decide) ?_
    have hP_40 := hP.sub (ws' := [(a 70, .inl (cy 0, 6, .inl ((va_up (va_up (va_up (va_up (va_up (va_up (va_up r 40 u_9) 41 u_14) 42 u_19) 43 u_24) 44 u_29) 45 u_34) 46 u_39) 70))), (a 50, .inl (cy 0, 6, .inl ((va_up (va_up (va_up (va_up (va_up (va_up (va_up r 40 u_9) 41 u_14) 42 u_19) 43 u_24) 44 u_29) 45 u_34) 46 u_39) 50)))]) [70, 50] rfl
    have hD_42 := hD.sub (ws' := [(a 70, .inl (cy 0, 6, .inl ((va_up (va_up (va_up (va_up (va_up (va_up (va_up r 40 u_9) 41 u_14) 42 u_19) 43 u_24) 44 u_29) 45 u_34) 46 u_39) 70))), (a 50, .inl (cy 0, 6, .inl ((va_up (va_up (va_up (va_up (va_up (va_up (va_up r 40 u_9) 41 u_14) 42 u_19) 43 u_24) 44 u_29) 45 u_34) 46 u_39) 50)))]) [70, 50] (by decide) rfl
    have hF_41 := va_free (wc := [(a 70, .inl (cy 0, 6, .inl ((va_up (va_up (va_up (va_up (va_up (va_up (va_up r 40 u_9) 41 u_14) 42 u_19) 43 u_24) 44 u_29) 45 u_34) 46 u_39) 70))), (a 50, .inl (cy 0, 6, .inl ((va_up (va_up (va_up (va_up (va_up (va_up (va_up r 40 u_9) 41 u_14) 42 u_19) 43 u_24) 44 u_29) 45 u_34) 46 u_39) 50)))]) hD hS hA [70, 50] rfl
    refine va_callv (va_runS (As := [.ref (a 70), .ref (a 50), .int 6]) (rest := []) ⟨hx, hb, hml, hown, hT⟩ (c_X12_copies6 l D cy (a 70) (a 50) ((va_up (va_up (va_up (va_up (va_up (va_up (va_up r 40 u_9) 41 u_14) 42 u_19) 43 u_24) 44 u_29) 45 u_34) 46 u_39) 70) ((va_up (va_up (va_up (va_up (va_up (va_up (va_up r 40 u_9) 41 u_14) 42 u_19) 43 u_24) 44 u_29) 45 u_34) 46 u_39) 50) _) (va_cwS 3 hT (gS t_236 t_237 t_238 t_6) rfl rfl rfl (by decide +kernel) ⟨Nat.le_of_ble_eq_true rfl, Nat.le_of_ble_eq_true rfl⟩) (rQ_s hP_40 hK hD_42) rfl rfl hl.1 rfl (lv_room (Nat.le_of_ble_eq_true rfl)) dX12_undo_126 ⟨Nat.le_of_ble_eq_true rfl, Nat.le_of_ble_eq_true rfl⟩) hS (fun q _ h => hF_41 q h) hF_41 (fun u_44 t H1 locs ht hvm hr_43 hB hz1 hk1 hS => ?_)
    obtain ⟨hP1, hK1, hD1⟩ := hB
    rw [ht] at hP1
    obtain ⟨hP, hD⟩ := rj (wc := [(a 70, .inl (cy 0, 6, .inl ((va_up (va_up (va_up (va_up (va_up (va_up (va_up r 40 u_9) 41 u_14) 42 u_19) 43 u_24) 44 u_29) 45 u_34) 46 u_39) 70))), (a 50, .inl (cy 0, 6, .inl ((va_up (va_up (va_up (va_up (va_up (va_up (va_up r 40 u_9) 41 u_14) 42 u_19) 43 u_24) 44 u_29) 45 u_34) 46 u_39) 50)))]) (w1 := [(a 70, .inl (cy 0, 6, .inl ((va_up (va_up (va_up (va_up (va_up (va_up (va_up r 40 u_9) 41 u_14) 42 u_19) 43 u_24) 44 u_29) 45 u_34) 46 u_39) 70))), (a 50, .inl (cy 0, 6, .inl u_44))]) hP hD [70, 50] rfl rfl hk1 hP1
    have hP : va_P D vwCl (mW cy a (upd (upd i 51 (i 79)) 1 (i 80)) (va_up (va_up (va_up (va_up (va_up (va_up (va_up (va_up r 40 u_9) 41 u_14) 42 u_19) 43 u_24) 44 u_29) 45 u_34) 46 u_39) 50 u_44) rl) H1 := hP
    have hD : va_D A (mW cy a (upd (upd i 51 (i 79)) 1 (i 80)) (va_up (va_up (va_up (va_up (va_up (va_up (va_up (va_up r 40 u_9) 41 u_14) 42 u_19) 43 u_24) 44 u_29) 45 u_34) 46 u_39) 50 u_44) rl) := hD
    have hRr : mRr (va_up (va_up (va_up (va_up (va_up (va_up (va_up (va_up r 40 u_9) 41 u_14) 42 u_19) 43 u_24) 44 u_29) 45 u_34) 46 u_39) 50 u_44) := Rr_up hRr 50 u_44 (fun j => (hr_43 j).symm ▸ (show 0 ≤ (if j < 6 then ((va_up (va_up (va_up (va_up (va_up (va_up (va_up r 40 u_9) 41 u_14) 42 u_19) 43 u_24) 44 u_29) 45 u_34) 46 u_39) 70) j else ((va_up (va_up (va_up (va_up (va_up (va_up (va_up r 40 u_9) 41 u_14) 42 u_19) 43 u_24) 44 u_29) 45 u_34) 46 u_39) 50) j).toInt ∧ (if j < 6 then ((va_up (va_up (va_up (va_up (va_up (va_up (va_up r 40 u_9) 41 u_14) 42 u_19) 43 u_24) 44 u_29) 45 u_34) 46 u_39) 70) j else ((va_up (va_up (va_up (va_up (va_up (va_up (va_up r 40 u_9) 41 u_14) 42 u_19) 43 u_24) 44 u_29) 45 u_34) 46 u_39) 50) j).toInt ≤ 1000000 from (by split; exact hRr 70 j; exact hRr 50 j)))
    have hEr : mEr [40, 41, 42, 43, 44, 45, 46, 47, 50, 51] _ (va_up (va_up (va_up (va_up (va_up (va_up (va_up (va_up r 40 u_9) 41 u_14) 42 u_19) 43 u_24) 44 u_29) 45 u_34) 46 u_39) 50 u_44) := Er_up hEr 50 _ (by decide)
    refine lv_aload_n hx hb dX12_undo_129 rfl (lv_at hl 0 rfl) ?_
    refine va_get (D := D) (ci := 12) (v := .ref (a 71)) (C := RX12) (T := TX12) (N := 91) hx hb hT iX12 hown hK hP 0 rfl rfl 89 (by decide) (hT _ t_246) (fun _ h9 => h9) rfl dX12_undo_130 ?_
    refine lv_aload_n hx hb dX12_undo_133 rfl (lv_at hl 0 rfl) ?_
    refine va_get (D := D) (ci := 12) (v := .ref (a 51)) (C := RX12) (T := TX12) (N := 91) hx hb hT iX12 hown hK hP 0 rfl rfl 65 (by decide) (hT _ t_185) (fun _ h9 => h9) rfl dX12_undo_134 ?_
    refine lv_bipush (v := 6) hx hb dX12_undo_137 (by decide) ?_
    have hP_45 := hP.sub (ws' := [(a 71, .inl (cy 0, 6, .inl ((va_up (va_up (va_up (va_up (va_up (va_up (va_up (va_up r 40 u_9) 41 u_14) 42 u_19) 43 u_24) 44 u_29) 45 u_34) 46 u_39) 50 u_44) 71))), (a 51, .inl (cy 0, 6, .inl ((va_up (va_up (va_up (va_up (va_up (va_up (va_up (va_up r 40 u_9) 41 u_14) 42 u_19) 43 u_24) 44 u_29) 45 u_34) 46 u_39) 50 u_44) 51)))]) [71, 51] rfl
    have hD_47 := hD.sub (ws' := [(a 71, .inl (cy 0, 6, .inl ((va_up (va_up (va_up (va_up (va_up (va_up (va_up (va_up r 40 u_9) 41 u_14) 42 u_19) 43 u_24) 44 u_29) 45 u_34) 46 u_39) 50 u_44) 71))), (a 51, .inl (cy 0, 6, .inl ((va_up (va_up (va_up (va_up (va_up (va_up (va_up (va_up r 40 u_9) 41 u_14) 42 u_19) 43 u_24) 44 u_29) 45 u_34) 46 u_39) 50 u_44) 51)))]) [71, 51] (by decide) rfl
    have hF_46 := va_free (wc := [(a 71, .inl (cy 0, 6, .inl ((va_up (va_up (va_up (va_up (va_up (va_up (va_up (va_up r 40 u_9) 41 u_14) 42 u_19) 43 u_24) 44 u_29) 45 u_34) 46 u_39) 50 u_44) 71))), (a 51, .inl (cy 0, 6, .inl ((va_up (va_up (va_up (va_up (va_up (va_up (va_up (va_up r 40 u_9) 41 u_14) 42 u_19) 43 u_24) 44 u_29) 45 u_34) 46 u_39) 50 u_44) 51)))]) hD hS hA [71, 51] rfl
    refine va_callv (va_runS (As := [.ref (a 71), .ref (a 51), .int 6]) (rest := []) ⟨hx, hb, hml, hown, hT⟩ (c_X12_copies6 l D cy (a 71) (a 51) ((va_up (va_up (va_up (va_up (va_up (va_up (va_up (va_up r 40 u_9) 41 u_14) 42 u_19) 43 u_24) 44 u_29) 45 u_34) 46 u_39) 50 u_44) 71) ((va_up (va_up (va_up (va_up (va_up (va_up (va_up (va_up r 40 u_9) 41 u_14) 42 u_19) 43 u_24) 44 u_29) 45 u_34) 46 u_39) 50 u_44) 51) _) (va_cwS 3 hT (gS t_236 t_237 t_238 t_6) rfl rfl rfl (by decide +kernel) ⟨Nat.le_of_ble_eq_true rfl, Nat.le_of_ble_eq_true rfl⟩) (rQ_s hP_45 hK hD_47) rfl rfl hl.1 rfl (lv_room (Nat.le_of_ble_eq_true rfl)) dX12_undo_139 ⟨Nat.le_of_ble_eq_true rfl, Nat.le_of_ble_eq_true rfl⟩) hS (fun q _ h => hF_46 q h) hF_46 (fun u_49 t H1 locs ht hvm hr_48 hB hz1 hk1 hS => ?_)
    obtain ⟨hP1, hK1, hD1⟩ := hB
    rw [ht] at hP1
    obtain ⟨hP, hD⟩ := rj (wc := [(a 71, .inl (cy 0, 6, .inl ((va_up (va_up (va_up (va_up (va_up (va_up (va_up (va_up r 40 u_9) 41 u_14) 42 u_19) 43 u_24) 44 u_29) 45 u_34) 46 u_39) 50 u_44) 71))), (a 51, .inl (cy 0, 6, .inl ((va_up (va_up (va_up (va_up (va_up (va_up (va_up (va_up r 40 u_9) 41 u_14) 42 u_19) 43 u_24) 44 u_29) 45 u_34) 46 u_39) 50 u_44) 51)))]) (w1 := [(a 71, .inl (cy 0, 6, .inl ((va_up (va_up (va_up (va_up (va_up (va_up (va_up (va_up r 40 u_9) 41 u_14) 42 u_19) 43 u_24) 44 u_29) 45 u_34) 46 u_39) 50 u_44) 71))), (a 51, .inl (cy 0, 6, .inl u_49))]) hP hD [71, 51] rfl rfl hk1 hP1
    have hP : va_P D vwCl (mW cy a (upd (upd i 51 (i 79)) 1 (i 80)) (va_up (va_up (va_up (va_up (va_up (va_up (va_up (va_up (va_up r 40 u_9) 41 u_14) 42 u_19) 43 u_24) 44 u_29) 45 u_34) 46 u_39) 50 u_44) 51 u_49) rl) H1 := hP
    have hD : va_D A (mW cy a (upd (upd i 51 (i 79)) 1 (i 80)) (va_up (va_up (va_up (va_up (va_up (va_up (va_up (va_up (va_up r 40 u_9) 41 u_14) 42 u_19) 43 u_24) 44 u_29) 45 u_34) 46 u_39) 50 u_44) 51 u_49) rl) := hD
    have hRr : mRr (va_up (va_up (va_up (va_up (va_up (va_up (va_up (va_up (va_up r 40 u_9) 41 u_14) 42 u_19) 43 u_24) 44 u_29) 45 u_34) 46 u_39) 50 u_44) 51 u_49) := Rr_up hRr 51 u_49 (fun j => (hr_48 j).symm ▸ (show 0 ≤ (if j < 6 then ((va_up (va_up (va_up (va_up (va_up (va_up (va_up (va_up r 40 u_9) 41 u_14) 42 u_19) 43 u_24) 44 u_29) 45 u_34) 46 u_39) 50 u_44) 71) j else ((va_up (va_up (va_up (va_up (va_up (va_up (va_up (va_up r 40 u_9) 41 u_14) 42 u_19) 43 u_24) 44 u_29) 45 u_34) 46 u_39) 50 u_44) 51) j).toInt ∧ (if j < 6 then ((va_up (va_up (va_up (va_up (va_up (va_up (va_up (va_up r 40 u_9) 41 u_14) 42 u_19) 43 u_24) 44 u_29) 45 u_34) 46 u_39) 50 u_44) 71) j else ((va_up (va_up (va_up (va_up (va_up (va_up (va_up (va_up r 40 u_9) 41 u_14) 42 u_19) 43 u_24) 44 u_29) 45 u_34) 46 u_39) 50 u_44) 51) j).toInt ≤ 1000000 from (by split; exact hRr 71 j; exact hRr 51 j)))
    have hEr : mEr [40, 41, 42, 43, 44, 45, 46, 47, 50, 51] _ (va_up (va_up (va_up (va_up (va_up (va_up (va_up (va_up (va_up r 40 u_9) 41 u_14) 42 u_19) 43 u_24) 44 u_29) 45 u_34) 46 u_39) 50 u_44) 51 u_49) := Er_up hEr 51 _ (by decide)
    refine lv_iconst (v := 0) hx hb dX12_undo_142 (by decide) ?_
    refine lv_istore_n (lv' := [(1, .int 0), (0, .ref (a 0))]) hx hb dX12_undo_143 rfl hl (by decide) rfl (fun ls hl => ?_)
    have loop_50 : ∀ (n : Nat) (x50_1 : Int32) (r50 : Nat → Nat → Int32) (H : Heap) (locs : List Loc) (ls : Array Slot), (30 - x50_1.toInt).toNat < n → (0 ≤ x50_1.toInt ∧ x50_1.toInt ≤ 30) → mRr r50 → mEr [40, 41, 42, 43, 44, 45, 46, 47, 50, 51] r r50 → (mEr [47] (va_up (va_up (va_up (va_up (va_up (va_up (va_up (va_up (va_up r 40 u_9) 41 u_14) 42 u_19) 43 u_24) 44 u_29) 45 u_34) 46 u_39) 50 u_44) 51 u_49) r50) → va_P D vwCl (mW cy a (upd (upd i 51 (i 79)) 1 (i 80)) r50 rl) H → va_D A (mW cy a (upd (upd i 51 (i 79)) 1 (i 80)) r50 rl) → va_S A s.heap H locs → lv_has ls 2 [(1, .int x50_1), (0, .ref (a 0))] → W p l e ({ frames := 2, cells := 0, slots := 0, locals := 47 } : Room) s m ([.ref (a 0)] : List Value).toArray below meth c H locs 0 0 Q (F0 m 144 ls []) := by
      intro n
      induction n with
      | zero =>
        intro x50_1 r50 H locs ls hm50 hf50_0 hRr hEr hx50 hP hD hS hl
        exact absurd hm50 (by omega)
      | succ n ih50 =>
        intro x50_1 r50 H locs ls hm50 hf50_0 hRr hEr hx50 hP hD hS hl
        refine lv_iload_n hx hb dX12_undo_144 rfl (lv_at hl 0 rfl) ?_
        refine lv_bipush (v := 30) hx hb dX12_undo_145 (by decide) ?_
        refine lv_icmp_ge (tgt := 168) hx hb dX12_undo_147 (by decide) (fun c_51 => ?_) (fun c_51 => ?_)
        · have c_51 : 30 ≤ x50_1.toInt := b_le c_51
          refine lv_iconst (v := 1) hx hb dX12_undo_168 (by decide) ?_
          subst hQ
          have ha : ∀ c, c < 30 → r50 40 c = r 63 c := by
            intro c hc
            rw [hx50 40 (by decide)]
            exact (hr_8 c).trans (if_pos hc)
          have hb9 : ∀ c, c < 30 → r50 41 c = r 64 c := by
            intro c hc
            rw [hx50 41 (by decide)]
            exact (hr_13 c).trans (if_pos hc)
          exact W.zret hx hb hr rfl (fun t ht hW => ⟨⟨_, (upd (upd i 51 (i 79)) 1 (i 80), r50), rfl, ⟨hRi, hRr, hEi, hEr, mE_undo hE (by have h9 : (i 79).toInt ≤ 30 := (hRi0 79).2; exact h9) rfl rfl rfl rfl ha hb9 (hx50 4 (by decide)) (hx50 10 (by decide)) (hx50 14 (by decide)) (hx50 27 (by decide)) (hx50 28 (by decide)) (hx50 29 (by decide)) (hx50 30 (by decide)) (hx50 31 (by decide)) (hx50 63 (by decide)) (hx50 64 (by decide))⟩, by rw [ht]; exact hP, va_K.moved hW.alike hK, hD⟩, hS.F ht⟩) hS.2.2 dX12_undo_169
        · have c_51 : x50_1.toInt < 30 := b_nle c_51
          refine lv_aload_n hx hb dX12_undo_150 rfl (lv_at hl 1 rfl) ?_
          refine va_get (D := D) (ci := 12) (v := .ref (a 47)) (C := RX12) (T := TX12) (N := 91) hx hb hT iX12 hown hK hP 0 rfl rfl 59 (by decide) (hT _ t_152) (fun _ h9 => h9) rfl dX12_undo_151 ?_
          refine lv_iload_n hx hb dX12_undo_154 rfl (lv_at hl 0 rfl) ?_
          refine lv_aload_n hx hb dX12_undo_155 rfl (lv_at hl 1 rfl) ?_
          refine va_get (D := D) (ci := 12) (v := .ref (a 72)) (C := RX12) (T := TX12) (N := 91) hx hb hT iX12 hown hK hP 0 rfl rfl 90 (by decide) (hT _ t_247) (fun _ h9 => h9) rfl dX12_undo_156 ?_
          refine lv_iload_n hx hb dX12_undo_159 rfl (lv_at hl 0 rfl) ?_
          refine va_zald hx hb hK hP 72 2 rfl rfl (vp_inI (by omega) (by omega)) dX12_undo_160 ?_
          refine lv_topi (fun v_52 ev_52 => ?_)
          refine va_zast hx hb hK hP hD hS 47 2 rfl rfl (vp_inI (by omega) (by omega)) dX12_undo_161 (fun H locs hP hD hS => ?_)
          rw [mS47] at hP hD
          have hRr : mRr (va_up r50 47 (upd (r50 47) x50_1.toNatClampNeg (vp_nar .boolean v_52))) := Rr_upd hRr 47 (x50_1.toNatClampNeg) (vp_nar .boolean v_52) (b_rg _)
          have hEr : mEr [40, 41, 42, 43, 44, 45, 46, 47, 50, 51] _ (va_up r50 47 (upd (r50 47) x50_1.toNatClampNeg (vp_nar .boolean v_52))) := Er_up hEr 47 _ (by decide)
          obtain ⟨x_53, ex_53⟩ : ∃ y : Int32, y = x50_1 + 1 := ⟨_, rfl⟩
          refine lv_iinc (v := x_53) (lv' := [(1, .int x_53), (0, .ref (a 0))]) hx hb dX12_undo_162 hl (k := 0) rfl (by rw [ex_53]; rfl) (by decide) rfl (fun ls hl => ?_)
          have hx_53 : x_53.toInt = x50_1.toInt + 1 := by rw [ex_53]; have := b_rg x50_1; exact i_add (a := x50_1.toInt) (b := 1) rfl rfl (by omega) (by omega)
          refine lv_goto (tgt := 144) hx hb dX12_undo_165 (by decide) ?_
          exact ih50 x_53 (va_up r50 47 (upd (r50 47) x50_1.toNatClampNeg (vp_nar .boolean v_52))) _ _ _ (by first | omega | (simp only [Int.toNat]; omega)) (by first | omega | decide) hRr hEr (Er_up hx50 47 _ (by decide)) hP hD hS (lv_sub hl [0, 1] rfl)
    exact loop_50 _ 0 (va_up (va_up (va_up (va_up (va_up (va_up (va_up (va_up (va_up r 40 u_9) 41 u_14) 42 u_19) 43 u_24) 44 u_29) 45 u_34) 46 u_39) 50 u_44) 51 u_49) _ _ _ (Nat.lt_succ_self _) (by first | omega | decide) hRr hEr (Er_rf) hP hD hS hl
  · have c_2 : (i 78).toInt = 0 := b_nne c_2
    refine lv_iconst (v := 0) hx hb dX12_undo_7 (by decide) ?_
    subst hQ
    exact W.zret hx hb hr rfl (fun t ht hW => ⟨⟨_, (i, r), rfl, ⟨hRi, hRr, hEi, hEr, hE⟩, by rw [ht]; exact hP, va_K.moved hW.alike hK, hD⟩, hS.F ht⟩) hS.2.2 dX12_undo_8
