set_option maxRecDepth 100000 in
theorem t_200 : Cond.fieldLink RX12 68 "DepositJudgeModel" "tape" "[B" ∈ gT := tm (tb4 (List.mem_of_getElem? (i := 218) (by rfl))) (by decide +kernel)
set_option maxRecDepth 100000 in
theorem t_201 : Cond.fieldLink RX12 255 "DepositJudgeModel" "taped" "I" ∈ gT := tm (tb4 (List.mem_of_getElem? (i := 219) (by rfl))) (by decide +kernel)
set_option maxRecDepth 100000 in
theorem t_202 : Cond.code yX12_types cX12_types 3 none ∈ gT := tm (tb6 (List.mem_of_getElem? (i := 45) (by rfl))) (by decide +kernel)
set_option maxRecDepth 100000 in
theorem t_203 : Cond.methodLink RX12 258 yX12_types ∈ gT := tm (tb6 (List.mem_of_getElem? (i := 42) (by rfl))) (by decide +kernel)
set_option maxRecDepth 100000 in
theorem t_204 : Cond.instanceMethod yX12_types ∈ gT := tm (tb6 (List.mem_of_getElem? (i := 44) (by rfl))) (by decide +kernel)
theorem t_205 : Cond.selects RX12 yX12_types yX12_types ∈ gT := tmp (List.mem_of_getElem? (i := 33) (by decide +kernel)) (by decide +kernel)
set_option maxRecDepth 100000 in
theorem t_206 : Cond.fieldLink RX12 193 "DepositJudgeModel" "behind" "[I" ∈ gT := tm (tb5 (List.mem_of_getElem? (i := 33) (by rfl))) (by decide +kernel)
set_option maxRecDepth 100000 in
theorem t_207 : Cond.code yX12_sum cX12_sum 2 (some .int) ∈ gT := tm (tb7 (List.mem_of_getElem? (i := 120) (by rfl))) (by decide +kernel)
set_option maxRecDepth 100000 in
theorem t_208 : Cond.methodLink RX12 490 yX12_sum ∈ gT := tm (tb7 (List.mem_of_getElem? (i := 118) (by rfl))) (by decide +kernel)
set_option maxRecDepth 100000 in
theorem t_209 : Cond.static yX12_sum ∈ gT := tm (tb7 (List.mem_of_getElem? (i := 119) (by rfl))) (by decide +kernel)
set_option maxRecDepth 100000 in
theorem t_210 : Cond.fieldLink RX12 196 "DepositJudgeModel" "isWrong" "[Z" ∈ gT := tm (tb5 (List.mem_of_getElem? (i := 34) (by rfl))) (by decide +kernel)
set_option maxRecDepth 100000 in
theorem t_211 : Cond.code yX12_tellsFact cX12_tellsFact 8 none ∈ gT := tm (tb7 (List.mem_of_getElem? (i := 117) (by rfl))) (by decide +kernel)
set_option maxRecDepth 100000 in
theorem t_212 : Cond.methodLink RX12 493 yX12_tellsFact ∈ gT := tm (tb7 (List.mem_of_getElem? (i := 114) (by rfl))) (by decide +kernel)
set_option maxRecDepth 100000 in
theorem t_213 : Cond.instanceMethod yX12_tellsFact ∈ gT := tm (tb7 (List.mem_of_getElem? (i := 116) (by rfl))) (by decide +kernel)
theorem t_214 : Cond.selects RX12 yX12_tellsFact yX12_tellsFact ∈ gT := tmp (List.mem_of_getElem? (i := 85) (by decide +kernel)) (by decide +kernel)
set_option maxRecDepth 100000 in
theorem t_215 : Cond.code yX12_laysFacts cX12_laysFacts 2 none ∈ gT := tm (tb7 (List.mem_of_getElem? (i := 112) (by rfl))) (by decide +kernel)
set_option maxRecDepth 100000 in
theorem t_216 : Cond.methodLink RX12 497 yX12_laysFacts ∈ gT := tm (tb7 (List.mem_of_getElem? (i := 109) (by rfl))) (by decide +kernel)
set_option maxRecDepth 100000 in
theorem t_217 : Cond.instanceMethod yX12_laysFacts ∈ gT := tm (tb7 (List.mem_of_getElem? (i := 111) (by rfl))) (by decide +kernel)
theorem t_218 : Cond.selects RX12 yX12_laysFacts yX12_laysFacts ∈ gT := tmp (List.mem_of_getElem? (i := 84) (by decide +kernel)) (by decide +kernel)
set_option maxRecDepth 100000 in
theorem t_219 : Cond.constant RX12 496 (-100000) ∈ gT := tm (tb7 (List.mem_of_getElem? (i := 108) (by rfl))) (by decide +kernel)
set_option maxRecDepth 100000 in
theorem t_220 : Cond.code yX12_size cX12_size 1 (some .int) ∈ gT := tm (tb7 (List.mem_of_getElem? (i := 84) (by rfl))) (by decide +kernel)
set_option maxRecDepth 100000 in
theorem t_221 : Cond.methodLink RX12 473 yX12_size ∈ gT := tm (tb7 (List.mem_of_getElem? (i := 82) (by rfl))) (by decide +kernel)
set_option maxRecDepth 100000 in
theorem t_222 : Cond.static yX12_size ∈ gT := tm (tb7 (List.mem_of_getElem? (i := 83) (by rfl))) (by decide +kernel)
set_option maxRecDepth 100000 in
theorem t_223 : Cond.fieldLink RX12 181 "DepositJudgeModel" "harmed" "[I" ∈ gT := tm (tb5 (List.mem_of_getElem? (i := 28) (by rfl))) (by decide +kernel)
set_option maxRecDepth 100000 in
theorem t_224 : Cond.code yX12_laysHarmed cX12_laysHarmed 3 none ∈ gT := tm (tb7 (List.mem_of_getElem? (i := 95) (by rfl))) (by decide +kernel)
set_option maxRecDepth 100000 in
theorem t_225 : Cond.methodLink RX12 480 yX12_laysHarmed ∈ gT := tm (tb7 (List.mem_of_getElem? (i := 92) (by rfl))) (by decide +kernel)
set_option maxRecDepth 100000 in
theorem t_226 : Cond.instanceMethod yX12_laysHarmed ∈ gT := tm (tb7 (List.mem_of_getElem? (i := 94) (by rfl))) (by decide +kernel)
theorem t_227 : Cond.selects RX12 yX12_laysHarmed yX12_laysHarmed ∈ gT := tmp (List.mem_of_getElem? (i := 82) (by decide +kernel)) (by decide +kernel)
set_option maxRecDepth 100000 in
theorem t_228 : Cond.code yX12_distance cX12_distance 5 (some .int) ∈ gT := tm (tb7 (List.mem_of_getElem? (i := 99) (by rfl))) (by decide +kernel)
set_option maxRecDepth 100000 in
theorem t_229 : Cond.methodLink RX12 483 yX12_distance ∈ gT := tm (tb7 (List.mem_of_getElem? (i := 96) (by rfl))) (by decide +kernel)
set_option maxRecDepth 100000 in
theorem t_230 : Cond.instanceMethod yX12_distance ∈ gT := tm (tb7 (List.mem_of_getElem? (i := 98) (by rfl))) (by decide +kernel)
theorem t_231 : Cond.selects RX12 yX12_distance yX12_distance ∈ gT := tmp (List.mem_of_getElem? (i := 83) (by decide +kernel)) (by decide +kernel)
def dl_148 : List (Nat × (Instr × Nat)) := [(0, (.iload_n 1, 1)), (1, (.tableswitch 78 0 6 #[43, 48, 53, 58, 63, 68, 73], 43)), (44, (.aload_n 0, 1)), (45, (.getfield 234, 3)), (48, (.ireturn, 1)), (49, (.aload_n 0, 1)), (50, (.getfield 417, 3)), (53, (.ireturn, 1)), (54, (.aload_n 0, 1)), (55, (.getfield 353, 3)), (58, (.ireturn, 1)), (59, (.aload_n 0, 1)), (60, (.getfield 255, 3)), (63, (.ireturn, 1)), (64, (.aload_n 0, 1)), (65, (.getfield 470, 3)), (68, (.ireturn, 1)), (69, (.aload_n 0, 1)), (70, (.getfield 486, 3)), (73, (.ireturn, 1))]
theorem dh_148 : dchk cX12_count dl_148 = true := by decide +kernel
theorem dX12_count_0 : decode cX12_count 0 = .ok (.iload_n 1, 1) := dget dh_148 (k := 0) rfl
theorem dX12_count_1 : decode cX12_count 1 = .ok (.tableswitch 78 0 6 #[43, 48, 53, 58, 63, 68, 73], 43) := dget dh_148 (k := 1) rfl
theorem dX12_count_44 : decode cX12_count 44 = .ok (.aload_n 0, 1) := dget dh_148 (k := 2) rfl
theorem dX12_count_45 : decode cX12_count 45 = .ok (.getfield 234, 3) := dget dh_148 (k := 3) rfl
theorem dX12_count_48 : decode cX12_count 48 = .ok (.ireturn, 1) := dget dh_148 (k := 4) rfl
theorem dX12_count_49 : decode cX12_count 49 = .ok (.aload_n 0, 1) := dget dh_148 (k := 5) rfl
theorem dX12_count_50 : decode cX12_count 50 = .ok (.getfield 417, 3) := dget dh_148 (k := 6) rfl
theorem dX12_count_53 : decode cX12_count 53 = .ok (.ireturn, 1) := dget dh_148 (k := 7) rfl
theorem dX12_count_54 : decode cX12_count 54 = .ok (.aload_n 0, 1) := dget dh_148 (k := 8) rfl
theorem dX12_count_55 : decode cX12_count 55 = .ok (.getfield 353, 3) := dget dh_148 (k := 9) rfl
theorem dX12_count_58 : decode cX12_count 58 = .ok (.ireturn, 1) := dget dh_148 (k := 10) rfl
theorem dX12_count_59 : decode cX12_count 59 = .ok (.aload_n 0, 1) := dget dh_148 (k := 11) rfl
theorem dX12_count_60 : decode cX12_count 60 = .ok (.getfield 255, 3) := dget dh_148 (k := 12) rfl
theorem dX12_count_63 : decode cX12_count 63 = .ok (.ireturn, 1) := dget dh_148 (k := 13) rfl
theorem dX12_count_64 : decode cX12_count 64 = .ok (.aload_n 0, 1) := dget dh_148 (k := 14) rfl
theorem dX12_count_65 : decode cX12_count 65 = .ok (.getfield 470, 3) := dget dh_148 (k := 15) rfl
theorem dX12_count_68 : decode cX12_count 68 = .ok (.ireturn, 1) := dget dh_148 (k := 16) rfl
theorem dX12_count_69 : decode cX12_count 69 = .ok (.aload_n 0, 1) := dget dh_148 (k := 17) rfl
theorem dX12_count_70 : decode cX12_count 70 = .ok (.getfield 486, 3) := dget dh_148 (k := 18) rfl
theorem dX12_count_73 : decode cX12_count 73 = .ok (.ireturn, 1) := dget dh_148 (k := 19) rfl
def dl_149 : List (Nat × (Instr × Nat)) := [(74, (.aload_n 0, 1)), (75, (.getfield 229, 3)), (78, (.ireturn, 1)), (79, (.iload_n 1, 1)), (80, (.bipush 10, 2)), (82, (.bipush 9, 2)), (84, (.aload_n 0, 1)), (85, (.getfield 234, 3)), (88, (.iadd, 1)), (89, (.invokestatic 241, 3)), (92, (.ifCond .eq 13, 3)), (95, (.aload_n 0, 1)), (96, (.getfield 37, 3)), (99, (.iload_n 1, 1)), (100, (.bipush 10, 2)), (102, (.isub, 1)), (103, (.iaload, 1)), (104, (.ireturn, 1)), (105, (.iload_n 1, 1)), (106, (.bipush 20, 2))]
theorem dh_149 : dchk cX12_count dl_149 = true := by decide +kernel
theorem dX12_count_74 : decode cX12_count 74 = .ok (.aload_n 0, 1) := dget dh_149 (k := 0) rfl
theorem dX12_count_75 : decode cX12_count 75 = .ok (.getfield 229, 3) := dget dh_149 (k := 1) rfl
theorem dX12_count_78 : decode cX12_count 78 = .ok (.ireturn, 1) := dget dh_149 (k := 2) rfl
theorem dX12_count_79 : decode cX12_count 79 = .ok (.iload_n 1, 1) := dget dh_149 (k := 3) rfl
theorem dX12_count_80 : decode cX12_count 80 = .ok (.bipush 10, 2) := dget dh_149 (k := 4) rfl
theorem dX12_count_82 : decode cX12_count 82 = .ok (.bipush 9, 2) := dget dh_149 (k := 5) rfl
theorem dX12_count_84 : decode cX12_count 84 = .ok (.aload_n 0, 1) := dget dh_149 (k := 6) rfl
theorem dX12_count_85 : decode cX12_count 85 = .ok (.getfield 234, 3) := dget dh_149 (k := 7) rfl
theorem dX12_count_88 : decode cX12_count 88 = .ok (.iadd, 1) := dget dh_149 (k := 8) rfl
theorem dX12_count_89 : decode cX12_count 89 = .ok (.invokestatic 241, 3) := dget dh_149 (k := 9) rfl
theorem dX12_count_92 : decode cX12_count 92 = .ok (.ifCond .eq 13, 3) := dget dh_149 (k := 10) rfl
theorem dX12_count_95 : decode cX12_count 95 = .ok (.aload_n 0, 1) := dget dh_149 (k := 11) rfl
theorem dX12_count_96 : decode cX12_count 96 = .ok (.getfield 37, 3) := dget dh_149 (k := 12) rfl
theorem dX12_count_99 : decode cX12_count 99 = .ok (.iload_n 1, 1) := dget dh_149 (k := 13) rfl
theorem dX12_count_100 : decode cX12_count 100 = .ok (.bipush 10, 2) := dget dh_149 (k := 14) rfl
theorem dX12_count_102 : decode cX12_count 102 = .ok (.isub, 1) := dget dh_149 (k := 15) rfl
theorem dX12_count_103 : decode cX12_count 103 = .ok (.iaload, 1) := dget dh_149 (k := 16) rfl
theorem dX12_count_104 : decode cX12_count 104 = .ok (.ireturn, 1) := dget dh_149 (k := 17) rfl
theorem dX12_count_105 : decode cX12_count 105 = .ok (.iload_n 1, 1) := dget dh_149 (k := 18) rfl
theorem dX12_count_106 : decode cX12_count 106 = .ok (.bipush 20, 2) := dget dh_149 (k := 19) rfl
def dl_150 : List (Nat × (Instr × Nat)) := [(108, (.bipush 19, 2)), (110, (.aload_n 0, 1)), (111, (.getfield 234, 3)), (114, (.iadd, 1)), (115, (.invokestatic 241, 3)), (118, (.ifCond .eq 13, 3)), (121, (.aload_n 0, 1)), (122, (.getfield 40, 3)), (125, (.iload_n 1, 1)), (126, (.bipush 20, 2)), (128, (.isub, 1)), (129, (.iaload, 1)), (130, (.ireturn, 1)), (131, (.iload_n 1, 1)), (132, (.bipush 30, 2)), (134, (.bipush 29, 2)), (136, (.aload_n 0, 1)), (137, (.getfield 417, 3)), (140, (.iadd, 1)), (141, (.invokestatic 241, 3))]
theorem dh_150 : dchk cX12_count dl_150 = true := by decide +kernel
theorem dX12_count_108 : decode cX12_count 108 = .ok (.bipush 19, 2) := dget dh_150 (k := 0) rfl
theorem dX12_count_110 : decode cX12_count 110 = .ok (.aload_n 0, 1) := dget dh_150 (k := 1) rfl
theorem dX12_count_111 : decode cX12_count 111 = .ok (.getfield 234, 3) := dget dh_150 (k := 2) rfl
theorem dX12_count_114 : decode cX12_count 114 = .ok (.iadd, 1) := dget dh_150 (k := 3) rfl
theorem dX12_count_115 : decode cX12_count 115 = .ok (.invokestatic 241, 3) := dget dh_150 (k := 4) rfl
theorem dX12_count_118 : decode cX12_count 118 = .ok (.ifCond .eq 13, 3) := dget dh_150 (k := 5) rfl
theorem dX12_count_121 : decode cX12_count 121 = .ok (.aload_n 0, 1) := dget dh_150 (k := 6) rfl
theorem dX12_count_122 : decode cX12_count 122 = .ok (.getfield 40, 3) := dget dh_150 (k := 7) rfl
theorem dX12_count_125 : decode cX12_count 125 = .ok (.iload_n 1, 1) := dget dh_150 (k := 8) rfl
theorem dX12_count_126 : decode cX12_count 126 = .ok (.bipush 20, 2) := dget dh_150 (k := 9) rfl
theorem dX12_count_128 : decode cX12_count 128 = .ok (.isub, 1) := dget dh_150 (k := 10) rfl
theorem dX12_count_129 : decode cX12_count 129 = .ok (.iaload, 1) := dget dh_150 (k := 11) rfl
theorem dX12_count_130 : decode cX12_count 130 = .ok (.ireturn, 1) := dget dh_150 (k := 12) rfl
theorem dX12_count_131 : decode cX12_count 131 = .ok (.iload_n 1, 1) := dget dh_150 (k := 13) rfl
theorem dX12_count_132 : decode cX12_count 132 = .ok (.bipush 30, 2) := dget dh_150 (k := 14) rfl
theorem dX12_count_134 : decode cX12_count 134 = .ok (.bipush 29, 2) := dget dh_150 (k := 15) rfl
theorem dX12_count_136 : decode cX12_count 136 = .ok (.aload_n 0, 1) := dget dh_150 (k := 16) rfl
theorem dX12_count_137 : decode cX12_count 137 = .ok (.getfield 417, 3) := dget dh_150 (k := 17) rfl
theorem dX12_count_140 : decode cX12_count 140 = .ok (.iadd, 1) := dget dh_150 (k := 18) rfl
theorem dX12_count_141 : decode cX12_count 141 = .ok (.invokestatic 241, 3) := dget dh_150 (k := 19) rfl
def dl_151 : List (Nat × (Instr × Nat)) := [(144, (.ifCond .eq 15, 3)), (147, (.aload_n 0, 1)), (148, (.getfield 129, 3)), (151, (.iload_n 1, 1)), (152, (.bipush 30, 2)), (154, (.isub, 1)), (155, (.iaload, 1)), (156, (.goto 4, 3)), (159, (.iconst (-1), 1)), (160, (.ireturn, 1))]
theorem dh_151 : dchk cX12_count dl_151 = true := by decide +kernel
theorem dX12_count_144 : decode cX12_count 144 = .ok (.ifCond .eq 15, 3) := dget dh_151 (k := 0) rfl
theorem dX12_count_147 : decode cX12_count 147 = .ok (.aload_n 0, 1) := dget dh_151 (k := 1) rfl
theorem dX12_count_148 : decode cX12_count 148 = .ok (.getfield 129, 3) := dget dh_151 (k := 2) rfl
theorem dX12_count_151 : decode cX12_count 151 = .ok (.iload_n 1, 1) := dget dh_151 (k := 3) rfl
theorem dX12_count_152 : decode cX12_count 152 = .ok (.bipush 30, 2) := dget dh_151 (k := 4) rfl
theorem dX12_count_154 : decode cX12_count 154 = .ok (.isub, 1) := dget dh_151 (k := 5) rfl
theorem dX12_count_155 : decode cX12_count 155 = .ok (.iaload, 1) := dget dh_151 (k := 6) rfl
theorem dX12_count_156 : decode cX12_count 156 = .ok (.goto 4, 3) := dget dh_151 (k := 7) rfl
theorem dX12_count_159 : decode cX12_count 159 = .ok (.iconst (-1), 1) := dget dh_151 (k := 8) rfl
theorem dX12_count_160 : decode cX12_count 160 = .ok (.ireturn, 1) := dget dh_151 (k := 9) rfl
def dl_152 : List (Nat × (Instr × Nat)) := [(0, (.iload_n 1, 1)), (1, (.iconst 0, 1)), (2, (.bipush 9, 2)), (4, (.invokestatic 241, 3)), (7, (.ifCond .eq 12, 3)), (10, (.iload_n 2, 1)), (11, (.iconst 0, 1)), (12, (.iconst 1, 1)), (13, (.invokestatic 241, 3)), (16, (.ifCond .ne 7, 3)), (19, (.ldc_w 496, 3)), (22, (.ireturn, 1)), (23, (.aload_n 0, 1)), (24, (.invokevirtual 497, 3)), (27, (.iload_n 2, 1)), (28, (.ifCond .ne 15, 3)), (31, (.aload_n 0, 1)), (32, (.getfield 193, 3)), (35, (.bipush 110, 2)), (37, (.iload_n 1, 1))]
theorem dh_152 : dchk cX12_dated dl_152 = true := by decide +kernel
theorem dX12_dated_0 : decode cX12_dated 0 = .ok (.iload_n 1, 1) := dget dh_152 (k := 0) rfl
theorem dX12_dated_1 : decode cX12_dated 1 = .ok (.iconst 0, 1) := dget dh_152 (k := 1) rfl
theorem dX12_dated_2 : decode cX12_dated 2 = .ok (.bipush 9, 2) := dget dh_152 (k := 2) rfl
theorem dX12_dated_4 : decode cX12_dated 4 = .ok (.invokestatic 241, 3) := dget dh_152 (k := 3) rfl
theorem dX12_dated_7 : decode cX12_dated 7 = .ok (.ifCond .eq 12, 3) := dget dh_152 (k := 4) rfl
theorem dX12_dated_10 : decode cX12_dated 10 = .ok (.iload_n 2, 1) := dget dh_152 (k := 5) rfl
theorem dX12_dated_11 : decode cX12_dated 11 = .ok (.iconst 0, 1) := dget dh_152 (k := 6) rfl
theorem dX12_dated_12 : decode cX12_dated 12 = .ok (.iconst 1, 1) := dget dh_152 (k := 7) rfl
theorem dX12_dated_13 : decode cX12_dated 13 = .ok (.invokestatic 241, 3) := dget dh_152 (k := 8) rfl
theorem dX12_dated_16 : decode cX12_dated 16 = .ok (.ifCond .ne 7, 3) := dget dh_152 (k := 9) rfl
theorem dX12_dated_19 : decode cX12_dated 19 = .ok (.ldc_w 496, 3) := dget dh_152 (k := 10) rfl
theorem dX12_dated_22 : decode cX12_dated 22 = .ok (.ireturn, 1) := dget dh_152 (k := 11) rfl
theorem dX12_dated_23 : decode cX12_dated 23 = .ok (.aload_n 0, 1) := dget dh_152 (k := 12) rfl
theorem dX12_dated_24 : decode cX12_dated 24 = .ok (.invokevirtual 497, 3) := dget dh_152 (k := 13) rfl
theorem dX12_dated_27 : decode cX12_dated 27 = .ok (.iload_n 2, 1) := dget dh_152 (k := 14) rfl
theorem dX12_dated_28 : decode cX12_dated 28 = .ok (.ifCond .ne 15, 3) := dget dh_152 (k := 15) rfl
theorem dX12_dated_31 : decode cX12_dated 31 = .ok (.aload_n 0, 1) := dget dh_152 (k := 16) rfl
theorem dX12_dated_32 : decode cX12_dated 32 = .ok (.getfield 193, 3) := dget dh_152 (k := 17) rfl
theorem dX12_dated_35 : decode cX12_dated 35 = .ok (.bipush 110, 2) := dget dh_152 (k := 18) rfl
theorem dX12_dated_37 : decode cX12_dated 37 = .ok (.iload_n 1, 1) := dget dh_152 (k := 19) rfl
def dl_153 : List (Nat × (Instr × Nat)) := [(38, (.iadd, 1)), (39, (.iaload, 1)), (40, (.goto 15, 3)), (43, (.aload_n 0, 1)), (44, (.getfield 193, 3)), (47, (.bipush 11, 2)), (49, (.iload_n 1, 1)), (50, (.imul, 1)), (51, (.bipush 10, 2)), (53, (.iadd, 1)), (54, (.iaload, 1)), (55, (.istore_n 3, 1)), (56, (.iload_n 3, 1)), (57, (.ldc_w 489, 3)), (60, (.if_icmp .ne 9, 3)), (63, (.ldc_w 496, 3)), (66, (.goto 13, 3)), (69, (.iload_n 2, 1)), (70, (.ifCond .ne 7, 3)), (73, (.iload_n 3, 1))]
theorem dh_153 : dchk cX12_dated dl_153 = true := by decide +kernel
theorem dX12_dated_38 : decode cX12_dated 38 = .ok (.iadd, 1) := dget dh_153 (k := 0) rfl
theorem dX12_dated_39 : decode cX12_dated 39 = .ok (.iaload, 1) := dget dh_153 (k := 1) rfl
theorem dX12_dated_40 : decode cX12_dated 40 = .ok (.goto 15, 3) := dget dh_153 (k := 2) rfl
theorem dX12_dated_43 : decode cX12_dated 43 = .ok (.aload_n 0, 1) := dget dh_153 (k := 3) rfl
theorem dX12_dated_44 : decode cX12_dated 44 = .ok (.getfield 193, 3) := dget dh_153 (k := 4) rfl
theorem dX12_dated_47 : decode cX12_dated 47 = .ok (.bipush 11, 2) := dget dh_153 (k := 5) rfl
theorem dX12_dated_49 : decode cX12_dated 49 = .ok (.iload_n 1, 1) := dget dh_153 (k := 6) rfl
theorem dX12_dated_50 : decode cX12_dated 50 = .ok (.imul, 1) := dget dh_153 (k := 7) rfl
theorem dX12_dated_51 : decode cX12_dated 51 = .ok (.bipush 10, 2) := dget dh_153 (k := 8) rfl
theorem dX12_dated_53 : decode cX12_dated 53 = .ok (.iadd, 1) := dget dh_153 (k := 9) rfl
theorem dX12_dated_54 : decode cX12_dated 54 = .ok (.iaload, 1) := dget dh_153 (k := 10) rfl
theorem dX12_dated_55 : decode cX12_dated 55 = .ok (.istore_n 3, 1) := dget dh_153 (k := 11) rfl
theorem dX12_dated_56 : decode cX12_dated 56 = .ok (.iload_n 3, 1) := dget dh_153 (k := 12) rfl
theorem dX12_dated_57 : decode cX12_dated 57 = .ok (.ldc_w 489, 3) := dget dh_153 (k := 13) rfl
theorem dX12_dated_60 : decode cX12_dated 60 = .ok (.if_icmp .ne 9, 3) := dget dh_153 (k := 14) rfl
theorem dX12_dated_63 : decode cX12_dated 63 = .ok (.ldc_w 496, 3) := dget dh_153 (k := 15) rfl
theorem dX12_dated_66 : decode cX12_dated 66 = .ok (.goto 13, 3) := dget dh_153 (k := 16) rfl
theorem dX12_dated_69 : decode cX12_dated 69 = .ok (.iload_n 2, 1) := dget dh_153 (k := 17) rfl
theorem dX12_dated_70 : decode cX12_dated 70 = .ok (.ifCond .ne 7, 3) := dget dh_153 (k := 18) rfl
theorem dX12_dated_73 : decode cX12_dated 73 = .ok (.iload_n 3, 1) := dget dh_153 (k := 19) rfl
def dl_154 : List (Nat × (Instr × Nat)) := [(74, (.goto 5, 3)), (77, (.iload_n 3, 1)), (78, (.ineg, 1)), (79, (.ireturn, 1))]
theorem dh_154 : dchk cX12_dated dl_154 = true := by decide +kernel
theorem dX12_dated_74 : decode cX12_dated 74 = .ok (.goto 5, 3) := dget dh_154 (k := 0) rfl
theorem dX12_dated_77 : decode cX12_dated 77 = .ok (.iload_n 3, 1) := dget dh_154 (k := 1) rfl
theorem dX12_dated_78 : decode cX12_dated 78 = .ok (.ineg, 1) := dget dh_154 (k := 2) rfl
theorem dX12_dated_79 : decode cX12_dated 79 = .ok (.ireturn, 1) := dget dh_154 (k := 3) rfl
def dl_155 : List (Nat × (Instr × Nat)) := [(0, (.aload_n 0, 1)), (1, (.iload_n 1, 1)), (2, (.invokevirtual 364, 3)), (5, (.aload_n 0, 1)), (6, (.iload_n 2, 1)), (7, (.invokevirtual 364, 3)), (10, (.isub, 1)), (11, (.invokestatic 473, 3)), (14, (.bipush 12, 2)), (16, (.idiv, 1)), (17, (.istore_n 3, 1)), (18, (.iconst 0, 1)), (19, (.istore 4, 2)), (21, (.iload 4, 2)), (23, (.bipush 8, 2)), (25, (.if_icmp .ge 43, 3)), (28, (.iload_n 3, 1)), (29, (.bipush 10, 2)), (31, (.aload_n 0, 1)), (32, (.getfield 181, 3))]
theorem dh_155 : dchk cX12_distance dl_155 = true := by decide +kernel
theorem dX12_distance_0 : decode cX12_distance 0 = .ok (.aload_n 0, 1) := dget dh_155 (k := 0) rfl
theorem dX12_distance_1 : decode cX12_distance 1 = .ok (.iload_n 1, 1) := dget dh_155 (k := 1) rfl
theorem dX12_distance_2 : decode cX12_distance 2 = .ok (.invokevirtual 364, 3) := dget dh_155 (k := 2) rfl
theorem dX12_distance_5 : decode cX12_distance 5 = .ok (.aload_n 0, 1) := dget dh_155 (k := 3) rfl
theorem dX12_distance_6 : decode cX12_distance 6 = .ok (.iload_n 2, 1) := dget dh_155 (k := 4) rfl
theorem dX12_distance_7 : decode cX12_distance 7 = .ok (.invokevirtual 364, 3) := dget dh_155 (k := 5) rfl
theorem dX12_distance_10 : decode cX12_distance 10 = .ok (.isub, 1) := dget dh_155 (k := 6) rfl
theorem dX12_distance_11 : decode cX12_distance 11 = .ok (.invokestatic 473, 3) := dget dh_155 (k := 7) rfl
theorem dX12_distance_14 : decode cX12_distance 14 = .ok (.bipush 12, 2) := dget dh_155 (k := 8) rfl
theorem dX12_distance_16 : decode cX12_distance 16 = .ok (.idiv, 1) := dget dh_155 (k := 9) rfl
theorem dX12_distance_17 : decode cX12_distance 17 = .ok (.istore_n 3, 1) := dget dh_155 (k := 10) rfl
theorem dX12_distance_18 : decode cX12_distance 18 = .ok (.iconst 0, 1) := dget dh_155 (k := 11) rfl
theorem dX12_distance_19 : decode cX12_distance 19 = .ok (.istore 4, 2) := dget dh_155 (k := 12) rfl
theorem dX12_distance_21 : decode cX12_distance 21 = .ok (.iload 4, 2) := dget dh_155 (k := 13) rfl
theorem dX12_distance_23 : decode cX12_distance 23 = .ok (.bipush 8, 2) := dget dh_155 (k := 14) rfl
theorem dX12_distance_25 : decode cX12_distance 25 = .ok (.if_icmp .ge 43, 3) := dget dh_155 (k := 15) rfl
theorem dX12_distance_28 : decode cX12_distance 28 = .ok (.iload_n 3, 1) := dget dh_155 (k := 16) rfl
theorem dX12_distance_29 : decode cX12_distance 29 = .ok (.bipush 10, 2) := dget dh_155 (k := 17) rfl
theorem dX12_distance_31 : decode cX12_distance 31 = .ok (.aload_n 0, 1) := dget dh_155 (k := 18) rfl
theorem dX12_distance_32 : decode cX12_distance 32 = .ok (.getfield 181, 3) := dget dh_155 (k := 19) rfl
def dl_156 : List (Nat × (Instr × Nat)) := [(35, (.bipush 8, 2)), (37, (.iload_n 1, 1)), (38, (.imul, 1)), (39, (.iload 4, 2)), (41, (.iadd, 1)), (42, (.iaload, 1)), (43, (.aload_n 0, 1)), (44, (.getfield 181, 3)), (47, (.bipush 8, 2)), (49, (.iload_n 2, 1)), (50, (.imul, 1)), (51, (.iload 4, 2)), (53, (.iadd, 1)), (54, (.iaload, 1)), (55, (.isub, 1)), (56, (.invokestatic 473, 3)), (59, (.imul, 1)), (60, (.iadd, 1)), (61, (.istore_n 3, 1)), (62, (.iinc 4 1, 3))]
theorem dh_156 : dchk cX12_distance dl_156 = true := by decide +kernel
theorem dX12_distance_35 : decode cX12_distance 35 = .ok (.bipush 8, 2) := dget dh_156 (k := 0) rfl
theorem dX12_distance_37 : decode cX12_distance 37 = .ok (.iload_n 1, 1) := dget dh_156 (k := 1) rfl
theorem dX12_distance_38 : decode cX12_distance 38 = .ok (.imul, 1) := dget dh_156 (k := 2) rfl
theorem dX12_distance_39 : decode cX12_distance 39 = .ok (.iload 4, 2) := dget dh_156 (k := 3) rfl
theorem dX12_distance_41 : decode cX12_distance 41 = .ok (.iadd, 1) := dget dh_156 (k := 4) rfl
theorem dX12_distance_42 : decode cX12_distance 42 = .ok (.iaload, 1) := dget dh_156 (k := 5) rfl
theorem dX12_distance_43 : decode cX12_distance 43 = .ok (.aload_n 0, 1) := dget dh_156 (k := 6) rfl
theorem dX12_distance_44 : decode cX12_distance 44 = .ok (.getfield 181, 3) := dget dh_156 (k := 7) rfl
theorem dX12_distance_47 : decode cX12_distance 47 = .ok (.bipush 8, 2) := dget dh_156 (k := 8) rfl
theorem dX12_distance_49 : decode cX12_distance 49 = .ok (.iload_n 2, 1) := dget dh_156 (k := 9) rfl
theorem dX12_distance_50 : decode cX12_distance 50 = .ok (.imul, 1) := dget dh_156 (k := 10) rfl
theorem dX12_distance_51 : decode cX12_distance 51 = .ok (.iload 4, 2) := dget dh_156 (k := 11) rfl
theorem dX12_distance_53 : decode cX12_distance 53 = .ok (.iadd, 1) := dget dh_156 (k := 12) rfl
theorem dX12_distance_54 : decode cX12_distance 54 = .ok (.iaload, 1) := dget dh_156 (k := 13) rfl
theorem dX12_distance_55 : decode cX12_distance 55 = .ok (.isub, 1) := dget dh_156 (k := 14) rfl
theorem dX12_distance_56 : decode cX12_distance 56 = .ok (.invokestatic 473, 3) := dget dh_156 (k := 15) rfl
theorem dX12_distance_59 : decode cX12_distance 59 = .ok (.imul, 1) := dget dh_156 (k := 16) rfl
theorem dX12_distance_60 : decode cX12_distance 60 = .ok (.iadd, 1) := dget dh_156 (k := 17) rfl
theorem dX12_distance_61 : decode cX12_distance 61 = .ok (.istore_n 3, 1) := dget dh_156 (k := 18) rfl
theorem dX12_distance_62 : decode cX12_distance 62 = .ok (.iinc 4 1, 3) := dget dh_156 (k := 19) rfl
def dl_157 : List (Nat × (Instr × Nat)) := [(65, (.goto (-44), 3)), (68, (.iload_n 3, 1)), (69, (.ireturn, 1))]
theorem dh_157 : dchk cX12_distance dl_157 = true := by decide +kernel
theorem dX12_distance_65 : decode cX12_distance 65 = .ok (.goto (-44), 3) := dget dh_157 (k := 0) rfl
theorem dX12_distance_68 : decode cX12_distance 68 = .ok (.iload_n 3, 1) := dget dh_157 (k := 1) rfl
theorem dX12_distance_69 : decode cX12_distance 69 = .ok (.ireturn, 1) := dget dh_157 (k := 2) rfl
def dl_158 : List (Nat × (Instr × Nat)) := [(0, (.aload_n 0, 1)), (1, (.getfield 255, 3)), (4, (.bipush 20, 2)), (6, (.iadd, 1)), (7, (.sipush 220, 3)), (10, (.if_icmp .le 5, 3)), (13, (.iconst (-1), 1)), (14, (.ireturn, 1)), (15, (.aload_n 0, 1)), (16, (.iload_n 1, 1)), (17, (.invokevirtual 258, 3)), (20, (.aload_n 0, 1)), (21, (.iload_n 2, 1)), (22, (.invokevirtual 258, 3)), (25, (.aload_n 0, 1)), (26, (.iload_n 3, 1)), (27, (.invokevirtual 258, 3)), (30, (.aload_n 0, 1)), (31, (.iload 4, 2)), (33, (.invokevirtual 258, 3))]
theorem dh_158 : dchk cX12_feed dl_158 = true := by decide +kernel
theorem dX12_feed_0 : decode cX12_feed 0 = .ok (.aload_n 0, 1) := dget dh_158 (k := 0) rfl
theorem dX12_feed_1 : decode cX12_feed 1 = .ok (.getfield 255, 3) := dget dh_158 (k := 1) rfl
theorem dX12_feed_4 : decode cX12_feed 4 = .ok (.bipush 20, 2) := dget dh_158 (k := 2) rfl
theorem dX12_feed_6 : decode cX12_feed 6 = .ok (.iadd, 1) := dget dh_158 (k := 3) rfl
theorem dX12_feed_7 : decode cX12_feed 7 = .ok (.sipush 220, 3) := dget dh_158 (k := 4) rfl
theorem dX12_feed_10 : decode cX12_feed 10 = .ok (.if_icmp .le 5, 3) := dget dh_158 (k := 5) rfl
theorem dX12_feed_13 : decode cX12_feed 13 = .ok (.iconst (-1), 1) := dget dh_158 (k := 6) rfl
theorem dX12_feed_14 : decode cX12_feed 14 = .ok (.ireturn, 1) := dget dh_158 (k := 7) rfl
theorem dX12_feed_15 : decode cX12_feed 15 = .ok (.aload_n 0, 1) := dget dh_158 (k := 8) rfl
theorem dX12_feed_16 : decode cX12_feed 16 = .ok (.iload_n 1, 1) := dget dh_158 (k := 9) rfl
theorem dX12_feed_17 : decode cX12_feed 17 = .ok (.invokevirtual 258, 3) := dget dh_158 (k := 10) rfl
theorem dX12_feed_20 : decode cX12_feed 20 = .ok (.aload_n 0, 1) := dget dh_158 (k := 11) rfl
theorem dX12_feed_21 : decode cX12_feed 21 = .ok (.iload_n 2, 1) := dget dh_158 (k := 12) rfl
theorem dX12_feed_22 : decode cX12_feed 22 = .ok (.invokevirtual 258, 3) := dget dh_158 (k := 13) rfl
theorem dX12_feed_25 : decode cX12_feed 25 = .ok (.aload_n 0, 1) := dget dh_158 (k := 14) rfl
theorem dX12_feed_26 : decode cX12_feed 26 = .ok (.iload_n 3, 1) := dget dh_158 (k := 15) rfl
theorem dX12_feed_27 : decode cX12_feed 27 = .ok (.invokevirtual 258, 3) := dget dh_158 (k := 16) rfl
theorem dX12_feed_30 : decode cX12_feed 30 = .ok (.aload_n 0, 1) := dget dh_158 (k := 17) rfl
theorem dX12_feed_31 : decode cX12_feed 31 = .ok (.iload 4, 2) := dget dh_158 (k := 18) rfl
theorem dX12_feed_33 : decode cX12_feed 33 = .ok (.invokevirtual 258, 3) := dget dh_158 (k := 19) rfl
def dl_159 : List (Nat × (Instr × Nat)) := [(36, (.aload_n 0, 1)), (37, (.iload 5, 2)), (39, (.invokevirtual 258, 3)), (42, (.aload_n 0, 1)), (43, (.getfield 255, 3)), (46, (.ireturn, 1))]
theorem dh_159 : dchk cX12_feed dl_159 = true := by decide +kernel
theorem dX12_feed_36 : decode cX12_feed 36 = .ok (.aload_n 0, 1) := dget dh_159 (k := 0) rfl
theorem dX12_feed_37 : decode cX12_feed 37 = .ok (.iload 5, 2) := dget dh_159 (k := 1) rfl
theorem dX12_feed_39 : decode cX12_feed 39 = .ok (.invokevirtual 258, 3) := dget dh_159 (k := 2) rfl
theorem dX12_feed_42 : decode cX12_feed 42 = .ok (.aload_n 0, 1) := dget dh_159 (k := 3) rfl
theorem dX12_feed_43 : decode cX12_feed 43 = .ok (.getfield 255, 3) := dget dh_159 (k := 4) rfl
theorem dX12_feed_46 : decode cX12_feed 46 = .ok (.ireturn, 1) := dget dh_159 (k := 5) rfl
def dl_160 : List (Nat × (Instr × Nat)) := [(0, (.iconst 0, 1)), (1, (.istore_n 1, 1)), (2, (.iload_n 1, 1)), (3, (.bipush 121, 2)), (5, (.if_icmp .ge 33, 3)), (8, (.aload_n 0, 1)), (9, (.getfield 193, 3)), (12, (.iload_n 1, 1)), (13, (.iload_n 1, 1)), (14, (.bipush 11, 2)), (16, (.idiv, 1)), (17, (.iload_n 1, 1)), (18, (.bipush 11, 2)), (20, (.irem, 1)), (21, (.if_icmp .ne 7, 3)), (24, (.iconst 0, 1)), (25, (.goto 6, 3)), (28, (.ldc_w 489, 3)), (31, (.iastore, 1)), (32, (.iinc 1 1, 3))]
theorem dh_160 : dchk cX12_laysFacts dl_160 = true := by decide +kernel
theorem dX12_laysFacts_0 : decode cX12_laysFacts 0 = .ok (.iconst 0, 1) := dget dh_160 (k := 0) rfl
theorem dX12_laysFacts_1 : decode cX12_laysFacts 1 = .ok (.istore_n 1, 1) := dget dh_160 (k := 1) rfl
theorem dX12_laysFacts_2 : decode cX12_laysFacts 2 = .ok (.iload_n 1, 1) := dget dh_160 (k := 2) rfl
theorem dX12_laysFacts_3 : decode cX12_laysFacts 3 = .ok (.bipush 121, 2) := dget dh_160 (k := 3) rfl
theorem dX12_laysFacts_5 : decode cX12_laysFacts 5 = .ok (.if_icmp .ge 33, 3) := dget dh_160 (k := 4) rfl
theorem dX12_laysFacts_8 : decode cX12_laysFacts 8 = .ok (.aload_n 0, 1) := dget dh_160 (k := 5) rfl
theorem dX12_laysFacts_9 : decode cX12_laysFacts 9 = .ok (.getfield 193, 3) := dget dh_160 (k := 6) rfl
theorem dX12_laysFacts_12 : decode cX12_laysFacts 12 = .ok (.iload_n 1, 1) := dget dh_160 (k := 7) rfl
theorem dX12_laysFacts_13 : decode cX12_laysFacts 13 = .ok (.iload_n 1, 1) := dget dh_160 (k := 8) rfl
theorem dX12_laysFacts_14 : decode cX12_laysFacts 14 = .ok (.bipush 11, 2) := dget dh_160 (k := 9) rfl
theorem dX12_laysFacts_16 : decode cX12_laysFacts 16 = .ok (.idiv, 1) := dget dh_160 (k := 10) rfl
theorem dX12_laysFacts_17 : decode cX12_laysFacts 17 = .ok (.iload_n 1, 1) := dget dh_160 (k := 11) rfl
theorem dX12_laysFacts_18 : decode cX12_laysFacts 18 = .ok (.bipush 11, 2) := dget dh_160 (k := 12) rfl
theorem dX12_laysFacts_20 : decode cX12_laysFacts 20 = .ok (.irem, 1) := dget dh_160 (k := 13) rfl
theorem dX12_laysFacts_21 : decode cX12_laysFacts 21 = .ok (.if_icmp .ne 7, 3) := dget dh_160 (k := 14) rfl
theorem dX12_laysFacts_24 : decode cX12_laysFacts 24 = .ok (.iconst 0, 1) := dget dh_160 (k := 15) rfl
theorem dX12_laysFacts_25 : decode cX12_laysFacts 25 = .ok (.goto 6, 3) := dget dh_160 (k := 16) rfl
theorem dX12_laysFacts_28 : decode cX12_laysFacts 28 = .ok (.ldc_w 489, 3) := dget dh_160 (k := 17) rfl
theorem dX12_laysFacts_31 : decode cX12_laysFacts 31 = .ok (.iastore, 1) := dget dh_160 (k := 18) rfl
theorem dX12_laysFacts_32 : decode cX12_laysFacts 32 = .ok (.iinc 1 1, 3) := dget dh_160 (k := 19) rfl
def dl_161 : List (Nat × (Instr × Nat)) := [(35, (.goto (-33), 3)), (38, (.iconst 0, 1)), (39, (.istore_n 1, 1)), (40, (.iload_n 1, 1)), (41, (.aload_n 0, 1)), (42, (.getfield 486, 3)), (45, (.if_icmp .ge 14, 3)), (48, (.aload_n 0, 1)), (49, (.iload_n 1, 1)), (50, (.invokevirtual 493, 3)), (53, (.iinc 1 1, 3)), (56, (.goto (-16), 3)), (59, (.return_, 1))]
theorem dh_161 : dchk cX12_laysFacts dl_161 = true := by decide +kernel
theorem dX12_laysFacts_35 : decode cX12_laysFacts 35 = .ok (.goto (-33), 3) := dget dh_161 (k := 0) rfl
theorem dX12_laysFacts_38 : decode cX12_laysFacts 38 = .ok (.iconst 0, 1) := dget dh_161 (k := 1) rfl
theorem dX12_laysFacts_39 : decode cX12_laysFacts 39 = .ok (.istore_n 1, 1) := dget dh_161 (k := 2) rfl
theorem dX12_laysFacts_40 : decode cX12_laysFacts 40 = .ok (.iload_n 1, 1) := dget dh_161 (k := 3) rfl
theorem dX12_laysFacts_41 : decode cX12_laysFacts 41 = .ok (.aload_n 0, 1) := dget dh_161 (k := 4) rfl
theorem dX12_laysFacts_42 : decode cX12_laysFacts 42 = .ok (.getfield 486, 3) := dget dh_161 (k := 5) rfl
theorem dX12_laysFacts_45 : decode cX12_laysFacts 45 = .ok (.if_icmp .ge 14, 3) := dget dh_161 (k := 6) rfl
theorem dX12_laysFacts_48 : decode cX12_laysFacts 48 = .ok (.aload_n 0, 1) := dget dh_161 (k := 7) rfl
theorem dX12_laysFacts_49 : decode cX12_laysFacts 49 = .ok (.iload_n 1, 1) := dget dh_161 (k := 8) rfl
theorem dX12_laysFacts_50 : decode cX12_laysFacts 50 = .ok (.invokevirtual 493, 3) := dget dh_161 (k := 9) rfl
theorem dX12_laysFacts_53 : decode cX12_laysFacts 53 = .ok (.iinc 1 1, 3) := dget dh_161 (k := 10) rfl
theorem dX12_laysFacts_56 : decode cX12_laysFacts 56 = .ok (.goto (-16), 3) := dget dh_161 (k := 11) rfl
theorem dX12_laysFacts_59 : decode cX12_laysFacts 59 = .ok (.return_, 1) := dget dh_161 (k := 12) rfl
def dl_162 : List (Nat × (Instr × Nat)) := [(0, (.iconst 0, 1)), (1, (.istore_n 1, 1)), (2, (.iload_n 1, 1)), (3, (.bipush 48, 2)), (5, (.if_icmp .ge 16, 3)), (8, (.aload_n 0, 1)), (9, (.getfield 181, 3)), (12, (.iload_n 1, 1)), (13, (.iconst 0, 1)), (14, (.iastore, 1)), (15, (.iinc 1 1, 3)), (18, (.goto (-16), 3)), (21, (.iconst 0, 1)), (22, (.istore_n 1, 1)), (23, (.iload_n 1, 1)), (24, (.aload_n 0, 1)), (25, (.getfield 234, 3)), (28, (.if_icmp .ge 96, 3)), (31, (.aload_n 0, 1)), (32, (.iload_n 1, 1))]
theorem dh_162 : dchk cX12_laysHarmed dl_162 = true := by decide +kernel
theorem dX12_laysHarmed_0 : decode cX12_laysHarmed 0 = .ok (.iconst 0, 1) := dget dh_162 (k := 0) rfl
theorem dX12_laysHarmed_1 : decode cX12_laysHarmed 1 = .ok (.istore_n 1, 1) := dget dh_162 (k := 1) rfl
theorem dX12_laysHarmed_2 : decode cX12_laysHarmed 2 = .ok (.iload_n 1, 1) := dget dh_162 (k := 2) rfl
theorem dX12_laysHarmed_3 : decode cX12_laysHarmed 3 = .ok (.bipush 48, 2) := dget dh_162 (k := 3) rfl
theorem dX12_laysHarmed_5 : decode cX12_laysHarmed 5 = .ok (.if_icmp .ge 16, 3) := dget dh_162 (k := 4) rfl
theorem dX12_laysHarmed_8 : decode cX12_laysHarmed 8 = .ok (.aload_n 0, 1) := dget dh_162 (k := 5) rfl
theorem dX12_laysHarmed_9 : decode cX12_laysHarmed 9 = .ok (.getfield 181, 3) := dget dh_162 (k := 6) rfl
theorem dX12_laysHarmed_12 : decode cX12_laysHarmed 12 = .ok (.iload_n 1, 1) := dget dh_162 (k := 7) rfl
theorem dX12_laysHarmed_13 : decode cX12_laysHarmed 13 = .ok (.iconst 0, 1) := dget dh_162 (k := 8) rfl
theorem dX12_laysHarmed_14 : decode cX12_laysHarmed 14 = .ok (.iastore, 1) := dget dh_162 (k := 9) rfl
theorem dX12_laysHarmed_15 : decode cX12_laysHarmed 15 = .ok (.iinc 1 1, 3) := dget dh_162 (k := 10) rfl
theorem dX12_laysHarmed_18 : decode cX12_laysHarmed 18 = .ok (.goto (-16), 3) := dget dh_162 (k := 11) rfl
theorem dX12_laysHarmed_21 : decode cX12_laysHarmed 21 = .ok (.iconst 0, 1) := dget dh_162 (k := 12) rfl
theorem dX12_laysHarmed_22 : decode cX12_laysHarmed 22 = .ok (.istore_n 1, 1) := dget dh_162 (k := 13) rfl
theorem dX12_laysHarmed_23 : decode cX12_laysHarmed 23 = .ok (.iload_n 1, 1) := dget dh_162 (k := 14) rfl
theorem dX12_laysHarmed_24 : decode cX12_laysHarmed 24 = .ok (.aload_n 0, 1) := dget dh_162 (k := 15) rfl
theorem dX12_laysHarmed_25 : decode cX12_laysHarmed 25 = .ok (.getfield 234, 3) := dget dh_162 (k := 16) rfl
theorem dX12_laysHarmed_28 : decode cX12_laysHarmed 28 = .ok (.if_icmp .ge 96, 3) := dget dh_162 (k := 17) rfl
theorem dX12_laysHarmed_31 : decode cX12_laysHarmed 31 = .ok (.aload_n 0, 1) := dget dh_162 (k := 18) rfl
theorem dX12_laysHarmed_32 : decode cX12_laysHarmed 32 = .ok (.iload_n 1, 1) := dget dh_162 (k := 19) rfl
def dl_163 : List (Nat × (Instr × Nat)) := [(33, (.invokevirtual 408, 3)), (36, (.iconst 0, 1)), (37, (.istore_n 2, 1)), (38, (.iload_n 2, 1)), (39, (.aload_n 0, 1)), (40, (.getfield 37, 3)), (43, (.iload_n 1, 1)), (44, (.iaload, 1)), (45, (.if_icmp .ge 73, 3)), (48, (.aload_n 0, 1)), (49, (.iload_n 1, 1)), (50, (.iload_n 2, 1)), (51, (.invokevirtual 411, 3)), (54, (.iconst 1, 1)), (55, (.if_icmp .eq 13, 3)), (58, (.aload_n 0, 1)), (59, (.iload_n 1, 1)), (60, (.iload_n 2, 1)), (61, (.invokevirtual 411, 3)), (64, (.iconst 2, 1))]
theorem dh_163 : dchk cX12_laysHarmed dl_163 = true := by decide +kernel
theorem dX12_laysHarmed_33 : decode cX12_laysHarmed 33 = .ok (.invokevirtual 408, 3) := dget dh_163 (k := 0) rfl
theorem dX12_laysHarmed_36 : decode cX12_laysHarmed 36 = .ok (.iconst 0, 1) := dget dh_163 (k := 1) rfl
theorem dX12_laysHarmed_37 : decode cX12_laysHarmed 37 = .ok (.istore_n 2, 1) := dget dh_163 (k := 2) rfl
theorem dX12_laysHarmed_38 : decode cX12_laysHarmed 38 = .ok (.iload_n 2, 1) := dget dh_163 (k := 3) rfl
theorem dX12_laysHarmed_39 : decode cX12_laysHarmed 39 = .ok (.aload_n 0, 1) := dget dh_163 (k := 4) rfl
theorem dX12_laysHarmed_40 : decode cX12_laysHarmed 40 = .ok (.getfield 37, 3) := dget dh_163 (k := 5) rfl
theorem dX12_laysHarmed_43 : decode cX12_laysHarmed 43 = .ok (.iload_n 1, 1) := dget dh_163 (k := 6) rfl
theorem dX12_laysHarmed_44 : decode cX12_laysHarmed 44 = .ok (.iaload, 1) := dget dh_163 (k := 7) rfl
theorem dX12_laysHarmed_45 : decode cX12_laysHarmed 45 = .ok (.if_icmp .ge 73, 3) := dget dh_163 (k := 8) rfl
theorem dX12_laysHarmed_48 : decode cX12_laysHarmed 48 = .ok (.aload_n 0, 1) := dget dh_163 (k := 9) rfl
theorem dX12_laysHarmed_49 : decode cX12_laysHarmed 49 = .ok (.iload_n 1, 1) := dget dh_163 (k := 10) rfl
theorem dX12_laysHarmed_50 : decode cX12_laysHarmed 50 = .ok (.iload_n 2, 1) := dget dh_163 (k := 11) rfl
theorem dX12_laysHarmed_51 : decode cX12_laysHarmed 51 = .ok (.invokevirtual 411, 3) := dget dh_163 (k := 12) rfl
theorem dX12_laysHarmed_54 : decode cX12_laysHarmed 54 = .ok (.iconst 1, 1) := dget dh_163 (k := 13) rfl
theorem dX12_laysHarmed_55 : decode cX12_laysHarmed 55 = .ok (.if_icmp .eq 13, 3) := dget dh_163 (k := 14) rfl
theorem dX12_laysHarmed_58 : decode cX12_laysHarmed 58 = .ok (.aload_n 0, 1) := dget dh_163 (k := 15) rfl
theorem dX12_laysHarmed_59 : decode cX12_laysHarmed 59 = .ok (.iload_n 1, 1) := dget dh_163 (k := 16) rfl
theorem dX12_laysHarmed_60 : decode cX12_laysHarmed 60 = .ok (.iload_n 2, 1) := dget dh_163 (k := 17) rfl
theorem dX12_laysHarmed_61 : decode cX12_laysHarmed 61 = .ok (.invokevirtual 411, 3) := dget dh_163 (k := 18) rfl
theorem dX12_laysHarmed_64 : decode cX12_laysHarmed 64 = .ok (.iconst 2, 1) := dget dh_163 (k := 19) rfl
def dl_164 : List (Nat × (Instr × Nat)) := [(65, (.if_icmp .ne 47, 3)), (68, (.aload_n 0, 1)), (69, (.getfield 181, 3)), (72, (.bipush 8, 2)), (74, (.iload_n 1, 1)), (75, (.imul, 1)), (76, (.aload_n 0, 1)), (77, (.getfield 46, 3)), (80, (.bipush 20, 2)), (82, (.iload_n 1, 1)), (83, (.imul, 1)), (84, (.iload_n 2, 1)), (85, (.iadd, 1)), (86, (.iaload, 1)), (87, (.iadd, 1)), (88, (.aload_n 0, 1)), (89, (.getfield 181, 3)), (92, (.bipush 8, 2)), (94, (.iload_n 1, 1)), (95, (.imul, 1))]
theorem dh_164 : dchk cX12_laysHarmed dl_164 = true := by decide +kernel
theorem dX12_laysHarmed_65 : decode cX12_laysHarmed 65 = .ok (.if_icmp .ne 47, 3) := dget dh_164 (k := 0) rfl
theorem dX12_laysHarmed_68 : decode cX12_laysHarmed 68 = .ok (.aload_n 0, 1) := dget dh_164 (k := 1) rfl
theorem dX12_laysHarmed_69 : decode cX12_laysHarmed 69 = .ok (.getfield 181, 3) := dget dh_164 (k := 2) rfl
theorem dX12_laysHarmed_72 : decode cX12_laysHarmed 72 = .ok (.bipush 8, 2) := dget dh_164 (k := 3) rfl
theorem dX12_laysHarmed_74 : decode cX12_laysHarmed 74 = .ok (.iload_n 1, 1) := dget dh_164 (k := 4) rfl
theorem dX12_laysHarmed_75 : decode cX12_laysHarmed 75 = .ok (.imul, 1) := dget dh_164 (k := 5) rfl
theorem dX12_laysHarmed_76 : decode cX12_laysHarmed 76 = .ok (.aload_n 0, 1) := dget dh_164 (k := 6) rfl
theorem dX12_laysHarmed_77 : decode cX12_laysHarmed 77 = .ok (.getfield 46, 3) := dget dh_164 (k := 7) rfl
theorem dX12_laysHarmed_80 : decode cX12_laysHarmed 80 = .ok (.bipush 20, 2) := dget dh_164 (k := 8) rfl
theorem dX12_laysHarmed_82 : decode cX12_laysHarmed 82 = .ok (.iload_n 1, 1) := dget dh_164 (k := 9) rfl
theorem dX12_laysHarmed_83 : decode cX12_laysHarmed 83 = .ok (.imul, 1) := dget dh_164 (k := 10) rfl
theorem dX12_laysHarmed_84 : decode cX12_laysHarmed 84 = .ok (.iload_n 2, 1) := dget dh_164 (k := 11) rfl
theorem dX12_laysHarmed_85 : decode cX12_laysHarmed 85 = .ok (.iadd, 1) := dget dh_164 (k := 12) rfl
theorem dX12_laysHarmed_86 : decode cX12_laysHarmed 86 = .ok (.iaload, 1) := dget dh_164 (k := 13) rfl
theorem dX12_laysHarmed_87 : decode cX12_laysHarmed 87 = .ok (.iadd, 1) := dget dh_164 (k := 14) rfl
theorem dX12_laysHarmed_88 : decode cX12_laysHarmed 88 = .ok (.aload_n 0, 1) := dget dh_164 (k := 15) rfl
theorem dX12_laysHarmed_89 : decode cX12_laysHarmed 89 = .ok (.getfield 181, 3) := dget dh_164 (k := 16) rfl
theorem dX12_laysHarmed_92 : decode cX12_laysHarmed 92 = .ok (.bipush 8, 2) := dget dh_164 (k := 17) rfl
theorem dX12_laysHarmed_94 : decode cX12_laysHarmed 94 = .ok (.iload_n 1, 1) := dget dh_164 (k := 18) rfl
theorem dX12_laysHarmed_95 : decode cX12_laysHarmed 95 = .ok (.imul, 1) := dget dh_164 (k := 19) rfl
def dl_165 : List (Nat × (Instr × Nat)) := [(96, (.aload_n 0, 1)), (97, (.getfield 46, 3)), (100, (.bipush 20, 2)), (102, (.iload_n 1, 1)), (103, (.imul, 1)), (104, (.iload_n 2, 1)), (105, (.iadd, 1)), (106, (.iaload, 1)), (107, (.iadd, 1)), (108, (.iaload, 1)), (109, (.iconst 1, 1)), (110, (.iadd, 1)), (111, (.iastore, 1)), (112, (.iinc 2 1, 3)), (115, (.goto (-77), 3)), (118, (.iinc 1 1, 3)), (121, (.goto (-98), 3)), (124, (.return_, 1))]
theorem dh_165 : dchk cX12_laysHarmed dl_165 = true := by decide +kernel
theorem dX12_laysHarmed_96 : decode cX12_laysHarmed 96 = .ok (.aload_n 0, 1) := dget dh_165 (k := 0) rfl
theorem dX12_laysHarmed_97 : decode cX12_laysHarmed 97 = .ok (.getfield 46, 3) := dget dh_165 (k := 1) rfl
theorem dX12_laysHarmed_100 : decode cX12_laysHarmed 100 = .ok (.bipush 20, 2) := dget dh_165 (k := 2) rfl
theorem dX12_laysHarmed_102 : decode cX12_laysHarmed 102 = .ok (.iload_n 1, 1) := dget dh_165 (k := 3) rfl
theorem dX12_laysHarmed_103 : decode cX12_laysHarmed 103 = .ok (.imul, 1) := dget dh_165 (k := 4) rfl
theorem dX12_laysHarmed_104 : decode cX12_laysHarmed 104 = .ok (.iload_n 2, 1) := dget dh_165 (k := 5) rfl
theorem dX12_laysHarmed_105 : decode cX12_laysHarmed 105 = .ok (.iadd, 1) := dget dh_165 (k := 6) rfl
theorem dX12_laysHarmed_106 : decode cX12_laysHarmed 106 = .ok (.iaload, 1) := dget dh_165 (k := 7) rfl
theorem dX12_laysHarmed_107 : decode cX12_laysHarmed 107 = .ok (.iadd, 1) := dget dh_165 (k := 8) rfl
theorem dX12_laysHarmed_108 : decode cX12_laysHarmed 108 = .ok (.iaload, 1) := dget dh_165 (k := 9) rfl
theorem dX12_laysHarmed_109 : decode cX12_laysHarmed 109 = .ok (.iconst 1, 1) := dget dh_165 (k := 10) rfl
theorem dX12_laysHarmed_110 : decode cX12_laysHarmed 110 = .ok (.iadd, 1) := dget dh_165 (k := 11) rfl
theorem dX12_laysHarmed_111 : decode cX12_laysHarmed 111 = .ok (.iastore, 1) := dget dh_165 (k := 12) rfl
theorem dX12_laysHarmed_112 : decode cX12_laysHarmed 112 = .ok (.iinc 2 1, 3) := dget dh_165 (k := 13) rfl
theorem dX12_laysHarmed_115 : decode cX12_laysHarmed 115 = .ok (.goto (-77), 3) := dget dh_165 (k := 14) rfl
theorem dX12_laysHarmed_118 : decode cX12_laysHarmed 118 = .ok (.iinc 1 1, 3) := dget dh_165 (k := 15) rfl
theorem dX12_laysHarmed_121 : decode cX12_laysHarmed 121 = .ok (.goto (-98), 3) := dget dh_165 (k := 16) rfl
theorem dX12_laysHarmed_124 : decode cX12_laysHarmed 124 = .ok (.return_, 1) := dget dh_165 (k := 17) rfl
def dl_166 : List (Nat × (Instr × Nat)) := [(0, (.aload_n 0, 1)), (1, (.iload_n 1, 1)), (2, (.invokevirtual 249, 3)), (5, (.ifCond .eq 12, 3)), (8, (.iload_n 2, 1)), (9, (.iconst 0, 1)), (10, (.iconst 1, 1)), (11, (.invokestatic 241, 3)), (14, (.ifCond .ne 5, 3)), (17, (.iconst (-1), 1)), (18, (.ireturn, 1)), (19, (.aload_n 0, 1)), (20, (.getfield 234, 3)), (23, (.iconst 1, 1)), (24, (.if_icmp .ne 6, 3)), (27, (.bipush (-2), 2)), (29, (.ireturn, 1)), (30, (.aload_n 0, 1)), (31, (.invokevirtual 480, 3)), (34, (.iconst (-1), 1))]
theorem dh_166 : dchk cX12_like dl_166 = true := by decide +kernel
theorem dX12_like_0 : decode cX12_like 0 = .ok (.aload_n 0, 1) := dget dh_166 (k := 0) rfl
theorem dX12_like_1 : decode cX12_like 1 = .ok (.iload_n 1, 1) := dget dh_166 (k := 1) rfl
theorem dX12_like_2 : decode cX12_like 2 = .ok (.invokevirtual 249, 3) := dget dh_166 (k := 2) rfl
theorem dX12_like_5 : decode cX12_like 5 = .ok (.ifCond .eq 12, 3) := dget dh_166 (k := 3) rfl
theorem dX12_like_8 : decode cX12_like 8 = .ok (.iload_n 2, 1) := dget dh_166 (k := 4) rfl
theorem dX12_like_9 : decode cX12_like 9 = .ok (.iconst 0, 1) := dget dh_166 (k := 5) rfl
theorem dX12_like_10 : decode cX12_like 10 = .ok (.iconst 1, 1) := dget dh_166 (k := 6) rfl
theorem dX12_like_11 : decode cX12_like 11 = .ok (.invokestatic 241, 3) := dget dh_166 (k := 7) rfl
theorem dX12_like_14 : decode cX12_like 14 = .ok (.ifCond .ne 5, 3) := dget dh_166 (k := 8) rfl
theorem dX12_like_17 : decode cX12_like 17 = .ok (.iconst (-1), 1) := dget dh_166 (k := 9) rfl
theorem dX12_like_18 : decode cX12_like 18 = .ok (.ireturn, 1) := dget dh_166 (k := 10) rfl
theorem dX12_like_19 : decode cX12_like 19 = .ok (.aload_n 0, 1) := dget dh_166 (k := 11) rfl
theorem dX12_like_20 : decode cX12_like 20 = .ok (.getfield 234, 3) := dget dh_166 (k := 12) rfl
theorem dX12_like_23 : decode cX12_like 23 = .ok (.iconst 1, 1) := dget dh_166 (k := 13) rfl
theorem dX12_like_24 : decode cX12_like 24 = .ok (.if_icmp .ne 6, 3) := dget dh_166 (k := 14) rfl
theorem dX12_like_27 : decode cX12_like 27 = .ok (.bipush (-2), 2) := dget dh_166 (k := 15) rfl
theorem dX12_like_29 : decode cX12_like 29 = .ok (.ireturn, 1) := dget dh_166 (k := 16) rfl
theorem dX12_like_30 : decode cX12_like 30 = .ok (.aload_n 0, 1) := dget dh_166 (k := 17) rfl
theorem dX12_like_31 : decode cX12_like 31 = .ok (.invokevirtual 480, 3) := dget dh_166 (k := 18) rfl
theorem dX12_like_34 : decode cX12_like 34 = .ok (.iconst (-1), 1) := dget dh_166 (k := 19) rfl
def dl_167 : List (Nat × (Instr × Nat)) := [(35, (.istore_n 3, 1)), (36, (.iconst 0, 1)), (37, (.istore 4, 2)), (39, (.iload 4, 2)), (41, (.aload_n 0, 1)), (42, (.getfield 234, 3)), (45, (.if_icmp .ge 39, 3)), (48, (.iload 4, 2)), (50, (.iload_n 1, 1)), (51, (.if_icmp .eq 27, 3)), (54, (.iload_n 3, 1)), (55, (.iconst (-1), 1)), (56, (.if_icmp .eq 19, 3)), (59, (.aload_n 0, 1)), (60, (.iload_n 1, 1)), (61, (.iload 4, 2)), (63, (.invokevirtual 483, 3)), (66, (.aload_n 0, 1)), (67, (.iload_n 1, 1)), (68, (.iload_n 3, 1))]
theorem dh_167 : dchk cX12_like dl_167 = true := by decide +kernel
theorem dX12_like_35 : decode cX12_like 35 = .ok (.istore_n 3, 1) := dget dh_167 (k := 0) rfl
theorem dX12_like_36 : decode cX12_like 36 = .ok (.iconst 0, 1) := dget dh_167 (k := 1) rfl
theorem dX12_like_37 : decode cX12_like 37 = .ok (.istore 4, 2) := dget dh_167 (k := 2) rfl
theorem dX12_like_39 : decode cX12_like 39 = .ok (.iload 4, 2) := dget dh_167 (k := 3) rfl
theorem dX12_like_41 : decode cX12_like 41 = .ok (.aload_n 0, 1) := dget dh_167 (k := 4) rfl
theorem dX12_like_42 : decode cX12_like 42 = .ok (.getfield 234, 3) := dget dh_167 (k := 5) rfl
theorem dX12_like_45 : decode cX12_like 45 = .ok (.if_icmp .ge 39, 3) := dget dh_167 (k := 6) rfl
theorem dX12_like_48 : decode cX12_like 48 = .ok (.iload 4, 2) := dget dh_167 (k := 7) rfl
theorem dX12_like_50 : decode cX12_like 50 = .ok (.iload_n 1, 1) := dget dh_167 (k := 8) rfl
theorem dX12_like_51 : decode cX12_like 51 = .ok (.if_icmp .eq 27, 3) := dget dh_167 (k := 9) rfl
theorem dX12_like_54 : decode cX12_like 54 = .ok (.iload_n 3, 1) := dget dh_167 (k := 10) rfl
theorem dX12_like_55 : decode cX12_like 55 = .ok (.iconst (-1), 1) := dget dh_167 (k := 11) rfl
theorem dX12_like_56 : decode cX12_like 56 = .ok (.if_icmp .eq 19, 3) := dget dh_167 (k := 12) rfl
theorem dX12_like_59 : decode cX12_like 59 = .ok (.aload_n 0, 1) := dget dh_167 (k := 13) rfl
theorem dX12_like_60 : decode cX12_like 60 = .ok (.iload_n 1, 1) := dget dh_167 (k := 14) rfl
theorem dX12_like_61 : decode cX12_like 61 = .ok (.iload 4, 2) := dget dh_167 (k := 15) rfl
theorem dX12_like_63 : decode cX12_like 63 = .ok (.invokevirtual 483, 3) := dget dh_167 (k := 16) rfl
theorem dX12_like_66 : decode cX12_like 66 = .ok (.aload_n 0, 1) := dget dh_167 (k := 17) rfl
theorem dX12_like_67 : decode cX12_like 67 = .ok (.iload_n 1, 1) := dget dh_167 (k := 18) rfl
theorem dX12_like_68 : decode cX12_like 68 = .ok (.iload_n 3, 1) := dget dh_167 (k := 19) rfl
def dl_168 : List (Nat × (Instr × Nat)) := [(69, (.invokevirtual 483, 3)), (72, (.if_icmp .ge 6, 3)), (75, (.iload 4, 2)), (77, (.istore_n 3, 1)), (78, (.iinc 4 1, 3)), (81, (.goto (-42), 3)), (84, (.iload_n 2, 1)), (85, (.ifCond .ne 7, 3)), (88, (.iload_n 3, 1)), (89, (.goto 9, 3)), (92, (.aload_n 0, 1)), (93, (.iload_n 1, 1)), (94, (.iload_n 3, 1)), (95, (.invokevirtual 483, 3)), (98, (.ireturn, 1))]
theorem dh_168 : dchk cX12_like dl_168 = true := by decide +kernel
theorem dX12_like_69 : decode cX12_like 69 = .ok (.invokevirtual 483, 3) := dget dh_168 (k := 0) rfl
theorem dX12_like_72 : decode cX12_like 72 = .ok (.if_icmp .ge 6, 3) := dget dh_168 (k := 1) rfl
theorem dX12_like_75 : decode cX12_like 75 = .ok (.iload 4, 2) := dget dh_168 (k := 2) rfl
theorem dX12_like_77 : decode cX12_like 77 = .ok (.istore_n 3, 1) := dget dh_168 (k := 3) rfl
theorem dX12_like_78 : decode cX12_like 78 = .ok (.iinc 4 1, 3) := dget dh_168 (k := 4) rfl
theorem dX12_like_81 : decode cX12_like 81 = .ok (.goto (-42), 3) := dget dh_168 (k := 5) rfl
theorem dX12_like_84 : decode cX12_like 84 = .ok (.iload_n 2, 1) := dget dh_168 (k := 6) rfl
theorem dX12_like_85 : decode cX12_like 85 = .ok (.ifCond .ne 7, 3) := dget dh_168 (k := 7) rfl
theorem dX12_like_88 : decode cX12_like 88 = .ok (.iload_n 3, 1) := dget dh_168 (k := 8) rfl
theorem dX12_like_89 : decode cX12_like 89 = .ok (.goto 9, 3) := dget dh_168 (k := 9) rfl
theorem dX12_like_92 : decode cX12_like 92 = .ok (.aload_n 0, 1) := dget dh_168 (k := 10) rfl
theorem dX12_like_93 : decode cX12_like 93 = .ok (.iload_n 1, 1) := dget dh_168 (k := 11) rfl
theorem dX12_like_94 : decode cX12_like 94 = .ok (.iload_n 3, 1) := dget dh_168 (k := 12) rfl
theorem dX12_like_95 : decode cX12_like 95 = .ok (.invokevirtual 483, 3) := dget dh_168 (k := 13) rfl
theorem dX12_like_98 : decode cX12_like 98 = .ok (.ireturn, 1) := dget dh_168 (k := 14) rfl
def dl_169 : List (Nat × (Instr × Nat)) := [(0, (.iconst 0, 1)), (1, (.istore_n 2, 1)), (2, (.iconst 4, 1)), (3, (.iload_n 1, 1)), (4, (.imul, 1)), (5, (.istore_n 3, 1)), (6, (.iload_n 3, 1)), (7, (.iconst 4, 1)), (8, (.iload_n 1, 1)), (9, (.imul, 1)), (10, (.iconst 4, 1)), (11, (.iadd, 1)), (12, (.if_icmp .ge 25, 3)), (15, (.iload_n 2, 1)), (16, (.bipush 8, 2)), (18, (.ishl, 1)), (19, (.aload_n 0, 1)), (20, (.getfield 68, 3)), (23, (.iload_n 3, 1)), (24, (.baload, 1))]
theorem dh_169 : dchk cX12_tapeNumber dl_169 = true := by decide +kernel
theorem dX12_tapeNumber_0 : decode cX12_tapeNumber 0 = .ok (.iconst 0, 1) := dget dh_169 (k := 0) rfl
theorem dX12_tapeNumber_1 : decode cX12_tapeNumber 1 = .ok (.istore_n 2, 1) := dget dh_169 (k := 1) rfl
theorem dX12_tapeNumber_2 : decode cX12_tapeNumber 2 = .ok (.iconst 4, 1) := dget dh_169 (k := 2) rfl
theorem dX12_tapeNumber_3 : decode cX12_tapeNumber 3 = .ok (.iload_n 1, 1) := dget dh_169 (k := 3) rfl
theorem dX12_tapeNumber_4 : decode cX12_tapeNumber 4 = .ok (.imul, 1) := dget dh_169 (k := 4) rfl
theorem dX12_tapeNumber_5 : decode cX12_tapeNumber 5 = .ok (.istore_n 3, 1) := dget dh_169 (k := 5) rfl
theorem dX12_tapeNumber_6 : decode cX12_tapeNumber 6 = .ok (.iload_n 3, 1) := dget dh_169 (k := 6) rfl
theorem dX12_tapeNumber_7 : decode cX12_tapeNumber 7 = .ok (.iconst 4, 1) := dget dh_169 (k := 7) rfl
theorem dX12_tapeNumber_8 : decode cX12_tapeNumber 8 = .ok (.iload_n 1, 1) := dget dh_169 (k := 8) rfl
theorem dX12_tapeNumber_9 : decode cX12_tapeNumber 9 = .ok (.imul, 1) := dget dh_169 (k := 9) rfl
theorem dX12_tapeNumber_10 : decode cX12_tapeNumber 10 = .ok (.iconst 4, 1) := dget dh_169 (k := 10) rfl
theorem dX12_tapeNumber_11 : decode cX12_tapeNumber 11 = .ok (.iadd, 1) := dget dh_169 (k := 11) rfl
theorem dX12_tapeNumber_12 : decode cX12_tapeNumber 12 = .ok (.if_icmp .ge 25, 3) := dget dh_169 (k := 12) rfl
theorem dX12_tapeNumber_15 : decode cX12_tapeNumber 15 = .ok (.iload_n 2, 1) := dget dh_169 (k := 13) rfl
theorem dX12_tapeNumber_16 : decode cX12_tapeNumber 16 = .ok (.bipush 8, 2) := dget dh_169 (k := 14) rfl
theorem dX12_tapeNumber_18 : decode cX12_tapeNumber 18 = .ok (.ishl, 1) := dget dh_169 (k := 15) rfl
theorem dX12_tapeNumber_19 : decode cX12_tapeNumber 19 = .ok (.aload_n 0, 1) := dget dh_169 (k := 16) rfl
theorem dX12_tapeNumber_20 : decode cX12_tapeNumber 20 = .ok (.getfield 68, 3) := dget dh_169 (k := 17) rfl
theorem dX12_tapeNumber_23 : decode cX12_tapeNumber 23 = .ok (.iload_n 3, 1) := dget dh_169 (k := 18) rfl
theorem dX12_tapeNumber_24 : decode cX12_tapeNumber 24 = .ok (.baload, 1) := dget dh_169 (k := 19) rfl
def dl_170 : List (Nat × (Instr × Nat)) := [(25, (.sipush 255, 3)), (28, (.iand, 1)), (29, (.ior, 1)), (30, (.istore_n 2, 1)), (31, (.iinc 3 1, 3)), (34, (.goto (-28), 3)), (37, (.iload_n 2, 1)), (38, (.ireturn, 1))]
theorem dh_170 : dchk cX12_tapeNumber dl_170 = true := by decide +kernel
theorem dX12_tapeNumber_25 : decode cX12_tapeNumber 25 = .ok (.sipush 255, 3) := dget dh_170 (k := 0) rfl
theorem dX12_tapeNumber_28 : decode cX12_tapeNumber 28 = .ok (.iand, 1) := dget dh_170 (k := 1) rfl
theorem dX12_tapeNumber_29 : decode cX12_tapeNumber 29 = .ok (.ior, 1) := dget dh_170 (k := 2) rfl
theorem dX12_tapeNumber_30 : decode cX12_tapeNumber 30 = .ok (.istore_n 2, 1) := dget dh_170 (k := 3) rfl
theorem dX12_tapeNumber_31 : decode cX12_tapeNumber 31 = .ok (.iinc 3 1, 3) := dget dh_170 (k := 4) rfl
theorem dX12_tapeNumber_34 : decode cX12_tapeNumber 34 = .ok (.goto (-28), 3) := dget dh_170 (k := 5) rfl
theorem dX12_tapeNumber_37 : decode cX12_tapeNumber 37 = .ok (.iload_n 2, 1) := dget dh_170 (k := 6) rfl
theorem dX12_tapeNumber_38 : decode cX12_tapeNumber 38 = .ok (.ireturn, 1) := dget dh_170 (k := 7) rfl
def dl_171 : List (Nat × (Instr × Nat)) := [(0, (.aload_n 0, 1)), (1, (.getfield 184, 3)), (4, (.iload_n 1, 1)), (5, (.iaload, 1)), (6, (.istore_n 2, 1)), (7, (.aload_n 0, 1)), (8, (.getfield 187, 3)), (11, (.iload_n 1, 1)), (12, (.iaload, 1)), (13, (.istore_n 3, 1)), (14, (.aload_n 0, 1)), (15, (.getfield 193, 3)), (18, (.bipush 11, 2)), (20, (.iload_n 3, 1)), (21, (.imul, 1)), (22, (.iload_n 2, 1)), (23, (.iadd, 1)), (24, (.iaload, 1)), (25, (.aload_n 0, 1)), (26, (.getfield 190, 3))]
theorem dh_171 : dchk cX12_tellsFact dl_171 = true := by decide +kernel
theorem dX12_tellsFact_0 : decode cX12_tellsFact 0 = .ok (.aload_n 0, 1) := dget dh_171 (k := 0) rfl
theorem dX12_tellsFact_1 : decode cX12_tellsFact 1 = .ok (.getfield 184, 3) := dget dh_171 (k := 1) rfl
theorem dX12_tellsFact_4 : decode cX12_tellsFact 4 = .ok (.iload_n 1, 1) := dget dh_171 (k := 2) rfl
theorem dX12_tellsFact_5 : decode cX12_tellsFact 5 = .ok (.iaload, 1) := dget dh_171 (k := 3) rfl
theorem dX12_tellsFact_6 : decode cX12_tellsFact 6 = .ok (.istore_n 2, 1) := dget dh_171 (k := 4) rfl
theorem dX12_tellsFact_7 : decode cX12_tellsFact 7 = .ok (.aload_n 0, 1) := dget dh_171 (k := 5) rfl
theorem dX12_tellsFact_8 : decode cX12_tellsFact 8 = .ok (.getfield 187, 3) := dget dh_171 (k := 6) rfl
theorem dX12_tellsFact_11 : decode cX12_tellsFact 11 = .ok (.iload_n 1, 1) := dget dh_171 (k := 7) rfl
theorem dX12_tellsFact_12 : decode cX12_tellsFact 12 = .ok (.iaload, 1) := dget dh_171 (k := 8) rfl
theorem dX12_tellsFact_13 : decode cX12_tellsFact 13 = .ok (.istore_n 3, 1) := dget dh_171 (k := 9) rfl
theorem dX12_tellsFact_14 : decode cX12_tellsFact 14 = .ok (.aload_n 0, 1) := dget dh_171 (k := 10) rfl
theorem dX12_tellsFact_15 : decode cX12_tellsFact 15 = .ok (.getfield 193, 3) := dget dh_171 (k := 11) rfl
theorem dX12_tellsFact_18 : decode cX12_tellsFact 18 = .ok (.bipush 11, 2) := dget dh_171 (k := 12) rfl
theorem dX12_tellsFact_20 : decode cX12_tellsFact 20 = .ok (.iload_n 3, 1) := dget dh_171 (k := 13) rfl
theorem dX12_tellsFact_21 : decode cX12_tellsFact 21 = .ok (.imul, 1) := dget dh_171 (k := 14) rfl
theorem dX12_tellsFact_22 : decode cX12_tellsFact 22 = .ok (.iload_n 2, 1) := dget dh_171 (k := 15) rfl
theorem dX12_tellsFact_23 : decode cX12_tellsFact 23 = .ok (.iadd, 1) := dget dh_171 (k := 16) rfl
theorem dX12_tellsFact_24 : decode cX12_tellsFact 24 = .ok (.iaload, 1) := dget dh_171 (k := 17) rfl
theorem dX12_tellsFact_25 : decode cX12_tellsFact 25 = .ok (.aload_n 0, 1) := dget dh_171 (k := 18) rfl
theorem dX12_tellsFact_26 : decode cX12_tellsFact 26 = .ok (.getfield 190, 3) := dget dh_171 (k := 19) rfl
def dl_172 : List (Nat × (Instr × Nat)) := [(29, (.iload_n 1, 1)), (30, (.iaload, 1)), (31, (.invokestatic 490, 3)), (34, (.istore 4, 2)), (36, (.aload_n 0, 1)), (37, (.getfield 196, 3)), (40, (.iload_n 1, 1)), (41, (.iload 4, 2)), (43, (.ifCond .le 7, 3)), (46, (.iconst 1, 1)), (47, (.goto 4, 3)), (50, (.iconst 0, 1)), (51, (.bastore, 1)), (52, (.aload_n 0, 1)), (53, (.getfield 196, 3)), (56, (.iload_n 1, 1)), (57, (.baload, 1)), (58, (.ifCond .eq 4, 3)), (61, (.return_, 1)), (62, (.iconst 0, 1))]
theorem dh_172 : dchk cX12_tellsFact dl_172 = true := by decide +kernel
theorem dX12_tellsFact_29 : decode cX12_tellsFact 29 = .ok (.iload_n 1, 1) := dget dh_172 (k := 0) rfl
theorem dX12_tellsFact_30 : decode cX12_tellsFact 30 = .ok (.iaload, 1) := dget dh_172 (k := 1) rfl
theorem dX12_tellsFact_31 : decode cX12_tellsFact 31 = .ok (.invokestatic 490, 3) := dget dh_172 (k := 2) rfl
theorem dX12_tellsFact_34 : decode cX12_tellsFact 34 = .ok (.istore 4, 2) := dget dh_172 (k := 3) rfl
theorem dX12_tellsFact_36 : decode cX12_tellsFact 36 = .ok (.aload_n 0, 1) := dget dh_172 (k := 4) rfl
theorem dX12_tellsFact_37 : decode cX12_tellsFact 37 = .ok (.getfield 196, 3) := dget dh_172 (k := 5) rfl
theorem dX12_tellsFact_40 : decode cX12_tellsFact 40 = .ok (.iload_n 1, 1) := dget dh_172 (k := 6) rfl
theorem dX12_tellsFact_41 : decode cX12_tellsFact 41 = .ok (.iload 4, 2) := dget dh_172 (k := 7) rfl
theorem dX12_tellsFact_43 : decode cX12_tellsFact 43 = .ok (.ifCond .le 7, 3) := dget dh_172 (k := 8) rfl
theorem dX12_tellsFact_46 : decode cX12_tellsFact 46 = .ok (.iconst 1, 1) := dget dh_172 (k := 9) rfl
theorem dX12_tellsFact_47 : decode cX12_tellsFact 47 = .ok (.goto 4, 3) := dget dh_172 (k := 10) rfl
theorem dX12_tellsFact_50 : decode cX12_tellsFact 50 = .ok (.iconst 0, 1) := dget dh_172 (k := 11) rfl
theorem dX12_tellsFact_51 : decode cX12_tellsFact 51 = .ok (.bastore, 1) := dget dh_172 (k := 12) rfl
theorem dX12_tellsFact_52 : decode cX12_tellsFact 52 = .ok (.aload_n 0, 1) := dget dh_172 (k := 13) rfl
theorem dX12_tellsFact_53 : decode cX12_tellsFact 53 = .ok (.getfield 196, 3) := dget dh_172 (k := 14) rfl
theorem dX12_tellsFact_56 : decode cX12_tellsFact 56 = .ok (.iload_n 1, 1) := dget dh_172 (k := 15) rfl
theorem dX12_tellsFact_57 : decode cX12_tellsFact 57 = .ok (.baload, 1) := dget dh_172 (k := 16) rfl
theorem dX12_tellsFact_58 : decode cX12_tellsFact 58 = .ok (.ifCond .eq 4, 3) := dget dh_172 (k := 17) rfl
theorem dX12_tellsFact_61 : decode cX12_tellsFact 61 = .ok (.return_, 1) := dget dh_172 (k := 18) rfl
theorem dX12_tellsFact_62 : decode cX12_tellsFact 62 = .ok (.iconst 0, 1) := dget dh_172 (k := 19) rfl
def dl_173 : List (Nat × (Instr × Nat)) := [(63, (.istore 5, 2)), (65, (.iload 5, 2)), (67, (.bipush 11, 2)), (69, (.if_icmp .ge 96, 3)), (72, (.iconst 0, 1)), (73, (.istore 6, 2)), (75, (.iload 6, 2)), (77, (.bipush 11, 2)), (79, (.if_icmp .ge 80, 3)), (82, (.aload_n 0, 1)), (83, (.getfield 193, 3)), (86, (.bipush 11, 2)), (88, (.iload 5, 2)), (90, (.imul, 1)), (91, (.iload_n 2, 1)), (92, (.iadd, 1)), (93, (.iaload, 1)), (94, (.aload_n 0, 1)), (95, (.getfield 190, 3)), (98, (.iload_n 1, 1))]
theorem dh_173 : dchk cX12_tellsFact dl_173 = true := by decide +kernel
theorem dX12_tellsFact_63 : decode cX12_tellsFact 63 = .ok (.istore 5, 2) := dget dh_173 (k := 0) rfl
theorem dX12_tellsFact_65 : decode cX12_tellsFact 65 = .ok (.iload 5, 2) := dget dh_173 (k := 1) rfl
theorem dX12_tellsFact_67 : decode cX12_tellsFact 67 = .ok (.bipush 11, 2) := dget dh_173 (k := 2) rfl
theorem dX12_tellsFact_69 : decode cX12_tellsFact 69 = .ok (.if_icmp .ge 96, 3) := dget dh_173 (k := 3) rfl
theorem dX12_tellsFact_72 : decode cX12_tellsFact 72 = .ok (.iconst 0, 1) := dget dh_173 (k := 4) rfl
theorem dX12_tellsFact_73 : decode cX12_tellsFact 73 = .ok (.istore 6, 2) := dget dh_173 (k := 5) rfl
theorem dX12_tellsFact_75 : decode cX12_tellsFact 75 = .ok (.iload 6, 2) := dget dh_173 (k := 6) rfl
theorem dX12_tellsFact_77 : decode cX12_tellsFact 77 = .ok (.bipush 11, 2) := dget dh_173 (k := 7) rfl
theorem dX12_tellsFact_79 : decode cX12_tellsFact 79 = .ok (.if_icmp .ge 80, 3) := dget dh_173 (k := 8) rfl
theorem dX12_tellsFact_82 : decode cX12_tellsFact 82 = .ok (.aload_n 0, 1) := dget dh_173 (k := 9) rfl
theorem dX12_tellsFact_83 : decode cX12_tellsFact 83 = .ok (.getfield 193, 3) := dget dh_173 (k := 10) rfl
theorem dX12_tellsFact_86 : decode cX12_tellsFact 86 = .ok (.bipush 11, 2) := dget dh_173 (k := 11) rfl
theorem dX12_tellsFact_88 : decode cX12_tellsFact 88 = .ok (.iload 5, 2) := dget dh_173 (k := 12) rfl
theorem dX12_tellsFact_90 : decode cX12_tellsFact 90 = .ok (.imul, 1) := dget dh_173 (k := 13) rfl
theorem dX12_tellsFact_91 : decode cX12_tellsFact 91 = .ok (.iload_n 2, 1) := dget dh_173 (k := 14) rfl
theorem dX12_tellsFact_92 : decode cX12_tellsFact 92 = .ok (.iadd, 1) := dget dh_173 (k := 15) rfl
theorem dX12_tellsFact_93 : decode cX12_tellsFact 93 = .ok (.iaload, 1) := dget dh_173 (k := 16) rfl
theorem dX12_tellsFact_94 : decode cX12_tellsFact 94 = .ok (.aload_n 0, 1) := dget dh_173 (k := 17) rfl
theorem dX12_tellsFact_95 : decode cX12_tellsFact 95 = .ok (.getfield 190, 3) := dget dh_173 (k := 18) rfl
theorem dX12_tellsFact_98 : decode cX12_tellsFact 98 = .ok (.iload_n 1, 1) := dget dh_173 (k := 19) rfl
def dl_174 : List (Nat × (Instr × Nat)) := [(99, (.iaload, 1)), (100, (.invokestatic 490, 3)), (103, (.aload_n 0, 1)), (104, (.getfield 193, 3)), (107, (.bipush 11, 2)), (109, (.iload_n 3, 1)), (110, (.imul, 1)), (111, (.iload 6, 2)), (113, (.iadd, 1)), (114, (.iaload, 1)), (115, (.invokestatic 490, 3)), (118, (.istore 7, 2)), (120, (.iload 7, 2)), (122, (.aload_n 0, 1)), (123, (.getfield 193, 3)), (126, (.bipush 11, 2)), (128, (.iload 5, 2)), (130, (.imul, 1)), (131, (.iload 6, 2)), (133, (.iadd, 1))]
theorem dh_174 : dchk cX12_tellsFact dl_174 = true := by decide +kernel
theorem dX12_tellsFact_99 : decode cX12_tellsFact 99 = .ok (.iaload, 1) := dget dh_174 (k := 0) rfl
theorem dX12_tellsFact_100 : decode cX12_tellsFact 100 = .ok (.invokestatic 490, 3) := dget dh_174 (k := 1) rfl
theorem dX12_tellsFact_103 : decode cX12_tellsFact 103 = .ok (.aload_n 0, 1) := dget dh_174 (k := 2) rfl
theorem dX12_tellsFact_104 : decode cX12_tellsFact 104 = .ok (.getfield 193, 3) := dget dh_174 (k := 3) rfl
theorem dX12_tellsFact_107 : decode cX12_tellsFact 107 = .ok (.bipush 11, 2) := dget dh_174 (k := 4) rfl
theorem dX12_tellsFact_109 : decode cX12_tellsFact 109 = .ok (.iload_n 3, 1) := dget dh_174 (k := 5) rfl
theorem dX12_tellsFact_110 : decode cX12_tellsFact 110 = .ok (.imul, 1) := dget dh_174 (k := 6) rfl
theorem dX12_tellsFact_111 : decode cX12_tellsFact 111 = .ok (.iload 6, 2) := dget dh_174 (k := 7) rfl
theorem dX12_tellsFact_113 : decode cX12_tellsFact 113 = .ok (.iadd, 1) := dget dh_174 (k := 8) rfl
theorem dX12_tellsFact_114 : decode cX12_tellsFact 114 = .ok (.iaload, 1) := dget dh_174 (k := 9) rfl
theorem dX12_tellsFact_115 : decode cX12_tellsFact 115 = .ok (.invokestatic 490, 3) := dget dh_174 (k := 10) rfl
theorem dX12_tellsFact_118 : decode cX12_tellsFact 118 = .ok (.istore 7, 2) := dget dh_174 (k := 11) rfl
theorem dX12_tellsFact_120 : decode cX12_tellsFact 120 = .ok (.iload 7, 2) := dget dh_174 (k := 12) rfl
theorem dX12_tellsFact_122 : decode cX12_tellsFact 122 = .ok (.aload_n 0, 1) := dget dh_174 (k := 13) rfl
theorem dX12_tellsFact_123 : decode cX12_tellsFact 123 = .ok (.getfield 193, 3) := dget dh_174 (k := 14) rfl
theorem dX12_tellsFact_126 : decode cX12_tellsFact 126 = .ok (.bipush 11, 2) := dget dh_174 (k := 15) rfl
theorem dX12_tellsFact_128 : decode cX12_tellsFact 128 = .ok (.iload 5, 2) := dget dh_174 (k := 16) rfl
theorem dX12_tellsFact_130 : decode cX12_tellsFact 130 = .ok (.imul, 1) := dget dh_174 (k := 17) rfl
theorem dX12_tellsFact_131 : decode cX12_tellsFact 131 = .ok (.iload 6, 2) := dget dh_174 (k := 18) rfl
theorem dX12_tellsFact_133 : decode cX12_tellsFact 133 = .ok (.iadd, 1) := dget dh_174 (k := 19) rfl
def dl_175 : List (Nat × (Instr × Nat)) := [(134, (.iaload, 1)), (135, (.if_icmp .le 18, 3)), (138, (.aload_n 0, 1)), (139, (.getfield 193, 3)), (142, (.bipush 11, 2)), (144, (.iload 5, 2)), (146, (.imul, 1)), (147, (.iload 6, 2)), (149, (.iadd, 1)), (150, (.iload 7, 2)), (152, (.iastore, 1)), (153, (.iinc 6 1, 3)), (156, (.goto (-81), 3)), (159, (.iinc 5 1, 3)), (162, (.goto (-97), 3)), (165, (.return_, 1))]
theorem dh_175 : dchk cX12_tellsFact dl_175 = true := by decide +kernel
theorem dX12_tellsFact_134 : decode cX12_tellsFact 134 = .ok (.iaload, 1) := dget dh_175 (k := 0) rfl
theorem dX12_tellsFact_135 : decode cX12_tellsFact 135 = .ok (.if_icmp .le 18, 3) := dget dh_175 (k := 1) rfl
theorem dX12_tellsFact_138 : decode cX12_tellsFact 138 = .ok (.aload_n 0, 1) := dget dh_175 (k := 2) rfl
theorem dX12_tellsFact_139 : decode cX12_tellsFact 139 = .ok (.getfield 193, 3) := dget dh_175 (k := 3) rfl
theorem dX12_tellsFact_142 : decode cX12_tellsFact 142 = .ok (.bipush 11, 2) := dget dh_175 (k := 4) rfl
theorem dX12_tellsFact_144 : decode cX12_tellsFact 144 = .ok (.iload 5, 2) := dget dh_175 (k := 5) rfl
theorem dX12_tellsFact_146 : decode cX12_tellsFact 146 = .ok (.imul, 1) := dget dh_175 (k := 6) rfl
theorem dX12_tellsFact_147 : decode cX12_tellsFact 147 = .ok (.iload 6, 2) := dget dh_175 (k := 7) rfl
theorem dX12_tellsFact_149 : decode cX12_tellsFact 149 = .ok (.iadd, 1) := dget dh_175 (k := 8) rfl
theorem dX12_tellsFact_150 : decode cX12_tellsFact 150 = .ok (.iload 7, 2) := dget dh_175 (k := 9) rfl
theorem dX12_tellsFact_152 : decode cX12_tellsFact 152 = .ok (.iastore, 1) := dget dh_175 (k := 10) rfl
theorem dX12_tellsFact_153 : decode cX12_tellsFact 153 = .ok (.iinc 6 1, 3) := dget dh_175 (k := 11) rfl
theorem dX12_tellsFact_156 : decode cX12_tellsFact 156 = .ok (.goto (-81), 3) := dget dh_175 (k := 12) rfl
theorem dX12_tellsFact_159 : decode cX12_tellsFact 159 = .ok (.iinc 5 1, 3) := dget dh_175 (k := 13) rfl
theorem dX12_tellsFact_162 : decode cX12_tellsFact 162 = .ok (.goto (-97), 3) := dget dh_175 (k := 14) rfl
theorem dX12_tellsFact_165 : decode cX12_tellsFact 165 = .ok (.return_, 1) := dget dh_175 (k := 15) rfl
def dl_176 : List (Nat × (Instr × Nat)) := [(0, (.iconst 3, 1)), (1, (.istore_n 2, 1)), (2, (.iload_n 2, 1)), (3, (.ifCond .lt 35, 3)), (6, (.aload_n 0, 1)), (7, (.getfield 68, 3)), (10, (.aload_n 0, 1)), (11, (.getfield 255, 3)), (14, (.iload_n 1, 1)), (15, (.bipush 8, 2)), (17, (.iload_n 2, 1)), (18, (.imul, 1)), (19, (.ishr, 1)), (20, (.i2b, 1)), (21, (.bastore, 1)), (22, (.aload_n 0, 1)), (23, (.aload_n 0, 1)), (24, (.getfield 255, 3)), (27, (.iconst 1, 1)), (28, (.iadd, 1))]
theorem dh_176 : dchk cX12_types dl_176 = true := by decide +kernel
theorem dX12_types_0 : decode cX12_types 0 = .ok (.iconst 3, 1) := dget dh_176 (k := 0) rfl
theorem dX12_types_1 : decode cX12_types 1 = .ok (.istore_n 2, 1) := dget dh_176 (k := 1) rfl
theorem dX12_types_2 : decode cX12_types 2 = .ok (.iload_n 2, 1) := dget dh_176 (k := 2) rfl
theorem dX12_types_3 : decode cX12_types 3 = .ok (.ifCond .lt 35, 3) := dget dh_176 (k := 3) rfl
theorem dX12_types_6 : decode cX12_types 6 = .ok (.aload_n 0, 1) := dget dh_176 (k := 4) rfl
theorem dX12_types_7 : decode cX12_types 7 = .ok (.getfield 68, 3) := dget dh_176 (k := 5) rfl
theorem dX12_types_10 : decode cX12_types 10 = .ok (.aload_n 0, 1) := dget dh_176 (k := 6) rfl
theorem dX12_types_11 : decode cX12_types 11 = .ok (.getfield 255, 3) := dget dh_176 (k := 7) rfl
theorem dX12_types_14 : decode cX12_types 14 = .ok (.iload_n 1, 1) := dget dh_176 (k := 8) rfl
theorem dX12_types_15 : decode cX12_types 15 = .ok (.bipush 8, 2) := dget dh_176 (k := 9) rfl
theorem dX12_types_17 : decode cX12_types 17 = .ok (.iload_n 2, 1) := dget dh_176 (k := 10) rfl
theorem dX12_types_18 : decode cX12_types 18 = .ok (.imul, 1) := dget dh_176 (k := 11) rfl
theorem dX12_types_19 : decode cX12_types 19 = .ok (.ishr, 1) := dget dh_176 (k := 12) rfl
theorem dX12_types_20 : decode cX12_types 20 = .ok (.i2b, 1) := dget dh_176 (k := 13) rfl
theorem dX12_types_21 : decode cX12_types 21 = .ok (.bastore, 1) := dget dh_176 (k := 14) rfl
theorem dX12_types_22 : decode cX12_types 22 = .ok (.aload_n 0, 1) := dget dh_176 (k := 15) rfl
theorem dX12_types_23 : decode cX12_types 23 = .ok (.aload_n 0, 1) := dget dh_176 (k := 16) rfl
theorem dX12_types_24 : decode cX12_types 24 = .ok (.getfield 255, 3) := dget dh_176 (k := 17) rfl
theorem dX12_types_27 : decode cX12_types 27 = .ok (.iconst 1, 1) := dget dh_176 (k := 18) rfl
theorem dX12_types_28 : decode cX12_types 28 = .ok (.iadd, 1) := dget dh_176 (k := 19) rfl
def dl_177 : List (Nat × (Instr × Nat)) := [(29, (.putfield 255, 3)), (32, (.iinc 2 (-1), 3)), (35, (.goto (-33), 3)), (38, (.return_, 1))]
theorem dh_177 : dchk cX12_types dl_177 = true := by decide +kernel
theorem dX12_types_29 : decode cX12_types 29 = .ok (.putfield 255, 3) := dget dh_177 (k := 0) rfl
theorem dX12_types_32 : decode cX12_types 32 = .ok (.iinc 2 (-1), 3) := dget dh_177 (k := 1) rfl
theorem dX12_types_35 : decode cX12_types 35 = .ok (.goto (-33), 3) := dget dh_177 (k := 2) rfl
theorem dX12_types_38 : decode cX12_types 38 = .ok (.return_, 1) := dget dh_177 (k := 3) rfl
def dl_178 : List (Nat × (Instr × Nat)) := [(0, (.iload_n 1, 1)), (1, (.iconst (-1), 1)), (2, (.if_icmp .ge 5, 3)), (5, (.iconst (-1), 1)), (6, (.ireturn, 1)), (7, (.aload_n 0, 1)), (8, (.invokevirtual 497, 3)), (11, (.iconst 0, 1)), (12, (.istore_n 2, 1)), (13, (.iconst 0, 1)), (14, (.istore_n 3, 1)), (15, (.iload_n 3, 1)), (16, (.aload_n 0, 1)), (17, (.getfield 486, 3)), (20, (.if_icmp .ge 32, 3)), (23, (.aload_n 0, 1)), (24, (.getfield 196, 3)), (27, (.iload_n 3, 1)), (28, (.baload, 1)), (29, (.ifCond .ne 6, 3))]
theorem dh_178 : dchk cX12_wrong dl_178 = true := by decide +kernel
theorem dX12_wrong_0 : decode cX12_wrong 0 = .ok (.iload_n 1, 1) := dget dh_178 (k := 0) rfl
theorem dX12_wrong_1 : decode cX12_wrong 1 = .ok (.iconst (-1), 1) := dget dh_178 (k := 1) rfl
theorem dX12_wrong_2 : decode cX12_wrong 2 = .ok (.if_icmp .ge 5, 3) := dget dh_178 (k := 2) rfl
theorem dX12_wrong_5 : decode cX12_wrong 5 = .ok (.iconst (-1), 1) := dget dh_178 (k := 3) rfl
theorem dX12_wrong_6 : decode cX12_wrong 6 = .ok (.ireturn, 1) := dget dh_178 (k := 4) rfl
theorem dX12_wrong_7 : decode cX12_wrong 7 = .ok (.aload_n 0, 1) := dget dh_178 (k := 5) rfl
theorem dX12_wrong_8 : decode cX12_wrong 8 = .ok (.invokevirtual 497, 3) := dget dh_178 (k := 6) rfl
theorem dX12_wrong_11 : decode cX12_wrong 11 = .ok (.iconst 0, 1) := dget dh_178 (k := 7) rfl
theorem dX12_wrong_12 : decode cX12_wrong 12 = .ok (.istore_n 2, 1) := dget dh_178 (k := 8) rfl
theorem dX12_wrong_13 : decode cX12_wrong 13 = .ok (.iconst 0, 1) := dget dh_178 (k := 9) rfl
theorem dX12_wrong_14 : decode cX12_wrong 14 = .ok (.istore_n 3, 1) := dget dh_178 (k := 10) rfl
theorem dX12_wrong_15 : decode cX12_wrong 15 = .ok (.iload_n 3, 1) := dget dh_178 (k := 11) rfl
theorem dX12_wrong_16 : decode cX12_wrong 16 = .ok (.aload_n 0, 1) := dget dh_178 (k := 12) rfl
theorem dX12_wrong_17 : decode cX12_wrong 17 = .ok (.getfield 486, 3) := dget dh_178 (k := 13) rfl
theorem dX12_wrong_20 : decode cX12_wrong 20 = .ok (.if_icmp .ge 32, 3) := dget dh_178 (k := 14) rfl
theorem dX12_wrong_23 : decode cX12_wrong 23 = .ok (.aload_n 0, 1) := dget dh_178 (k := 15) rfl
theorem dX12_wrong_24 : decode cX12_wrong 24 = .ok (.getfield 196, 3) := dget dh_178 (k := 16) rfl
theorem dX12_wrong_27 : decode cX12_wrong 27 = .ok (.iload_n 3, 1) := dget dh_178 (k := 17) rfl
theorem dX12_wrong_28 : decode cX12_wrong 28 = .ok (.baload, 1) := dget dh_178 (k := 18) rfl
theorem dX12_wrong_29 : decode cX12_wrong 29 = .ok (.ifCond .ne 6, 3) := dget dh_178 (k := 19) rfl
def dl_179 : List (Nat × (Instr × Nat)) := [(32, (.goto 14, 3)), (35, (.iload_n 2, 1)), (36, (.iload_n 1, 1)), (37, (.if_icmp .ne 5, 3)), (40, (.iload_n 3, 1)), (41, (.ireturn, 1)), (42, (.iload_n 2, 1)), (43, (.iconst 1, 1)), (44, (.iadd, 1)), (45, (.istore_n 2, 1)), (46, (.iinc 3 1, 3)), (49, (.goto (-34), 3)), (52, (.iload_n 1, 1)), (53, (.iconst (-1), 1)), (54, (.if_icmp .ne 7, 3)), (57, (.iload_n 2, 1)), (58, (.goto 4, 3)), (61, (.iconst (-1), 1)), (62, (.ireturn, 1))]
theorem dh_179 : dchk cX12_wrong dl_179 = true := by decide +kernel
theorem dX12_wrong_32 : decode cX12_wrong 32 = .ok (.goto 14, 3) := dget dh_179 (k := 0) rfl
theorem dX12_wrong_35 : decode cX12_wrong 35 = .ok (.iload_n 2, 1) := dget dh_179 (k := 1) rfl
theorem dX12_wrong_36 : decode cX12_wrong 36 = .ok (.iload_n 1, 1) := dget dh_179 (k := 2) rfl
theorem dX12_wrong_37 : decode cX12_wrong 37 = .ok (.if_icmp .ne 5, 3) := dget dh_179 (k := 3) rfl
theorem dX12_wrong_40 : decode cX12_wrong 40 = .ok (.iload_n 3, 1) := dget dh_179 (k := 4) rfl
theorem dX12_wrong_41 : decode cX12_wrong 41 = .ok (.ireturn, 1) := dget dh_179 (k := 5) rfl
theorem dX12_wrong_42 : decode cX12_wrong 42 = .ok (.iload_n 2, 1) := dget dh_179 (k := 6) rfl
theorem dX12_wrong_43 : decode cX12_wrong 43 = .ok (.iconst 1, 1) := dget dh_179 (k := 7) rfl
theorem dX12_wrong_44 : decode cX12_wrong 44 = .ok (.iadd, 1) := dget dh_179 (k := 8) rfl
theorem dX12_wrong_45 : decode cX12_wrong 45 = .ok (.istore_n 2, 1) := dget dh_179 (k := 9) rfl
theorem dX12_wrong_46 : decode cX12_wrong 46 = .ok (.iinc 3 1, 3) := dget dh_179 (k := 10) rfl
theorem dX12_wrong_49 : decode cX12_wrong 49 = .ok (.goto (-34), 3) := dget dh_179 (k := 11) rfl
theorem dX12_wrong_52 : decode cX12_wrong 52 = .ok (.iload_n 1, 1) := dget dh_179 (k := 12) rfl
theorem dX12_wrong_53 : decode cX12_wrong 53 = .ok (.iconst (-1), 1) := dget dh_179 (k := 13) rfl
theorem dX12_wrong_54 : decode cX12_wrong 54 = .ok (.if_icmp .ne 7, 3) := dget dh_179 (k := 14) rfl
theorem dX12_wrong_57 : decode cX12_wrong 57 = .ok (.iload_n 2, 1) := dget dh_179 (k := 15) rfl
theorem dX12_wrong_58 : decode cX12_wrong 58 = .ok (.goto 4, 3) := dget dh_179 (k := 16) rfl
theorem dX12_wrong_61 : decode cX12_wrong 61 = .ok (.iconst (-1), 1) := dget dh_179 (k := 17) rfl
theorem dX12_wrong_62 : decode cX12_wrong 62 = .ok (.ireturn, 1) := dget dh_179 (k := 18) rfl
set_option maxHeartbeats 4000000 in
set_option maxRecDepth 100000 in
theorem c_X12_types (l : Launch) (D : va_G) (cy : Nat → ClassId) (a : Nat → Nat) (i : Nat → Int32) (r : Nat → Nat → Int32) (rl : Nat → Int64) (p0 : Int32) (sz : Nat) (hRi : mRi i) (hRr : mRr r) (h22 : 0 ≤ (i 22).toInt ∧ (i 22).toInt ≤ 216) : Met l yX12_types (Cond.code yX12_types cX12_types 3 none :: gT) { frames := 1, cells := 0, slots := 0, locals := 24 } (va_Pc [.ref (a 0), .int p0] (rQ D cy (mW cy a i r rl) sz)) (va_Qv (fun u : (Nat → Int32) × (Nat → Nat → Int32) => mRi u.1 ∧ mRr u.2 ∧ mEi [22] i u.1 ∧ mEr [20] r u.2 ∧ ((u.1 22).toInt = (i 22).toInt + 4)) (fun (u : (Nat → Int32) × (Nat → Nat → Int32)) t => va_P D vwCl (mW cy a u.1 u.2 rl) t.heap ∧ va_K D vwCl (vT cy) t ∧ va_D (va_A (mW cy a i r rl) sz) (mW cy a u.1 u.2 rl)) (va_A (mW cy a i r rl) sz)) 0 0 (va_A (mW cy a i r rl) sz) := by
  refine Met.ofQ (cc := cX12_types) (maxL := 3) (ret := none) (by decide) rfl ?_
  intro p e s m args below meth c s₁ B hml hv Q hQ
  obtain ⟨rfl, hsz, hP, hK, hD0⟩ := hv
  have hx := B.exec
  have hb := B.bytes
  have hr := B.returns
  have hlocks := B.notSynchronized
  have hT : ∀ w ∈ gT, w.before _ s = true := fun w h => atoms_spec (ws := (Cond.code yX12_types cX12_types 3 none :: gT)) B.pre w (List.mem_cons_of_mem _ h)
  have hown : s.vm.findClass RX12 = some m.cls := findClass_of_methodNamed B.named
  subst hsz
  have hD := hD0.self (sz := s.heap.size)
  generalize hAe : va_A (mW cy a i r rl) s.heap.size = A at hD hQ
  have hA : ∀ q : Nat, s.heap.size ≤ q → A q := fun q h => by rw [← hAe]; exact Or.inr h
  have hS : va_S A s.heap s.heap [] := va_S.rf
  have hl := lv_entry ([.ref (a 0), .int p0]) (n := 3) (Nat.le_of_ble_eq_true rfl)
  rw [lg_entry_eq]
  generalize (lg_sl ([.ref (a 0), .int p0]) ++ List.replicate (3 - (lg_sl ([.ref (a 0), .int p0])).length) Slot.unset).toArray = ls at hl ⊢
  have hl : lv_has ls 3 [(0, .ref (a 0)), (1, .int p0)] := hl
  have hEi : mEi [22] i i := Ei_rf
  have hEr : mEr [20] r r := Er_rf
  refine lv_iconst (v := 3) hx hb dX12_types_0 (by decide) ?_
  refine lv_istore_n (lv' := [(2, .int 3), (0, .ref (a 0)), (1, .int p0)]) hx hb dX12_types_1 rfl hl (by decide) rfl (fun ls hl => ?_)
  refine lv_iload_n hx hb dX12_types_2 rfl (lv_at hl 0 rfl) ?_
  refine lv_if_lt (tgt := 38) hx hb dX12_types_3 (by decide) (fun c_1 => absurd c_1 (by decide)) (fun c_1 => ?_)
  refine lv_aload_n hx hb dX12_types_6 rfl (lv_at hl 1 rfl) ?_
  refine va_get (D := D) (ci := 12) (v := .ref (a 20)) (C := RX12) (T := TX12) (N := 91) hx hb hT iX12 hown hK hP 0 rfl rfl 21 (by decide) (hT _ t_200) (fun _ h9 => h9) rfl dX12_types_7 ?_
  refine lv_aload_n hx hb dX12_types_10 rfl (lv_at hl 1 rfl) ?_
  refine va_get (D := D) (ci := 12) (v := .int (i 22)) (C := RX12) (T := TX12) (N := 91) hx hb hT iX12 hown hK hP 0 rfl rfl 22 (by decide) (hT _ t_201) (fun _ h9 => h9) rfl dX12_types_11 ?_
  have hg_2 : 0 ≤ (i 22).toInt ∧ (i 22).toInt ≤ 220 := hRi 22
  refine lv_iload_n hx hb dX12_types_14 rfl (lv_at hl 2 rfl) ?_
  refine lv_bipush (v := 8) hx hb dX12_types_15 (by decide) ?_
  refine lv_iload_n hx hb dX12_types_17 rfl (lv_at hl 0 rfl) ?_
  refine lv_imul hx hb dX12_types_18 ?_
  refine lv_topi (fun v_3 ev_3 => ?_)
  obtain rfl : v_3 = 24 := ev_3.trans (by decide)
  refine lv_ishr hx hb dX12_types_19 ?_
  refine lv_topi (fun v_4 ev_4 => ?_)
  obtain ⟨v_5, ev_5⟩ : ∃ y : Int32, v_4.toInt8.toInt32 = y := ⟨_, rfl⟩
  refine lv_i2b (v := v_5) hx hb dX12_types_20 ev_5 ?_
  refine va_bast hx hb hK hP hD hS 20 1 rfl rfl (vp_inI (by omega) (by omega)) dX12_types_21 (fun H locs hP hD hS => ?_)
  rw [mS20] at hP hD
  have hRr : mRr (va_up r 20 (upd (r 20) ((i 22).toNatClampNeg) (vp_nar .byte v_5))) := Rr_upd hRr 20 ((i 22).toNatClampNeg) (vp_nar .byte v_5) (b_rg _)
  have hEr : mEr [20] _ (va_up r 20 (upd (r 20) ((i 22).toNatClampNeg) (vp_nar .byte v_5))) := Er_up hEr 20 _ (by decide)
  refine lv_aload_n hx hb dX12_types_22 rfl (lv_at hl 1 rfl) ?_
  refine lv_aload_n hx hb dX12_types_23 rfl (lv_at hl 1 rfl) ?_
  refine va_get (D := D) (ci := 12) (v := .int (i 22)) (C := RX12) (T := TX12) (N := 91) hx hb hT iX12 hown hK hP 0 rfl rfl 22 (by decide) (hT _ t_201) (fun _ h9 => h9) rfl dX12_types_24 ?_
  refine lv_iconst (v := 1) hx hb dX12_types_27 (by decide) ?_
  refine lv_iadd hx hb dX12_types_28 ?_
  refine lv_topi (fun v_6 ev_6 => ?_)
  have hv_6 : v_6.toInt = (i 22).toInt + 1 := by rw [ev_6]; have := b_rg (i 22); exact i_add (a := (i 22).toInt) (b := 1) rfl rfl (by omega) (by omega)
  refine va_put (D := D) (ci := 12) (v := .int v_6) (ty := .int) (C := RX12) (T := TX12) (N := 91) hx hb hT iX12 tyX12 tyX12_ok nmX12 hown hK hP hD hS 0 rfl rfl 22 (by decide) (hT _ t_201) (fun _ h9 => h9) rfl (by decide +kernel) rfl rfl (Nat.le_of_ble_eq_true rfl) dX12_types_29 (fun H locs hP hD hS => ?_)
  rw [mP22] at hP hD
  have hRi := Ri_upd hRi 22 v_6 ⟨by show (0 : Int) ≤ v_6.toInt; omega, by show v_6.toInt ≤ (220 : Int); omega⟩
  have hEi := Ei_upd hEi 22 v_6 (by decide)
  obtain ⟨x_7, ex_7⟩ : ∃ y : Int32, y = (3 : Int32) + (-1) := ⟨_, rfl⟩
  refine lv_iinc (v := x_7) (lv' := [(2, .int x_7), (0, .ref (a 0)), (1, .int p0)]) hx hb dX12_types_32 hl (k := 0) rfl (by rw [ex_7]; rfl) (by decide) rfl (fun ls hl => ?_)
  obtain rfl : x_7 = 2 := ex_7.trans (by decide)
  refine lv_goto (tgt := 2) hx hb dX12_types_35 (by decide) ?_
  refine lv_iload_n hx hb dX12_types_2 rfl (lv_at hl 0 rfl) ?_
  refine lv_if_lt (tgt := 38) hx hb dX12_types_3 (by decide) (fun c_8 => absurd c_8 (by decide)) (fun c_8 => ?_)
  refine lv_aload_n hx hb dX12_types_6 rfl (lv_at hl 1 rfl) ?_
  refine va_get (D := D) (ci := 12) (v := .ref (a 20)) (C := RX12) (T := TX12) (N := 91) hx hb hT iX12 hown hK hP 0 rfl rfl 21 (by decide) (hT _ t_200) (fun _ h9 => h9) rfl dX12_types_7 ?_
  refine lv_aload_n hx hb dX12_types_10 rfl (lv_at hl 1 rfl) ?_
  refine va_get (D := D) (ci := 12) (v := .int v_6) (C := RX12) (T := TX12) (N := 91) hx hb hT iX12 hown hK hP 0 rfl rfl 22 (by decide) (hT _ t_201) (fun _ h9 => h9) rfl dX12_types_11 ?_
  refine lv_iload_n hx hb dX12_types_14 rfl (lv_at hl 2 rfl) ?_
  refine lv_bipush (v := 8) hx hb dX12_types_15 (by decide) ?_
  refine lv_iload_n hx hb dX12_types_17 rfl (lv_at hl 0 rfl) ?_
  refine lv_imul hx hb dX12_types_18 ?_
  refine lv_topi (fun v_9 ev_9 => ?_)
  obtain rfl : v_9 = 16 := ev_9.trans (by decide)
  refine lv_ishr hx hb dX12_types_19 ?_
  refine lv_topi (fun v_10 ev_10 => ?_)
  obtain ⟨v_11, ev_11⟩ : ∃ y : Int32, v_10.toInt8.toInt32 = y := ⟨_, rfl⟩
  refine lv_i2b (v := v_11) hx hb dX12_types_20 ev_11 ?_
  refine va_bast hx hb hK hP hD hS 20 1 rfl rfl (vp_inI (by omega) (by omega)) dX12_types_21 (fun H locs hP hD hS => ?_)
  rw [mS20] at hP hD
  have hRr : mRr (va_up (va_up r 20 (upd (r 20) ((i 22).toNatClampNeg) (vp_nar .byte v_5))) 20 (upd (upd (r 20) ((i 22).toNatClampNeg) (vp_nar .byte v_5)) v_6.toNatClampNeg (vp_nar .byte v_11))) := Rr_upd hRr 20 (v_6.toNatClampNeg) (vp_nar .byte v_11) (b_rg _)
  have hEr : mEr [20] _ (va_up (va_up r 20 (upd (r 20) ((i 22).toNatClampNeg) (vp_nar .byte v_5))) 20 (upd (upd (r 20) ((i 22).toNatClampNeg) (vp_nar .byte v_5)) v_6.toNatClampNeg (vp_nar .byte v_11))) := Er_up hEr 20 _ (by decide)
  refine lv_aload_n hx hb dX12_types_22 rfl (lv_at hl 1 rfl) ?_
  refine lv_aload_n hx hb dX12_types_23 rfl (lv_at hl 1 rfl) ?_
  refine va_get (D := D) (ci := 12) (v := .int v_6) (C := RX12) (T := TX12) (N := 91) hx hb hT iX12 hown hK hP 0 rfl rfl 22 (by decide) (hT _ t_201) (fun _ h9 => h9) rfl dX12_types_24 ?_
  refine lv_iconst (v := 1) hx hb dX12_types_27 (by decide) ?_
  refine lv_iadd hx hb dX12_types_28 ?_
  refine lv_topi (fun v_12 ev_12 => ?_)
  have hv_12 : v_12.toInt = v_6.toInt + 1 := by rw [ev_12]; have := b_rg v_6; exact i_add (a := v_6.toInt) (b := 1) rfl rfl (by omega) (by omega)
  refine va_put (D := D) (ci := 12) (v := .int v_12) (ty := .int) (C := RX12) (T := TX12) (N := 91) hx hb hT iX12 tyX12 tyX12_ok nmX12 hown hK hP hD hS 0 rfl rfl 22 (by decide) (hT _ t_201) (fun _ h9 => h9) rfl (by decide +kernel) rfl rfl (Nat.le_of_ble_eq_true rfl) dX12_types_29 (fun H locs hP hD hS => ?_)
  rw [mP22] at hP hD
  have hRi := Ri_upd hRi 22 v_12 ⟨by show (0 : Int) ≤ v_12.toInt; omega, by show v_12.toInt ≤ (220 : Int); omega⟩
  have hEi := Ei_upd hEi 22 v_12 (by decide)
  obtain ⟨x_13, ex_13⟩ : ∃ y : Int32, y = (2 : Int32) + (-1) := ⟨_, rfl⟩
  refine lv_iinc (v := x_13) (lv' := [(2, .int x_13), (0, .ref (a 0)), (1, .int p0)]) hx hb dX12_types_32 hl (k := 0) rfl (by rw [ex_13]; rfl) (by decide) rfl (fun ls hl => ?_)
  obtain rfl : x_13 = 1 := ex_13.trans (by decide)
  refine lv_goto (tgt := 2) hx hb dX12_types_35 (by decide) ?_
  refine lv_iload_n hx hb dX12_types_2 rfl (lv_at hl 0 rfl) ?_
  refine lv_if_lt (tgt := 38) hx hb dX12_types_3 (by decide) (fun c_14 => absurd c_14 (by decide)) (fun c_14 => ?_)
  refine lv_aload_n hx hb dX12_types_6 rfl (lv_at hl 1 rfl) ?_
  refine va_get (D := D) (ci := 12) (v := .ref (a 20)) (C := RX12) (T := TX12) (N := 91) hx hb hT iX12 hown hK hP 0 rfl rfl 21 (by decide) (hT _ t_200) (fun _ h9 => h9) rfl dX12_types_7 ?_
  refine lv_aload_n hx hb dX12_types_10 rfl (lv_at hl 1 rfl) ?_
  refine va_get (D := D) (ci := 12) (v := .int v_12) (C := RX12) (T := TX12) (N := 91) hx hb hT iX12 hown hK hP 0 rfl rfl 22 (by decide) (hT _ t_201) (fun _ h9 => h9) rfl dX12_types_11 ?_
  refine lv_iload_n hx hb dX12_types_14 rfl (lv_at hl 2 rfl) ?_
  refine lv_bipush (v := 8) hx hb dX12_types_15 (by decide) ?_
  refine lv_iload_n hx hb dX12_types_17 rfl (lv_at hl 0 rfl) ?_
  refine lv_imul hx hb dX12_types_18 ?_
  refine lv_topi (fun v_15 ev_15 => ?_)
  obtain rfl : v_15 = 8 := ev_15.trans (by decide)
  refine lv_ishr hx hb dX12_types_19 ?_
  refine lv_topi (fun v_16 ev_16 => ?_)
  obtain ⟨v_17, ev_17⟩ : ∃ y : Int32, v_16.toInt8.toInt32 = y := ⟨_, rfl⟩
  refine lv_i2b (v := v_17) hx hb dX12_types_20 ev_17 ?_
  refine va_bast hx hb hK hP hD hS 20 1 rfl rfl (vp_inI (by omega) (by omega)) dX12_types_21 (fun H locs hP hD hS => ?_)
  rw [mS20] at hP hD
  have hRr : mRr (va_up (va_up (va_up r 20 (upd (r 20) ((i 22).toNatClampNeg) (vp_nar .byte v_5))) 20 (upd (upd (r 20) ((i 22).toNatClampNeg) (vp_nar .byte v_5)) v_6.toNatClampNeg (vp_nar .byte v_11))) 20 (upd (upd (upd (r 20) ((i 22).toNatClampNeg) (vp_nar .byte v_5)) v_6.toNatClampNeg (vp_nar .byte v_11)) v_12.toNatClampNeg (vp_nar .byte v_17))) := Rr_upd hRr 20 (v_12.toNatClampNeg) (vp_nar .byte v_17) (b_rg _)
  have hEr : mEr [20] _ (va_up (va_up (va_up r 20 (upd (r 20) ((i 22).toNatClampNeg) (vp_nar .byte v_5))) 20 (upd (upd (r 20) ((i 22).toNatClampNeg) (vp_nar .byte v_5)) v_6.toNatClampNeg (vp_nar .byte v_11))) 20 (upd (upd (upd (r 20) ((i 22).toNatClampNeg) (vp_nar .byte v_5)) v_6.toNatClampNeg (vp_nar .byte v_11)) v_12.toNatClampNeg (vp_nar .byte v_17))) := Er_up hEr 20 _ (by decide)
  refine lv_aload_n hx hb dX12_types_22 rfl (lv_at hl 1 rfl) ?_
  refine lv_aload_n hx hb dX12_types_23 rfl (lv_at hl 1 rfl) ?_
  refine va_get (D := D) (ci := 12) (v := .int v_12) (C := RX12) (T := TX12) (N := 91) hx hb hT iX12 hown hK hP 0 rfl rfl 22 (by decide) (hT _ t_201) (fun _ h9 => h9) rfl dX12_types_24 ?_
  refine lv_iconst (v := 1) hx hb dX12_types_27 (by decide) ?_
  refine lv_iadd hx hb dX12_types_28 ?_
  refine lv_topi (fun v_18 ev_18 => ?_)
  have hv_18 : v_18.toInt = v_12.toInt + 1 := by rw [ev_18]; have := b_rg v_12; exact i_add (a := v_12.toInt) (b := 1) rfl rfl (by omega) (by omega)
  refine va_put (D := D) (ci := 12) (v := .int v_18) (ty := .int) (C := RX12) (T := TX12) (N := 91) hx hb hT iX12 tyX12 tyX12_ok nmX12 hown hK hP hD hS 0 rfl rfl 22 (by decide) (hT _ t_201) (fun _ h9 => h9) rfl (by decide +kernel) rfl rfl (Nat.le_of_ble_eq_true rfl) dX12_types_29 (fun H locs hP hD hS => ?_)
  rw [mP22] at hP hD
  have hRi := Ri_upd hRi 22 v_18 ⟨by show (0 : Int) ≤ v_18.toInt; omega, by show v_18.toInt ≤ (220 : Int); omega⟩
  have hEi := Ei_upd hEi 22 v_18 (by decide)
  obtain ⟨x_19, ex_19⟩ : ∃ y : Int32, y = (1 : Int32) + (-1) := ⟨_, rfl⟩
  refine lv_iinc (v := x_19) (lv' := [(2, .int x_19), (0, .ref (a 0)), (1, .int p0)]) hx hb dX12_types_32 hl (k := 0) rfl (by rw [ex_19]; rfl) (by decide) rfl (fun ls hl => ?_)
  obtain rfl : x_19 = 0 := ex_19.trans (by decide)
  refine lv_goto (tgt := 2) hx hb dX12_types_35 (by decide) ?_
  refine lv_iload_n hx hb dX12_types_2 rfl (lv_at hl 0 rfl) ?_
  refine lv_if_lt (tgt := 38) hx hb dX12_types_3 (by decide) (fun c_20 => absurd c_20 (by decide)) (fun c_20 => ?_)
  refine lv_aload_n hx hb dX12_types_6 rfl (lv_at hl 1 rfl) ?_
  refine va_get (D := D) (ci := 12) (v := .ref (a 20)) (C := RX12) (T := TX12) (N := 91) hx hb hT iX12 hown hK hP 0 rfl rfl 21 (by decide) (hT _ t_200) (fun _ h9 => h9) rfl dX12_types_7 ?_
  refine lv_aload_n hx hb dX12_types_10 rfl (lv_at hl 1 rfl) ?_
  refine va_get (D := D) (ci := 12) (v := .int v_18) (C := RX12) (T := TX12) (N := 91) hx hb hT iX12 hown hK hP 0 rfl rfl 22 (by decide) (hT _ t_201) (fun _ h9 => h9) rfl dX12_types_11 ?_
  refine lv_iload_n hx hb dX12_types_14 rfl (lv_at hl 2 rfl) ?_
  refine lv_bipush (v := 8) hx hb dX12_types_15 (by decide) ?_
  refine lv_iload_n hx hb dX12_types_17 rfl (lv_at hl 0 rfl) ?_
  refine lv_imul hx hb dX12_types_18 ?_
  refine lv_topi (fun v_21 ev_21 => ?_)
  obtain rfl : v_21 = 0 := ev_21.trans (by decide)
  refine lv_ishr hx hb dX12_types_19 ?_
  refine lv_topi (fun v_22 ev_22 => ?_)
  obtain ⟨v_23, ev_23⟩ : ∃ y : Int32, v_22.toInt8.toInt32 = y := ⟨_, rfl⟩
  refine lv_i2b (v := v_23) hx hb dX12_types_20 ev_23 ?_
  refine va_bast hx hb hK hP hD hS 20 1 rfl rfl (vp_inI (by omega) (by omega)) dX12_types_21 (fun H locs hP hD hS => ?_)
  rw [mS20] at hP hD
  have hRr : mRr (va_up (va_up (va_up (va_up r 20 (upd (r 20) ((i 22).toNatClampNeg) (vp_nar .byte v_5))) 20 (upd (upd (r 20) ((i 22).toNatClampNeg) (vp_nar .byte v_5)) v_6.toNatClampNeg (vp_nar .byte v_11))) 20 (upd (upd (upd (r 20) ((i 22).toNatClampNeg) (vp_nar .byte v_5)) v_6.toNatClampNeg (vp_nar .byte v_11)) v_12.toNatClampNeg (vp_nar .byte v_17))) 20 (upd (upd (upd (upd (r 20) ((i 22).toNatClampNeg) (vp_nar .byte v_5)) v_6.toNatClampNeg (vp_nar .byte v_11)) v_12.toNatClampNeg (vp_nar .byte v_17)) v_18.toNatClampNeg (vp_nar .byte v_23))) := Rr_upd hRr 20 (v_18.toNatClampNeg) (vp_nar .byte v_23) (b_rg _)
  have hEr : mEr [20] _ (va_up (va_up (va_up (va_up r 20 (upd (r 20) ((i 22).toNatClampNeg) (vp_nar .byte v_5))) 20 (upd (upd (r 20) ((i 22).toNatClampNeg) (vp_nar .byte v_5)) v_6.toNatClampNeg (vp_nar .byte v_11))) 20 (upd (upd (upd (r 20) ((i 22).toNatClampNeg) (vp_nar .byte v_5)) v_6.toNatClampNeg (vp_nar .byte v_11)) v_12.toNatClampNeg (vp_nar .byte v_17))) 20 (upd (upd (upd (upd (r 20) ((i 22).toNatClampNeg) (vp_nar .byte v_5)) v_6.toNatClampNeg (vp_nar .byte v_11)) v_12.toNatClampNeg (vp_nar .byte v_17)) v_18.toNatClampNeg (vp_nar .byte v_23))) := Er_up hEr 20 _ (by decide)
  refine lv_aload_n hx hb dX12_types_22 rfl (lv_at hl 1 rfl) ?_
  refine lv_aload_n hx hb dX12_types_23 rfl (lv_at hl 1 rfl) ?_
  refine va_get (D := D) (ci := 12) (v := .int v_18) (C := RX12) (T := TX12) (N := 91) hx hb hT iX12 hown hK hP 0 rfl rfl 22 (by decide) (hT _ t_201) (fun _ h9 => h9) rfl dX12_types_24 ?_
  refine lv_iconst (v := 1) hx hb dX12_types_27 (by decide) ?_
  refine lv_iadd hx hb dX12_types_28 ?_
  refine lv_topi (fun v_24 ev_24 => ?_)
  have hv_24 : v_24.toInt = v_18.toInt + 1 := by rw [ev_24]; have := b_rg v_18; exact i_add (a := v_18.toInt) (b := 1) rfl rfl (by omega) (by omega)
  refine va_put (D := D) (ci := 12) (v := .int v_24) (ty := .int) (C := RX12) (T := TX12) (N := 91) hx hb hT iX12 tyX12 tyX12_ok nmX12 hown hK hP hD hS 0 rfl rfl 22 (by decide) (hT _ t_201) (fun _ h9 => h9) rfl (by decide +kernel) rfl rfl (Nat.le_of_ble_eq_true rfl) dX12_types_29 (fun H locs hP hD hS => ?_)
  rw [mP22] at hP hD
  have hRi := Ri_upd hRi 22 v_24 ⟨by show (0 : Int) ≤ v_24.toInt; omega, by show v_24.toInt ≤ (220 : Int); omega⟩
  have hEi := Ei_upd hEi 22 v_24 (by decide)
  obtain ⟨x_25, ex_25⟩ : ∃ y : Int32, y = (0 : Int32) + (-1) := ⟨_, rfl⟩
  refine lv_iinc (v := x_25) (lv' := [(2, .int x_25), (0, .ref (a 0)), (1, .int p0)]) hx hb dX12_types_32 hl (k := 0) rfl (by rw [ex_25]; rfl) (by decide) rfl (fun ls hl => ?_)
  obtain rfl : x_25 = (-1) := ex_25.trans (by decide)
  refine lv_goto (tgt := 2) hx hb dX12_types_35 (by decide) ?_
  refine lv_iload_n hx hb dX12_types_2 rfl (lv_at hl 0 rfl) ?_
  refine lv_if_lt (tgt := 38) hx hb dX12_types_3 (by decide) (fun c_26 => ?_) (fun c_26 => absurd (by decide) c_26)
  subst hQ
  exact W.vret hx hb hr (fun t ht hW => ⟨⟨(upd (upd (upd (upd i 22 v_6) 22 v_12) 22 v_18) 22 v_24, va_up (va_up (va_up (va_up r 20 (upd (r 20) ((i 22).toNatClampNeg) (vp_nar .byte v_5))) 20 (upd (upd (r 20) ((i 22).toNatClampNeg) (vp_nar .byte v_5)) v_6.toNatClampNeg (vp_nar .byte v_11))) 20 (upd (upd (upd (r 20) ((i 22).toNatClampNeg) (vp_nar .byte v_5)) v_6.toNatClampNeg (vp_nar .byte v_11)) v_12.toNatClampNeg (vp_nar .byte v_17))) 20 (upd (upd (upd (upd (r 20) ((i 22).toNatClampNeg) (vp_nar .byte v_5)) v_6.toNatClampNeg (vp_nar .byte v_11)) v_12.toNatClampNeg (vp_nar .byte v_17)) v_18.toNatClampNeg (vp_nar .byte v_23))), rfl, ⟨hRi, hRr, hEi, hEr, (by show v_24.toInt = _; omega)⟩, by rw [ht]; exact hP, va_K.moved hW.alike hK, hD⟩, hS.F ht⟩) hS.2.2 dX12_types_38
set_option maxHeartbeats 4000000 in
set_option maxRecDepth 100000 in
theorem c_X12_feed (l : Launch) (D : va_G) (cy : Nat → ClassId) (a : Nat → Nat) (i : Nat → Int32) (r : Nat → Nat → Int32) (rl : Nat → Int64) (p0 p1 p2 p3 p4 : Int32) (sz : Nat) (hRi : mRi i) (hRr : mRr r) : Met l yX12_feed (Cond.code yX12_feed cX12_feed 6 (some .int) :: gT) { frames := 2, cells := 0, slots := 0, locals := 46 } (va_Pc [.ref (a 0), .int p0, .int p1, .int p2, .int p3, .int p4] (rQ D cy (mW cy a i r rl) sz)) (va_Qi (fun (z : Int32) (u : (Nat → Int32) × (Nat → Nat → Int32)) => mRi u.1 ∧ mRr u.2 ∧ mEi [22] i u.1 ∧ mEr [20] r u.2 ∧ True) (fun (u : (Nat → Int32) × (Nat → Nat → Int32)) t => va_P D vwCl (mW cy a u.1 u.2 rl) t.heap ∧ va_K D vwCl (vT cy) t ∧ va_D (va_A (mW cy a i r rl) sz) (mW cy a u.1 u.2 rl)) (va_A (mW cy a i r rl) sz)) 0 0 (va_A (mW cy a i r rl) sz) := by
  refine Met.ofQ (cc := cX12_feed) (maxL := 6) (ret := (some .int)) (by decide) rfl ?_
  intro p e s m args below meth c s₁ B hml hv Q hQ
  obtain ⟨rfl, hsz, hP, hK, hD0⟩ := hv
  have hx := B.exec
  have hb := B.bytes
  have hr := B.returns
  have hlocks := B.notSynchronized
  have hT : ∀ w ∈ gT, w.before _ s = true := fun w h => atoms_spec (ws := (Cond.code yX12_feed cX12_feed 6 (some .int) :: gT)) B.pre w (List.mem_cons_of_mem _ h)
  have hown : s.vm.findClass RX12 = some m.cls := findClass_of_methodNamed B.named
  subst hsz
  have hD := hD0.self (sz := s.heap.size)
  generalize hAe : va_A (mW cy a i r rl) s.heap.size = A at hD hQ
  have hA : ∀ q : Nat, s.heap.size ≤ q → A q := fun q h => by rw [← hAe]; exact Or.inr h
  have hS : va_S A s.heap s.heap [] := va_S.rf
  have hl := lv_entry ([.ref (a 0), .int p0, .int p1, .int p2, .int p3, .int p4]) (n := 6) (Nat.le_of_ble_eq_true rfl)
  rw [lg_entry_eq]
  generalize (lg_sl ([.ref (a 0), .int p0, .int p1, .int p2, .int p3, .int p4]) ++ List.replicate (6 - (lg_sl ([.ref (a 0), .int p0, .int p1, .int p2, .int p3, .int p4])).length) Slot.unset).toArray = ls at hl ⊢
  have hl : lv_has ls 6 [(0, .ref (a 0)), (1, .int p0), (2, .int p1), (3, .int p2), (4, .int p3), (5, .int p4)] := hl
  have hEi : mEi [22] i i := Ei_rf
  have hEr : mEr [20] r r := Er_rf
  refine lv_aload_n hx hb dX12_feed_0 rfl (lv_at hl 0 rfl) ?_
  refine va_get (D := D) (ci := 12) (v := .int (i 22)) (C := RX12) (T := TX12) (N := 91) hx hb hT iX12 hown hK hP 0 rfl rfl 22 (by decide) (hT _ t_201) (fun _ h9 => h9) rfl dX12_feed_1 ?_
  have hg_1 : 0 ≤ (i 22).toInt ∧ (i 22).toInt ≤ 220 := hRi 22
  refine lv_bipush (v := 20) hx hb dX12_feed_4 (by decide) ?_
  refine lv_iadd hx hb dX12_feed_6 ?_
  refine lv_topi (fun v_2 ev_2 => ?_)
  have hv_2 : v_2.toInt = (i 22).toInt + 20 := by rw [ev_2]; have := b_rg (i 22); exact i_add (a := (i 22).toInt) (b := 20) rfl rfl (by omega) (by omega)
  refine lv_sipush (v := 220) hx hb dX12_feed_7 (by decide) ?_
  refine lv_icmp_le (tgt := 15) hx hb dX12_feed_10 (by decide) (fun c_3 => ?_) (fun c_3 => ?_)
  · have c_3 : v_2.toInt ≤ 220 := b_le c_3
    refine lv_aload_n hx hb dX12_feed_15 rfl (lv_at hl 0 rfl) ?_
    refine lv_iload_n hx hb dX12_feed_16 rfl (lv_at hl 1 rfl) ?_
    have hF_4 := rF hD hS hA
    refine va_callv (va_runV (As := [.int p0]) (rest := []) ⟨hx, hb, hml, hown, hT⟩ (c_X12_types l D cy a i r rl p0 _ hRi hRr (by omega)) (cwV 1 hT (gV t_202 t_203 t_204 t_205 t_6) rfl rfl rfl (by decide +kernel) ⟨Nat.le_of_ble_eq_true rfl, Nat.le_of_ble_eq_true rfl⟩) (rQ_v hP hK hD (va_recv hK hP (ci := 12) (q0 := 0) rfl rfl)) rfl rfl hl.1 rfl (lv_room (Nat.le_of_ble_eq_true rfl)) dX12_feed_17 ⟨Nat.le_of_ble_eq_true rfl, Nat.le_of_ble_eq_true rfl⟩) hS (fun q _ h => hF_4 q h) hF_4 (fun u_6 t H1 locs ht hvm hr_5 hB hz1 hk1 hS => ?_)
    obtain ⟨i6, r6⟩ := u_6
    obtain ⟨hP, hK1, hD1⟩ := hB
    rw [ht] at hP
    have hD := hD1.weaken (fun k q _ h => hF_4 q.1 h)
    have hP : va_P D vwCl (mW cy a i6 r6 rl) H1 := hP
    have hD : va_D A (mW cy a i6 r6 rl) := hD
    obtain ⟨hRi, hRr, hE1, hE2, hr_5⟩ := hr_5
    have hRi : mRi i6 := hRi
    have hRr : mRr r6 := hRr
    have hEi : mEi [22] _ i6 := Ei_tr hEi hE1 (by decide)
    have hEr : mEr [20] _ r6 := Er_tr hEr hE2 (by decide)
    have hr_5 : (i6 22).toInt = (i 22).toInt + 4 := hr_5
    refine lv_aload_n hx hb dX12_feed_20 rfl (lv_at hl 0 rfl) ?_
    refine lv_iload_n hx hb dX12_feed_21 rfl (lv_at hl 2 rfl) ?_
    have hF_7 := rF hD hS hA
    refine va_callv (va_runV (As := [.int p1]) (rest := []) ⟨hx, hb, hml, hown, hT⟩ (c_X12_types l D cy a i6 r6 rl p1 _ hRi hRr (by omega)) (cwV 1 hT (gV t_202 t_203 t_204 t_205 t_6) rfl rfl rfl (by decide +kernel) ⟨Nat.le_of_ble_eq_true rfl, Nat.le_of_ble_eq_true rfl⟩) (rQ_v hP hK hD (va_recv hK hP (ci := 12) (q0 := 0) rfl rfl)) rfl rfl hl.1 rfl (lv_room (Nat.le_of_ble_eq_true rfl)) dX12_feed_22 ⟨Nat.le_of_ble_eq_true rfl, Nat.le_of_ble_eq_true rfl⟩) hS (fun q _ h => hF_7 q h) hF_7 (fun u_9 t H1 locs ht hvm hr_8 hB hz1 hk1 hS => ?_)
    obtain ⟨i9, r9⟩ := u_9
    obtain ⟨hP, hK1, hD1⟩ := hB
    rw [ht] at hP
    have hD := hD1.weaken (fun k q _ h => hF_7 q.1 h)
    have hP : va_P D vwCl (mW cy a i9 r9 rl) H1 := hP
    have hD : va_D A (mW cy a i9 r9 rl) := hD
    obtain ⟨hRi, hRr, hE1, hE2, hr_8⟩ := hr_8
    have hRi : mRi i9 := hRi
    have hRr : mRr r9 := hRr
    have hEi : mEi [22] _ i9 := Ei_tr hEi hE1 (by decide)
    have hEr : mEr [20] _ r9 := Er_tr hEr hE2 (by decide)
    have hr_8 : (i9 22).toInt = (i6 22).toInt + 4 := hr_8
    refine lv_aload_n hx hb dX12_feed_25 rfl (lv_at hl 0 rfl) ?_
    refine lv_iload_n hx hb dX12_feed_26 rfl (lv_at hl 3 rfl) ?_
    have hF_10 := rF hD hS hA
    refine va_callv (va_runV (As := [.int p2]) (rest := []) ⟨hx, hb, hml, hown, hT⟩ (c_X12_types l D cy a i9 r9 rl p2 _ hRi hRr (by omega)) (cwV 1 hT (gV t_202 t_203 t_204 t_205 t_6) rfl rfl rfl (by decide +kernel) ⟨Nat.le_of_ble_eq_true rfl, Nat.le_of_ble_eq_true rfl⟩) (rQ_v hP hK hD (va_recv hK hP (ci := 12) (q0 := 0) rfl rfl)) rfl rfl hl.1 rfl (lv_room (Nat.le_of_ble_eq_true rfl)) dX12_feed_27 ⟨Nat.le_of_ble_eq_true rfl, Nat.le_of_ble_eq_true rfl⟩) hS (fun q _ h => hF_10 q h) hF_10 (fun u_12 t H1 locs ht hvm hr_11 hB hz1 hk1 hS => ?_)
    obtain ⟨i12, r12⟩ := u_12
    obtain ⟨hP, hK1, hD1⟩ := hB
    rw [ht] at hP
    have hD := hD1.weaken (fun k q _ h => hF_10 q.1 h)
    have hP : va_P D vwCl (mW cy a i12 r12 rl) H1 := hP
    have hD : va_D A (mW cy a i12 r12 rl) := hD
    obtain ⟨hRi, hRr, hE1, hE2, hr_11⟩ := hr_11
    have hRi : mRi i12 := hRi
    have hRr : mRr r12 := hRr
    have hEi : mEi [22] _ i12 := Ei_tr hEi hE1 (by decide)
    have hEr : mEr [20] _ r12 := Er_tr hEr hE2 (by decide)
    have hr_11 : (i12 22).toInt = (i9 22).toInt + 4 := hr_11
    refine lv_aload_n hx hb dX12_feed_30 rfl (lv_at hl 0 rfl) ?_
    refine lv_iload hx hb dX12_feed_31 (lv_at hl 4 rfl) ?_
    have hF_13 := rF hD hS hA
    refine va_callv (va_runV (As := [.int p3]) (rest := []) ⟨hx, hb, hml, hown, hT⟩ (c_X12_types l D cy a i12 r12 rl p3 _ hRi hRr (by omega)) (cwV 1 hT (gV t_202 t_203 t_204 t_205 t_6) rfl rfl rfl (by decide +kernel) ⟨Nat.le_of_ble_eq_true rfl, Nat.le_of_ble_eq_true rfl⟩) (rQ_v hP hK hD (va_recv hK hP (ci := 12) (q0 := 0) rfl rfl)) rfl rfl hl.1 rfl (lv_room (Nat.le_of_ble_eq_true rfl)) dX12_feed_33 ⟨Nat.le_of_ble_eq_true rfl, Nat.le_of_ble_eq_true rfl⟩) hS (fun q _ h => hF_13 q h) hF_13 (fun u_15 t H1 locs ht hvm hr_14 hB hz1 hk1 hS => ?_)
    obtain ⟨i15, r15⟩ := u_15
    obtain ⟨hP, hK1, hD1⟩ := hB
    rw [ht] at hP
    have hD := hD1.weaken (fun k q _ h => hF_13 q.1 h)
    have hP : va_P D vwCl (mW cy a i15 r15 rl) H1 := hP
    have hD : va_D A (mW cy a i15 r15 rl) := hD
    obtain ⟨hRi, hRr, hE1, hE2, hr_14⟩ := hr_14
    have hRi : mRi i15 := hRi
    have hRr : mRr r15 := hRr
    have hEi : mEi [22] _ i15 := Ei_tr hEi hE1 (by decide)
    have hEr : mEr [20] _ r15 := Er_tr hEr hE2 (by decide)
    have hr_14 : (i15 22).toInt = (i12 22).toInt + 4 := hr_14
    refine lv_aload_n hx hb dX12_feed_36 rfl (lv_at hl 0 rfl) ?_
    refine lv_iload hx hb dX12_feed_37 (lv_at hl 5 rfl) ?_
    have hF_16 := rF hD hS hA
    refine va_callv (va_runV (As := [.int p4]) (rest := []) ⟨hx, hb, hml, hown, hT⟩ (c_X12_types l D cy a i15 r15 rl p4 _ hRi hRr (by omega)) (cwV 1 hT (gV t_202 t_203 t_204 t_205 t_6) rfl rfl rfl (by decide +kernel) ⟨Nat.le_of_ble_eq_true rfl, Nat.le_of_ble_eq_true rfl⟩) (rQ_v hP hK hD (va_recv hK hP (ci := 12) (q0 := 0) rfl rfl)) rfl rfl hl.1 rfl (lv_room (Nat.le_of_ble_eq_true rfl)) dX12_feed_39 ⟨Nat.le_of_ble_eq_true rfl, Nat.le_of_ble_eq_true rfl⟩) hS (fun q _ h => hF_16 q h) hF_16 (fun u_18 t H1 locs ht hvm hr_17 hB hz1 hk1 hS => ?_)
    obtain ⟨i18, r18⟩ := u_18
    obtain ⟨hP, hK1, hD1⟩ := hB
    rw [ht] at hP
    have hD := hD1.weaken (fun k q _ h => hF_16 q.1 h)
    have hP : va_P D vwCl (mW cy a i18 r18 rl) H1 := hP
    have hD : va_D A (mW cy a i18 r18 rl) := hD
    obtain ⟨hRi, hRr, hE1, hE2, hr_17⟩ := hr_17
    have hRi : mRi i18 := hRi
    have hRr : mRr r18 := hRr
    have hEi : mEi [22] _ i18 := Ei_tr hEi hE1 (by decide)
    have hEr : mEr [20] _ r18 := Er_tr hEr hE2 (by decide)
    have hr_17 : (i18 22).toInt = (i15 22).toInt + 4 := hr_17
    refine lv_aload_n hx hb dX12_feed_42 rfl (lv_at hl 0 rfl) ?_
    refine va_get (D := D) (ci := 12) (v := .int (i18 22)) (C := RX12) (T := TX12) (N := 91) hx hb hT iX12 hown hK hP 0 rfl rfl 22 (by decide) (hT _ t_201) (fun _ h9 => h9) rfl dX12_feed_43 ?_
    have hg_19 : 0 ≤ (i18 22).toInt ∧ (i18 22).toInt ≤ 220 := hRi 22
    subst hQ
    exact W.iret (v := i18 22) hx hb hr (fun t ht hW => ⟨⟨_, (i18, r18), rfl, ⟨hRi, hRr, hEi, hEr, trivial⟩, by rw [ht]; exact hP, va_K.moved hW.alike hK, hD⟩, hS.F ht⟩) hS.2.2 dX12_feed_46
  · have c_3 : 220 < v_2.toInt := b_nle c_3
    refine lv_iconst (v := (-1)) hx hb dX12_feed_13 (by decide) ?_
    subst hQ
    exact W.iret (v := (-1)) hx hb hr (fun t ht hW => ⟨⟨_, (i, r), rfl, ⟨hRi, hRr, hEi, hEr, trivial⟩, by rw [ht]; exact hP, va_K.moved hW.alike hK, hD⟩, hS.F ht⟩) hS.2.2 dX12_feed_14
set_option maxHeartbeats 4000000 in
set_option maxRecDepth 100000 in
theorem c_X12_tellsFact (l : Launch) (D : va_G) (cy : Nat → ClassId) (a : Nat → Nat) (i : Nat → Int32) (r : Nat → Nat → Int32) (rl : Nat → Int64) (p0 : Int32) (sz : Nat) (hRi : mRi i) (hRr : mRr r) (q0 : 0 ≤ p0.toInt ∧ p0.toInt ≤ 29) : Met l yX12_tellsFact (Cond.code yX12_tellsFact cX12_tellsFact 8 none :: gT) { frames := 2, cells := 0, slots := 0, locals := 45 } (va_Pc [.ref (a 0), .int p0] (rQ D cy (mW cy a i r rl) sz)) (va_Qv (fun u : Nat → Nat → Int32 => mRr u ∧ mEr [61, 62] r u ∧ True) (fun (u : Nat → Nat → Int32) t => va_P D vwCl (mW cy a i u rl) t.heap ∧ va_K D vwCl (vT cy) t ∧ va_D (va_A (mW cy a i r rl) sz) (mW cy a i u rl)) (va_A (mW cy a i r rl) sz)) 0 0 (va_A (mW cy a i r rl) sz) := by
  refine Met.ofQ (cc := cX12_tellsFact) (maxL := 8) (ret := none) (by decide) rfl ?_
  intro p e s m args below meth c s₁ B hml hv Q hQ
  obtain ⟨rfl, hsz, hP, hK, hD0⟩ := hv
  have hx := B.exec
  have hb := B.bytes
  have hr := B.returns
  have hlocks := B.notSynchronized
  have hT : ∀ w ∈ gT, w.before _ s = true := fun w h => atoms_spec (ws := (Cond.code yX12_tellsFact cX12_tellsFact 8 none :: gT)) B.pre w (List.mem_cons_of_mem _ h)
  have hown : s.vm.findClass RX12 = some m.cls := findClass_of_methodNamed B.named
  subst hsz
  have hD := hD0.self (sz := s.heap.size)
  generalize hAe : va_A (mW cy a i r rl) s.heap.size = A at hD hQ
  have hA : ∀ q : Nat, s.heap.size ≤ q → A q := fun q h => by rw [← hAe]; exact Or.inr h
  have hS : va_S A s.heap s.heap [] := va_S.rf
  have hl := lv_entry ([.ref (a 0), .int p0]) (n := 8) (Nat.le_of_ble_eq_true rfl)
  rw [lg_entry_eq]
  generalize (lg_sl ([.ref (a 0), .int p0]) ++ List.replicate (8 - (lg_sl ([.ref (a 0), .int p0])).length) Slot.unset).toArray = ls at hl ⊢
  have hl : lv_has ls 8 [(0, .ref (a 0)), (1, .int p0)] := hl
  have hEi : mEi [23, 24, 25, 26, 27, 28, 29, 30, 60] i i := Ei_rf
  have hEr : mEr [61, 62] r r := Er_rf
  refine lv_aload_n hx hb dX12_tellsFact_0 rfl (lv_at hl 0 rfl) ?_
  refine va_get (D := D) (ci := 12) (v := .ref (a 58)) (C := RX12) (T := TX12) (N := 91) hx hb hT iX12 hown hK hP 0 rfl rfl 73 (by decide) (hT _ t_197) (fun _ h9 => h9) rfl dX12_tellsFact_1 ?_
  refine lv_iload_n hx hb dX12_tellsFact_4 rfl (lv_at hl 1 rfl) ?_
  refine va_iald hx hb hK hP 58 0 rfl rfl (vp_inI (by omega) (by omega)) dX12_tellsFact_5 ?_
  refine lv_topi (fun v_1 ev_1 => ?_)
  have hgv_1 : 0 ≤ v_1.toInt ∧ v_1.toInt ≤ 10 := by rw [ev_1]; exact hRr 58 _
  refine lv_istore_n (lv' := [(2, .int v_1), (0, .ref (a 0)), (1, .int p0)]) hx hb dX12_tellsFact_6 rfl hl (by decide) rfl (fun ls hl => ?_)
  refine lv_aload_n hx hb dX12_tellsFact_7 rfl (lv_at hl 1 rfl) ?_
  refine va_get (D := D) (ci := 12) (v := .ref (a 59)) (C := RX12) (T := TX12) (N := 91) hx hb hT iX12 hown hK hP 0 rfl rfl 74 (by decide) (hT _ t_198) (fun _ h9 => h9) rfl dX12_tellsFact_8 ?_
  refine lv_iload_n hx hb dX12_tellsFact_11 rfl (lv_at hl 2 rfl) ?_
  refine va_iald hx hb hK hP 59 0 rfl rfl (vp_inI (by omega) (by omega)) dX12_tellsFact_12 ?_
  refine lv_topi (fun v_2 ev_2 => ?_)
  have hgv_2 : 0 ≤ v_2.toInt ∧ v_2.toInt ≤ 10 := by rw [ev_2]; exact hRr 59 _
  refine lv_istore_n (lv' := [(3, .int v_2), (2, .int v_1), (0, .ref (a 0)), (1, .int p0)]) hx hb dX12_tellsFact_13 rfl hl (by decide) rfl (fun ls hl => ?_)
  refine lv_aload_n hx hb dX12_tellsFact_14 rfl (lv_at hl 2 rfl) ?_
  refine va_get (D := D) (ci := 12) (v := .ref (a 61)) (C := RX12) (T := TX12) (N := 91) hx hb hT iX12 hown hK hP 0 rfl rfl 76 (by decide) (hT _ t_206) (fun _ h9 => h9) rfl dX12_tellsFact_15 ?_
  refine lv_bipush (v := 11) hx hb dX12_tellsFact_18 (by decide) ?_
  refine lv_iload_n hx hb dX12_tellsFact_20 rfl (lv_at hl 0 rfl) ?_
  refine lv_imul hx hb dX12_tellsFact_21 ?_
  refine lv_topi (fun v_3 ev_3 => ?_)
  have hv_3 : v_3.toInt = 11 * v_2.toInt := by rw [ev_3]; have := b_rg v_2; exact i_mul (a := 11) (b := v_2.toInt) rfl rfl (by omega) (by omega)
  refine lv_iload_n hx hb dX12_tellsFact_22 rfl (lv_at hl 1 rfl) ?_
  refine lv_iadd hx hb dX12_tellsFact_23 ?_
  refine lv_topi (fun v_4 ev_4 => ?_)
  have hv_4 : v_4.toInt = v_3.toInt + v_1.toInt := by rw [ev_4]; have := b_rg v_3; have := b_rg v_1; exact i_add (a := v_3.toInt) (b := v_1.toInt) rfl rfl (by omega) (by omega)
  refine va_iald hx hb hK hP 61 0 rfl rfl (vp_inI (by omega) (by omega)) dX12_tellsFact_24 ?_
  refine lv_topi (fun v_5 ev_5 => ?_)
  refine lv_aload_n hx hb dX12_tellsFact_25 rfl (lv_at hl 2 rfl) ?_
  refine va_get (D := D) (ci := 12) (v := .ref (a 60)) (C := RX12) (T := TX12) (N := 91) hx hb hT iX12 hown hK hP 0 rfl rfl 75 (by decide) (hT _ t_199) (fun _ h9 => h9) rfl dX12_tellsFact_26 ?_
  refine lv_iload_n hx hb dX12_tellsFact_29 rfl (lv_at hl 3 rfl) ?_
  refine va_iald hx hb hK hP 60 0 rfl rfl (vp_inI (by omega) (by omega)) dX12_tellsFact_30 ?_
  refine lv_topi (fun v_6 ev_6 => ?_)
  have hgv_6 : -999 ≤ v_6.toInt ∧ v_6.toInt ≤ 999 := by rw [ev_6]; exact hRr 60 _
  refine vp_callSi (W.runS (As := [.int v_5, .int v_6]) (rest := []) ⟨hx, hb, hml, hown, hT⟩ (c_X12_sum l v_5 v_6) (va_cwS 2 hT (gS t_207 t_208 t_209 t_6) rfl rfl rfl (by decide +kernel) ⟨Nat.le_of_ble_eq_true rfl, Nat.le_of_ble_eq_true rfl⟩) preT rfl rfl hl.1 rfl (lv_room (Nat.le_of_ble_eq_true rfl)) dX12_tellsFact_31 ⟨Nat.le_of_ble_eq_true rfl, Nat.le_of_ble_eq_true rfl⟩) (fun r_7 hr_7 => ?_)
  refine lv_istore (lv' := [(4, .int r_7), (3, .int v_2), (2, .int v_1), (0, .ref (a 0)), (1, .int p0)]) hx hb dX12_tellsFact_34 hl (by decide) rfl (fun ls hl => ?_)
  refine lv_aload_n hx hb dX12_tellsFact_36 rfl (lv_at hl 3 rfl) ?_
  refine va_get (D := D) (ci := 12) (v := .ref (a 62)) (C := RX12) (T := TX12) (N := 91) hx hb hT iX12 hown hK hP 0 rfl rfl 77 (by decide) (hT _ t_210) (fun _ h9 => h9) rfl dX12_tellsFact_37 ?_
  refine lv_iload_n hx hb dX12_tellsFact_40 rfl (lv_at hl 4 rfl) ?_
  refine lv_iload hx hb dX12_tellsFact_41 (lv_at hl 0 rfl) ?_
  refine lv_if_le (tgt := 50) hx hb dX12_tellsFact_43 (by decide) (fun c_8 => ?_) (fun c_8 => ?_)
  · have c_8 : r_7.toInt ≤ 0 := b_le c_8
    refine lv_iconst (v := 0) hx hb dX12_tellsFact_50 (by decide) ?_
    refine va_zast hx hb hK hP hD hS 62 2 rfl rfl (vp_inI (by omega) (by omega)) dX12_tellsFact_51 (fun H locs hP hD hS => ?_)
    rw [mS62] at hP hD
    have hRr : mRr (va_up r 62 (upd (r 62) p0.toNatClampNeg (vp_nar .boolean 0))) := Rr_upd hRr 62 (p0.toNatClampNeg) (vp_nar .boolean 0) (b_rg _)
    have hEr : mEr [61, 62] _ (va_up r 62 (upd (r 62) p0.toNatClampNeg (vp_nar .boolean 0))) := Er_up hEr 62 _ (by decide)
    refine lv_aload_n hx hb dX12_tellsFact_52 rfl (lv_at hl 3 rfl) ?_
    refine va_get (D := D) (ci := 12) (v := .ref (a 62)) (C := RX12) (T := TX12) (N := 91) hx hb hT iX12 hown hK hP 0 rfl rfl 77 (by decide) (hT _ t_210) (fun _ h9 => h9) rfl dX12_tellsFact_53 ?_
    refine lv_iload_n hx hb dX12_tellsFact_56 rfl (lv_at hl 4 rfl) ?_
    refine va_zald hx hb hK hP 62 2 rfl rfl (vp_inI (by omega) (by omega)) dX12_tellsFact_57 ?_
    refine lv_topi (fun v_9 ev_9 => ?_)
    refine lv_if_eq (tgt := 62) hx hb dX12_tellsFact_58 (by decide) (fun c_10 => ?_) (fun c_10 => ?_)
    · have c_10 : v_9.toInt = 0 := b_eq c_10
      refine lv_iconst (v := 0) hx hb dX12_tellsFact_62 (by decide) ?_
      refine lv_istore (lv' := [(5, .int 0), (4, .int r_7), (3, .int v_2), (2, .int v_1), (0, .ref (a 0)), (1, .int p0)]) hx hb dX12_tellsFact_63 hl (by decide) rfl (fun ls hl => ?_)
      have loop_11 : ∀ (n : Nat) (x11_5 : Int32) (r11 : Nat → Nat → Int32) (H : Heap) (locs : List Loc) (ls : Array Slot), (11 - x11_5.toInt).toNat < n → (0 ≤ x11_5.toInt ∧ x11_5.toInt ≤ 11) → mRr r11 → mEr [61, 62] r r11 → va_P D vwCl (mW cy a i r11 rl) H → va_D A (mW cy a i r11 rl) → va_S A s.heap H locs → lv_has ls 8 [(5, .int x11_5), (4, .int r_7), (3, .int v_2), (2, .int v_1), (0, .ref (a 0)), (1, .int p0)] → W p l e ({ frames := 2, cells := 0, slots := 0, locals := 45 } : Room) s m ([.ref (a 0), .int p0] : List Value).toArray below meth c H locs 0 0 Q (F0 m 65 ls []) := by
        intro n
        induction n with
        | zero =>
          intro x11_5 r11 H locs ls hm11 hf11_0 hRr hEr hP hD hS hl
          exact absurd hm11 (by omega)
        | succ n ih11 =>
          intro x11_5 r11 H locs ls hm11 hf11_0 hRr hEr hP hD hS hl
          refine lv_iload hx hb dX12_tellsFact_65 (lv_at hl 0 rfl) ?_
          refine lv_bipush (v := 11) hx hb dX12_tellsFact_67 (by decide) ?_
          refine lv_icmp_ge (tgt := 165) hx hb dX12_tellsFact_69 (by decide) (fun c_12 => ?_) (fun c_12 => ?_)
          · have c_12 : 11 ≤ x11_5.toInt := b_le c_12
            subst hQ
            exact W.vret hx hb hr (fun t ht hW => ⟨⟨r11, rfl, ⟨hRr, hEr, trivial⟩, by rw [ht]; exact hP, va_K.moved hW.alike hK, hD⟩, hS.F ht⟩) hS.2.2 dX12_tellsFact_165
          · have c_12 : x11_5.toInt < 11 := b_nle c_12
            refine lv_iconst (v := 0) hx hb dX12_tellsFact_72 (by decide) ?_
            refine lv_istore (lv' := [(6, .int 0), (5, .int x11_5), (4, .int r_7), (3, .int v_2), (2, .int v_1), (0, .ref (a 0)), (1, .int p0)]) hx hb dX12_tellsFact_73 hl (by decide) rfl (fun ls hl => ?_)
            have loop_13 : ∀ (n : Nat) (x13_6 : Int32) (r13 : Nat → Nat → Int32) (H : Heap) (locs : List Loc) (ls : Array Slot), (11 - x13_6.toInt).toNat < n → (0 ≤ x13_6.toInt ∧ x13_6.toInt ≤ 11) → mRr r13 → mEr [61, 62] r r13 → va_P D vwCl (mW cy a i r13 rl) H → va_D A (mW cy a i r13 rl) → va_S A s.heap H locs → lv_has ls 8 [(6, .int x13_6), (5, .int x11_5), (4, .int r_7), (3, .int v_2), (2, .int v_1), (0, .ref (a 0)), (1, .int p0)] → W p l e ({ frames := 2, cells := 0, slots := 0, locals := 45 } : Room) s m ([.ref (a 0), .int p0] : List Value).toArray below meth c H locs 0 0 Q (F0 m 75 ls []) := by
              intro n
              induction n with
              | zero =>
                intro x13_6 r13 H locs ls hm13 hf13_0 hRr hEr hP hD hS hl
                exact absurd hm13 (by omega)
              | succ n ih13 =>
                intro x13_6 r13 H locs ls hm13 hf13_0 hRr hEr hP hD hS hl
                refine lv_iload hx hb dX12_tellsFact_75 (lv_at hl 0 rfl) ?_
                refine lv_bipush (v := 11) hx hb dX12_tellsFact_77 (by decide) ?_
                refine lv_icmp_ge (tgt := 159) hx hb dX12_tellsFact_79 (by decide) (fun c_14 => ?_) (fun c_14 => ?_)
                · have c_14 : 11 ≤ x13_6.toInt := b_le c_14
                  obtain ⟨x_15, ex_15⟩ : ∃ y : Int32, y = x11_5 + 1 := ⟨_, rfl⟩
                  refine lv_iinc (v := x_15) (lv' := [(5, .int x_15), (6, .int x13_6), (4, .int r_7), (3, .int v_2), (2, .int v_1), (0, .ref (a 0)), (1, .int p0)]) hx hb dX12_tellsFact_159 hl (k := 1) rfl (by rw [ex_15]; rfl) (by decide) rfl (fun ls hl => ?_)
                  have hx_15 : x_15.toInt = x11_5.toInt + 1 := by rw [ex_15]; have := b_rg x11_5; exact i_add (a := x11_5.toInt) (b := 1) rfl rfl (by omega) (by omega)
                  refine lv_goto (tgt := 65) hx hb dX12_tellsFact_162 (by decide) ?_
                  exact ih11 x_15 r13 _ _ _ (by first | omega | (simp only [Int.toNat]; omega)) (by first | omega | decide) hRr hEr  hP hD hS (lv_sub hl [0, 2, 3, 4, 5, 6] rfl)
                · have c_14 : x13_6.toInt < 11 := b_nle c_14
                  refine lv_aload_n hx hb dX12_tellsFact_82 rfl (lv_at hl 5 rfl) ?_
                  refine va_get (D := D) (ci := 12) (v := .ref (a 61)) (C := RX12) (T := TX12) (N := 91) hx hb hT iX12 hown hK hP 0 rfl rfl 76 (by decide) (hT _ t_206) (fun _ h9 => h9) rfl dX12_tellsFact_83 ?_
                  refine lv_bipush (v := 11) hx hb dX12_tellsFact_86 (by decide) ?_
                  refine lv_iload hx hb dX12_tellsFact_88 (lv_at hl 1 rfl) ?_
                  refine lv_imul hx hb dX12_tellsFact_90 ?_
                  refine lv_topi (fun v_16 ev_16 => ?_)
                  have hv_16 : v_16.toInt = 11 * x11_5.toInt := by rw [ev_16]; have := b_rg x11_5; exact i_mul (a := 11) (b := x11_5.toInt) rfl rfl (by omega) (by omega)
                  refine lv_iload_n hx hb dX12_tellsFact_91 rfl (lv_at hl 4 rfl) ?_
                  refine lv_iadd hx hb dX12_tellsFact_92 ?_
                  refine lv_topi (fun v_17 ev_17 => ?_)
                  have hv_17 : v_17.toInt = v_16.toInt + v_1.toInt := by rw [ev_17]; have := b_rg v_16; have := b_rg v_1; exact i_add (a := v_16.toInt) (b := v_1.toInt) rfl rfl (by omega) (by omega)
                  refine va_iald hx hb hK hP 61 0 rfl rfl (vp_inI (by omega) (by omega)) dX12_tellsFact_93 ?_
                  refine lv_topi (fun v_18 ev_18 => ?_)
                  refine lv_aload_n hx hb dX12_tellsFact_94 rfl (lv_at hl 5 rfl) ?_
                  refine va_get (D := D) (ci := 12) (v := .ref (a 60)) (C := RX12) (T := TX12) (N := 91) hx hb hT iX12 hown hK hP 0 rfl rfl 75 (by decide) (hT _ t_199) (fun _ h9 => h9) rfl dX12_tellsFact_95 ?_
                  refine lv_iload_n hx hb dX12_tellsFact_98 rfl (lv_at hl 6 rfl) ?_
                  refine va_iald hx hb hK hP 60 0 rfl rfl (vp_inI (by omega) (by omega)) dX12_tellsFact_99 ?_
                  refine lv_topi (fun v_19 ev_19 => ?_)
                  have hgv_19 : -999 ≤ v_19.toInt ∧ v_19.toInt ≤ 999 := by rw [ev_19]; exact hRr 60 _
                  refine vp_callSi (W.runS (As := [.int v_18, .int v_19]) (rest := []) ⟨hx, hb, hml, hown, hT⟩ (c_X12_sum l v_18 v_19) (va_cwS 2 hT (gS t_207 t_208 t_209 t_6) rfl rfl rfl (by decide +kernel) ⟨Nat.le_of_ble_eq_true rfl, Nat.le_of_ble_eq_true rfl⟩) preT rfl rfl hl.1 rfl (lv_room (Nat.le_of_ble_eq_true rfl)) dX12_tellsFact_100 ⟨Nat.le_of_ble_eq_true rfl, Nat.le_of_ble_eq_true rfl⟩) (fun r_20 hr_20 => ?_)
                  refine lv_aload_n hx hb dX12_tellsFact_103 rfl (lv_at hl 5 rfl) ?_
                  refine va_get (D := D) (ci := 12) (v := .ref (a 61)) (C := RX12) (T := TX12) (N := 91) hx hb hT iX12 hown hK hP 0 rfl rfl 76 (by decide) (hT _ t_206) (fun _ h9 => h9) rfl dX12_tellsFact_104 ?_
                  refine lv_bipush (v := 11) hx hb dX12_tellsFact_107 (by decide) ?_
                  refine lv_iload_n hx hb dX12_tellsFact_109 rfl (lv_at hl 3 rfl) ?_
                  refine lv_imul hx hb dX12_tellsFact_110 ?_
                  refine lv_topi (fun v_21 ev_21 => ?_)
                  have hv_21 : v_21.toInt = 11 * v_2.toInt := by rw [ev_21]; have := b_rg v_2; exact i_mul (a := 11) (b := v_2.toInt) rfl rfl (by omega) (by omega)
                  refine lv_iload hx hb dX12_tellsFact_111 (lv_at hl 0 rfl) ?_
                  refine lv_iadd hx hb dX12_tellsFact_113 ?_
                  refine lv_topi (fun v_22 ev_22 => ?_)
                  have hv_22 : v_22.toInt = v_21.toInt + x13_6.toInt := by rw [ev_22]; have := b_rg v_21; have := b_rg x13_6; exact i_add (a := v_21.toInt) (b := x13_6.toInt) rfl rfl (by omega) (by omega)
                  refine va_iald hx hb hK hP 61 0 rfl rfl (vp_inI (by omega) (by omega)) dX12_tellsFact_114 ?_
                  refine lv_topi (fun v_23 ev_23 => ?_)
                  refine vp_callSi (W.runS (As := [.int r_20, .int v_23]) (rest := []) ⟨hx, hb, hml, hown, hT⟩ (c_X12_sum l r_20 v_23) (va_cwS 2 hT (gS t_207 t_208 t_209 t_6) rfl rfl rfl (by decide +kernel) ⟨Nat.le_of_ble_eq_true rfl, Nat.le_of_ble_eq_true rfl⟩) preT rfl rfl hl.1 rfl (lv_room (Nat.le_of_ble_eq_true rfl)) dX12_tellsFact_115 ⟨Nat.le_of_ble_eq_true rfl, Nat.le_of_ble_eq_true rfl⟩) (fun r_24 hr_24 => ?_)
                  refine lv_istore (lv' := [(7, .int r_24), (6, .int x13_6), (5, .int x11_5), (4, .int r_7), (3, .int v_2), (2, .int v_1), (0, .ref (a 0)), (1, .int p0)]) hx hb dX12_tellsFact_118 hl (by decide) rfl (fun ls hl => ?_)
                  refine lv_iload hx hb dX12_tellsFact_120 (lv_at hl 0 rfl) ?_
                  refine lv_aload_n hx hb dX12_tellsFact_122 rfl (lv_at hl 6 rfl) ?_
                  refine va_get (D := D) (ci := 12) (v := .ref (a 61)) (C := RX12) (T := TX12) (N := 91) hx hb hT iX12 hown hK hP 0 rfl rfl 76 (by decide) (hT _ t_206) (fun _ h9 => h9) rfl dX12_tellsFact_123 ?_
                  refine lv_bipush (v := 11) hx hb dX12_tellsFact_126 (by decide) ?_
                  refine lv_iload hx hb dX12_tellsFact_128 (lv_at hl 2 rfl) ?_
                  refine lv_imul hx hb dX12_tellsFact_130 ?_
                  refine lv_topi (fun v_25 ev_25 => ?_)
                  have hv_25 : v_25.toInt = 11 * x11_5.toInt := by rw [ev_25]; have := b_rg x11_5; exact i_mul (a := 11) (b := x11_5.toInt) rfl rfl (by omega) (by omega)
                  refine lv_iload hx hb dX12_tellsFact_131 (lv_at hl 1 rfl) ?_
                  refine lv_iadd hx hb dX12_tellsFact_133 ?_
                  refine lv_topi (fun v_26 ev_26 => ?_)
                  have hv_26 : v_26.toInt = v_25.toInt + x13_6.toInt := by rw [ev_26]; have := b_rg v_25; have := b_rg x13_6; exact i_add (a := v_25.toInt) (b := x13_6.toInt) rfl rfl (by omega) (by omega)
                  refine va_iald hx hb hK hP 61 0 rfl rfl (vp_inI (by omega) (by omega)) dX12_tellsFact_134 ?_
                  refine lv_topi (fun v_27 ev_27 => ?_)
                  refine lv_icmp_le (tgt := 153) hx hb dX12_tellsFact_135 (by decide) (fun c_28 => ?_) (fun c_28 => ?_)
                  · have c_28 : r_24.toInt ≤ v_27.toInt := b_le c_28
                    obtain ⟨x_29, ex_29⟩ : ∃ y : Int32, y = x13_6 + 1 := ⟨_, rfl⟩
                    refine lv_iinc (v := x_29) (lv' := [(6, .int x_29), (7, .int r_24), (5, .int x11_5), (4, .int r_7), (3, .int v_2), (2, .int v_1), (0, .ref (a 0)), (1, .int p0)]) hx hb dX12_tellsFact_153 hl (k := 1) rfl (by rw [ex_29]; rfl) (by decide) rfl (fun ls hl => ?_)
                    have hx_29 : x_29.toInt = x13_6.toInt + 1 := by rw [ex_29]; have := b_rg x13_6; exact i_add (a := x13_6.toInt) (b := 1) rfl rfl (by omega) (by omega)
                    refine lv_goto (tgt := 75) hx hb dX12_tellsFact_156 (by decide) ?_
                    exact ih13 x_29 r13 _ _ _ (by first | omega | (simp only [Int.toNat]; omega)) (by first | omega | decide) hRr hEr  hP hD hS (lv_sub hl [0, 2, 3, 4, 5, 6, 7] rfl)
                  · have c_28 : v_27.toInt < r_24.toInt := b_nle c_28
                    refine lv_aload_n hx hb dX12_tellsFact_138 rfl (lv_at hl 6 rfl) ?_
                    refine va_get (D := D) (ci := 12) (v := .ref (a 61)) (C := RX12) (T := TX12) (N := 91) hx hb hT iX12 hown hK hP 0 rfl rfl 76 (by decide) (hT _ t_206) (fun _ h9 => h9) rfl dX12_tellsFact_139 ?_
                    refine lv_bipush (v := 11) hx hb dX12_tellsFact_142 (by decide) ?_
                    refine lv_iload hx hb dX12_tellsFact_144 (lv_at hl 2 rfl) ?_
                    refine lv_imul hx hb dX12_tellsFact_146 ?_
                    refine lv_topi (fun v_30 ev_30 => ?_)
                    have hv_30 : v_30.toInt = 11 * x11_5.toInt := by rw [ev_30]; have := b_rg x11_5; exact i_mul (a := 11) (b := x11_5.toInt) rfl rfl (by omega) (by omega)
                    refine lv_iload hx hb dX12_tellsFact_147 (lv_at hl 1 rfl) ?_
                    refine lv_iadd hx hb dX12_tellsFact_149 ?_
                    refine lv_topi (fun v_31 ev_31 => ?_)
                    have hv_31 : v_31.toInt = v_30.toInt + x13_6.toInt := by rw [ev_31]; have := b_rg v_30; have := b_rg x13_6; exact i_add (a := v_30.toInt) (b := x13_6.toInt) rfl rfl (by omega) (by omega)
                    refine lv_iload hx hb dX12_tellsFact_150 (lv_at hl 0 rfl) ?_
                    refine va_iast hx hb hK hP hD hS 61 0 rfl rfl (vp_inI (by omega) (by omega)) dX12_tellsFact_152 (fun H locs hP hD hS => ?_)
                    rw [mS61] at hP hD
                    have hRr : mRr (va_up r13 61 (upd (r13 61) v_31.toNatClampNeg r_24)) := Rr_upd hRr 61 (v_31.toNatClampNeg) r_24 (b_rg _)
                    have hEr : mEr [61, 62] _ (va_up r13 61 (upd (r13 61) v_31.toNatClampNeg r_24)) := Er_up hEr 61 _ (by decide)
                    obtain ⟨x_32, ex_32⟩ : ∃ y : Int32, y = x13_6 + 1 := ⟨_, rfl⟩
                    refine lv_iinc (v := x_32) (lv' := [(6, .int x_32), (7, .int r_24), (5, .int x11_5), (4, .int r_7), (3, .int v_2), (2, .int v_1), (0, .ref (a 0)), (1, .int p0)]) hx hb dX12_tellsFact_153 hl (k := 1) rfl (by rw [ex_32]; rfl) (by decide) rfl (fun ls hl => ?_)
                    have hx_32 : x_32.toInt = x13_6.toInt + 1 := by rw [ex_32]; have := b_rg x13_6; exact i_add (a := x13_6.toInt) (b := 1) rfl rfl (by omega) (by omega)
                    refine lv_goto (tgt := 75) hx hb dX12_tellsFact_156 (by decide) ?_
                    exact ih13 x_32 (va_up r13 61 (upd (r13 61) v_31.toNatClampNeg r_24)) _ _ _ (by first | omega | (simp only [Int.toNat]; omega)) (by first | omega | decide) hRr hEr  hP hD hS (lv_sub hl [0, 2, 3, 4, 5, 6, 7] rfl)
            exact loop_13 _ 0 r11 _ _ _ (Nat.lt_succ_self _) (by first | omega | decide) hRr hEr  hP hD hS hl
      exact loop_11 _ 0 (va_up r 62 (upd (r 62) p0.toNatClampNeg (vp_nar .boolean 0))) _ _ _ (Nat.lt_succ_self _) (by first | omega | decide) hRr hEr  hP hD hS hl
    · have c_10 : v_9.toInt ≠ 0 := b_ne c_10
      subst hQ
      exact W.vret hx hb hr (fun t ht hW => ⟨⟨(va_up r 62 (upd (r 62) p0.toNatClampNeg (vp_nar .boolean 0))), rfl, ⟨hRr, hEr, trivial⟩, by rw [ht]; exact hP, va_K.moved hW.alike hK, hD⟩, hS.F ht⟩) hS.2.2 dX12_tellsFact_61
  · have c_8 : 0 < r_7.toInt := b_nle c_8
    refine lv_iconst (v := 1) hx hb dX12_tellsFact_46 (by decide) ?_
    refine lv_goto (tgt := 51) hx hb dX12_tellsFact_47 (by decide) ?_
    refine va_zast hx hb hK hP hD hS 62 2 rfl rfl (vp_inI (by omega) (by omega)) dX12_tellsFact_51 (fun H locs hP hD hS => ?_)
    rw [mS62] at hP hD
    have hRr : mRr (va_up r 62 (upd (r 62) p0.toNatClampNeg (vp_nar .boolean 1))) := Rr_upd hRr 62 (p0.toNatClampNeg) (vp_nar .boolean 1) (b_rg _)
    have hEr : mEr [61, 62] _ (va_up r 62 (upd (r 62) p0.toNatClampNeg (vp_nar .boolean 1))) := Er_up hEr 62 _ (by decide)
    refine lv_aload_n hx hb dX12_tellsFact_52 rfl (lv_at hl 3 rfl) ?_
    refine va_get (D := D) (ci := 12) (v := .ref (a 62)) (C := RX12) (T := TX12) (N := 91) hx hb hT iX12 hown hK hP 0 rfl rfl 77 (by decide) (hT _ t_210) (fun _ h9 => h9) rfl dX12_tellsFact_53 ?_
    refine lv_iload_n hx hb dX12_tellsFact_56 rfl (lv_at hl 4 rfl) ?_
    refine va_zald hx hb hK hP 62 2 rfl rfl (vp_inI (by omega) (by omega)) dX12_tellsFact_57 ?_
    refine lv_topi (fun v_33 ev_33 => ?_)
    refine lv_if_eq (tgt := 62) hx hb dX12_tellsFact_58 (by decide) (fun c_34 => ?_) (fun c_34 => ?_)
    · have c_34 : v_33.toInt = 0 := b_eq c_34
      refine lv_iconst (v := 0) hx hb dX12_tellsFact_62 (by decide) ?_
      refine lv_istore (lv' := [(5, .int 0), (4, .int r_7), (3, .int v_2), (2, .int v_1), (0, .ref (a 0)), (1, .int p0)]) hx hb dX12_tellsFact_63 hl (by decide) rfl (fun ls hl => ?_)
      have loop_35 : ∀ (n : Nat) (x35_5 : Int32) (r35 : Nat → Nat → Int32) (H : Heap) (locs : List Loc) (ls : Array Slot), (11 - x35_5.toInt).toNat < n → (0 ≤ x35_5.toInt ∧ x35_5.toInt ≤ 11) → mRr r35 → mEr [61, 62] r r35 → va_P D vwCl (mW cy a i r35 rl) H → va_D A (mW cy a i r35 rl) → va_S A s.heap H locs → lv_has ls 8 [(5, .int x35_5), (4, .int r_7), (3, .int v_2), (2, .int v_1), (0, .ref (a 0)), (1, .int p0)] → W p l e ({ frames := 2, cells := 0, slots := 0, locals := 45 } : Room) s m ([.ref (a 0), .int p0] : List Value).toArray below meth c H locs 0 0 Q (F0 m 65 ls []) := by
        intro n
        induction n with
        | zero =>
          intro x35_5 r35 H locs ls hm35 hf35_0 hRr hEr hP hD hS hl
          exact absurd hm35 (by omega)
        | succ n ih35 =>
          intro x35_5 r35 H locs ls hm35 hf35_0 hRr hEr hP hD hS hl
          refine lv_iload hx hb dX12_tellsFact_65 (lv_at hl 0 rfl) ?_
          refine lv_bipush (v := 11) hx hb dX12_tellsFact_67 (by decide) ?_
          refine lv_icmp_ge (tgt := 165) hx hb dX12_tellsFact_69 (by decide) (fun c_36 => ?_) (fun c_36 => ?_)
          · have c_36 : 11 ≤ x35_5.toInt := b_le c_36
            subst hQ
            exact W.vret hx hb hr (fun t ht hW => ⟨⟨r35, rfl, ⟨hRr, hEr, trivial⟩, by rw [ht]; exact hP, va_K.moved hW.alike hK, hD⟩, hS.F ht⟩) hS.2.2 dX12_tellsFact_165
          · have c_36 : x35_5.toInt < 11 := b_nle c_36
            refine lv_iconst (v := 0) hx hb dX12_tellsFact_72 (by decide) ?_
            refine lv_istore (lv' := [(6, .int 0), (5, .int x35_5), (4, .int r_7), (3, .int v_2), (2, .int v_1), (0, .ref (a 0)), (1, .int p0)]) hx hb dX12_tellsFact_73 hl (by decide) rfl (fun ls hl => ?_)
            have loop_37 : ∀ (n : Nat) (x37_6 : Int32) (r37 : Nat → Nat → Int32) (H : Heap) (locs : List Loc) (ls : Array Slot), (11 - x37_6.toInt).toNat < n → (0 ≤ x37_6.toInt ∧ x37_6.toInt ≤ 11) → mRr r37 → mEr [61, 62] r r37 → va_P D vwCl (mW cy a i r37 rl) H → va_D A (mW cy a i r37 rl) → va_S A s.heap H locs → lv_has ls 8 [(6, .int x37_6), (5, .int x35_5), (4, .int r_7), (3, .int v_2), (2, .int v_1), (0, .ref (a 0)), (1, .int p0)] → W p l e ({ frames := 2, cells := 0, slots := 0, locals := 45 } : Room) s m ([.ref (a 0), .int p0] : List Value).toArray below meth c H locs 0 0 Q (F0 m 75 ls []) := by
              intro n
              induction n with
              | zero =>
                intro x37_6 r37 H locs ls hm37 hf37_0 hRr hEr hP hD hS hl
                exact absurd hm37 (by omega)
              | succ n ih37 =>
                intro x37_6 r37 H locs ls hm37 hf37_0 hRr hEr hP hD hS hl
                refine lv_iload hx hb dX12_tellsFact_75 (lv_at hl 0 rfl) ?_
                refine lv_bipush (v := 11) hx hb dX12_tellsFact_77 (by decide) ?_
                refine lv_icmp_ge (tgt := 159) hx hb dX12_tellsFact_79 (by decide) (fun c_38 => ?_) (fun c_38 => ?_)
                · have c_38 : 11 ≤ x37_6.toInt := b_le c_38
                  obtain ⟨x_39, ex_39⟩ : ∃ y : Int32, y = x35_5 + 1 := ⟨_, rfl⟩
                  refine lv_iinc (v := x_39) (lv' := [(5, .int x_39), (6, .int x37_6), (4, .int r_7), (3, .int v_2), (2, .int v_1), (0, .ref (a 0)), (1, .int p0)]) hx hb dX12_tellsFact_159 hl (k := 1) rfl (by rw [ex_39]; rfl) (by decide) rfl (fun ls hl => ?_)
                  have hx_39 : x_39.toInt = x35_5.toInt + 1 := by rw [ex_39]; have := b_rg x35_5; exact i_add (a := x35_5.toInt) (b := 1) rfl rfl (by omega) (by omega)
                  refine lv_goto (tgt := 65) hx hb dX12_tellsFact_162 (by decide) ?_
                  exact ih35 x_39 r37 _ _ _ (by first | omega | (simp only [Int.toNat]; omega)) (by first | omega | decide) hRr hEr  hP hD hS (lv_sub hl [0, 2, 3, 4, 5, 6] rfl)
                · have c_38 : x37_6.toInt < 11 := b_nle c_38
                  refine lv_aload_n hx hb dX12_tellsFact_82 rfl (lv_at hl 5 rfl) ?_
                  refine va_get (D := D) (ci := 12) (v := .ref (a 61)) (C := RX12) (T := TX12) (N := 91) hx hb hT iX12 hown hK hP 0 rfl rfl 76 (by decide) (hT _ t_206) (fun _ h9 => h9) rfl dX12_tellsFact_83 ?_
                  refine lv_bipush (v := 11) hx hb dX12_tellsFact_86 (by decide) ?_
                  refine lv_iload hx hb dX12_tellsFact_88 (lv_at hl 1 rfl) ?_
                  refine lv_imul hx hb dX12_tellsFact_90 ?_
                  refine lv_topi (fun v_40 ev_40 => ?_)
                  have hv_40 : v_40.toInt = 11 * x35_5.toInt := by rw [ev_40]; have := b_rg x35_5; exact i_mul (a := 11) (b := x35_5.toInt) rfl rfl (by omega) (by omega)
                  refine lv_iload_n hx hb dX12_tellsFact_91 rfl (lv_at hl 4 rfl) ?_
                  refine lv_iadd hx hb dX12_tellsFact_92 ?_
                  refine lv_topi (fun v_41 ev_41 => ?_)
                  have hv_41 : v_41.toInt = v_40.toInt + v_1.toInt := by rw [ev_41]; have := b_rg v_40; have := b_rg v_1; exact i_add (a := v_40.toInt) (b := v_1.toInt) rfl rfl (by omega) (by omega)
                  refine va_iald hx hb hK hP 61 0 rfl rfl (vp_inI (by omega) (by omega)) dX12_tellsFact_93 ?_
                  refine lv_topi (fun v_42 ev_42 => ?_)
                  refine lv_aload_n hx hb dX12_tellsFact_94 rfl (lv_at hl 5 rfl) ?_
                  refine va_get (D := D) (ci := 12) (v := .ref (a 60)) (C := RX12) (T := TX12) (N := 91) hx hb hT iX12 hown hK hP 0 rfl rfl 75 (by decide) (hT _ t_199) (fun _ h9 => h9) rfl dX12_tellsFact_95 ?_
                  refine lv_iload_n hx hb dX12_tellsFact_98 rfl (lv_at hl 6 rfl) ?_
                  refine va_iald hx hb hK hP 60 0 rfl rfl (vp_inI (by omega) (by omega)) dX12_tellsFact_99 ?_
                  refine lv_topi (fun v_43 ev_43 => ?_)
                  have hgv_43 : -999 ≤ v_43.toInt ∧ v_43.toInt ≤ 999 := by rw [ev_43]; exact hRr 60 _
                  refine vp_callSi (W.runS (As := [.int v_42, .int v_43]) (rest := []) ⟨hx, hb, hml, hown, hT⟩ (c_X12_sum l v_42 v_43) (va_cwS 2 hT (gS t_207 t_208 t_209 t_6) rfl rfl rfl (by decide +kernel) ⟨Nat.le_of_ble_eq_true rfl, Nat.le_of_ble_eq_true rfl⟩) preT rfl rfl hl.1 rfl (lv_room (Nat.le_of_ble_eq_true rfl)) dX12_tellsFact_100 ⟨Nat.le_of_ble_eq_true rfl, Nat.le_of_ble_eq_true rfl⟩) (fun r_44 hr_44 => ?_)
                  refine lv_aload_n hx hb dX12_tellsFact_103 rfl (lv_at hl 5 rfl) ?_
                  refine va_get (D := D) (ci := 12) (v := .ref (a 61)) (C := RX12) (T := TX12) (N := 91) hx hb hT iX12 hown hK hP 0 rfl rfl 76 (by decide) (hT _ t_206) (fun _ h9 => h9) rfl dX12_tellsFact_104 ?_
                  refine lv_bipush (v := 11) hx hb dX12_tellsFact_107 (by decide) ?_
                  refine lv_iload_n hx hb dX12_tellsFact_109 rfl (lv_at hl 3 rfl) ?_
                  refine lv_imul hx hb dX12_tellsFact_110 ?_
                  refine lv_topi (fun v_45 ev_45 => ?_)
                  have hv_45 : v_45.toInt = 11 * v_2.toInt := by rw [ev_45]; have := b_rg v_2; exact i_mul (a := 11) (b := v_2.toInt) rfl rfl (by omega) (by omega)
                  refine lv_iload hx hb dX12_tellsFact_111 (lv_at hl 0 rfl) ?_
                  refine lv_iadd hx hb dX12_tellsFact_113 ?_
                  refine lv_topi (fun v_46 ev_46 => ?_)
                  have hv_46 : v_46.toInt = v_45.toInt + x37_6.toInt := by rw [ev_46]; have := b_rg v_45; have := b_rg x37_6; exact i_add (a := v_45.toInt) (b := x37_6.toInt) rfl rfl (by omega) (by omega)
                  refine va_iald hx hb hK hP 61 0 rfl rfl (vp_inI (by omega) (by omega)) dX12_tellsFact_114 ?_
                  refine lv_topi (fun v_47 ev_47 => ?_)
                  refine vp_callSi (W.runS (As := [.int r_44, .int v_47]) (rest := []) ⟨hx, hb, hml, hown, hT⟩ (c_X12_sum l r_44 v_47) (va_cwS 2 hT (gS t_207 t_208 t_209 t_6) rfl rfl rfl (by decide +kernel) ⟨Nat.le_of_ble_eq_true rfl, Nat.le_of_ble_eq_true rfl⟩) preT rfl rfl hl.1 rfl (lv_room (Nat.le_of_ble_eq_true rfl)) dX12_tellsFact_115 ⟨Nat.le_of_ble_eq_true rfl, Nat.le_of_ble_eq_true rfl⟩) (fun r_48 hr_48 => ?_)
                  refine lv_istore (lv' := [(7, .int r_48), (6, .int x37_6), (5, .int x35_5), (4, .int r_7), (3, .int v_2), (2, .int v_1), (0, .ref (a 0)), (1, .int p0)]) hx hb dX12_tellsFact_118 hl (by decide) rfl (fun ls hl => ?_)
                  refine lv_iload hx hb dX12_tellsFact_120 (lv_at hl 0 rfl) ?_
                  refine lv_aload_n hx hb dX12_tellsFact_122 rfl (lv_at hl 6 rfl) ?_
                  refine va_get (D := D) (ci := 12) (v := .ref (a 61)) (C := RX12) (T := TX12) (N := 91) hx hb hT iX12 hown hK hP 0 rfl rfl 76 (by decide) (hT _ t_206) (fun _ h9 => h9) rfl dX12_tellsFact_123 ?_
                  refine lv_bipush (v := 11) hx hb dX12_tellsFact_126 (by decide) ?_
                  refine lv_iload hx hb dX12_tellsFact_128 (lv_at hl 2 rfl) ?_
                  refine lv_imul hx hb dX12_tellsFact_130 ?_
                  refine lv_topi (fun v_49 ev_49 => ?_)
                  have hv_49 : v_49.toInt = 11 * x35_5.toInt := by rw [ev_49]; have := b_rg x35_5; exact i_mul (a := 11) (b := x35_5.toInt) rfl rfl (by omega) (by omega)
                  refine lv_iload hx hb dX12_tellsFact_131 (lv_at hl 1 rfl) ?_
                  refine lv_iadd hx hb dX12_tellsFact_133 ?_
                  refine lv_topi (fun v_50 ev_50 => ?_)
                  have hv_50 : v_50.toInt = v_49.toInt + x37_6.toInt := by rw [ev_50]; have := b_rg v_49; have := b_rg x37_6; exact i_add (a := v_49.toInt) (b := x37_6.toInt) rfl rfl (by omega) (by omega)
                  refine va_iald hx hb hK hP 61 0 rfl rfl (vp_inI (by omega) (by omega)) dX12_tellsFact_134 ?_
                  refine lv_topi (fun v_51 ev_51 => ?_)
                  refine lv_icmp_le (tgt := 153) hx hb dX12_tellsFact_135 (by decide) (fun c_52 => ?_) (fun c_52 => ?_)
                  · have c_52 : r_48.toInt ≤ v_51.toInt := b_le c_52
                    obtain ⟨x_53, ex_53⟩ : ∃ y : Int32, y = x37_6 + 1 := ⟨_, rfl⟩
                    refine lv_iinc (v := x_53) (lv' := [(6, .int x_53), (7, .int r_48), (5, .int x35_5), (4, .int r_7), (3, .int v_2), (2, .int v_1), (0, .ref (a 0)), (1, .int p0)]) hx hb dX12_tellsFact_153 hl (k := 1) rfl (by rw [ex_53]; rfl) (by decide) rfl (fun ls hl => ?_)
                    have hx_53 : x_53.toInt = x37_6.toInt + 1 := by rw [ex_53]; have := b_rg x37_6; exact i_add (a := x37_6.toInt) (b := 1) rfl rfl (by omega) (by omega)
                    refine lv_goto (tgt := 75) hx hb dX12_tellsFact_156 (by decide) ?_
                    exact ih37 x_53 r37 _ _ _ (by first | omega | (simp only [Int.toNat]; omega)) (by first | omega | decide) hRr hEr  hP hD hS (lv_sub hl [0, 2, 3, 4, 5, 6, 7] rfl)
                  · have c_52 : v_51.toInt < r_48.toInt := b_nle c_52
                    refine lv_aload_n hx hb dX12_tellsFact_138 rfl (lv_at hl 6 rfl) ?_
                    refine va_get (D := D) (ci := 12) (v := .ref (a 61)) (C := RX12) (T := TX12) (N := 91) hx hb hT iX12 hown hK hP 0 rfl rfl 76 (by decide) (hT _ t_206) (fun _ h9 => h9) rfl dX12_tellsFact_139 ?_
                    refine lv_bipush (v := 11) hx hb dX12_tellsFact_142 (by decide) ?_
                    refine lv_iload hx hb dX12_tellsFact_144 (lv_at hl 2 rfl) ?_
                    refine lv_imul hx hb dX12_tellsFact_146 ?_
                    refine lv_topi (fun v_54 ev_54 => ?_)
                    have hv_54 : v_54.toInt = 11 * x35_5.toInt := by rw [ev_54]; have := b_rg x35_5; exact i_mul (a := 11) (b := x35_5.toInt) rfl rfl (by omega) (by omega)
                    refine lv_iload hx hb dX12_tellsFact_147 (lv_at hl 1 rfl) ?_
                    refine lv_iadd hx hb dX12_tellsFact_149 ?_
                    refine lv_topi (fun v_55 ev_55 => ?_)
                    have hv_55 : v_55.toInt = v_54.toInt + x37_6.toInt := by rw [ev_55]; have := b_rg v_54; have := b_rg x37_6; exact i_add (a := v_54.toInt) (b := x37_6.toInt) rfl rfl (by omega) (by omega)
                    refine lv_iload hx hb dX12_tellsFact_150 (lv_at hl 0 rfl) ?_
                    refine va_iast hx hb hK hP hD hS 61 0 rfl rfl (vp_inI (by omega) (by omega)) dX12_tellsFact_152 (fun H locs hP hD hS => ?_)
                    rw [mS61] at hP hD
                    have hRr : mRr (va_up r37 61 (upd (r37 61) v_55.toNatClampNeg r_48)) := Rr_upd hRr 61 (v_55.toNatClampNeg) r_48 (b_rg _)
                    have hEr : mEr [61, 62] _ (va_up r37 61 (upd (r37 61) v_55.toNatClampNeg r_48)) := Er_up hEr 61 _ (by decide)
                    obtain ⟨x_56, ex_56⟩ : ∃ y : Int32, y = x37_6 + 1 := ⟨_, rfl⟩
                    refine lv_iinc (v := x_56) (lv' := [(6, .int x_56), (7, .int r_48), (5, .int x35_5), (4, .int r_7), (3, .int v_2), (2, .int v_1), (0, .ref (a 0)), (1, .int p0)]) hx hb dX12_tellsFact_153 hl (k := 1) rfl (by rw [ex_56]; rfl) (by decide) rfl (fun ls hl => ?_)
                    have hx_56 : x_56.toInt = x37_6.toInt + 1 := by rw [ex_56]; have := b_rg x37_6; exact i_add (a := x37_6.toInt) (b := 1) rfl rfl (by omega) (by omega)
                    refine lv_goto (tgt := 75) hx hb dX12_tellsFact_156 (by decide) ?_
                    exact ih37 x_56 (va_up r37 61 (upd (r37 61) v_55.toNatClampNeg r_48)) _ _ _ (by first | omega | (simp only [Int.toNat]; omega)) (by first | omega | decide) hRr hEr  hP hD hS (lv_sub hl [0, 2, 3, 4, 5, 6, 7] rfl)
            exact loop_37 _ 0 r35 _ _ _ (Nat.lt_succ_self _) (by first | omega | decide) hRr hEr  hP hD hS hl
      exact loop_35 _ 0 (va_up r 62 (upd (r 62) p0.toNatClampNeg (vp_nar .boolean 1))) _ _ _ (Nat.lt_succ_self _) (by first | omega | decide) hRr hEr  hP hD hS hl
    · have c_34 : v_33.toInt ≠ 0 := b_ne c_34
      subst hQ
      exact W.vret hx hb hr (fun t ht hW => ⟨⟨(va_up r 62 (upd (r 62) p0.toNatClampNeg (vp_nar .boolean 1))), rfl, ⟨hRr, hEr, trivial⟩, by rw [ht]; exact hP, va_K.moved hW.alike hK, hD⟩, hS.F ht⟩) hS.2.2 dX12_tellsFact_61
set_option maxHeartbeats 4000000 in
set_option maxRecDepth 100000 in
theorem c_X12_laysFacts (l : Launch) (D : va_G) (cy : Nat → ClassId) (a : Nat → Nat) (i : Nat → Int32) (r : Nat → Nat → Int32) (rl : Nat → Int64) (sz : Nat) (hRi : mRi i) (hRr : mRr r) : Met l yX12_laysFacts (Cond.code yX12_laysFacts cX12_laysFacts 2 none :: gT) { frames := 3, cells := 0, slots := 0, locals := 72 } (va_Pc [.ref (a 0)] (rQ D cy (mW cy a i r rl) sz)) (va_Qv (fun u : Nat → Nat → Int32 => mRr u ∧ mEr [61, 62] r u ∧ True) (fun (u : Nat → Nat → Int32) t => va_P D vwCl (mW cy a i u rl) t.heap ∧ va_K D vwCl (vT cy) t ∧ va_D (va_A (mW cy a i r rl) sz) (mW cy a i u rl)) (va_A (mW cy a i r rl) sz)) 0 0 (va_A (mW cy a i r rl) sz) := by
  refine Met.ofQ (cc := cX12_laysFacts) (maxL := 2) (ret := none) (by decide) rfl ?_
  intro p e s m args below meth c s₁ B hml hv Q hQ
  obtain ⟨rfl, hsz, hP, hK, hD0⟩ := hv
  have hx := B.exec
  have hb := B.bytes
  have hr := B.returns
  have hlocks := B.notSynchronized
  have hT : ∀ w ∈ gT, w.before _ s = true := fun w h => atoms_spec (ws := (Cond.code yX12_laysFacts cX12_laysFacts 2 none :: gT)) B.pre w (List.mem_cons_of_mem _ h)
  have hown : s.vm.findClass RX12 = some m.cls := findClass_of_methodNamed B.named
  subst hsz
  have hD := hD0.self (sz := s.heap.size)
  generalize hAe : va_A (mW cy a i r rl) s.heap.size = A at hD hQ
  have hA : ∀ q : Nat, s.heap.size ≤ q → A q := fun q h => by rw [← hAe]; exact Or.inr h
  have hS : va_S A s.heap s.heap [] := va_S.rf
  have hl := lv_entry ([.ref (a 0)]) (n := 2) (Nat.le_of_ble_eq_true rfl)
  rw [lg_entry_eq]
  generalize (lg_sl ([.ref (a 0)]) ++ List.replicate (2 - (lg_sl ([.ref (a 0)])).length) Slot.unset).toArray = ls at hl ⊢
  have hl : lv_has ls 2 [(0, .ref (a 0))] := hl
  have hEi : mEi [23, 24, 25, 26, 27, 28, 29, 30, 60] i i := Ei_rf
  have hEr : mEr [61, 62] r r := Er_rf
  refine lv_iconst (v := 0) hx hb dX12_laysFacts_0 (by decide) ?_
  refine lv_istore_n (lv' := [(1, .int 0), (0, .ref (a 0))]) hx hb dX12_laysFacts_1 rfl hl (by decide) rfl (fun ls hl => ?_)
  have loop_1 : ∀ (n : Nat) (x1_1 : Int32) (r1 : Nat → Nat → Int32) (H : Heap) (locs : List Loc) (ls : Array Slot), (121 - x1_1.toInt).toNat < n → (0 ≤ x1_1.toInt ∧ x1_1.toInt ≤ 121) → mRr r1 → mEr [61, 62] r r1 → va_P D vwCl (mW cy a i r1 rl) H → va_D A (mW cy a i r1 rl) → va_S A s.heap H locs → lv_has ls 2 [(1, .int x1_1), (0, .ref (a 0))] → W p l e ({ frames := 3, cells := 0, slots := 0, locals := 72 } : Room) s m ([.ref (a 0)] : List Value).toArray below meth c H locs 0 0 Q (F0 m 2 ls []) := by
    intro n
    induction n with
    | zero =>
      intro x1_1 r1 H locs ls hm1 hf1_0 hRr hEr hP hD hS hl
      exact absurd hm1 (by omega)
    | succ n ih1 =>
      intro x1_1 r1 H locs ls hm1 hf1_0 hRr hEr hP hD hS hl
      refine lv_iload_n hx hb dX12_laysFacts_2 rfl (lv_at hl 0 rfl) ?_
      refine lv_bipush (v := 121) hx hb dX12_laysFacts_3 (by decide) ?_
      refine lv_icmp_ge (tgt := 38) hx hb dX12_laysFacts_5 (by decide) (fun c_2 => ?_) (fun c_2 => ?_)
      · have c_2 : 121 ≤ x1_1.toInt := b_le c_2
        refine lv_iconst (v := 0) hx hb dX12_laysFacts_38 (by decide) ?_
        refine lv_istore_n (lv' := [(1, .int 0), (0, .ref (a 0))]) hx hb dX12_laysFacts_39 rfl hl (by decide) rfl (fun ls hl => ?_)
        have loop_3 : ∀ (n : Nat) (x3_1 : Int32) (r3 : Nat → Nat → Int32) (H : Heap) (locs : List Loc) (ls : Array Slot), (30 - x3_1.toInt).toNat < n → (0 ≤ x3_1.toInt ∧ x3_1.toInt ≤ 30) → mRr r3 → mEr [61, 62] r r3 → va_P D vwCl (mW cy a i r3 rl) H → va_D A (mW cy a i r3 rl) → va_S A s.heap H locs → lv_has ls 2 [(1, .int x3_1), (0, .ref (a 0))] → W p l e ({ frames := 3, cells := 0, slots := 0, locals := 72 } : Room) s m ([.ref (a 0)] : List Value).toArray below meth c H locs 0 0 Q (F0 m 40 ls []) := by
          intro n
          induction n with
          | zero =>
            intro x3_1 r3 H locs ls hm3 hf3_0 hRr hEr hP hD hS hl
            exact absurd hm3 (by omega)
          | succ n ih3 =>
            intro x3_1 r3 H locs ls hm3 hf3_0 hRr hEr hP hD hS hl
            refine lv_iload_n hx hb dX12_laysFacts_40 rfl (lv_at hl 0 rfl) ?_
            refine lv_aload_n hx hb dX12_laysFacts_41 rfl (lv_at hl 1 rfl) ?_
            refine va_get (D := D) (ci := 12) (v := .int (i 72)) (C := RX12) (T := TX12) (N := 91) hx hb hT iX12 hown hK hP 0 rfl rfl 72 (by decide) (hT _ t_196) (fun _ h9 => h9) rfl dX12_laysFacts_42 ?_
            have hg_4 : 0 ≤ (i 72).toInt ∧ (i 72).toInt ≤ 30 := hRi 72
            refine lv_icmp_ge (tgt := 59) hx hb dX12_laysFacts_45 (by decide) (fun c_5 => ?_) (fun c_5 => ?_)
            · have c_5 : (i 72).toInt ≤ x3_1.toInt := b_le c_5
              subst hQ
              exact W.vret hx hb hr (fun t ht hW => ⟨⟨r3, rfl, ⟨hRr, hEr, trivial⟩, by rw [ht]; exact hP, va_K.moved hW.alike hK, hD⟩, hS.F ht⟩) hS.2.2 dX12_laysFacts_59
            · have c_5 : x3_1.toInt < (i 72).toInt := b_nle c_5
              refine lv_aload_n hx hb dX12_laysFacts_48 rfl (lv_at hl 1 rfl) ?_
              refine lv_iload_n hx hb dX12_laysFacts_49 rfl (lv_at hl 0 rfl) ?_
              have hF_6 := rF hD hS hA
              refine va_callv (va_runV (As := [.int x3_1]) (rest := []) ⟨hx, hb, hml, hown, hT⟩ (c_X12_tellsFact l D cy a i r3 rl x3_1 _ hRi hRr (by omega)) (cwV 1 hT (gV t_211 t_212 t_213 t_214 t_6) rfl rfl rfl (by decide +kernel) ⟨Nat.le_of_ble_eq_true rfl, Nat.le_of_ble_eq_true rfl⟩) (rQ_v hP hK hD (va_recv hK hP (ci := 12) (q0 := 0) rfl rfl)) rfl rfl hl.1 rfl (lv_room (Nat.le_of_ble_eq_true rfl)) dX12_laysFacts_50 ⟨Nat.le_of_ble_eq_true rfl, Nat.le_of_ble_eq_true rfl⟩) hS (fun q _ h => hF_6 q h) hF_6 (fun u_8 t H1 locs ht hvm hr_7 hB hz1 hk1 hS => ?_)
              obtain ⟨r8, rfl⟩ : ∃ z, z = u_8 := ⟨_, rfl⟩
              obtain ⟨hP, hK1, hD1⟩ := hB
              rw [ht] at hP
              have hD := hD1.weaken (fun k q _ h => hF_6 q.1 h)
              have hP : va_P D vwCl (mW cy a i r8 rl) H1 := hP
              have hD : va_D A (mW cy a i r8 rl) := hD
              obtain ⟨hRr, hE2, hr_7⟩ := hr_7
              have hRr : mRr r8 := hRr
              have hEr : mEr [61, 62] _ r8 := Er_tr hEr hE2 (by decide)
              obtain ⟨x_9, ex_9⟩ : ∃ y : Int32, y = x3_1 + 1 := ⟨_, rfl⟩
              refine lv_iinc (v := x_9) (lv' := [(1, .int x_9), (0, .ref (a 0))]) hx hb dX12_laysFacts_53 hl (k := 0) rfl (by rw [ex_9]; rfl) (by decide) rfl (fun ls hl => ?_)
              have hx_9 : x_9.toInt = x3_1.toInt + 1 := by rw [ex_9]; have := b_rg x3_1; exact i_add (a := x3_1.toInt) (b := 1) rfl rfl (by omega) (by omega)
              refine lv_goto (tgt := 40) hx hb dX12_laysFacts_56 (by decide) ?_
              exact ih3 x_9 r8 _ _ _ (by first | omega | (simp only [Int.toNat]; omega)) (by first | omega | decide) hRr hEr  hP hD hS (lv_sub hl [0, 1] rfl)
        exact loop_3 _ 0 r1 _ _ _ (Nat.lt_succ_self _) (by first | omega | decide) hRr hEr  hP hD hS hl
      · have c_2 : x1_1.toInt < 121 := b_nle c_2
        refine lv_aload_n hx hb dX12_laysFacts_8 rfl (lv_at hl 1 rfl) ?_
        refine va_get (D := D) (ci := 12) (v := .ref (a 61)) (C := RX12) (T := TX12) (N := 91) hx hb hT iX12 hown hK hP 0 rfl rfl 76 (by decide) (hT _ t_206) (fun _ h9 => h9) rfl dX12_laysFacts_9 ?_
        refine lv_iload_n hx hb dX12_laysFacts_12 rfl (lv_at hl 0 rfl) ?_
        refine lv_iload_n hx hb dX12_laysFacts_13 rfl (lv_at hl 0 rfl) ?_
        refine lv_bipush (v := 11) hx hb dX12_laysFacts_14 (by decide) ?_
        refine lv_idiv hx hb dX12_laysFacts_16 (by decide) ?_
        refine lv_topi (fun v_10 ev_10 => ?_)
        refine lv_iload_n hx hb dX12_laysFacts_17 rfl (lv_at hl 0 rfl) ?_
        refine lv_bipush (v := 11) hx hb dX12_laysFacts_18 (by decide) ?_
        refine lv_irem hx hb dX12_laysFacts_20 (by decide) ?_
        refine lv_topi (fun v_11 ev_11 => ?_)
        refine lv_icmp_ne (tgt := 28) hx hb dX12_laysFacts_21 (by decide) (fun c_12 => ?_) (fun c_12 => ?_)
        · have c_12 : v_10.toInt ≠ v_11.toInt := b_ne c_12
          refine lv_ldcw (v := (-1000000000)) hx hb hown (hT _ t_9) dX12_laysFacts_28 ?_
          refine va_iast hx hb hK hP hD hS 61 0 rfl rfl (vp_inI (by omega) (by omega)) dX12_laysFacts_31 (fun H locs hP hD hS => ?_)
          rw [mS61] at hP hD
          have hRr : mRr (va_up r1 61 (upd (r1 61) x1_1.toNatClampNeg (-1000000000))) := Rr_upd hRr 61 (x1_1.toNatClampNeg) (-1000000000) (b_rg _)
          have hEr : mEr [61, 62] _ (va_up r1 61 (upd (r1 61) x1_1.toNatClampNeg (-1000000000))) := Er_up hEr 61 _ (by decide)
          obtain ⟨x_13, ex_13⟩ : ∃ y : Int32, y = x1_1 + 1 := ⟨_, rfl⟩
          refine lv_iinc (v := x_13) (lv' := [(1, .int x_13), (0, .ref (a 0))]) hx hb dX12_laysFacts_32 hl (k := 0) rfl (by rw [ex_13]; rfl) (by decide) rfl (fun ls hl => ?_)
          have hx_13 : x_13.toInt = x1_1.toInt + 1 := by rw [ex_13]; have := b_rg x1_1; exact i_add (a := x1_1.toInt) (b := 1) rfl rfl (by omega) (by omega)
          refine lv_goto (tgt := 2) hx hb dX12_laysFacts_35 (by decide) ?_
          exact ih1 x_13 (va_up r1 61 (upd (r1 61) x1_1.toNatClampNeg (-1000000000))) _ _ _ (by first | omega | (simp only [Int.toNat]; omega)) (by first | omega | decide) hRr hEr  hP hD hS (lv_sub hl [0, 1] rfl)
        · have c_12 : v_10.toInt = v_11.toInt := b_nne c_12
          refine lv_iconst (v := 0) hx hb dX12_laysFacts_24 (by decide) ?_
          refine lv_goto (tgt := 31) hx hb dX12_laysFacts_25 (by decide) ?_
          refine va_iast hx hb hK hP hD hS 61 0 rfl rfl (vp_inI (by omega) (by omega)) dX12_laysFacts_31 (fun H locs hP hD hS => ?_)
          rw [mS61] at hP hD
          have hRr : mRr (va_up r1 61 (upd (r1 61) x1_1.toNatClampNeg 0)) := Rr_upd hRr 61 (x1_1.toNatClampNeg) 0 (b_rg _)
          have hEr : mEr [61, 62] _ (va_up r1 61 (upd (r1 61) x1_1.toNatClampNeg 0)) := Er_up hEr 61 _ (by decide)
          obtain ⟨x_14, ex_14⟩ : ∃ y : Int32, y = x1_1 + 1 := ⟨_, rfl⟩
          refine lv_iinc (v := x_14) (lv' := [(1, .int x_14), (0, .ref (a 0))]) hx hb dX12_laysFacts_32 hl (k := 0) rfl (by rw [ex_14]; rfl) (by decide) rfl (fun ls hl => ?_)
          have hx_14 : x_14.toInt = x1_1.toInt + 1 := by rw [ex_14]; have := b_rg x1_1; exact i_add (a := x1_1.toInt) (b := 1) rfl rfl (by omega) (by omega)
          refine lv_goto (tgt := 2) hx hb dX12_laysFacts_35 (by decide) ?_
          exact ih1 x_14 (va_up r1 61 (upd (r1 61) x1_1.toNatClampNeg 0)) _ _ _ (by first | omega | (simp only [Int.toNat]; omega)) (by first | omega | decide) hRr hEr  hP hD hS (lv_sub hl [0, 1] rfl)
  exact loop_1 _ 0 r _ _ _ (Nat.lt_succ_self _) (by first | omega | decide) hRr hEr  hP hD hS hl
set_option maxHeartbeats 4000000 in
set_option maxRecDepth 100000 in
theorem c_X12_dated (l : Launch) (D : va_G) (cy : Nat → ClassId) (a : Nat → Nat) (i : Nat → Int32) (r : Nat → Nat → Int32) (rl : Nat → Int64) (p0 p1 : Int32) (sz : Nat) (hRi : mRi i) (hRr : mRr r) : Met l yX12_dated (Cond.code yX12_dated cX12_dated 4 (some .int) :: gT) { frames := 4, cells := 0, slots := 0, locals := 93 } (va_Pc [.ref (a 0), .int p0, .int p1] (rQ D cy (mW cy a i r rl) sz)) (va_Qi (fun (z : Int32) (u : Nat → Nat → Int32) => mRr u ∧ mEr [61, 62] r u ∧ True) (fun (u : Nat → Nat → Int32) t => va_P D vwCl (mW cy a i u rl) t.heap ∧ va_K D vwCl (vT cy) t ∧ va_D (va_A (mW cy a i r rl) sz) (mW cy a i u rl)) (va_A (mW cy a i r rl) sz)) 0 0 (va_A (mW cy a i r rl) sz) := by
  refine Met.ofQ (cc := cX12_dated) (maxL := 4) (ret := (some .int)) (by decide) rfl ?_
  intro p e s m args below meth c s₁ B hml hv Q hQ
  obtain ⟨rfl, hsz, hP, hK, hD0⟩ := hv
  have hx := B.exec
  have hb := B.bytes
  have hr := B.returns
  have hlocks := B.notSynchronized
  have hT : ∀ w ∈ gT, w.before _ s = true := fun w h => atoms_spec (ws := (Cond.code yX12_dated cX12_dated 4 (some .int) :: gT)) B.pre w (List.mem_cons_of_mem _ h)
  have hown : s.vm.findClass RX12 = some m.cls := findClass_of_methodNamed B.named
  subst hsz
  have hD := hD0.self (sz := s.heap.size)
  generalize hAe : va_A (mW cy a i r rl) s.heap.size = A at hD hQ
  have hA : ∀ q : Nat, s.heap.size ≤ q → A q := fun q h => by rw [← hAe]; exact Or.inr h
  have hS : va_S A s.heap s.heap [] := va_S.rf
  have hl := lv_entry ([.ref (a 0), .int p0, .int p1]) (n := 4) (Nat.le_of_ble_eq_true rfl)
  rw [lg_entry_eq]
  generalize (lg_sl ([.ref (a 0), .int p0, .int p1]) ++ List.replicate (4 - (lg_sl ([.ref (a 0), .int p0, .int p1])).length) Slot.unset).toArray = ls at hl ⊢
  have hl : lv_has ls 4 [(0, .ref (a 0)), (1, .int p0), (2, .int p1)] := hl
  have hEi : mEi [] i i := Ei_rf
  have hEr : mEr [61, 62] r r := Er_rf
  refine lv_iload_n hx hb dX12_dated_0 rfl (lv_at hl 1 rfl) ?_
  refine lv_iconst (v := 0) hx hb dX12_dated_1 (by decide) ?_
  refine lv_bipush (v := 9) hx hb dX12_dated_2 (by decide) ?_
  refine vp_callSi (W.runS (As := [.int p0, .int 0, .int 9]) (rest := []) ⟨hx, hb, hml, hown, hT⟩ (c_X12_in l p0 0 9) (va_cwS 3 hT (gS t_113 t_114 t_115 t_6) rfl rfl rfl (by decide +kernel) ⟨Nat.le_of_ble_eq_true rfl, Nat.le_of_ble_eq_true rfl⟩) preT rfl rfl hl.1 rfl (lv_room (Nat.le_of_ble_eq_true rfl)) dX12_dated_4 ⟨Nat.le_of_ble_eq_true rfl, Nat.le_of_ble_eq_true rfl⟩) (fun r_1 hr_1 => ?_)
  have hr_1 : BR r_1 (0 ≤ p0.toInt ∧ p0.toInt ≤ 9) 1 0 := hr_1
  rcases hr_1 with ⟨rfl, h_2⟩ | ⟨rfl, h_2⟩
  · skip
    refine lv_if_eq (tgt := 19) hx hb dX12_dated_7 (by decide) (fun c_3 => absurd c_3 (by decide)) (fun c_3 => ?_)
    refine lv_iload_n hx hb dX12_dated_10 rfl (lv_at hl 2 rfl) ?_
    refine lv_iconst (v := 0) hx hb dX12_dated_11 (by decide) ?_
    refine lv_iconst (v := 1) hx hb dX12_dated_12 (by decide) ?_
    refine vp_callSi (W.runS (As := [.int p1, .int 0, .int 1]) (rest := []) ⟨hx, hb, hml, hown, hT⟩ (c_X12_in l p1 0 1) (va_cwS 3 hT (gS t_113 t_114 t_115 t_6) rfl rfl rfl (by decide +kernel) ⟨Nat.le_of_ble_eq_true rfl, Nat.le_of_ble_eq_true rfl⟩) preT rfl rfl hl.1 rfl (lv_room (Nat.le_of_ble_eq_true rfl)) dX12_dated_13 ⟨Nat.le_of_ble_eq_true rfl, Nat.le_of_ble_eq_true rfl⟩) (fun r_4 hr_4 => ?_)
    have hr_4 : BR r_4 (0 ≤ p1.toInt ∧ p1.toInt ≤ 1) 1 0 := hr_4
    rcases hr_4 with ⟨rfl, h_5⟩ | ⟨rfl, h_5⟩
    · skip
      refine lv_if_ne (tgt := 23) hx hb dX12_dated_16 (by decide) (fun c_6 => ?_) (fun c_6 => absurd c_6 (by decide))
      refine lv_aload_n hx hb dX12_dated_23 rfl (lv_at hl 0 rfl) ?_
      have hF_7 := rF hD hS hA
      refine va_callv (va_runV (As := []) (rest := []) ⟨hx, hb, hml, hown, hT⟩ (c_X12_laysFacts l D cy a i r rl _ hRi hRr) (cwV 0 hT (gV t_215 t_216 t_217 t_218 t_6) rfl rfl rfl (by decide +kernel) ⟨Nat.le_of_ble_eq_true rfl, Nat.le_of_ble_eq_true rfl⟩) (rQ_v hP hK hD (va_recv hK hP (ci := 12) (q0 := 0) rfl rfl)) rfl rfl hl.1 rfl (lv_room (Nat.le_of_ble_eq_true rfl)) dX12_dated_24 ⟨Nat.le_of_ble_eq_true rfl, Nat.le_of_ble_eq_true rfl⟩) hS (fun q _ h => hF_7 q h) hF_7 (fun u_9 t H1 locs ht hvm hr_8 hB hz1 hk1 hS => ?_)
      obtain ⟨r9, rfl⟩ : ∃ z, z = u_9 := ⟨_, rfl⟩
      obtain ⟨hP, hK1, hD1⟩ := hB
      rw [ht] at hP
      have hD := hD1.weaken (fun k q _ h => hF_7 q.1 h)
      have hP : va_P D vwCl (mW cy a i r9 rl) H1 := hP
      have hD : va_D A (mW cy a i r9 rl) := hD
      obtain ⟨hRr, hE2, hr_8⟩ := hr_8
      have hRr : mRr r9 := hRr
      have hEr : mEr [61, 62] _ r9 := Er_tr hEr hE2 (by decide)
      refine lv_iload_n hx hb dX12_dated_27 rfl (lv_at hl 2 rfl) ?_
      refine lv_if_ne (tgt := 43) hx hb dX12_dated_28 (by decide) (fun c_10 => ?_) (fun c_10 => ?_)
      · have c_10 : p1.toInt ≠ 0 := b_ne c_10
        refine lv_aload_n hx hb dX12_dated_43 rfl (lv_at hl 0 rfl) ?_
        refine va_get (D := D) (ci := 12) (v := .ref (a 61)) (C := RX12) (T := TX12) (N := 91) hx hb hT iX12 hown hK hP 0 rfl rfl 76 (by decide) (hT _ t_206) (fun _ h9 => h9) rfl dX12_dated_44 ?_
        refine lv_bipush (v := 11) hx hb dX12_dated_47 (by decide) ?_
        refine lv_iload_n hx hb dX12_dated_49 rfl (lv_at hl 1 rfl) ?_
        refine lv_imul hx hb dX12_dated_50 ?_
        refine lv_topi (fun v_11 ev_11 => ?_)
        have hv_11 : v_11.toInt = 11 * p0.toInt := by rw [ev_11]; have := b_rg p0; exact i_mul (a := 11) (b := p0.toInt) rfl rfl (by omega) (by omega)
        refine lv_bipush (v := 10) hx hb dX12_dated_51 (by decide) ?_
        refine lv_iadd hx hb dX12_dated_53 ?_
        refine lv_topi (fun v_12 ev_12 => ?_)
        have hv_12 : v_12.toInt = v_11.toInt + 10 := by rw [ev_12]; have := b_rg v_11; exact i_add (a := v_11.toInt) (b := 10) rfl rfl (by omega) (by omega)
        refine va_iald hx hb hK hP 61 0 rfl rfl (vp_inI (by omega) (by omega)) dX12_dated_54 ?_
        refine lv_topi (fun v_13 ev_13 => ?_)
        refine lv_istore_n (lv' := [(3, .int v_13), (0, .ref (a 0)), (1, .int p0), (2, .int p1)]) hx hb dX12_dated_55 rfl hl (by decide) rfl (fun ls hl => ?_)
        refine lv_iload_n hx hb dX12_dated_56 rfl (lv_at hl 0 rfl) ?_
        refine lv_ldcw (v := (-1000000000)) hx hb hown (hT _ t_9) dX12_dated_57 ?_
        refine lv_icmp_ne (tgt := 69) hx hb dX12_dated_60 (by decide) (fun c_14 => ?_) (fun c_14 => ?_)
        · have c_14 : v_13.toInt ≠ (-1000000000) := b_ne c_14
          refine lv_iload_n hx hb dX12_dated_69 rfl (lv_at hl 3 rfl) ?_
          refine lv_if_ne (tgt := 77) hx hb dX12_dated_70 (by decide) (fun c_15 => ?_) (fun c_15 => ?_)
          · have c_15 : p1.toInt ≠ 0 := b_ne c_15
            refine lv_iload_n hx hb dX12_dated_77 rfl (lv_at hl 0 rfl) ?_
            refine lv_ineg hx hb dX12_dated_78 ?_
            refine lv_topi (fun v_16 ev_16 => ?_)
            subst hQ
            exact W.iret (v := v_16) hx hb hr (fun t ht hW => ⟨⟨_, r9, rfl, ⟨hRr, hEr, trivial⟩, by rw [ht]; exact hP, va_K.moved hW.alike hK, hD⟩, hS.F ht⟩) hS.2.2 dX12_dated_79
          · have c_15 : p1.toInt = 0 := b_nne c_15
            refine lv_iload_n hx hb dX12_dated_73 rfl (lv_at hl 0 rfl) ?_
            refine lv_goto (tgt := 79) hx hb dX12_dated_74 (by decide) ?_
            subst hQ
            exact W.iret (v := v_13) hx hb hr (fun t ht hW => ⟨⟨_, r9, rfl, ⟨hRr, hEr, trivial⟩, by rw [ht]; exact hP, va_K.moved hW.alike hK, hD⟩, hS.F ht⟩) hS.2.2 dX12_dated_79
        · have c_14 : v_13.toInt = (-1000000000) := b_nne c_14
          refine lv_ldcw (v := (-100000)) hx hb hown (hT _ t_219) dX12_dated_63 ?_
          refine lv_goto (tgt := 79) hx hb dX12_dated_66 (by decide) ?_
          subst hQ
          exact W.iret (v := (-100000)) hx hb hr (fun t ht hW => ⟨⟨_, r9, rfl, ⟨hRr, hEr, trivial⟩, by rw [ht]; exact hP, va_K.moved hW.alike hK, hD⟩, hS.F ht⟩) hS.2.2 dX12_dated_79
      · have c_10 : p1.toInt = 0 := b_nne c_10
        refine lv_aload_n hx hb dX12_dated_31 rfl (lv_at hl 0 rfl) ?_
        refine va_get (D := D) (ci := 12) (v := .ref (a 61)) (C := RX12) (T := TX12) (N := 91) hx hb hT iX12 hown hK hP 0 rfl rfl 76 (by decide) (hT _ t_206) (fun _ h9 => h9) rfl dX12_dated_32 ?_
        refine lv_bipush (v := 110) hx hb dX12_dated_35 (by decide) ?_
        refine lv_iload_n hx hb dX12_dated_37 rfl (lv_at hl 1 rfl) ?_
        refine lv_iadd hx hb dX12_dated_38 ?_
        refine lv_topi (fun v_17 ev_17 => ?_)
        have hv_17 : v_17.toInt = 110 + p0.toInt := by rw [ev_17]; have := b_rg p0; exact i_add (a := 110) (b := p0.toInt) rfl rfl (by omega) (by omega)
        refine va_iald hx hb hK hP 61 0 rfl rfl (vp_inI (by omega) (by omega)) dX12_dated_39 ?_
        refine lv_topi (fun v_18 ev_18 => ?_)
        refine lv_goto (tgt := 55) hx hb dX12_dated_40 (by decide) ?_
        refine lv_istore_n (lv' := [(3, .int v_18), (0, .ref (a 0)), (1, .int p0), (2, .int p1)]) hx hb dX12_dated_55 rfl hl (by decide) rfl (fun ls hl => ?_)
        refine lv_iload_n hx hb dX12_dated_56 rfl (lv_at hl 0 rfl) ?_
        refine lv_ldcw (v := (-1000000000)) hx hb hown (hT _ t_9) dX12_dated_57 ?_
        refine lv_icmp_ne (tgt := 69) hx hb dX12_dated_60 (by decide) (fun c_19 => ?_) (fun c_19 => ?_)
        · have c_19 : v_18.toInt ≠ (-1000000000) := b_ne c_19
          refine lv_iload_n hx hb dX12_dated_69 rfl (lv_at hl 3 rfl) ?_
          refine lv_if_ne (tgt := 77) hx hb dX12_dated_70 (by decide) (fun c_20 => by have c_20 : p1.toInt ≠ 0 := b_ne c_20; omega) (fun c_20 => ?_)
          have c_20 : p1.toInt = 0 := b_nne c_20
          refine lv_iload_n hx hb dX12_dated_73 rfl (lv_at hl 0 rfl) ?_
          refine lv_goto (tgt := 79) hx hb dX12_dated_74 (by decide) ?_
          subst hQ
          exact W.iret (v := v_18) hx hb hr (fun t ht hW => ⟨⟨_, r9, rfl, ⟨hRr, hEr, trivial⟩, by rw [ht]; exact hP, va_K.moved hW.alike hK, hD⟩, hS.F ht⟩) hS.2.2 dX12_dated_79
        · have c_19 : v_18.toInt = (-1000000000) := b_nne c_19
          refine lv_ldcw (v := (-100000)) hx hb hown (hT _ t_219) dX12_dated_63 ?_
          refine lv_goto (tgt := 79) hx hb dX12_dated_66 (by decide) ?_
          subst hQ
          exact W.iret (v := (-100000)) hx hb hr (fun t ht hW => ⟨⟨_, r9, rfl, ⟨hRr, hEr, trivial⟩, by rw [ht]; exact hP, va_K.moved hW.alike hK, hD⟩, hS.F ht⟩) hS.2.2 dX12_dated_79
    · skip
      refine lv_if_ne (tgt := 23) hx hb dX12_dated_16 (by decide) (fun c_21 => absurd (by decide) c_21) (fun c_21 => ?_)
      refine lv_ldcw (v := (-100000)) hx hb hown (hT _ t_219) dX12_dated_19 ?_
      subst hQ
      exact W.iret (v := (-100000)) hx hb hr (fun t ht hW => ⟨⟨_, r, rfl, ⟨hRr, hEr, trivial⟩, by rw [ht]; exact hP, va_K.moved hW.alike hK, hD⟩, hS.F ht⟩) hS.2.2 dX12_dated_22
  · skip
    refine lv_if_eq (tgt := 19) hx hb dX12_dated_7 (by decide) (fun c_22 => ?_) (fun c_22 => absurd (by decide) c_22)
    refine lv_ldcw (v := (-100000)) hx hb hown (hT _ t_219) dX12_dated_19 ?_
    subst hQ
    exact W.iret (v := (-100000)) hx hb hr (fun t ht hW => ⟨⟨_, r, rfl, ⟨hRr, hEr, trivial⟩, by rw [ht]; exact hP, va_K.moved hW.alike hK, hD⟩, hS.F ht⟩) hS.2.2 dX12_dated_22
set_option maxHeartbeats 4000000 in
set_option maxRecDepth 100000 in
theorem c_X12_wrong (l : Launch) (D : va_G) (cy : Nat → ClassId) (a : Nat → Nat) (i : Nat → Int32) (r : Nat → Nat → Int32) (rl : Nat → Int64) (p0 : Int32) (sz : Nat) (hRi : mRi i) (hRr : mRr r) : Met l yX12_wrong (Cond.code yX12_wrong cX12_wrong 4 (some .int) :: gT) { frames := 4, cells := 0, slots := 0, locals := 93 } (va_Pc [.ref (a 0), .int p0] (rQ D cy (mW cy a i r rl) sz)) (va_Qi (fun (z : Int32) (u : Nat → Nat → Int32) => mRr u ∧ mEr [61, 62] r u ∧ True) (fun (u : Nat → Nat → Int32) t => va_P D vwCl (mW cy a i u rl) t.heap ∧ va_K D vwCl (vT cy) t ∧ va_D (va_A (mW cy a i r rl) sz) (mW cy a i u rl)) (va_A (mW cy a i r rl) sz)) 0 0 (va_A (mW cy a i r rl) sz) := by
  refine Met.ofQ (cc := cX12_wrong) (maxL := 4) (ret := (some .int)) (by decide) rfl ?_
  intro p e s m args below meth c s₁ B hml hv Q hQ
  obtain ⟨rfl, hsz, hP, hK, hD0⟩ := hv
  have hx := B.exec
  have hb := B.bytes
  have hr := B.returns
  have hlocks := B.notSynchronized
  have hT : ∀ w ∈ gT, w.before _ s = true := fun w h => atoms_spec (ws := (Cond.code yX12_wrong cX12_wrong 4 (some .int) :: gT)) B.pre w (List.mem_cons_of_mem _ h)
  have hown : s.vm.findClass RX12 = some m.cls := findClass_of_methodNamed B.named
  subst hsz
  have hD := hD0.self (sz := s.heap.size)
  generalize hAe : va_A (mW cy a i r rl) s.heap.size = A at hD hQ
  have hA : ∀ q : Nat, s.heap.size ≤ q → A q := fun q h => by rw [← hAe]; exact Or.inr h
  have hS : va_S A s.heap s.heap [] := va_S.rf
  have hl := lv_entry ([.ref (a 0), .int p0]) (n := 4) (Nat.le_of_ble_eq_true rfl)
  rw [lg_entry_eq]
  generalize (lg_sl ([.ref (a 0), .int p0]) ++ List.replicate (4 - (lg_sl ([.ref (a 0), .int p0])).length) Slot.unset).toArray = ls at hl ⊢
  have hl : lv_has ls 4 [(0, .ref (a 0)), (1, .int p0)] := hl
  have hEi : mEi [] i i := Ei_rf
  have hEr : mEr [61, 62] r r := Er_rf
  refine lv_iload_n hx hb dX12_wrong_0 rfl (lv_at hl 1 rfl) ?_
  refine lv_iconst (v := (-1)) hx hb dX12_wrong_1 (by decide) ?_
  refine lv_icmp_ge (tgt := 7) hx hb dX12_wrong_2 (by decide) (fun c_1 => ?_) (fun c_1 => ?_)
  · have c_1 : (-1) ≤ p0.toInt := b_le c_1
    refine lv_aload_n hx hb dX12_wrong_7 rfl (lv_at hl 0 rfl) ?_
    have hF_2 := rF hD hS hA
    refine va_callv (va_runV (As := []) (rest := []) ⟨hx, hb, hml, hown, hT⟩ (c_X12_laysFacts l D cy a i r rl _ hRi hRr) (cwV 0 hT (gV t_215 t_216 t_217 t_218 t_6) rfl rfl rfl (by decide +kernel) ⟨Nat.le_of_ble_eq_true rfl, Nat.le_of_ble_eq_true rfl⟩) (rQ_v hP hK hD (va_recv hK hP (ci := 12) (q0 := 0) rfl rfl)) rfl rfl hl.1 rfl (lv_room (Nat.le_of_ble_eq_true rfl)) dX12_wrong_8 ⟨Nat.le_of_ble_eq_true rfl, Nat.le_of_ble_eq_true rfl⟩) hS (fun q _ h => hF_2 q h) hF_2 (fun u_4 t H1 locs ht hvm hr_3 hB hz1 hk1 hS => ?_)
    obtain ⟨r4, rfl⟩ : ∃ z, z = u_4 := ⟨_, rfl⟩
    obtain ⟨hP, hK1, hD1⟩ := hB
    rw [ht] at hP
    have hD := hD1.weaken (fun k q _ h => hF_2 q.1 h)
    have hP : va_P D vwCl (mW cy a i r4 rl) H1 := hP
    have hD : va_D A (mW cy a i r4 rl) := hD
    obtain ⟨hRr, hE2, hr_3⟩ := hr_3
    have hRr : mRr r4 := hRr
    have hEr : mEr [61, 62] _ r4 := Er_tr hEr hE2 (by decide)
    refine lv_iconst (v := 0) hx hb dX12_wrong_11 (by decide) ?_
    refine lv_istore_n (lv' := [(2, .int 0), (0, .ref (a 0)), (1, .int p0)]) hx hb dX12_wrong_12 rfl hl (by decide) rfl (fun ls hl => ?_)
    refine lv_iconst (v := 0) hx hb dX12_wrong_13 (by decide) ?_
    refine lv_istore_n (lv' := [(3, .int 0), (2, .int 0), (0, .ref (a 0)), (1, .int p0)]) hx hb dX12_wrong_14 rfl hl (by decide) rfl (fun ls hl => ?_)
    have loop_5 : ∀ (n : Nat) (x5_3 : Int32) (x5_2 : Int32) (H : Heap) (locs : List Loc) (ls : Array Slot), (30 - x5_3.toInt).toNat < n → (0 ≤ x5_3.toInt ∧ x5_3.toInt ≤ 30) → va_P D vwCl (mW cy a i r4 rl) H → va_D A (mW cy a i r4 rl) → va_S A s.heap H locs → lv_has ls 4 [(3, .int x5_3), (2, .int x5_2), (0, .ref (a 0)), (1, .int p0)] → W p l e ({ frames := 4, cells := 0, slots := 0, locals := 93 } : Room) s m ([.ref (a 0), .int p0] : List Value).toArray below meth c H locs 0 0 Q (F0 m 15 ls []) := by
      intro n
      induction n with
      | zero =>
        intro x5_3 x5_2 H locs ls hm5 hf5_0 hP hD hS hl
        exact absurd hm5 (by omega)
      | succ n ih5 =>
        intro x5_3 x5_2 H locs ls hm5 hf5_0 hP hD hS hl
        refine lv_iload_n hx hb dX12_wrong_15 rfl (lv_at hl 0 rfl) ?_
        refine lv_aload_n hx hb dX12_wrong_16 rfl (lv_at hl 2 rfl) ?_
        refine va_get (D := D) (ci := 12) (v := .int (i 72)) (C := RX12) (T := TX12) (N := 91) hx hb hT iX12 hown hK hP 0 rfl rfl 72 (by decide) (hT _ t_196) (fun _ h9 => h9) rfl dX12_wrong_17 ?_
        have hg_6 : 0 ≤ (i 72).toInt ∧ (i 72).toInt ≤ 30 := hRi 72
        refine lv_icmp_ge (tgt := 52) hx hb dX12_wrong_20 (by decide) (fun c_7 => ?_) (fun c_7 => ?_)
        · have c_7 : (i 72).toInt ≤ x5_3.toInt := b_le c_7
          refine lv_iload_n hx hb dX12_wrong_52 rfl (lv_at hl 3 rfl) ?_
          refine lv_iconst (v := (-1)) hx hb dX12_wrong_53 (by decide) ?_
          refine lv_icmp_ne (tgt := 61) hx hb dX12_wrong_54 (by decide) (fun c_8 => ?_) (fun c_8 => ?_)
          · have c_8 : p0.toInt ≠ (-1) := b_ne c_8
            refine lv_iconst (v := (-1)) hx hb dX12_wrong_61 (by decide) ?_
            subst hQ
            exact W.iret (v := (-1)) hx hb hr (fun t ht hW => ⟨⟨_, r4, rfl, ⟨hRr, hEr, trivial⟩, by rw [ht]; exact hP, va_K.moved hW.alike hK, hD⟩, hS.F ht⟩) hS.2.2 dX12_wrong_62
          · have c_8 : p0.toInt = (-1) := b_nne c_8
            refine lv_iload_n hx hb dX12_wrong_57 rfl (lv_at hl 1 rfl) ?_
            refine lv_goto (tgt := 62) hx hb dX12_wrong_58 (by decide) ?_
            subst hQ
            exact W.iret (v := x5_2) hx hb hr (fun t ht hW => ⟨⟨_, r4, rfl, ⟨hRr, hEr, trivial⟩, by rw [ht]; exact hP, va_K.moved hW.alike hK, hD⟩, hS.F ht⟩) hS.2.2 dX12_wrong_62
        · have c_7 : x5_3.toInt < (i 72).toInt := b_nle c_7
          refine lv_aload_n hx hb dX12_wrong_23 rfl (lv_at hl 2 rfl) ?_
          refine va_get (D := D) (ci := 12) (v := .ref (a 62)) (C := RX12) (T := TX12) (N := 91) hx hb hT iX12 hown hK hP 0 rfl rfl 77 (by decide) (hT _ t_210) (fun _ h9 => h9) rfl dX12_wrong_24 ?_
          refine lv_iload_n hx hb dX12_wrong_27 rfl (lv_at hl 0 rfl) ?_
          refine va_zald hx hb hK hP 62 2 rfl rfl (vp_inI (by omega) (by omega)) dX12_wrong_28 ?_
          refine lv_topi (fun v_9 ev_9 => ?_)
          refine lv_if_ne (tgt := 35) hx hb dX12_wrong_29 (by decide) (fun c_10 => ?_) (fun c_10 => ?_)
          · have c_10 : v_9.toInt ≠ 0 := b_ne c_10
            refine lv_iload_n hx hb dX12_wrong_35 rfl (lv_at hl 1 rfl) ?_
            refine lv_iload_n hx hb dX12_wrong_36 rfl (lv_at hl 3 rfl) ?_
            refine lv_icmp_ne (tgt := 42) hx hb dX12_wrong_37 (by decide) (fun c_11 => ?_) (fun c_11 => ?_)
            · have c_11 : x5_2.toInt ≠ p0.toInt := b_ne c_11
              refine lv_iload_n hx hb dX12_wrong_42 rfl (lv_at hl 1 rfl) ?_
              refine lv_iconst (v := 1) hx hb dX12_wrong_43 (by decide) ?_
              refine lv_iadd hx hb dX12_wrong_44 ?_
              refine lv_topi (fun v_12 ev_12 => ?_)
              refine lv_istore_n (lv' := [(2, .int v_12), (3, .int x5_3), (0, .ref (a 0)), (1, .int p0)]) hx hb dX12_wrong_45 rfl hl (by decide) rfl (fun ls hl => ?_)
              obtain ⟨x_13, ex_13⟩ : ∃ y : Int32, y = x5_3 + 1 := ⟨_, rfl⟩
              refine lv_iinc (v := x_13) (lv' := [(3, .int x_13), (2, .int v_12), (0, .ref (a 0)), (1, .int p0)]) hx hb dX12_wrong_46 hl (k := 1) rfl (by rw [ex_13]; rfl) (by decide) rfl (fun ls hl => ?_)
              have hx_13 : x_13.toInt = x5_3.toInt + 1 := by rw [ex_13]; have := b_rg x5_3; exact i_add (a := x5_3.toInt) (b := 1) rfl rfl (by omega) (by omega)
              refine lv_goto (tgt := 15) hx hb dX12_wrong_49 (by decide) ?_
              exact ih5 x_13 v_12 _ _ _ (by first | omega | (simp only [Int.toNat]; omega)) (by first | omega | decide)   hP hD hS (lv_sub hl [0, 1, 2, 3] rfl)
            · have c_11 : x5_2.toInt = p0.toInt := b_nne c_11
              refine lv_iload_n hx hb dX12_wrong_40 rfl (lv_at hl 0 rfl) ?_
              subst hQ
              exact W.iret (v := x5_3) hx hb hr (fun t ht hW => ⟨⟨_, r4, rfl, ⟨hRr, hEr, trivial⟩, by rw [ht]; exact hP, va_K.moved hW.alike hK, hD⟩, hS.F ht⟩) hS.2.2 dX12_wrong_41
          · have c_10 : v_9.toInt = 0 := b_nne c_10
            refine lv_goto (tgt := 46) hx hb dX12_wrong_32 (by decide) ?_
            obtain ⟨x_14, ex_14⟩ : ∃ y : Int32, y = x5_3 + 1 := ⟨_, rfl⟩
            refine lv_iinc (v := x_14) (lv' := [(3, .int x_14), (2, .int x5_2), (0, .ref (a 0)), (1, .int p0)]) hx hb dX12_wrong_46 hl (k := 0) rfl (by rw [ex_14]; rfl) (by decide) rfl (fun ls hl => ?_)
            have hx_14 : x_14.toInt = x5_3.toInt + 1 := by rw [ex_14]; have := b_rg x5_3; exact i_add (a := x5_3.toInt) (b := 1) rfl rfl (by omega) (by omega)
            refine lv_goto (tgt := 15) hx hb dX12_wrong_49 (by decide) ?_
            exact ih5 x_14 x5_2 _ _ _ (by first | omega | (simp only [Int.toNat]; omega)) (by first | omega | decide)   hP hD hS (lv_sub hl [0, 1, 2, 3] rfl)
    exact loop_5 _ 0 0 _ _ _ (Nat.lt_succ_self _) (by first | omega | decide)   hP hD hS hl
  · have c_1 : p0.toInt < (-1) := b_nle c_1
    refine lv_iconst (v := (-1)) hx hb dX12_wrong_5 (by decide) ?_
    subst hQ
    exact W.iret (v := (-1)) hx hb hr (fun t ht hW => ⟨⟨_, r, rfl, ⟨hRr, hEr, trivial⟩, by rw [ht]; exact hP, va_K.moved hW.alike hK, hD⟩, hS.F ht⟩) hS.2.2 dX12_wrong_6
set_option maxHeartbeats 4000000 in
set_option maxRecDepth 100000 in
theorem c_X12_count (l : Launch) (D : va_G) (cy : Nat → ClassId) (a : Nat → Nat) (i : Nat → Int32) (r : Nat → Nat → Int32) (rl : Nat → Int64) (p0 : Int32) (hRi : mRi i) (hRr : mRr r) : Met l yX12_count (Cond.code yX12_count cX12_count 2 (some .int) :: gT) { frames := 2, cells := 0, slots := 0, locals := 46 } (va_Pc [.ref (a 0), .int p0] (rP D cy (mW cy a i r rl))) (vp_Si (fun z => True)) 0 0 (fun _ => False) := by
  refine Met.ofQ (cc := cX12_count) (maxL := 2) (ret := (some .int)) (by decide) rfl ?_
  intro p e s m args below meth c s₁ B hml hv Q hQ
  obtain ⟨rfl, hP, hK⟩ := hv
  have hx := B.exec
  have hb := B.bytes
  have hr := B.returns
  have hlocks := B.notSynchronized
  have hT : ∀ w ∈ gT, w.before _ s = true := fun w h => atoms_spec (ws := (Cond.code yX12_count cX12_count 2 (some .int) :: gT)) B.pre w (List.mem_cons_of_mem _ h)
  have hown : s.vm.findClass RX12 = some m.cls := findClass_of_methodNamed B.named
  have hl := lv_entry ([.ref (a 0), .int p0]) (n := 2) (Nat.le_of_ble_eq_true rfl)
  rw [lg_entry_eq]
  generalize (lg_sl ([.ref (a 0), .int p0]) ++ List.replicate (2 - (lg_sl ([.ref (a 0), .int p0])).length) Slot.unset).toArray = ls at hl ⊢
  have hl : lv_has ls 2 [(0, .ref (a 0)), (1, .int p0)] := hl
  have hEi : mEi [23, 24, 25, 26, 27, 28, 29, 30, 60] i i := Ei_rf
  have hEr : mEr [21, 22, 23, 24, 25, 26, 32, 33, 34, 35, 36, 37, 38, 39, 48, 49, 57, 61, 62] r r := Er_rf
  refine lv_iload_n hx hb dX12_count_0 rfl (lv_at hl 1 rfl) ?_
  rcases (show (p0.toInt < 0 ∨ 6 < p0.toInt) ∨ p0.toInt = 0 ∨ p0.toInt = 1 ∨ p0.toInt = 2 ∨ p0.toInt = 3 ∨ p0.toInt = 4 ∨ p0.toInt = 5 ∨ p0.toInt = 6 by omega) with h_1 | h_1 | h_1 | h_1 | h_1 | h_1 | h_1 | h_1
  · refine lv_tableOut (tgt := 79) hx hb dX12_count_1 h_1 (by decide) ?_
    refine lv_iload_n hx hb dX12_count_79 rfl (lv_at hl 1 rfl) ?_
    refine lv_bipush (v := 10) hx hb dX12_count_80 (by decide) ?_
    refine lv_bipush (v := 9) hx hb dX12_count_82 (by decide) ?_
    refine lv_aload_n hx hb dX12_count_84 rfl (lv_at hl 0 rfl) ?_
    refine va_get (D := D) (ci := 12) (v := .int (i 0)) (C := RX12) (T := TX12) (N := 91) hx hb hT iX12 hown hK hP 0 rfl rfl 0 (by decide) (hT _ t_10) (fun _ h9 => h9) rfl dX12_count_85 ?_
    have hg_2 : 0 ≤ (i 0).toInt ∧ (i 0).toInt ≤ 6 := hRi 0
    refine lv_iadd hx hb dX12_count_88 ?_
    refine lv_topi (fun v_3 ev_3 => ?_)
    have hv_3 : v_3.toInt = 9 + (i 0).toInt := by rw [ev_3]; have := b_rg (i 0); exact i_add (a := 9) (b := (i 0).toInt) rfl rfl (by omega) (by omega)
    refine vp_callSi (W.runS (As := [.int p0, .int 10, .int v_3]) (rest := []) ⟨hx, hb, hml, hown, hT⟩ (c_X12_in l p0 10 v_3) (va_cwS 3 hT (gS t_113 t_114 t_115 t_6) rfl rfl rfl (by decide +kernel) ⟨Nat.le_of_ble_eq_true rfl, Nat.le_of_ble_eq_true rfl⟩) preT rfl rfl hl.1 rfl (lv_room (Nat.le_of_ble_eq_true rfl)) dX12_count_89 ⟨Nat.le_of_ble_eq_true rfl, Nat.le_of_ble_eq_true rfl⟩) (fun r_4 hr_4 => ?_)
    have hr_4 : BR r_4 (10 ≤ p0.toInt ∧ p0.toInt ≤ v_3.toInt) 1 0 := hr_4
    rcases hr_4 with ⟨rfl, h_5⟩ | ⟨rfl, h_5⟩
    · skip
      refine lv_if_eq (tgt := 105) hx hb dX12_count_92 (by decide) (fun c_6 => absurd c_6 (by decide)) (fun c_6 => ?_)
      refine lv_aload_n hx hb dX12_count_95 rfl (lv_at hl 0 rfl) ?_
      refine va_get (D := D) (ci := 12) (v := .ref (a 10)) (C := RX12) (T := TX12) (N := 91) hx hb hT iX12 hown hK hP 0 rfl rfl 11 (by decide) (hT _ t_16) (fun _ h9 => h9) rfl dX12_count_96 ?_
      refine lv_iload_n hx hb dX12_count_99 rfl (lv_at hl 1 rfl) ?_
      refine lv_bipush (v := 10) hx hb dX12_count_100 (by decide) ?_
      refine lv_isub hx hb dX12_count_102 ?_
      refine lv_topi (fun v_7 ev_7 => ?_)
      have hv_7 : v_7.toInt = p0.toInt - 10 := by rw [ev_7]; have := b_rg p0; exact i_sub (a := p0.toInt) (b := 10) rfl rfl (by omega) (by omega)
      refine va_iald hx hb hK hP 10 0 rfl rfl (vp_inI (by omega) (by omega)) dX12_count_103 ?_
      refine lv_topi (fun v_8 ev_8 => ?_)
      have hgv_8 : 0 ≤ v_8.toInt ∧ v_8.toInt ≤ 20 := by rw [ev_8]; exact hRr 10 _
      subst hQ
      exact W.iret (v := v_8) hx hb hr (fun t ht hW => ⟨_, rfl, trivial, ht⟩) (fun q hq => absurd hq List.not_mem_nil) dX12_count_104
    · skip
      refine lv_if_eq (tgt := 105) hx hb dX12_count_92 (by decide) (fun c_9 => ?_) (fun c_9 => absurd (by decide) c_9)
      refine lv_iload_n hx hb dX12_count_105 rfl (lv_at hl 1 rfl) ?_
      refine lv_bipush (v := 20) hx hb dX12_count_106 (by decide) ?_
      refine lv_bipush (v := 19) hx hb dX12_count_108 (by decide) ?_
      refine lv_aload_n hx hb dX12_count_110 rfl (lv_at hl 0 rfl) ?_
      refine va_get (D := D) (ci := 12) (v := .int (i 0)) (C := RX12) (T := TX12) (N := 91) hx hb hT iX12 hown hK hP 0 rfl rfl 0 (by decide) (hT _ t_10) (fun _ h9 => h9) rfl dX12_count_111 ?_
      refine lv_iadd hx hb dX12_count_114 ?_
      refine lv_topi (fun v_10 ev_10 => ?_)
      have hv_10 : v_10.toInt = 19 + (i 0).toInt := by rw [ev_10]; have := b_rg (i 0); exact i_add (a := 19) (b := (i 0).toInt) rfl rfl (by omega) (by omega)
      refine vp_callSi (W.runS (As := [.int p0, .int 20, .int v_10]) (rest := []) ⟨hx, hb, hml, hown, hT⟩ (c_X12_in l p0 20 v_10) (va_cwS 3 hT (gS t_113 t_114 t_115 t_6) rfl rfl rfl (by decide +kernel) ⟨Nat.le_of_ble_eq_true rfl, Nat.le_of_ble_eq_true rfl⟩) preT rfl rfl hl.1 rfl (lv_room (Nat.le_of_ble_eq_true rfl)) dX12_count_115 ⟨Nat.le_of_ble_eq_true rfl, Nat.le_of_ble_eq_true rfl⟩) (fun r_11 hr_11 => ?_)
      have hr_11 : BR r_11 (20 ≤ p0.toInt ∧ p0.toInt ≤ v_10.toInt) 1 0 := hr_11
      rcases hr_11 with ⟨rfl, h_12⟩ | ⟨rfl, h_12⟩
      · skip
        refine lv_if_eq (tgt := 131) hx hb dX12_count_118 (by decide) (fun c_13 => absurd c_13 (by decide)) (fun c_13 => ?_)
        refine lv_aload_n hx hb dX12_count_121 rfl (lv_at hl 0 rfl) ?_
        refine va_get (D := D) (ci := 12) (v := .ref (a 11)) (C := RX12) (T := TX12) (N := 91) hx hb hT iX12 hown hK hP 0 rfl rfl 12 (by decide) (hT _ t_43) (fun _ h9 => h9) rfl dX12_count_122 ?_
        refine lv_iload_n hx hb dX12_count_125 rfl (lv_at hl 1 rfl) ?_
        refine lv_bipush (v := 20) hx hb dX12_count_126 (by decide) ?_
        refine lv_isub hx hb dX12_count_128 ?_
        refine lv_topi (fun v_14 ev_14 => ?_)
        have hv_14 : v_14.toInt = p0.toInt - 20 := by rw [ev_14]; have := b_rg p0; exact i_sub (a := p0.toInt) (b := 20) rfl rfl (by omega) (by omega)
        refine va_iald hx hb hK hP 11 0 rfl rfl (vp_inI (by omega) (by omega)) dX12_count_129 ?_
        refine lv_topi (fun v_15 ev_15 => ?_)
        have hgv_15 : 0 ≤ v_15.toInt ∧ v_15.toInt ≤ 20 := by rw [ev_15]; exact hRr 11 _
        subst hQ
        exact W.iret (v := v_15) hx hb hr (fun t ht hW => ⟨_, rfl, trivial, ht⟩) (fun q hq => absurd hq List.not_mem_nil) dX12_count_130
      · skip
        refine lv_if_eq (tgt := 131) hx hb dX12_count_118 (by decide) (fun c_16 => ?_) (fun c_16 => absurd (by decide) c_16)
        refine lv_iload_n hx hb dX12_count_131 rfl (lv_at hl 1 rfl) ?_
        refine lv_bipush (v := 30) hx hb dX12_count_132 (by decide) ?_
        refine lv_bipush (v := 29) hx hb dX12_count_134 (by decide) ?_
        refine lv_aload_n hx hb dX12_count_136 rfl (lv_at hl 0 rfl) ?_
        refine va_get (D := D) (ci := 12) (v := .int (i 51)) (C := RX12) (T := TX12) (N := 91) hx hb hT iX12 hown hK hP 0 rfl rfl 51 (by decide) (hT _ t_11) (fun _ h9 => h9) rfl dX12_count_137 ?_
        have hg_17 : 0 ≤ (i 51).toInt ∧ (i 51).toInt ≤ 30 := hRi 51
        refine lv_iadd hx hb dX12_count_140 ?_
        refine lv_topi (fun v_18 ev_18 => ?_)
        have hv_18 : v_18.toInt = 29 + (i 51).toInt := by rw [ev_18]; have := b_rg (i 51); exact i_add (a := 29) (b := (i 51).toInt) rfl rfl (by omega) (by omega)
        refine vp_callSi (W.runS (As := [.int p0, .int 30, .int v_18]) (rest := []) ⟨hx, hb, hml, hown, hT⟩ (c_X12_in l p0 30 v_18) (va_cwS 3 hT (gS t_113 t_114 t_115 t_6) rfl rfl rfl (by decide +kernel) ⟨Nat.le_of_ble_eq_true rfl, Nat.le_of_ble_eq_true rfl⟩) preT rfl rfl hl.1 rfl (lv_room (Nat.le_of_ble_eq_true rfl)) dX12_count_141 ⟨Nat.le_of_ble_eq_true rfl, Nat.le_of_ble_eq_true rfl⟩) (fun r_19 hr_19 => ?_)
        have hr_19 : BR r_19 (30 ≤ p0.toInt ∧ p0.toInt ≤ v_18.toInt) 1 0 := hr_19
        rcases hr_19 with ⟨rfl, h_20⟩ | ⟨rfl, h_20⟩
        · skip
          refine lv_if_eq (tgt := 159) hx hb dX12_count_144 (by decide) (fun c_21 => absurd c_21 (by decide)) (fun c_21 => ?_)
          refine lv_aload_n hx hb dX12_count_147 rfl (lv_at hl 0 rfl) ?_
          refine va_get (D := D) (ci := 12) (v := .ref (a 40)) (C := RX12) (T := TX12) (N := 91) hx hb hT iX12 hown hK hP 0 rfl rfl 52 (by decide) (hT _ t_75) (fun _ h9 => h9) rfl dX12_count_148 ?_
          refine lv_iload_n hx hb dX12_count_151 rfl (lv_at hl 1 rfl) ?_
          refine lv_bipush (v := 30) hx hb dX12_count_152 (by decide) ?_
          refine lv_isub hx hb dX12_count_154 ?_
          refine lv_topi (fun v_22 ev_22 => ?_)
          have hv_22 : v_22.toInt = p0.toInt - 30 := by rw [ev_22]; have := b_rg p0; exact i_sub (a := p0.toInt) (b := 30) rfl rfl (by omega) (by omega)
          refine va_iald hx hb hK hP 40 0 rfl rfl (vp_inI (by omega) (by omega)) dX12_count_155 ?_
          refine lv_topi (fun v_23 ev_23 => ?_)
          have hgv_23 : 0 ≤ v_23.toInt ∧ v_23.toInt ≤ 5 := by rw [ev_23]; exact hRr 40 _
          refine lv_goto (tgt := 160) hx hb dX12_count_156 (by decide) ?_
          subst hQ
          exact W.iret (v := v_23) hx hb hr (fun t ht hW => ⟨_, rfl, trivial, ht⟩) (fun q hq => absurd hq List.not_mem_nil) dX12_count_160
        · skip
          refine lv_if_eq (tgt := 159) hx hb dX12_count_144 (by decide) (fun c_24 => ?_) (fun c_24 => absurd (by decide) c_24)
          refine lv_iconst (v := (-1)) hx hb dX12_count_159 (by decide) ?_
          subst hQ
          exact W.iret (v := (-1)) hx hb hr (fun t ht hW => ⟨_, rfl, trivial, ht⟩) (fun q hq => absurd hq List.not_mem_nil) dX12_count_160
  · refine lv_tableIn (off := 43) (tgt := 44) hx hb dX12_count_1 (by omega) (by omega) (by rw [h_1]; rfl) (by decide) ?_
    refine lv_aload_n hx hb dX12_count_44 rfl (lv_at hl 0 rfl) ?_
    refine va_get (D := D) (ci := 12) (v := .int (i 0)) (C := RX12) (T := TX12) (N := 91) hx hb hT iX12 hown hK hP 0 rfl rfl 0 (by decide) (hT _ t_10) (fun _ h9 => h9) rfl dX12_count_45 ?_
    have hg_25 : 0 ≤ (i 0).toInt ∧ (i 0).toInt ≤ 6 := hRi 0
    subst hQ
    exact W.iret (v := i 0) hx hb hr (fun t ht hW => ⟨_, rfl, trivial, ht⟩) (fun q hq => absurd hq List.not_mem_nil) dX12_count_48
  · refine lv_tableIn (off := 48) (tgt := 49) hx hb dX12_count_1 (by omega) (by omega) (by rw [h_1]; rfl) (by decide) ?_
    refine lv_aload_n hx hb dX12_count_49 rfl (lv_at hl 0 rfl) ?_
    refine va_get (D := D) (ci := 12) (v := .int (i 51)) (C := RX12) (T := TX12) (N := 91) hx hb hT iX12 hown hK hP 0 rfl rfl 51 (by decide) (hT _ t_11) (fun _ h9 => h9) rfl dX12_count_50 ?_
    have hg_26 : 0 ≤ (i 51).toInt ∧ (i 51).toInt ≤ 30 := hRi 51
    subst hQ
    exact W.iret (v := i 51) hx hb hr (fun t ht hW => ⟨_, rfl, trivial, ht⟩) (fun q hq => absurd hq List.not_mem_nil) dX12_count_53
  · refine lv_tableIn (off := 53) (tgt := 54) hx hb dX12_count_1 (by omega) (by omega) (by rw [h_1]; rfl) (by decide) ?_
    refine lv_aload_n hx hb dX12_count_54 rfl (lv_at hl 0 rfl) ?_
    refine va_get (D := D) (ci := 12) (v := .int (i 31)) (C := RX12) (T := TX12) (N := 91) hx hb hT iX12 hown hK hP 0 rfl rfl 31 (by decide) (hT _ t_88) (fun _ h9 => h9) rfl dX12_count_55 ?_
    have hg_27 : 0 ≤ (i 31).toInt ∧ (i 31).toInt ≤ 14 := hRi 31
    subst hQ
    exact W.iret (v := i 31) hx hb hr (fun t ht hW => ⟨_, rfl, trivial, ht⟩) (fun q hq => absurd hq List.not_mem_nil) dX12_count_58
  · refine lv_tableIn (off := 58) (tgt := 59) hx hb dX12_count_1 (by omega) (by omega) (by rw [h_1]; rfl) (by decide) ?_
    refine lv_aload_n hx hb dX12_count_59 rfl (lv_at hl 0 rfl) ?_
    refine va_get (D := D) (ci := 12) (v := .int (i 22)) (C := RX12) (T := TX12) (N := 91) hx hb hT iX12 hown hK hP 0 rfl rfl 22 (by decide) (hT _ t_201) (fun _ h9 => h9) rfl dX12_count_60 ?_
    have hg_28 : 0 ≤ (i 22).toInt ∧ (i 22).toInt ≤ 220 := hRi 22
    subst hQ
    exact W.iret (v := i 22) hx hb hr (fun t ht hW => ⟨_, rfl, trivial, ht⟩) (fun q hq => absurd hq List.not_mem_nil) dX12_count_63
  · refine lv_tableIn (off := 63) (tgt := 64) hx hb dX12_count_1 (by omega) (by omega) (by rw [h_1]; rfl) (by decide) ?_
    refine lv_aload_n hx hb dX12_count_64 rfl (lv_at hl 0 rfl) ?_
    refine va_get (D := D) (ci := 12) (v := .int (i 63)) (C := RX12) (T := TX12) (N := 91) hx hb hT iX12 hown hK hP 0 rfl rfl 63 (by decide) (hT _ t_191) (fun _ h9 => h9) rfl dX12_count_65 ?_
    have hg_29 : 0 ≤ (i 63).toInt ∧ (i 63).toInt ≤ 40 := hRi 63
    subst hQ
    exact W.iret (v := i 63) hx hb hr (fun t ht hW => ⟨_, rfl, trivial, ht⟩) (fun q hq => absurd hq List.not_mem_nil) dX12_count_68
  · refine lv_tableIn (off := 68) (tgt := 69) hx hb dX12_count_1 (by omega) (by omega) (by rw [h_1]; rfl) (by decide) ?_
    refine lv_aload_n hx hb dX12_count_69 rfl (lv_at hl 0 rfl) ?_
    refine va_get (D := D) (ci := 12) (v := .int (i 72)) (C := RX12) (T := TX12) (N := 91) hx hb hT iX12 hown hK hP 0 rfl rfl 72 (by decide) (hT _ t_196) (fun _ h9 => h9) rfl dX12_count_70 ?_
    have hg_30 : 0 ≤ (i 72).toInt ∧ (i 72).toInt ≤ 30 := hRi 72
    subst hQ
    exact W.iret (v := i 72) hx hb hr (fun t ht hW => ⟨_, rfl, trivial, ht⟩) (fun q hq => absurd hq List.not_mem_nil) dX12_count_73
  · refine lv_tableIn (off := 73) (tgt := 74) hx hb dX12_count_1 (by omega) (by omega) (by rw [h_1]; rfl) (by decide) ?_
    refine lv_aload_n hx hb dX12_count_74 rfl (lv_at hl 0 rfl) ?_
    refine va_get (D := D) (ci := 12) (v := .int (i 1)) (C := RX12) (T := TX12) (N := 91) hx hb hT iX12 hown hK hP 0 rfl rfl 1 (by decide) (hT _ t_181) (fun _ h9 => h9) rfl dX12_count_75 ?_
    have hg_31 : 0 ≤ (i 1).toInt ∧ (i 1).toInt ≤ 65535 := hRi 1
    subst hQ
    exact W.iret (v := i 1) hx hb hr (fun t ht hW => ⟨_, rfl, trivial, ht⟩) (fun q hq => absurd hq List.not_mem_nil) dX12_count_78
set_option maxHeartbeats 4000000 in
set_option maxRecDepth 100000 in
theorem c_X12_tapeNumber (l : Launch) (D : va_G) (cy : Nat → ClassId) (a : Nat → Nat) (i : Nat → Int32) (r : Nat → Nat → Int32) (rl : Nat → Int64) (p0 : Int32) (hRi : mRi i) (hRr : mRr r) (q0 : 0 ≤ p0.toInt ∧ p0.toInt ≤ 3) : Met l yX12_tapeNumber (Cond.code yX12_tapeNumber cX12_tapeNumber 4 (some .int) :: gT) { frames := 1, cells := 0, slots := 0, locals := 24 } (va_Pc [.ref (a 0), .int p0] (rP D cy (mW cy a i r rl))) (vp_Si (fun z => True)) 0 0 (fun _ => False) := by
  refine Met.ofQ (cc := cX12_tapeNumber) (maxL := 4) (ret := (some .int)) (by decide) rfl ?_
  intro p e s m args below meth c s₁ B hml hv Q hQ
  obtain ⟨rfl, hP, hK⟩ := hv
  have hx := B.exec
  have hb := B.bytes
  have hr := B.returns
  have hlocks := B.notSynchronized
  have hT : ∀ w ∈ gT, w.before _ s = true := fun w h => atoms_spec (ws := (Cond.code yX12_tapeNumber cX12_tapeNumber 4 (some .int) :: gT)) B.pre w (List.mem_cons_of_mem _ h)
  have hown : s.vm.findClass RX12 = some m.cls := findClass_of_methodNamed B.named
  have hl := lv_entry ([.ref (a 0), .int p0]) (n := 4) (Nat.le_of_ble_eq_true rfl)
  rw [lg_entry_eq]
  generalize (lg_sl ([.ref (a 0), .int p0]) ++ List.replicate (4 - (lg_sl ([.ref (a 0), .int p0])).length) Slot.unset).toArray = ls at hl ⊢
  have hl : lv_has ls 4 [(0, .ref (a 0)), (1, .int p0)] := hl
  have hEi : mEi [23, 24, 25, 26, 27, 28, 29, 30, 60] i i := Ei_rf
  have hEr : mEr [21, 22, 23, 24, 25, 26, 32, 33, 34, 35, 36, 37, 38, 39, 48, 49, 57, 61, 62] r r := Er_rf
  refine lv_iconst (v := 0) hx hb dX12_tapeNumber_0 (by decide) ?_
  refine lv_istore_n (lv' := [(2, .int 0), (0, .ref (a 0)), (1, .int p0)]) hx hb dX12_tapeNumber_1 rfl hl (by decide) rfl (fun ls hl => ?_)
  refine lv_iconst (v := 4) hx hb dX12_tapeNumber_2 (by decide) ?_
  refine lv_iload_n hx hb dX12_tapeNumber_3 rfl (lv_at hl 2 rfl) ?_
  refine lv_imul hx hb dX12_tapeNumber_4 ?_
  refine lv_topi (fun v_1 ev_1 => ?_)
  have hv_1 : v_1.toInt = 4 * p0.toInt := by rw [ev_1]; have := b_rg p0; exact i_mul (a := 4) (b := p0.toInt) rfl rfl (by omega) (by omega)
  refine lv_istore_n (lv' := [(3, .int v_1), (2, .int 0), (0, .ref (a 0)), (1, .int p0)]) hx hb dX12_tapeNumber_5 rfl hl (by decide) rfl (fun ls hl => ?_)
  have loop_2 : ∀ (n : Nat) (x2_3 : Int32) (x2_2 : Int32) (ls : Array Slot), (16 - x2_3.toInt).toNat < n → (0 ≤ x2_3.toInt ∧ x2_3.toInt ≤ 16) → lv_has ls 4 [(3, .int x2_3), (2, .int x2_2), (0, .ref (a 0)), (1, .int p0)] → W p l e ({ frames := 1, cells := 0, slots := 0, locals := 24 } : Room) s m ([.ref (a 0), .int p0] : List Value).toArray below meth c s.heap [] 0 0 Q (F0 m 6 ls []) := by
    intro n
    induction n with
    | zero =>
      intro x2_3 x2_2 ls hm2 hf2_0 hl
      exact absurd hm2 (by omega)
    | succ n ih2 =>
      intro x2_3 x2_2 ls hm2 hf2_0 hl
      refine lv_iload_n hx hb dX12_tapeNumber_6 rfl (lv_at hl 0 rfl) ?_
      refine lv_iconst (v := 4) hx hb dX12_tapeNumber_7 (by decide) ?_
      refine lv_iload_n hx hb dX12_tapeNumber_8 rfl (lv_at hl 3 rfl) ?_
      refine lv_imul hx hb dX12_tapeNumber_9 ?_
      refine lv_topi (fun v_3 ev_3 => ?_)
      have hv_3 : v_3.toInt = 4 * p0.toInt := by rw [ev_3]; have := b_rg p0; exact i_mul (a := 4) (b := p0.toInt) rfl rfl (by omega) (by omega)
      refine lv_iconst (v := 4) hx hb dX12_tapeNumber_10 (by decide) ?_
      refine lv_iadd hx hb dX12_tapeNumber_11 ?_
      refine lv_topi (fun v_4 ev_4 => ?_)
      have hv_4 : v_4.toInt = v_3.toInt + 4 := by rw [ev_4]; have := b_rg v_3; exact i_add (a := v_3.toInt) (b := 4) rfl rfl (by omega) (by omega)
      refine lv_icmp_ge (tgt := 37) hx hb dX12_tapeNumber_12 (by decide) (fun c_5 => ?_) (fun c_5 => ?_)
      · have c_5 : v_4.toInt ≤ x2_3.toInt := b_le c_5
        refine lv_iload_n hx hb dX12_tapeNumber_37 rfl (lv_at hl 1 rfl) ?_
        subst hQ
        exact W.iret (v := x2_2) hx hb hr (fun t ht hW => ⟨_, rfl, trivial, ht⟩) (fun q hq => absurd hq List.not_mem_nil) dX12_tapeNumber_38
      · have c_5 : x2_3.toInt < v_4.toInt := b_nle c_5
        refine lv_iload_n hx hb dX12_tapeNumber_15 rfl (lv_at hl 1 rfl) ?_
        refine lv_bipush (v := 8) hx hb dX12_tapeNumber_16 (by decide) ?_
        refine lv_ishl hx hb dX12_tapeNumber_18 ?_
        refine lv_topi (fun v_6 ev_6 => ?_)
        refine lv_aload_n hx hb dX12_tapeNumber_19 rfl (lv_at hl 2 rfl) ?_
        refine va_get (D := D) (ci := 12) (v := .ref (a 20)) (C := RX12) (T := TX12) (N := 91) hx hb hT iX12 hown hK hP 0 rfl rfl 21 (by decide) (hT _ t_200) (fun _ h9 => h9) rfl dX12_tapeNumber_20 ?_
        refine lv_iload_n hx hb dX12_tapeNumber_23 rfl (lv_at hl 0 rfl) ?_
        refine va_bald hx hb hK hP 20 1 rfl rfl (vp_inI (by omega) (by omega)) dX12_tapeNumber_24 ?_
        refine lv_topi (fun v_7 ev_7 => ?_)
        refine lv_sipush (v := 255) hx hb dX12_tapeNumber_25 (by decide) ?_
        refine lv_iand hx hb dX12_tapeNumber_28 ?_
        refine lv_topi (fun v_8 ev_8 => ?_)
        refine lv_ior hx hb dX12_tapeNumber_29 ?_
        refine lv_topi (fun v_9 ev_9 => ?_)
        refine lv_istore_n (lv' := [(2, .int v_9), (3, .int x2_3), (0, .ref (a 0)), (1, .int p0)]) hx hb dX12_tapeNumber_30 rfl hl (by decide) rfl (fun ls hl => ?_)
        obtain ⟨x_10, ex_10⟩ : ∃ y : Int32, y = x2_3 + 1 := ⟨_, rfl⟩
        refine lv_iinc (v := x_10) (lv' := [(3, .int x_10), (2, .int v_9), (0, .ref (a 0)), (1, .int p0)]) hx hb dX12_tapeNumber_31 hl (k := 1) rfl (by rw [ex_10]; rfl) (by decide) rfl (fun ls hl => ?_)
        have hx_10 : x_10.toInt = x2_3.toInt + 1 := by rw [ex_10]; have := b_rg x2_3; exact i_add (a := x2_3.toInt) (b := 1) rfl rfl (by omega) (by omega)
        refine lv_goto (tgt := 6) hx hb dX12_tapeNumber_34 (by decide) ?_
        exact ih2 x_10 v_9 _ (by first | omega | (simp only [Int.toNat]; omega)) (by first | omega | decide)    (lv_sub hl [0, 1, 2, 3] rfl)
  exact loop_2 _ v_1 0 _ (Nat.lt_succ_self _) (by first | omega | decide)    hl
set_option maxHeartbeats 4000000 in
set_option maxRecDepth 100000 in
theorem c_X12_distance (l : Launch) (D : va_G) (cy : Nat → ClassId) (a : Nat → Nat) (i : Nat → Int32) (r : Nat → Nat → Int32) (rl : Nat → Int64) (p0 p1 : Int32) (hRi : mRi i) (hRr : mRr r) (q0 : 0 ≤ p0.toInt ∧ p0.toInt ≤ 5) (q1 : 0 ≤ p1.toInt ∧ p1.toInt ≤ 5) : Met l yX12_distance (Cond.code yX12_distance cX12_distance 5 (some .int) :: gT) { frames := 2, cells := 0, slots := 0, locals := 45 } (va_Pc [.ref (a 0), .int p0, .int p1] (rP D cy (mW cy a i r rl))) (vp_Si (fun z => True)) 0 0 (fun _ => False) := by
  refine Met.ofQ (cc := cX12_distance) (maxL := 5) (ret := (some .int)) (by decide) rfl ?_
  intro p e s m args below meth c s₁ B hml hv Q hQ
  obtain ⟨rfl, hP, hK⟩ := hv
  have hx := B.exec
  have hb := B.bytes
  have hr := B.returns
  have hlocks := B.notSynchronized
  have hT : ∀ w ∈ gT, w.before _ s = true := fun w h => atoms_spec (ws := (Cond.code yX12_distance cX12_distance 5 (some .int) :: gT)) B.pre w (List.mem_cons_of_mem _ h)
  have hown : s.vm.findClass RX12 = some m.cls := findClass_of_methodNamed B.named
  have hl := lv_entry ([.ref (a 0), .int p0, .int p1]) (n := 5) (Nat.le_of_ble_eq_true rfl)
  rw [lg_entry_eq]
  generalize (lg_sl ([.ref (a 0), .int p0, .int p1]) ++ List.replicate (5 - (lg_sl ([.ref (a 0), .int p0, .int p1])).length) Slot.unset).toArray = ls at hl ⊢
  have hl : lv_has ls 5 [(0, .ref (a 0)), (1, .int p0), (2, .int p1)] := hl
  have hEi : mEi [23, 24, 25, 26, 27, 28, 29, 30, 60] i i := Ei_rf
  have hEr : mEr [21, 22, 23, 24, 25, 26, 32, 33, 34, 35, 36, 37, 38, 39, 48, 49, 57, 61, 62] r r := Er_rf
  refine lv_aload_n hx hb dX12_distance_0 rfl (lv_at hl 0 rfl) ?_
  refine lv_iload_n hx hb dX12_distance_1 rfl (lv_at hl 1 rfl) ?_
  refine vp_callSi (W.runV (As := [.int p0]) (rest := []) ⟨hx, hb, hml, hown, hT⟩ (c_X12_monthsOf l D cy a i r rl p0 hRi hRr (by omega)) (cwV 1 hT (gV t_20 t_21 t_22 t_23 t_6) rfl rfl rfl (by decide +kernel) ⟨Nat.le_of_ble_eq_true rfl, Nat.le_of_ble_eq_true rfl⟩) (rP_v hP hK (va_recv hK hP (ci := 12) (q0 := 0) rfl rfl)) rfl rfl hl.1 rfl (lv_room (Nat.le_of_ble_eq_true rfl)) dX12_distance_2 ⟨Nat.le_of_ble_eq_true rfl, Nat.le_of_ble_eq_true rfl⟩) (fun r_1 hr_1 => ?_)
  have hr_1 : -999 ≤ r_1.toInt ∧ r_1.toInt ≤ 999 := hr_1
  refine lv_aload_n hx hb dX12_distance_5 rfl (lv_at hl 0 rfl) ?_
  refine lv_iload_n hx hb dX12_distance_6 rfl (lv_at hl 2 rfl) ?_
  refine vp_callSi (W.runV (As := [.int p1]) (rest := [.int r_1]) ⟨hx, hb, hml, hown, hT⟩ (c_X12_monthsOf l D cy a i r rl p1 hRi hRr (by omega)) (cwV 1 hT (gV t_20 t_21 t_22 t_23 t_6) rfl rfl rfl (by decide +kernel) ⟨Nat.le_of_ble_eq_true rfl, Nat.le_of_ble_eq_true rfl⟩) (rP_v hP hK (va_recv hK hP (ci := 12) (q0 := 0) rfl rfl)) rfl rfl hl.1 rfl (lv_room (Nat.le_of_ble_eq_true rfl)) dX12_distance_7 ⟨Nat.le_of_ble_eq_true rfl, Nat.le_of_ble_eq_true rfl⟩) (fun r_2 hr_2 => ?_)
  have hr_2 : -999 ≤ r_2.toInt ∧ r_2.toInt ≤ 999 := hr_2
  refine lv_isub hx hb dX12_distance_10 ?_
  refine lv_topi (fun v_3 ev_3 => ?_)
  have hv_3 : v_3.toInt = r_1.toInt - r_2.toInt := by rw [ev_3]; have := b_rg r_1; have := b_rg r_2; exact i_sub (a := r_1.toInt) (b := r_2.toInt) rfl rfl (by omega) (by omega)
  refine vp_callSi (W.runS (As := [.int v_3]) (rest := []) ⟨hx, hb, hml, hown, hT⟩ (c_X12_size l v_3) (va_cwS 1 hT (gS t_220 t_221 t_222 t_6) rfl rfl rfl (by decide +kernel) ⟨Nat.le_of_ble_eq_true rfl, Nat.le_of_ble_eq_true rfl⟩) preT rfl rfl hl.1 rfl (lv_room (Nat.le_of_ble_eq_true rfl)) dX12_distance_11 ⟨Nat.le_of_ble_eq_true rfl, Nat.le_of_ble_eq_true rfl⟩) (fun r_4 hr_4 => ?_)
  refine lv_bipush (v := 12) hx hb dX12_distance_14 (by decide) ?_
  refine lv_idiv hx hb dX12_distance_16 (by decide) ?_
  refine lv_topi (fun v_5 ev_5 => ?_)
  refine lv_istore_n (lv' := [(3, .int v_5), (0, .ref (a 0)), (1, .int p0), (2, .int p1)]) hx hb dX12_distance_17 rfl hl (by decide) rfl (fun ls hl => ?_)
  refine lv_iconst (v := 0) hx hb dX12_distance_18 (by decide) ?_
  refine lv_istore (lv' := [(4, .int 0), (3, .int v_5), (0, .ref (a 0)), (1, .int p0), (2, .int p1)]) hx hb dX12_distance_19 hl (by decide) rfl (fun ls hl => ?_)
  have loop_6 : ∀ (n : Nat) (x6_4 : Int32) (x6_3 : Int32) (ls : Array Slot), (8 - x6_4.toInt).toNat < n → (0 ≤ x6_4.toInt ∧ x6_4.toInt ≤ 8) → lv_has ls 5 [(4, .int x6_4), (3, .int x6_3), (0, .ref (a 0)), (1, .int p0), (2, .int p1)] → W p l e ({ frames := 2, cells := 0, slots := 0, locals := 45 } : Room) s m ([.ref (a 0), .int p0, .int p1] : List Value).toArray below meth c s.heap [] 0 0 Q (F0 m 21 ls []) := by
    intro n
    induction n with
    | zero =>
      intro x6_4 x6_3 ls hm6 hf6_0 hl
      exact absurd hm6 (by omega)
    | succ n ih6 =>
      intro x6_4 x6_3 ls hm6 hf6_0 hl
      refine lv_iload hx hb dX12_distance_21 (lv_at hl 0 rfl) ?_
      refine lv_bipush (v := 8) hx hb dX12_distance_23 (by decide) ?_
      refine lv_icmp_ge (tgt := 68) hx hb dX12_distance_25 (by decide) (fun c_7 => ?_) (fun c_7 => ?_)
      · have c_7 : 8 ≤ x6_4.toInt := b_le c_7
        refine lv_iload_n hx hb dX12_distance_68 rfl (lv_at hl 1 rfl) ?_
        subst hQ
        exact W.iret (v := x6_3) hx hb hr (fun t ht hW => ⟨_, rfl, trivial, ht⟩) (fun q hq => absurd hq List.not_mem_nil) dX12_distance_69
      · have c_7 : x6_4.toInt < 8 := b_nle c_7
        refine lv_iload_n hx hb dX12_distance_28 rfl (lv_at hl 1 rfl) ?_
        refine lv_bipush (v := 10) hx hb dX12_distance_29 (by decide) ?_
        refine lv_aload_n hx hb dX12_distance_31 rfl (lv_at hl 2 rfl) ?_
        refine va_get (D := D) (ci := 12) (v := .ref (a 57)) (C := RX12) (T := TX12) (N := 91) hx hb hT iX12 hown hK hP 0 rfl rfl 71 (by decide) (hT _ t_223) (fun _ h9 => h9) rfl dX12_distance_32 ?_
        refine lv_bipush (v := 8) hx hb dX12_distance_35 (by decide) ?_
        refine lv_iload_n hx hb dX12_distance_37 rfl (lv_at hl 3 rfl) ?_
        refine lv_imul hx hb dX12_distance_38 ?_
        refine lv_topi (fun v_8 ev_8 => ?_)
        have hv_8 : v_8.toInt = 8 * p0.toInt := by rw [ev_8]; have := b_rg p0; exact i_mul (a := 8) (b := p0.toInt) rfl rfl (by omega) (by omega)
        refine lv_iload hx hb dX12_distance_39 (lv_at hl 0 rfl) ?_
        refine lv_iadd hx hb dX12_distance_41 ?_
        refine lv_topi (fun v_9 ev_9 => ?_)
        have hv_9 : v_9.toInt = v_8.toInt + x6_4.toInt := by rw [ev_9]; have := b_rg v_8; have := b_rg x6_4; exact i_add (a := v_8.toInt) (b := x6_4.toInt) rfl rfl (by omega) (by omega)
        refine va_iald hx hb hK hP 57 0 rfl rfl (vp_inI (by omega) (by omega)) dX12_distance_42 ?_
        refine lv_topi (fun v_10 ev_10 => ?_)
        refine lv_aload_n hx hb dX12_distance_43 rfl (lv_at hl 2 rfl) ?_
        refine va_get (D := D) (ci := 12) (v := .ref (a 57)) (C := RX12) (T := TX12) (N := 91) hx hb hT iX12 hown hK hP 0 rfl rfl 71 (by decide) (hT _ t_223) (fun _ h9 => h9) rfl dX12_distance_44 ?_
        refine lv_bipush (v := 8) hx hb dX12_distance_47 (by decide) ?_
        refine lv_iload_n hx hb dX12_distance_49 rfl (lv_at hl 4 rfl) ?_
        refine lv_imul hx hb dX12_distance_50 ?_
        refine lv_topi (fun v_11 ev_11 => ?_)
        have hv_11 : v_11.toInt = 8 * p1.toInt := by rw [ev_11]; have := b_rg p1; exact i_mul (a := 8) (b := p1.toInt) rfl rfl (by omega) (by omega)
        refine lv_iload hx hb dX12_distance_51 (lv_at hl 0 rfl) ?_
        refine lv_iadd hx hb dX12_distance_53 ?_
        refine lv_topi (fun v_12 ev_12 => ?_)
        have hv_12 : v_12.toInt = v_11.toInt + x6_4.toInt := by rw [ev_12]; have := b_rg v_11; have := b_rg x6_4; exact i_add (a := v_11.toInt) (b := x6_4.toInt) rfl rfl (by omega) (by omega)
        refine va_iald hx hb hK hP 57 0 rfl rfl (vp_inI (by omega) (by omega)) dX12_distance_54 ?_
        refine lv_topi (fun v_13 ev_13 => ?_)
        refine lv_isub hx hb dX12_distance_55 ?_
        refine lv_topi (fun v_14 ev_14 => ?_)
        refine vp_callSi (W.runS (As := [.int v_14]) (rest := [.int 10, .int x6_3]) ⟨hx, hb, hml, hown, hT⟩ (c_X12_size l v_14) (va_cwS 1 hT (gS t_220 t_221 t_222 t_6) rfl rfl rfl (by decide +kernel) ⟨Nat.le_of_ble_eq_true rfl, Nat.le_of_ble_eq_true rfl⟩) preT rfl rfl hl.1 rfl (lv_room (Nat.le_of_ble_eq_true rfl)) dX12_distance_56 ⟨Nat.le_of_ble_eq_true rfl, Nat.le_of_ble_eq_true rfl⟩) (fun r_15 hr_15 => ?_)
        refine lv_imul hx hb dX12_distance_59 ?_
        refine lv_topi (fun v_16 ev_16 => ?_)
        refine lv_iadd hx hb dX12_distance_60 ?_
        refine lv_topi (fun v_17 ev_17 => ?_)
        refine lv_istore_n (lv' := [(3, .int v_17), (4, .int x6_4), (0, .ref (a 0)), (1, .int p0), (2, .int p1)]) hx hb dX12_distance_61 rfl hl (by decide) rfl (fun ls hl => ?_)
        obtain ⟨x_18, ex_18⟩ : ∃ y : Int32, y = x6_4 + 1 := ⟨_, rfl⟩
        refine lv_iinc (v := x_18) (lv' := [(4, .int x_18), (3, .int v_17), (0, .ref (a 0)), (1, .int p0), (2, .int p1)]) hx hb dX12_distance_62 hl (k := 1) rfl (by rw [ex_18]; rfl) (by decide) rfl (fun ls hl => ?_)
        have hx_18 : x_18.toInt = x6_4.toInt + 1 := by rw [ex_18]; have := b_rg x6_4; exact i_add (a := x6_4.toInt) (b := 1) rfl rfl (by omega) (by omega)
        refine lv_goto (tgt := 21) hx hb dX12_distance_65 (by decide) ?_
        exact ih6 x_18 v_17 _ (by first | omega | (simp only [Int.toNat]; omega)) (by first | omega | decide)    (lv_sub hl [0, 1, 2, 3, 4] rfl)
  exact loop_6 _ 0 v_5 _ (Nat.lt_succ_self _) (by first | omega | decide)    hl
set_option maxHeartbeats 4000000 in
set_option maxRecDepth 100000 in
theorem c_X12_laysHarmed (l : Launch) (D : va_G) (cy : Nat → ClassId) (a : Nat → Nat) (i : Nat → Int32) (r : Nat → Nat → Int32) (rl : Nat → Int64) (sz : Nat) (hRi : mRi i) (hRr : mRr r) : Met l yX12_laysHarmed (Cond.code yX12_laysHarmed cX12_laysHarmed 3 none :: gT) { frames := 5, cells := 0, slots := 0, locals := 126 } (va_Pc [.ref (a 0)] (rQ D cy (mW cy a i r rl) sz)) (va_Qv (fun u : Nat → Nat → Int32 => mRr u ∧ mEr [34, 35, 36, 37, 38, 39, 57] r u ∧ True) (fun (u : Nat → Nat → Int32) t => va_P D vwCl (mW cy a i u rl) t.heap ∧ va_K D vwCl (vT cy) t ∧ va_D (va_A (mW cy a i r rl) sz) (mW cy a i u rl)) (va_A (mW cy a i r rl) sz)) 0 0 (va_A (mW cy a i r rl) sz) := by
  refine Met.ofQ (cc := cX12_laysHarmed) (maxL := 3) (ret := none) (by decide) rfl ?_
  intro p e s m args below meth c s₁ B hml hv Q hQ
  obtain ⟨rfl, hsz, hP, hK, hD0⟩ := hv
  have hx := B.exec
  have hb := B.bytes
  have hr := B.returns
  have hlocks := B.notSynchronized
  have hT : ∀ w ∈ gT, w.before _ s = true := fun w h => atoms_spec (ws := (Cond.code yX12_laysHarmed cX12_laysHarmed 3 none :: gT)) B.pre w (List.mem_cons_of_mem _ h)
  have hown : s.vm.findClass RX12 = some m.cls := findClass_of_methodNamed B.named
  subst hsz
  have hD := hD0.self (sz := s.heap.size)
  generalize hAe : va_A (mW cy a i r rl) s.heap.size = A at hD hQ
  have hA : ∀ q : Nat, s.heap.size ≤ q → A q := fun q h => by rw [← hAe]; exact Or.inr h
  have hS : va_S A s.heap s.heap [] := va_S.rf
  have hl := lv_entry ([.ref (a 0)]) (n := 3) (Nat.le_of_ble_eq_true rfl)
  rw [lg_entry_eq]
  generalize (lg_sl ([.ref (a 0)]) ++ List.replicate (3 - (lg_sl ([.ref (a 0)])).length) Slot.unset).toArray = ls at hl ⊢
  have hl : lv_has ls 3 [(0, .ref (a 0))] := hl
  have hEi : mEi [23, 24, 25, 26, 27, 28, 29, 30, 60] i i := Ei_rf
  have hEr : mEr [34, 35, 36, 37, 38, 39, 57] r r := Er_rf
  refine lv_iconst (v := 0) hx hb dX12_laysHarmed_0 (by decide) ?_
  refine lv_istore_n (lv' := [(1, .int 0), (0, .ref (a 0))]) hx hb dX12_laysHarmed_1 rfl hl (by decide) rfl (fun ls hl => ?_)
  have loop_1 : ∀ (n : Nat) (x1_1 : Int32) (r1 : Nat → Nat → Int32) (H : Heap) (locs : List Loc) (ls : Array Slot), (48 - x1_1.toInt).toNat < n → (0 ≤ x1_1.toInt ∧ x1_1.toInt ≤ 48) → mRr r1 → mEr [34, 35, 36, 37, 38, 39, 57] r r1 → va_P D vwCl (mW cy a i r1 rl) H → va_D A (mW cy a i r1 rl) → va_S A s.heap H locs → lv_has ls 3 [(1, .int x1_1), (0, .ref (a 0))] → W p l e ({ frames := 5, cells := 0, slots := 0, locals := 126 } : Room) s m ([.ref (a 0)] : List Value).toArray below meth c H locs 0 0 Q (F0 m 2 ls []) := by
    intro n
    induction n with
    | zero =>
      intro x1_1 r1 H locs ls hm1 hf1_0 hRr hEr hP hD hS hl
      exact absurd hm1 (by omega)
    | succ n ih1 =>
      intro x1_1 r1 H locs ls hm1 hf1_0 hRr hEr hP hD hS hl
      refine lv_iload_n hx hb dX12_laysHarmed_2 rfl (lv_at hl 0 rfl) ?_
      refine lv_bipush (v := 48) hx hb dX12_laysHarmed_3 (by decide) ?_
      refine lv_icmp_ge (tgt := 21) hx hb dX12_laysHarmed_5 (by decide) (fun c_2 => ?_) (fun c_2 => ?_)
      · have c_2 : 48 ≤ x1_1.toInt := b_le c_2
        refine lv_iconst (v := 0) hx hb dX12_laysHarmed_21 (by decide) ?_
        refine lv_istore_n (lv' := [(1, .int 0), (0, .ref (a 0))]) hx hb dX12_laysHarmed_22 rfl hl (by decide) rfl (fun ls hl => ?_)
        have loop_3 : ∀ (n : Nat) (x3_1 : Int32) (r3 : Nat → Nat → Int32) (H : Heap) (locs : List Loc) (ls : Array Slot), (6 - x3_1.toInt).toNat < n → (0 ≤ x3_1.toInt ∧ x3_1.toInt ≤ 6) → mRr r3 → mEr [34, 35, 36, 37, 38, 39, 57] r r3 → va_P D vwCl (mW cy a i r3 rl) H → va_D A (mW cy a i r3 rl) → va_S A s.heap H locs → lv_has ls 3 [(1, .int x3_1), (0, .ref (a 0))] → W p l e ({ frames := 5, cells := 0, slots := 0, locals := 126 } : Room) s m ([.ref (a 0)] : List Value).toArray below meth c H locs 0 0 Q (F0 m 23 ls []) := by
          intro n
          induction n with
          | zero =>
            intro x3_1 r3 H locs ls hm3 hf3_0 hRr hEr hP hD hS hl
            exact absurd hm3 (by omega)
          | succ n ih3 =>
            intro x3_1 r3 H locs ls hm3 hf3_0 hRr hEr hP hD hS hl
            refine lv_iload_n hx hb dX12_laysHarmed_23 rfl (lv_at hl 0 rfl) ?_
            refine lv_aload_n hx hb dX12_laysHarmed_24 rfl (lv_at hl 1 rfl) ?_
            refine va_get (D := D) (ci := 12) (v := .int (i 0)) (C := RX12) (T := TX12) (N := 91) hx hb hT iX12 hown hK hP 0 rfl rfl 0 (by decide) (hT _ t_10) (fun _ h9 => h9) rfl dX12_laysHarmed_25 ?_
            have hg_4 : 0 ≤ (i 0).toInt ∧ (i 0).toInt ≤ 6 := hRi 0
            refine lv_icmp_ge (tgt := 124) hx hb dX12_laysHarmed_28 (by decide) (fun c_5 => ?_) (fun c_5 => ?_)
            · have c_5 : (i 0).toInt ≤ x3_1.toInt := b_le c_5
              subst hQ
              exact W.vret hx hb hr (fun t ht hW => ⟨⟨r3, rfl, ⟨hRr, hEr, trivial⟩, by rw [ht]; exact hP, va_K.moved hW.alike hK, hD⟩, hS.F ht⟩) hS.2.2 dX12_laysHarmed_124
            · have c_5 : x3_1.toInt < (i 0).toInt := b_nle c_5
              refine lv_aload_n hx hb dX12_laysHarmed_31 rfl (lv_at hl 1 rfl) ?_
              refine lv_iload_n hx hb dX12_laysHarmed_32 rfl (lv_at hl 0 rfl) ?_
              have hEr0 := hEr
              have hF_6 := rF hD hS hA
              refine va_callv (va_runV (As := [.int x3_1]) (rest := []) ⟨hx, hb, hml, hown, hT⟩ (c_X12_laysJoined l D cy a i r3 rl x3_1 _ hRi hRr (by omega)) (cwV 1 hT (gV t_116 t_117 t_118 t_119 t_6) rfl rfl rfl (by decide +kernel) ⟨Nat.le_of_ble_eq_true rfl, Nat.le_of_ble_eq_true rfl⟩) (rQ_v hP hK hD (va_recv hK hP (ci := 12) (q0 := 0) rfl rfl)) rfl rfl hl.1 rfl (lv_room (Nat.le_of_ble_eq_true rfl)) dX12_laysHarmed_33 ⟨Nat.le_of_ble_eq_true rfl, Nat.le_of_ble_eq_true rfl⟩) hS (fun q _ h => hF_6 q h) hF_6 (fun u_8 t H1 locs ht hvm hr_7 hB hz1 hk1 hS => ?_)
              obtain ⟨r8, rfl⟩ : ∃ z, z = u_8 := ⟨_, rfl⟩
              obtain ⟨hP, hK1, hD1⟩ := hB
              rw [ht] at hP
              have hD := hD1.weaken (fun k q _ h => hF_6 q.1 h)
              have hP : va_P D vwCl (mW cy a i r8 rl) H1 := hP
              have hD : va_D A (mW cy a i r8 rl) := hD
              obtain ⟨hRr, hE2, hr_7⟩ := hr_7
              have hRr : mRr r8 := hRr
              have hEr : mEr [34, 35, 36, 37, 38, 39, 57] _ r8 := Er_tr hEr hE2 (by decide)
              refine lv_iconst (v := 0) hx hb dX12_laysHarmed_36 (by decide) ?_
              refine lv_istore_n (lv' := [(2, .int 0), (1, .int x3_1), (0, .ref (a 0))]) hx hb dX12_laysHarmed_37 rfl hl (by decide) rfl (fun ls hl => ?_)
              have loop_9 : ∀ (n : Nat) (x9_2 : Int32) (r9 : Nat → Nat → Int32) (H : Heap) (locs : List Loc) (ls : Array Slot), (20 - x9_2.toInt).toNat < n → (0 ≤ x9_2.toInt ∧ x9_2.toInt ≤ 20) → mRr r9 → mEr [34, 35, 36, 37, 38, 39, 57] r r9 → (∀ k : Nat, (k : Int) < (r 10 x3_1.toNatClampNeg).toInt → jOK r9 k) → va_P D vwCl (mW cy a i r9 rl) H → va_D A (mW cy a i r9 rl) → va_S A s.heap H locs → lv_has ls 3 [(2, .int x9_2), (1, .int x3_1), (0, .ref (a 0))] → W p l e ({ frames := 5, cells := 0, slots := 0, locals := 126 } : Room) s m ([.ref (a 0)] : List Value).toArray below meth c H locs 0 0 Q (F0 m 38 ls []) := by
                intro n
                induction n with
                | zero =>
                  intro x9_2 r9 H locs ls hm9 hf9_0 hRr hEr hx9 hP hD hS hl
                  exact absurd hm9 (by omega)
                | succ n ih9 =>
                  intro x9_2 r9 H locs ls hm9 hf9_0 hRr hEr hx9 hP hD hS hl
                  refine lv_iload_n hx hb dX12_laysHarmed_38 rfl (lv_at hl 0 rfl) ?_
                  refine lv_aload_n hx hb dX12_laysHarmed_39 rfl (lv_at hl 2 rfl) ?_
                  refine va_get (D := D) (ci := 12) (v := .ref (a 10)) (C := RX12) (T := TX12) (N := 91) hx hb hT iX12 hown hK hP 0 rfl rfl 11 (by decide) (hT _ t_16) (fun _ h9 => h9) rfl dX12_laysHarmed_40 ?_
                  refine lv_iload_n hx hb dX12_laysHarmed_43 rfl (lv_at hl 1 rfl) ?_
                  refine va_iald hx hb hK hP 10 0 rfl rfl (vp_inI (by omega) (by omega)) dX12_laysHarmed_44 ?_
                  refine lv_topi (fun v_10 ev_10 => ?_)
                  have hgv_10 : 0 ≤ v_10.toInt ∧ v_10.toInt ≤ 20 := by rw [ev_10]; exact hRr 10 _
                  have hwv_10 : v_10.toInt = (r9 10 (x3_1.toNatClampNeg)).toInt := congrArg Int32.toInt ev_10
                  refine lv_icmp_ge (tgt := 118) hx hb dX12_laysHarmed_45 (by decide) (fun c_11 => ?_) (fun c_11 => ?_)
                  · have c_11 : v_10.toInt ≤ x9_2.toInt := b_le c_11
                    obtain ⟨x_12, ex_12⟩ : ∃ y : Int32, y = x3_1 + 1 := ⟨_, rfl⟩
                    refine lv_iinc (v := x_12) (lv' := [(1, .int x_12), (2, .int x9_2), (0, .ref (a 0))]) hx hb dX12_laysHarmed_118 hl (k := 1) rfl (by rw [ex_12]; rfl) (by decide) rfl (fun ls hl => ?_)
                    have hx_12 : x_12.toInt = x3_1.toInt + 1 := by rw [ex_12]; have := b_rg x3_1; exact i_add (a := x3_1.toInt) (b := 1) rfl rfl (by omega) (by omega)
                    refine lv_goto (tgt := 23) hx hb dX12_laysHarmed_121 (by decide) ?_
                    exact ih3 x_12 r9 _ _ _ (by first | omega | (simp only [Int.toNat]; omega)) (by first | omega | decide) hRr hEr  hP hD hS (lv_sub hl [0, 2] rfl)
                  · have c_11 : x9_2.toInt < v_10.toInt := b_nle c_11
                    refine lv_aload_n hx hb dX12_laysHarmed_48 rfl (lv_at hl 2 rfl) ?_
                    refine lv_iload_n hx hb dX12_laysHarmed_49 rfl (lv_at hl 1 rfl) ?_
                    refine lv_iload_n hx hb dX12_laysHarmed_50 rfl (lv_at hl 0 rfl) ?_
                    refine vp_callSi (W.runV (As := [.int x3_1, .int x9_2]) (rest := []) ⟨hx, hb, hml, hown, hT⟩ (c_X12_changeOf l D cy a i r9 rl x3_1 x9_2 hRi hRr (by omega) (by omega) (hx9 _ (by have h9 : x9_2.toNatClampNeg = x9_2.toInt.toNat := rfl; have h8 : (r9 10 x3_1.toNatClampNeg).toInt = (r 10 x3_1.toNatClampNeg).toInt := (by rw [hEr 10 (by decide)]); omega))) (cwV 2 hT (gV t_124 t_125 t_126 t_127 t_6) rfl rfl rfl (by decide +kernel) ⟨Nat.le_of_ble_eq_true rfl, Nat.le_of_ble_eq_true rfl⟩) (rP_v hP hK (va_recv hK hP (ci := 12) (q0 := 0) rfl rfl)) rfl rfl hl.1 rfl (lv_room (Nat.le_of_ble_eq_true rfl)) dX12_laysHarmed_51 ⟨Nat.le_of_ble_eq_true rfl, Nat.le_of_ble_eq_true rfl⟩) (fun r_13 hr_13 => ?_)
                    have hr_13 : 0 ≤ r_13.toInt ∧ r_13.toInt ≤ 3 := hr_13
                    refine lv_iconst (v := 1) hx hb dX12_laysHarmed_54 (by decide) ?_
                    refine lv_icmp_eq (tgt := 68) hx hb dX12_laysHarmed_55 (by decide) (fun c_14 => ?_) (fun c_14 => ?_)
                    · have c_14 : r_13.toInt = 1 := b_eq c_14
                      refine lv_aload_n hx hb dX12_laysHarmed_68 rfl (lv_at hl 2 rfl) ?_
                      refine va_get (D := D) (ci := 12) (v := .ref (a 57)) (C := RX12) (T := TX12) (N := 91) hx hb hT iX12 hown hK hP 0 rfl rfl 71 (by decide) (hT _ t_223) (fun _ h9 => h9) rfl dX12_laysHarmed_69 ?_
                      refine lv_bipush (v := 8) hx hb dX12_laysHarmed_72 (by decide) ?_
                      refine lv_iload_n hx hb dX12_laysHarmed_74 rfl (lv_at hl 1 rfl) ?_
                      refine lv_imul hx hb dX12_laysHarmed_75 ?_
                      refine lv_topi (fun v_15 ev_15 => ?_)
                      have hv_15 : v_15.toInt = 8 * x3_1.toInt := by rw [ev_15]; have := b_rg x3_1; exact i_mul (a := 8) (b := x3_1.toInt) rfl rfl (by omega) (by omega)
                      refine lv_aload_n hx hb dX12_laysHarmed_76 rfl (lv_at hl 2 rfl) ?_
                      refine va_get (D := D) (ci := 12) (v := .ref (a 13)) (C := RX12) (T := TX12) (N := 91) hx hb hT iX12 hown hK hP 0 rfl rfl 14 (by decide) (hT _ t_24) (fun _ h9 => h9) rfl dX12_laysHarmed_77 ?_
                      refine lv_bipush (v := 20) hx hb dX12_laysHarmed_80 (by decide) ?_
                      refine lv_iload_n hx hb dX12_laysHarmed_82 rfl (lv_at hl 1 rfl) ?_
                      refine lv_imul hx hb dX12_laysHarmed_83 ?_
                      refine lv_topi (fun v_16 ev_16 => ?_)
                      have hv_16 : v_16.toInt = 20 * x3_1.toInt := by rw [ev_16]; have := b_rg x3_1; exact i_mul (a := 20) (b := x3_1.toInt) rfl rfl (by omega) (by omega)
                      refine lv_iload_n hx hb dX12_laysHarmed_84 rfl (lv_at hl 0 rfl) ?_
                      refine lv_iadd hx hb dX12_laysHarmed_85 ?_
                      refine lv_topi (fun v_17 ev_17 => ?_)
                      have hv_17 : v_17.toInt = v_16.toInt + x9_2.toInt := by rw [ev_17]; have := b_rg v_16; have := b_rg x9_2; exact i_add (a := v_16.toInt) (b := x9_2.toInt) rfl rfl (by omega) (by omega)
                      refine va_iald hx hb hK hP 13 0 rfl rfl (vp_inI (by omega) (by omega)) dX12_laysHarmed_86 ?_
                      refine lv_topi (fun v_18 ev_18 => ?_)
                      have hgv_18 : 0 ≤ v_18.toInt ∧ v_18.toInt ≤ 7 := by rw [ev_18]; exact hRr 13 _
                      refine lv_iadd hx hb dX12_laysHarmed_87 ?_
                      refine lv_topi (fun v_19 ev_19 => ?_)
                      have hv_19 : v_19.toInt = v_15.toInt + v_18.toInt := by rw [ev_19]; have := b_rg v_15; have := b_rg v_18; exact i_add (a := v_15.toInt) (b := v_18.toInt) rfl rfl (by omega) (by omega)
                      refine lv_aload_n hx hb dX12_laysHarmed_88 rfl (lv_at hl 2 rfl) ?_
                      refine va_get (D := D) (ci := 12) (v := .ref (a 57)) (C := RX12) (T := TX12) (N := 91) hx hb hT iX12 hown hK hP 0 rfl rfl 71 (by decide) (hT _ t_223) (fun _ h9 => h9) rfl dX12_laysHarmed_89 ?_
                      refine lv_bipush (v := 8) hx hb dX12_laysHarmed_92 (by decide) ?_
                      refine lv_iload_n hx hb dX12_laysHarmed_94 rfl (lv_at hl 1 rfl) ?_
                      refine lv_imul hx hb dX12_laysHarmed_95 ?_
                      refine lv_topi (fun v_20 ev_20 => ?_)
                      have hv_20 : v_20.toInt = 8 * x3_1.toInt := by rw [ev_20]; have := b_rg x3_1; exact i_mul (a := 8) (b := x3_1.toInt) rfl rfl (by omega) (by omega)
                      refine lv_aload_n hx hb dX12_laysHarmed_96 rfl (lv_at hl 2 rfl) ?_
                      refine va_get (D := D) (ci := 12) (v := .ref (a 13)) (C := RX12) (T := TX12) (N := 91) hx hb hT iX12 hown hK hP 0 rfl rfl 14 (by decide) (hT _ t_24) (fun _ h9 => h9) rfl dX12_laysHarmed_97 ?_
                      refine lv_bipush (v := 20) hx hb dX12_laysHarmed_100 (by decide) ?_
                      refine lv_iload_n hx hb dX12_laysHarmed_102 rfl (lv_at hl 1 rfl) ?_
                      refine lv_imul hx hb dX12_laysHarmed_103 ?_
                      refine lv_topi (fun v_21 ev_21 => ?_)
                      have hv_21 : v_21.toInt = 20 * x3_1.toInt := by rw [ev_21]; have := b_rg x3_1; exact i_mul (a := 20) (b := x3_1.toInt) rfl rfl (by omega) (by omega)
                      refine lv_iload_n hx hb dX12_laysHarmed_104 rfl (lv_at hl 0 rfl) ?_
                      refine lv_iadd hx hb dX12_laysHarmed_105 ?_
                      refine lv_topi (fun v_22 ev_22 => ?_)
                      have hv_22 : v_22.toInt = v_21.toInt + x9_2.toInt := by rw [ev_22]; have := b_rg v_21; have := b_rg x9_2; exact i_add (a := v_21.toInt) (b := x9_2.toInt) rfl rfl (by omega) (by omega)
                      refine va_iald hx hb hK hP 13 0 rfl rfl (vp_inI (by omega) (by omega)) dX12_laysHarmed_106 ?_
                      refine lv_topi (fun v_23 ev_23 => ?_)
                      have hgv_23 : 0 ≤ v_23.toInt ∧ v_23.toInt ≤ 7 := by rw [ev_23]; exact hRr 13 _
                      refine lv_iadd hx hb dX12_laysHarmed_107 ?_
                      refine lv_topi (fun v_24 ev_24 => ?_)
                      have hv_24 : v_24.toInt = v_20.toInt + v_23.toInt := by rw [ev_24]; have := b_rg v_20; have := b_rg v_23; exact i_add (a := v_20.toInt) (b := v_23.toInt) rfl rfl (by omega) (by omega)
                      refine va_iald hx hb hK hP 57 0 rfl rfl (vp_inI (by omega) (by omega)) dX12_laysHarmed_108 ?_
                      refine lv_topi (fun v_25 ev_25 => ?_)
                      refine lv_iconst (v := 1) hx hb dX12_laysHarmed_109 (by decide) ?_
                      refine lv_iadd hx hb dX12_laysHarmed_110 ?_
                      refine lv_topi (fun v_26 ev_26 => ?_)
                      refine va_iast hx hb hK hP hD hS 57 0 rfl rfl (vp_inI (by omega) (by omega)) dX12_laysHarmed_111 (fun H locs hP hD hS => ?_)
                      rw [mS57] at hP hD
                      have hRr : mRr (va_up r9 57 (upd (r9 57) v_19.toNatClampNeg v_26)) := Rr_upd hRr 57 (v_19.toNatClampNeg) v_26 (b_rg _)
                      have hEr : mEr [34, 35, 36, 37, 38, 39, 57] _ (va_up r9 57 (upd (r9 57) v_19.toNatClampNeg v_26)) := Er_up hEr 57 _ (by decide)
                      obtain ⟨x_27, ex_27⟩ : ∃ y : Int32, y = x9_2 + 1 := ⟨_, rfl⟩
                      refine lv_iinc (v := x_27) (lv' := [(2, .int x_27), (1, .int x3_1), (0, .ref (a 0))]) hx hb dX12_laysHarmed_112 hl (k := 0) rfl (by rw [ex_27]; rfl) (by decide) rfl (fun ls hl => ?_)
                      have hx_27 : x_27.toInt = x9_2.toInt + 1 := by rw [ex_27]; have := b_rg x9_2; exact i_add (a := x9_2.toInt) (b := 1) rfl rfl (by omega) (by omega)
                      refine lv_goto (tgt := 38) hx hb dX12_laysHarmed_115 (by decide) ?_
                      exact ih9 x_27 (va_up r9 57 (upd (r9 57) v_19.toNatClampNeg v_26)) _ _ _ (by first | omega | (simp only [Int.toNat]; omega)) (by first | omega | decide) hRr hEr (fun k hk => jOK_ne (by decide) (hx9 k hk)) hP hD hS (lv_sub hl [0, 1, 2] rfl)
                    · have c_14 : r_13.toInt ≠ 1 := b_ne c_14
                      refine lv_aload_n hx hb dX12_laysHarmed_58 rfl (lv_at hl 2 rfl) ?_
                      refine lv_iload_n hx hb dX12_laysHarmed_59 rfl (lv_at hl 1 rfl) ?_
                      refine lv_iload_n hx hb dX12_laysHarmed_60 rfl (lv_at hl 0 rfl) ?_
                      refine vp_callSi (W.runV (As := [.int x3_1, .int x9_2]) (rest := []) ⟨hx, hb, hml, hown, hT⟩ (c_X12_changeOf l D cy a i r9 rl x3_1 x9_2 hRi hRr (by omega) (by omega) (hx9 _ (by have h9 : x9_2.toNatClampNeg = x9_2.toInt.toNat := rfl; have h8 : (r9 10 x3_1.toNatClampNeg).toInt = (r 10 x3_1.toNatClampNeg).toInt := (by rw [hEr 10 (by decide)]); omega))) (cwV 2 hT (gV t_124 t_125 t_126 t_127 t_6) rfl rfl rfl (by decide +kernel) ⟨Nat.le_of_ble_eq_true rfl, Nat.le_of_ble_eq_true rfl⟩) (rP_v hP hK (va_recv hK hP (ci := 12) (q0 := 0) rfl rfl)) rfl rfl hl.1 rfl (lv_room (Nat.le_of_ble_eq_true rfl)) dX12_laysHarmed_61 ⟨Nat.le_of_ble_eq_true rfl, Nat.le_of_ble_eq_true rfl⟩) (fun r_28 hr_28 => ?_)
                      have hr_28 : 0 ≤ r_28.toInt ∧ r_28.toInt ≤ 3 := hr_28
                      refine lv_iconst (v := 2) hx hb dX12_laysHarmed_64 (by decide) ?_
                      refine lv_icmp_ne (tgt := 112) hx hb dX12_laysHarmed_65 (by decide) (fun c_29 => ?_) (fun c_29 => ?_)
                      · have c_29 : r_28.toInt ≠ 2 := b_ne c_29
                        obtain ⟨x_30, ex_30⟩ : ∃ y : Int32, y = x9_2 + 1 := ⟨_, rfl⟩
                        refine lv_iinc (v := x_30) (lv' := [(2, .int x_30), (1, .int x3_1), (0, .ref (a 0))]) hx hb dX12_laysHarmed_112 hl (k := 0) rfl (by rw [ex_30]; rfl) (by decide) rfl (fun ls hl => ?_)
                        have hx_30 : x_30.toInt = x9_2.toInt + 1 := by rw [ex_30]; have := b_rg x9_2; exact i_add (a := x9_2.toInt) (b := 1) rfl rfl (by omega) (by omega)
                        refine lv_goto (tgt := 38) hx hb dX12_laysHarmed_115 (by decide) ?_
                        exact ih9 x_30 r9 _ _ _ (by first | omega | (simp only [Int.toNat]; omega)) (by first | omega | decide) hRr hEr hx9 hP hD hS (lv_sub hl [0, 1, 2] rfl)
                      · have c_29 : r_28.toInt = 2 := b_nne c_29
                        refine lv_aload_n hx hb dX12_laysHarmed_68 rfl (lv_at hl 2 rfl) ?_
                        refine va_get (D := D) (ci := 12) (v := .ref (a 57)) (C := RX12) (T := TX12) (N := 91) hx hb hT iX12 hown hK hP 0 rfl rfl 71 (by decide) (hT _ t_223) (fun _ h9 => h9) rfl dX12_laysHarmed_69 ?_
                        refine lv_bipush (v := 8) hx hb dX12_laysHarmed_72 (by decide) ?_
                        refine lv_iload_n hx hb dX12_laysHarmed_74 rfl (lv_at hl 1 rfl) ?_
                        refine lv_imul hx hb dX12_laysHarmed_75 ?_
                        refine lv_topi (fun v_31 ev_31 => ?_)
                        have hv_31 : v_31.toInt = 8 * x3_1.toInt := by rw [ev_31]; have := b_rg x3_1; exact i_mul (a := 8) (b := x3_1.toInt) rfl rfl (by omega) (by omega)
                        refine lv_aload_n hx hb dX12_laysHarmed_76 rfl (lv_at hl 2 rfl) ?_
                        refine va_get (D := D) (ci := 12) (v := .ref (a 13)) (C := RX12) (T := TX12) (N := 91) hx hb hT iX12 hown hK hP 0 rfl rfl 14 (by decide) (hT _ t_24) (fun _ h9 => h9) rfl dX12_laysHarmed_77 ?_
                        refine lv_bipush (v := 20) hx hb dX12_laysHarmed_80 (by decide) ?_
                        refine lv_iload_n hx hb dX12_laysHarmed_82 rfl (lv_at hl 1 rfl) ?_
                        refine lv_imul hx hb dX12_laysHarmed_83 ?_
                        refine lv_topi (fun v_32 ev_32 => ?_)
                        have hv_32 : v_32.toInt = 20 * x3_1.toInt := by rw [ev_32]; have := b_rg x3_1; exact i_mul (a := 20) (b := x3_1.toInt) rfl rfl (by omega) (by omega)
                        refine lv_iload_n hx hb dX12_laysHarmed_84 rfl (lv_at hl 0 rfl) ?_
                        refine lv_iadd hx hb dX12_laysHarmed_85 ?_
                        refine lv_topi (fun v_33 ev_33 => ?_)
                        have hv_33 : v_33.toInt = v_32.toInt + x9_2.toInt := by rw [ev_33]; have := b_rg v_32; have := b_rg x9_2; exact i_add (a := v_32.toInt) (b := x9_2.toInt) rfl rfl (by omega) (by omega)
                        refine va_iald hx hb hK hP 13 0 rfl rfl (vp_inI (by omega) (by omega)) dX12_laysHarmed_86 ?_
                        refine lv_topi (fun v_34 ev_34 => ?_)
                        have hgv_34 : 0 ≤ v_34.toInt ∧ v_34.toInt ≤ 7 := by rw [ev_34]; exact hRr 13 _
                        refine lv_iadd hx hb dX12_laysHarmed_87 ?_
                        refine lv_topi (fun v_35 ev_35 => ?_)
                        have hv_35 : v_35.toInt = v_31.toInt + v_34.toInt := by rw [ev_35]; have := b_rg v_31; have := b_rg v_34; exact i_add (a := v_31.toInt) (b := v_34.toInt) rfl rfl (by omega) (by omega)
                        refine lv_aload_n hx hb dX12_laysHarmed_88 rfl (lv_at hl 2 rfl) ?_
                        refine va_get (D := D) (ci := 12) (v := .ref (a 57)) (C := RX12) (T := TX12) (N := 91) hx hb hT iX12 hown hK hP 0 rfl rfl 71 (by decide) (hT _ t_223) (fun _ h9 => h9) rfl dX12_laysHarmed_89 ?_
                        refine lv_bipush (v := 8) hx hb dX12_laysHarmed_92 (by decide) ?_
                        refine lv_iload_n hx hb dX12_laysHarmed_94 rfl (lv_at hl 1 rfl) ?_
                        refine lv_imul hx hb dX12_laysHarmed_95 ?_
                        refine lv_topi (fun v_36 ev_36 => ?_)
                        have hv_36 : v_36.toInt = 8 * x3_1.toInt := by rw [ev_36]; have := b_rg x3_1; exact i_mul (a := 8) (b := x3_1.toInt) rfl rfl (by omega) (by omega)
                        refine lv_aload_n hx hb dX12_laysHarmed_96 rfl (lv_at hl 2 rfl) ?_
                        refine va_get (D := D) (ci := 12) (v := .ref (a 13)) (C := RX12) (T := TX12) (N := 91) hx hb hT iX12 hown hK hP 0 rfl rfl 14 (by decide) (hT _ t_24) (fun _ h9 => h9) rfl dX12_laysHarmed_97 ?_
                        refine lv_bipush (v := 20) hx hb dX12_laysHarmed_100 (by decide) ?_
                        refine lv_iload_n hx hb dX12_laysHarmed_102 rfl (lv_at hl 1 rfl) ?_
                        refine lv_imul hx hb dX12_laysHarmed_103 ?_
                        refine lv_topi (fun v_37 ev_37 => ?_)
                        have hv_37 : v_37.toInt = 20 * x3_1.toInt := by rw [ev_37]; have := b_rg x3_1; exact i_mul (a := 20) (b := x3_1.toInt) rfl rfl (by omega) (by omega)
                        refine lv_iload_n hx hb dX12_laysHarmed_104 rfl (lv_at hl 0 rfl) ?_
                        refine lv_iadd hx hb dX12_laysHarmed_105 ?_
                        refine lv_topi (fun v_38 ev_38 => ?_)
                        have hv_38 : v_38.toInt = v_37.toInt + x9_2.toInt := by rw [ev_38]; have := b_rg v_37; have := b_rg x9_2; exact i_add (a := v_37.toInt) (b := x9_2.toInt) rfl rfl (by omega) (by omega)
                        refine va_iald hx hb hK hP 13 0 rfl rfl (vp_inI (by omega) (by omega)) dX12_laysHarmed_106 ?_
                        refine lv_topi (fun v_39 ev_39 => ?_)
                        have hgv_39 : 0 ≤ v_39.toInt ∧ v_39.toInt ≤ 7 := by rw [ev_39]; exact hRr 13 _
                        refine lv_iadd hx hb dX12_laysHarmed_107 ?_
                        refine lv_topi (fun v_40 ev_40 => ?_)
                        have hv_40 : v_40.toInt = v_36.toInt + v_39.toInt := by rw [ev_40]; have := b_rg v_36; have := b_rg v_39; exact i_add (a := v_36.toInt) (b := v_39.toInt) rfl rfl (by omega) (by omega)
                        refine va_iald hx hb hK hP 57 0 rfl rfl (vp_inI (by omega) (by omega)) dX12_laysHarmed_108 ?_
                        refine lv_topi (fun v_41 ev_41 => ?_)
                        refine lv_iconst (v := 1) hx hb dX12_laysHarmed_109 (by decide) ?_
                        refine lv_iadd hx hb dX12_laysHarmed_110 ?_
                        refine lv_topi (fun v_42 ev_42 => ?_)
                        refine va_iast hx hb hK hP hD hS 57 0 rfl rfl (vp_inI (by omega) (by omega)) dX12_laysHarmed_111 (fun H locs hP hD hS => ?_)
                        rw [mS57] at hP hD
                        have hRr : mRr (va_up r9 57 (upd (r9 57) v_35.toNatClampNeg v_42)) := Rr_upd hRr 57 (v_35.toNatClampNeg) v_42 (b_rg _)
                        have hEr : mEr [34, 35, 36, 37, 38, 39, 57] _ (va_up r9 57 (upd (r9 57) v_35.toNatClampNeg v_42)) := Er_up hEr 57 _ (by decide)
                        obtain ⟨x_43, ex_43⟩ : ∃ y : Int32, y = x9_2 + 1 := ⟨_, rfl⟩
                        refine lv_iinc (v := x_43) (lv' := [(2, .int x_43), (1, .int x3_1), (0, .ref (a 0))]) hx hb dX12_laysHarmed_112 hl (k := 0) rfl (by rw [ex_43]; rfl) (by decide) rfl (fun ls hl => ?_)
                        have hx_43 : x_43.toInt = x9_2.toInt + 1 := by rw [ex_43]; have := b_rg x9_2; exact i_add (a := x9_2.toInt) (b := 1) rfl rfl (by omega) (by omega)
                        refine lv_goto (tgt := 38) hx hb dX12_laysHarmed_115 (by decide) ?_
                        exact ih9 x_43 (va_up r9 57 (upd (r9 57) v_35.toNatClampNeg v_42)) _ _ _ (by first | omega | (simp only [Int.toNat]; omega)) (by first | omega | decide) hRr hEr (fun k hk => jOK_ne (by decide) (hx9 k hk)) hP hD hS (lv_sub hl [0, 1, 2] rfl)
              exact loop_9 _ 0 r8 _ _ _ (Nat.lt_succ_self _) (by first | omega | decide) hRr hEr (fun k hk => hr_7 k (by rw [hEr0 10 (by decide)]; exact hk)) hP hD hS hl
        exact loop_3 _ 0 r1 _ _ _ (Nat.lt_succ_self _) (by first | omega | decide) hRr hEr  hP hD hS hl
      · have c_2 : x1_1.toInt < 48 := b_nle c_2
        refine lv_aload_n hx hb dX12_laysHarmed_8 rfl (lv_at hl 1 rfl) ?_
        refine va_get (D := D) (ci := 12) (v := .ref (a 57)) (C := RX12) (T := TX12) (N := 91) hx hb hT iX12 hown hK hP 0 rfl rfl 71 (by decide) (hT _ t_223) (fun _ h9 => h9) rfl dX12_laysHarmed_9 ?_
        refine lv_iload_n hx hb dX12_laysHarmed_12 rfl (lv_at hl 0 rfl) ?_
        refine lv_iconst (v := 0) hx hb dX12_laysHarmed_13 (by decide) ?_
        refine va_iast hx hb hK hP hD hS 57 0 rfl rfl (vp_inI (by omega) (by omega)) dX12_laysHarmed_14 (fun H locs hP hD hS => ?_)
        rw [mS57] at hP hD
        have hRr : mRr (va_up r1 57 (upd (r1 57) x1_1.toNatClampNeg 0)) := Rr_upd hRr 57 (x1_1.toNatClampNeg) 0 (b_rg _)
        have hEr : mEr [34, 35, 36, 37, 38, 39, 57] _ (va_up r1 57 (upd (r1 57) x1_1.toNatClampNeg 0)) := Er_up hEr 57 _ (by decide)
        obtain ⟨x_44, ex_44⟩ : ∃ y : Int32, y = x1_1 + 1 := ⟨_, rfl⟩
        refine lv_iinc (v := x_44) (lv' := [(1, .int x_44), (0, .ref (a 0))]) hx hb dX12_laysHarmed_15 hl (k := 0) rfl (by rw [ex_44]; rfl) (by decide) rfl (fun ls hl => ?_)
        have hx_44 : x_44.toInt = x1_1.toInt + 1 := by rw [ex_44]; have := b_rg x1_1; exact i_add (a := x1_1.toInt) (b := 1) rfl rfl (by omega) (by omega)
        refine lv_goto (tgt := 2) hx hb dX12_laysHarmed_18 (by decide) ?_
        exact ih1 x_44 (va_up r1 57 (upd (r1 57) x1_1.toNatClampNeg 0)) _ _ _ (by first | omega | (simp only [Int.toNat]; omega)) (by first | omega | decide) hRr hEr  hP hD hS (lv_sub hl [0, 1] rfl)
  exact loop_1 _ 0 r _ _ _ (Nat.lt_succ_self _) (by first | omega | decide) hRr hEr  hP hD hS hl
set_option maxHeartbeats 4000000 in
set_option maxRecDepth 100000 in
theorem c_X12_like (l : Launch) (D : va_G) (cy : Nat → ClassId) (a : Nat → Nat) (i : Nat → Int32) (r : Nat → Nat → Int32) (rl : Nat → Int64) (p0 p1 : Int32) (sz : Nat) (hRi : mRi i) (hRr : mRr r) : Met l yX12_like (Cond.code yX12_like cX12_like 5 (some .int) :: gT) { frames := 6, cells := 0, slots := 0, locals := 148 } (va_Pc [.ref (a 0), .int p0, .int p1] (rQ D cy (mW cy a i r rl) sz)) (va_Qi (fun (z : Int32) (u : Nat → Nat → Int32) => mRr u ∧ mEr [34, 35, 36, 37, 38, 39, 57] r u ∧ True) (fun (u : Nat → Nat → Int32) t => va_P D vwCl (mW cy a i u rl) t.heap ∧ va_K D vwCl (vT cy) t ∧ va_D (va_A (mW cy a i r rl) sz) (mW cy a i u rl)) (va_A (mW cy a i r rl) sz)) 0 0 (va_A (mW cy a i r rl) sz) := by
  refine Met.ofQ (cc := cX12_like) (maxL := 5) (ret := (some .int)) (by decide) rfl ?_
  intro p e s m args below meth c s₁ B hml hv Q hQ
  obtain ⟨rfl, hsz, hP, hK, hD0⟩ := hv
  have hx := B.exec
  have hb := B.bytes
  have hr := B.returns
  have hlocks := B.notSynchronized
  have hT : ∀ w ∈ gT, w.before _ s = true := fun w h => atoms_spec (ws := (Cond.code yX12_like cX12_like 5 (some .int) :: gT)) B.pre w (List.mem_cons_of_mem _ h)
  have hown : s.vm.findClass RX12 = some m.cls := findClass_of_methodNamed B.named
  subst hsz
  have hD := hD0.self (sz := s.heap.size)
  generalize hAe : va_A (mW cy a i r rl) s.heap.size = A at hD hQ
  have hA : ∀ q : Nat, s.heap.size ≤ q → A q := fun q h => by rw [← hAe]; exact Or.inr h
  have hS : va_S A s.heap s.heap [] := va_S.rf
  have hl := lv_entry ([.ref (a 0), .int p0, .int p1]) (n := 5) (Nat.le_of_ble_eq_true rfl)
  rw [lg_entry_eq]
  generalize (lg_sl ([.ref (a 0), .int p0, .int p1]) ++ List.replicate (5 - (lg_sl ([.ref (a 0), .int p0, .int p1])).length) Slot.unset).toArray = ls at hl ⊢
  have hl : lv_has ls 5 [(0, .ref (a 0)), (1, .int p0), (2, .int p1)] := hl
  have hEi : mEi [] i i := Ei_rf
  have hEr : mEr [34, 35, 36, 37, 38, 39, 57] r r := Er_rf
  refine lv_aload_n hx hb dX12_like_0 rfl (lv_at hl 0 rfl) ?_
  refine lv_iload_n hx hb dX12_like_1 rfl (lv_at hl 1 rfl) ?_
  refine vp_callSi (W.runV (As := [.int p0]) (rest := []) ⟨hx, hb, hml, hown, hT⟩ (c_X12_isHome l D cy a i r rl p0 hRi hRr) (cwV 1 hT (gV t_12 t_13 t_14 t_15 t_6) rfl rfl rfl (by decide +kernel) ⟨Nat.le_of_ble_eq_true rfl, Nat.le_of_ble_eq_true rfl⟩) (rP_v hP hK (va_recv hK hP (ci := 12) (q0 := 0) rfl rfl)) rfl rfl hl.1 rfl (lv_room (Nat.le_of_ble_eq_true rfl)) dX12_like_2 ⟨Nat.le_of_ble_eq_true rfl, Nat.le_of_ble_eq_true rfl⟩) (fun r_1 hr_1 => ?_)
  have hg_2 : 0 ≤ (i 0).toInt ∧ (i 0).toInt ≤ 6 := hRi 0
  have hr_1 : BR r_1 (0 ≤ p0.toInt ∧ p0.toInt < (i 0).toInt) 1 0 := hr_1
  rcases hr_1 with ⟨rfl, h_3⟩ | ⟨rfl, h_3⟩
  · skip
    refine lv_if_eq (tgt := 17) hx hb dX12_like_5 (by decide) (fun c_4 => absurd c_4 (by decide)) (fun c_4 => ?_)
    refine lv_iload_n hx hb dX12_like_8 rfl (lv_at hl 2 rfl) ?_
    refine lv_iconst (v := 0) hx hb dX12_like_9 (by decide) ?_
    refine lv_iconst (v := 1) hx hb dX12_like_10 (by decide) ?_
    refine vp_callSi (W.runS (As := [.int p1, .int 0, .int 1]) (rest := []) ⟨hx, hb, hml, hown, hT⟩ (c_X12_in l p1 0 1) (va_cwS 3 hT (gS t_113 t_114 t_115 t_6) rfl rfl rfl (by decide +kernel) ⟨Nat.le_of_ble_eq_true rfl, Nat.le_of_ble_eq_true rfl⟩) preT rfl rfl hl.1 rfl (lv_room (Nat.le_of_ble_eq_true rfl)) dX12_like_11 ⟨Nat.le_of_ble_eq_true rfl, Nat.le_of_ble_eq_true rfl⟩) (fun r_5 hr_5 => ?_)
    have hr_5 : BR r_5 (0 ≤ p1.toInt ∧ p1.toInt ≤ 1) 1 0 := hr_5
    rcases hr_5 with ⟨rfl, h_6⟩ | ⟨rfl, h_6⟩
    · skip
      refine lv_if_ne (tgt := 19) hx hb dX12_like_14 (by decide) (fun c_7 => ?_) (fun c_7 => absurd c_7 (by decide))
      refine lv_aload_n hx hb dX12_like_19 rfl (lv_at hl 0 rfl) ?_
      refine va_get (D := D) (ci := 12) (v := .int (i 0)) (C := RX12) (T := TX12) (N := 91) hx hb hT iX12 hown hK hP 0 rfl rfl 0 (by decide) (hT _ t_10) (fun _ h9 => h9) rfl dX12_like_20 ?_
      refine lv_iconst (v := 1) hx hb dX12_like_23 (by decide) ?_
      refine lv_icmp_ne (tgt := 30) hx hb dX12_like_24 (by decide) (fun c_8 => ?_) (fun c_8 => ?_)
      · have c_8 : (i 0).toInt ≠ 1 := b_ne c_8
        refine lv_aload_n hx hb dX12_like_30 rfl (lv_at hl 0 rfl) ?_
        have hF_9 := rF hD hS hA
        refine va_callv (va_runV (As := []) (rest := []) ⟨hx, hb, hml, hown, hT⟩ (c_X12_laysHarmed l D cy a i r rl _ hRi hRr) (cwV 0 hT (gV t_224 t_225 t_226 t_227 t_6) rfl rfl rfl (by decide +kernel) ⟨Nat.le_of_ble_eq_true rfl, Nat.le_of_ble_eq_true rfl⟩) (rQ_v hP hK hD (va_recv hK hP (ci := 12) (q0 := 0) rfl rfl)) rfl rfl hl.1 rfl (lv_room (Nat.le_of_ble_eq_true rfl)) dX12_like_31 ⟨Nat.le_of_ble_eq_true rfl, Nat.le_of_ble_eq_true rfl⟩) hS (fun q _ h => hF_9 q h) hF_9 (fun u_11 t H1 locs ht hvm hr_10 hB hz1 hk1 hS => ?_)
        obtain ⟨r11, rfl⟩ : ∃ z, z = u_11 := ⟨_, rfl⟩
        obtain ⟨hP, hK1, hD1⟩ := hB
        rw [ht] at hP
        have hD := hD1.weaken (fun k q _ h => hF_9 q.1 h)
        have hP : va_P D vwCl (mW cy a i r11 rl) H1 := hP
        have hD : va_D A (mW cy a i r11 rl) := hD
        obtain ⟨hRr, hE2, hr_10⟩ := hr_10
        have hRr : mRr r11 := hRr
        have hEr : mEr [34, 35, 36, 37, 38, 39, 57] _ r11 := Er_tr hEr hE2 (by decide)
        refine lv_iconst (v := (-1)) hx hb dX12_like_34 (by decide) ?_
        refine lv_istore_n (lv' := [(3, .int (-1)), (0, .ref (a 0)), (1, .int p0), (2, .int p1)]) hx hb dX12_like_35 rfl hl (by decide) rfl (fun ls hl => ?_)
        refine lv_iconst (v := 0) hx hb dX12_like_36 (by decide) ?_
        refine lv_istore (lv' := [(4, .int 0), (3, .int (-1)), (0, .ref (a 0)), (1, .int p0), (2, .int p1)]) hx hb dX12_like_37 hl (by decide) rfl (fun ls hl => ?_)
        have loop_12 : ∀ (n : Nat) (x12_4 : Int32) (x12_3 : Int32) (H : Heap) (locs : List Loc) (ls : Array Slot), (6 - x12_4.toInt).toNat < n → (0 ≤ x12_4.toInt ∧ x12_4.toInt ≤ 6) → (-1 ≤ x12_3.toInt ∧ x12_3.toInt ≤ 5) → ((2 ≤ x12_4.toInt → 0 ≤ x12_3.toInt) ∧ (1 ≤ x12_4.toInt ∧ p0.toInt ≠ 0 → 0 ≤ x12_3.toInt)) → va_P D vwCl (mW cy a i r11 rl) H → va_D A (mW cy a i r11 rl) → va_S A s.heap H locs → lv_has ls 5 [(4, .int x12_4), (3, .int x12_3), (0, .ref (a 0)), (1, .int p0), (2, .int p1)] → W p l e ({ frames := 6, cells := 0, slots := 0, locals := 148 } : Room) s m ([.ref (a 0), .int p0, .int p1] : List Value).toArray below meth c H locs 0 0 Q (F0 m 39 ls []) := by
          intro n
          induction n with
          | zero =>
            intro x12_4 x12_3 H locs ls hm12 hf12_0 hf12_1 hx12 hP hD hS hl
            exact absurd hm12 (by omega)
          | succ n ih12 =>
            intro x12_4 x12_3 H locs ls hm12 hf12_0 hf12_1 hx12 hP hD hS hl
            refine lv_iload hx hb dX12_like_39 (lv_at hl 0 rfl) ?_
            refine lv_aload_n hx hb dX12_like_41 rfl (lv_at hl 2 rfl) ?_
            refine va_get (D := D) (ci := 12) (v := .int (i 0)) (C := RX12) (T := TX12) (N := 91) hx hb hT iX12 hown hK hP 0 rfl rfl 0 (by decide) (hT _ t_10) (fun _ h9 => h9) rfl dX12_like_42 ?_
            refine lv_icmp_ge (tgt := 84) hx hb dX12_like_45 (by decide) (fun c_13 => ?_) (fun c_13 => ?_)
            · have c_13 : (i 0).toInt ≤ x12_4.toInt := b_le c_13
              refine lv_iload_n hx hb dX12_like_84 rfl (lv_at hl 4 rfl) ?_
              refine lv_if_ne (tgt := 92) hx hb dX12_like_85 (by decide) (fun c_14 => ?_) (fun c_14 => ?_)
              · have c_14 : p1.toInt ≠ 0 := b_ne c_14
                refine lv_aload_n hx hb dX12_like_92 rfl (lv_at hl 2 rfl) ?_
                refine lv_iload_n hx hb dX12_like_93 rfl (lv_at hl 3 rfl) ?_
                refine lv_iload_n hx hb dX12_like_94 rfl (lv_at hl 1 rfl) ?_
                refine vp_callSi (W.runV (As := [.int p0, .int x12_3]) (rest := []) ⟨hx, hb, hml, hown, hT⟩ (c_X12_distance l D cy a i r11 rl p0 x12_3 hRi hRr (by omega) (by omega)) (cwV 2 hT (gV t_228 t_229 t_230 t_231 t_6) rfl rfl rfl (by decide +kernel) ⟨Nat.le_of_ble_eq_true rfl, Nat.le_of_ble_eq_true rfl⟩) (rP_v hP hK (va_recv hK hP (ci := 12) (q0 := 0) rfl rfl)) rfl rfl hl.1 rfl (lv_room (Nat.le_of_ble_eq_true rfl)) dX12_like_95 ⟨Nat.le_of_ble_eq_true rfl, Nat.le_of_ble_eq_true rfl⟩) (fun r_15 hr_15 => ?_)
                subst hQ
                exact W.iret (v := r_15) hx hb hr (fun t ht hW => ⟨⟨_, r11, rfl, ⟨hRr, hEr, trivial⟩, by rw [ht]; exact hP, va_K.moved hW.alike hK, hD⟩, hS.F ht⟩) hS.2.2 dX12_like_98
              · have c_14 : p1.toInt = 0 := b_nne c_14
                refine lv_iload_n hx hb dX12_like_88 rfl (lv_at hl 1 rfl) ?_
                refine lv_goto (tgt := 98) hx hb dX12_like_89 (by decide) ?_
                subst hQ
                exact W.iret (v := x12_3) hx hb hr (fun t ht hW => ⟨⟨_, r11, rfl, ⟨hRr, hEr, trivial⟩, by rw [ht]; exact hP, va_K.moved hW.alike hK, hD⟩, hS.F ht⟩) hS.2.2 dX12_like_98
            · have c_13 : x12_4.toInt < (i 0).toInt := b_nle c_13
              refine lv_iload hx hb dX12_like_48 (lv_at hl 0 rfl) ?_
              refine lv_iload_n hx hb dX12_like_50 rfl (lv_at hl 3 rfl) ?_
              refine lv_icmp_eq (tgt := 78) hx hb dX12_like_51 (by decide) (fun c_16 => ?_) (fun c_16 => ?_)
              · have c_16 : x12_4.toInt = p0.toInt := b_eq c_16
                obtain ⟨x_17, ex_17⟩ : ∃ y : Int32, y = x12_4 + 1 := ⟨_, rfl⟩
                refine lv_iinc (v := x_17) (lv' := [(4, .int x_17), (3, .int x12_3), (0, .ref (a 0)), (1, .int p0), (2, .int p1)]) hx hb dX12_like_78 hl (k := 0) rfl (by rw [ex_17]; rfl) (by decide) rfl (fun ls hl => ?_)
                have hx_17 : x_17.toInt = x12_4.toInt + 1 := by rw [ex_17]; have := b_rg x12_4; exact i_add (a := x12_4.toInt) (b := 1) rfl rfl (by omega) (by omega)
                refine lv_goto (tgt := 39) hx hb dX12_like_81 (by decide) ?_
                exact ih12 x_17 x12_3 _ _ _ (by first | omega | (simp only [Int.toNat]; omega)) (by first | omega | decide) (by first | omega | decide)  (by omega) hP hD hS (lv_sub hl [0, 1, 2, 3, 4] rfl)
              · have c_16 : x12_4.toInt ≠ p0.toInt := b_ne c_16
                refine lv_iload_n hx hb dX12_like_54 rfl (lv_at hl 1 rfl) ?_
                refine lv_iconst (v := (-1)) hx hb dX12_like_55 (by decide) ?_
                refine lv_icmp_eq (tgt := 75) hx hb dX12_like_56 (by decide) (fun c_18 => ?_) (fun c_18 => ?_)
                · have c_18 : x12_3.toInt = (-1) := b_eq c_18
                  refine lv_iload hx hb dX12_like_75 (lv_at hl 0 rfl) ?_
                  refine lv_istore_n (lv' := [(3, .int x12_4), (4, .int x12_4), (0, .ref (a 0)), (1, .int p0), (2, .int p1)]) hx hb dX12_like_77 rfl hl (by decide) rfl (fun ls hl => ?_)
                  obtain ⟨x_19, ex_19⟩ : ∃ y : Int32, y = x12_4 + 1 := ⟨_, rfl⟩
                  refine lv_iinc (v := x_19) (lv' := [(4, .int x_19), (3, .int x12_4), (0, .ref (a 0)), (1, .int p0), (2, .int p1)]) hx hb dX12_like_78 hl (k := 1) rfl (by rw [ex_19]; rfl) (by decide) rfl (fun ls hl => ?_)
                  have hx_19 : x_19.toInt = x12_4.toInt + 1 := by rw [ex_19]; have := b_rg x12_4; exact i_add (a := x12_4.toInt) (b := 1) rfl rfl (by omega) (by omega)
                  refine lv_goto (tgt := 39) hx hb dX12_like_81 (by decide) ?_
                  exact ih12 x_19 x12_4 _ _ _ (by first | omega | (simp only [Int.toNat]; omega)) (by first | omega | decide) (by first | omega | decide)  (by omega) hP hD hS (lv_sub hl [0, 1, 2, 3, 4] rfl)
                · have c_18 : x12_3.toInt ≠ (-1) := b_ne c_18
                  refine lv_aload_n hx hb dX12_like_59 rfl (lv_at hl 2 rfl) ?_
                  refine lv_iload_n hx hb dX12_like_60 rfl (lv_at hl 3 rfl) ?_
                  refine lv_iload hx hb dX12_like_61 (lv_at hl 0 rfl) ?_
                  refine vp_callSi (W.runV (As := [.int p0, .int x12_4]) (rest := []) ⟨hx, hb, hml, hown, hT⟩ (c_X12_distance l D cy a i r11 rl p0 x12_4 hRi hRr (by omega) (by omega)) (cwV 2 hT (gV t_228 t_229 t_230 t_231 t_6) rfl rfl rfl (by decide +kernel) ⟨Nat.le_of_ble_eq_true rfl, Nat.le_of_ble_eq_true rfl⟩) (rP_v hP hK (va_recv hK hP (ci := 12) (q0 := 0) rfl rfl)) rfl rfl hl.1 rfl (lv_room (Nat.le_of_ble_eq_true rfl)) dX12_like_63 ⟨Nat.le_of_ble_eq_true rfl, Nat.le_of_ble_eq_true rfl⟩) (fun r_20 hr_20 => ?_)
                  refine lv_aload_n hx hb dX12_like_66 rfl (lv_at hl 2 rfl) ?_
                  refine lv_iload_n hx hb dX12_like_67 rfl (lv_at hl 3 rfl) ?_
                  refine lv_iload_n hx hb dX12_like_68 rfl (lv_at hl 1 rfl) ?_
                  refine vp_callSi (W.runV (As := [.int p0, .int x12_3]) (rest := [.int r_20]) ⟨hx, hb, hml, hown, hT⟩ (c_X12_distance l D cy a i r11 rl p0 x12_3 hRi hRr (by omega) (by omega)) (cwV 2 hT (gV t_228 t_229 t_230 t_231 t_6) rfl rfl rfl (by decide +kernel) ⟨Nat.le_of_ble_eq_true rfl, Nat.le_of_ble_eq_true rfl⟩) (rP_v hP hK (va_recv hK hP (ci := 12) (q0 := 0) rfl rfl)) rfl rfl hl.1 rfl (lv_room (Nat.le_of_ble_eq_true rfl)) dX12_like_69 ⟨Nat.le_of_ble_eq_true rfl, Nat.le_of_ble_eq_true rfl⟩) (fun r_21 hr_21 => ?_)
                  refine lv_icmp_ge (tgt := 78) hx hb dX12_like_72 (by decide) (fun c_22 => ?_) (fun c_22 => ?_)
                  · have c_22 : r_21.toInt ≤ r_20.toInt := b_le c_22
                    obtain ⟨x_23, ex_23⟩ : ∃ y : Int32, y = x12_4 + 1 := ⟨_, rfl⟩
                    refine lv_iinc (v := x_23) (lv' := [(4, .int x_23), (3, .int x12_3), (0, .ref (a 0)), (1, .int p0), (2, .int p1)]) hx hb dX12_like_78 hl (k := 0) rfl (by rw [ex_23]; rfl) (by decide) rfl (fun ls hl => ?_)
                    have hx_23 : x_23.toInt = x12_4.toInt + 1 := by rw [ex_23]; have := b_rg x12_4; exact i_add (a := x12_4.toInt) (b := 1) rfl rfl (by omega) (by omega)
                    refine lv_goto (tgt := 39) hx hb dX12_like_81 (by decide) ?_
                    exact ih12 x_23 x12_3 _ _ _ (by first | omega | (simp only [Int.toNat]; omega)) (by first | omega | decide) (by first | omega | decide)  (by omega) hP hD hS (lv_sub hl [0, 1, 2, 3, 4] rfl)
                  · have c_22 : r_20.toInt < r_21.toInt := b_nle c_22
                    refine lv_iload hx hb dX12_like_75 (lv_at hl 0 rfl) ?_
                    refine lv_istore_n (lv' := [(3, .int x12_4), (4, .int x12_4), (0, .ref (a 0)), (1, .int p0), (2, .int p1)]) hx hb dX12_like_77 rfl hl (by decide) rfl (fun ls hl => ?_)
                    obtain ⟨x_24, ex_24⟩ : ∃ y : Int32, y = x12_4 + 1 := ⟨_, rfl⟩
                    refine lv_iinc (v := x_24) (lv' := [(4, .int x_24), (3, .int x12_4), (0, .ref (a 0)), (1, .int p0), (2, .int p1)]) hx hb dX12_like_78 hl (k := 1) rfl (by rw [ex_24]; rfl) (by decide) rfl (fun ls hl => ?_)
                    have hx_24 : x_24.toInt = x12_4.toInt + 1 := by rw [ex_24]; have := b_rg x12_4; exact i_add (a := x12_4.toInt) (b := 1) rfl rfl (by omega) (by omega)
                    refine lv_goto (tgt := 39) hx hb dX12_like_81 (by decide) ?_
                    exact ih12 x_24 x12_4 _ _ _ (by first | omega | (simp only [Int.toNat]; omega)) (by first | omega | decide) (by first | omega | decide)  (by omega) hP hD hS (lv_sub hl [0, 1, 2, 3, 4] rfl)
        exact loop_12 _ 0 (-1) _ _ _ (Nat.lt_succ_self _) (by first | omega | decide) (by first | omega | decide)  (by have h9 : (0 : Int32).toInt = 0 := rfl; omega) hP hD hS hl
      · have c_8 : (i 0).toInt = 1 := b_nne c_8
        refine lv_bipush (v := (-2)) hx hb dX12_like_27 (by decide) ?_
        subst hQ
        exact W.iret (v := (-2)) hx hb hr (fun t ht hW => ⟨⟨_, r, rfl, ⟨hRr, hEr, trivial⟩, by rw [ht]; exact hP, va_K.moved hW.alike hK, hD⟩, hS.F ht⟩) hS.2.2 dX12_like_29
    · skip
      refine lv_if_ne (tgt := 19) hx hb dX12_like_14 (by decide) (fun c_25 => absurd (by decide) c_25) (fun c_25 => ?_)
      refine lv_iconst (v := (-1)) hx hb dX12_like_17 (by decide) ?_
      subst hQ
      exact W.iret (v := (-1)) hx hb hr (fun t ht hW => ⟨⟨_, r, rfl, ⟨hRr, hEr, trivial⟩, by rw [ht]; exact hP, va_K.moved hW.alike hK, hD⟩, hS.F ht⟩) hS.2.2 dX12_like_18
  · skip
    refine lv_if_eq (tgt := 17) hx hb dX12_like_5 (by decide) (fun c_26 => ?_) (fun c_26 => absurd (by decide) c_26)
    refine lv_iconst (v := (-1)) hx hb dX12_like_17 (by decide) ?_
    subst hQ
    exact W.iret (v := (-1)) hx hb hr (fun t ht hW => ⟨⟨_, r, rfl, ⟨hRr, hEr, trivial⟩, by rw [ht]; exact hP, va_K.moved hW.alike hK, hD⟩, hS.F ht⟩) hS.2.2 dX12_like_18
