set_option maxRecDepth 100000 in
theorem t_909 : Cond.code yX12_readsClause cX12_readsClause 2 (some .boolean) ∈ gT := tm (tb6 (List.mem_of_getElem? (i := 53) (by rfl))) (by decide +kernel)
set_option maxRecDepth 100000 in
theorem t_910 : Cond.methodLink RX12 347 yX12_readsClause ∈ gT := tm (tb6 (List.mem_of_getElem? (i := 50) (by rfl))) (by decide +kernel)
set_option maxRecDepth 100000 in
theorem t_911 : Cond.instanceMethod yX12_readsClause ∈ gT := tm (tb6 (List.mem_of_getElem? (i := 52) (by rfl))) (by decide +kernel)
theorem t_912 : Cond.selects RX12 yX12_readsClause yX12_readsClause ∈ gT := tmp (List.mem_of_getElem? (i := 34) (by decide +kernel)) (by decide +kernel)
set_option maxRecDepth 100000 in
theorem t_913 : Cond.code yX12_takes cX12_takes 2 (some .boolean) ∈ gT := tm (tb6 (List.mem_of_getElem? (i := 128) (by rfl))) (by decide +kernel)
set_option maxRecDepth 100000 in
theorem t_914 : Cond.methodLink RX12 350 yX12_takes ∈ gT := tm (tb6 (List.mem_of_getElem? (i := 125) (by rfl))) (by decide +kernel)
set_option maxRecDepth 100000 in
theorem t_915 : Cond.instanceMethod yX12_takes ∈ gT := tm (tb6 (List.mem_of_getElem? (i := 127) (by rfl))) (by decide +kernel)
theorem t_916 : Cond.selects RX12 yX12_takes yX12_takes ∈ gT := tmp (List.mem_of_getElem? (i := 51) (by decide +kernel)) (by decide +kernel)
def dl_539 : List (Nat × (Instr × Nat)) := [(0, (.iload_n 1, 1)), (1, (.iconst 1, 1)), (2, (.sipush 200, 3)), (5, (.invokestatic 241, 3)), (8, (.ifCond .eq 11, 3)), (11, (.iload_n 1, 1)), (12, (.aload_n 0, 1)), (13, (.getfield 255, 3)), (16, (.if_icmp .le 5, 3)), (19, (.iconst (-1), 1)), (20, (.ireturn, 1)), (21, (.aload_n 0, 1)), (22, (.iconst 0, 1)), (23, (.putfield 262, 3)), (26, (.aload_n 0, 1)), (27, (.iload_n 1, 1)), (28, (.putfield 265, 3)), (31, (.aload_n 0, 1)), (32, (.iconst 0, 1)), (33, (.putfield 286, 3))]
theorem dh_539 : dchk cX12_law dl_539 = true := by decide +kernel
theorem dX12_law_0 : decode cX12_law 0 = .ok (.iload_n 1, 1) := dget dh_539 (k := 0) rfl
theorem dX12_law_1 : decode cX12_law 1 = .ok (.iconst 1, 1) := dget dh_539 (k := 1) rfl
theorem dX12_law_2 : decode cX12_law 2 = .ok (.sipush 200, 3) := dget dh_539 (k := 2) rfl
theorem dX12_law_5 : decode cX12_law 5 = .ok (.invokestatic 241, 3) := dget dh_539 (k := 3) rfl
theorem dX12_law_8 : decode cX12_law 8 = .ok (.ifCond .eq 11, 3) := dget dh_539 (k := 4) rfl
theorem dX12_law_11 : decode cX12_law 11 = .ok (.iload_n 1, 1) := dget dh_539 (k := 5) rfl
theorem dX12_law_12 : decode cX12_law 12 = .ok (.aload_n 0, 1) := dget dh_539 (k := 6) rfl
theorem dX12_law_13 : decode cX12_law 13 = .ok (.getfield 255, 3) := dget dh_539 (k := 7) rfl
theorem dX12_law_16 : decode cX12_law 16 = .ok (.if_icmp .le 5, 3) := dget dh_539 (k := 8) rfl
theorem dX12_law_19 : decode cX12_law 19 = .ok (.iconst (-1), 1) := dget dh_539 (k := 9) rfl
theorem dX12_law_20 : decode cX12_law 20 = .ok (.ireturn, 1) := dget dh_539 (k := 10) rfl
theorem dX12_law_21 : decode cX12_law 21 = .ok (.aload_n 0, 1) := dget dh_539 (k := 11) rfl
theorem dX12_law_22 : decode cX12_law 22 = .ok (.iconst 0, 1) := dget dh_539 (k := 12) rfl
theorem dX12_law_23 : decode cX12_law 23 = .ok (.putfield 262, 3) := dget dh_539 (k := 13) rfl
theorem dX12_law_26 : decode cX12_law 26 = .ok (.aload_n 0, 1) := dget dh_539 (k := 14) rfl
theorem dX12_law_27 : decode cX12_law 27 = .ok (.iload_n 1, 1) := dget dh_539 (k := 15) rfl
theorem dX12_law_28 : decode cX12_law 28 = .ok (.putfield 265, 3) := dget dh_539 (k := 16) rfl
theorem dX12_law_31 : decode cX12_law 31 = .ok (.aload_n 0, 1) := dget dh_539 (k := 17) rfl
theorem dX12_law_32 : decode cX12_law 32 = .ok (.iconst 0, 1) := dget dh_539 (k := 18) rfl
theorem dX12_law_33 : decode cX12_law 33 = .ok (.putfield 286, 3) := dget dh_539 (k := 19) rfl
def dl_540 : List (Nat × (Instr × Nat)) := [(36, (.aload_n 0, 1)), (37, (.iconst 0, 1)), (38, (.putfield 341, 3)), (41, (.aload_n 0, 1)), (42, (.invokevirtual 347, 3)), (45, (.istore_n 2, 1)), (46, (.iload_n 2, 1)), (47, (.ifCond .eq 39, 3)), (50, (.aload_n 0, 1)), (51, (.getfield 262, 3)), (54, (.aload_n 0, 1)), (55, (.getfield 265, 3)), (58, (.if_icmp .ge 28, 3)), (61, (.aload_n 0, 1)), (62, (.bipush 59, 2)), (64, (.invokevirtual 350, 3)), (67, (.ifCond .eq 14, 3)), (70, (.aload_n 0, 1)), (71, (.invokevirtual 347, 3)), (74, (.ifCond .eq 7, 3))]
theorem dh_540 : dchk cX12_law dl_540 = true := by decide +kernel
theorem dX12_law_36 : decode cX12_law 36 = .ok (.aload_n 0, 1) := dget dh_540 (k := 0) rfl
theorem dX12_law_37 : decode cX12_law 37 = .ok (.iconst 0, 1) := dget dh_540 (k := 1) rfl
theorem dX12_law_38 : decode cX12_law 38 = .ok (.putfield 341, 3) := dget dh_540 (k := 2) rfl
theorem dX12_law_41 : decode cX12_law 41 = .ok (.aload_n 0, 1) := dget dh_540 (k := 3) rfl
theorem dX12_law_42 : decode cX12_law 42 = .ok (.invokevirtual 347, 3) := dget dh_540 (k := 4) rfl
theorem dX12_law_45 : decode cX12_law 45 = .ok (.istore_n 2, 1) := dget dh_540 (k := 5) rfl
theorem dX12_law_46 : decode cX12_law 46 = .ok (.iload_n 2, 1) := dget dh_540 (k := 6) rfl
theorem dX12_law_47 : decode cX12_law 47 = .ok (.ifCond .eq 39, 3) := dget dh_540 (k := 7) rfl
theorem dX12_law_50 : decode cX12_law 50 = .ok (.aload_n 0, 1) := dget dh_540 (k := 8) rfl
theorem dX12_law_51 : decode cX12_law 51 = .ok (.getfield 262, 3) := dget dh_540 (k := 9) rfl
theorem dX12_law_54 : decode cX12_law 54 = .ok (.aload_n 0, 1) := dget dh_540 (k := 10) rfl
theorem dX12_law_55 : decode cX12_law 55 = .ok (.getfield 265, 3) := dget dh_540 (k := 11) rfl
theorem dX12_law_58 : decode cX12_law 58 = .ok (.if_icmp .ge 28, 3) := dget dh_540 (k := 12) rfl
theorem dX12_law_61 : decode cX12_law 61 = .ok (.aload_n 0, 1) := dget dh_540 (k := 13) rfl
theorem dX12_law_62 : decode cX12_law 62 = .ok (.bipush 59, 2) := dget dh_540 (k := 14) rfl
theorem dX12_law_64 : decode cX12_law 64 = .ok (.invokevirtual 350, 3) := dget dh_540 (k := 15) rfl
theorem dX12_law_67 : decode cX12_law 67 = .ok (.ifCond .eq 14, 3) := dget dh_540 (k := 16) rfl
theorem dX12_law_70 : decode cX12_law 70 = .ok (.aload_n 0, 1) := dget dh_540 (k := 17) rfl
theorem dX12_law_71 : decode cX12_law 71 = .ok (.invokevirtual 347, 3) := dget dh_540 (k := 18) rfl
theorem dX12_law_74 : decode cX12_law 74 = .ok (.ifCond .eq 7, 3) := dget dh_540 (k := 19) rfl
def dl_541 : List (Nat × (Instr × Nat)) := [(77, (.iconst 1, 1)), (78, (.goto 4, 3)), (81, (.iconst 0, 1)), (82, (.istore_n 2, 1)), (83, (.goto (-37), 3)), (86, (.aload_n 0, 1)), (87, (.iconst 0, 1)), (88, (.putfield 255, 3)), (91, (.iload_n 2, 1)), (92, (.ifCond .ne 8, 3)), (95, (.aload_n 0, 1)), (96, (.getfield 272, 3)), (99, (.ireturn, 1)), (100, (.aload_n 0, 1)), (101, (.aload_n 0, 1)), (102, (.getfield 341, 3)), (105, (.putfield 353, 3)), (108, (.iconst 0, 1)), (109, (.istore_n 3, 1)), (110, (.iload_n 3, 1))]
theorem dh_541 : dchk cX12_law dl_541 = true := by decide +kernel
theorem dX12_law_77 : decode cX12_law 77 = .ok (.iconst 1, 1) := dget dh_541 (k := 0) rfl
theorem dX12_law_78 : decode cX12_law 78 = .ok (.goto 4, 3) := dget dh_541 (k := 1) rfl
theorem dX12_law_81 : decode cX12_law 81 = .ok (.iconst 0, 1) := dget dh_541 (k := 2) rfl
theorem dX12_law_82 : decode cX12_law 82 = .ok (.istore_n 2, 1) := dget dh_541 (k := 3) rfl
theorem dX12_law_83 : decode cX12_law 83 = .ok (.goto (-37), 3) := dget dh_541 (k := 4) rfl
theorem dX12_law_86 : decode cX12_law 86 = .ok (.aload_n 0, 1) := dget dh_541 (k := 5) rfl
theorem dX12_law_87 : decode cX12_law 87 = .ok (.iconst 0, 1) := dget dh_541 (k := 6) rfl
theorem dX12_law_88 : decode cX12_law 88 = .ok (.putfield 255, 3) := dget dh_541 (k := 7) rfl
theorem dX12_law_91 : decode cX12_law 91 = .ok (.iload_n 2, 1) := dget dh_541 (k := 8) rfl
theorem dX12_law_92 : decode cX12_law 92 = .ok (.ifCond .ne 8, 3) := dget dh_541 (k := 9) rfl
theorem dX12_law_95 : decode cX12_law 95 = .ok (.aload_n 0, 1) := dget dh_541 (k := 10) rfl
theorem dX12_law_96 : decode cX12_law 96 = .ok (.getfield 272, 3) := dget dh_541 (k := 11) rfl
theorem dX12_law_99 : decode cX12_law 99 = .ok (.ireturn, 1) := dget dh_541 (k := 12) rfl
theorem dX12_law_100 : decode cX12_law 100 = .ok (.aload_n 0, 1) := dget dh_541 (k := 13) rfl
theorem dX12_law_101 : decode cX12_law 101 = .ok (.aload_n 0, 1) := dget dh_541 (k := 14) rfl
theorem dX12_law_102 : decode cX12_law 102 = .ok (.getfield 341, 3) := dget dh_541 (k := 15) rfl
theorem dX12_law_105 : decode cX12_law 105 = .ok (.putfield 353, 3) := dget dh_541 (k := 16) rfl
theorem dX12_law_108 : decode cX12_law 108 = .ok (.iconst 0, 1) := dget dh_541 (k := 17) rfl
theorem dX12_law_109 : decode cX12_law 109 = .ok (.istore_n 3, 1) := dget dh_541 (k := 18) rfl
theorem dX12_law_110 : decode cX12_law 110 = .ok (.iload_n 3, 1) := dget dh_541 (k := 19) rfl
def dl_542 : List (Nat × (Instr × Nat)) := [(111, (.aload_n 0, 1)), (112, (.getfield 286, 3)), (115, (.if_icmp .ge 21, 3)), (118, (.aload_n 0, 1)), (119, (.getfield 90, 3)), (122, (.iload_n 3, 1)), (123, (.aload_n 0, 1)), (124, (.getfield 72, 3)), (127, (.iload_n 3, 1)), (128, (.iaload, 1)), (129, (.iastore, 1)), (130, (.iinc 3 1, 3)), (133, (.goto (-23), 3)), (136, (.iconst 0, 1)), (137, (.istore_n 3, 1)), (138, (.iload_n 3, 1)), (139, (.aload_n 0, 1)), (140, (.getfield 341, 3)), (143, (.if_icmp .ge 57, 3)), (146, (.aload_n 0, 1))]
theorem dh_542 : dchk cX12_law dl_542 = true := by decide +kernel
theorem dX12_law_111 : decode cX12_law 111 = .ok (.aload_n 0, 1) := dget dh_542 (k := 0) rfl
theorem dX12_law_112 : decode cX12_law 112 = .ok (.getfield 286, 3) := dget dh_542 (k := 1) rfl
theorem dX12_law_115 : decode cX12_law 115 = .ok (.if_icmp .ge 21, 3) := dget dh_542 (k := 2) rfl
theorem dX12_law_118 : decode cX12_law 118 = .ok (.aload_n 0, 1) := dget dh_542 (k := 3) rfl
theorem dX12_law_119 : decode cX12_law 119 = .ok (.getfield 90, 3) := dget dh_542 (k := 4) rfl
theorem dX12_law_122 : decode cX12_law 122 = .ok (.iload_n 3, 1) := dget dh_542 (k := 5) rfl
theorem dX12_law_123 : decode cX12_law 123 = .ok (.aload_n 0, 1) := dget dh_542 (k := 6) rfl
theorem dX12_law_124 : decode cX12_law 124 = .ok (.getfield 72, 3) := dget dh_542 (k := 7) rfl
theorem dX12_law_127 : decode cX12_law 127 = .ok (.iload_n 3, 1) := dget dh_542 (k := 8) rfl
theorem dX12_law_128 : decode cX12_law 128 = .ok (.iaload, 1) := dget dh_542 (k := 9) rfl
theorem dX12_law_129 : decode cX12_law 129 = .ok (.iastore, 1) := dget dh_542 (k := 10) rfl
theorem dX12_law_130 : decode cX12_law 130 = .ok (.iinc 3 1, 3) := dget dh_542 (k := 11) rfl
theorem dX12_law_133 : decode cX12_law 133 = .ok (.goto (-23), 3) := dget dh_542 (k := 12) rfl
theorem dX12_law_136 : decode cX12_law 136 = .ok (.iconst 0, 1) := dget dh_542 (k := 13) rfl
theorem dX12_law_137 : decode cX12_law 137 = .ok (.istore_n 3, 1) := dget dh_542 (k := 14) rfl
theorem dX12_law_138 : decode cX12_law 138 = .ok (.iload_n 3, 1) := dget dh_542 (k := 15) rfl
theorem dX12_law_139 : decode cX12_law 139 = .ok (.aload_n 0, 1) := dget dh_542 (k := 16) rfl
theorem dX12_law_140 : decode cX12_law 140 = .ok (.getfield 341, 3) := dget dh_542 (k := 17) rfl
theorem dX12_law_143 : decode cX12_law 143 = .ok (.if_icmp .ge 57, 3) := dget dh_542 (k := 18) rfl
theorem dX12_law_146 : decode cX12_law 146 = .ok (.aload_n 0, 1) := dget dh_542 (k := 19) rfl
def dl_543 : List (Nat × (Instr × Nat)) := [(147, (.getfield 93, 3)), (150, (.iload_n 3, 1)), (151, (.aload_n 0, 1)), (152, (.getfield 78, 3)), (155, (.iload_n 3, 1)), (156, (.iaload, 1)), (157, (.iastore, 1)), (158, (.aload_n 0, 1)), (159, (.getfield 96, 3)), (162, (.iload_n 3, 1)), (163, (.aload_n 0, 1)), (164, (.getfield 81, 3)), (167, (.iload_n 3, 1)), (168, (.iaload, 1)), (169, (.iastore, 1)), (170, (.aload_n 0, 1)), (171, (.getfield 99, 3)), (174, (.iload_n 3, 1)), (175, (.aload_n 0, 1)), (176, (.getfield 84, 3))]
theorem dh_543 : dchk cX12_law dl_543 = true := by decide +kernel
theorem dX12_law_147 : decode cX12_law 147 = .ok (.getfield 93, 3) := dget dh_543 (k := 0) rfl
theorem dX12_law_150 : decode cX12_law 150 = .ok (.iload_n 3, 1) := dget dh_543 (k := 1) rfl
theorem dX12_law_151 : decode cX12_law 151 = .ok (.aload_n 0, 1) := dget dh_543 (k := 2) rfl
theorem dX12_law_152 : decode cX12_law 152 = .ok (.getfield 78, 3) := dget dh_543 (k := 3) rfl
theorem dX12_law_155 : decode cX12_law 155 = .ok (.iload_n 3, 1) := dget dh_543 (k := 4) rfl
theorem dX12_law_156 : decode cX12_law 156 = .ok (.iaload, 1) := dget dh_543 (k := 5) rfl
theorem dX12_law_157 : decode cX12_law 157 = .ok (.iastore, 1) := dget dh_543 (k := 6) rfl
theorem dX12_law_158 : decode cX12_law 158 = .ok (.aload_n 0, 1) := dget dh_543 (k := 7) rfl
theorem dX12_law_159 : decode cX12_law 159 = .ok (.getfield 96, 3) := dget dh_543 (k := 8) rfl
theorem dX12_law_162 : decode cX12_law 162 = .ok (.iload_n 3, 1) := dget dh_543 (k := 9) rfl
theorem dX12_law_163 : decode cX12_law 163 = .ok (.aload_n 0, 1) := dget dh_543 (k := 10) rfl
theorem dX12_law_164 : decode cX12_law 164 = .ok (.getfield 81, 3) := dget dh_543 (k := 11) rfl
theorem dX12_law_167 : decode cX12_law 167 = .ok (.iload_n 3, 1) := dget dh_543 (k := 12) rfl
theorem dX12_law_168 : decode cX12_law 168 = .ok (.iaload, 1) := dget dh_543 (k := 13) rfl
theorem dX12_law_169 : decode cX12_law 169 = .ok (.iastore, 1) := dget dh_543 (k := 14) rfl
theorem dX12_law_170 : decode cX12_law 170 = .ok (.aload_n 0, 1) := dget dh_543 (k := 15) rfl
theorem dX12_law_171 : decode cX12_law 171 = .ok (.getfield 99, 3) := dget dh_543 (k := 16) rfl
theorem dX12_law_174 : decode cX12_law 174 = .ok (.iload_n 3, 1) := dget dh_543 (k := 17) rfl
theorem dX12_law_175 : decode cX12_law 175 = .ok (.aload_n 0, 1) := dget dh_543 (k := 18) rfl
theorem dX12_law_176 : decode cX12_law 176 = .ok (.getfield 84, 3) := dget dh_543 (k := 19) rfl
def dl_544 : List (Nat × (Instr × Nat)) := [(179, (.iload_n 3, 1)), (180, (.iaload, 1)), (181, (.iastore, 1)), (182, (.aload_n 0, 1)), (183, (.getfield 102, 3)), (186, (.iload_n 3, 1)), (187, (.aload_n 0, 1)), (188, (.getfield 87, 3)), (191, (.iload_n 3, 1)), (192, (.iaload, 1)), (193, (.iastore, 1)), (194, (.iinc 3 1, 3)), (197, (.goto (-59), 3)), (200, (.aload_n 0, 1)), (201, (.getfield 341, 3)), (204, (.ireturn, 1))]
theorem dh_544 : dchk cX12_law dl_544 = true := by decide +kernel
theorem dX12_law_179 : decode cX12_law 179 = .ok (.iload_n 3, 1) := dget dh_544 (k := 0) rfl
theorem dX12_law_180 : decode cX12_law 180 = .ok (.iaload, 1) := dget dh_544 (k := 1) rfl
theorem dX12_law_181 : decode cX12_law 181 = .ok (.iastore, 1) := dget dh_544 (k := 2) rfl
theorem dX12_law_182 : decode cX12_law 182 = .ok (.aload_n 0, 1) := dget dh_544 (k := 3) rfl
theorem dX12_law_183 : decode cX12_law 183 = .ok (.getfield 102, 3) := dget dh_544 (k := 4) rfl
theorem dX12_law_186 : decode cX12_law 186 = .ok (.iload_n 3, 1) := dget dh_544 (k := 5) rfl
theorem dX12_law_187 : decode cX12_law 187 = .ok (.aload_n 0, 1) := dget dh_544 (k := 6) rfl
theorem dX12_law_188 : decode cX12_law 188 = .ok (.getfield 87, 3) := dget dh_544 (k := 7) rfl
theorem dX12_law_191 : decode cX12_law 191 = .ok (.iload_n 3, 1) := dget dh_544 (k := 8) rfl
theorem dX12_law_192 : decode cX12_law 192 = .ok (.iaload, 1) := dget dh_544 (k := 9) rfl
theorem dX12_law_193 : decode cX12_law 193 = .ok (.iastore, 1) := dget dh_544 (k := 10) rfl
theorem dX12_law_194 : decode cX12_law 194 = .ok (.iinc 3 1, 3) := dget dh_544 (k := 11) rfl
theorem dX12_law_197 : decode cX12_law 197 = .ok (.goto (-59), 3) := dget dh_544 (k := 12) rfl
theorem dX12_law_200 : decode cX12_law 200 = .ok (.aload_n 0, 1) := dget dh_544 (k := 13) rfl
theorem dX12_law_201 : decode cX12_law 201 = .ok (.getfield 341, 3) := dget dh_544 (k := 14) rfl
theorem dX12_law_204 : decode cX12_law 204 = .ok (.ireturn, 1) := dget dh_544 (k := 15) rfl
theorem CIv_0 {i : Nat → Int32} {r : Nat → Nat → Int32} (h27 : (i 27).toInt = 0) (h29 : (i 29).toInt = 0) : CIv i r := ⟨by unfold NP; rw [h27]; omega, fun q hq => by omega⟩
theorem CIv_same {i I : Nat → Int32} {r : Nat → Nat → Int32} (h : CIv i r) (e27 : I 27 = i 27) (e29 : I 29 = i 29) (e23 : (i 23).toInt ≤ (I 23).toInt) : CIv I r := by
  obtain ⟨a1, a2⟩ := h
  refine ⟨?_, by rw [e27, e29]; exact a2⟩
  unfold NP at *; rw [e27]; omega
set_option maxHeartbeats 4000000 in
set_option maxRecDepth 100000 in
theorem c_X12_law (l : Launch) (D : va_G) (cy : Nat → ClassId) (a : Nat → Nat) (i : Nat → Int32) (r : Nat → Nat → Int32) (rl : Nat → Int64) (p0 : Int32) (sz : Nat) (hRi : mRi i) (hRr : mRr r) (hE : mE i r) : Met l yX12_law (Cond.code yX12_law cX12_law 4 (some .int) :: gT) { frames := 9, cells := 0, slots := 0, locals := 190 } (va_Pc [.ref (a 0), .int p0] (rQ D cy (mW cy a i r rl) sz)) (va_Qi (fun (z : Int32) (u : (Nat → Int32) × (Nat → Nat → Int32)) => mRi u.1 ∧ mRr u.2 ∧ mEi [22, 23, 24, 25, 26, 27, 28, 29, 30, 31] i u.1 ∧ mEr [21, 22, 23, 24, 25, 26, 27, 28, 29, 30, 31] r u.2 ∧ (mE u.1 u.2)) (fun (u : (Nat → Int32) × (Nat → Nat → Int32)) t => va_P D vwCl (mW cy a u.1 u.2 rl) t.heap ∧ va_K D vwCl (vT cy) t ∧ va_D (va_A (mW cy a i r rl) sz) (mW cy a u.1 u.2 rl)) (va_A (mW cy a i r rl) sz)) 0 0 (va_A (mW cy a i r rl) sz) := by
  refine Met.ofQ (cc := cX12_law) (maxL := 4) (ret := (some .int)) (by decide) rfl ?_
  intro p e s m args below meth c s₁ B hml hv Q hQ
  obtain ⟨rfl, hsz, hP, hK, hD0⟩ := hv
  have hx := B.exec
  have hb := B.bytes
  have hr := B.returns
  have hlocks := B.notSynchronized
  have hT : ∀ w ∈ gT, w.before _ s = true := fun w h => atoms_spec (ws := (Cond.code yX12_law cX12_law 4 (some .int) :: gT)) B.pre w (List.mem_cons_of_mem _ h)
  have hown : s.vm.findClass RX12 = some m.cls := findClass_of_methodNamed B.named
  subst hsz
  have hD := hD0.self (sz := s.heap.size)
  generalize hAe : va_A (mW cy a i r rl) s.heap.size = A at hD hQ
  have hA : ∀ q : Nat, s.heap.size ≤ q → A q := fun q h => by rw [← hAe]; exact Or.inr h
  have hS : va_S A s.heap s.heap [] := va_S.rf
  have hl := lv_entry ([.ref (a 0), .int p0]) (n := 4) (Nat.le_of_ble_eq_true rfl)
  rw [lg_entry_eq]
  generalize (lg_sl ([.ref (a 0), .int p0]) ++ List.replicate (4 - (lg_sl ([.ref (a 0), .int p0])).length) Slot.unset).toArray = ls at hl ⊢
  have hl : lv_has ls 4 [(0, .ref (a 0)), (1, .int p0)] := hl
  have hEi : mEi [22, 23, 24, 25, 26, 27, 28, 29, 30, 31] i i := Ei_rf
  have hEr : mEr [21, 22, 23, 24, 25, 26, 27, 28, 29, 30, 31] r r := Er_rf
  have hEi : mEi [22, 23, 24, 25, 26, 27, 28, 29, 30] i i := Ei_rf
  have hEr : mEr [21, 22, 23, 24, 25, 26] r r := Er_rf
  refine lv_iload_n hx hb dX12_law_0 rfl (lv_at hl 1 rfl) ?_
  refine lv_iconst (v := 1) hx hb dX12_law_1 (by decide) ?_
  refine lv_sipush (v := 200) hx hb dX12_law_2 (by decide) ?_
  refine vp_callSi (W.runS (As := [.int p0, .int 1, .int 200]) (rest := []) ⟨hx, hb, hml, hown, hT⟩ (c_X12_in l p0 1 200) (va_cwS 3 hT (gS t_113 t_114 t_115 t_6) rfl rfl rfl (by decide +kernel) ⟨Nat.le_of_ble_eq_true rfl, Nat.le_of_ble_eq_true rfl⟩) preT rfl rfl hl.1 rfl (lv_room (Nat.le_of_ble_eq_true rfl)) dX12_law_5 ⟨Nat.le_of_ble_eq_true rfl, Nat.le_of_ble_eq_true rfl⟩) (fun r_1 hr_1 => ?_)
  have hr_1 : BR r_1 (1 ≤ p0.toInt ∧ p0.toInt ≤ 200) 1 0 := hr_1
  rcases hr_1 with ⟨rfl, h_2⟩ | ⟨rfl, h_2⟩
  · skip
    refine lv_if_eq (tgt := 19) hx hb dX12_law_8 (by decide) (fun c_3 => absurd c_3 (by decide)) (fun c_3 => ?_)
    refine lv_iload_n hx hb dX12_law_11 rfl (lv_at hl 1 rfl) ?_
    refine lv_aload_n hx hb dX12_law_12 rfl (lv_at hl 0 rfl) ?_
    refine va_get (D := D) (ci := 12) (v := .int (i 22)) (C := RX12) (T := TX12) (N := 91) hx hb hT iX12 hown hK hP 0 rfl rfl 22 (by decide) (hT _ t_201) (fun _ h9 => h9) rfl dX12_law_13 ?_
    have hg_4 : 0 ≤ (i 22).toInt ∧ (i 22).toInt ≤ 220 := hRi 22
    refine lv_icmp_le (tgt := 21) hx hb dX12_law_16 (by decide) (fun c_5 => ?_) (fun c_5 => ?_)
    · have c_5 : p0.toInt ≤ (i 22).toInt := b_le c_5
      refine lv_aload_n hx hb dX12_law_21 rfl (lv_at hl 0 rfl) ?_
      refine lv_iconst (v := 0) hx hb dX12_law_22 (by decide) ?_
      refine va_put (D := D) (ci := 12) (v := .int 0) (ty := .int) (C := RX12) (T := TX12) (N := 91) hx hb hT iX12 tyX12 tyX12_ok nmX12 hown hK hP hD hS 0 rfl rfl 23 (by decide) (hT _ t_252) (fun _ h9 => h9) rfl (by decide +kernel) rfl rfl (Nat.le_of_ble_eq_true rfl) dX12_law_23 (fun H locs hP hD hS => ?_)
      rw [mP23] at hP hD
      have hRi := Ri_upd hRi 23 0 ⟨by decide, by decide⟩
      have hEi := Ei_upd hEi 23 0 (by decide)
      refine lv_aload_n hx hb dX12_law_26 rfl (lv_at hl 0 rfl) ?_
      refine lv_iload_n hx hb dX12_law_27 rfl (lv_at hl 1 rfl) ?_
      refine va_put (D := D) (ci := 12) (v := .int p0) (ty := .int) (C := RX12) (T := TX12) (N := 91) hx hb hT iX12 tyX12 tyX12_ok nmX12 hown hK hP hD hS 0 rfl rfl 24 (by decide) (hT _ t_253) (fun _ h9 => h9) rfl (by decide +kernel) rfl rfl (Nat.le_of_ble_eq_true rfl) dX12_law_28 (fun H locs hP hD hS => ?_)
      rw [mP24] at hP hD
      have hRi := Ri_upd hRi 24 p0 ⟨by show (0 : Int) ≤ p0.toInt; omega, by show p0.toInt ≤ (200 : Int); omega⟩
      have hEi := Ei_upd hEi 24 p0 (by decide)
      refine lv_aload_n hx hb dX12_law_31 rfl (lv_at hl 0 rfl) ?_
      refine lv_iconst (v := 0) hx hb dX12_law_32 (by decide) ?_
      refine va_put (D := D) (ci := 12) (v := .int 0) (ty := .int) (C := RX12) (T := TX12) (N := 91) hx hb hT iX12 tyX12 tyX12_ok nmX12 hown hK hP hD hS 0 rfl rfl 27 (by decide) (hT _ t_847) (fun _ h9 => h9) rfl (by decide +kernel) rfl rfl (Nat.le_of_ble_eq_true rfl) dX12_law_33 (fun H locs hP hD hS => ?_)
      rw [mP27] at hP hD
      have hRi := Ri_upd hRi 27 0 ⟨by decide, by decide⟩
      have hEi := Ei_upd hEi 27 0 (by decide)
      refine lv_aload_n hx hb dX12_law_36 rfl (lv_at hl 0 rfl) ?_
      refine lv_iconst (v := 0) hx hb dX12_law_37 (by decide) ?_
      refine va_put (D := D) (ci := 12) (v := .int 0) (ty := .int) (C := RX12) (T := TX12) (N := 91) hx hb hT iX12 tyX12 tyX12_ok nmX12 hown hK hP hD hS 0 rfl rfl 29 (by decide) (hT _ t_904) (fun _ h9 => h9) rfl (by decide +kernel) rfl rfl (Nat.le_of_ble_eq_true rfl) dX12_law_38 (fun H locs hP hD hS => ?_)
      rw [mP29] at hP hD
      have hRi := Ri_upd hRi 29 0 ⟨by decide, by decide⟩
      have hEi := Ei_upd hEi 29 0 (by decide)
      refine lv_aload_n hx hb dX12_law_41 rfl (lv_at hl 0 rfl) ?_
      have hck : CIv (upd (upd (upd (upd i 23 0) 24 p0) 27 0) 29 0) r := CIv_0 rfl rfl
      have hF_6 := rF hD hS hA
      refine va_calli (va_runV (As := []) (rest := []) ⟨hx, hb, hml, hown, hT⟩ (c_X12_readsClause l D cy a (upd (upd (upd (upd i 23 0) 24 p0) 27 0) 29 0) r rl _ hRi hRr hck) (cwV 0 hT (gV t_909 t_910 t_911 t_912 t_6) rfl rfl rfl (by decide +kernel) ⟨Nat.le_of_ble_eq_true rfl, Nat.le_of_ble_eq_true rfl⟩) (rQ_v hP hK hD (va_recv hK hP (ci := 12) (q0 := 0) rfl rfl)) rfl rfl hl.1 rfl (lv_room (Nat.le_of_ble_eq_true rfl)) dX12_law_42 ⟨Nat.le_of_ble_eq_true rfl, Nat.le_of_ble_eq_true rfl⟩) hS (fun q _ h => hF_6 q h) hF_6 (fun r_7 u_8 t H1 locs ht hvm hr_7 hB hz1 hk1 hS => ?_)
      obtain ⟨i8, r8⟩ := u_8
      obtain ⟨hP, hK1, hD1⟩ := hB
      rw [ht] at hP
      have hD := hD1.weaken (fun k q _ h => hF_6 q.1 h)
      have hP : va_P D vwCl (mW cy a i8 r8 rl) H1 := hP
      have hD : va_D A (mW cy a i8 r8 rl) := hD
      obtain ⟨hRi, hRr, hE1, hE2, hr_7⟩ := hr_7
      have hRi : mRi i8 := hRi
      have hRr : mRr r8 := hRr
      have hEi : mEi [22, 23, 24, 25, 26, 27, 28, 29, 30] _ i8 := Ei_tr hEi hE1 (by decide)
      have hEr : mEr [21, 22, 23, 24, 25, 26] _ r8 := Er_tr hEr hE2 (by decide)
      rcases hr_7 with ⟨rfl, hrk7, hrl7⟩ | rfl
      · have hrk7 : CIv i8 r8 := hrk7
        have hrl7 : ((upd (upd (upd (upd i 23 0) 24 p0) 27 0) 29 0) 23).toInt < (i8 23).toInt := hrl7
        refine lv_istore_n (lv' := [(2, .int 1), (0, .ref (a 0)), (1, .int p0)]) hx hb dX12_law_45 rfl hl (by decide) rfl (fun ls hl => ?_)
        have loop_9 : ∀ (n : Nat) (x9_2 : Int32) (i9 : Nat → Int32) (r9 : Nat → Nat → Int32) (H : Heap) (locs : List Loc) (ls : Array Slot), (if x9_2.toInt = 0 then 0 else 201 - (i9 23).toInt).toNat < n → (0 ≤ x9_2.toInt ∧ x9_2.toInt ≤ 1) → mRi i9 → mEi [22, 23, 24, 25, 26, 27, 28, 29, 30] i i9 → mRr r9 → mEr [21, 22, 23, 24, 25, 26] r r9 → (LG x9_2 i9 r9) → va_P D vwCl (mW cy a i9 r9 rl) H → va_D A (mW cy a i9 r9 rl) → va_S A s.heap H locs → lv_has ls 4 [(2, .int x9_2), (0, .ref (a 0)), (1, .int p0)] → W p l e ({ frames := 9, cells := 0, slots := 0, locals := 190 } : Room) s m ([.ref (a 0), .int p0] : List Value).toArray below meth c H locs 0 0 Q (F0 m 46 ls []) := by
          intro n
          induction n with
          | zero =>
            intro x9_2 i9 r9 H locs ls hm9 hf9_0 hRi hEi hRr hEr hx9 hP hD hS hl
            exact absurd hm9 (by omega)
          | succ n ih9 =>
            intro x9_2 i9 r9 H locs ls hm9 hf9_0 hRi hEi hRr hEr hx9 hP hD hS hl
            refine lv_iload_n hx hb dX12_law_46 rfl (lv_at hl 0 rfl) ?_
            have hg23_9 : 0 ≤ (i9 23).toInt ∧ (i9 23).toInt ≤ 200 := hRi 23
            have hg24_9 : 0 ≤ (i9 24).toInt ∧ (i9 24).toInt ≤ 200 := hRi 24
            refine lv_if_eq (tgt := 86) hx hb dX12_law_47 (by decide) (fun c_10 => ?_) (fun c_10 => ?_)
            · have c_10 : x9_2.toInt = 0 := b_eq c_10
              refine lv_aload_n hx hb dX12_law_86 rfl (lv_at hl 1 rfl) ?_
              have hRi9 := hRi
              refine lv_iconst (v := 0) hx hb dX12_law_87 (by decide) ?_
              refine va_put (D := D) (ci := 12) (v := .int 0) (ty := .int) (C := RX12) (T := TX12) (N := 91) hx hb hT iX12 tyX12 tyX12_ok nmX12 hown hK hP hD hS 0 rfl rfl 22 (by decide) (hT _ t_201) (fun _ h9 => h9) rfl (by decide +kernel) rfl rfl (Nat.le_of_ble_eq_true rfl) dX12_law_88 (fun H locs hP hD hS => ?_)
              rw [mP22] at hP hD
              have hRi := Ri_upd hRi 22 0 ⟨by decide, by decide⟩
              have hEi := Ei_upd hEi 22 0 (by decide)
              refine lv_iload_n hx hb dX12_law_91 rfl (lv_at hl 0 rfl) ?_
              refine lv_if_ne (tgt := 100) hx hb dX12_law_92 (by decide) (fun c_11 => by have c_11 : x9_2.toInt ≠ 0 := b_ne c_11; omega) (fun c_11 => ?_)
              have c_11 : x9_2.toInt = 0 := b_nne c_11
              refine lv_aload_n hx hb dX12_law_95 rfl (lv_at hl 1 rfl) ?_
              have hEf : mE (upd i9 22 0) r9 := mE_same hEi hEr (by decide) (by decide) hE
              have hEi : mEi [22, 23, 24, 25, 26, 27, 28, 29, 30, 31] i (upd i9 22 0) := Ei_tr Ei_rf hEi (by decide)
              have hEr : mEr [21, 22, 23, 24, 25, 26, 27, 28, 29, 30, 31] r r9 := Er_tr Er_rf hEr (by decide)
              refine va_get (D := D) (ci := 12) (v := .int (i9 25)) (C := RX12) (T := TX12) (N := 91) hx hb hT iX12 hown hK hP 0 rfl rfl 25 (by decide) (hT _ t_258) (fun _ h9 => h9) rfl dX12_law_96 ?_
              subst hQ
              exact W.iret (v := i9 25) hx hb hr (fun t ht hW => ⟨⟨_, (upd i9 22 0, r9), rfl, ⟨hRi, hRr, hEi, hEr, hEf⟩, by rw [ht]; exact hP, va_K.moved hW.alike hK, hD⟩, hS.F ht⟩) hS.2.2 dX12_law_99
            · have c_10 : x9_2.toInt ≠ 0 := b_ne c_10
              have hcg : CIv i9 r9 := hx9 c_10
              refine lv_aload_n hx hb dX12_law_50 rfl (lv_at hl 1 rfl) ?_
              refine va_get (D := D) (ci := 12) (v := .int (i9 23)) (C := RX12) (T := TX12) (N := 91) hx hb hT iX12 hown hK hP 0 rfl rfl 23 (by decide) (hT _ t_252) (fun _ h9 => h9) rfl dX12_law_51 ?_
              have hg_12 : 0 ≤ (i9 23).toInt ∧ (i9 23).toInt ≤ 200 := hRi 23
              refine lv_aload_n hx hb dX12_law_54 rfl (lv_at hl 1 rfl) ?_
              refine va_get (D := D) (ci := 12) (v := .int (i9 24)) (C := RX12) (T := TX12) (N := 91) hx hb hT iX12 hown hK hP 0 rfl rfl 24 (by decide) (hT _ t_253) (fun _ h9 => h9) rfl dX12_law_55 ?_
              have hg_13 : 0 ≤ (i9 24).toInt ∧ (i9 24).toInt ≤ 200 := hRi 24
              refine lv_icmp_ge (tgt := 86) hx hb dX12_law_58 (by decide) (fun c_14 => ?_) (fun c_14 => ?_)
              · have c_14 : (i9 24).toInt ≤ (i9 23).toInt := b_le c_14
                refine lv_aload_n hx hb dX12_law_86 rfl (lv_at hl 1 rfl) ?_
                have hRi9 := hRi
                refine lv_iconst (v := 0) hx hb dX12_law_87 (by decide) ?_
                refine va_put (D := D) (ci := 12) (v := .int 0) (ty := .int) (C := RX12) (T := TX12) (N := 91) hx hb hT iX12 tyX12 tyX12_ok nmX12 hown hK hP hD hS 0 rfl rfl 22 (by decide) (hT _ t_201) (fun _ h9 => h9) rfl (by decide +kernel) rfl rfl (Nat.le_of_ble_eq_true rfl) dX12_law_88 (fun H locs hP hD hS => ?_)
                rw [mP22] at hP hD
                have hRi := Ri_upd hRi 22 0 ⟨by decide, by decide⟩
                have hEi := Ei_upd hEi 22 0 (by decide)
                refine lv_iload_n hx hb dX12_law_91 rfl (lv_at hl 0 rfl) ?_
                refine lv_if_ne (tgt := 100) hx hb dX12_law_92 (by decide) (fun c_15 => ?_) (fun c_15 => ?_)
                · have c_15 : x9_2.toInt ≠ 0 := b_ne c_15
                  have hEi9 := hEi
                  have hEr9 := hEr
                  have hEi : mEi [22, 23, 24, 25, 26, 27, 28, 29, 30, 31] i (upd i9 22 0) := Ei_tr Ei_rf hEi (by decide)
                  have hEr : mEr [21, 22, 23, 24, 25, 26, 27, 28, 29, 30, 31] r r9 := Er_tr Er_rf hEr (by decide)
                  have hcg : CIv i9 r9 := hx9 (by omega)
                  have hb27 := CIv_np hcg hRi9
                  have hg27z : 0 ≤ (i9 27).toInt := (hRi9 27).1
                  have hg29z : 0 ≤ (i9 29).toInt ∧ (i9 29).toInt ≤ 14 := hRi9 29
                  refine lv_aload_n hx hb dX12_law_100 rfl (lv_at hl 1 rfl) ?_
                  refine lv_aload_n hx hb dX12_law_101 rfl (lv_at hl 1 rfl) ?_
                  refine va_get (D := D) (ci := 12) (v := .int (i9 29)) (C := RX12) (T := TX12) (N := 91) hx hb hT iX12 hown hK hP 0 rfl rfl 29 (by decide) (hT _ t_904) (fun _ h9 => h9) rfl dX12_law_102 ?_
                  have hg_16 : 0 ≤ (i9 29).toInt ∧ (i9 29).toInt ≤ 14 := hRi 29
                  refine va_put (D := D) (ci := 12) (v := .int (i9 29)) (ty := .int) (C := RX12) (T := TX12) (N := 91) hx hb hT iX12 tyX12 tyX12_ok nmX12 hown hK hP hD hS 0 rfl rfl 31 (by decide) (hT _ t_88) (fun _ h9 => h9) rfl (by decide +kernel) rfl rfl (Nat.le_of_ble_eq_true rfl) dX12_law_105 (fun H locs hP hD hS => ?_)
                  rw [mP31] at hP hD
                  have hRi := Ri_upd hRi 31 (i9 29) ⟨by show (0 : Int) ≤ (i9 29).toInt; omega, by show (i9 29).toInt ≤ (14 : Int); omega⟩
                  have hEi := Ei_upd hEi 31 (i9 29) (by decide)
                  refine lv_iconst (v := 0) hx hb dX12_law_108 (by decide) ?_
                  refine lv_istore_n (lv' := [(3, .int 0), (2, .int x9_2), (0, .ref (a 0)), (1, .int p0)]) hx hb dX12_law_109 rfl hl (by decide) rfl (fun ls hl => ?_)
                  have loop_17 : ∀ (n : Nat) (x17_3 : Int32) (r17 : Nat → Nat → Int32) (H : Heap) (locs : List Loc) (ls : Array Slot), (220 - x17_3.toInt).toNat < n → (0 ≤ x17_3.toInt ∧ x17_3.toInt ≤ 220) → mRr r17 → mEr [21, 22, 23, 24, 25, 26, 27, 28, 29, 30, 31] r r17 → (cpU (r17 27) (r9 21) x17_3 ∧ mEr [27] r9 r17) → va_P D vwCl (mW cy a (upd (upd i9 22 0) 31 (i9 29)) r17 rl) H → va_D A (mW cy a (upd (upd i9 22 0) 31 (i9 29)) r17 rl) → va_S A s.heap H locs → lv_has ls 4 [(3, .int x17_3), (2, .int x9_2), (0, .ref (a 0)), (1, .int p0)] → W p l e ({ frames := 9, cells := 0, slots := 0, locals := 190 } : Room) s m ([.ref (a 0), .int p0] : List Value).toArray below meth c H locs 0 0 Q (F0 m 110 ls []) := by
                    intro n
                    induction n with
                    | zero =>
                      intro x17_3 r17 H locs ls hm17 hf17_0 hRr hEr hx17 hP hD hS hl
                      exact absurd hm17 (by omega)
                    | succ n ih17 =>
                      intro x17_3 r17 H locs ls hm17 hf17_0 hRr hEr hx17 hP hD hS hl
                      refine lv_iload_n hx hb dX12_law_110 rfl (lv_at hl 0 rfl) ?_
                      refine lv_aload_n hx hb dX12_law_111 rfl (lv_at hl 2 rfl) ?_
                      refine va_get (D := D) (ci := 12) (v := .int (i9 27)) (C := RX12) (T := TX12) (N := 91) hx hb hT iX12 hown hK hP 0 rfl rfl 27 (by decide) (hT _ t_847) (fun _ h9 => h9) rfl dX12_law_112 ?_
                      have hg_18 : 0 ≤ (i9 27).toInt ∧ (i9 27).toInt ≤ 220 := hRi 27
                      refine lv_icmp_ge (tgt := 136) hx hb dX12_law_115 (by decide) (fun c_19 => ?_) (fun c_19 => ?_)
                      · have c_19 : (i9 27).toInt ≤ x17_3.toInt := b_le c_19
                        refine lv_iconst (v := 0) hx hb dX12_law_136 (by decide) ?_
                        refine lv_istore_n (lv' := [(3, .int 0), (2, .int x9_2), (0, .ref (a 0)), (1, .int p0)]) hx hb dX12_law_137 rfl hl (by decide) rfl (fun ls hl => ?_)
                        have loop_20 : ∀ (n : Nat) (x20_3 : Int32) (r20 : Nat → Nat → Int32) (H : Heap) (locs : List Loc) (ls : Array Slot), (14 - x20_3.toInt).toNat < n → (0 ≤ x20_3.toInt ∧ x20_3.toInt ≤ 14) → mRr r20 → mEr [21, 22, 23, 24, 25, 26, 27, 28, 29, 30, 31] r r20 → (cpU (r20 28) (r17 23) x20_3 ∧ cpU (r20 29) (r17 24) x20_3 ∧ cpU (r20 30) (r17 25) x20_3 ∧ cpU (r20 31) (r17 26) x20_3 ∧ mEr [28, 29, 30, 31] r17 r20) → va_P D vwCl (mW cy a (upd (upd i9 22 0) 31 (i9 29)) r20 rl) H → va_D A (mW cy a (upd (upd i9 22 0) 31 (i9 29)) r20 rl) → va_S A s.heap H locs → lv_has ls 4 [(3, .int x20_3), (2, .int x9_2), (0, .ref (a 0)), (1, .int p0)] → W p l e ({ frames := 9, cells := 0, slots := 0, locals := 190 } : Room) s m ([.ref (a 0), .int p0] : List Value).toArray below meth c H locs 0 0 Q (F0 m 138 ls []) := by
                          intro n
                          induction n with
                          | zero =>
                            intro x20_3 r20 H locs ls hm20 hf20_0 hRr hEr hx20 hP hD hS hl
                            exact absurd hm20 (by omega)
                          | succ n ih20 =>
                            intro x20_3 r20 H locs ls hm20 hf20_0 hRr hEr hx20 hP hD hS hl
                            refine lv_iload_n hx hb dX12_law_138 rfl (lv_at hl 0 rfl) ?_
                            refine lv_aload_n hx hb dX12_law_139 rfl (lv_at hl 2 rfl) ?_
                            refine va_get (D := D) (ci := 12) (v := .int (i9 29)) (C := RX12) (T := TX12) (N := 91) hx hb hT iX12 hown hK hP 0 rfl rfl 29 (by decide) (hT _ t_904) (fun _ h9 => h9) rfl dX12_law_140 ?_
                            refine lv_icmp_ge (tgt := 200) hx hb dX12_law_143 (by decide) (fun c_21 => ?_) (fun c_21 => ?_)
                            · have c_21 : (i9 29).toInt ≤ x20_3.toInt := b_le c_21
                              refine lv_aload_n hx hb dX12_law_200 rfl (lv_at hl 2 rfl) ?_
                              refine va_get (D := D) (ci := 12) (v := .int (i9 29)) (C := RX12) (T := TX12) (N := 91) hx hb hT iX12 hown hK hP 0 rfl rfl 29 (by decide) (hT _ t_904) (fun _ h9 => h9) rfl dX12_law_201 ?_
                              subst hQ
                              have hn110 : (i9 27).toInt ≤ x17_3.toInt := by omega
                              have hn138 : (i9 29).toInt ≤ x20_3.toInt := by omega
                              have c38 : cpU (r20 27) (r9 21) x17_3 := by rw [hx20.2.2.2.2 27 (by decide)]; exact hx17.1
                              have c28_9 : cpU (r20 28) (r9 23) x20_3 := by rw [← hx17.2 23 (by decide)]; exact hx20.1
                              have c29_9 : cpU (r20 29) (r9 24) x20_3 := by rw [← hx17.2 24 (by decide)]; exact hx20.2.1
                              have c30_9 : cpU (r20 30) (r9 25) x20_3 := by rw [← hx17.2 25 (by decide)]; exact hx20.2.2.1
                              have c31_9 : cpU (r20 31) (r9 26) x20_3 := by rw [← hx17.2 26 (by decide)]; exact hx20.2.2.2.1
                              have hj : mE (upd (upd i9 22 0) 31 (i9 29)) r20 := mE_law hE (hEi9 0 (by decide)) (hEi9 51 (by decide)) (hEi9 79 (by decide)) ((hx20.2.2.2.2 4 (by decide)).trans ((hx17.2 4 (by decide)).trans (hEr9 4 (by decide)))) ((hx20.2.2.2.2 10 (by decide)).trans ((hx17.2 10 (by decide)).trans (hEr9 10 (by decide)))) ((hx20.2.2.2.2 14 (by decide)).trans ((hx17.2 14 (by decide)).trans (hEr9 14 (by decide)))) ((hx20.2.2.2.2 40 (by decide)).trans ((hx17.2 40 (by decide)).trans (hEr9 40 (by decide)))) ((hx20.2.2.2.2 41 (by decide)).trans ((hx17.2 41 (by decide)).trans (hEr9 41 (by decide)))) ((hx20.2.2.2.2 63 (by decide)).trans ((hx17.2 63 (by decide)).trans (hEr9 63 (by decide)))) ((hx20.2.2.2.2 64 (by decide)).trans ((hx17.2 64 (by decide)).trans (hEr9 64 (by decide)))) hcg hn110 hn138 (by rfl) c38 c28_9 c29_9 c30_9 c31_9
                              exact W.iret (v := i9 29) hx hb hr (fun t ht hW => ⟨⟨_, (upd (upd i9 22 0) 31 (i9 29), r20), rfl, ⟨hRi, hRr, hEi, hEr, hj⟩, by rw [ht]; exact hP, va_K.moved hW.alike hK, hD⟩, hS.F ht⟩) hS.2.2 dX12_law_204
                            · have c_21 : x20_3.toInt < (i9 29).toInt := b_nle c_21
                              refine lv_aload_n hx hb dX12_law_146 rfl (lv_at hl 2 rfl) ?_
                              refine va_get (D := D) (ci := 12) (v := .ref (a 28)) (C := RX12) (T := TX12) (N := 91) hx hb hT iX12 hown hK hP 0 rfl rfl 39 (by decide) (hT _ t_89) (fun _ h9 => h9) rfl dX12_law_147 ?_
                              refine lv_iload_n hx hb dX12_law_150 rfl (lv_at hl 0 rfl) ?_
                              refine lv_aload_n hx hb dX12_law_151 rfl (lv_at hl 2 rfl) ?_
                              refine va_get (D := D) (ci := 12) (v := .ref (a 23)) (C := RX12) (T := TX12) (N := 91) hx hb hT iX12 hown hK hP 0 rfl rfl 34 (by decide) (hT _ t_790) (fun _ h9 => h9) rfl dX12_law_152 ?_
                              refine lv_iload_n hx hb dX12_law_155 rfl (lv_at hl 0 rfl) ?_
                              refine va_iald hx hb hK hP 23 0 rfl rfl (vp_inI (by omega) (by omega)) dX12_law_156 ?_
                              refine lv_topi (fun v_22 ev_22 => ?_)
                              refine va_iast hx hb hK hP hD hS 28 0 rfl rfl (vp_inI (by omega) (by omega)) dX12_law_157 (fun H locs hP hD hS => ?_)
                              rw [mS28] at hP hD
                              have hRr : mRr (va_up r20 28 (upd (r20 28) x20_3.toNatClampNeg v_22)) := Rr_upd hRr 28 (x20_3.toNatClampNeg) v_22 (b_rg _)
                              have hEr : mEr [21, 22, 23, 24, 25, 26, 27, 28, 29, 30, 31] _ (va_up r20 28 (upd (r20 28) x20_3.toNatClampNeg v_22)) := Er_up hEr 28 _ (by decide)
                              refine lv_aload_n hx hb dX12_law_158 rfl (lv_at hl 2 rfl) ?_
                              refine va_get (D := D) (ci := 12) (v := .ref (a 29)) (C := RX12) (T := TX12) (N := 91) hx hb hT iX12 hown hK hP 0 rfl rfl 40 (by decide) (hT _ t_96) (fun _ h9 => h9) rfl dX12_law_159 ?_
                              refine lv_iload_n hx hb dX12_law_162 rfl (lv_at hl 0 rfl) ?_
                              refine lv_aload_n hx hb dX12_law_163 rfl (lv_at hl 2 rfl) ?_
                              refine va_get (D := D) (ci := 12) (v := .ref (a 24)) (C := RX12) (T := TX12) (N := 91) hx hb hT iX12 hown hK hP 0 rfl rfl 35 (by decide) (hT _ t_791) (fun _ h9 => h9) rfl dX12_law_164 ?_
                              refine lv_iload_n hx hb dX12_law_167 rfl (lv_at hl 0 rfl) ?_
                              refine va_iald hx hb hK hP 24 0 rfl rfl (vp_inI (by omega) (by omega)) dX12_law_168 ?_
                              refine lv_topi (fun v_23 ev_23 => ?_)
                              have hgv_23 : 0 ≤ v_23.toInt ∧ v_23.toInt ≤ 220 := by rw [ev_23]; exact hRr 24 _
                              refine va_iast hx hb hK hP hD hS 29 0 rfl rfl (vp_inI (by omega) (by omega)) dX12_law_169 (fun H locs hP hD hS => ?_)
                              rw [mS29] at hP hD
                              have hRr : mRr (va_up (va_up r20 28 (upd (r20 28) x20_3.toNatClampNeg v_22)) 29 (upd (r20 29) x20_3.toNatClampNeg v_23)) := Rr_upd hRr 29 (x20_3.toNatClampNeg) v_23 ⟨by show (0 : Int) ≤ v_23.toInt; omega, by show v_23.toInt ≤ (220 : Int); omega⟩
                              have hEr : mEr [21, 22, 23, 24, 25, 26, 27, 28, 29, 30, 31] _ (va_up (va_up r20 28 (upd (r20 28) x20_3.toNatClampNeg v_22)) 29 (upd (r20 29) x20_3.toNatClampNeg v_23)) := Er_up hEr 29 _ (by decide)
                              refine lv_aload_n hx hb dX12_law_170 rfl (lv_at hl 2 rfl) ?_
                              refine va_get (D := D) (ci := 12) (v := .ref (a 30)) (C := RX12) (T := TX12) (N := 91) hx hb hT iX12 hown hK hP 0 rfl rfl 41 (by decide) (hT _ t_90) (fun _ h9 => h9) rfl dX12_law_171 ?_
                              refine lv_iload_n hx hb dX12_law_174 rfl (lv_at hl 0 rfl) ?_
                              refine lv_aload_n hx hb dX12_law_175 rfl (lv_at hl 2 rfl) ?_
                              refine va_get (D := D) (ci := 12) (v := .ref (a 25)) (C := RX12) (T := TX12) (N := 91) hx hb hT iX12 hown hK hP 0 rfl rfl 36 (by decide) (hT _ t_792) (fun _ h9 => h9) rfl dX12_law_176 ?_
                              refine lv_iload_n hx hb dX12_law_179 rfl (lv_at hl 0 rfl) ?_
                              refine va_iald hx hb hK hP 25 0 rfl rfl (vp_inI (by omega) (by omega)) dX12_law_180 ?_
                              refine lv_topi (fun v_24 ev_24 => ?_)
                              have hgv_24 : 0 ≤ v_24.toInt ∧ v_24.toInt ≤ 220 := by rw [ev_24]; exact hRr 25 _
                              refine va_iast hx hb hK hP hD hS 30 0 rfl rfl (vp_inI (by omega) (by omega)) dX12_law_181 (fun H locs hP hD hS => ?_)
                              rw [mS30] at hP hD
                              have hRr : mRr (va_up (va_up (va_up r20 28 (upd (r20 28) x20_3.toNatClampNeg v_22)) 29 (upd (r20 29) x20_3.toNatClampNeg v_23)) 30 (upd (r20 30) x20_3.toNatClampNeg v_24)) := Rr_upd hRr 30 (x20_3.toNatClampNeg) v_24 ⟨by show (0 : Int) ≤ v_24.toInt; omega, by show v_24.toInt ≤ (220 : Int); omega⟩
                              have hEr : mEr [21, 22, 23, 24, 25, 26, 27, 28, 29, 30, 31] _ (va_up (va_up (va_up r20 28 (upd (r20 28) x20_3.toNatClampNeg v_22)) 29 (upd (r20 29) x20_3.toNatClampNeg v_23)) 30 (upd (r20 30) x20_3.toNatClampNeg v_24)) := Er_up hEr 30 _ (by decide)
                              refine lv_aload_n hx hb dX12_law_182 rfl (lv_at hl 2 rfl) ?_
                              refine va_get (D := D) (ci := 12) (v := .ref (a 31)) (C := RX12) (T := TX12) (N := 91) hx hb hT iX12 hown hK hP 0 rfl rfl 42 (by decide) (hT _ t_91) (fun _ h9 => h9) rfl dX12_law_183 ?_
                              refine lv_iload_n hx hb dX12_law_186 rfl (lv_at hl 0 rfl) ?_
                              refine lv_aload_n hx hb dX12_law_187 rfl (lv_at hl 2 rfl) ?_
                              refine va_get (D := D) (ci := 12) (v := .ref (a 26)) (C := RX12) (T := TX12) (N := 91) hx hb hT iX12 hown hK hP 0 rfl rfl 37 (by decide) (hT _ t_793) (fun _ h9 => h9) rfl dX12_law_188 ?_
                              refine lv_iload_n hx hb dX12_law_191 rfl (lv_at hl 0 rfl) ?_
                              refine va_iald hx hb hK hP 26 0 rfl rfl (vp_inI (by omega) (by omega)) dX12_law_192 ?_
                              refine lv_topi (fun v_25 ev_25 => ?_)
                              have hgv_25 : 0 ≤ v_25.toInt ∧ v_25.toInt ≤ 220 := by rw [ev_25]; exact hRr 26 _
                              refine va_iast hx hb hK hP hD hS 31 0 rfl rfl (vp_inI (by omega) (by omega)) dX12_law_193 (fun H locs hP hD hS => ?_)
                              rw [mS31] at hP hD
                              have hRr : mRr (va_up (va_up (va_up (va_up r20 28 (upd (r20 28) x20_3.toNatClampNeg v_22)) 29 (upd (r20 29) x20_3.toNatClampNeg v_23)) 30 (upd (r20 30) x20_3.toNatClampNeg v_24)) 31 (upd (r20 31) x20_3.toNatClampNeg v_25)) := Rr_upd hRr 31 (x20_3.toNatClampNeg) v_25 ⟨by show (0 : Int) ≤ v_25.toInt; omega, by show v_25.toInt ≤ (220 : Int); omega⟩
                              have hEr : mEr [21, 22, 23, 24, 25, 26, 27, 28, 29, 30, 31] _ (va_up (va_up (va_up (va_up r20 28 (upd (r20 28) x20_3.toNatClampNeg v_22)) 29 (upd (r20 29) x20_3.toNatClampNeg v_23)) 30 (upd (r20 30) x20_3.toNatClampNeg v_24)) 31 (upd (r20 31) x20_3.toNatClampNeg v_25)) := Er_up hEr 31 _ (by decide)
                              obtain ⟨x_26, ex_26⟩ : ∃ y : Int32, y = x20_3 + 1 := ⟨_, rfl⟩
                              refine lv_iinc (v := x_26) (lv' := [(3, .int x_26), (2, .int x9_2), (0, .ref (a 0)), (1, .int p0)]) hx hb dX12_law_194 hl (k := 0) rfl (by rw [ex_26]; rfl) (by decide) rfl (fun ls hl => ?_)
                              have hx_26 : x_26.toInt = x20_3.toInt + 1 := by rw [ex_26]; have := b_rg x20_3; exact i_add (a := x20_3.toInt) (b := 1) rfl rfl (by omega) (by omega)
                              refine lv_goto (tgt := 138) hx hb dX12_law_197 (by decide) ?_
                              have hw0 : v_22 = r17 23 x20_3.toInt.toNat := by rw [ev_22]; show r20 23 _ = _; rw [hx20.2.2.2.2 23 (by decide)]; rfl
                              have hw1 : v_23 = r17 24 x20_3.toInt.toNat := by rw [ev_23]; show r20 24 _ = _; rw [hx20.2.2.2.2 24 (by decide)]; rfl
                              have hw2 : v_24 = r17 25 x20_3.toInt.toNat := by rw [ev_24]; show r20 25 _ = _; rw [hx20.2.2.2.2 25 (by decide)]; rfl
                              have hw3 : v_25 = r17 26 x20_3.toInt.toNat := by rw [ev_25]; show r20 26 _ = _; rw [hx20.2.2.2.2 26 (by decide)]; rfl
                              exact ih20 x_26 (va_up (va_up (va_up (va_up r20 28 (upd (r20 28) x20_3.toNatClampNeg v_22)) 29 (upd (r20 29) x20_3.toNatClampNeg v_23)) 30 (upd (r20 30) x20_3.toNatClampNeg v_24)) 31 (upd (r20 31) x20_3.toNatClampNeg v_25)) _ _ _ (by first | omega | (simp only [Int.toNat]; omega)) (by first | omega | decide) hRr hEr ⟨cpU_s (v := v_22) hx20.1 rfl hw0 (by omega) (by omega), cpU_s (v := v_23) hx20.2.1 rfl hw1 (by omega) (by omega), cpU_s (v := v_24) hx20.2.2.1 rfl hw2 (by omega) (by omega), cpU_s (v := v_25) hx20.2.2.2.1 rfl hw3 (by omega) (by omega), (Er_up (Er_up (Er_up (Er_up hx20.2.2.2.2 28 _ (by decide)) 29 _ (by decide)) 30 _ (by decide)) 31 _ (by decide))⟩ hP hD hS (lv_sub hl [0, 1, 2, 3] rfl)
                        exact loop_20 _ 0 r17 _ _ _ (Nat.lt_succ_self _) (by first | omega | decide) hRr hEr ⟨cpU_0, cpU_0, cpU_0, cpU_0, Er_rf⟩ hP hD hS hl
                      · have c_19 : x17_3.toInt < (i9 27).toInt := b_nle c_19
                        refine lv_aload_n hx hb dX12_law_118 rfl (lv_at hl 2 rfl) ?_
                        refine va_get (D := D) (ci := 12) (v := .ref (a 27)) (C := RX12) (T := TX12) (N := 91) hx hb hT iX12 hown hK hP 0 rfl rfl 38 (by decide) (hT _ t_83) (fun _ h9 => h9) rfl dX12_law_119 ?_
                        refine lv_iload_n hx hb dX12_law_122 rfl (lv_at hl 0 rfl) ?_
                        refine lv_aload_n hx hb dX12_law_123 rfl (lv_at hl 2 rfl) ?_
                        refine va_get (D := D) (ci := 12) (v := .ref (a 21)) (C := RX12) (T := TX12) (N := 91) hx hb hT iX12 hown hK hP 0 rfl rfl 32 (by decide) (hT _ t_788) (fun _ h9 => h9) rfl dX12_law_124 ?_
                        refine lv_iload_n hx hb dX12_law_127 rfl (lv_at hl 0 rfl) ?_
                        refine va_iald hx hb hK hP 21 0 rfl rfl (vp_inI (by omega) (by omega)) dX12_law_128 ?_
                        refine lv_topi (fun v_27 ev_27 => ?_)
                        refine va_iast hx hb hK hP hD hS 27 0 rfl rfl (vp_inI (by omega) (by omega)) dX12_law_129 (fun H locs hP hD hS => ?_)
                        rw [mS27] at hP hD
                        have hRr : mRr (va_up r17 27 (upd (r17 27) x17_3.toNatClampNeg v_27)) := Rr_upd hRr 27 (x17_3.toNatClampNeg) v_27 (b_rg _)
                        have hEr : mEr [21, 22, 23, 24, 25, 26, 27, 28, 29, 30, 31] _ (va_up r17 27 (upd (r17 27) x17_3.toNatClampNeg v_27)) := Er_up hEr 27 _ (by decide)
                        obtain ⟨x_28, ex_28⟩ : ∃ y : Int32, y = x17_3 + 1 := ⟨_, rfl⟩
                        refine lv_iinc (v := x_28) (lv' := [(3, .int x_28), (2, .int x9_2), (0, .ref (a 0)), (1, .int p0)]) hx hb dX12_law_130 hl (k := 0) rfl (by rw [ex_28]; rfl) (by decide) rfl (fun ls hl => ?_)
                        have hx_28 : x_28.toInt = x17_3.toInt + 1 := by rw [ex_28]; have := b_rg x17_3; exact i_add (a := x17_3.toInt) (b := 1) rfl rfl (by omega) (by omega)
                        refine lv_goto (tgt := 110) hx hb dX12_law_133 (by decide) ?_
                        have hv9 : v_27 = r9 21 x17_3.toInt.toNat := by rw [ev_27, hx17.2 21 (by decide)]; rfl
                        exact ih17 x_28 (va_up r17 27 (upd (r17 27) x17_3.toNatClampNeg v_27)) _ _ _ (by first | omega | (simp only [Int.toNat]; omega)) (by first | omega | decide) hRr hEr ⟨cpU_s (v := v_27) hx17.1 rfl hv9 (by omega) (by omega), Er_up hx17.2 27 _ (by decide)⟩ hP hD hS (lv_sub hl [0, 1, 2, 3] rfl)
                  exact loop_17 _ 0 r9 _ _ _ (Nat.lt_succ_self _) (by first | omega | decide) hRr hEr ⟨cpU_0, Er_rf⟩ hP hD hS hl
                · have c_15 : x9_2.toInt = 0 := b_nne c_15
                  refine lv_aload_n hx hb dX12_law_95 rfl (lv_at hl 1 rfl) ?_
                  have hEf : mE (upd i9 22 0) r9 := mE_same hEi hEr (by decide) (by decide) hE
                  have hEi : mEi [22, 23, 24, 25, 26, 27, 28, 29, 30, 31] i (upd i9 22 0) := Ei_tr Ei_rf hEi (by decide)
                  have hEr : mEr [21, 22, 23, 24, 25, 26, 27, 28, 29, 30, 31] r r9 := Er_tr Er_rf hEr (by decide)
                  refine va_get (D := D) (ci := 12) (v := .int (i9 25)) (C := RX12) (T := TX12) (N := 91) hx hb hT iX12 hown hK hP 0 rfl rfl 25 (by decide) (hT _ t_258) (fun _ h9 => h9) rfl dX12_law_96 ?_
                  subst hQ
                  exact W.iret (v := i9 25) hx hb hr (fun t ht hW => ⟨⟨_, (upd i9 22 0, r9), rfl, ⟨hRi, hRr, hEi, hEr, hEf⟩, by rw [ht]; exact hP, va_K.moved hW.alike hK, hD⟩, hS.F ht⟩) hS.2.2 dX12_law_99
              · have c_14 : (i9 23).toInt < (i9 24).toInt := b_nle c_14
                refine lv_aload_n hx hb dX12_law_61 rfl (lv_at hl 1 rfl) ?_
                refine lv_bipush (v := 59) hx hb dX12_law_62 (by decide) ?_
                have hF_29 := rF hD hS hA
                refine va_calli (va_runV (As := [.int 59]) (rest := []) ⟨hx, hb, hml, hown, hT⟩ (c_X12_takes l D cy a i9 r9 rl 59 _ hRi hRr (by first | omega | decide)) (cwV 1 hT (gV t_913 t_914 t_915 t_916 t_6) rfl rfl rfl (by decide +kernel) ⟨Nat.le_of_ble_eq_true rfl, Nat.le_of_ble_eq_true rfl⟩) (rQ_v hP hK hD (va_recv hK hP (ci := 12) (q0 := 0) rfl rfl)) rfl rfl hl.1 rfl (lv_room (Nat.le_of_ble_eq_true rfl)) dX12_law_64 ⟨Nat.le_of_ble_eq_true rfl, Nat.le_of_ble_eq_true rfl⟩) hS (fun q _ h => hF_29 q h) hF_29 (fun r_30 u_31 t H1 locs ht hvm hr_30 hB hz1 hk1 hS => ?_)
                obtain ⟨i31, r31⟩ := u_31
                obtain ⟨hP, hK1, hD1⟩ := hB
                rw [ht] at hP
                have hD := hD1.weaken (fun k q _ h => hF_29 q.1 h)
                have hP : va_P D vwCl (mW cy a i31 r31 rl) H1 := hP
                have hD : va_D A (mW cy a i31 r31 rl) := hD
                obtain ⟨hRi, hRr, hE1, hE2, hr_30⟩ := hr_30
                have hRi : mRi i31 := hRi
                have hRr : mRr r31 := hRr
                have hEi : mEi [22, 23, 24, 25, 26, 27, 28, 29, 30] _ i31 := Ei_tr hEi hE1 (by decide)
                have hEr : mEr [21, 22, 23, 24, 25, 26] _ r31 := Er_tr hEr hE2 (by decide)
                rcases hr_30 with ⟨rfl, htk30, -⟩ | ⟨rfl, -⟩
                · have htk30 : (i31 23).toInt = (i9 23).toInt + 1 := htk30
                  have hrr : r31 = r9 := funext (fun p_ => hE2 p_ (by simp))
                  have hck : CIv i31 r31 := by rw [hrr]; exact CIv_same hcg (hE1 27 (by decide)) (hE1 29 (by decide)) (by omega)
                  refine lv_if_eq (tgt := 81) hx hb dX12_law_67 (by decide) (fun c_32 => absurd c_32 (by decide)) (fun c_32 => ?_)
                  refine lv_aload_n hx hb dX12_law_70 rfl (lv_at hl 1 rfl) ?_
                  have hF_33 := rF hD hS hA
                  refine va_calli (va_runV (As := []) (rest := []) ⟨hx, hb, hml, hown, hT⟩ (c_X12_readsClause l D cy a i31 r31 rl _ hRi hRr hck) (cwV 0 hT (gV t_909 t_910 t_911 t_912 t_6) rfl rfl rfl (by decide +kernel) ⟨Nat.le_of_ble_eq_true rfl, Nat.le_of_ble_eq_true rfl⟩) (rQ_v hP hK hD (va_recv hK hP (ci := 12) (q0 := 0) rfl rfl)) rfl rfl hl.1 rfl (lv_room (Nat.le_of_ble_eq_true rfl)) dX12_law_71 ⟨Nat.le_of_ble_eq_true rfl, Nat.le_of_ble_eq_true rfl⟩) hS (fun q _ h => hF_33 q h) hF_33 (fun r_34 u_35 t H1 locs ht hvm hr_34 hB hz1 hk1 hS => ?_)
                  obtain ⟨i35, r35⟩ := u_35
                  obtain ⟨hP, hK1, hD1⟩ := hB
                  rw [ht] at hP
                  have hD := hD1.weaken (fun k q _ h => hF_33 q.1 h)
                  have hP : va_P D vwCl (mW cy a i35 r35 rl) H1 := hP
                  have hD : va_D A (mW cy a i35 r35 rl) := hD
                  obtain ⟨hRi, hRr, hE1, hE2, hr_34⟩ := hr_34
                  have hRi : mRi i35 := hRi
                  have hRr : mRr r35 := hRr
                  have hEi : mEi [22, 23, 24, 25, 26, 27, 28, 29, 30] _ i35 := Ei_tr hEi hE1 (by decide)
                  have hEr : mEr [21, 22, 23, 24, 25, 26] _ r35 := Er_tr hEr hE2 (by decide)
                  rcases hr_34 with ⟨rfl, hrk34, hrl34⟩ | rfl
                  · have hrk34 : CIv i35 r35 := hrk34
                    have hrl34 : (i31 23).toInt < (i35 23).toInt := hrl34
                    refine lv_if_eq (tgt := 81) hx hb dX12_law_74 (by decide) (fun c_36 => absurd c_36 (by decide)) (fun c_36 => ?_)
                    refine lv_iconst (v := 1) hx hb dX12_law_77 (by decide) ?_
                    refine lv_goto (tgt := 82) hx hb dX12_law_78 (by decide) ?_
                    refine lv_istore_n (lv' := [(2, .int 1), (0, .ref (a 0)), (1, .int p0)]) hx hb dX12_law_82 rfl hl (by decide) rfl (fun ls hl => ?_)
                    refine lv_goto (tgt := 46) hx hb dX12_law_83 (by decide) ?_
                    exact ih9 1 i35 r35 _ _ _ (lw1 hm9 c_10 (by omega) (show _ ≤ (200 : Int) from (hRi 23).2) (by decide)) (by first | omega | decide) hRi hEi hRr hEr (fun _ => hrk34) hP hD hS (lv_sub hl [0, 1, 2] rfl)
                  · skip
                    refine lv_if_eq (tgt := 81) hx hb dX12_law_74 (by decide) (fun c_37 => ?_) (fun c_37 => absurd (by decide) c_37)
                    refine lv_iconst (v := 0) hx hb dX12_law_81 (by decide) ?_
                    refine lv_istore_n (lv' := [(2, .int 0), (0, .ref (a 0)), (1, .int p0)]) hx hb dX12_law_82 rfl hl (by decide) rfl (fun ls hl => ?_)
                    refine lv_goto (tgt := 46) hx hb dX12_law_83 (by decide) ?_
                    exact ih9 0 i35 r35 _ _ _ (lw0 hm9 c_10 (show _ ≤ (200 : Int) from hg23_9.2) rfl) (by first | omega | decide) hRi hEi hRr hEr (fun h9 => absurd rfl h9) hP hD hS (lv_sub hl [0, 1, 2] rfl)
                · skip
                  refine lv_if_eq (tgt := 81) hx hb dX12_law_67 (by decide) (fun c_38 => ?_) (fun c_38 => absurd (by decide) c_38)
                  refine lv_iconst (v := 0) hx hb dX12_law_81 (by decide) ?_
                  refine lv_istore_n (lv' := [(2, .int 0), (0, .ref (a 0)), (1, .int p0)]) hx hb dX12_law_82 rfl hl (by decide) rfl (fun ls hl => ?_)
                  refine lv_goto (tgt := 46) hx hb dX12_law_83 (by decide) ?_
                  exact ih9 0 i31 r31 _ _ _ (lw0 hm9 c_10 (show _ ≤ (200 : Int) from hg23_9.2) rfl) (by first | omega | decide) hRi hEi hRr hEr (fun h9 => absurd rfl h9) hP hD hS (lv_sub hl [0, 1, 2] rfl)
        exact loop_9 _ 1 i8 r8 _ _ _ (Nat.lt_succ_self _) (by first | omega | decide) hRi hEi hRr hEr (fun _ => hrk7) hP hD hS hl
      · skip
        refine lv_istore_n (lv' := [(2, .int 0), (0, .ref (a 0)), (1, .int p0)]) hx hb dX12_law_45 rfl hl (by decide) rfl (fun ls hl => ?_)
        have loop_39 : ∀ (n : Nat) (x39_2 : Int32) (i39 : Nat → Int32) (r39 : Nat → Nat → Int32) (H : Heap) (locs : List Loc) (ls : Array Slot), (if x39_2.toInt = 0 then 0 else 201 - (i39 23).toInt).toNat < n → (0 ≤ x39_2.toInt ∧ x39_2.toInt ≤ 1) → mRi i39 → mEi [22, 23, 24, 25, 26, 27, 28, 29, 30] i i39 → mRr r39 → mEr [21, 22, 23, 24, 25, 26] r r39 → (LG x39_2 i39 r39) → va_P D vwCl (mW cy a i39 r39 rl) H → va_D A (mW cy a i39 r39 rl) → va_S A s.heap H locs → lv_has ls 4 [(2, .int x39_2), (0, .ref (a 0)), (1, .int p0)] → W p l e ({ frames := 9, cells := 0, slots := 0, locals := 190 } : Room) s m ([.ref (a 0), .int p0] : List Value).toArray below meth c H locs 0 0 Q (F0 m 46 ls []) := by
          intro n
          induction n with
          | zero =>
            intro x39_2 i39 r39 H locs ls hm39 hf39_0 hRi hEi hRr hEr hx39 hP hD hS hl
            exact absurd hm39 (by omega)
          | succ n ih39 =>
            intro x39_2 i39 r39 H locs ls hm39 hf39_0 hRi hEi hRr hEr hx39 hP hD hS hl
            refine lv_iload_n hx hb dX12_law_46 rfl (lv_at hl 0 rfl) ?_
            have hg23_39 : 0 ≤ (i39 23).toInt ∧ (i39 23).toInt ≤ 200 := hRi 23
            have hg24_39 : 0 ≤ (i39 24).toInt ∧ (i39 24).toInt ≤ 200 := hRi 24
            refine lv_if_eq (tgt := 86) hx hb dX12_law_47 (by decide) (fun c_40 => ?_) (fun c_40 => ?_)
            · have c_40 : x39_2.toInt = 0 := b_eq c_40
              refine lv_aload_n hx hb dX12_law_86 rfl (lv_at hl 1 rfl) ?_
              have hRi9 := hRi
              refine lv_iconst (v := 0) hx hb dX12_law_87 (by decide) ?_
              refine va_put (D := D) (ci := 12) (v := .int 0) (ty := .int) (C := RX12) (T := TX12) (N := 91) hx hb hT iX12 tyX12 tyX12_ok nmX12 hown hK hP hD hS 0 rfl rfl 22 (by decide) (hT _ t_201) (fun _ h9 => h9) rfl (by decide +kernel) rfl rfl (Nat.le_of_ble_eq_true rfl) dX12_law_88 (fun H locs hP hD hS => ?_)
              rw [mP22] at hP hD
              have hRi := Ri_upd hRi 22 0 ⟨by decide, by decide⟩
              have hEi := Ei_upd hEi 22 0 (by decide)
              refine lv_iload_n hx hb dX12_law_91 rfl (lv_at hl 0 rfl) ?_
              refine lv_if_ne (tgt := 100) hx hb dX12_law_92 (by decide) (fun c_41 => by have c_41 : x39_2.toInt ≠ 0 := b_ne c_41; omega) (fun c_41 => ?_)
              have c_41 : x39_2.toInt = 0 := b_nne c_41
              refine lv_aload_n hx hb dX12_law_95 rfl (lv_at hl 1 rfl) ?_
              have hEf : mE (upd i39 22 0) r39 := mE_same hEi hEr (by decide) (by decide) hE
              have hEi : mEi [22, 23, 24, 25, 26, 27, 28, 29, 30, 31] i (upd i39 22 0) := Ei_tr Ei_rf hEi (by decide)
              have hEr : mEr [21, 22, 23, 24, 25, 26, 27, 28, 29, 30, 31] r r39 := Er_tr Er_rf hEr (by decide)
              refine va_get (D := D) (ci := 12) (v := .int (i39 25)) (C := RX12) (T := TX12) (N := 91) hx hb hT iX12 hown hK hP 0 rfl rfl 25 (by decide) (hT _ t_258) (fun _ h9 => h9) rfl dX12_law_96 ?_
              subst hQ
              exact W.iret (v := i39 25) hx hb hr (fun t ht hW => ⟨⟨_, (upd i39 22 0, r39), rfl, ⟨hRi, hRr, hEi, hEr, hEf⟩, by rw [ht]; exact hP, va_K.moved hW.alike hK, hD⟩, hS.F ht⟩) hS.2.2 dX12_law_99
            · have c_40 : x39_2.toInt ≠ 0 := b_ne c_40
              have hcg : CIv i39 r39 := hx39 c_40
              refine lv_aload_n hx hb dX12_law_50 rfl (lv_at hl 1 rfl) ?_
              refine va_get (D := D) (ci := 12) (v := .int (i39 23)) (C := RX12) (T := TX12) (N := 91) hx hb hT iX12 hown hK hP 0 rfl rfl 23 (by decide) (hT _ t_252) (fun _ h9 => h9) rfl dX12_law_51 ?_
              have hg_42 : 0 ≤ (i39 23).toInt ∧ (i39 23).toInt ≤ 200 := hRi 23
              refine lv_aload_n hx hb dX12_law_54 rfl (lv_at hl 1 rfl) ?_
              refine va_get (D := D) (ci := 12) (v := .int (i39 24)) (C := RX12) (T := TX12) (N := 91) hx hb hT iX12 hown hK hP 0 rfl rfl 24 (by decide) (hT _ t_253) (fun _ h9 => h9) rfl dX12_law_55 ?_
              have hg_43 : 0 ≤ (i39 24).toInt ∧ (i39 24).toInt ≤ 200 := hRi 24
              refine lv_icmp_ge (tgt := 86) hx hb dX12_law_58 (by decide) (fun c_44 => ?_) (fun c_44 => ?_)
              · have c_44 : (i39 24).toInt ≤ (i39 23).toInt := b_le c_44
                refine lv_aload_n hx hb dX12_law_86 rfl (lv_at hl 1 rfl) ?_
                have hRi9 := hRi
                refine lv_iconst (v := 0) hx hb dX12_law_87 (by decide) ?_
                refine va_put (D := D) (ci := 12) (v := .int 0) (ty := .int) (C := RX12) (T := TX12) (N := 91) hx hb hT iX12 tyX12 tyX12_ok nmX12 hown hK hP hD hS 0 rfl rfl 22 (by decide) (hT _ t_201) (fun _ h9 => h9) rfl (by decide +kernel) rfl rfl (Nat.le_of_ble_eq_true rfl) dX12_law_88 (fun H locs hP hD hS => ?_)
                rw [mP22] at hP hD
                have hRi := Ri_upd hRi 22 0 ⟨by decide, by decide⟩
                have hEi := Ei_upd hEi 22 0 (by decide)
                refine lv_iload_n hx hb dX12_law_91 rfl (lv_at hl 0 rfl) ?_
                refine lv_if_ne (tgt := 100) hx hb dX12_law_92 (by decide) (fun c_45 => ?_) (fun c_45 => ?_)
                · have c_45 : x39_2.toInt ≠ 0 := b_ne c_45
                  have hEi9 := hEi
                  have hEr9 := hEr
                  have hEi : mEi [22, 23, 24, 25, 26, 27, 28, 29, 30, 31] i (upd i39 22 0) := Ei_tr Ei_rf hEi (by decide)
                  have hEr : mEr [21, 22, 23, 24, 25, 26, 27, 28, 29, 30, 31] r r39 := Er_tr Er_rf hEr (by decide)
                  have hcg : CIv i39 r39 := hx39 (by omega)
                  have hb27 := CIv_np hcg hRi9
                  have hg27z : 0 ≤ (i39 27).toInt := (hRi9 27).1
                  have hg29z : 0 ≤ (i39 29).toInt ∧ (i39 29).toInt ≤ 14 := hRi9 29
                  refine lv_aload_n hx hb dX12_law_100 rfl (lv_at hl 1 rfl) ?_
                  refine lv_aload_n hx hb dX12_law_101 rfl (lv_at hl 1 rfl) ?_
                  refine va_get (D := D) (ci := 12) (v := .int (i39 29)) (C := RX12) (T := TX12) (N := 91) hx hb hT iX12 hown hK hP 0 rfl rfl 29 (by decide) (hT _ t_904) (fun _ h9 => h9) rfl dX12_law_102 ?_
                  have hg_46 : 0 ≤ (i39 29).toInt ∧ (i39 29).toInt ≤ 14 := hRi 29
                  refine va_put (D := D) (ci := 12) (v := .int (i39 29)) (ty := .int) (C := RX12) (T := TX12) (N := 91) hx hb hT iX12 tyX12 tyX12_ok nmX12 hown hK hP hD hS 0 rfl rfl 31 (by decide) (hT _ t_88) (fun _ h9 => h9) rfl (by decide +kernel) rfl rfl (Nat.le_of_ble_eq_true rfl) dX12_law_105 (fun H locs hP hD hS => ?_)
                  rw [mP31] at hP hD
                  have hRi := Ri_upd hRi 31 (i39 29) ⟨by show (0 : Int) ≤ (i39 29).toInt; omega, by show (i39 29).toInt ≤ (14 : Int); omega⟩
                  have hEi := Ei_upd hEi 31 (i39 29) (by decide)
                  refine lv_iconst (v := 0) hx hb dX12_law_108 (by decide) ?_
                  refine lv_istore_n (lv' := [(3, .int 0), (2, .int x39_2), (0, .ref (a 0)), (1, .int p0)]) hx hb dX12_law_109 rfl hl (by decide) rfl (fun ls hl => ?_)
                  have loop_47 : ∀ (n : Nat) (x47_3 : Int32) (r47 : Nat → Nat → Int32) (H : Heap) (locs : List Loc) (ls : Array Slot), (220 - x47_3.toInt).toNat < n → (0 ≤ x47_3.toInt ∧ x47_3.toInt ≤ 220) → mRr r47 → mEr [21, 22, 23, 24, 25, 26, 27, 28, 29, 30, 31] r r47 → (cpU (r47 27) (r39 21) x47_3 ∧ mEr [27] r39 r47) → va_P D vwCl (mW cy a (upd (upd i39 22 0) 31 (i39 29)) r47 rl) H → va_D A (mW cy a (upd (upd i39 22 0) 31 (i39 29)) r47 rl) → va_S A s.heap H locs → lv_has ls 4 [(3, .int x47_3), (2, .int x39_2), (0, .ref (a 0)), (1, .int p0)] → W p l e ({ frames := 9, cells := 0, slots := 0, locals := 190 } : Room) s m ([.ref (a 0), .int p0] : List Value).toArray below meth c H locs 0 0 Q (F0 m 110 ls []) := by
                    intro n
                    induction n with
                    | zero =>
                      intro x47_3 r47 H locs ls hm47 hf47_0 hRr hEr hx47 hP hD hS hl
                      exact absurd hm47 (by omega)
                    | succ n ih47 =>
                      intro x47_3 r47 H locs ls hm47 hf47_0 hRr hEr hx47 hP hD hS hl
                      refine lv_iload_n hx hb dX12_law_110 rfl (lv_at hl 0 rfl) ?_
                      refine lv_aload_n hx hb dX12_law_111 rfl (lv_at hl 2 rfl) ?_
                      refine va_get (D := D) (ci := 12) (v := .int (i39 27)) (C := RX12) (T := TX12) (N := 91) hx hb hT iX12 hown hK hP 0 rfl rfl 27 (by decide) (hT _ t_847) (fun _ h9 => h9) rfl dX12_law_112 ?_
                      have hg_48 : 0 ≤ (i39 27).toInt ∧ (i39 27).toInt ≤ 220 := hRi 27
                      refine lv_icmp_ge (tgt := 136) hx hb dX12_law_115 (by decide) (fun c_49 => ?_) (fun c_49 => ?_)
                      · have c_49 : (i39 27).toInt ≤ x47_3.toInt := b_le c_49
                        refine lv_iconst (v := 0) hx hb dX12_law_136 (by decide) ?_
                        refine lv_istore_n (lv' := [(3, .int 0), (2, .int x39_2), (0, .ref (a 0)), (1, .int p0)]) hx hb dX12_law_137 rfl hl (by decide) rfl (fun ls hl => ?_)
                        have loop_50 : ∀ (n : Nat) (x50_3 : Int32) (r50 : Nat → Nat → Int32) (H : Heap) (locs : List Loc) (ls : Array Slot), (14 - x50_3.toInt).toNat < n → (0 ≤ x50_3.toInt ∧ x50_3.toInt ≤ 14) → mRr r50 → mEr [21, 22, 23, 24, 25, 26, 27, 28, 29, 30, 31] r r50 → (cpU (r50 28) (r47 23) x50_3 ∧ cpU (r50 29) (r47 24) x50_3 ∧ cpU (r50 30) (r47 25) x50_3 ∧ cpU (r50 31) (r47 26) x50_3 ∧ mEr [28, 29, 30, 31] r47 r50) → va_P D vwCl (mW cy a (upd (upd i39 22 0) 31 (i39 29)) r50 rl) H → va_D A (mW cy a (upd (upd i39 22 0) 31 (i39 29)) r50 rl) → va_S A s.heap H locs → lv_has ls 4 [(3, .int x50_3), (2, .int x39_2), (0, .ref (a 0)), (1, .int p0)] → W p l e ({ frames := 9, cells := 0, slots := 0, locals := 190 } : Room) s m ([.ref (a 0), .int p0] : List Value).toArray below meth c H locs 0 0 Q (F0 m 138 ls []) := by
                          intro n
                          induction n with
                          | zero =>
                            intro x50_3 r50 H locs ls hm50 hf50_0 hRr hEr hx50 hP hD hS hl
                            exact absurd hm50 (by omega)
                          | succ n ih50 =>
                            intro x50_3 r50 H locs ls hm50 hf50_0 hRr hEr hx50 hP hD hS hl
                            refine lv_iload_n hx hb dX12_law_138 rfl (lv_at hl 0 rfl) ?_
                            refine lv_aload_n hx hb dX12_law_139 rfl (lv_at hl 2 rfl) ?_
                            refine va_get (D := D) (ci := 12) (v := .int (i39 29)) (C := RX12) (T := TX12) (N := 91) hx hb hT iX12 hown hK hP 0 rfl rfl 29 (by decide) (hT _ t_904) (fun _ h9 => h9) rfl dX12_law_140 ?_
                            refine lv_icmp_ge (tgt := 200) hx hb dX12_law_143 (by decide) (fun c_51 => ?_) (fun c_51 => ?_)
                            · have c_51 : (i39 29).toInt ≤ x50_3.toInt := b_le c_51
                              refine lv_aload_n hx hb dX12_law_200 rfl (lv_at hl 2 rfl) ?_
                              refine va_get (D := D) (ci := 12) (v := .int (i39 29)) (C := RX12) (T := TX12) (N := 91) hx hb hT iX12 hown hK hP 0 rfl rfl 29 (by decide) (hT _ t_904) (fun _ h9 => h9) rfl dX12_law_201 ?_
                              subst hQ
                              have hn110 : (i39 27).toInt ≤ x47_3.toInt := by omega
                              have hn138 : (i39 29).toInt ≤ x50_3.toInt := by omega
                              have c38 : cpU (r50 27) (r39 21) x47_3 := by rw [hx50.2.2.2.2 27 (by decide)]; exact hx47.1
                              have c28_9 : cpU (r50 28) (r39 23) x50_3 := by rw [← hx47.2 23 (by decide)]; exact hx50.1
                              have c29_9 : cpU (r50 29) (r39 24) x50_3 := by rw [← hx47.2 24 (by decide)]; exact hx50.2.1
                              have c30_9 : cpU (r50 30) (r39 25) x50_3 := by rw [← hx47.2 25 (by decide)]; exact hx50.2.2.1
                              have c31_9 : cpU (r50 31) (r39 26) x50_3 := by rw [← hx47.2 26 (by decide)]; exact hx50.2.2.2.1
                              have hj : mE (upd (upd i39 22 0) 31 (i39 29)) r50 := mE_law hE (hEi9 0 (by decide)) (hEi9 51 (by decide)) (hEi9 79 (by decide)) ((hx50.2.2.2.2 4 (by decide)).trans ((hx47.2 4 (by decide)).trans (hEr9 4 (by decide)))) ((hx50.2.2.2.2 10 (by decide)).trans ((hx47.2 10 (by decide)).trans (hEr9 10 (by decide)))) ((hx50.2.2.2.2 14 (by decide)).trans ((hx47.2 14 (by decide)).trans (hEr9 14 (by decide)))) ((hx50.2.2.2.2 40 (by decide)).trans ((hx47.2 40 (by decide)).trans (hEr9 40 (by decide)))) ((hx50.2.2.2.2 41 (by decide)).trans ((hx47.2 41 (by decide)).trans (hEr9 41 (by decide)))) ((hx50.2.2.2.2 63 (by decide)).trans ((hx47.2 63 (by decide)).trans (hEr9 63 (by decide)))) ((hx50.2.2.2.2 64 (by decide)).trans ((hx47.2 64 (by decide)).trans (hEr9 64 (by decide)))) hcg hn110 hn138 (by rfl) c38 c28_9 c29_9 c30_9 c31_9
                              exact W.iret (v := i39 29) hx hb hr (fun t ht hW => ⟨⟨_, (upd (upd i39 22 0) 31 (i39 29), r50), rfl, ⟨hRi, hRr, hEi, hEr, hj⟩, by rw [ht]; exact hP, va_K.moved hW.alike hK, hD⟩, hS.F ht⟩) hS.2.2 dX12_law_204
                            · have c_51 : x50_3.toInt < (i39 29).toInt := b_nle c_51
                              refine lv_aload_n hx hb dX12_law_146 rfl (lv_at hl 2 rfl) ?_
                              refine va_get (D := D) (ci := 12) (v := .ref (a 28)) (C := RX12) (T := TX12) (N := 91) hx hb hT iX12 hown hK hP 0 rfl rfl 39 (by decide) (hT _ t_89) (fun _ h9 => h9) rfl dX12_law_147 ?_
                              refine lv_iload_n hx hb dX12_law_150 rfl (lv_at hl 0 rfl) ?_
                              refine lv_aload_n hx hb dX12_law_151 rfl (lv_at hl 2 rfl) ?_
                              refine va_get (D := D) (ci := 12) (v := .ref (a 23)) (C := RX12) (T := TX12) (N := 91) hx hb hT iX12 hown hK hP 0 rfl rfl 34 (by decide) (hT _ t_790) (fun _ h9 => h9) rfl dX12_law_152 ?_
                              refine lv_iload_n hx hb dX12_law_155 rfl (lv_at hl 0 rfl) ?_
                              refine va_iald hx hb hK hP 23 0 rfl rfl (vp_inI (by omega) (by omega)) dX12_law_156 ?_
                              refine lv_topi (fun v_52 ev_52 => ?_)
                              refine va_iast hx hb hK hP hD hS 28 0 rfl rfl (vp_inI (by omega) (by omega)) dX12_law_157 (fun H locs hP hD hS => ?_)
                              rw [mS28] at hP hD
                              have hRr : mRr (va_up r50 28 (upd (r50 28) x50_3.toNatClampNeg v_52)) := Rr_upd hRr 28 (x50_3.toNatClampNeg) v_52 (b_rg _)
                              have hEr : mEr [21, 22, 23, 24, 25, 26, 27, 28, 29, 30, 31] _ (va_up r50 28 (upd (r50 28) x50_3.toNatClampNeg v_52)) := Er_up hEr 28 _ (by decide)
                              refine lv_aload_n hx hb dX12_law_158 rfl (lv_at hl 2 rfl) ?_
                              refine va_get (D := D) (ci := 12) (v := .ref (a 29)) (C := RX12) (T := TX12) (N := 91) hx hb hT iX12 hown hK hP 0 rfl rfl 40 (by decide) (hT _ t_96) (fun _ h9 => h9) rfl dX12_law_159 ?_
                              refine lv_iload_n hx hb dX12_law_162 rfl (lv_at hl 0 rfl) ?_
                              refine lv_aload_n hx hb dX12_law_163 rfl (lv_at hl 2 rfl) ?_
                              refine va_get (D := D) (ci := 12) (v := .ref (a 24)) (C := RX12) (T := TX12) (N := 91) hx hb hT iX12 hown hK hP 0 rfl rfl 35 (by decide) (hT _ t_791) (fun _ h9 => h9) rfl dX12_law_164 ?_
                              refine lv_iload_n hx hb dX12_law_167 rfl (lv_at hl 0 rfl) ?_
                              refine va_iald hx hb hK hP 24 0 rfl rfl (vp_inI (by omega) (by omega)) dX12_law_168 ?_
                              refine lv_topi (fun v_53 ev_53 => ?_)
                              have hgv_53 : 0 ≤ v_53.toInt ∧ v_53.toInt ≤ 220 := by rw [ev_53]; exact hRr 24 _
                              refine va_iast hx hb hK hP hD hS 29 0 rfl rfl (vp_inI (by omega) (by omega)) dX12_law_169 (fun H locs hP hD hS => ?_)
                              rw [mS29] at hP hD
                              have hRr : mRr (va_up (va_up r50 28 (upd (r50 28) x50_3.toNatClampNeg v_52)) 29 (upd (r50 29) x50_3.toNatClampNeg v_53)) := Rr_upd hRr 29 (x50_3.toNatClampNeg) v_53 ⟨by show (0 : Int) ≤ v_53.toInt; omega, by show v_53.toInt ≤ (220 : Int); omega⟩
                              have hEr : mEr [21, 22, 23, 24, 25, 26, 27, 28, 29, 30, 31] _ (va_up (va_up r50 28 (upd (r50 28) x50_3.toNatClampNeg v_52)) 29 (upd (r50 29) x50_3.toNatClampNeg v_53)) := Er_up hEr 29 _ (by decide)
                              refine lv_aload_n hx hb dX12_law_170 rfl (lv_at hl 2 rfl) ?_
                              refine va_get (D := D) (ci := 12) (v := .ref (a 30)) (C := RX12) (T := TX12) (N := 91) hx hb hT iX12 hown hK hP 0 rfl rfl 41 (by decide) (hT _ t_90) (fun _ h9 => h9) rfl dX12_law_171 ?_
                              refine lv_iload_n hx hb dX12_law_174 rfl (lv_at hl 0 rfl) ?_
                              refine lv_aload_n hx hb dX12_law_175 rfl (lv_at hl 2 rfl) ?_
                              refine va_get (D := D) (ci := 12) (v := .ref (a 25)) (C := RX12) (T := TX12) (N := 91) hx hb hT iX12 hown hK hP 0 rfl rfl 36 (by decide) (hT _ t_792) (fun _ h9 => h9) rfl dX12_law_176 ?_
                              refine lv_iload_n hx hb dX12_law_179 rfl (lv_at hl 0 rfl) ?_
                              refine va_iald hx hb hK hP 25 0 rfl rfl (vp_inI (by omega) (by omega)) dX12_law_180 ?_
                              refine lv_topi (fun v_54 ev_54 => ?_)
                              have hgv_54 : 0 ≤ v_54.toInt ∧ v_54.toInt ≤ 220 := by rw [ev_54]; exact hRr 25 _
                              refine va_iast hx hb hK hP hD hS 30 0 rfl rfl (vp_inI (by omega) (by omega)) dX12_law_181 (fun H locs hP hD hS => ?_)
                              rw [mS30] at hP hD
                              have hRr : mRr (va_up (va_up (va_up r50 28 (upd (r50 28) x50_3.toNatClampNeg v_52)) 29 (upd (r50 29) x50_3.toNatClampNeg v_53)) 30 (upd (r50 30) x50_3.toNatClampNeg v_54)) := Rr_upd hRr 30 (x50_3.toNatClampNeg) v_54 ⟨by show (0 : Int) ≤ v_54.toInt; omega, by show v_54.toInt ≤ (220 : Int); omega⟩
                              have hEr : mEr [21, 22, 23, 24, 25, 26, 27, 28, 29, 30, 31] _ (va_up (va_up (va_up r50 28 (upd (r50 28) x50_3.toNatClampNeg v_52)) 29 (upd (r50 29) x50_3.toNatClampNeg v_53)) 30 (upd (r50 30) x50_3.toNatClampNeg v_54)) := Er_up hEr 30 _ (by decide)
                              refine lv_aload_n hx hb dX12_law_182 rfl (lv_at hl 2 rfl) ?_
                              refine va_get (D := D) (ci := 12) (v := .ref (a 31)) (C := RX12) (T := TX12) (N := 91) hx hb hT iX12 hown hK hP 0 rfl rfl 42 (by decide) (hT _ t_91) (fun _ h9 => h9) rfl dX12_law_183 ?_
                              refine lv_iload_n hx hb dX12_law_186 rfl (lv_at hl 0 rfl) ?_
                              refine lv_aload_n hx hb dX12_law_187 rfl (lv_at hl 2 rfl) ?_
                              refine va_get (D := D) (ci := 12) (v := .ref (a 26)) (C := RX12) (T := TX12) (N := 91) hx hb hT iX12 hown hK hP 0 rfl rfl 37 (by decide) (hT _ t_793) (fun _ h9 => h9) rfl dX12_law_188 ?_
                              refine lv_iload_n hx hb dX12_law_191 rfl (lv_at hl 0 rfl) ?_
                              refine va_iald hx hb hK hP 26 0 rfl rfl (vp_inI (by omega) (by omega)) dX12_law_192 ?_
                              refine lv_topi (fun v_55 ev_55 => ?_)
                              have hgv_55 : 0 ≤ v_55.toInt ∧ v_55.toInt ≤ 220 := by rw [ev_55]; exact hRr 26 _
                              refine va_iast hx hb hK hP hD hS 31 0 rfl rfl (vp_inI (by omega) (by omega)) dX12_law_193 (fun H locs hP hD hS => ?_)
                              rw [mS31] at hP hD
                              have hRr : mRr (va_up (va_up (va_up (va_up r50 28 (upd (r50 28) x50_3.toNatClampNeg v_52)) 29 (upd (r50 29) x50_3.toNatClampNeg v_53)) 30 (upd (r50 30) x50_3.toNatClampNeg v_54)) 31 (upd (r50 31) x50_3.toNatClampNeg v_55)) := Rr_upd hRr 31 (x50_3.toNatClampNeg) v_55 ⟨by show (0 : Int) ≤ v_55.toInt; omega, by show v_55.toInt ≤ (220 : Int); omega⟩
                              have hEr : mEr [21, 22, 23, 24, 25, 26, 27, 28, 29, 30, 31] _ (va_up (va_up (va_up (va_up r50 28 (upd (r50 28) x50_3.toNatClampNeg v_52)) 29 (upd (r50 29) x50_3.toNatClampNeg v_53)) 30 (upd (r50 30) x50_3.toNatClampNeg v_54)) 31 (upd (r50 31) x50_3.toNatClampNeg v_55)) := Er_up hEr 31 _ (by decide)
                              obtain ⟨x_56, ex_56⟩ : ∃ y : Int32, y = x50_3 + 1 := ⟨_, rfl⟩
                              refine lv_iinc (v := x_56) (lv' := [(3, .int x_56), (2, .int x39_2), (0, .ref (a 0)), (1, .int p0)]) hx hb dX12_law_194 hl (k := 0) rfl (by rw [ex_56]; rfl) (by decide) rfl (fun ls hl => ?_)
                              have hx_56 : x_56.toInt = x50_3.toInt + 1 := by rw [ex_56]; have := b_rg x50_3; exact i_add (a := x50_3.toInt) (b := 1) rfl rfl (by omega) (by omega)
                              refine lv_goto (tgt := 138) hx hb dX12_law_197 (by decide) ?_
                              have hw0 : v_52 = r47 23 x50_3.toInt.toNat := by rw [ev_52]; show r50 23 _ = _; rw [hx50.2.2.2.2 23 (by decide)]; rfl
                              have hw1 : v_53 = r47 24 x50_3.toInt.toNat := by rw [ev_53]; show r50 24 _ = _; rw [hx50.2.2.2.2 24 (by decide)]; rfl
                              have hw2 : v_54 = r47 25 x50_3.toInt.toNat := by rw [ev_54]; show r50 25 _ = _; rw [hx50.2.2.2.2 25 (by decide)]; rfl
                              have hw3 : v_55 = r47 26 x50_3.toInt.toNat := by rw [ev_55]; show r50 26 _ = _; rw [hx50.2.2.2.2 26 (by decide)]; rfl
                              exact ih50 x_56 (va_up (va_up (va_up (va_up r50 28 (upd (r50 28) x50_3.toNatClampNeg v_52)) 29 (upd (r50 29) x50_3.toNatClampNeg v_53)) 30 (upd (r50 30) x50_3.toNatClampNeg v_54)) 31 (upd (r50 31) x50_3.toNatClampNeg v_55)) _ _ _ (by first | omega | (simp only [Int.toNat]; omega)) (by first | omega | decide) hRr hEr ⟨cpU_s (v := v_52) hx50.1 rfl hw0 (by omega) (by omega), cpU_s (v := v_53) hx50.2.1 rfl hw1 (by omega) (by omega), cpU_s (v := v_54) hx50.2.2.1 rfl hw2 (by omega) (by omega), cpU_s (v := v_55) hx50.2.2.2.1 rfl hw3 (by omega) (by omega), (Er_up (Er_up (Er_up (Er_up hx50.2.2.2.2 28 _ (by decide)) 29 _ (by decide)) 30 _ (by decide)) 31 _ (by decide))⟩ hP hD hS (lv_sub hl [0, 1, 2, 3] rfl)
                        exact loop_50 _ 0 r47 _ _ _ (Nat.lt_succ_self _) (by first | omega | decide) hRr hEr ⟨cpU_0, cpU_0, cpU_0, cpU_0, Er_rf⟩ hP hD hS hl
                      · have c_49 : x47_3.toInt < (i39 27).toInt := b_nle c_49
                        refine lv_aload_n hx hb dX12_law_118 rfl (lv_at hl 2 rfl) ?_
                        refine va_get (D := D) (ci := 12) (v := .ref (a 27)) (C := RX12) (T := TX12) (N := 91) hx hb hT iX12 hown hK hP 0 rfl rfl 38 (by decide) (hT _ t_83) (fun _ h9 => h9) rfl dX12_law_119 ?_
                        refine lv_iload_n hx hb dX12_law_122 rfl (lv_at hl 0 rfl) ?_
                        refine lv_aload_n hx hb dX12_law_123 rfl (lv_at hl 2 rfl) ?_
                        refine va_get (D := D) (ci := 12) (v := .ref (a 21)) (C := RX12) (T := TX12) (N := 91) hx hb hT iX12 hown hK hP 0 rfl rfl 32 (by decide) (hT _ t_788) (fun _ h9 => h9) rfl dX12_law_124 ?_
                        refine lv_iload_n hx hb dX12_law_127 rfl (lv_at hl 0 rfl) ?_
                        refine va_iald hx hb hK hP 21 0 rfl rfl (vp_inI (by omega) (by omega)) dX12_law_128 ?_
                        refine lv_topi (fun v_57 ev_57 => ?_)
                        refine va_iast hx hb hK hP hD hS 27 0 rfl rfl (vp_inI (by omega) (by omega)) dX12_law_129 (fun H locs hP hD hS => ?_)
                        rw [mS27] at hP hD
                        have hRr : mRr (va_up r47 27 (upd (r47 27) x47_3.toNatClampNeg v_57)) := Rr_upd hRr 27 (x47_3.toNatClampNeg) v_57 (b_rg _)
                        have hEr : mEr [21, 22, 23, 24, 25, 26, 27, 28, 29, 30, 31] _ (va_up r47 27 (upd (r47 27) x47_3.toNatClampNeg v_57)) := Er_up hEr 27 _ (by decide)
                        obtain ⟨x_58, ex_58⟩ : ∃ y : Int32, y = x47_3 + 1 := ⟨_, rfl⟩
                        refine lv_iinc (v := x_58) (lv' := [(3, .int x_58), (2, .int x39_2), (0, .ref (a 0)), (1, .int p0)]) hx hb dX12_law_130 hl (k := 0) rfl (by rw [ex_58]; rfl) (by decide) rfl (fun ls hl => ?_)
                        have hx_58 : x_58.toInt = x47_3.toInt + 1 := by rw [ex_58]; have := b_rg x47_3; exact i_add (a := x47_3.toInt) (b := 1) rfl rfl (by omega) (by omega)
                        refine lv_goto (tgt := 110) hx hb dX12_law_133 (by decide) ?_
                        have hv9 : v_57 = r39 21 x47_3.toInt.toNat := by rw [ev_57, hx47.2 21 (by decide)]; rfl
                        exact ih47 x_58 (va_up r47 27 (upd (r47 27) x47_3.toNatClampNeg v_57)) _ _ _ (by first | omega | (simp only [Int.toNat]; omega)) (by first | omega | decide) hRr hEr ⟨cpU_s (v := v_57) hx47.1 rfl hv9 (by omega) (by omega), Er_up hx47.2 27 _ (by decide)⟩ hP hD hS (lv_sub hl [0, 1, 2, 3] rfl)
                  exact loop_47 _ 0 r39 _ _ _ (Nat.lt_succ_self _) (by first | omega | decide) hRr hEr ⟨cpU_0, Er_rf⟩ hP hD hS hl
                · have c_45 : x39_2.toInt = 0 := b_nne c_45
                  refine lv_aload_n hx hb dX12_law_95 rfl (lv_at hl 1 rfl) ?_
                  have hEf : mE (upd i39 22 0) r39 := mE_same hEi hEr (by decide) (by decide) hE
                  have hEi : mEi [22, 23, 24, 25, 26, 27, 28, 29, 30, 31] i (upd i39 22 0) := Ei_tr Ei_rf hEi (by decide)
                  have hEr : mEr [21, 22, 23, 24, 25, 26, 27, 28, 29, 30, 31] r r39 := Er_tr Er_rf hEr (by decide)
                  refine va_get (D := D) (ci := 12) (v := .int (i39 25)) (C := RX12) (T := TX12) (N := 91) hx hb hT iX12 hown hK hP 0 rfl rfl 25 (by decide) (hT _ t_258) (fun _ h9 => h9) rfl dX12_law_96 ?_
                  subst hQ
                  exact W.iret (v := i39 25) hx hb hr (fun t ht hW => ⟨⟨_, (upd i39 22 0, r39), rfl, ⟨hRi, hRr, hEi, hEr, hEf⟩, by rw [ht]; exact hP, va_K.moved hW.alike hK, hD⟩, hS.F ht⟩) hS.2.2 dX12_law_99
              · have c_44 : (i39 23).toInt < (i39 24).toInt := b_nle c_44
                refine lv_aload_n hx hb dX12_law_61 rfl (lv_at hl 1 rfl) ?_
                refine lv_bipush (v := 59) hx hb dX12_law_62 (by decide) ?_
                have hF_59 := rF hD hS hA
                refine va_calli (va_runV (As := [.int 59]) (rest := []) ⟨hx, hb, hml, hown, hT⟩ (c_X12_takes l D cy a i39 r39 rl 59 _ hRi hRr (by first | omega | decide)) (cwV 1 hT (gV t_913 t_914 t_915 t_916 t_6) rfl rfl rfl (by decide +kernel) ⟨Nat.le_of_ble_eq_true rfl, Nat.le_of_ble_eq_true rfl⟩) (rQ_v hP hK hD (va_recv hK hP (ci := 12) (q0 := 0) rfl rfl)) rfl rfl hl.1 rfl (lv_room (Nat.le_of_ble_eq_true rfl)) dX12_law_64 ⟨Nat.le_of_ble_eq_true rfl, Nat.le_of_ble_eq_true rfl⟩) hS (fun q _ h => hF_59 q h) hF_59 (fun r_60 u_61 t H1 locs ht hvm hr_60 hB hz1 hk1 hS => ?_)
                obtain ⟨i61, r61⟩ := u_61
                obtain ⟨hP, hK1, hD1⟩ := hB
                rw [ht] at hP
                have hD := hD1.weaken (fun k q _ h => hF_59 q.1 h)
                have hP : va_P D vwCl (mW cy a i61 r61 rl) H1 := hP
                have hD : va_D A (mW cy a i61 r61 rl) := hD
                obtain ⟨hRi, hRr, hE1, hE2, hr_60⟩ := hr_60
                have hRi : mRi i61 := hRi
                have hRr : mRr r61 := hRr
                have hEi : mEi [22, 23, 24, 25, 26, 27, 28, 29, 30] _ i61 := Ei_tr hEi hE1 (by decide)
                have hEr : mEr [21, 22, 23, 24, 25, 26] _ r61 := Er_tr hEr hE2 (by decide)
                rcases hr_60 with ⟨rfl, htk60, -⟩ | ⟨rfl, -⟩
                · have htk60 : (i61 23).toInt = (i39 23).toInt + 1 := htk60
                  have hrr : r61 = r39 := funext (fun p_ => hE2 p_ (by simp))
                  have hck : CIv i61 r61 := by rw [hrr]; exact CIv_same hcg (hE1 27 (by decide)) (hE1 29 (by decide)) (by omega)
                  refine lv_if_eq (tgt := 81) hx hb dX12_law_67 (by decide) (fun c_62 => absurd c_62 (by decide)) (fun c_62 => ?_)
                  refine lv_aload_n hx hb dX12_law_70 rfl (lv_at hl 1 rfl) ?_
                  have hF_63 := rF hD hS hA
                  refine va_calli (va_runV (As := []) (rest := []) ⟨hx, hb, hml, hown, hT⟩ (c_X12_readsClause l D cy a i61 r61 rl _ hRi hRr hck) (cwV 0 hT (gV t_909 t_910 t_911 t_912 t_6) rfl rfl rfl (by decide +kernel) ⟨Nat.le_of_ble_eq_true rfl, Nat.le_of_ble_eq_true rfl⟩) (rQ_v hP hK hD (va_recv hK hP (ci := 12) (q0 := 0) rfl rfl)) rfl rfl hl.1 rfl (lv_room (Nat.le_of_ble_eq_true rfl)) dX12_law_71 ⟨Nat.le_of_ble_eq_true rfl, Nat.le_of_ble_eq_true rfl⟩) hS (fun q _ h => hF_63 q h) hF_63 (fun r_64 u_65 t H1 locs ht hvm hr_64 hB hz1 hk1 hS => ?_)
                  obtain ⟨i65, r65⟩ := u_65
                  obtain ⟨hP, hK1, hD1⟩ := hB
                  rw [ht] at hP
                  have hD := hD1.weaken (fun k q _ h => hF_63 q.1 h)
                  have hP : va_P D vwCl (mW cy a i65 r65 rl) H1 := hP
                  have hD : va_D A (mW cy a i65 r65 rl) := hD
                  obtain ⟨hRi, hRr, hE1, hE2, hr_64⟩ := hr_64
                  have hRi : mRi i65 := hRi
                  have hRr : mRr r65 := hRr
                  have hEi : mEi [22, 23, 24, 25, 26, 27, 28, 29, 30] _ i65 := Ei_tr hEi hE1 (by decide)
                  have hEr : mEr [21, 22, 23, 24, 25, 26] _ r65 := Er_tr hEr hE2 (by decide)
                  rcases hr_64 with ⟨rfl, hrk64, hrl64⟩ | rfl
                  · have hrk64 : CIv i65 r65 := hrk64
                    have hrl64 : (i61 23).toInt < (i65 23).toInt := hrl64
                    refine lv_if_eq (tgt := 81) hx hb dX12_law_74 (by decide) (fun c_66 => absurd c_66 (by decide)) (fun c_66 => ?_)
                    refine lv_iconst (v := 1) hx hb dX12_law_77 (by decide) ?_
                    refine lv_goto (tgt := 82) hx hb dX12_law_78 (by decide) ?_
                    refine lv_istore_n (lv' := [(2, .int 1), (0, .ref (a 0)), (1, .int p0)]) hx hb dX12_law_82 rfl hl (by decide) rfl (fun ls hl => ?_)
                    refine lv_goto (tgt := 46) hx hb dX12_law_83 (by decide) ?_
                    exact ih39 1 i65 r65 _ _ _ (lw1 hm39 c_40 (by omega) (show _ ≤ (200 : Int) from (hRi 23).2) (by decide)) (by first | omega | decide) hRi hEi hRr hEr (fun _ => hrk64) hP hD hS (lv_sub hl [0, 1, 2] rfl)
                  · skip
                    refine lv_if_eq (tgt := 81) hx hb dX12_law_74 (by decide) (fun c_67 => ?_) (fun c_67 => absurd (by decide) c_67)
                    refine lv_iconst (v := 0) hx hb dX12_law_81 (by decide) ?_
                    refine lv_istore_n (lv' := [(2, .int 0), (0, .ref (a 0)), (1, .int p0)]) hx hb dX12_law_82 rfl hl (by decide) rfl (fun ls hl => ?_)
                    refine lv_goto (tgt := 46) hx hb dX12_law_83 (by decide) ?_
                    exact ih39 0 i65 r65 _ _ _ (lw0 hm39 c_40 (show _ ≤ (200 : Int) from hg23_39.2) rfl) (by first | omega | decide) hRi hEi hRr hEr (fun h9 => absurd rfl h9) hP hD hS (lv_sub hl [0, 1, 2] rfl)
                · skip
                  refine lv_if_eq (tgt := 81) hx hb dX12_law_67 (by decide) (fun c_68 => ?_) (fun c_68 => absurd (by decide) c_68)
                  refine lv_iconst (v := 0) hx hb dX12_law_81 (by decide) ?_
                  refine lv_istore_n (lv' := [(2, .int 0), (0, .ref (a 0)), (1, .int p0)]) hx hb dX12_law_82 rfl hl (by decide) rfl (fun ls hl => ?_)
                  refine lv_goto (tgt := 46) hx hb dX12_law_83 (by decide) ?_
                  exact ih39 0 i61 r61 _ _ _ (lw0 hm39 c_40 (show _ ≤ (200 : Int) from hg23_39.2) rfl) (by first | omega | decide) hRi hEi hRr hEr (fun h9 => absurd rfl h9) hP hD hS (lv_sub hl [0, 1, 2] rfl)
        exact loop_39 _ 0 i8 r8 _ _ _ (Nat.lt_succ_self _) (by first | omega | decide) hRi hEi hRr hEr (fun h9 => absurd rfl h9) hP hD hS hl
    · have c_5 : (i 22).toInt < p0.toInt := b_nle c_5
      refine lv_iconst (v := (-1)) hx hb dX12_law_19 (by decide) ?_
      have hEi : mEi [22, 23, 24, 25, 26, 27, 28, 29, 30, 31] i i := Ei_tr Ei_rf hEi (by decide)
      have hEr : mEr [21, 22, 23, 24, 25, 26, 27, 28, 29, 30, 31] r r := Er_tr Er_rf hEr (by decide)
      subst hQ
      exact W.iret (v := (-1)) hx hb hr (fun t ht hW => ⟨⟨_, (i, r), rfl, ⟨hRi, hRr, hEi, hEr, hE⟩, by rw [ht]; exact hP, va_K.moved hW.alike hK, hD⟩, hS.F ht⟩) hS.2.2 dX12_law_20
  · skip
    refine lv_if_eq (tgt := 19) hx hb dX12_law_8 (by decide) (fun c_69 => ?_) (fun c_69 => absurd (by decide) c_69)
    refine lv_iconst (v := (-1)) hx hb dX12_law_19 (by decide) ?_
    have hEi : mEi [22, 23, 24, 25, 26, 27, 28, 29, 30, 31] i i := Ei_tr Ei_rf hEi (by decide)
    have hEr : mEr [21, 22, 23, 24, 25, 26, 27, 28, 29, 30, 31] r r := Er_tr Er_rf hEr (by decide)
    subst hQ
    exact W.iret (v := (-1)) hx hb hr (fun t ht hW => ⟨⟨_, (i, r), rfl, ⟨hRi, hRr, hEi, hEr, hE⟩, by rw [ht]; exact hP, va_K.moved hW.alike hK, hD⟩, hS.F ht⟩) hS.2.2 dX12_law_20
