set_option maxRecDepth 100000 in
theorem t_909 : Cond.code yX12_readsClause cX12_readsClause 2 (some .boolean) ∈ gT := tm (tb6 (List.mem_of_getElem? (i := 53) (by rfl))) (by decide +kernel)
set_option maxRecDepth 100000 in
theorem t_910 : Cond.methodLink RX12 347 yX12_readsClause ∈ gT := tm (tb6 (List.mem_of_getElem? (i := 50) (by rfl))) (by decide +kernel)
set_option maxRecDepth 100000 in
theorem t_911 : Cond.instanceMethod yX12_readsClause ∈ gT := tm (tb6 (List.mem_of_getElem? (i := 52) (by rfl))) (by decide +kernel)
theorem t_912 : Cond.selects RX12 yX12_readsClause yX12_readsClause ∈ gT := tmp (List.mem_of_getElem? (i := 34) (by decide +kernel)) (by decide +kernel)
set_option maxRecDepth 100000 in
theorem t_913 : Cond.code yX12_takes cX12_takes 2 (some .boolean) ∈ gT := tm (tb6 (List.mem_of_getElem? (i := 128) (by rfl))) (by decide +kernel)
set_option maxRecDepth 100000 in
theorem t_914 : Cond.methodLink RX12 350 yX12_takes ∈ gT := tm (tb6 (List.mem_of_getElem? (i := 125) (by rfl))) (by decide +kernel)
set_option maxRecDepth 100000 in
theorem t_915 : Cond.instanceMethod yX12_takes ∈ gT := tm (tb6 (List.mem_of_getElem? (i := 127) (by rfl))) (by decide +kernel)
theorem t_916 : Cond.selects RX12 yX12_takes yX12_takes ∈ gT := tmp (List.mem_of_getElem? (i := 51) (by decide +kernel)) (by decide +kernel)
def dl_539 : List (Nat × (Instr × Nat)) := [(0, (.iload_n 1, 1)), (1, (.iconst 1, 1)), (2, (.sipush 200, 3)), (5, (.invokestatic 241, 3)), (8, (.ifCond .eq 11, 3)), (11, (.iload_n 1, 1)), (12, (.aload_n 0, 1)), (13, (.getfield 255, 3)), (16, (.if_icmp .le 5, 3)), (19, (.iconst (-1), 1)), (20, (.ireturn, 1)), (21, (.aload_n 0, 1)), (22, (.iconst 0, 1)), (23, (.putfield 262, 3)), (26, (.aload_n 0, 1)), (27, (.iload_n 1, 1)), (28, (.putfield 265, 3)), (31, (.aload_n 0, 1)), (32, (.iconst 0, 1)), (33, (.putfield 286, 3))]
theorem dh_539 : dchk cX12_law dl_539 = true := by decide +kernel
theorem dX12_law_0 : decode cX12_law 0 = .ok (.iload_n 1, 1) := dget dh_539 (k := 0) rfl
theorem dX12_law_1 : decode cX12_law 1 = .ok (.iconst 1, 1) := dget dh_539 (k := 1) rfl
theorem dX12_law_2 : decode cX12_law 2 = .ok (.sipush 200, 3) := dget dh_539 (k := 2) rfl
theorem dX12_law_5 : decode cX12_law 5 = .ok (.invokestatic 241, 3) := dget dh_539 (k := 3) rfl
theorem dX12_law_8 : decode cX12_law 8 = .ok (.ifCond .eq 11, 3) := dget dh_539 (k := 4) rfl
theorem dX12_law_11 : decode cX12_law 11 = .ok (.iload_n 1, 1) := dget dh_539 (k := 5) rfl
theorem dX12_law_12 : decode cX12_law 12 = .ok (.aload_n 0, 1) := dget dh_539 (k := 6) rfl
theorem dX12_law_13 : decode cX12_law 13 = .ok (.getfield 255, 3) := dget dh_539 (k := 7) rfl
theorem dX12_law_16 : decode cX12_law 16 = .ok (.if_icmp .le 5, 3) := dget dh_539 (k := 8) rfl
theorem dX12_law_19 : decode cX12_law 19 = .ok (.iconst (-1), 1) := dget dh_539 (k := 9) rfl
theorem dX12_law_20 : decode cX12_law 20 = .ok (.ireturn, 1) := dget dh_539 (k := 10) rfl
theorem dX12_law_21 : decode cX12_law 21 = .ok (.aload_n 0, 1) := dget dh_539 (k := 11) rfl
theorem dX12_law_22 : decode cX12_law 22 = .ok (.iconst 0, 1) := dget dh_539 (k := 12) rfl
theorem dX12_law_23 : decode cX12_law 23 = .ok (.putfield 262, 3) := dget dh_539 (k := 13) rfl
theorem dX12_law_26 : decode cX12_law 26 = .ok (.aload_n 0, 1) := dget dh_539 (k := 14) rfl
theorem dX12_law_27 : decode cX12_law 27 = .ok (.iload_n 1, 1) := dget dh_539 (k := 15) rfl
theorem dX12_law_28 : decode cX12_law 28 = .ok (.putfield 265, 3) := dget dh_539 (k := 16) rfl
theorem dX12_law_31 : decode cX12_law 31 = .ok (.aload_n 0, 1) := dget dh_539 (k := 17) rfl
theorem dX12_law_32 : decode cX12_law 32 = .ok (.iconst 0, 1) := dget dh_539 (k := 18) rfl
theorem dX12_law_33 : decode cX12_law 33 = .ok (.putfield 286, 3) := dget dh_539 (k := 19) rfl
def dl_540 : List (Nat × (Instr × Nat)) := [(36, (.aload_n 0, 1)), (37, (.iconst 0, 1)), (38, (.putfield 341, 3)), (41, (.aload_n 0, 1)), (42, (.invokevirtual 347, 3)), (45, (.istore_n 2, 1)), (46, (.iload_n 2, 1)), (47, (.ifCond .eq 39, 3)), (50, (.aload_n 0, 1)), (51, (.getfield 262, 3)), (54, (.aload_n 0, 1)), (55, (.getfield 265, 3)), (58, (.if_icmp .ge 28, 3)), (61, (.aload_n 0, 1)), (62, (.bipush 59, 2)), (64, (.invokevirtual 350, 3)), (67, (.ifCond .eq 14, 3)), (70, (.aload_n 0, 1)), (71, (.invokevirtual 347, 3)), (74, (.ifCond .eq 7, 3))]
theorem dh_540 : dchk cX12_law dl_540 = true := by decide +kernel
theorem dX12_law_36 : decode cX12_law 36 = .ok (.aload_n 0, 1) := dget dh_540 (k := 0) rfl
theorem dX12_law_37 : decode cX12_law 37 = .ok (.iconst 0, 1) := dget dh_540 (k := 1) rfl
theorem dX12_law_38 : decode cX12_law 38 = .ok (.putfield 341, 3) := dget dh_540 (k := 2) rfl
theorem dX12_law_41 : decode cX12_law 41 = .ok (.aload_n 0, 1) := dget dh_540 (k := 3) rfl
theorem dX12_law_42 : decode cX12_law 42 = .ok (.invokevirtual 347, 3) := dget dh_540 (k := 4) rfl
theorem dX12_law_45 : decode cX12_law 45 = .ok (.istore_n 2, 1) := dget dh_540 (k := 5) rfl
theorem dX12_law_46 : decode cX12_law 46 = .ok (.iload_n 2, 1) := dget dh_540 (k := 6) rfl
theorem dX12_law_47 : decode cX12_law 47 = .ok (.ifCond .eq 39, 3) := dget dh_540 (k := 7) rfl
theorem dX12_law_50 : decode cX12_law 50 = .ok (.aload_n 0, 1) := dget dh_540 (k := 8) rfl
theorem dX12_law_51 : decode cX12_law 51 = .ok (.getfield 262, 3) := dget dh_540 (k := 9) rfl
theorem dX12_law_54 : decode cX12_law 54 = .ok (.aload_n 0, 1) := dget dh_540 (k := 10) rfl
theorem dX12_law_55 : decode cX12_law 55 = .ok (.getfield 265, 3) := dget dh_540 (k := 11) rfl
theorem dX12_law_58 : decode cX12_law 58 = .ok (.if_icmp .ge 28, 3) := dget dh_540 (k := 12) rfl
theorem dX12_law_61 : decode cX12_law 61 = .ok (.aload_n 0, 1) := dget dh_540 (k := 13) rfl
theorem dX12_law_62 : decode cX12_law 62 = .ok (.bipush 59, 2) := dget dh_540 (k := 14) rfl
theorem dX12_law_64 : decode cX12_law 64 = .ok (.invokevirtual 350, 3) := dget dh_540 (k := 15) rfl
theorem dX12_law_67 : decode cX12_law 67 = .ok (.ifCond .eq 14, 3) := dget dh_540 (k := 16) rfl
theorem dX12_law_70 : decode cX12_law 70 = .ok (.aload_n 0, 1) := dget dh_540 (k := 17) rfl
theorem dX12_law_71 : decode cX12_law 71 = .ok (.invokevirtual 347, 3) := dget dh_540 (k := 18) rfl
theorem dX12_law_74 : decode cX12_law 74 = .ok (.ifCond .eq 7, 3) := dget dh_540 (k := 19) rfl
def dl_541 : List (Nat × (Instr × Nat)) := [(77, (.iconst 1, 1)), (78, (.goto 4, 3)), (81, (.iconst 0, 1)), (82, (.istore_n 2, 1)), (83, (.goto (-37), 3)), (86, (.aload_n 0, 1)), (87, (.iconst 0, 1)), (88, (.putfield 255, 3)), (91, (.iload_n 2, 1)), (92, (.ifCond .ne 8, 3)), (95, (.aload_n 0, 1)), (96, (.getfield 272, 3)), (99, (.ireturn, 1)), (100, (.aload_n 0, 1)), (101, (.aload_n 0, 1)), (102, (.getfield 341, 3)), (105, (.putfield 353, 3)), (108, (.iconst 0, 1)), (109, (.istore_n 3, 1)), (110, (.iload_n 3, 1))]
theorem dh_541 : dchk cX12_law dl_541 = true := by decide +kernel
theorem dX12_law_77 : decode cX12_law 77 = .ok (.iconst 1, 1) := dget dh_541 (k := 0) rfl
theorem dX12_law_78 : decode cX12_law 78 = .ok (.goto 4, 3) := dget dh_541 (k := 1) rfl
theorem dX12_law_81 : decode cX12_law 81 = .ok (.iconst 0, 1) := dget dh_541 (k := 2) rfl
theorem dX12_law_82 : decode cX12_law 82 = .ok (.istore_n 2, 1) := dget dh_541 (k := 3) rfl
theorem dX12_law_83 : decode cX12_law 83 = .ok (.goto (-37), 3) := dget dh_541 (k := 4) rfl
theorem dX12_law_86 : decode cX12_law 86 = .ok (.aload_n 0, 1) := dget dh_541 (k := 5) rfl
theorem dX12_law_87 : decode cX12_law 87 = .ok (.iconst 0, 1) := dget dh_541 (k := 6) rfl
theorem dX12_law_88 : decode cX12_law 88 = .ok (.putfield 255, 3) := dget dh_541 (k := 7) rfl
theorem dX12_law_91 : decode cX12_law 91 = .ok (.iload_n 2, 1) := dget dh_541 (k := 8) rfl
theorem dX12_law_92 : decode cX12_law 92 = .ok (.ifCond .ne 8, 3) := dget dh_541 (k := 9) rfl
theorem dX12_law_95 : decode cX12_law 95 = .ok (.aload_n 0, 1) := dget dh_541 (k := 10) rfl
theorem dX12_law_96 : decode cX12_law 96 = .ok (.getfield 272, 3) := dget dh_541 (k := 11) rfl
theorem dX12_law_99 : decode cX12_law 99 = .ok (.ireturn, 1) := dget dh_541 (k := 12) rfl
theorem dX12_law_100 : decode cX12_law 100 = .ok (.aload_n 0, 1) := dget dh_541 (k := 13) rfl
theorem dX12_law_101 : decode cX12_law 101 = .ok (.aload_n 0, 1) := dget dh_541 (k := 14) rfl
theorem dX12_law_102 : decode cX12_law 102 = .ok (.getfield 341, 3) := dget dh_541 (k := 15) rfl
theorem dX12_law_105 : decode cX12_law 105 = .ok (.putfield 353, 3) := dget dh_541 (k := 16) rfl
theorem dX12_law_108 : decode cX12_law 108 = .ok (.iconst 0, 1) := dget dh_541 (k := 17) rfl
theorem dX12_law_109 : decode cX12_law 109 = .ok (.istore_n 3, 1) := dget dh_541 (k := 18) rfl
theorem dX12_law_110 : decode cX12_law 110 = .ok (.iload_n 3, 1) := dget dh_541 (k := 19) rfl
def dl_542 : List (Nat × (Instr × Nat)) := [(111, (.aload_n 0, 1)), (112, (.getfield 286, 3)), (115, (.if_icmp .ge 21, 3)), (118, (.aload_n 0, 1)), (119, (.getfield 90, 3)), (122, (.iload_n 3, 1)), (123, (.aload_n 0, 1)), (124, (.getfield 72, 3)), (127, (.iload_n 3, 1)), (128, (.iaload, 1)), (129, (.iastore, 1)), (130, (.iinc 3 1, 3)), (133, (.goto (-23), 3)), (136, (.iconst 0, 1)), (137, (.istore_n 3, 1)), (138, (.iload_n 3, 1)), (139, (.aload_n 0, 1)), (140, (.getfield 341, 3)), (143, (.if_icmp .ge 57, 3)), (146, (.aload_n 0, 1))]
theorem dh_542 : dchk cX12_law dl_542 = true := by decide +kernel
theorem dX12_law_111 : decode cX12_law 111 = .ok (.aload_n 0, 1) := dget dh_542 (k := 0) rfl
theorem dX12_law_112 : decode cX12_law 112 = .ok (.getfield 286, 3) := dget dh_542 (k := 1) rfl
theorem dX12_law_115 : decode cX12_law 115 = .ok (.if_icmp .ge 21, 3) := dget dh_542 (k := 2) rfl
theorem dX12_law_118 : decode cX12_law 118 = .ok (.aload_n 0, 1) := dget dh_542 (k := 3) rfl
theorem dX12_law_119 : decode cX12_law 119 = .ok (.getfield 90, 3) := dget dh_542 (k := 4) rfl
theorem dX12_law_122 : decode cX12_law 122 = .ok (.iload_n 3, 1) := dget dh_542 (k := 5) rfl
theorem dX12_law_123 : decode cX12_law 123 = .ok (.aload_n 0, 1) := dget dh_542 (k := 6) rfl
theorem dX12_law_124 : decode cX12_law 124 = .ok (.getfield 72, 3) := dget dh_542 (k := 7) rfl
theorem dX12_law_127 : decode cX12_law 127 = .ok (.iload_n 3, 1) := dget dh_542 (k := 8) rfl
theorem dX12_law_128 : decode cX12_law 128 = .ok (.iaload, 1) := dget dh_542 (k := 9) rfl
theorem dX12_law_129 : decode cX12_law 129 = .ok (.iastore, 1) := dget dh_542 (k := 10) rfl
theorem dX12_law_130 : decode cX12_law 130 = .ok (.iinc 3 1, 3) := dget dh_542 (k := 11) rfl
theorem dX12_law_133 : decode cX12_law 133 = .ok (.goto (-23), 3) := dget dh_542 (k := 12) rfl
theorem dX12_law_136 : decode cX12_law 136 = .ok (.iconst 0, 1) := dget dh_542 (k := 13) rfl
theorem dX12_law_137 : decode cX12_law 137 = .ok (.istore_n 3, 1) := dget dh_542 (k := 14) rfl
theorem dX12_law_138 : decode cX12_law 138 = .ok (.iload_n 3, 1) := dget dh_542 (k := 15) rfl
theorem dX12_law_139 : decode cX12_law 139 = .ok (.aload_n 0, 1) := dget dh_542 (k := 16) rfl
theorem dX12_law_140 : decode cX12_law 140 = .ok (.getfield 341, 3) := dget dh_542 (k := 17) rfl
theorem dX12_law_143 : decode cX12_law 143 = .ok (.if_icmp .ge 57, 3) := dget dh_542 (k := 18) rfl
theorem dX12_law_146 : decode cX12_law 146 = .ok (.aload_n 0, 1) := dget dh_542 (k := 19) rfl
def dl_543 : List (Nat × (Instr × Nat)) := [(147, (.getfield 93, 3)), (150, (.iload_n 3, 1)), (151, (.aload_n 0, 1)), (152, (.getfield 78, 3)), (155, (.iload_n 3, 1)), (156, (.iaload, 1)), (157, (.iastore, 1)), (158, (.aload_n 0, 1)), (159, (.getfield 96, 3)), (162, (.iload_n 3, 1)), (163, (.aload_n 0, 1)), (164, (.getfield 81, 3)), (167, (.iload_n 3, 1)), (168, (.iaload, 1)), (169, (.iastore, 1)), (170, (.aload_n 0, 1)), (171, (.getfield 99, 3)), (174, (.iload_n 3, 1)), (175, (.aload_n 0, 1)), (176, (.getfield 84, 3))]
theorem dh_543 : dchk cX12_law dl_543 = true := by decide +kernel
theorem dX12_law_147 : decode cX12_law 147 = .ok (.getfield 93, 3) := dget dh_543 (k := 0) rfl
theorem dX12_law_150 : decode cX12_law 150 = .ok (.iload_n 3, 1) := dget dh_543 (k := 1) rfl
theorem dX12_law_151 : decode cX12_law 151 = .ok (.aload_n 0, 1) := dget dh_543 (k := 2) rfl
theorem dX12_law_152 : decode cX12_law 152 = .ok (.getfield 78, 3) := dget dh_543 (k := 3) rfl
theorem dX12_law_155 : decode cX12_law 155 = .ok (.iload_n 3, 1) := dget dh_543 (k := 4) rfl
theorem dX12_law_156 : decode cX12_law 156 = .ok (.iaload, 1) := dget dh_543 (k := 5) rfl
theorem dX12_law_157 : decode cX12_law 157 = .ok (.iastore, 1) := dget dh_543 (k := 6) rfl
theorem dX12_law_158 : decode cX12_law 158 = .ok (.aload_n 0, 1) := dget dh_543 (k := 7) rfl
theorem dX12_law_159 : decode cX12_law 159 = .ok (.getfield 96, 3) := dget dh_543 (k := 8) rfl
theorem dX12_law_162 : decode cX12_law 162 = .ok (.iload_n 3, 1) := dget dh_543 (k := 9) rfl
theorem dX12_law_163 : decode cX12_law 163 = .ok (.aload_n 0, 1) := dget dh_543 (k := 10) rfl
theorem dX12_law_164 : decode cX12_law 164 = .ok (.getfield 81, 3) := dget dh_543 (k := 11) rfl
theorem dX12_law_167 : decode cX12_law 167 = .ok (.iload_n 3, 1) := dget dh_543 (k := 12) rfl
theorem dX12_law_168 : decode cX12_law 168 = .ok (.iaload, 1) := dget dh_543 (k := 13) rfl
theorem dX12_law_169 : decode cX12_law 169 = .ok (.iastore, 1) := dget dh_543 (k := 14) rfl
theorem dX12_law_170 : decode cX12_law 170 = .ok (.aload_n 0, 1) := dget dh_543 (k := 15) rfl
theorem dX12_law_171 : decode cX12_law 171 = .ok (.getfield 99, 3) := dget dh_543 (k := 16) rfl
theorem dX12_law_174 : decode cX12_law 174 = .ok (.iload_n 3, 1) := dget dh_543 (k := 17) rfl
theorem dX12_law_175 : decode cX12_law 175 = .ok (.aload_n 0, 1) := dget dh_543 (k := 18) rfl
theorem dX12_law_176 : decode cX12_law 176 = .ok (.getfield 84, 3) := dget dh_543 (k := 19) rfl
def dl_544 : List (Nat × (Instr × Nat)) := [(179, (.iload_n 3, 1)), (180, (.iaload, 1)), (181, (.iastore, 1)), (182, (.aload_n 0, 1)), (183, (.getfield 102, 3)), (186, (.iload_n 3, 1)), (187, (.aload_n 0, 1)), (188, (.getfield 87, 3)), (191, (.iload_n 3, 1)), (192, (.iaload, 1)), (193, (.iastore, 1)), (194, (.iinc 3 1, 3)), (197, (.goto (-59), 3)), (200, (.aload_n 0, 1)), (201, (.getfield 341, 3)), (204, (.ireturn, 1))]
theorem dh_544 : dchk cX12_law dl_544 = true := by decide +kernel
theorem dX12_law_179 : decode cX12_law 179 = .ok (.iload_n 3, 1) := dget dh_544 (k := 0) rfl
theorem dX12_law_180 : decode cX12_law 180 = .ok (.iaload, 1) := dget dh_544 (k := 1) rfl
theorem dX12_law_181 : decode cX12_law 181 = .ok (.iastore, 1) := dget dh_544 (k := 2) rfl
theorem dX12_law_182 : decode cX12_law 182 = .ok (.aload_n 0, 1) := dget dh_544 (k := 3) rfl
theorem dX12_law_183 : decode cX12_law 183 = .ok (.getfield 102, 3) := dget dh_544 (k := 4) rfl
theorem dX12_law_186 : decode cX12_law 186 = .ok (.iload_n 3, 1) := dget dh_544 (k := 5) rfl
theorem dX12_law_187 : decode cX12_law 187 = .ok (.aload_n 0, 1) := dget dh_544 (k := 6) rfl
theorem dX12_law_188 : decode cX12_law 188 = .ok (.getfield 87, 3) := dget dh_544 (k := 7) rfl
theorem dX12_law_191 : decode cX12_law 191 = .ok (.iload_n 3, 1) := dget dh_544 (k := 8) rfl
theorem dX12_law_192 : decode cX12_law 192 = .ok (.iaload, 1) := dget dh_544 (k := 9) rfl
theorem dX12_law_193 : decode cX12_law 193 = .ok (.iastore, 1) := dget dh_544 (k := 10) rfl
theorem dX12_law_194 : decode cX12_law 194 = .ok (.iinc 3 1, 3) := dget dh_544 (k := 11) rfl
theorem dX12_law_197 : decode cX12_law 197 = .ok (.goto (-59), 3) := dget dh_544 (k := 12) rfl
theorem dX12_law_200 : decode cX12_law 200 = .ok (.aload_n 0, 1) := dget dh_544 (k := 13) rfl
theorem dX12_law_201 : decode cX12_law 201 = .ok (.getfield 341, 3) := dget dh_544 (k := 14) rfl
theorem dX12_law_204 : decode cX12_law 204 = .ok (.ireturn, 1) := dget dh_544 (k := 15) rfl
theorem CIv_0 {i : Nat → Int32} {r : Nat → Nat → Int32} (h27 : (i 27).toInt = 0) (h29 : (i 29).toInt = 0) : CIv i r := ⟨by unfold NP; rw [h27]; omega, fun q hq => by omega⟩
theorem CIv_same {i I : Nat → Int32} {r : Nat → Nat → Int32} (h : CIv i r) (e27 : I 27 = i 27) (e29 : I 29 = i 29) (e23 : (i 23).toInt ≤ (I 23).toInt) : CIv I r := by
  obtain ⟨a1, a2⟩ := h
  refine ⟨?_, by rw [e27, e29]; exact a2⟩
  unfold NP at *; rw [e27]; omega
