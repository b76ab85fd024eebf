set_option maxRecDepth 100000 in
theorem t_248 : Cond.code yX12_gcd cX12_gcd 5 (some .int) ∈ gT := tm (tb7 (List.mem_of_getElem? (i := 87) (by rfl))) (by decide +kernel)
set_option maxRecDepth 100000 in
theorem t_249 : Cond.methodLink RX12 477 yX12_gcd ∈ gT := tm (tb7 (List.mem_of_getElem? (i := 85) (by rfl))) (by decide +kernel)
set_option maxRecDepth 100000 in
theorem t_250 : Cond.static yX12_gcd ∈ gT := tm (tb7 (List.mem_of_getElem? (i := 86) (by rfl))) (by decide +kernel)
set_option maxRecDepth 100000 in
theorem t_251 : Cond.constant RX12 476 (-1000000) ∈ gT := tm (tb7 (List.mem_of_getElem? (i := 81) (by rfl))) (by decide +kernel)
def dl_191 : List (Nat × (Instr × Nat)) := [(0, (.iload_n 0, 1)), (1, (.invokestatic 473, 3)), (4, (.istore_n 2, 1)), (5, (.iload_n 1, 1)), (6, (.istore_n 3, 1)), (7, (.iload_n 3, 1)), (8, (.ifCond .eq 16, 3)), (11, (.iload_n 2, 1)), (12, (.iload_n 3, 1)), (13, (.irem, 1)), (14, (.istore 4, 2)), (16, (.iload_n 3, 1)), (17, (.istore_n 2, 1)), (18, (.iload 4, 2)), (20, (.istore_n 3, 1)), (21, (.goto (-14), 3)), (24, (.iload_n 2, 1)), (25, (.ireturn, 1))]
theorem dh_191 : dchk cX12_gcd dl_191 = true := by decide +kernel
theorem dX12_gcd_0 : decode cX12_gcd 0 = .ok (.iload_n 0, 1) := dget dh_191 (k := 0) rfl
theorem dX12_gcd_1 : decode cX12_gcd 1 = .ok (.invokestatic 473, 3) := dget dh_191 (k := 1) rfl
theorem dX12_gcd_4 : decode cX12_gcd 4 = .ok (.istore_n 2, 1) := dget dh_191 (k := 2) rfl
theorem dX12_gcd_5 : decode cX12_gcd 5 = .ok (.iload_n 1, 1) := dget dh_191 (k := 3) rfl
theorem dX12_gcd_6 : decode cX12_gcd 6 = .ok (.istore_n 3, 1) := dget dh_191 (k := 4) rfl
theorem dX12_gcd_7 : decode cX12_gcd 7 = .ok (.iload_n 3, 1) := dget dh_191 (k := 5) rfl
theorem dX12_gcd_8 : decode cX12_gcd 8 = .ok (.ifCond .eq 16, 3) := dget dh_191 (k := 6) rfl
theorem dX12_gcd_11 : decode cX12_gcd 11 = .ok (.iload_n 2, 1) := dget dh_191 (k := 7) rfl
theorem dX12_gcd_12 : decode cX12_gcd 12 = .ok (.iload_n 3, 1) := dget dh_191 (k := 8) rfl
theorem dX12_gcd_13 : decode cX12_gcd 13 = .ok (.irem, 1) := dget dh_191 (k := 9) rfl
theorem dX12_gcd_14 : decode cX12_gcd 14 = .ok (.istore 4, 2) := dget dh_191 (k := 10) rfl
theorem dX12_gcd_16 : decode cX12_gcd 16 = .ok (.iload_n 3, 1) := dget dh_191 (k := 11) rfl
theorem dX12_gcd_17 : decode cX12_gcd 17 = .ok (.istore_n 2, 1) := dget dh_191 (k := 12) rfl
theorem dX12_gcd_18 : decode cX12_gcd 18 = .ok (.iload 4, 2) := dget dh_191 (k := 13) rfl
theorem dX12_gcd_20 : decode cX12_gcd 20 = .ok (.istore_n 3, 1) := dget dh_191 (k := 14) rfl
theorem dX12_gcd_21 : decode cX12_gcd 21 = .ok (.goto (-14), 3) := dget dh_191 (k := 15) rfl
theorem dX12_gcd_24 : decode cX12_gcd 24 = .ok (.iload_n 2, 1) := dget dh_191 (k := 16) rfl
theorem dX12_gcd_25 : decode cX12_gcd 25 = .ok (.ireturn, 1) := dget dh_191 (k := 17) rfl
def dl_192 : List (Nat × (Instr × Nat)) := [(0, (.iload_n 1, 1)), (1, (.invokestatic 465, 3)), (4, (.ifCond .eq 12, 3)), (7, (.iload_n 2, 1)), (8, (.iconst 0, 1)), (9, (.iconst 3, 1)), (10, (.invokestatic 241, 3)), (13, (.ifCond .ne 7, 3)), (16, (.ldc_w 476, 3)), (19, (.ireturn, 1)), (20, (.iconst 0, 1)), (21, (.istore_n 3, 1)), (22, (.iconst 0, 1)), (23, (.istore 4, 2)), (25, (.iconst 0, 1)), (26, (.istore 5, 2)), (28, (.iconst 0, 1)), (29, (.istore 6, 2)), (31, (.iload 6, 2)), (33, (.aload_n 0, 1))]
theorem dh_192 : dchk cX12_spread dl_192 = true := by decide +kernel
theorem dX12_spread_0 : decode cX12_spread 0 = .ok (.iload_n 1, 1) := dget dh_192 (k := 0) rfl
theorem dX12_spread_1 : decode cX12_spread 1 = .ok (.invokestatic 465, 3) := dget dh_192 (k := 1) rfl
theorem dX12_spread_4 : decode cX12_spread 4 = .ok (.ifCond .eq 12, 3) := dget dh_192 (k := 2) rfl
theorem dX12_spread_7 : decode cX12_spread 7 = .ok (.iload_n 2, 1) := dget dh_192 (k := 3) rfl
theorem dX12_spread_8 : decode cX12_spread 8 = .ok (.iconst 0, 1) := dget dh_192 (k := 4) rfl
theorem dX12_spread_9 : decode cX12_spread 9 = .ok (.iconst 3, 1) := dget dh_192 (k := 5) rfl
theorem dX12_spread_10 : decode cX12_spread 10 = .ok (.invokestatic 241, 3) := dget dh_192 (k := 6) rfl
theorem dX12_spread_13 : decode cX12_spread 13 = .ok (.ifCond .ne 7, 3) := dget dh_192 (k := 7) rfl
theorem dX12_spread_16 : decode cX12_spread 16 = .ok (.ldc_w 476, 3) := dget dh_192 (k := 8) rfl
theorem dX12_spread_19 : decode cX12_spread 19 = .ok (.ireturn, 1) := dget dh_192 (k := 9) rfl
theorem dX12_spread_20 : decode cX12_spread 20 = .ok (.iconst 0, 1) := dget dh_192 (k := 10) rfl
theorem dX12_spread_21 : decode cX12_spread 21 = .ok (.istore_n 3, 1) := dget dh_192 (k := 11) rfl
theorem dX12_spread_22 : decode cX12_spread 22 = .ok (.iconst 0, 1) := dget dh_192 (k := 12) rfl
theorem dX12_spread_23 : decode cX12_spread 23 = .ok (.istore 4, 2) := dget dh_192 (k := 13) rfl
theorem dX12_spread_25 : decode cX12_spread 25 = .ok (.iconst 0, 1) := dget dh_192 (k := 14) rfl
theorem dX12_spread_26 : decode cX12_spread 26 = .ok (.istore 5, 2) := dget dh_192 (k := 15) rfl
theorem dX12_spread_28 : decode cX12_spread 28 = .ok (.iconst 0, 1) := dget dh_192 (k := 16) rfl
theorem dX12_spread_29 : decode cX12_spread 29 = .ok (.istore 6, 2) := dget dh_192 (k := 17) rfl
theorem dX12_spread_31 : decode cX12_spread 31 = .ok (.iload 6, 2) := dget dh_192 (k := 18) rfl
theorem dX12_spread_33 : decode cX12_spread 33 = .ok (.aload_n 0, 1) := dget dh_192 (k := 19) rfl
def dl_193 : List (Nat × (Instr × Nat)) := [(34, (.getfield 470, 3)), (37, (.if_icmp .ge 101, 3)), (40, (.aload_n 0, 1)), (41, (.getfield 166, 3)), (44, (.iload 6, 2)), (46, (.iaload, 1)), (47, (.iload_n 1, 1)), (48, (.if_icmp .eq 17, 3)), (51, (.aload_n 0, 1)), (52, (.getfield 169, 3)), (55, (.iload 6, 2)), (57, (.iaload, 1)), (58, (.iload_n 1, 1)), (59, (.if_icmp .eq 6, 3)), (62, (.goto 70, 3)), (65, (.aload_n 0, 1)), (66, (.getfield 166, 3)), (69, (.iload 6, 2)), (71, (.iaload, 1)), (72, (.iload_n 1, 1))]
theorem dh_193 : dchk cX12_spread dl_193 = true := by decide +kernel
theorem dX12_spread_34 : decode cX12_spread 34 = .ok (.getfield 470, 3) := dget dh_193 (k := 0) rfl
theorem dX12_spread_37 : decode cX12_spread 37 = .ok (.if_icmp .ge 101, 3) := dget dh_193 (k := 1) rfl
theorem dX12_spread_40 : decode cX12_spread 40 = .ok (.aload_n 0, 1) := dget dh_193 (k := 2) rfl
theorem dX12_spread_41 : decode cX12_spread 41 = .ok (.getfield 166, 3) := dget dh_193 (k := 3) rfl
theorem dX12_spread_44 : decode cX12_spread 44 = .ok (.iload 6, 2) := dget dh_193 (k := 4) rfl
theorem dX12_spread_46 : decode cX12_spread 46 = .ok (.iaload, 1) := dget dh_193 (k := 5) rfl
theorem dX12_spread_47 : decode cX12_spread 47 = .ok (.iload_n 1, 1) := dget dh_193 (k := 6) rfl
theorem dX12_spread_48 : decode cX12_spread 48 = .ok (.if_icmp .eq 17, 3) := dget dh_193 (k := 7) rfl
theorem dX12_spread_51 : decode cX12_spread 51 = .ok (.aload_n 0, 1) := dget dh_193 (k := 8) rfl
theorem dX12_spread_52 : decode cX12_spread 52 = .ok (.getfield 169, 3) := dget dh_193 (k := 9) rfl
theorem dX12_spread_55 : decode cX12_spread 55 = .ok (.iload 6, 2) := dget dh_193 (k := 10) rfl
theorem dX12_spread_57 : decode cX12_spread 57 = .ok (.iaload, 1) := dget dh_193 (k := 11) rfl
theorem dX12_spread_58 : decode cX12_spread 58 = .ok (.iload_n 1, 1) := dget dh_193 (k := 12) rfl
theorem dX12_spread_59 : decode cX12_spread 59 = .ok (.if_icmp .eq 6, 3) := dget dh_193 (k := 13) rfl
theorem dX12_spread_62 : decode cX12_spread 62 = .ok (.goto 70, 3) := dget dh_193 (k := 14) rfl
theorem dX12_spread_65 : decode cX12_spread 65 = .ok (.aload_n 0, 1) := dget dh_193 (k := 15) rfl
theorem dX12_spread_66 : decode cX12_spread 66 = .ok (.getfield 166, 3) := dget dh_193 (k := 16) rfl
theorem dX12_spread_69 : decode cX12_spread 69 = .ok (.iload 6, 2) := dget dh_193 (k := 17) rfl
theorem dX12_spread_71 : decode cX12_spread 71 = .ok (.iaload, 1) := dget dh_193 (k := 18) rfl
theorem dX12_spread_72 : decode cX12_spread 72 = .ok (.iload_n 1, 1) := dget dh_193 (k := 19) rfl
def dl_194 : List (Nat × (Instr × Nat)) := [(73, (.if_icmp .ne 21, 3)), (76, (.aload_n 0, 1)), (77, (.getfield 172, 3)), (80, (.iload 6, 2)), (82, (.iaload, 1)), (83, (.aload_n 0, 1)), (84, (.getfield 175, 3)), (87, (.iload 6, 2)), (89, (.iaload, 1)), (90, (.isub, 1)), (91, (.goto 18, 3)), (94, (.aload_n 0, 1)), (95, (.getfield 175, 3)), (98, (.iload 6, 2)), (100, (.iaload, 1)), (101, (.aload_n 0, 1)), (102, (.getfield 172, 3)), (105, (.iload 6, 2)), (107, (.iaload, 1)), (108, (.isub, 1))]
theorem dh_194 : dchk cX12_spread dl_194 = true := by decide +kernel
theorem dX12_spread_73 : decode cX12_spread 73 = .ok (.if_icmp .ne 21, 3) := dget dh_194 (k := 0) rfl
theorem dX12_spread_76 : decode cX12_spread 76 = .ok (.aload_n 0, 1) := dget dh_194 (k := 1) rfl
theorem dX12_spread_77 : decode cX12_spread 77 = .ok (.getfield 172, 3) := dget dh_194 (k := 2) rfl
theorem dX12_spread_80 : decode cX12_spread 80 = .ok (.iload 6, 2) := dget dh_194 (k := 3) rfl
theorem dX12_spread_82 : decode cX12_spread 82 = .ok (.iaload, 1) := dget dh_194 (k := 4) rfl
theorem dX12_spread_83 : decode cX12_spread 83 = .ok (.aload_n 0, 1) := dget dh_194 (k := 5) rfl
theorem dX12_spread_84 : decode cX12_spread 84 = .ok (.getfield 175, 3) := dget dh_194 (k := 6) rfl
theorem dX12_spread_87 : decode cX12_spread 87 = .ok (.iload 6, 2) := dget dh_194 (k := 7) rfl
theorem dX12_spread_89 : decode cX12_spread 89 = .ok (.iaload, 1) := dget dh_194 (k := 8) rfl
theorem dX12_spread_90 : decode cX12_spread 90 = .ok (.isub, 1) := dget dh_194 (k := 9) rfl
theorem dX12_spread_91 : decode cX12_spread 91 = .ok (.goto 18, 3) := dget dh_194 (k := 10) rfl
theorem dX12_spread_94 : decode cX12_spread 94 = .ok (.aload_n 0, 1) := dget dh_194 (k := 11) rfl
theorem dX12_spread_95 : decode cX12_spread 95 = .ok (.getfield 175, 3) := dget dh_194 (k := 12) rfl
theorem dX12_spread_98 : decode cX12_spread 98 = .ok (.iload 6, 2) := dget dh_194 (k := 13) rfl
theorem dX12_spread_100 : decode cX12_spread 100 = .ok (.iaload, 1) := dget dh_194 (k := 14) rfl
theorem dX12_spread_101 : decode cX12_spread 101 = .ok (.aload_n 0, 1) := dget dh_194 (k := 15) rfl
theorem dX12_spread_102 : decode cX12_spread 102 = .ok (.getfield 172, 3) := dget dh_194 (k := 16) rfl
theorem dX12_spread_105 : decode cX12_spread 105 = .ok (.iload 6, 2) := dget dh_194 (k := 17) rfl
theorem dX12_spread_107 : decode cX12_spread 107 = .ok (.iaload, 1) := dget dh_194 (k := 18) rfl
theorem dX12_spread_108 : decode cX12_spread 108 = .ok (.isub, 1) := dget dh_194 (k := 19) rfl
def dl_195 : List (Nat × (Instr × Nat)) := [(109, (.istore 7, 2)), (111, (.iload_n 3, 1)), (112, (.iconst 1, 1)), (113, (.iadd, 1)), (114, (.istore_n 3, 1)), (115, (.iload 4, 2)), (117, (.iload 7, 2)), (119, (.invokestatic 473, 3)), (122, (.iadd, 1)), (123, (.istore 4, 2)), (125, (.iload 5, 2)), (127, (.iload 7, 2)), (129, (.iadd, 1)), (130, (.istore 5, 2)), (132, (.iinc 6 1, 3)), (135, (.goto (-104), 3)), (138, (.iload_n 3, 1)), (139, (.ifCond .ne 7, 3)), (142, (.ldc_w 476, 3)), (145, (.ireturn, 1))]
theorem dh_195 : dchk cX12_spread dl_195 = true := by decide +kernel
theorem dX12_spread_109 : decode cX12_spread 109 = .ok (.istore 7, 2) := dget dh_195 (k := 0) rfl
theorem dX12_spread_111 : decode cX12_spread 111 = .ok (.iload_n 3, 1) := dget dh_195 (k := 1) rfl
theorem dX12_spread_112 : decode cX12_spread 112 = .ok (.iconst 1, 1) := dget dh_195 (k := 2) rfl
theorem dX12_spread_113 : decode cX12_spread 113 = .ok (.iadd, 1) := dget dh_195 (k := 3) rfl
theorem dX12_spread_114 : decode cX12_spread 114 = .ok (.istore_n 3, 1) := dget dh_195 (k := 4) rfl
theorem dX12_spread_115 : decode cX12_spread 115 = .ok (.iload 4, 2) := dget dh_195 (k := 5) rfl
theorem dX12_spread_117 : decode cX12_spread 117 = .ok (.iload 7, 2) := dget dh_195 (k := 6) rfl
theorem dX12_spread_119 : decode cX12_spread 119 = .ok (.invokestatic 473, 3) := dget dh_195 (k := 7) rfl
theorem dX12_spread_122 : decode cX12_spread 122 = .ok (.iadd, 1) := dget dh_195 (k := 8) rfl
theorem dX12_spread_123 : decode cX12_spread 123 = .ok (.istore 4, 2) := dget dh_195 (k := 9) rfl
theorem dX12_spread_125 : decode cX12_spread 125 = .ok (.iload 5, 2) := dget dh_195 (k := 10) rfl
theorem dX12_spread_127 : decode cX12_spread 127 = .ok (.iload 7, 2) := dget dh_195 (k := 11) rfl
theorem dX12_spread_129 : decode cX12_spread 129 = .ok (.iadd, 1) := dget dh_195 (k := 12) rfl
theorem dX12_spread_130 : decode cX12_spread 130 = .ok (.istore 5, 2) := dget dh_195 (k := 13) rfl
theorem dX12_spread_132 : decode cX12_spread 132 = .ok (.iinc 6 1, 3) := dget dh_195 (k := 14) rfl
theorem dX12_spread_135 : decode cX12_spread 135 = .ok (.goto (-104), 3) := dget dh_195 (k := 15) rfl
theorem dX12_spread_138 : decode cX12_spread 138 = .ok (.iload_n 3, 1) := dget dh_195 (k := 16) rfl
theorem dX12_spread_139 : decode cX12_spread 139 = .ok (.ifCond .ne 7, 3) := dget dh_195 (k := 17) rfl
theorem dX12_spread_142 : decode cX12_spread 142 = .ok (.ldc_w 476, 3) := dget dh_195 (k := 18) rfl
theorem dX12_spread_145 : decode cX12_spread 145 = .ok (.ireturn, 1) := dget dh_195 (k := 19) rfl
def dl_196 : List (Nat × (Instr × Nat)) := [(146, (.iload_n 2, 1)), (147, (.iconst 2, 1)), (148, (.if_icmp .ge 8, 3)), (151, (.iload 4, 2)), (153, (.goto 5, 3)), (156, (.iload 5, 2)), (158, (.istore 6, 2)), (160, (.iload 6, 2)), (162, (.iload_n 3, 1)), (163, (.invokestatic 477, 3)), (166, (.istore 7, 2)), (168, (.iload_n 2, 1)), (169, (.iconst 2, 1)), (170, (.irem, 1)), (171, (.ifCond .ne 11, 3)), (174, (.iload 6, 2)), (176, (.iload 7, 2)), (178, (.idiv, 1)), (179, (.goto 7, 3)), (182, (.iload_n 3, 1))]
theorem dh_196 : dchk cX12_spread dl_196 = true := by decide +kernel
theorem dX12_spread_146 : decode cX12_spread 146 = .ok (.iload_n 2, 1) := dget dh_196 (k := 0) rfl
theorem dX12_spread_147 : decode cX12_spread 147 = .ok (.iconst 2, 1) := dget dh_196 (k := 1) rfl
theorem dX12_spread_148 : decode cX12_spread 148 = .ok (.if_icmp .ge 8, 3) := dget dh_196 (k := 2) rfl
theorem dX12_spread_151 : decode cX12_spread 151 = .ok (.iload 4, 2) := dget dh_196 (k := 3) rfl
theorem dX12_spread_153 : decode cX12_spread 153 = .ok (.goto 5, 3) := dget dh_196 (k := 4) rfl
theorem dX12_spread_156 : decode cX12_spread 156 = .ok (.iload 5, 2) := dget dh_196 (k := 5) rfl
theorem dX12_spread_158 : decode cX12_spread 158 = .ok (.istore 6, 2) := dget dh_196 (k := 6) rfl
theorem dX12_spread_160 : decode cX12_spread 160 = .ok (.iload 6, 2) := dget dh_196 (k := 7) rfl
theorem dX12_spread_162 : decode cX12_spread 162 = .ok (.iload_n 3, 1) := dget dh_196 (k := 8) rfl
theorem dX12_spread_163 : decode cX12_spread 163 = .ok (.invokestatic 477, 3) := dget dh_196 (k := 9) rfl
theorem dX12_spread_166 : decode cX12_spread 166 = .ok (.istore 7, 2) := dget dh_196 (k := 10) rfl
theorem dX12_spread_168 : decode cX12_spread 168 = .ok (.iload_n 2, 1) := dget dh_196 (k := 11) rfl
theorem dX12_spread_169 : decode cX12_spread 169 = .ok (.iconst 2, 1) := dget dh_196 (k := 12) rfl
theorem dX12_spread_170 : decode cX12_spread 170 = .ok (.irem, 1) := dget dh_196 (k := 13) rfl
theorem dX12_spread_171 : decode cX12_spread 171 = .ok (.ifCond .ne 11, 3) := dget dh_196 (k := 14) rfl
theorem dX12_spread_174 : decode cX12_spread 174 = .ok (.iload 6, 2) := dget dh_196 (k := 15) rfl
theorem dX12_spread_176 : decode cX12_spread 176 = .ok (.iload 7, 2) := dget dh_196 (k := 16) rfl
theorem dX12_spread_178 : decode cX12_spread 178 = .ok (.idiv, 1) := dget dh_196 (k := 17) rfl
theorem dX12_spread_179 : decode cX12_spread 179 = .ok (.goto 7, 3) := dget dh_196 (k := 18) rfl
theorem dX12_spread_182 : decode cX12_spread 182 = .ok (.iload_n 3, 1) := dget dh_196 (k := 19) rfl
def dl_197 : List (Nat × (Instr × Nat)) := [(183, (.iload 7, 2)), (185, (.idiv, 1)), (186, (.ireturn, 1))]
theorem dh_197 : dchk cX12_spread dl_197 = true := by decide +kernel
theorem dX12_spread_183 : decode cX12_spread 183 = .ok (.iload 7, 2) := dget dh_197 (k := 0) rfl
theorem dX12_spread_185 : decode cX12_spread 185 = .ok (.idiv, 1) := dget dh_197 (k := 1) rfl
theorem dX12_spread_186 : decode cX12_spread 186 = .ok (.ireturn, 1) := dget dh_197 (k := 2) rfl
theorem tm_lt (a m : Int) (h : m ≠ 0) : (a.tmod m).natAbs < m.natAbs := by
  rw [Int.natAbs_tmod]; exact Nat.mod_lt _ (by omega)
set_option maxHeartbeats 4000000 in
set_option maxRecDepth 100000 in
theorem c_X12_gcd (l : Launch) (p0 p1 : Int32) (q : p1.toInt ≠ 0) : Met l yX12_gcd (Cond.code yX12_gcd cX12_gcd 5 (some .int) :: gT) { frames := 2, cells := 0, slots := 0, locals := 44 } (va_Pc [.int p0, .int p1] (fun _ => True)) (vp_Si (fun z => z.toInt ≠ 0)) 0 0 (fun _ => False) := by
  refine Met.ofQ (cc := cX12_gcd) (maxL := 5) (ret := (some .int)) (by decide) rfl ?_
  intro p e s m args below meth c s₁ B hml hv Q hQ
  obtain ⟨rfl, -⟩ := hv
  have hx := B.exec
  have hb := B.bytes
  have hr := B.returns
  have hlocks := B.notSynchronized
  have hT : ∀ w ∈ gT, w.before _ s = true := fun w h => atoms_spec (ws := (Cond.code yX12_gcd cX12_gcd 5 (some .int) :: gT)) B.pre w (List.mem_cons_of_mem _ h)
  have hown : s.vm.findClass RX12 = some m.cls := findClass_of_methodNamed B.named
  have hl := lv_entry ([.int p0, .int p1]) (n := 5) (Nat.le_of_ble_eq_true rfl)
  rw [lg_entry_eq]
  generalize (lg_sl ([.int p0, .int p1]) ++ List.replicate (5 - (lg_sl ([.int p0, .int p1])).length) Slot.unset).toArray = ls at hl ⊢
  have hl : lv_has ls 5 [(0, .int p0), (1, .int p1)] := hl
  refine lv_iload_n hx hb dX12_gcd_0 rfl (lv_at hl 0 rfl) ?_
  refine vp_callSi (W.runS (As := [.int p0]) (rest := []) ⟨hx, hb, hml, hown, hT⟩ (c_X12_size l p0) (va_cwS 1 hT (gS t_220 t_221 t_222 t_6) rfl rfl rfl (by decide +kernel) ⟨Nat.le_of_ble_eq_true rfl, Nat.le_of_ble_eq_true rfl⟩) preT rfl rfl hl.1 rfl (lv_room (Nat.le_of_ble_eq_true rfl)) dX12_gcd_1 ⟨Nat.le_of_ble_eq_true rfl, Nat.le_of_ble_eq_true rfl⟩) (fun r_1 hr_1 => ?_)
  refine lv_istore_n (lv' := [(2, .int r_1), (0, .int p0), (1, .int p1)]) hx hb dX12_gcd_4 rfl hl (by decide) rfl (fun ls hl => ?_)
  refine lv_iload_n hx hb dX12_gcd_5 rfl (lv_at hl 2 rfl) ?_
  refine lv_istore_n (lv' := [(3, .int p1), (2, .int r_1), (0, .int p0), (1, .int p1)]) hx hb dX12_gcd_6 rfl hl (by decide) rfl (fun ls hl => ?_)
  have loop_2 : ∀ (n : Nat) (x2_3 : Int32) (x2_2 : Int32) (ls : Array Slot), ((x2_3.toInt.natAbs : Int)).toNat < n → (x2_2.toInt ≠ 0 ∨ x2_3.toInt ≠ 0) → lv_has ls 5 [(3, .int x2_3), (2, .int x2_2), (0, .int p0), (1, .int p1)] → W p l e ({ frames := 2, cells := 0, slots := 0, locals := 44 } : Room) s m ([.int p0, .int p1] : List Value).toArray below meth c s.heap [] 0 0 Q (F0 m 7 ls []) := by
    intro n
    induction n with
    | zero =>
      intro x2_3 x2_2 ls hm2 hx2 hl
      exact absurd hm2 (by omega)
    | succ n ih2 =>
      intro x2_3 x2_2 ls hm2 hx2 hl
      refine lv_iload_n hx hb dX12_gcd_7 rfl (lv_at hl 0 rfl) ?_
      refine lv_if_eq (tgt := 24) hx hb dX12_gcd_8 (by decide) (fun c_3 => ?_) (fun c_3 => ?_)
      · have c_3 : x2_3.toInt = 0 := b_eq c_3
        refine lv_iload_n hx hb dX12_gcd_24 rfl (lv_at hl 1 rfl) ?_
        subst hQ
        exact W.iret (v := x2_2) hx hb hr (fun t ht hW => ⟨_, rfl, (by omega), ht⟩) (fun q hq => absurd hq List.not_mem_nil) dX12_gcd_25
      · have c_3 : x2_3.toInt ≠ 0 := b_ne c_3
        refine lv_iload_n hx hb dX12_gcd_11 rfl (lv_at hl 1 rfl) ?_
        refine lv_iload_n hx hb dX12_gcd_12 rfl (lv_at hl 0 rfl) ?_
        refine lv_irem hx hb dX12_gcd_13 (nz (by omega)) ?_
        refine lv_topi (fun v_4 ev_4 => ?_)
        refine lv_istore (lv' := [(4, .int v_4), (3, .int x2_3), (2, .int x2_2), (0, .int p0), (1, .int p1)]) hx hb dX12_gcd_14 hl (by decide) rfl (fun ls hl => ?_)
        refine lv_iload_n hx hb dX12_gcd_16 rfl (lv_at hl 1 rfl) ?_
        refine lv_istore_n (lv' := [(2, .int x2_3), (4, .int v_4), (3, .int x2_3), (0, .int p0), (1, .int p1)]) hx hb dX12_gcd_17 rfl hl (by decide) rfl (fun ls hl => ?_)
        refine lv_iload hx hb dX12_gcd_18 (lv_at hl 1 rfl) ?_
        refine lv_istore_n (lv' := [(3, .int v_4), (2, .int x2_3), (4, .int v_4), (0, .int p0), (1, .int p1)]) hx hb dX12_gcd_20 rfl hl (by decide) rfl (fun ls hl => ?_)
        refine lv_goto (tgt := 7) hx hb dX12_gcd_21 (by decide) ?_
        have hlt : v_4.toInt.natAbs < x2_3.toInt.natAbs := by rw [ev_4, rem_toInt]; exact tm_lt _ _ (by omega)
        exact ih2 v_4 x2_3 _ (by first | omega | (simp only [Int.toNat]; omega))   (by omega)  (lv_sub hl [0, 1, 3, 4] rfl)
  exact loop_2 _ p1 r_1 _ (Nat.lt_succ_self _)   (by omega)  hl
set_option maxHeartbeats 4000000 in
set_option maxRecDepth 100000 in
theorem c_X12_spread (l : Launch) (D : va_G) (cy : Nat → ClassId) (a : Nat → Nat) (i : Nat → Int32) (r : Nat → Nat → Int32) (rl : Nat → Int64) (p0 p1 : Int32) (hRi : mRi i) (hRr : mRr r) : Met l yX12_spread (Cond.code yX12_spread cX12_spread 8 (some .int) :: gT) { frames := 3, cells := 0, slots := 0, locals := 68 } (va_Pc [.ref (a 0), .int p0, .int p1] (rP D cy (mW cy a i r rl))) (vp_Si (fun z => True)) 0 0 (fun _ => False) := by
  refine Met.ofQ (cc := cX12_spread) (maxL := 8) (ret := (some .int)) (by decide) rfl ?_
  intro p e s m args below meth c s₁ B hml hv Q hQ
  obtain ⟨rfl, hP, hK⟩ := hv
  have hx := B.exec
  have hb := B.bytes
  have hr := B.returns
  have hlocks := B.notSynchronized
  have hT : ∀ w ∈ gT, w.before _ s = true := fun w h => atoms_spec (ws := (Cond.code yX12_spread cX12_spread 8 (some .int) :: gT)) B.pre w (List.mem_cons_of_mem _ h)
  have hown : s.vm.findClass RX12 = some m.cls := findClass_of_methodNamed B.named
  have hl := lv_entry ([.ref (a 0), .int p0, .int p1]) (n := 8) (Nat.le_of_ble_eq_true rfl)
  rw [lg_entry_eq]
  generalize (lg_sl ([.ref (a 0), .int p0, .int p1]) ++ List.replicate (8 - (lg_sl ([.ref (a 0), .int p0, .int p1])).length) Slot.unset).toArray = ls at hl ⊢
  have hl : lv_has ls 8 [(0, .ref (a 0)), (1, .int p0), (2, .int p1)] := hl
  have hEi : mEi [23, 24, 25, 26, 27, 28, 29, 30, 60] i i := Ei_rf
  have hEr : mEr [21, 22, 23, 24, 25, 26, 32, 33, 34, 35, 36, 37, 38, 39, 48, 49, 57, 61, 62] r r := Er_rf
  refine lv_iload_n hx hb dX12_spread_0 rfl (lv_at hl 1 rfl) ?_
  refine vp_callSi (W.runS (As := [.int p0]) (rest := []) ⟨hx, hb, hml, hown, hT⟩ (c_X12_isJudge l p0) (va_cwS 1 hT (gS t_187 t_188 t_189 t_6) rfl rfl rfl (by decide +kernel) ⟨Nat.le_of_ble_eq_true rfl, Nat.le_of_ble_eq_true rfl⟩) preT rfl rfl hl.1 rfl (lv_room (Nat.le_of_ble_eq_true rfl)) dX12_spread_1 ⟨Nat.le_of_ble_eq_true rfl, Nat.le_of_ble_eq_true rfl⟩) (fun r_1 hr_1 => ?_)
  have hr_1 : BR r_1 (0 ≤ p0.toInt ∧ p0.toInt ≤ 5) 1 0 := hr_1
  rcases hr_1 with ⟨rfl, h_2⟩ | ⟨rfl, h_2⟩
  · skip
    refine lv_if_eq (tgt := 16) hx hb dX12_spread_4 (by decide) (fun c_3 => absurd c_3 (by decide)) (fun c_3 => ?_)
    refine lv_iload_n hx hb dX12_spread_7 rfl (lv_at hl 2 rfl) ?_
    refine lv_iconst (v := 0) hx hb dX12_spread_8 (by decide) ?_
    refine lv_iconst (v := 3) hx hb dX12_spread_9 (by decide) ?_
    refine vp_callSi (W.runS (As := [.int p1, .int 0, .int 3]) (rest := []) ⟨hx, hb, hml, hown, hT⟩ (c_X12_in l p1 0 3) (va_cwS 3 hT (gS t_113 t_114 t_115 t_6) rfl rfl rfl (by decide +kernel) ⟨Nat.le_of_ble_eq_true rfl, Nat.le_of_ble_eq_true rfl⟩) preT rfl rfl hl.1 rfl (lv_room (Nat.le_of_ble_eq_true rfl)) dX12_spread_10 ⟨Nat.le_of_ble_eq_true rfl, Nat.le_of_ble_eq_true rfl⟩) (fun r_4 hr_4 => ?_)
    have hr_4 : BR r_4 (0 ≤ p1.toInt ∧ p1.toInt ≤ 3) 1 0 := hr_4
    rcases hr_4 with ⟨rfl, h_5⟩ | ⟨rfl, h_5⟩
    · skip
      refine lv_if_ne (tgt := 20) hx hb dX12_spread_13 (by decide) (fun c_6 => ?_) (fun c_6 => absurd c_6 (by decide))
      refine lv_iconst (v := 0) hx hb dX12_spread_20 (by decide) ?_
      refine lv_istore_n (lv' := [(3, .int 0), (0, .ref (a 0)), (1, .int p0), (2, .int p1)]) hx hb dX12_spread_21 rfl hl (by decide) rfl (fun ls hl => ?_)
      refine lv_iconst (v := 0) hx hb dX12_spread_22 (by decide) ?_
      refine lv_istore (lv' := [(4, .int 0), (3, .int 0), (0, .ref (a 0)), (1, .int p0), (2, .int p1)]) hx hb dX12_spread_23 hl (by decide) rfl (fun ls hl => ?_)
      refine lv_iconst (v := 0) hx hb dX12_spread_25 (by decide) ?_
      refine lv_istore (lv' := [(5, .int 0), (4, .int 0), (3, .int 0), (0, .ref (a 0)), (1, .int p0), (2, .int p1)]) hx hb dX12_spread_26 hl (by decide) rfl (fun ls hl => ?_)
      refine lv_iconst (v := 0) hx hb dX12_spread_28 (by decide) ?_
      refine lv_istore (lv' := [(6, .int 0), (5, .int 0), (4, .int 0), (3, .int 0), (0, .ref (a 0)), (1, .int p0), (2, .int p1)]) hx hb dX12_spread_29 hl (by decide) rfl (fun ls hl => ?_)
      have loop_7 : ∀ (n : Nat) (x7_6 : Int32) (x7_5 : Int32) (x7_4 : Int32) (x7_3 : Int32) (ls : Array Slot), (40 - x7_6.toInt).toNat < n → (0 ≤ x7_6.toInt ∧ x7_6.toInt ≤ 40) → (0 ≤ x7_3.toInt ∧ x7_3.toInt ≤ 40) → (x7_3.toInt ≤ x7_6.toInt) → lv_has ls 8 [(6, .int x7_6), (5, .int x7_5), (4, .int x7_4), (3, .int x7_3), (0, .ref (a 0)), (1, .int p0), (2, .int p1)] → W p l e ({ frames := 3, cells := 0, slots := 0, locals := 68 } : Room) s m ([.ref (a 0), .int p0, .int p1] : List Value).toArray below meth c s.heap [] 0 0 Q (F0 m 31 ls []) := by
        intro n
        induction n with
        | zero =>
          intro x7_6 x7_5 x7_4 x7_3 ls hm7 hf7_0 hf7_1 hx7 hl
          exact absurd hm7 (by omega)
        | succ n ih7 =>
          intro x7_6 x7_5 x7_4 x7_3 ls hm7 hf7_0 hf7_1 hx7 hl
          refine lv_iload hx hb dX12_spread_31 (lv_at hl 0 rfl) ?_
          refine lv_aload_n hx hb dX12_spread_33 rfl (lv_at hl 4 rfl) ?_
          refine va_get (D := D) (ci := 12) (v := .int (i 63)) (C := RX12) (T := TX12) (N := 91) hx hb hT iX12 hown hK hP 0 rfl rfl 63 (by decide) (hT _ t_191) (fun _ h9 => h9) rfl dX12_spread_34 ?_
          have hg_8 : 0 ≤ (i 63).toInt ∧ (i 63).toInt ≤ 40 := hRi 63
          refine lv_icmp_ge (tgt := 138) hx hb dX12_spread_37 (by decide) (fun c_9 => ?_) (fun c_9 => ?_)
          · have c_9 : (i 63).toInt ≤ x7_6.toInt := b_le c_9
            refine lv_iload_n hx hb dX12_spread_138 rfl (lv_at hl 3 rfl) ?_
            refine lv_if_ne (tgt := 146) hx hb dX12_spread_139 (by decide) (fun c_10 => ?_) (fun c_10 => ?_)
            · have c_10 : x7_3.toInt ≠ 0 := b_ne c_10
              refine lv_iload_n hx hb dX12_spread_146 rfl (lv_at hl 6 rfl) ?_
              refine lv_iconst (v := 2) hx hb dX12_spread_147 (by decide) ?_
              refine lv_icmp_ge (tgt := 156) hx hb dX12_spread_148 (by decide) (fun c_11 => ?_) (fun c_11 => ?_)
              · have c_11 : 2 ≤ p1.toInt := b_le c_11
                refine lv_iload hx hb dX12_spread_156 (lv_at hl 1 rfl) ?_
                refine lv_istore (lv' := [(6, .int x7_5), (5, .int x7_5), (4, .int x7_4), (3, .int x7_3), (0, .ref (a 0)), (1, .int p0), (2, .int p1)]) hx hb dX12_spread_158 hl (by decide) rfl (fun ls hl => ?_)
                refine lv_iload hx hb dX12_spread_160 (lv_at hl 0 rfl) ?_
                refine lv_iload_n hx hb dX12_spread_162 rfl (lv_at hl 3 rfl) ?_
                refine vp_callSi (W.runS (As := [.int x7_5, .int x7_3]) (rest := []) ⟨hx, hb, hml, hown, hT⟩ (c_X12_gcd l x7_5 x7_3 (by omega)) (va_cwS 2 hT (gS t_248 t_249 t_250 t_6) rfl rfl rfl (by decide +kernel) ⟨Nat.le_of_ble_eq_true rfl, Nat.le_of_ble_eq_true rfl⟩) preT rfl rfl hl.1 rfl (lv_room (Nat.le_of_ble_eq_true rfl)) dX12_spread_163 ⟨Nat.le_of_ble_eq_true rfl, Nat.le_of_ble_eq_true rfl⟩) (fun r_12 hr_12 => ?_)
                refine lv_istore (lv' := [(7, .int r_12), (6, .int x7_5), (5, .int x7_5), (4, .int x7_4), (3, .int x7_3), (0, .ref (a 0)), (1, .int p0), (2, .int p1)]) hx hb dX12_spread_166 hl (by decide) rfl (fun ls hl => ?_)
                refine lv_iload_n hx hb dX12_spread_168 rfl (lv_at hl 7 rfl) ?_
                refine lv_iconst (v := 2) hx hb dX12_spread_169 (by decide) ?_
                refine lv_irem hx hb dX12_spread_170 (by decide) ?_
                refine lv_topi (fun v_13 ev_13 => ?_)
                refine lv_if_ne (tgt := 182) hx hb dX12_spread_171 (by decide) (fun c_14 => ?_) (fun c_14 => ?_)
                · have c_14 : v_13.toInt ≠ 0 := b_ne c_14
                  refine lv_iload_n hx hb dX12_spread_182 rfl (lv_at hl 4 rfl) ?_
                  refine lv_iload hx hb dX12_spread_183 (lv_at hl 0 rfl) ?_
                  refine lv_idiv hx hb dX12_spread_185 (nz (by omega)) ?_
                  refine lv_topi (fun v_15 ev_15 => ?_)
                  subst hQ
                  exact W.iret (v := v_15) hx hb hr (fun t ht hW => ⟨_, rfl, trivial, ht⟩) (fun q hq => absurd hq List.not_mem_nil) dX12_spread_186
                · have c_14 : v_13.toInt = 0 := b_nne c_14
                  refine lv_iload hx hb dX12_spread_174 (lv_at hl 1 rfl) ?_
                  refine lv_iload hx hb dX12_spread_176 (lv_at hl 0 rfl) ?_
                  refine lv_idiv hx hb dX12_spread_178 (nz (by omega)) ?_
                  refine lv_topi (fun v_16 ev_16 => ?_)
                  refine lv_goto (tgt := 186) hx hb dX12_spread_179 (by decide) ?_
                  subst hQ
                  exact W.iret (v := v_16) hx hb hr (fun t ht hW => ⟨_, rfl, trivial, ht⟩) (fun q hq => absurd hq List.not_mem_nil) dX12_spread_186
              · have c_11 : p1.toInt < 2 := b_nle c_11
                refine lv_iload hx hb dX12_spread_151 (lv_at hl 2 rfl) ?_
                refine lv_goto (tgt := 158) hx hb dX12_spread_153 (by decide) ?_
                refine lv_istore (lv' := [(6, .int x7_4), (5, .int x7_5), (4, .int x7_4), (3, .int x7_3), (0, .ref (a 0)), (1, .int p0), (2, .int p1)]) hx hb dX12_spread_158 hl (by decide) rfl (fun ls hl => ?_)
                refine lv_iload hx hb dX12_spread_160 (lv_at hl 0 rfl) ?_
                refine lv_iload_n hx hb dX12_spread_162 rfl (lv_at hl 3 rfl) ?_
                refine vp_callSi (W.runS (As := [.int x7_4, .int x7_3]) (rest := []) ⟨hx, hb, hml, hown, hT⟩ (c_X12_gcd l x7_4 x7_3 (by omega)) (va_cwS 2 hT (gS t_248 t_249 t_250 t_6) rfl rfl rfl (by decide +kernel) ⟨Nat.le_of_ble_eq_true rfl, Nat.le_of_ble_eq_true rfl⟩) preT rfl rfl hl.1 rfl (lv_room (Nat.le_of_ble_eq_true rfl)) dX12_spread_163 ⟨Nat.le_of_ble_eq_true rfl, Nat.le_of_ble_eq_true rfl⟩) (fun r_17 hr_17 => ?_)
                refine lv_istore (lv' := [(7, .int r_17), (6, .int x7_4), (5, .int x7_5), (4, .int x7_4), (3, .int x7_3), (0, .ref (a 0)), (1, .int p0), (2, .int p1)]) hx hb dX12_spread_166 hl (by decide) rfl (fun ls hl => ?_)
                refine lv_iload_n hx hb dX12_spread_168 rfl (lv_at hl 7 rfl) ?_
                refine lv_iconst (v := 2) hx hb dX12_spread_169 (by decide) ?_
                refine lv_irem hx hb dX12_spread_170 (by decide) ?_
                refine lv_topi (fun v_18 ev_18 => ?_)
                refine lv_if_ne (tgt := 182) hx hb dX12_spread_171 (by decide) (fun c_19 => ?_) (fun c_19 => ?_)
                · have c_19 : v_18.toInt ≠ 0 := b_ne c_19
                  refine lv_iload_n hx hb dX12_spread_182 rfl (lv_at hl 4 rfl) ?_
                  refine lv_iload hx hb dX12_spread_183 (lv_at hl 0 rfl) ?_
                  refine lv_idiv hx hb dX12_spread_185 (nz (by omega)) ?_
                  refine lv_topi (fun v_20 ev_20 => ?_)
                  subst hQ
                  exact W.iret (v := v_20) hx hb hr (fun t ht hW => ⟨_, rfl, trivial, ht⟩) (fun q hq => absurd hq List.not_mem_nil) dX12_spread_186
                · have c_19 : v_18.toInt = 0 := b_nne c_19
                  refine lv_iload hx hb dX12_spread_174 (lv_at hl 1 rfl) ?_
                  refine lv_iload hx hb dX12_spread_176 (lv_at hl 0 rfl) ?_
                  refine lv_idiv hx hb dX12_spread_178 (nz (by omega)) ?_
                  refine lv_topi (fun v_21 ev_21 => ?_)
                  refine lv_goto (tgt := 186) hx hb dX12_spread_179 (by decide) ?_
                  subst hQ
                  exact W.iret (v := v_21) hx hb hr (fun t ht hW => ⟨_, rfl, trivial, ht⟩) (fun q hq => absurd hq List.not_mem_nil) dX12_spread_186
            · have c_10 : x7_3.toInt = 0 := b_nne c_10
              refine lv_ldcw (v := (-1000000)) hx hb hown (hT _ t_251) dX12_spread_142 ?_
              subst hQ
              exact W.iret (v := (-1000000)) hx hb hr (fun t ht hW => ⟨_, rfl, trivial, ht⟩) (fun q hq => absurd hq List.not_mem_nil) dX12_spread_145
          · have c_9 : x7_6.toInt < (i 63).toInt := b_nle c_9
            refine lv_aload_n hx hb dX12_spread_40 rfl (lv_at hl 4 rfl) ?_
            refine va_get (D := D) (ci := 12) (v := .ref (a 52)) (C := RX12) (T := TX12) (N := 91) hx hb hT iX12 hown hK hP 0 rfl rfl 66 (by decide) (hT _ t_192) (fun _ h9 => h9) rfl dX12_spread_41 ?_
            refine lv_iload hx hb dX12_spread_44 (lv_at hl 0 rfl) ?_
            refine va_iald hx hb hK hP 52 0 rfl rfl (vp_inI (by omega) (by omega)) dX12_spread_46 ?_
            refine lv_topi (fun v_22 ev_22 => ?_)
            have hgv_22 : 0 ≤ v_22.toInt ∧ v_22.toInt ≤ 5 := by rw [ev_22]; exact hRr 52 _
            refine lv_iload_n hx hb dX12_spread_47 rfl (lv_at hl 5 rfl) ?_
            refine lv_icmp_eq (tgt := 65) hx hb dX12_spread_48 (by decide) (fun c_23 => ?_) (fun c_23 => ?_)
            · have c_23 : v_22.toInt = p0.toInt := b_eq c_23
              refine lv_aload_n hx hb dX12_spread_65 rfl (lv_at hl 4 rfl) ?_
              refine va_get (D := D) (ci := 12) (v := .ref (a 52)) (C := RX12) (T := TX12) (N := 91) hx hb hT iX12 hown hK hP 0 rfl rfl 66 (by decide) (hT _ t_192) (fun _ h9 => h9) rfl dX12_spread_66 ?_
              refine lv_iload hx hb dX12_spread_69 (lv_at hl 0 rfl) ?_
              refine va_iald hx hb hK hP 52 0 rfl rfl (vp_inI (by omega) (by omega)) dX12_spread_71 ?_
              refine lv_topi (fun v_24 ev_24 => ?_)
              have hgv_24 : 0 ≤ v_24.toInt ∧ v_24.toInt ≤ 5 := by rw [ev_24]; exact hRr 52 _
              refine lv_iload_n hx hb dX12_spread_72 rfl (lv_at hl 5 rfl) ?_
              refine lv_icmp_ne (tgt := 94) hx hb dX12_spread_73 (by decide) (fun c_25 => ?_) (fun c_25 => ?_)
              · have c_25 : v_24.toInt ≠ p0.toInt := b_ne c_25
                refine lv_aload_n hx hb dX12_spread_94 rfl (lv_at hl 4 rfl) ?_
                refine va_get (D := D) (ci := 12) (v := .ref (a 55)) (C := RX12) (T := TX12) (N := 91) hx hb hT iX12 hown hK hP 0 rfl rfl 69 (by decide) (hT _ t_195) (fun _ h9 => h9) rfl dX12_spread_95 ?_
                refine lv_iload hx hb dX12_spread_98 (lv_at hl 0 rfl) ?_
                refine va_iald hx hb hK hP 55 0 rfl rfl (vp_inI (by omega) (by omega)) dX12_spread_100 ?_
                refine lv_topi (fun v_26 ev_26 => ?_)
                have hgv_26 : 0 ≤ v_26.toInt ∧ v_26.toInt ≤ 9999 := by rw [ev_26]; exact hRr 55 _
                refine lv_aload_n hx hb dX12_spread_101 rfl (lv_at hl 4 rfl) ?_
                refine va_get (D := D) (ci := 12) (v := .ref (a 54)) (C := RX12) (T := TX12) (N := 91) hx hb hT iX12 hown hK hP 0 rfl rfl 68 (by decide) (hT _ t_194) (fun _ h9 => h9) rfl dX12_spread_102 ?_
                refine lv_iload hx hb dX12_spread_105 (lv_at hl 0 rfl) ?_
                refine va_iald hx hb hK hP 54 0 rfl rfl (vp_inI (by omega) (by omega)) dX12_spread_107 ?_
                refine lv_topi (fun v_27 ev_27 => ?_)
                have hgv_27 : 0 ≤ v_27.toInt ∧ v_27.toInt ≤ 9999 := by rw [ev_27]; exact hRr 54 _
                refine lv_isub hx hb dX12_spread_108 ?_
                refine lv_topi (fun v_28 ev_28 => ?_)
                have hv_28 : v_28.toInt = v_26.toInt - v_27.toInt := by rw [ev_28]; have := b_rg v_26; have := b_rg v_27; exact i_sub (a := v_26.toInt) (b := v_27.toInt) rfl rfl (by omega) (by omega)
                refine lv_istore (lv' := [(7, .int v_28), (6, .int x7_6), (5, .int x7_5), (4, .int x7_4), (3, .int x7_3), (0, .ref (a 0)), (1, .int p0), (2, .int p1)]) hx hb dX12_spread_109 hl (by decide) rfl (fun ls hl => ?_)
                refine lv_iload_n hx hb dX12_spread_111 rfl (lv_at hl 4 rfl) ?_
                refine lv_iconst (v := 1) hx hb dX12_spread_112 (by decide) ?_
                refine lv_iadd hx hb dX12_spread_113 ?_
                refine lv_topi (fun v_29 ev_29 => ?_)
                have hv_29 : v_29.toInt = x7_3.toInt + 1 := by rw [ev_29]; have := b_rg x7_3; exact i_add (a := x7_3.toInt) (b := 1) rfl rfl (by omega) (by omega)
                refine lv_istore_n (lv' := [(3, .int v_29), (7, .int v_28), (6, .int x7_6), (5, .int x7_5), (4, .int x7_4), (0, .ref (a 0)), (1, .int p0), (2, .int p1)]) hx hb dX12_spread_114 rfl hl (by decide) rfl (fun ls hl => ?_)
                refine lv_iload hx hb dX12_spread_115 (lv_at hl 4 rfl) ?_
                refine lv_iload hx hb dX12_spread_117 (lv_at hl 1 rfl) ?_
                refine vp_callSi (W.runS (As := [.int v_28]) (rest := [.int x7_4]) ⟨hx, hb, hml, hown, hT⟩ (c_X12_size l v_28) (va_cwS 1 hT (gS t_220 t_221 t_222 t_6) rfl rfl rfl (by decide +kernel) ⟨Nat.le_of_ble_eq_true rfl, Nat.le_of_ble_eq_true rfl⟩) preT rfl rfl hl.1 rfl (lv_room (Nat.le_of_ble_eq_true rfl)) dX12_spread_119 ⟨Nat.le_of_ble_eq_true rfl, Nat.le_of_ble_eq_true rfl⟩) (fun r_30 hr_30 => ?_)
                refine lv_iadd hx hb dX12_spread_122 ?_
                refine lv_topi (fun v_31 ev_31 => ?_)
                refine lv_istore (lv' := [(4, .int v_31), (3, .int v_29), (7, .int v_28), (6, .int x7_6), (5, .int x7_5), (0, .ref (a 0)), (1, .int p0), (2, .int p1)]) hx hb dX12_spread_123 hl (by decide) rfl (fun ls hl => ?_)
                refine lv_iload hx hb dX12_spread_125 (lv_at hl 4 rfl) ?_
                refine lv_iload hx hb dX12_spread_127 (lv_at hl 2 rfl) ?_
                refine lv_iadd hx hb dX12_spread_129 ?_
                refine lv_topi (fun v_32 ev_32 => ?_)
                refine lv_istore (lv' := [(5, .int v_32), (4, .int v_31), (3, .int v_29), (7, .int v_28), (6, .int x7_6), (0, .ref (a 0)), (1, .int p0), (2, .int p1)]) hx hb dX12_spread_130 hl (by decide) rfl (fun ls hl => ?_)
                obtain ⟨x_33, ex_33⟩ : ∃ y : Int32, y = x7_6 + 1 := ⟨_, rfl⟩
                refine lv_iinc (v := x_33) (lv' := [(6, .int x_33), (5, .int v_32), (4, .int v_31), (3, .int v_29), (7, .int v_28), (0, .ref (a 0)), (1, .int p0), (2, .int p1)]) hx hb dX12_spread_132 hl (k := 4) rfl (by rw [ex_33]; rfl) (by decide) rfl (fun ls hl => ?_)
                have hx_33 : x_33.toInt = x7_6.toInt + 1 := by rw [ex_33]; have := b_rg x7_6; exact i_add (a := x7_6.toInt) (b := 1) rfl rfl (by omega) (by omega)
                refine lv_goto (tgt := 31) hx hb dX12_spread_135 (by decide) ?_
                exact ih7 x_33 v_32 v_31 v_29 _ (by first | omega | (simp only [Int.toNat]; omega)) (by first | omega | decide) (by first | omega | decide)  (by omega)  (lv_sub hl [0, 1, 2, 3, 5, 6, 7] rfl)
              · have c_25 : v_24.toInt = p0.toInt := b_nne c_25
                refine lv_aload_n hx hb dX12_spread_76 rfl (lv_at hl 4 rfl) ?_
                refine va_get (D := D) (ci := 12) (v := .ref (a 54)) (C := RX12) (T := TX12) (N := 91) hx hb hT iX12 hown hK hP 0 rfl rfl 68 (by decide) (hT _ t_194) (fun _ h9 => h9) rfl dX12_spread_77 ?_
                refine lv_iload hx hb dX12_spread_80 (lv_at hl 0 rfl) ?_
                refine va_iald hx hb hK hP 54 0 rfl rfl (vp_inI (by omega) (by omega)) dX12_spread_82 ?_
                refine lv_topi (fun v_34 ev_34 => ?_)
                have hgv_34 : 0 ≤ v_34.toInt ∧ v_34.toInt ≤ 9999 := by rw [ev_34]; exact hRr 54 _
                refine lv_aload_n hx hb dX12_spread_83 rfl (lv_at hl 4 rfl) ?_
                refine va_get (D := D) (ci := 12) (v := .ref (a 55)) (C := RX12) (T := TX12) (N := 91) hx hb hT iX12 hown hK hP 0 rfl rfl 69 (by decide) (hT _ t_195) (fun _ h9 => h9) rfl dX12_spread_84 ?_
                refine lv_iload hx hb dX12_spread_87 (lv_at hl 0 rfl) ?_
                refine va_iald hx hb hK hP 55 0 rfl rfl (vp_inI (by omega) (by omega)) dX12_spread_89 ?_
                refine lv_topi (fun v_35 ev_35 => ?_)
                have hgv_35 : 0 ≤ v_35.toInt ∧ v_35.toInt ≤ 9999 := by rw [ev_35]; exact hRr 55 _
                refine lv_isub hx hb dX12_spread_90 ?_
                refine lv_topi (fun v_36 ev_36 => ?_)
                have hv_36 : v_36.toInt = v_34.toInt - v_35.toInt := by rw [ev_36]; have := b_rg v_34; have := b_rg v_35; exact i_sub (a := v_34.toInt) (b := v_35.toInt) rfl rfl (by omega) (by omega)
                refine lv_goto (tgt := 109) hx hb dX12_spread_91 (by decide) ?_
                refine lv_istore (lv' := [(7, .int v_36), (6, .int x7_6), (5, .int x7_5), (4, .int x7_4), (3, .int x7_3), (0, .ref (a 0)), (1, .int p0), (2, .int p1)]) hx hb dX12_spread_109 hl (by decide) rfl (fun ls hl => ?_)
                refine lv_iload_n hx hb dX12_spread_111 rfl (lv_at hl 4 rfl) ?_
                refine lv_iconst (v := 1) hx hb dX12_spread_112 (by decide) ?_
                refine lv_iadd hx hb dX12_spread_113 ?_
                refine lv_topi (fun v_37 ev_37 => ?_)
                have hv_37 : v_37.toInt = x7_3.toInt + 1 := by rw [ev_37]; have := b_rg x7_3; exact i_add (a := x7_3.toInt) (b := 1) rfl rfl (by omega) (by omega)
                refine lv_istore_n (lv' := [(3, .int v_37), (7, .int v_36), (6, .int x7_6), (5, .int x7_5), (4, .int x7_4), (0, .ref (a 0)), (1, .int p0), (2, .int p1)]) hx hb dX12_spread_114 rfl hl (by decide) rfl (fun ls hl => ?_)
                refine lv_iload hx hb dX12_spread_115 (lv_at hl 4 rfl) ?_
                refine lv_iload hx hb dX12_spread_117 (lv_at hl 1 rfl) ?_
                refine vp_callSi (W.runS (As := [.int v_36]) (rest := [.int x7_4]) ⟨hx, hb, hml, hown, hT⟩ (c_X12_size l v_36) (va_cwS 1 hT (gS t_220 t_221 t_222 t_6) rfl rfl rfl (by decide +kernel) ⟨Nat.le_of_ble_eq_true rfl, Nat.le_of_ble_eq_true rfl⟩) preT rfl rfl hl.1 rfl (lv_room (Nat.le_of_ble_eq_true rfl)) dX12_spread_119 ⟨Nat.le_of_ble_eq_true rfl, Nat.le_of_ble_eq_true rfl⟩) (fun r_38 hr_38 => ?_)
                refine lv_iadd hx hb dX12_spread_122 ?_
                refine lv_topi (fun v_39 ev_39 => ?_)
                refine lv_istore (lv' := [(4, .int v_39), (3, .int v_37), (7, .int v_36), (6, .int x7_6), (5, .int x7_5), (0, .ref (a 0)), (1, .int p0), (2, .int p1)]) hx hb dX12_spread_123 hl (by decide) rfl (fun ls hl => ?_)
                refine lv_iload hx hb dX12_spread_125 (lv_at hl 4 rfl) ?_
                refine lv_iload hx hb dX12_spread_127 (lv_at hl 2 rfl) ?_
                refine lv_iadd hx hb dX12_spread_129 ?_
                refine lv_topi (fun v_40 ev_40 => ?_)
                refine lv_istore (lv' := [(5, .int v_40), (4, .int v_39), (3, .int v_37), (7, .int v_36), (6, .int x7_6), (0, .ref (a 0)), (1, .int p0), (2, .int p1)]) hx hb dX12_spread_130 hl (by decide) rfl (fun ls hl => ?_)
                obtain ⟨x_41, ex_41⟩ : ∃ y : Int32, y = x7_6 + 1 := ⟨_, rfl⟩
                refine lv_iinc (v := x_41) (lv' := [(6, .int x_41), (5, .int v_40), (4, .int v_39), (3, .int v_37), (7, .int v_36), (0, .ref (a 0)), (1, .int p0), (2, .int p1)]) hx hb dX12_spread_132 hl (k := 4) rfl (by rw [ex_41]; rfl) (by decide) rfl (fun ls hl => ?_)
                have hx_41 : x_41.toInt = x7_6.toInt + 1 := by rw [ex_41]; have := b_rg x7_6; exact i_add (a := x7_6.toInt) (b := 1) rfl rfl (by omega) (by omega)
                refine lv_goto (tgt := 31) hx hb dX12_spread_135 (by decide) ?_
                exact ih7 x_41 v_40 v_39 v_37 _ (by first | omega | (simp only [Int.toNat]; omega)) (by first | omega | decide) (by first | omega | decide)  (by omega)  (lv_sub hl [0, 1, 2, 3, 5, 6, 7] rfl)
            · have c_23 : v_22.toInt ≠ p0.toInt := b_ne c_23
              refine lv_aload_n hx hb dX12_spread_51 rfl (lv_at hl 4 rfl) ?_
              refine va_get (D := D) (ci := 12) (v := .ref (a 53)) (C := RX12) (T := TX12) (N := 91) hx hb hT iX12 hown hK hP 0 rfl rfl 67 (by decide) (hT _ t_193) (fun _ h9 => h9) rfl dX12_spread_52 ?_
              refine lv_iload hx hb dX12_spread_55 (lv_at hl 0 rfl) ?_
              refine va_iald hx hb hK hP 53 0 rfl rfl (vp_inI (by omega) (by omega)) dX12_spread_57 ?_
              refine lv_topi (fun v_42 ev_42 => ?_)
              have hgv_42 : 0 ≤ v_42.toInt ∧ v_42.toInt ≤ 5 := by rw [ev_42]; exact hRr 53 _
              refine lv_iload_n hx hb dX12_spread_58 rfl (lv_at hl 5 rfl) ?_
              refine lv_icmp_eq (tgt := 65) hx hb dX12_spread_59 (by decide) (fun c_43 => ?_) (fun c_43 => ?_)
              · have c_43 : v_42.toInt = p0.toInt := b_eq c_43
                refine lv_aload_n hx hb dX12_spread_65 rfl (lv_at hl 4 rfl) ?_
                refine va_get (D := D) (ci := 12) (v := .ref (a 52)) (C := RX12) (T := TX12) (N := 91) hx hb hT iX12 hown hK hP 0 rfl rfl 66 (by decide) (hT _ t_192) (fun _ h9 => h9) rfl dX12_spread_66 ?_
                refine lv_iload hx hb dX12_spread_69 (lv_at hl 0 rfl) ?_
                refine va_iald hx hb hK hP 52 0 rfl rfl (vp_inI (by omega) (by omega)) dX12_spread_71 ?_
                refine lv_topi (fun v_44 ev_44 => ?_)
                have hgv_44 : 0 ≤ v_44.toInt ∧ v_44.toInt ≤ 5 := by rw [ev_44]; exact hRr 52 _
                refine lv_iload_n hx hb dX12_spread_72 rfl (lv_at hl 5 rfl) ?_
                refine lv_icmp_ne (tgt := 94) hx hb dX12_spread_73 (by decide) (fun c_45 => ?_) (fun c_45 => ?_)
                · have c_45 : v_44.toInt ≠ p0.toInt := b_ne c_45
                  refine lv_aload_n hx hb dX12_spread_94 rfl (lv_at hl 4 rfl) ?_
                  refine va_get (D := D) (ci := 12) (v := .ref (a 55)) (C := RX12) (T := TX12) (N := 91) hx hb hT iX12 hown hK hP 0 rfl rfl 69 (by decide) (hT _ t_195) (fun _ h9 => h9) rfl dX12_spread_95 ?_
                  refine lv_iload hx hb dX12_spread_98 (lv_at hl 0 rfl) ?_
                  refine va_iald hx hb hK hP 55 0 rfl rfl (vp_inI (by omega) (by omega)) dX12_spread_100 ?_
                  refine lv_topi (fun v_46 ev_46 => ?_)
                  have hgv_46 : 0 ≤ v_46.toInt ∧ v_46.toInt ≤ 9999 := by rw [ev_46]; exact hRr 55 _
                  refine lv_aload_n hx hb dX12_spread_101 rfl (lv_at hl 4 rfl) ?_
                  refine va_get (D := D) (ci := 12) (v := .ref (a 54)) (C := RX12) (T := TX12) (N := 91) hx hb hT iX12 hown hK hP 0 rfl rfl 68 (by decide) (hT _ t_194) (fun _ h9 => h9) rfl dX12_spread_102 ?_
                  refine lv_iload hx hb dX12_spread_105 (lv_at hl 0 rfl) ?_
                  refine va_iald hx hb hK hP 54 0 rfl rfl (vp_inI (by omega) (by omega)) dX12_spread_107 ?_
                  refine lv_topi (fun v_47 ev_47 => ?_)
                  have hgv_47 : 0 ≤ v_47.toInt ∧ v_47.toInt ≤ 9999 := by rw [ev_47]; exact hRr 54 _
                  refine lv_isub hx hb dX12_spread_108 ?_
                  refine lv_topi (fun v_48 ev_48 => ?_)
                  have hv_48 : v_48.toInt = v_46.toInt - v_47.toInt := by rw [ev_48]; have := b_rg v_46; have := b_rg v_47; exact i_sub (a := v_46.toInt) (b := v_47.toInt) rfl rfl (by omega) (by omega)
                  refine lv_istore (lv' := [(7, .int v_48), (6, .int x7_6), (5, .int x7_5), (4, .int x7_4), (3, .int x7_3), (0, .ref (a 0)), (1, .int p0), (2, .int p1)]) hx hb dX12_spread_109 hl (by decide) rfl (fun ls hl => ?_)
                  refine lv_iload_n hx hb dX12_spread_111 rfl (lv_at hl 4 rfl) ?_
                  refine lv_iconst (v := 1) hx hb dX12_spread_112 (by decide) ?_
                  refine lv_iadd hx hb dX12_spread_113 ?_
                  refine lv_topi (fun v_49 ev_49 => ?_)
                  have hv_49 : v_49.toInt = x7_3.toInt + 1 := by rw [ev_49]; have := b_rg x7_3; exact i_add (a := x7_3.toInt) (b := 1) rfl rfl (by omega) (by omega)
                  refine lv_istore_n (lv' := [(3, .int v_49), (7, .int v_48), (6, .int x7_6), (5, .int x7_5), (4, .int x7_4), (0, .ref (a 0)), (1, .int p0), (2, .int p1)]) hx hb dX12_spread_114 rfl hl (by decide) rfl (fun ls hl => ?_)
                  refine lv_iload hx hb dX12_spread_115 (lv_at hl 4 rfl) ?_
                  refine lv_iload hx hb dX12_spread_117 (lv_at hl 1 rfl) ?_
                  refine vp_callSi (W.runS (As := [.int v_48]) (rest := [.int x7_4]) ⟨hx, hb, hml, hown, hT⟩ (c_X12_size l v_48) (va_cwS 1 hT (gS t_220 t_221 t_222 t_6) rfl rfl rfl (by decide +kernel) ⟨Nat.le_of_ble_eq_true rfl, Nat.le_of_ble_eq_true rfl⟩) preT rfl rfl hl.1 rfl (lv_room (Nat.le_of_ble_eq_true rfl)) dX12_spread_119 ⟨Nat.le_of_ble_eq_true rfl, Nat.le_of_ble_eq_true rfl⟩) (fun r_50 hr_50 => ?_)
                  refine lv_iadd hx hb dX12_spread_122 ?_
                  refine lv_topi (fun v_51 ev_51 => ?_)
                  refine lv_istore (lv' := [(4, .int v_51), (3, .int v_49), (7, .int v_48), (6, .int x7_6), (5, .int x7_5), (0, .ref (a 0)), (1, .int p0), (2, .int p1)]) hx hb dX12_spread_123 hl (by decide) rfl (fun ls hl => ?_)
                  refine lv_iload hx hb dX12_spread_125 (lv_at hl 4 rfl) ?_
                  refine lv_iload hx hb dX12_spread_127 (lv_at hl 2 rfl) ?_
                  refine lv_iadd hx hb dX12_spread_129 ?_
                  refine lv_topi (fun v_52 ev_52 => ?_)
                  refine lv_istore (lv' := [(5, .int v_52), (4, .int v_51), (3, .int v_49), (7, .int v_48), (6, .int x7_6), (0, .ref (a 0)), (1, .int p0), (2, .int p1)]) hx hb dX12_spread_130 hl (by decide) rfl (fun ls hl => ?_)
                  obtain ⟨x_53, ex_53⟩ : ∃ y : Int32, y = x7_6 + 1 := ⟨_, rfl⟩
                  refine lv_iinc (v := x_53) (lv' := [(6, .int x_53), (5, .int v_52), (4, .int v_51), (3, .int v_49), (7, .int v_48), (0, .ref (a 0)), (1, .int p0), (2, .int p1)]) hx hb dX12_spread_132 hl (k := 4) rfl (by rw [ex_53]; rfl) (by decide) rfl (fun ls hl => ?_)
                  have hx_53 : x_53.toInt = x7_6.toInt + 1 := by rw [ex_53]; have := b_rg x7_6; exact i_add (a := x7_6.toInt) (b := 1) rfl rfl (by omega) (by omega)
                  refine lv_goto (tgt := 31) hx hb dX12_spread_135 (by decide) ?_
                  exact ih7 x_53 v_52 v_51 v_49 _ (by first | omega | (simp only [Int.toNat]; omega)) (by first | omega | decide) (by first | omega | decide)  (by omega)  (lv_sub hl [0, 1, 2, 3, 5, 6, 7] rfl)
                · have c_45 : v_44.toInt = p0.toInt := b_nne c_45
                  refine lv_aload_n hx hb dX12_spread_76 rfl (lv_at hl 4 rfl) ?_
                  refine va_get (D := D) (ci := 12) (v := .ref (a 54)) (C := RX12) (T := TX12) (N := 91) hx hb hT iX12 hown hK hP 0 rfl rfl 68 (by decide) (hT _ t_194) (fun _ h9 => h9) rfl dX12_spread_77 ?_
                  refine lv_iload hx hb dX12_spread_80 (lv_at hl 0 rfl) ?_
                  refine va_iald hx hb hK hP 54 0 rfl rfl (vp_inI (by omega) (by omega)) dX12_spread_82 ?_
                  refine lv_topi (fun v_54 ev_54 => ?_)
                  have hgv_54 : 0 ≤ v_54.toInt ∧ v_54.toInt ≤ 9999 := by rw [ev_54]; exact hRr 54 _
                  refine lv_aload_n hx hb dX12_spread_83 rfl (lv_at hl 4 rfl) ?_
                  refine va_get (D := D) (ci := 12) (v := .ref (a 55)) (C := RX12) (T := TX12) (N := 91) hx hb hT iX12 hown hK hP 0 rfl rfl 69 (by decide) (hT _ t_195) (fun _ h9 => h9) rfl dX12_spread_84 ?_
                  refine lv_iload hx hb dX12_spread_87 (lv_at hl 0 rfl) ?_
                  refine va_iald hx hb hK hP 55 0 rfl rfl (vp_inI (by omega) (by omega)) dX12_spread_89 ?_
                  refine lv_topi (fun v_55 ev_55 => ?_)
                  have hgv_55 : 0 ≤ v_55.toInt ∧ v_55.toInt ≤ 9999 := by rw [ev_55]; exact hRr 55 _
                  refine lv_isub hx hb dX12_spread_90 ?_
                  refine lv_topi (fun v_56 ev_56 => ?_)
                  have hv_56 : v_56.toInt = v_54.toInt - v_55.toInt := by rw [ev_56]; have := b_rg v_54; have := b_rg v_55; exact i_sub (a := v_54.toInt) (b := v_55.toInt) rfl rfl (by omega) (by omega)
                  refine lv_goto (tgt := 109) hx hb dX12_spread_91 (by decide) ?_
                  refine lv_istore (lv' := [(7, .int v_56), (6, .int x7_6), (5, .int x7_5), (4, .int x7_4), (3, .int x7_3), (0, .ref (a 0)), (1, .int p0), (2, .int p1)]) hx hb dX12_spread_109 hl (by decide) rfl (fun ls hl => ?_)
                  refine lv_iload_n hx hb dX12_spread_111 rfl (lv_at hl 4 rfl) ?_
                  refine lv_iconst (v := 1) hx hb dX12_spread_112 (by decide) ?_
                  refine lv_iadd hx hb dX12_spread_113 ?_
                  refine lv_topi (fun v_57 ev_57 => ?_)
                  have hv_57 : v_57.toInt = x7_3.toInt + 1 := by rw [ev_57]; have := b_rg x7_3; exact i_add (a := x7_3.toInt) (b := 1) rfl rfl (by omega) (by omega)
                  refine lv_istore_n (lv' := [(3, .int v_57), (7, .int v_56), (6, .int x7_6), (5, .int x7_5), (4, .int x7_4), (0, .ref (a 0)), (1, .int p0), (2, .int p1)]) hx hb dX12_spread_114 rfl hl (by decide) rfl (fun ls hl => ?_)
                  refine lv_iload hx hb dX12_spread_115 (lv_at hl 4 rfl) ?_
                  refine lv_iload hx hb dX12_spread_117 (lv_at hl 1 rfl) ?_
                  refine vp_callSi (W.runS (As := [.int v_56]) (rest := [.int x7_4]) ⟨hx, hb, hml, hown, hT⟩ (c_X12_size l v_56) (va_cwS 1 hT (gS t_220 t_221 t_222 t_6) rfl rfl rfl (by decide +kernel) ⟨Nat.le_of_ble_eq_true rfl, Nat.le_of_ble_eq_true rfl⟩) preT rfl rfl hl.1 rfl (lv_room (Nat.le_of_ble_eq_true rfl)) dX12_spread_119 ⟨Nat.le_of_ble_eq_true rfl, Nat.le_of_ble_eq_true rfl⟩) (fun r_58 hr_58 => ?_)
                  refine lv_iadd hx hb dX12_spread_122 ?_
                  refine lv_topi (fun v_59 ev_59 => ?_)
                  refine lv_istore (lv' := [(4, .int v_59), (3, .int v_57), (7, .int v_56), (6, .int x7_6), (5, .int x7_5), (0, .ref (a 0)), (1, .int p0), (2, .int p1)]) hx hb dX12_spread_123 hl (by decide) rfl (fun ls hl => ?_)
                  refine lv_iload hx hb dX12_spread_125 (lv_at hl 4 rfl) ?_
                  refine lv_iload hx hb dX12_spread_127 (lv_at hl 2 rfl) ?_
                  refine lv_iadd hx hb dX12_spread_129 ?_
                  refine lv_topi (fun v_60 ev_60 => ?_)
                  refine lv_istore (lv' := [(5, .int v_60), (4, .int v_59), (3, .int v_57), (7, .int v_56), (6, .int x7_6), (0, .ref (a 0)), (1, .int p0), (2, .int p1)]) hx hb dX12_spread_130 hl (by decide) rfl (fun ls hl => ?_)
                  obtain ⟨x_61, ex_61⟩ : ∃ y : Int32, y = x7_6 + 1 := ⟨_, rfl⟩
                  refine lv_iinc (v := x_61) (lv' := [(6, .int x_61), (5, .int v_60), (4, .int v_59), (3, .int v_57), (7, .int v_56), (0, .ref (a 0)), (1, .int p0), (2, .int p1)]) hx hb dX12_spread_132 hl (k := 4) rfl (by rw [ex_61]; rfl) (by decide) rfl (fun ls hl => ?_)
                  have hx_61 : x_61.toInt = x7_6.toInt + 1 := by rw [ex_61]; have := b_rg x7_6; exact i_add (a := x7_6.toInt) (b := 1) rfl rfl (by omega) (by omega)
                  refine lv_goto (tgt := 31) hx hb dX12_spread_135 (by decide) ?_
                  exact ih7 x_61 v_60 v_59 v_57 _ (by first | omega | (simp only [Int.toNat]; omega)) (by first | omega | decide) (by first | omega | decide)  (by omega)  (lv_sub hl [0, 1, 2, 3, 5, 6, 7] rfl)
              · have c_43 : v_42.toInt ≠ p0.toInt := b_ne c_43
                refine lv_goto (tgt := 132) hx hb dX12_spread_62 (by decide) ?_
                obtain ⟨x_62, ex_62⟩ : ∃ y : Int32, y = x7_6 + 1 := ⟨_, rfl⟩
                refine lv_iinc (v := x_62) (lv' := [(6, .int x_62), (5, .int x7_5), (4, .int x7_4), (3, .int x7_3), (0, .ref (a 0)), (1, .int p0), (2, .int p1)]) hx hb dX12_spread_132 hl (k := 0) rfl (by rw [ex_62]; rfl) (by decide) rfl (fun ls hl => ?_)
                have hx_62 : x_62.toInt = x7_6.toInt + 1 := by rw [ex_62]; have := b_rg x7_6; exact i_add (a := x7_6.toInt) (b := 1) rfl rfl (by omega) (by omega)
                refine lv_goto (tgt := 31) hx hb dX12_spread_135 (by decide) ?_
                exact ih7 x_62 x7_5 x7_4 x7_3 _ (by first | omega | (simp only [Int.toNat]; omega)) (by first | omega | decide) (by first | omega | decide)  (by omega)  (lv_sub hl [0, 1, 2, 3, 4, 5, 6] rfl)
      exact loop_7 _ 0 0 0 0 _ (Nat.lt_succ_self _) (by first | omega | decide) (by first | omega | decide)  (by decide)  hl
    · skip
      refine lv_if_ne (tgt := 20) hx hb dX12_spread_13 (by decide) (fun c_63 => absurd (by decide) c_63) (fun c_63 => ?_)
      refine lv_ldcw (v := (-1000000)) hx hb hown (hT _ t_251) dX12_spread_16 ?_
      subst hQ
      exact W.iret (v := (-1000000)) hx hb hr (fun t ht hW => ⟨_, rfl, trivial, ht⟩) (fun q hq => absurd hq List.not_mem_nil) dX12_spread_19
  · skip
    refine lv_if_eq (tgt := 16) hx hb dX12_spread_4 (by decide) (fun c_64 => ?_) (fun c_64 => absurd (by decide) c_64)
    refine lv_ldcw (v := (-1000000)) hx hb hown (hT _ t_251) dX12_spread_16 ?_
    subst hQ
    exact W.iret (v := (-1000000)) hx hb hr (fun t ht hW => ⟨_, rfl, trivial, ht⟩) (fun q hq => absurd hq List.not_mem_nil) dX12_spread_19
