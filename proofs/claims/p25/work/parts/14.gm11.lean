set_option maxRecDepth 100000 in
theorem t_248 : Cond.code yX12_gcd cX12_gcd 5 (some .int) ∈ gT := tm (tb7 (List.mem_of_getElem? (i := 87) (by rfl))) (by decide +kernel)
set_option maxRecDepth 100000 in
theorem t_249 : Cond.methodLink RX12 477 yX12_gcd ∈ gT := tm (tb7 (List.mem_of_getElem? (i := 85) (by rfl))) (by decide +kernel)
set_option maxRecDepth 100000 in
theorem t_250 : Cond.static yX12_gcd ∈ gT := tm (tb7 (List.mem_of_getElem? (i := 86) (by rfl))) (by decide +kernel)
set_option maxRecDepth 100000 in
theorem t_251 : Cond.constant RX12 476 (-1000000) ∈ gT := tm (tb7 (List.mem_of_getElem? (i := 81) (by rfl))) (by decide +kernel)
def dl_191 : List (Nat × (Instr × Nat)) := [(0, (.iload_n 0, 1)), (1, (.invokestatic 473, 3)), (4, (.istore_n 2, 1)), (5, (.iload_n 1, 1)), (6, (.istore_n 3, 1)), (7, (.iload_n 3, 1)), (8, (.ifCond .eq 16, 3)), (11, (.iload_n 2, 1)), (12, (.iload_n 3, 1)), (13, (.irem, 1)), (14, (.istore 4, 2)), (16, (.iload_n 3, 1)), (17, (.istore_n 2, 1)), (18, (.iload 4, 2)), (20, (.istore_n 3, 1)), (21, (.goto (-14), 3)), (24, (.iload_n 2, 1)), (25, (.ireturn, 1))]
theorem dh_191 : dchk cX12_gcd dl_191 = true := by decide +kernel
theorem dX12_gcd_0 : decode cX12_gcd 0 = .ok (.iload_n 0, 1) := dget dh_191 (k := 0) rfl
theorem dX12_gcd_1 : decode cX12_gcd 1 = .ok (.invokestatic 473, 3) := dget dh_191 (k := 1) rfl
theorem dX12_gcd_4 : decode cX12_gcd 4 = .ok (.istore_n 2, 1) := dget dh_191 (k := 2) rfl
theorem dX12_gcd_5 : decode cX12_gcd 5 = .ok (.iload_n 1, 1) := dget dh_191 (k := 3) rfl
theorem dX12_gcd_6 : decode cX12_gcd 6 = .ok (.istore_n 3, 1) := dget dh_191 (k := 4) rfl
theorem dX12_gcd_7 : decode cX12_gcd 7 = .ok (.iload_n 3, 1) := dget dh_191 (k := 5) rfl
theorem dX12_gcd_8 : decode cX12_gcd 8 = .ok (.ifCond .eq 16, 3) := dget dh_191 (k := 6) rfl
theorem dX12_gcd_11 : decode cX12_gcd 11 = .ok (.iload_n 2, 1) := dget dh_191 (k := 7) rfl
theorem dX12_gcd_12 : decode cX12_gcd 12 = .ok (.iload_n 3, 1) := dget dh_191 (k := 8) rfl
theorem dX12_gcd_13 : decode cX12_gcd 13 = .ok (.irem, 1) := dget dh_191 (k := 9) rfl
theorem dX12_gcd_14 : decode cX12_gcd 14 = .ok (.istore 4, 2) := dget dh_191 (k := 10) rfl
theorem dX12_gcd_16 : decode cX12_gcd 16 = .ok (.iload_n 3, 1) := dget dh_191 (k := 11) rfl
theorem dX12_gcd_17 : decode cX12_gcd 17 = .ok (.istore_n 2, 1) := dget dh_191 (k := 12) rfl
theorem dX12_gcd_18 : decode cX12_gcd 18 = .ok (.iload 4, 2) := dget dh_191 (k := 13) rfl
theorem dX12_gcd_20 : decode cX12_gcd 20 = .ok (.istore_n 3, 1) := dget dh_191 (k := 14) rfl
theorem dX12_gcd_21 : decode cX12_gcd 21 = .ok (.goto (-14), 3) := dget dh_191 (k := 15) rfl
theorem dX12_gcd_24 : decode cX12_gcd 24 = .ok (.iload_n 2, 1) := dget dh_191 (k := 16) rfl
theorem dX12_gcd_25 : decode cX12_gcd 25 = .ok (.ireturn, 1) := dget dh_191 (k := 17) rfl
def dl_192 : List (Nat × (Instr × Nat)) := [(0, (.iload_n 1, 1)), (1, (.invokestatic 465, 3)), (4, (.ifCond .eq 12, 3)), (7, (.iload_n 2, 1)), (8, (.iconst 0, 1)), (9, (.iconst 3, 1)), (10, (.invokestatic 241, 3)), (13, (.ifCond .ne 7, 3)), (16, (.ldc_w 476, 3)), (19, (.ireturn, 1)), (20, (.iconst 0, 1)), (21, (.istore_n 3, 1)), (22, (.iconst 0, 1)), (23, (.istore 4, 2)), (25, (.iconst 0, 1)), (26, (.istore 5, 2)), (28, (.iconst 0, 1)), (29, (.istore 6, 2)), (31, (.iload 6, 2)), (33, (.aload_n 0, 1))]
theorem dh_192 : dchk cX12_spread dl_192 = true := by decide +kernel
theorem dX12_spread_0 : decode cX12_spread 0 = .ok (.iload_n 1, 1) := dget dh_192 (k := 0) rfl
theorem dX12_spread_1 : decode cX12_spread 1 = .ok (.invokestatic 465, 3) := dget dh_192 (k := 1) rfl
theorem dX12_spread_4 : decode cX12_spread 4 = .ok (.ifCond .eq 12, 3) := dget dh_192 (k := 2) rfl
theorem dX12_spread_7 : decode cX12_spread 7 = .ok (.iload_n 2, 1) := dget dh_192 (k := 3) rfl
theorem dX12_spread_8 : decode cX12_spread 8 = .ok (.iconst 0, 1) := dget dh_192 (k := 4) rfl
theorem dX12_spread_9 : decode cX12_spread 9 = .ok (.iconst 3, 1) := dget dh_192 (k := 5) rfl
theorem dX12_spread_10 : decode cX12_spread 10 = .ok (.invokestatic 241, 3) := dget dh_192 (k := 6) rfl
theorem dX12_spread_13 : decode cX12_spread 13 = .ok (.ifCond .ne 7, 3) := dget dh_192 (k := 7) rfl
theorem dX12_spread_16 : decode cX12_spread 16 = .ok (.ldc_w 476, 3) := dget dh_192 (k := 8) rfl
theorem dX12_spread_19 : decode cX12_spread 19 = .ok (.ireturn, 1) := dget dh_192 (k := 9) rfl
theorem dX12_spread_20 : decode cX12_spread 20 = .ok (.iconst 0, 1) := dget dh_192 (k := 10) rfl
theorem dX12_spread_21 : decode cX12_spread 21 = .ok (.istore_n 3, 1) := dget dh_192 (k := 11) rfl
theorem dX12_spread_22 : decode cX12_spread 22 = .ok (.iconst 0, 1) := dget dh_192 (k := 12) rfl
theorem dX12_spread_23 : decode cX12_spread 23 = .ok (.istore 4, 2) := dget dh_192 (k := 13) rfl
theorem dX12_spread_25 : decode cX12_spread 25 = .ok (.iconst 0, 1) := dget dh_192 (k := 14) rfl
theorem dX12_spread_26 : decode cX12_spread 26 = .ok (.istore 5, 2) := dget dh_192 (k := 15) rfl
theorem dX12_spread_28 : decode cX12_spread 28 = .ok (.iconst 0, 1) := dget dh_192 (k := 16) rfl
theorem dX12_spread_29 : decode cX12_spread 29 = .ok (.istore 6, 2) := dget dh_192 (k := 17) rfl
theorem dX12_spread_31 : decode cX12_spread 31 = .ok (.iload 6, 2) := dget dh_192 (k := 18) rfl
theorem dX12_spread_33 : decode cX12_spread 33 = .ok (.aload_n 0, 1) := dget dh_192 (k := 19) rfl
def dl_193 : List (Nat × (Instr × Nat)) := [(34, (.getfield 470, 3)), (37, (.if_icmp .ge 101, 3)), (40, (.aload_n 0, 1)), (41, (.getfield 166, 3)), (44, (.iload 6, 2)), (46, (.iaload, 1)), (47, (.iload_n 1, 1)), (48, (.if_icmp .eq 17, 3)), (51, (.aload_n 0, 1)), (52, (.getfield 169, 3)), (55, (.iload 6, 2)), (57, (.iaload, 1)), (58, (.iload_n 1, 1)), (59, (.if_icmp .eq 6, 3)), (62, (.goto 70, 3)), (65, (.aload_n 0, 1)), (66, (.getfield 166, 3)), (69, (.iload 6, 2)), (71, (.iaload, 1)), (72, (.iload_n 1, 1))]
theorem dh_193 : dchk cX12_spread dl_193 = true := by decide +kernel
theorem dX12_spread_34 : decode cX12_spread 34 = .ok (.getfield 470, 3) := dget dh_193 (k := 0) rfl
theorem dX12_spread_37 : decode cX12_spread 37 = .ok (.if_icmp .ge 101, 3) := dget dh_193 (k := 1) rfl
theorem dX12_spread_40 : decode cX12_spread 40 = .ok (.aload_n 0, 1) := dget dh_193 (k := 2) rfl
theorem dX12_spread_41 : decode cX12_spread 41 = .ok (.getfield 166, 3) := dget dh_193 (k := 3) rfl
theorem dX12_spread_44 : decode cX12_spread 44 = .ok (.iload 6, 2) := dget dh_193 (k := 4) rfl
theorem dX12_spread_46 : decode cX12_spread 46 = .ok (.iaload, 1) := dget dh_193 (k := 5) rfl
theorem dX12_spread_47 : decode cX12_spread 47 = .ok (.iload_n 1, 1) := dget dh_193 (k := 6) rfl
theorem dX12_spread_48 : decode cX12_spread 48 = .ok (.if_icmp .eq 17, 3) := dget dh_193 (k := 7) rfl
theorem dX12_spread_51 : decode cX12_spread 51 = .ok (.aload_n 0, 1) := dget dh_193 (k := 8) rfl
theorem dX12_spread_52 : decode cX12_spread 52 = .ok (.getfield 169, 3) := dget dh_193 (k := 9) rfl
theorem dX12_spread_55 : decode cX12_spread 55 = .ok (.iload 6, 2) := dget dh_193 (k := 10) rfl
theorem dX12_spread_57 : decode cX12_spread 57 = .ok (.iaload, 1) := dget dh_193 (k := 11) rfl
theorem dX12_spread_58 : decode cX12_spread 58 = .ok (.iload_n 1, 1) := dget dh_193 (k := 12) rfl
theorem dX12_spread_59 : decode cX12_spread 59 = .ok (.if_icmp .eq 6, 3) := dget dh_193 (k := 13) rfl
theorem dX12_spread_62 : decode cX12_spread 62 = .ok (.goto 70, 3) := dget dh_193 (k := 14) rfl
theorem dX12_spread_65 : decode cX12_spread 65 = .ok (.aload_n 0, 1) := dget dh_193 (k := 15) rfl
theorem dX12_spread_66 : decode cX12_spread 66 = .ok (.getfield 166, 3) := dget dh_193 (k := 16) rfl
theorem dX12_spread_69 : decode cX12_spread 69 = .ok (.iload 6, 2) := dget dh_193 (k := 17) rfl
theorem dX12_spread_71 : decode cX12_spread 71 = .ok (.iaload, 1) := dget dh_193 (k := 18) rfl
theorem dX12_spread_72 : decode cX12_spread 72 = .ok (.iload_n 1, 1) := dget dh_193 (k := 19) rfl
def dl_194 : List (Nat × (Instr × Nat)) := [(73, (.if_icmp .ne 21, 3)), (76, (.aload_n 0, 1)), (77, (.getfield 172, 3)), (80, (.iload 6, 2)), (82, (.iaload, 1)), (83, (.aload_n 0, 1)), (84, (.getfield 175, 3)), (87, (.iload 6, 2)), (89, (.iaload, 1)), (90, (.isub, 1)), (91, (.goto 18, 3)), (94, (.aload_n 0, 1)), (95, (.getfield 175, 3)), (98, (.iload 6, 2)), (100, (.iaload, 1)), (101, (.aload_n 0, 1)), (102, (.getfield 172, 3)), (105, (.iload 6, 2)), (107, (.iaload, 1)), (108, (.isub, 1))]
theorem dh_194 : dchk cX12_spread dl_194 = true := by decide +kernel
theorem dX12_spread_73 : decode cX12_spread 73 = .ok (.if_icmp .ne 21, 3) := dget dh_194 (k := 0) rfl
theorem dX12_spread_76 : decode cX12_spread 76 = .ok (.aload_n 0, 1) := dget dh_194 (k := 1) rfl
theorem dX12_spread_77 : decode cX12_spread 77 = .ok (.getfield 172, 3) := dget dh_194 (k := 2) rfl
theorem dX12_spread_80 : decode cX12_spread 80 = .ok (.iload 6, 2) := dget dh_194 (k := 3) rfl
theorem dX12_spread_82 : decode cX12_spread 82 = .ok (.iaload, 1) := dget dh_194 (k := 4) rfl
theorem dX12_spread_83 : decode cX12_spread 83 = .ok (.aload_n 0, 1) := dget dh_194 (k := 5) rfl
theorem dX12_spread_84 : decode cX12_spread 84 = .ok (.getfield 175, 3) := dget dh_194 (k := 6) rfl
theorem dX12_spread_87 : decode cX12_spread 87 = .ok (.iload 6, 2) := dget dh_194 (k := 7) rfl
theorem dX12_spread_89 : decode cX12_spread 89 = .ok (.iaload, 1) := dget dh_194 (k := 8) rfl
theorem dX12_spread_90 : decode cX12_spread 90 = .ok (.isub, 1) := dget dh_194 (k := 9) rfl
theorem dX12_spread_91 : decode cX12_spread 91 = .ok (.goto 18, 3) := dget dh_194 (k := 10) rfl
theorem dX12_spread_94 : decode cX12_spread 94 = .ok (.aload_n 0, 1) := dget dh_194 (k := 11) rfl
theorem dX12_spread_95 : decode cX12_spread 95 = .ok (.getfield 175, 3) := dget dh_194 (k := 12) rfl
theorem dX12_spread_98 : decode cX12_spread 98 = .ok (.iload 6, 2) := dget dh_194 (k := 13) rfl
theorem dX12_spread_100 : decode cX12_spread 100 = .ok (.iaload, 1) := dget dh_194 (k := 14) rfl
theorem dX12_spread_101 : decode cX12_spread 101 = .ok (.aload_n 0, 1) := dget dh_194 (k := 15) rfl
theorem dX12_spread_102 : decode cX12_spread 102 = .ok (.getfield 172, 3) := dget dh_194 (k := 16) rfl
theorem dX12_spread_105 : decode cX12_spread 105 = .ok (.iload 6, 2) := dget dh_194 (k := 17) rfl
theorem dX12_spread_107 : decode cX12_spread 107 = .ok (.iaload, 1) := dget dh_194 (k := 18) rfl
theorem dX12_spread_108 : decode cX12_spread 108 = .ok (.isub, 1) := dget dh_194 (k := 19) rfl
def dl_195 : List (Nat × (Instr × Nat)) := [(109, (.istore 7, 2)), (111, (.iload_n 3, 1)), (112, (.iconst 1, 1)), (113, (.iadd, 1)), (114, (.istore_n 3, 1)), (115, (.iload 4, 2)), (117, (.iload 7, 2)), (119, (.invokestatic 473, 3)), (122, (.iadd, 1)), (123, (.istore 4, 2)), (125, (.iload 5, 2)), (127, (.iload 7, 2)), (129, (.iadd, 1)), (130, (.istore 5, 2)), (132, (.iinc 6 1, 3)), (135, (.goto (-104), 3)), (138, (.iload_n 3, 1)), (139, (.ifCond .ne 7, 3)), (142, (.ldc_w 476, 3)), (145, (.ireturn, 1))]
theorem dh_195 : dchk cX12_spread dl_195 = true := by decide +kernel
theorem dX12_spread_109 : decode cX12_spread 109 = .ok (.istore 7, 2) := dget dh_195 (k := 0) rfl
theorem dX12_spread_111 : decode cX12_spread 111 = .ok (.iload_n 3, 1) := dget dh_195 (k := 1) rfl
theorem dX12_spread_112 : decode cX12_spread 112 = .ok (.iconst 1, 1) := dget dh_195 (k := 2) rfl
theorem dX12_spread_113 : decode cX12_spread 113 = .ok (.iadd, 1) := dget dh_195 (k := 3) rfl
theorem dX12_spread_114 : decode cX12_spread 114 = .ok (.istore_n 3, 1) := dget dh_195 (k := 4) rfl
theorem dX12_spread_115 : decode cX12_spread 115 = .ok (.iload 4, 2) := dget dh_195 (k := 5) rfl
theorem dX12_spread_117 : decode cX12_spread 117 = .ok (.iload 7, 2) := dget dh_195 (k := 6) rfl
theorem dX12_spread_119 : decode cX12_spread 119 = .ok (.invokestatic 473, 3) := dget dh_195 (k := 7) rfl
theorem dX12_spread_122 : decode cX12_spread 122 = .ok (.iadd, 1) := dget dh_195 (k := 8) rfl
theorem dX12_spread_123 : decode cX12_spread 123 = .ok (.istore 4, 2) := dget dh_195 (k := 9) rfl
theorem dX12_spread_125 : decode cX12_spread 125 = .ok (.iload 5, 2) := dget dh_195 (k := 10) rfl
theorem dX12_spread_127 : decode cX12_spread 127 = .ok (.iload 7, 2) := dget dh_195 (k := 11) rfl
theorem dX12_spread_129 : decode cX12_spread 129 = .ok (.iadd, 1) := dget dh_195 (k := 12) rfl
theorem dX12_spread_130 : decode cX12_spread 130 = .ok (.istore 5, 2) := dget dh_195 (k := 13) rfl
theorem dX12_spread_132 : decode cX12_spread 132 = .ok (.iinc 6 1, 3) := dget dh_195 (k := 14) rfl
theorem dX12_spread_135 : decode cX12_spread 135 = .ok (.goto (-104), 3) := dget dh_195 (k := 15) rfl
theorem dX12_spread_138 : decode cX12_spread 138 = .ok (.iload_n 3, 1) := dget dh_195 (k := 16) rfl
theorem dX12_spread_139 : decode cX12_spread 139 = .ok (.ifCond .ne 7, 3) := dget dh_195 (k := 17) rfl
theorem dX12_spread_142 : decode cX12_spread 142 = .ok (.ldc_w 476, 3) := dget dh_195 (k := 18) rfl
theorem dX12_spread_145 : decode cX12_spread 145 = .ok (.ireturn, 1) := dget dh_195 (k := 19) rfl
def dl_196 : List (Nat × (Instr × Nat)) := [(146, (.iload_n 2, 1)), (147, (.iconst 2, 1)), (148, (.if_icmp .ge 8, 3)), (151, (.iload 4, 2)), (153, (.goto 5, 3)), (156, (.iload 5, 2)), (158, (.istore 6, 2)), (160, (.iload 6, 2)), (162, (.iload_n 3, 1)), (163, (.invokestatic 477, 3)), (166, (.istore 7, 2)), (168, (.iload_n 2, 1)), (169, (.iconst 2, 1)), (170, (.irem, 1)), (171, (.ifCond .ne 11, 3)), (174, (.iload 6, 2)), (176, (.iload 7, 2)), (178, (.idiv, 1)), (179, (.goto 7, 3)), (182, (.iload_n 3, 1))]
theorem dh_196 : dchk cX12_spread dl_196 = true := by decide +kernel
theorem dX12_spread_146 : decode cX12_spread 146 = .ok (.iload_n 2, 1) := dget dh_196 (k := 0) rfl
theorem dX12_spread_147 : decode cX12_spread 147 = .ok (.iconst 2, 1) := dget dh_196 (k := 1) rfl
theorem dX12_spread_148 : decode cX12_spread 148 = .ok (.if_icmp .ge 8, 3) := dget dh_196 (k := 2) rfl
theorem dX12_spread_151 : decode cX12_spread 151 = .ok (.iload 4, 2) := dget dh_196 (k := 3) rfl
theorem dX12_spread_153 : decode cX12_spread 153 = .ok (.goto 5, 3) := dget dh_196 (k := 4) rfl
theorem dX12_spread_156 : decode cX12_spread 156 = .ok (.iload 5, 2) := dget dh_196 (k := 5) rfl
theorem dX12_spread_158 : decode cX12_spread 158 = .ok (.istore 6, 2) := dget dh_196 (k := 6) rfl
theorem dX12_spread_160 : decode cX12_spread 160 = .ok (.iload 6, 2) := dget dh_196 (k := 7) rfl
theorem dX12_spread_162 : decode cX12_spread 162 = .ok (.iload_n 3, 1) := dget dh_196 (k := 8) rfl
theorem dX12_spread_163 : decode cX12_spread 163 = .ok (.invokestatic 477, 3) := dget dh_196 (k := 9) rfl
theorem dX12_spread_166 : decode cX12_spread 166 = .ok (.istore 7, 2) := dget dh_196 (k := 10) rfl
theorem dX12_spread_168 : decode cX12_spread 168 = .ok (.iload_n 2, 1) := dget dh_196 (k := 11) rfl
theorem dX12_spread_169 : decode cX12_spread 169 = .ok (.iconst 2, 1) := dget dh_196 (k := 12) rfl
theorem dX12_spread_170 : decode cX12_spread 170 = .ok (.irem, 1) := dget dh_196 (k := 13) rfl
theorem dX12_spread_171 : decode cX12_spread 171 = .ok (.ifCond .ne 11, 3) := dget dh_196 (k := 14) rfl
theorem dX12_spread_174 : decode cX12_spread 174 = .ok (.iload 6, 2) := dget dh_196 (k := 15) rfl
theorem dX12_spread_176 : decode cX12_spread 176 = .ok (.iload 7, 2) := dget dh_196 (k := 16) rfl
theorem dX12_spread_178 : decode cX12_spread 178 = .ok (.idiv, 1) := dget dh_196 (k := 17) rfl
theorem dX12_spread_179 : decode cX12_spread 179 = .ok (.goto 7, 3) := dget dh_196 (k := 18) rfl
theorem dX12_spread_182 : decode cX12_spread 182 = .ok (.iload_n 3, 1) := dget dh_196 (k := 19) rfl
def dl_197 : List (Nat × (Instr × Nat)) := [(183, (.iload 7, 2)), (185, (.idiv, 1)), (186, (.ireturn, 1))]
theorem dh_197 : dchk cX12_spread dl_197 = true := by decide +kernel
theorem dX12_spread_183 : decode cX12_spread 183 = .ok (.iload 7, 2) := dget dh_197 (k := 0) rfl
theorem dX12_spread_185 : decode cX12_spread 185 = .ok (.idiv, 1) := dget dh_197 (k := 1) rfl
theorem dX12_spread_186 : decode cX12_spread 186 = .ok (.ireturn, 1) := dget dh_197 (k := 2) rfl
theorem tm_lt (a m : Int) (h : m ≠ 0) : (a.tmod m).natAbs < m.natAbs := by
  rw [Int.natAbs_tmod]; exact Nat.mod_lt _ (by omega)
