set_option maxRecDepth 100000 in
theorem t_82 : Cond.fieldLink RX12 105 "DepositJudgeModel" "stack" "[I" ∈ gT := tm (tb5 (List.mem_of_getElem? (i := 0) (by rfl))) (by decide +kernel)
set_option maxRecDepth 100000 in
theorem t_83 : Cond.fieldLink RX12 90 "DepositJudgeModel" "codes" "[I" ∈ gT := tm (tb4 (List.mem_of_getElem? (i := 235) (by rfl))) (by decide +kernel)
set_option maxRecDepth 100000 in
theorem t_84 : Cond.constant RX12 289 (1048576) ∈ gT := tm (tb6 (List.mem_of_getElem? (i := 74) (by rfl))) (by decide +kernel)
set_option maxRecDepth 100000 in
theorem t_85 : Cond.code yX12_reckon cX12_reckon 3 (some .int) ∈ gT := tm (tb6 (List.mem_of_getElem? (i := 199) (by rfl))) (by decide +kernel)
set_option maxRecDepth 100000 in
theorem t_86 : Cond.methodLink RX12 356 yX12_reckon ∈ gT := tm (tb6 (List.mem_of_getElem? (i := 197) (by rfl))) (by decide +kernel)
set_option maxRecDepth 100000 in
theorem t_87 : Cond.static yX12_reckon ∈ gT := tm (tb6 (List.mem_of_getElem? (i := 198) (by rfl))) (by decide +kernel)
def dl_58 : List (Nat × (Instr × Nat)) := [(0, (.iconst 0, 1)), (1, (.istore_n 3, 1)), (2, (.sipush 220, 3)), (5, (.iload_n 1, 1)), (6, (.sipush 220, 3)), (9, (.idiv, 1)), (10, (.imul, 1)), (11, (.istore 4, 2)), (13, (.iload_n 1, 1)), (14, (.istore 5, 2)), (16, (.iload 5, 2)), (18, (.iload_n 2, 1)), (19, (.if_icmp .ge 216, 3)), (22, (.aload_n 0, 1)), (23, (.getfield 90, 3)), (26, (.iload 5, 2)), (28, (.iaload, 1)), (29, (.ldc_w 289, 3)), (32, (.idiv, 1)), (33, (.istore 6, 2))]
theorem dh_58 : dchk cX12_comesTo dl_58 = true := by decide +kernel
theorem dX12_comesTo_0 : decode cX12_comesTo 0 = .ok (.iconst 0, 1) := dget dh_58 (k := 0) rfl
theorem dX12_comesTo_1 : decode cX12_comesTo 1 = .ok (.istore_n 3, 1) := dget dh_58 (k := 1) rfl
theorem dX12_comesTo_2 : decode cX12_comesTo 2 = .ok (.sipush 220, 3) := dget dh_58 (k := 2) rfl
theorem dX12_comesTo_5 : decode cX12_comesTo 5 = .ok (.iload_n 1, 1) := dget dh_58 (k := 3) rfl
theorem dX12_comesTo_6 : decode cX12_comesTo 6 = .ok (.sipush 220, 3) := dget dh_58 (k := 4) rfl
theorem dX12_comesTo_9 : decode cX12_comesTo 9 = .ok (.idiv, 1) := dget dh_58 (k := 5) rfl
theorem dX12_comesTo_10 : decode cX12_comesTo 10 = .ok (.imul, 1) := dget dh_58 (k := 6) rfl
theorem dX12_comesTo_11 : decode cX12_comesTo 11 = .ok (.istore 4, 2) := dget dh_58 (k := 7) rfl
theorem dX12_comesTo_13 : decode cX12_comesTo 13 = .ok (.iload_n 1, 1) := dget dh_58 (k := 8) rfl
theorem dX12_comesTo_14 : decode cX12_comesTo 14 = .ok (.istore 5, 2) := dget dh_58 (k := 9) rfl
theorem dX12_comesTo_16 : decode cX12_comesTo 16 = .ok (.iload 5, 2) := dget dh_58 (k := 10) rfl
theorem dX12_comesTo_18 : decode cX12_comesTo 18 = .ok (.iload_n 2, 1) := dget dh_58 (k := 11) rfl
theorem dX12_comesTo_19 : decode cX12_comesTo 19 = .ok (.if_icmp .ge 216, 3) := dget dh_58 (k := 12) rfl
theorem dX12_comesTo_22 : decode cX12_comesTo 22 = .ok (.aload_n 0, 1) := dget dh_58 (k := 13) rfl
theorem dX12_comesTo_23 : decode cX12_comesTo 23 = .ok (.getfield 90, 3) := dget dh_58 (k := 14) rfl
theorem dX12_comesTo_26 : decode cX12_comesTo 26 = .ok (.iload 5, 2) := dget dh_58 (k := 15) rfl
theorem dX12_comesTo_28 : decode cX12_comesTo 28 = .ok (.iaload, 1) := dget dh_58 (k := 16) rfl
theorem dX12_comesTo_29 : decode cX12_comesTo 29 = .ok (.ldc_w 289, 3) := dget dh_58 (k := 17) rfl
theorem dX12_comesTo_32 : decode cX12_comesTo 32 = .ok (.idiv, 1) := dget dh_58 (k := 18) rfl
theorem dX12_comesTo_33 : decode cX12_comesTo 33 = .ok (.istore 6, 2) := dget dh_58 (k := 19) rfl
def dl_59 : List (Nat × (Instr × Nat)) := [(35, (.aload_n 0, 1)), (36, (.getfield 90, 3)), (39, (.iload 5, 2)), (41, (.iaload, 1)), (42, (.ldc_w 289, 3)), (45, (.irem, 1)), (46, (.istore 7, 2)), (48, (.iload 5, 2)), (50, (.iconst 1, 1)), (51, (.iadd, 1)), (52, (.istore 5, 2)), (54, (.iload 6, 2)), (56, (.ifCond .eq 9, 3)), (59, (.iload 6, 2)), (61, (.iconst 1, 1)), (62, (.if_icmp .ne 33, 3)), (65, (.aload_n 0, 1)), (66, (.getfield 105, 3)), (69, (.iload_n 3, 1)), (70, (.iload 6, 2))]
theorem dh_59 : dchk cX12_comesTo dl_59 = true := by decide +kernel
theorem dX12_comesTo_35 : decode cX12_comesTo 35 = .ok (.aload_n 0, 1) := dget dh_59 (k := 0) rfl
theorem dX12_comesTo_36 : decode cX12_comesTo 36 = .ok (.getfield 90, 3) := dget dh_59 (k := 1) rfl
theorem dX12_comesTo_39 : decode cX12_comesTo 39 = .ok (.iload 5, 2) := dget dh_59 (k := 2) rfl
theorem dX12_comesTo_41 : decode cX12_comesTo 41 = .ok (.iaload, 1) := dget dh_59 (k := 3) rfl
theorem dX12_comesTo_42 : decode cX12_comesTo 42 = .ok (.ldc_w 289, 3) := dget dh_59 (k := 4) rfl
theorem dX12_comesTo_45 : decode cX12_comesTo 45 = .ok (.irem, 1) := dget dh_59 (k := 5) rfl
theorem dX12_comesTo_46 : decode cX12_comesTo 46 = .ok (.istore 7, 2) := dget dh_59 (k := 6) rfl
theorem dX12_comesTo_48 : decode cX12_comesTo 48 = .ok (.iload 5, 2) := dget dh_59 (k := 7) rfl
theorem dX12_comesTo_50 : decode cX12_comesTo 50 = .ok (.iconst 1, 1) := dget dh_59 (k := 8) rfl
theorem dX12_comesTo_51 : decode cX12_comesTo 51 = .ok (.iadd, 1) := dget dh_59 (k := 9) rfl
theorem dX12_comesTo_52 : decode cX12_comesTo 52 = .ok (.istore 5, 2) := dget dh_59 (k := 10) rfl
theorem dX12_comesTo_54 : decode cX12_comesTo 54 = .ok (.iload 6, 2) := dget dh_59 (k := 11) rfl
theorem dX12_comesTo_56 : decode cX12_comesTo 56 = .ok (.ifCond .eq 9, 3) := dget dh_59 (k := 12) rfl
theorem dX12_comesTo_59 : decode cX12_comesTo 59 = .ok (.iload 6, 2) := dget dh_59 (k := 13) rfl
theorem dX12_comesTo_61 : decode cX12_comesTo 61 = .ok (.iconst 1, 1) := dget dh_59 (k := 14) rfl
theorem dX12_comesTo_62 : decode cX12_comesTo 62 = .ok (.if_icmp .ne 33, 3) := dget dh_59 (k := 15) rfl
theorem dX12_comesTo_65 : decode cX12_comesTo 65 = .ok (.aload_n 0, 1) := dget dh_59 (k := 16) rfl
theorem dX12_comesTo_66 : decode cX12_comesTo 66 = .ok (.getfield 105, 3) := dget dh_59 (k := 17) rfl
theorem dX12_comesTo_69 : decode cX12_comesTo 69 = .ok (.iload_n 3, 1) := dget dh_59 (k := 18) rfl
theorem dX12_comesTo_70 : decode cX12_comesTo 70 = .ok (.iload 6, 2) := dget dh_59 (k := 19) rfl
def dl_60 : List (Nat × (Instr × Nat)) := [(72, (.ifCond .ne 8, 3)), (75, (.iload 7, 2)), (77, (.goto 10, 3)), (80, (.aload_n 0, 1)), (81, (.getfield 108, 3)), (84, (.iload 7, 2)), (86, (.iaload, 1)), (87, (.iastore, 1)), (88, (.iload_n 3, 1)), (89, (.iconst 1, 1)), (90, (.iadd, 1)), (91, (.istore_n 3, 1)), (92, (.goto 140, 3)), (95, (.iload 6, 2)), (97, (.bipush 10, 2)), (99, (.if_icmp .ne 24, 3)), (102, (.aload_n 0, 1)), (103, (.getfield 105, 3)), (106, (.iload_n 3, 1)), (107, (.iconst 1, 1))]
theorem dh_60 : dchk cX12_comesTo dl_60 = true := by decide +kernel
theorem dX12_comesTo_72 : decode cX12_comesTo 72 = .ok (.ifCond .ne 8, 3) := dget dh_60 (k := 0) rfl
theorem dX12_comesTo_75 : decode cX12_comesTo 75 = .ok (.iload 7, 2) := dget dh_60 (k := 1) rfl
theorem dX12_comesTo_77 : decode cX12_comesTo 77 = .ok (.goto 10, 3) := dget dh_60 (k := 2) rfl
theorem dX12_comesTo_80 : decode cX12_comesTo 80 = .ok (.aload_n 0, 1) := dget dh_60 (k := 3) rfl
theorem dX12_comesTo_81 : decode cX12_comesTo 81 = .ok (.getfield 108, 3) := dget dh_60 (k := 4) rfl
theorem dX12_comesTo_84 : decode cX12_comesTo 84 = .ok (.iload 7, 2) := dget dh_60 (k := 5) rfl
theorem dX12_comesTo_86 : decode cX12_comesTo 86 = .ok (.iaload, 1) := dget dh_60 (k := 6) rfl
theorem dX12_comesTo_87 : decode cX12_comesTo 87 = .ok (.iastore, 1) := dget dh_60 (k := 7) rfl
theorem dX12_comesTo_88 : decode cX12_comesTo 88 = .ok (.iload_n 3, 1) := dget dh_60 (k := 8) rfl
theorem dX12_comesTo_89 : decode cX12_comesTo 89 = .ok (.iconst 1, 1) := dget dh_60 (k := 9) rfl
theorem dX12_comesTo_90 : decode cX12_comesTo 90 = .ok (.iadd, 1) := dget dh_60 (k := 10) rfl
theorem dX12_comesTo_91 : decode cX12_comesTo 91 = .ok (.istore_n 3, 1) := dget dh_60 (k := 11) rfl
theorem dX12_comesTo_92 : decode cX12_comesTo 92 = .ok (.goto 140, 3) := dget dh_60 (k := 12) rfl
theorem dX12_comesTo_95 : decode cX12_comesTo 95 = .ok (.iload 6, 2) := dget dh_60 (k := 13) rfl
theorem dX12_comesTo_97 : decode cX12_comesTo 97 = .ok (.bipush 10, 2) := dget dh_60 (k := 14) rfl
theorem dX12_comesTo_99 : decode cX12_comesTo 99 = .ok (.if_icmp .ne 24, 3) := dget dh_60 (k := 15) rfl
theorem dX12_comesTo_102 : decode cX12_comesTo 102 = .ok (.aload_n 0, 1) := dget dh_60 (k := 16) rfl
theorem dX12_comesTo_103 : decode cX12_comesTo 103 = .ok (.getfield 105, 3) := dget dh_60 (k := 17) rfl
theorem dX12_comesTo_106 : decode cX12_comesTo 106 = .ok (.iload_n 3, 1) := dget dh_60 (k := 18) rfl
theorem dX12_comesTo_107 : decode cX12_comesTo 107 = .ok (.iconst 1, 1) := dget dh_60 (k := 19) rfl
def dl_61 : List (Nat × (Instr × Nat)) := [(108, (.isub, 1)), (109, (.iconst 1, 1)), (110, (.aload_n 0, 1)), (111, (.getfield 105, 3)), (114, (.iload_n 3, 1)), (115, (.iconst 1, 1)), (116, (.isub, 1)), (117, (.iaload, 1)), (118, (.isub, 1)), (119, (.iastore, 1)), (120, (.goto 112, 3)), (123, (.iload 6, 2)), (125, (.bipush 11, 2)), (127, (.if_icmp .eq 10, 3)), (130, (.iload 6, 2)), (132, (.bipush 12, 2)), (134, (.if_icmp .ne 43, 3)), (137, (.aload_n 0, 1)), (138, (.getfield 105, 3)), (141, (.iload_n 3, 1))]
theorem dh_61 : dchk cX12_comesTo dl_61 = true := by decide +kernel
theorem dX12_comesTo_108 : decode cX12_comesTo 108 = .ok (.isub, 1) := dget dh_61 (k := 0) rfl
theorem dX12_comesTo_109 : decode cX12_comesTo 109 = .ok (.iconst 1, 1) := dget dh_61 (k := 1) rfl
theorem dX12_comesTo_110 : decode cX12_comesTo 110 = .ok (.aload_n 0, 1) := dget dh_61 (k := 2) rfl
theorem dX12_comesTo_111 : decode cX12_comesTo 111 = .ok (.getfield 105, 3) := dget dh_61 (k := 3) rfl
theorem dX12_comesTo_114 : decode cX12_comesTo 114 = .ok (.iload_n 3, 1) := dget dh_61 (k := 4) rfl
theorem dX12_comesTo_115 : decode cX12_comesTo 115 = .ok (.iconst 1, 1) := dget dh_61 (k := 5) rfl
theorem dX12_comesTo_116 : decode cX12_comesTo 116 = .ok (.isub, 1) := dget dh_61 (k := 6) rfl
theorem dX12_comesTo_117 : decode cX12_comesTo 117 = .ok (.iaload, 1) := dget dh_61 (k := 7) rfl
theorem dX12_comesTo_118 : decode cX12_comesTo 118 = .ok (.isub, 1) := dget dh_61 (k := 8) rfl
theorem dX12_comesTo_119 : decode cX12_comesTo 119 = .ok (.iastore, 1) := dget dh_61 (k := 9) rfl
theorem dX12_comesTo_120 : decode cX12_comesTo 120 = .ok (.goto 112, 3) := dget dh_61 (k := 10) rfl
theorem dX12_comesTo_123 : decode cX12_comesTo 123 = .ok (.iload 6, 2) := dget dh_61 (k := 11) rfl
theorem dX12_comesTo_125 : decode cX12_comesTo 125 = .ok (.bipush 11, 2) := dget dh_61 (k := 12) rfl
theorem dX12_comesTo_127 : decode cX12_comesTo 127 = .ok (.if_icmp .eq 10, 3) := dget dh_61 (k := 13) rfl
theorem dX12_comesTo_130 : decode cX12_comesTo 130 = .ok (.iload 6, 2) := dget dh_61 (k := 14) rfl
theorem dX12_comesTo_132 : decode cX12_comesTo 132 = .ok (.bipush 12, 2) := dget dh_61 (k := 15) rfl
theorem dX12_comesTo_134 : decode cX12_comesTo 134 = .ok (.if_icmp .ne 43, 3) := dget dh_61 (k := 16) rfl
theorem dX12_comesTo_137 : decode cX12_comesTo 137 = .ok (.aload_n 0, 1) := dget dh_61 (k := 17) rfl
theorem dX12_comesTo_138 : decode cX12_comesTo 138 = .ok (.getfield 105, 3) := dget dh_61 (k := 18) rfl
theorem dX12_comesTo_141 : decode cX12_comesTo 141 = .ok (.iload_n 3, 1) := dget dh_61 (k := 19) rfl
def dl_62 : List (Nat × (Instr × Nat)) := [(142, (.iconst 1, 1)), (143, (.isub, 1)), (144, (.iaload, 1)), (145, (.iload 6, 2)), (147, (.bipush 12, 2)), (149, (.if_icmp .ne 7, 3)), (152, (.iconst 1, 1)), (153, (.goto 4, 3)), (156, (.iconst 0, 1)), (157, (.if_icmp .ne 13, 3)), (160, (.iload 4, 2)), (162, (.iload 7, 2)), (164, (.iadd, 1)), (165, (.istore 5, 2)), (167, (.goto 65, 3)), (170, (.iload_n 3, 1)), (171, (.iconst 1, 1)), (172, (.isub, 1)), (173, (.istore_n 3, 1)), (174, (.goto 58, 3))]
theorem dh_62 : dchk cX12_comesTo dl_62 = true := by decide +kernel
theorem dX12_comesTo_142 : decode cX12_comesTo 142 = .ok (.iconst 1, 1) := dget dh_62 (k := 0) rfl
theorem dX12_comesTo_143 : decode cX12_comesTo 143 = .ok (.isub, 1) := dget dh_62 (k := 1) rfl
theorem dX12_comesTo_144 : decode cX12_comesTo 144 = .ok (.iaload, 1) := dget dh_62 (k := 2) rfl
theorem dX12_comesTo_145 : decode cX12_comesTo 145 = .ok (.iload 6, 2) := dget dh_62 (k := 3) rfl
theorem dX12_comesTo_147 : decode cX12_comesTo 147 = .ok (.bipush 12, 2) := dget dh_62 (k := 4) rfl
theorem dX12_comesTo_149 : decode cX12_comesTo 149 = .ok (.if_icmp .ne 7, 3) := dget dh_62 (k := 5) rfl
theorem dX12_comesTo_152 : decode cX12_comesTo 152 = .ok (.iconst 1, 1) := dget dh_62 (k := 6) rfl
theorem dX12_comesTo_153 : decode cX12_comesTo 153 = .ok (.goto 4, 3) := dget dh_62 (k := 7) rfl
theorem dX12_comesTo_156 : decode cX12_comesTo 156 = .ok (.iconst 0, 1) := dget dh_62 (k := 8) rfl
theorem dX12_comesTo_157 : decode cX12_comesTo 157 = .ok (.if_icmp .ne 13, 3) := dget dh_62 (k := 9) rfl
theorem dX12_comesTo_160 : decode cX12_comesTo 160 = .ok (.iload 4, 2) := dget dh_62 (k := 10) rfl
theorem dX12_comesTo_162 : decode cX12_comesTo 162 = .ok (.iload 7, 2) := dget dh_62 (k := 11) rfl
theorem dX12_comesTo_164 : decode cX12_comesTo 164 = .ok (.iadd, 1) := dget dh_62 (k := 12) rfl
theorem dX12_comesTo_165 : decode cX12_comesTo 165 = .ok (.istore 5, 2) := dget dh_62 (k := 13) rfl
theorem dX12_comesTo_167 : decode cX12_comesTo 167 = .ok (.goto 65, 3) := dget dh_62 (k := 14) rfl
theorem dX12_comesTo_170 : decode cX12_comesTo 170 = .ok (.iload_n 3, 1) := dget dh_62 (k := 15) rfl
theorem dX12_comesTo_171 : decode cX12_comesTo 171 = .ok (.iconst 1, 1) := dget dh_62 (k := 16) rfl
theorem dX12_comesTo_172 : decode cX12_comesTo 172 = .ok (.isub, 1) := dget dh_62 (k := 17) rfl
theorem dX12_comesTo_173 : decode cX12_comesTo 173 = .ok (.istore_n 3, 1) := dget dh_62 (k := 18) rfl
theorem dX12_comesTo_174 : decode cX12_comesTo 174 = .ok (.goto 58, 3) := dget dh_62 (k := 19) rfl
def dl_63 : List (Nat × (Instr × Nat)) := [(177, (.iload_n 3, 1)), (178, (.iconst 1, 1)), (179, (.isub, 1)), (180, (.istore_n 3, 1)), (181, (.iload 6, 2)), (183, (.iconst 5, 1)), (184, (.if_icmp .eq 10, 3)), (187, (.iload 6, 2)), (189, (.bipush 6, 2)), (191, (.if_icmp .ne 14, 3)), (194, (.aload_n 0, 1)), (195, (.getfield 105, 3)), (198, (.iload_n 3, 1)), (199, (.iaload, 1)), (200, (.ifCond .ne 5, 3)), (203, (.iconst 0, 1)), (204, (.ireturn, 1)), (205, (.aload_n 0, 1)), (206, (.getfield 105, 3)), (209, (.iload_n 3, 1))]
theorem dh_63 : dchk cX12_comesTo dl_63 = true := by decide +kernel
theorem dX12_comesTo_177 : decode cX12_comesTo 177 = .ok (.iload_n 3, 1) := dget dh_63 (k := 0) rfl
theorem dX12_comesTo_178 : decode cX12_comesTo 178 = .ok (.iconst 1, 1) := dget dh_63 (k := 1) rfl
theorem dX12_comesTo_179 : decode cX12_comesTo 179 = .ok (.isub, 1) := dget dh_63 (k := 2) rfl
theorem dX12_comesTo_180 : decode cX12_comesTo 180 = .ok (.istore_n 3, 1) := dget dh_63 (k := 3) rfl
theorem dX12_comesTo_181 : decode cX12_comesTo 181 = .ok (.iload 6, 2) := dget dh_63 (k := 4) rfl
theorem dX12_comesTo_183 : decode cX12_comesTo 183 = .ok (.iconst 5, 1) := dget dh_63 (k := 5) rfl
theorem dX12_comesTo_184 : decode cX12_comesTo 184 = .ok (.if_icmp .eq 10, 3) := dget dh_63 (k := 6) rfl
theorem dX12_comesTo_187 : decode cX12_comesTo 187 = .ok (.iload 6, 2) := dget dh_63 (k := 7) rfl
theorem dX12_comesTo_189 : decode cX12_comesTo 189 = .ok (.bipush 6, 2) := dget dh_63 (k := 8) rfl
theorem dX12_comesTo_191 : decode cX12_comesTo 191 = .ok (.if_icmp .ne 14, 3) := dget dh_63 (k := 9) rfl
theorem dX12_comesTo_194 : decode cX12_comesTo 194 = .ok (.aload_n 0, 1) := dget dh_63 (k := 10) rfl
theorem dX12_comesTo_195 : decode cX12_comesTo 195 = .ok (.getfield 105, 3) := dget dh_63 (k := 11) rfl
theorem dX12_comesTo_198 : decode cX12_comesTo 198 = .ok (.iload_n 3, 1) := dget dh_63 (k := 12) rfl
theorem dX12_comesTo_199 : decode cX12_comesTo 199 = .ok (.iaload, 1) := dget dh_63 (k := 13) rfl
theorem dX12_comesTo_200 : decode cX12_comesTo 200 = .ok (.ifCond .ne 5, 3) := dget dh_63 (k := 14) rfl
theorem dX12_comesTo_203 : decode cX12_comesTo 203 = .ok (.iconst 0, 1) := dget dh_63 (k := 15) rfl
theorem dX12_comesTo_204 : decode cX12_comesTo 204 = .ok (.ireturn, 1) := dget dh_63 (k := 16) rfl
theorem dX12_comesTo_205 : decode cX12_comesTo 205 = .ok (.aload_n 0, 1) := dget dh_63 (k := 17) rfl
theorem dX12_comesTo_206 : decode cX12_comesTo 206 = .ok (.getfield 105, 3) := dget dh_63 (k := 18) rfl
theorem dX12_comesTo_209 : decode cX12_comesTo 209 = .ok (.iload_n 3, 1) := dget dh_63 (k := 19) rfl
def dl_64 : List (Nat × (Instr × Nat)) := [(210, (.iconst 1, 1)), (211, (.isub, 1)), (212, (.iload 6, 2)), (214, (.aload_n 0, 1)), (215, (.getfield 105, 3)), (218, (.iload_n 3, 1)), (219, (.iconst 1, 1)), (220, (.isub, 1)), (221, (.iaload, 1)), (222, (.aload_n 0, 1)), (223, (.getfield 105, 3)), (226, (.iload_n 3, 1)), (227, (.iaload, 1)), (228, (.invokestatic 356, 3)), (231, (.iastore, 1)), (232, (.goto (-216), 3)), (235, (.aload_n 0, 1)), (236, (.getfield 105, 3)), (239, (.iconst 0, 1)), (240, (.iaload, 1))]
theorem dh_64 : dchk cX12_comesTo dl_64 = true := by decide +kernel
theorem dX12_comesTo_210 : decode cX12_comesTo 210 = .ok (.iconst 1, 1) := dget dh_64 (k := 0) rfl
theorem dX12_comesTo_211 : decode cX12_comesTo 211 = .ok (.isub, 1) := dget dh_64 (k := 1) rfl
theorem dX12_comesTo_212 : decode cX12_comesTo 212 = .ok (.iload 6, 2) := dget dh_64 (k := 2) rfl
theorem dX12_comesTo_214 : decode cX12_comesTo 214 = .ok (.aload_n 0, 1) := dget dh_64 (k := 3) rfl
theorem dX12_comesTo_215 : decode cX12_comesTo 215 = .ok (.getfield 105, 3) := dget dh_64 (k := 4) rfl
theorem dX12_comesTo_218 : decode cX12_comesTo 218 = .ok (.iload_n 3, 1) := dget dh_64 (k := 5) rfl
theorem dX12_comesTo_219 : decode cX12_comesTo 219 = .ok (.iconst 1, 1) := dget dh_64 (k := 6) rfl
theorem dX12_comesTo_220 : decode cX12_comesTo 220 = .ok (.isub, 1) := dget dh_64 (k := 7) rfl
theorem dX12_comesTo_221 : decode cX12_comesTo 221 = .ok (.iaload, 1) := dget dh_64 (k := 8) rfl
theorem dX12_comesTo_222 : decode cX12_comesTo 222 = .ok (.aload_n 0, 1) := dget dh_64 (k := 9) rfl
theorem dX12_comesTo_223 : decode cX12_comesTo 223 = .ok (.getfield 105, 3) := dget dh_64 (k := 10) rfl
theorem dX12_comesTo_226 : decode cX12_comesTo 226 = .ok (.iload_n 3, 1) := dget dh_64 (k := 11) rfl
theorem dX12_comesTo_227 : decode cX12_comesTo 227 = .ok (.iaload, 1) := dget dh_64 (k := 12) rfl
theorem dX12_comesTo_228 : decode cX12_comesTo 228 = .ok (.invokestatic 356, 3) := dget dh_64 (k := 13) rfl
theorem dX12_comesTo_231 : decode cX12_comesTo 231 = .ok (.iastore, 1) := dget dh_64 (k := 14) rfl
theorem dX12_comesTo_232 : decode cX12_comesTo 232 = .ok (.goto (-216), 3) := dget dh_64 (k := 15) rfl
theorem dX12_comesTo_235 : decode cX12_comesTo 235 = .ok (.aload_n 0, 1) := dget dh_64 (k := 16) rfl
theorem dX12_comesTo_236 : decode cX12_comesTo 236 = .ok (.getfield 105, 3) := dget dh_64 (k := 17) rfl
theorem dX12_comesTo_239 : decode cX12_comesTo 239 = .ok (.iconst 0, 1) := dget dh_64 (k := 18) rfl
theorem dX12_comesTo_240 : decode cX12_comesTo 240 = .ok (.iaload, 1) := dget dh_64 (k := 19) rfl
def dl_65 : List (Nat × (Instr × Nat)) := [(241, (.ireturn, 1))]
theorem dh_65 : dchk cX12_comesTo dl_65 = true := by decide +kernel
theorem dX12_comesTo_241 : decode cX12_comesTo 241 = .ok (.ireturn, 1) := dget dh_65 (k := 0) rfl
def dl_66 : List (Nat × (Instr × Nat)) := [(0, (.iload_n 0, 1)), (1, (.tableswitch 85 2 8 #[43, 47, 51, 55, 59, 63, 74], 43)), (44, (.iload_n 1, 1)), (45, (.iload_n 2, 1)), (46, (.iadd, 1)), (47, (.ireturn, 1)), (48, (.iload_n 1, 1)), (49, (.iload_n 2, 1)), (50, (.isub, 1)), (51, (.ireturn, 1)), (52, (.iload_n 1, 1)), (53, (.iload_n 2, 1)), (54, (.imul, 1)), (55, (.ireturn, 1)), (56, (.iload_n 1, 1)), (57, (.iload_n 2, 1)), (58, (.idiv, 1)), (59, (.ireturn, 1)), (60, (.iload_n 1, 1)), (61, (.iload_n 2, 1))]
theorem dh_66 : dchk cX12_reckon dl_66 = true := by decide +kernel
theorem dX12_reckon_0 : decode cX12_reckon 0 = .ok (.iload_n 0, 1) := dget dh_66 (k := 0) rfl
theorem dX12_reckon_1 : decode cX12_reckon 1 = .ok (.tableswitch 85 2 8 #[43, 47, 51, 55, 59, 63, 74], 43) := dget dh_66 (k := 1) rfl
theorem dX12_reckon_44 : decode cX12_reckon 44 = .ok (.iload_n 1, 1) := dget dh_66 (k := 2) rfl
theorem dX12_reckon_45 : decode cX12_reckon 45 = .ok (.iload_n 2, 1) := dget dh_66 (k := 3) rfl
theorem dX12_reckon_46 : decode cX12_reckon 46 = .ok (.iadd, 1) := dget dh_66 (k := 4) rfl
theorem dX12_reckon_47 : decode cX12_reckon 47 = .ok (.ireturn, 1) := dget dh_66 (k := 5) rfl
theorem dX12_reckon_48 : decode cX12_reckon 48 = .ok (.iload_n 1, 1) := dget dh_66 (k := 6) rfl
theorem dX12_reckon_49 : decode cX12_reckon 49 = .ok (.iload_n 2, 1) := dget dh_66 (k := 7) rfl
theorem dX12_reckon_50 : decode cX12_reckon 50 = .ok (.isub, 1) := dget dh_66 (k := 8) rfl
theorem dX12_reckon_51 : decode cX12_reckon 51 = .ok (.ireturn, 1) := dget dh_66 (k := 9) rfl
theorem dX12_reckon_52 : decode cX12_reckon 52 = .ok (.iload_n 1, 1) := dget dh_66 (k := 10) rfl
theorem dX12_reckon_53 : decode cX12_reckon 53 = .ok (.iload_n 2, 1) := dget dh_66 (k := 11) rfl
theorem dX12_reckon_54 : decode cX12_reckon 54 = .ok (.imul, 1) := dget dh_66 (k := 12) rfl
theorem dX12_reckon_55 : decode cX12_reckon 55 = .ok (.ireturn, 1) := dget dh_66 (k := 13) rfl
theorem dX12_reckon_56 : decode cX12_reckon 56 = .ok (.iload_n 1, 1) := dget dh_66 (k := 14) rfl
theorem dX12_reckon_57 : decode cX12_reckon 57 = .ok (.iload_n 2, 1) := dget dh_66 (k := 15) rfl
theorem dX12_reckon_58 : decode cX12_reckon 58 = .ok (.idiv, 1) := dget dh_66 (k := 16) rfl
theorem dX12_reckon_59 : decode cX12_reckon 59 = .ok (.ireturn, 1) := dget dh_66 (k := 17) rfl
theorem dX12_reckon_60 : decode cX12_reckon 60 = .ok (.iload_n 1, 1) := dget dh_66 (k := 18) rfl
theorem dX12_reckon_61 : decode cX12_reckon 61 = .ok (.iload_n 2, 1) := dget dh_66 (k := 19) rfl
def dl_67 : List (Nat × (Instr × Nat)) := [(62, (.irem, 1)), (63, (.ireturn, 1)), (64, (.iload_n 1, 1)), (65, (.iload_n 2, 1)), (66, (.if_icmp .ge 7, 3)), (69, (.iconst 1, 1)), (70, (.goto 4, 3)), (73, (.iconst 0, 1)), (74, (.ireturn, 1)), (75, (.iload_n 1, 1)), (76, (.iload_n 2, 1)), (77, (.if_icmp .le 7, 3)), (80, (.iconst 1, 1)), (81, (.goto 4, 3)), (84, (.iconst 0, 1)), (85, (.ireturn, 1)), (86, (.iload_n 1, 1)), (87, (.iload_n 2, 1)), (88, (.if_icmp .ne 7, 3)), (91, (.iconst 1, 1))]
theorem dh_67 : dchk cX12_reckon dl_67 = true := by decide +kernel
theorem dX12_reckon_62 : decode cX12_reckon 62 = .ok (.irem, 1) := dget dh_67 (k := 0) rfl
theorem dX12_reckon_63 : decode cX12_reckon 63 = .ok (.ireturn, 1) := dget dh_67 (k := 1) rfl
theorem dX12_reckon_64 : decode cX12_reckon 64 = .ok (.iload_n 1, 1) := dget dh_67 (k := 2) rfl
theorem dX12_reckon_65 : decode cX12_reckon 65 = .ok (.iload_n 2, 1) := dget dh_67 (k := 3) rfl
theorem dX12_reckon_66 : decode cX12_reckon 66 = .ok (.if_icmp .ge 7, 3) := dget dh_67 (k := 4) rfl
theorem dX12_reckon_69 : decode cX12_reckon 69 = .ok (.iconst 1, 1) := dget dh_67 (k := 5) rfl
theorem dX12_reckon_70 : decode cX12_reckon 70 = .ok (.goto 4, 3) := dget dh_67 (k := 6) rfl
theorem dX12_reckon_73 : decode cX12_reckon 73 = .ok (.iconst 0, 1) := dget dh_67 (k := 7) rfl
theorem dX12_reckon_74 : decode cX12_reckon 74 = .ok (.ireturn, 1) := dget dh_67 (k := 8) rfl
theorem dX12_reckon_75 : decode cX12_reckon 75 = .ok (.iload_n 1, 1) := dget dh_67 (k := 9) rfl
theorem dX12_reckon_76 : decode cX12_reckon 76 = .ok (.iload_n 2, 1) := dget dh_67 (k := 10) rfl
theorem dX12_reckon_77 : decode cX12_reckon 77 = .ok (.if_icmp .le 7, 3) := dget dh_67 (k := 11) rfl
theorem dX12_reckon_80 : decode cX12_reckon 80 = .ok (.iconst 1, 1) := dget dh_67 (k := 12) rfl
theorem dX12_reckon_81 : decode cX12_reckon 81 = .ok (.goto 4, 3) := dget dh_67 (k := 13) rfl
theorem dX12_reckon_84 : decode cX12_reckon 84 = .ok (.iconst 0, 1) := dget dh_67 (k := 14) rfl
theorem dX12_reckon_85 : decode cX12_reckon 85 = .ok (.ireturn, 1) := dget dh_67 (k := 15) rfl
theorem dX12_reckon_86 : decode cX12_reckon 86 = .ok (.iload_n 1, 1) := dget dh_67 (k := 16) rfl
theorem dX12_reckon_87 : decode cX12_reckon 87 = .ok (.iload_n 2, 1) := dget dh_67 (k := 17) rfl
theorem dX12_reckon_88 : decode cX12_reckon 88 = .ok (.if_icmp .ne 7, 3) := dget dh_67 (k := 18) rfl
theorem dX12_reckon_91 : decode cX12_reckon 91 = .ok (.iconst 1, 1) := dget dh_67 (k := 19) rfl
def dl_68 : List (Nat × (Instr × Nat)) := [(92, (.goto 4, 3)), (95, (.iconst 0, 1)), (96, (.ireturn, 1))]
theorem dh_68 : dchk cX12_reckon dl_68 = true := by decide +kernel
theorem dX12_reckon_92 : decode cX12_reckon 92 = .ok (.goto 4, 3) := dget dh_68 (k := 0) rfl
theorem dX12_reckon_95 : decode cX12_reckon 95 = .ok (.iconst 0, 1) := dget dh_68 (k := 1) rfl
theorem dX12_reckon_96 : decode cX12_reckon 96 = .ok (.ireturn, 1) := dget dh_68 (k := 2) rfl
def cOp (w : Int32) : Int := w.toInt / 1048576
def cV (w : Int32) : Int := w.toInt % 1048576
def stepOK (c : Nat → Int32) (g : Nat → Nat) (k t : Nat) : Prop := 0 ≤ (c k).toInt ∧ g k ≤ 220 ∧ g (k + 1) ≤ 220 ∧
  ((cOp (c k) = 0 ∧ g (k + 1) = g k + 1) ∨ (cOp (c k) = 1 ∧ cV (c k) < 10 ∧ g (k + 1) = g k + 1) ∨ (cOp (c k) = 10 ∧ 1 ≤ g k ∧ g (k + 1) = g k) ∨
   ((cOp (c k) = 11 ∨ cOp (c k) = 12) ∧ 1 ≤ g k ∧ g (k + 1) + 1 = g k ∧ (k : Int) < cV (c k) ∧ cV (c k) ≤ t ∧ g (cV (c k)).toNat = g k) ∨
   (cOp (c k) ≠ 0 ∧ cOp (c k) ≠ 1 ∧ cOp (c k) ≠ 10 ∧ cOp (c k) ≠ 11 ∧ cOp (c k) ≠ 12 ∧ 2 ≤ g k ∧ g (k + 1) + 1 = g k))
/-- the steps from f to t: heights from 0, every step has what it takes, every jump goes on ahead, to its own height -/
def segOK (c : Nat → Int32) (f t : Nat) : Prop := f < t ∧ t ≤ 220 ∧ ∃ g : Nat → Nat, g f = 0 ∧ ∀ k, f ≤ k → k < t → stepOK c g k t
theorem idivU {x : Int32} (h : 0 ≤ x.toInt) : (x / 1048576).toInt = x.toInt / 1048576 := by
  obtain ⟨j, hj, rfl⟩ := nI_of (x := x) (fun h2 => by have := b_lt h2; have h3 : (0 : Int32).toInt = 0 := rfl; omega)
  rw [show (1048576 : Int32) = nI 1048576 from rfl, pk_div (by omega) (by omega) (by omega), nI_toInt (by omega), nI_toInt (by omega)]
  omega
theorem iremU {x : Int32} (h : 0 ≤ x.toInt) : (x - x / 1048576 * 1048576).toInt = x.toInt % 1048576 := by
  obtain ⟨j, hj, rfl⟩ := nI_of (x := x) (fun h2 => by have := b_lt h2; have h3 : (0 : Int32).toInt = 0 := rfl; omega)
  rw [show (1048576 : Int32) = nI 1048576 from rfl, pk_rem (by omega) (by omega) (by omega), nI_toInt (by omega), nI_toInt (by omega)]
  omega
theorem idiv220 {x : Int32} (h : 0 ≤ x.toInt) (h2 : x.toInt < 220) : x / 220 = 0 := by
  obtain ⟨j, hj, rfl⟩ := nI_of (x := x) (fun h2 => by have := b_lt h2; have h3 : (0 : Int32).toInt = 0 := rfl; omega)
  rw [nI_toInt (by omega)] at h2
  rw [show (220 : Int32) = nI 220 from rfl, pk_div (by omega) (by omega) (by omega), show j / 220 = 0 by omega]
  rfl
set_option maxHeartbeats 4000000 in
set_option maxRecDepth 100000 in
theorem c_X12_reckon (l : Launch) (p0 p1 p2 : Int32) (q : p0.toInt = 5 ∨ p0.toInt = 6 → p2.toInt ≠ 0) : Met l yX12_reckon (Cond.code yX12_reckon cX12_reckon 3 (some .int) :: gT) { frames := 1, cells := 0, slots := 0, locals := 24 } (va_Pc [.int p0, .int p1, .int p2] (fun _ => True)) (vp_Si (fun z => True)) 0 0 (fun _ => False) := by
  refine Met.ofQ (cc := cX12_reckon) (maxL := 3) (ret := (some .int)) (by decide) rfl ?_
  intro p e s m args below meth c s₁ B hml hv Q hQ
  obtain ⟨rfl, -⟩ := hv
  have hx := B.exec
  have hb := B.bytes
  have hr := B.returns
  have hlocks := B.notSynchronized
  have hT : ∀ w ∈ gT, w.before _ s = true := fun w h => atoms_spec (ws := (Cond.code yX12_reckon cX12_reckon 3 (some .int) :: gT)) B.pre w (List.mem_cons_of_mem _ h)
  have hown : s.vm.findClass RX12 = some m.cls := findClass_of_methodNamed B.named
  have hl := lv_entry ([.int p0, .int p1, .int p2]) (n := 3) (Nat.le_of_ble_eq_true rfl)
  rw [lg_entry_eq]
  generalize (lg_sl ([.int p0, .int p1, .int p2]) ++ List.replicate (3 - (lg_sl ([.int p0, .int p1, .int p2])).length) Slot.unset).toArray = ls at hl ⊢
  have hl : lv_has ls 3 [(0, .int p0), (1, .int p1), (2, .int p2)] := hl
  refine lv_iload_n hx hb dX12_reckon_0 rfl (lv_at hl 0 rfl) ?_
  rcases (show (p0.toInt < 2 ∨ 8 < p0.toInt) ∨ p0.toInt = 2 ∨ p0.toInt = 3 ∨ p0.toInt = 4 ∨ p0.toInt = 5 ∨ p0.toInt = 6 ∨ p0.toInt = 7 ∨ p0.toInt = 8 by omega) with h_1 | h_1 | h_1 | h_1 | h_1 | h_1 | h_1 | h_1
  · refine lv_tableOut (tgt := 86) hx hb dX12_reckon_1 h_1 (by decide) ?_
    refine lv_iload_n hx hb dX12_reckon_86 rfl (lv_at hl 1 rfl) ?_
    refine lv_iload_n hx hb dX12_reckon_87 rfl (lv_at hl 2 rfl) ?_
    refine lv_icmp_ne (tgt := 95) hx hb dX12_reckon_88 (by decide) (fun c_2 => ?_) (fun c_2 => ?_)
    · have c_2 : p1.toInt ≠ p2.toInt := b_ne c_2
      refine lv_iconst (v := 0) hx hb dX12_reckon_95 (by decide) ?_
      subst hQ
      exact W.iret (v := 0) hx hb hr (fun t ht hW => ⟨_, rfl, trivial, ht⟩) (fun q hq => absurd hq List.not_mem_nil) dX12_reckon_96
    · have c_2 : p1.toInt = p2.toInt := b_nne c_2
      refine lv_iconst (v := 1) hx hb dX12_reckon_91 (by decide) ?_
      refine lv_goto (tgt := 96) hx hb dX12_reckon_92 (by decide) ?_
      subst hQ
      exact W.iret (v := 1) hx hb hr (fun t ht hW => ⟨_, rfl, trivial, ht⟩) (fun q hq => absurd hq List.not_mem_nil) dX12_reckon_96
  · refine lv_tableIn (off := 43) (tgt := 44) hx hb dX12_reckon_1 (by omega) (by omega) (by rw [h_1]; rfl) (by decide) ?_
    refine lv_iload_n hx hb dX12_reckon_44 rfl (lv_at hl 1 rfl) ?_
    refine lv_iload_n hx hb dX12_reckon_45 rfl (lv_at hl 2 rfl) ?_
    refine lv_iadd hx hb dX12_reckon_46 ?_
    refine lv_topi (fun v_3 ev_3 => ?_)
    subst hQ
    exact W.iret (v := v_3) hx hb hr (fun t ht hW => ⟨_, rfl, trivial, ht⟩) (fun q hq => absurd hq List.not_mem_nil) dX12_reckon_47
  · refine lv_tableIn (off := 47) (tgt := 48) hx hb dX12_reckon_1 (by omega) (by omega) (by rw [h_1]; rfl) (by decide) ?_
    refine lv_iload_n hx hb dX12_reckon_48 rfl (lv_at hl 1 rfl) ?_
    refine lv_iload_n hx hb dX12_reckon_49 rfl (lv_at hl 2 rfl) ?_
    refine lv_isub hx hb dX12_reckon_50 ?_
    refine lv_topi (fun v_4 ev_4 => ?_)
    subst hQ
    exact W.iret (v := v_4) hx hb hr (fun t ht hW => ⟨_, rfl, trivial, ht⟩) (fun q hq => absurd hq List.not_mem_nil) dX12_reckon_51
  · refine lv_tableIn (off := 51) (tgt := 52) hx hb dX12_reckon_1 (by omega) (by omega) (by rw [h_1]; rfl) (by decide) ?_
    refine lv_iload_n hx hb dX12_reckon_52 rfl (lv_at hl 1 rfl) ?_
    refine lv_iload_n hx hb dX12_reckon_53 rfl (lv_at hl 2 rfl) ?_
    refine lv_imul hx hb dX12_reckon_54 ?_
    refine lv_topi (fun v_5 ev_5 => ?_)
    subst hQ
    exact W.iret (v := v_5) hx hb hr (fun t ht hW => ⟨_, rfl, trivial, ht⟩) (fun q hq => absurd hq List.not_mem_nil) dX12_reckon_55
  · refine lv_tableIn (off := 55) (tgt := 56) hx hb dX12_reckon_1 (by omega) (by omega) (by rw [h_1]; rfl) (by decide) ?_
    refine lv_iload_n hx hb dX12_reckon_56 rfl (lv_at hl 1 rfl) ?_
    refine lv_iload_n hx hb dX12_reckon_57 rfl (lv_at hl 2 rfl) ?_
    refine lv_idiv hx hb dX12_reckon_58 (nz (by omega)) ?_
    refine lv_topi (fun v_6 ev_6 => ?_)
    subst hQ
    exact W.iret (v := v_6) hx hb hr (fun t ht hW => ⟨_, rfl, trivial, ht⟩) (fun q hq => absurd hq List.not_mem_nil) dX12_reckon_59
  · refine lv_tableIn (off := 59) (tgt := 60) hx hb dX12_reckon_1 (by omega) (by omega) (by rw [h_1]; rfl) (by decide) ?_
    refine lv_iload_n hx hb dX12_reckon_60 rfl (lv_at hl 1 rfl) ?_
    refine lv_iload_n hx hb dX12_reckon_61 rfl (lv_at hl 2 rfl) ?_
    refine lv_irem hx hb dX12_reckon_62 (nz (by omega)) ?_
    refine lv_topi (fun v_7 ev_7 => ?_)
    subst hQ
    exact W.iret (v := v_7) hx hb hr (fun t ht hW => ⟨_, rfl, trivial, ht⟩) (fun q hq => absurd hq List.not_mem_nil) dX12_reckon_63
  · refine lv_tableIn (off := 63) (tgt := 64) hx hb dX12_reckon_1 (by omega) (by omega) (by rw [h_1]; rfl) (by decide) ?_
    refine lv_iload_n hx hb dX12_reckon_64 rfl (lv_at hl 1 rfl) ?_
    refine lv_iload_n hx hb dX12_reckon_65 rfl (lv_at hl 2 rfl) ?_
    refine lv_icmp_ge (tgt := 73) hx hb dX12_reckon_66 (by decide) (fun c_8 => ?_) (fun c_8 => ?_)
    · have c_8 : p2.toInt ≤ p1.toInt := b_le c_8
      refine lv_iconst (v := 0) hx hb dX12_reckon_73 (by decide) ?_
      subst hQ
      exact W.iret (v := 0) hx hb hr (fun t ht hW => ⟨_, rfl, trivial, ht⟩) (fun q hq => absurd hq List.not_mem_nil) dX12_reckon_74
    · have c_8 : p1.toInt < p2.toInt := b_nle c_8
      refine lv_iconst (v := 1) hx hb dX12_reckon_69 (by decide) ?_
      refine lv_goto (tgt := 74) hx hb dX12_reckon_70 (by decide) ?_
      subst hQ
      exact W.iret (v := 1) hx hb hr (fun t ht hW => ⟨_, rfl, trivial, ht⟩) (fun q hq => absurd hq List.not_mem_nil) dX12_reckon_74
  · refine lv_tableIn (off := 74) (tgt := 75) hx hb dX12_reckon_1 (by omega) (by omega) (by rw [h_1]; rfl) (by decide) ?_
    refine lv_iload_n hx hb dX12_reckon_75 rfl (lv_at hl 1 rfl) ?_
    refine lv_iload_n hx hb dX12_reckon_76 rfl (lv_at hl 2 rfl) ?_
    refine lv_icmp_le (tgt := 84) hx hb dX12_reckon_77 (by decide) (fun c_9 => ?_) (fun c_9 => ?_)
    · have c_9 : p1.toInt ≤ p2.toInt := b_le c_9
      refine lv_iconst (v := 0) hx hb dX12_reckon_84 (by decide) ?_
      subst hQ
      exact W.iret (v := 0) hx hb hr (fun t ht hW => ⟨_, rfl, trivial, ht⟩) (fun q hq => absurd hq List.not_mem_nil) dX12_reckon_85
    · have c_9 : p2.toInt < p1.toInt := b_nle c_9
      refine lv_iconst (v := 1) hx hb dX12_reckon_80 (by decide) ?_
      refine lv_goto (tgt := 85) hx hb dX12_reckon_81 (by decide) ?_
      subst hQ
      exact W.iret (v := 1) hx hb hr (fun t ht hW => ⟨_, rfl, trivial, ht⟩) (fun q hq => absurd hq List.not_mem_nil) dX12_reckon_85
set_option maxHeartbeats 4000000 in
set_option maxRecDepth 100000 in
theorem c_X12_comesTo (l : Launch) (D : va_G) (cy : Nat → ClassId) (a : Nat → Nat) (i : Nat → Int32) (r : Nat → Nat → Int32) (rl : Nat → Int64) (p0 p1 : Int32) (sz : Nat) (hRi : mRi i) (hRr : mRr r) (q0 : 0 ≤ p0.toInt) (q1 : 0 ≤ p1.toInt) (hw : segOK (r 27) p0.toNatClampNeg p1.toNatClampNeg) : Met l yX12_comesTo (Cond.code yX12_comesTo cX12_comesTo 8 (some .int) :: gT) { frames := 2, cells := 0, slots := 0, locals := 46 } (va_Pc [.ref (a 0), .int p0, .int p1] (rQ D cy (mW cy a i r rl) sz)) (va_Qi (fun (z : Int32) (u : Nat → Nat → Int32) => mRr u ∧ mEr [32] r u ∧ True) (fun (u : Nat → Nat → Int32) t => va_P D vwCl (mW cy a i u rl) t.heap ∧ va_K D vwCl (vT cy) t ∧ va_D (va_A (mW cy a i r rl) sz) (mW cy a i u rl)) (va_A (mW cy a i r rl) sz)) 0 0 (va_A (mW cy a i r rl) sz) := by
  refine Met.ofQ (cc := cX12_comesTo) (maxL := 8) (ret := (some .int)) (by decide) rfl ?_
  intro p e s m args below meth c s₁ B hml hv Q hQ
  obtain ⟨rfl, hsz, hP, hK, hD0⟩ := hv
  have hx := B.exec
  have hb := B.bytes
  have hr := B.returns
  have hlocks := B.notSynchronized
  have hT : ∀ w ∈ gT, w.before _ s = true := fun w h => atoms_spec (ws := (Cond.code yX12_comesTo cX12_comesTo 8 (some .int) :: gT)) B.pre w (List.mem_cons_of_mem _ h)
  have hown : s.vm.findClass RX12 = some m.cls := findClass_of_methodNamed B.named
  subst hsz
  have hD := hD0.self (sz := s.heap.size)
  generalize hAe : va_A (mW cy a i r rl) s.heap.size = A at hD hQ
  have hA : ∀ q : Nat, s.heap.size ≤ q → A q := fun q h => by rw [← hAe]; exact Or.inr h
  have hS : va_S A s.heap s.heap [] := va_S.rf
  have hl := lv_entry ([.ref (a 0), .int p0, .int p1]) (n := 8) (Nat.le_of_ble_eq_true rfl)
  rw [lg_entry_eq]
  generalize (lg_sl ([.ref (a 0), .int p0, .int p1]) ++ List.replicate (8 - (lg_sl ([.ref (a 0), .int p0, .int p1])).length) Slot.unset).toArray = ls at hl ⊢
  have hl : lv_has ls 8 [(0, .ref (a 0)), (1, .int p0), (2, .int p1)] := hl
  have hEi : mEi [23, 24, 25, 26, 27, 28, 29, 30, 60] i i := Ei_rf
  have hEr : mEr [32] r r := Er_rf
  obtain ⟨hft, ht, g, hg0, hg⟩ := hw
  have hc0 : p0.toNatClampNeg = p0.toInt.toNat := rfl
  have hc1 : p1.toNatClampNeg = p1.toInt.toNat := rfl
  rw [hc0] at hft hg0 hg
  rw [hc1] at hft ht hg
  refine lv_iconst (v := 0) hx hb dX12_comesTo_0 (by decide) ?_
  refine lv_istore_n (lv' := [(3, .int 0), (0, .ref (a 0)), (1, .int p0), (2, .int p1)]) hx hb dX12_comesTo_1 rfl hl (by decide) rfl (fun ls hl => ?_)
  refine lv_sipush (v := 220) hx hb dX12_comesTo_2 (by decide) ?_
  refine lv_iload_n hx hb dX12_comesTo_5 rfl (lv_at hl 2 rfl) ?_
  refine lv_sipush (v := 220) hx hb dX12_comesTo_6 (by decide) ?_
  refine lv_idiv hx hb dX12_comesTo_9 (by decide) ?_
  refine lv_topi (fun v_1 ev_1 => ?_)
  obtain rfl : v_1 = 0 := ev_1.trans (idiv220 (by omega) (by omega))
  refine lv_imul hx hb dX12_comesTo_10 ?_
  refine lv_topi (fun v_2 ev_2 => ?_)
  obtain rfl : v_2 = 0 := ev_2.trans (by decide)
  refine lv_istore (lv' := [(4, .int 0), (3, .int 0), (0, .ref (a 0)), (1, .int p0), (2, .int p1)]) hx hb dX12_comesTo_11 hl (by decide) rfl (fun ls hl => ?_)
  refine lv_iload_n hx hb dX12_comesTo_13 rfl (lv_at hl 3 rfl) ?_
  refine lv_istore (lv' := [(5, .int p0), (4, .int 0), (3, .int 0), (0, .ref (a 0)), (1, .int p0), (2, .int p1)]) hx hb dX12_comesTo_14 hl (by decide) rfl (fun ls hl => ?_)
  have loop_3 : ∀ (n : Nat) (x3_5 : Int32) (x3_3 : Int32) (r3 : Nat → Nat → Int32) (H : Heap) (locs : List Loc) (ls : Array Slot), (p1.toInt - x3_5.toInt).toNat < n → (0 ≤ x3_5.toInt ∧ x3_5.toInt ≤ 220) → (0 ≤ x3_3.toInt ∧ x3_3.toInt ≤ 220) → mRr r3 → mEr [32] r r3 → (p0.toInt ≤ x3_5.toInt ∧ x3_5.toInt ≤ p1.toInt ∧ x3_3.toInt = (g x3_5.toInt.toNat : Int)) → va_P D vwCl (mW cy a i r3 rl) H → va_D A (mW cy a i r3 rl) → va_S A s.heap H locs → lv_has ls 8 [(5, .int x3_5), (4, .int 0), (3, .int x3_3), (0, .ref (a 0)), (1, .int p0), (2, .int p1)] → W p l e ({ frames := 2, cells := 0, slots := 0, locals := 46 } : Room) s m ([.ref (a 0), .int p0, .int p1] : List Value).toArray below meth c H locs 0 0 Q (F0 m 16 ls []) := by
    intro n
    induction n with
    | zero =>
      intro x3_5 x3_3 r3 H locs ls hm3 hf3_0 hf3_1 hRr hEr hx3 hP hD hS hl
      exact absurd hm3 (by omega)
    | succ n ih3 =>
      intro x3_5 x3_3 r3 H locs ls hm3 hf3_0 hf3_1 hRr hEr hx3 hP hD hS hl
      refine lv_iload hx hb dX12_comesTo_16 (lv_at hl 0 rfl) ?_
      refine lv_iload_n hx hb dX12_comesTo_18 rfl (lv_at hl 5 rfl) ?_
      refine lv_icmp_ge (tgt := 235) hx hb dX12_comesTo_19 (by decide) (fun c_4 => ?_) (fun c_4 => ?_)
      · have c_4 : p1.toInt ≤ x3_5.toInt := b_le c_4
        refine lv_aload_n hx hb dX12_comesTo_235 rfl (lv_at hl 3 rfl) ?_
        refine va_get (D := D) (ci := 12) (v := .ref (a 32)) (C := RX12) (T := TX12) (N := 91) hx hb hT iX12 hown hK hP 0 rfl rfl 43 (by decide) (hT _ t_82) (fun _ h9 => h9) rfl dX12_comesTo_236 ?_
        refine lv_iconst (v := 0) hx hb dX12_comesTo_239 (by decide) ?_
        refine va_iald hx hb hK hP 32 0 rfl rfl (vp_inI (by decide) (by decide)) dX12_comesTo_240 ?_
        refine lv_topi (fun v_5 ev_5 => ?_)
        have hwv_5 : v_5.toInt = (r3 32 ((0 : Int32).toNatClampNeg)).toInt := congrArg Int32.toInt ev_5
        subst hQ
        exact W.iret (v := v_5) hx hb hr (fun t ht hW => ⟨⟨_, r3, rfl, ⟨hRr, hEr, trivial⟩, by rw [ht]; exact hP, va_K.moved hW.alike hK, hD⟩, hS.F ht⟩) hS.2.2 dX12_comesTo_241
      · have c_4 : x3_5.toInt < p1.toInt := b_nle c_4
        obtain ⟨K, hKK⟩ : ∃ K : Nat, K = x3_5.toInt.toNat := ⟨_, rfl⟩
        have hx5 := hx3
        rw [← hKK] at hx5
        have hs := hg K (by omega) (by omega)
        unfold stepOK at hs
        obtain ⟨hs0, hs1, hs2, hs3⟩ := hs
        have hc38 : r3 27 = r 27 := hEr 27 (by decide)
        have hcv : 0 ≤ cV (r 27 K) ∧ cV (r 27 K) < 1048576 := by unfold cV; omega
        have hKc : x3_5.toNatClampNeg = K := hKK.symm
        refine lv_aload_n hx hb dX12_comesTo_22 rfl (lv_at hl 3 rfl) ?_
        refine va_get (D := D) (ci := 12) (v := .ref (a 27)) (C := RX12) (T := TX12) (N := 91) hx hb hT iX12 hown hK hP 0 rfl rfl 38 (by decide) (hT _ t_83) (fun _ h9 => h9) rfl dX12_comesTo_23 ?_
        refine lv_iload hx hb dX12_comesTo_26 (lv_at hl 0 rfl) ?_
        refine va_iald hx hb hK hP 27 0 rfl rfl (vp_inI (by omega) (by omega)) dX12_comesTo_28 ?_
        refine lv_topi (fun v_6 ev_6 => ?_)
        refine lv_ldcw (v := 1048576) hx hb hown (hT _ t_84) dX12_comesTo_29 ?_
        refine lv_idiv hx hb dX12_comesTo_32 (by decide) ?_
        refine lv_topi (fun v_7 ev_7 => ?_)
        have hop : v_7.toInt = cOp (r 27 K) := by rw [ev_7, ev_6, hc38, hKc]; exact idivU hs0
        have hop2 : 0 ≤ v_7.toInt ∧ v_7.toInt ≤ 2047 := by rw [hop]; unfold cOp; have := b_rg (r 27 K); omega
        refine lv_istore (lv' := [(6, .int v_7), (5, .int x3_5), (4, .int 0), (3, .int x3_3), (0, .ref (a 0)), (1, .int p0), (2, .int p1)]) hx hb dX12_comesTo_33 hl (by decide) rfl (fun ls hl => ?_)
        refine lv_aload_n hx hb dX12_comesTo_35 rfl (lv_at hl 4 rfl) ?_
        refine va_get (D := D) (ci := 12) (v := .ref (a 27)) (C := RX12) (T := TX12) (N := 91) hx hb hT iX12 hown hK hP 0 rfl rfl 38 (by decide) (hT _ t_83) (fun _ h9 => h9) rfl dX12_comesTo_36 ?_
        refine lv_iload hx hb dX12_comesTo_39 (lv_at hl 1 rfl) ?_
        refine va_iald hx hb hK hP 27 0 rfl rfl (vp_inI (by omega) (by omega)) dX12_comesTo_41 ?_
        refine lv_topi (fun v_8 ev_8 => ?_)
        refine lv_ldcw (v := 1048576) hx hb hown (hT _ t_84) dX12_comesTo_42 ?_
        refine lv_irem hx hb dX12_comesTo_45 (by decide) ?_
        refine lv_topi (fun v_9 ev_9 => ?_)
        have hvv : v_9.toInt = cV (r 27 K) := by rw [ev_9, ev_8, hc38, hKc]; exact iremU hs0
        refine lv_istore (lv' := [(7, .int v_9), (6, .int v_7), (5, .int x3_5), (4, .int 0), (3, .int x3_3), (0, .ref (a 0)), (1, .int p0), (2, .int p1)]) hx hb dX12_comesTo_46 hl (by decide) rfl (fun ls hl => ?_)
        refine lv_iload hx hb dX12_comesTo_48 (lv_at hl 2 rfl) ?_
        refine lv_iconst (v := 1) hx hb dX12_comesTo_50 (by decide) ?_
        refine lv_iadd hx hb dX12_comesTo_51 ?_
        refine lv_topi (fun v_10 ev_10 => ?_)
        have hv_10 : v_10.toInt = x3_5.toInt + 1 := by rw [ev_10]; have := b_rg x3_5; exact i_add (a := x3_5.toInt) (b := 1) rfl rfl (by omega) (by omega)
        refine lv_istore (lv' := [(5, .int v_10), (7, .int v_9), (6, .int v_7), (4, .int 0), (3, .int x3_3), (0, .ref (a 0)), (1, .int p0), (2, .int p1)]) hx hb dX12_comesTo_52 hl (by decide) rfl (fun ls hl => ?_)
        refine lv_iload hx hb dX12_comesTo_54 (lv_at hl 2 rfl) ?_
        refine lv_if_eq (tgt := 65) hx hb dX12_comesTo_56 (by decide) (fun c_11 => ?_) (fun c_11 => ?_)
        · have c_11 : v_7.toInt = 0 := b_eq c_11
          refine lv_aload_n hx hb dX12_comesTo_65 rfl (lv_at hl 5 rfl) ?_
          refine va_get (D := D) (ci := 12) (v := .ref (a 32)) (C := RX12) (T := TX12) (N := 91) hx hb hT iX12 hown hK hP 0 rfl rfl 43 (by decide) (hT _ t_82) (fun _ h9 => h9) rfl dX12_comesTo_66 ?_
          refine lv_iload_n hx hb dX12_comesTo_69 rfl (lv_at hl 4 rfl) ?_
          refine lv_iload hx hb dX12_comesTo_70 (lv_at hl 2 rfl) ?_
          refine lv_if_ne (tgt := 80) hx hb dX12_comesTo_72 (by decide) (fun c_12 => by have c_12 : v_7.toInt ≠ 0 := b_ne c_12; omega) (fun c_12 => ?_)
          have c_12 : v_7.toInt = 0 := b_nne c_12
          refine lv_iload hx hb dX12_comesTo_75 (lv_at hl 1 rfl) ?_
          refine lv_goto (tgt := 87) hx hb dX12_comesTo_77 (by decide) ?_
          refine va_iast hx hb hK hP hD hS 32 0 rfl rfl (vp_inI (by omega) (by omega)) dX12_comesTo_87 (fun H locs hP hD hS => ?_)
          rw [mS32] at hP hD
          have hRr : mRr (va_up r3 32 (upd (r3 32) x3_3.toNatClampNeg v_9)) := Rr_upd hRr 32 (x3_3.toNatClampNeg) v_9 (b_rg _)
          have hEr : mEr [32] _ (va_up r3 32 (upd (r3 32) x3_3.toNatClampNeg v_9)) := Er_up hEr 32 _ (by decide)
          refine lv_iload_n hx hb dX12_comesTo_88 rfl (lv_at hl 4 rfl) ?_
          refine lv_iconst (v := 1) hx hb dX12_comesTo_89 (by decide) ?_
          refine lv_iadd hx hb dX12_comesTo_90 ?_
          refine lv_topi (fun v_13 ev_13 => ?_)
          have hv_13 : v_13.toInt = x3_3.toInt + 1 := by rw [ev_13]; have := b_rg x3_3; exact i_add (a := x3_3.toInt) (b := 1) rfl rfl (by omega) (by omega)
          refine lv_istore_n (lv' := [(3, .int v_13), (5, .int v_10), (7, .int v_9), (6, .int v_7), (4, .int 0), (0, .ref (a 0)), (1, .int p0), (2, .int p1)]) hx hb dX12_comesTo_91 rfl hl (by decide) rfl (fun ls hl => ?_)
          refine lv_goto (tgt := 232) hx hb dX12_comesTo_92 (by decide) ?_
          refine lv_goto (tgt := 16) hx hb dX12_comesTo_232 (by decide) ?_
          have hgk : g v_10.toInt.toNat = g (K + 1) := congrArg g (by omega)
          exact ih3 v_10 v_13 (va_up r3 32 (upd (r3 32) x3_3.toNatClampNeg v_9)) _ _ _ (by first | omega | (simp only [Int.toNat]; omega)) (by first | omega | decide) (by first | omega | decide) hRr hEr ⟨by omega, by omega, by omega⟩ hP hD hS (lv_sub hl [1, 4, 0, 5, 6, 7] rfl)
        · have c_11 : v_7.toInt ≠ 0 := b_ne c_11
          refine lv_iload hx hb dX12_comesTo_59 (lv_at hl 2 rfl) ?_
          refine lv_iconst (v := 1) hx hb dX12_comesTo_61 (by decide) ?_
          refine lv_icmp_ne (tgt := 95) hx hb dX12_comesTo_62 (by decide) (fun c_14 => ?_) (fun c_14 => ?_)
          · have c_14 : v_7.toInt ≠ 1 := b_ne c_14
            refine lv_iload hx hb dX12_comesTo_95 (lv_at hl 2 rfl) ?_
            refine lv_bipush (v := 10) hx hb dX12_comesTo_97 (by decide) ?_
            refine lv_icmp_ne (tgt := 123) hx hb dX12_comesTo_99 (by decide) (fun c_15 => ?_) (fun c_15 => ?_)
            · have c_15 : v_7.toInt ≠ 10 := b_ne c_15
              refine lv_iload hx hb dX12_comesTo_123 (lv_at hl 2 rfl) ?_
              refine lv_bipush (v := 11) hx hb dX12_comesTo_125 (by decide) ?_
              refine lv_icmp_eq (tgt := 137) hx hb dX12_comesTo_127 (by decide) (fun c_16 => ?_) (fun c_16 => ?_)
              · have c_16 : v_7.toInt = 11 := b_eq c_16
                refine lv_aload_n hx hb dX12_comesTo_137 rfl (lv_at hl 5 rfl) ?_
                refine va_get (D := D) (ci := 12) (v := .ref (a 32)) (C := RX12) (T := TX12) (N := 91) hx hb hT iX12 hown hK hP 0 rfl rfl 43 (by decide) (hT _ t_82) (fun _ h9 => h9) rfl dX12_comesTo_138 ?_
                refine lv_iload_n hx hb dX12_comesTo_141 rfl (lv_at hl 4 rfl) ?_
                refine lv_iconst (v := 1) hx hb dX12_comesTo_142 (by decide) ?_
                refine lv_isub hx hb dX12_comesTo_143 ?_
                refine lv_topi (fun v_17 ev_17 => ?_)
                have hv_17 : v_17.toInt = x3_3.toInt - 1 := by rw [ev_17]; have := b_rg x3_3; exact i_sub (a := x3_3.toInt) (b := 1) rfl rfl (by omega) (by omega)
                refine va_iald hx hb hK hP 32 0 rfl rfl (vp_inI (by omega) (by omega)) dX12_comesTo_144 ?_
                refine lv_topi (fun v_18 ev_18 => ?_)
                have hwv_18 : v_18.toInt = (r3 32 (v_17.toNatClampNeg)).toInt := congrArg Int32.toInt ev_18
                refine lv_iload hx hb dX12_comesTo_145 (lv_at hl 2 rfl) ?_
                refine lv_bipush (v := 12) hx hb dX12_comesTo_147 (by decide) ?_
                refine lv_icmp_ne (tgt := 156) hx hb dX12_comesTo_149 (by decide) (fun c_19 => ?_) (fun c_19 => by have c_19 : v_7.toInt = 12 := b_nne c_19; omega)
                have c_19 : v_7.toInt ≠ 12 := b_ne c_19
                refine lv_iconst (v := 0) hx hb dX12_comesTo_156 (by decide) ?_
                refine lv_icmp_ne (tgt := 170) hx hb dX12_comesTo_157 (by decide) (fun c_20 => ?_) (fun c_20 => ?_)
                · have c_20 : v_18.toInt ≠ 0 := b_ne c_20
                  refine lv_iload_n hx hb dX12_comesTo_170 rfl (lv_at hl 4 rfl) ?_
                  refine lv_iconst (v := 1) hx hb dX12_comesTo_171 (by decide) ?_
                  refine lv_isub hx hb dX12_comesTo_172 ?_
                  refine lv_topi (fun v_21 ev_21 => ?_)
                  have hv_21 : v_21.toInt = x3_3.toInt - 1 := by rw [ev_21]; have := b_rg x3_3; exact i_sub (a := x3_3.toInt) (b := 1) rfl rfl (by omega) (by omega)
                  refine lv_istore_n (lv' := [(3, .int v_21), (5, .int v_10), (7, .int v_9), (6, .int v_7), (4, .int 0), (0, .ref (a 0)), (1, .int p0), (2, .int p1)]) hx hb dX12_comesTo_173 rfl hl (by decide) rfl (fun ls hl => ?_)
                  refine lv_goto (tgt := 232) hx hb dX12_comesTo_174 (by decide) ?_
                  refine lv_goto (tgt := 16) hx hb dX12_comesTo_232 (by decide) ?_
                  have hgk : g v_10.toInt.toNat = g (K + 1) := congrArg g (by omega)
                  exact ih3 v_10 v_21 r3 _ _ _ (by first | omega | (simp only [Int.toNat]; omega)) (by first | omega | decide) (by first | omega | decide) hRr hEr ⟨by omega, by omega, by omega⟩ hP hD hS (lv_sub hl [1, 4, 0, 5, 6, 7] rfl)
                · have c_20 : v_18.toInt = 0 := b_nne c_20
                  refine lv_iload hx hb dX12_comesTo_160 (lv_at hl 3 rfl) ?_
                  refine lv_iload hx hb dX12_comesTo_162 (lv_at hl 1 rfl) ?_
                  refine lv_iadd hx hb dX12_comesTo_164 ?_
                  refine lv_topi (fun v_22 ev_22 => ?_)
                  have hv_22 : v_22.toInt = 0 + v_9.toInt := by rw [ev_22]; have := b_rg v_9; exact i_add (a := 0) (b := v_9.toInt) rfl rfl (by omega) (by omega)
                  refine lv_istore (lv' := [(5, .int v_22), (7, .int v_9), (6, .int v_7), (4, .int 0), (3, .int x3_3), (0, .ref (a 0)), (1, .int p0), (2, .int p1)]) hx hb dX12_comesTo_165 hl (by decide) rfl (fun ls hl => ?_)
                  refine lv_goto (tgt := 232) hx hb dX12_comesTo_167 (by decide) ?_
                  refine lv_goto (tgt := 16) hx hb dX12_comesTo_232 (by decide) ?_
                  have hgk : g v_22.toInt.toNat = g (cV (r 27 K)).toNat := congrArg g (by omega)
                  exact ih3 v_22 x3_3 r3 _ _ _ (by first | omega | (simp only [Int.toNat]; omega)) (by first | omega | decide) (by first | omega | decide) hRr hEr ⟨by omega, by omega, by omega⟩ hP hD hS (lv_sub hl [0, 3, 4, 5, 6, 7] rfl)
              · have c_16 : v_7.toInt ≠ 11 := b_ne c_16
                refine lv_iload hx hb dX12_comesTo_130 (lv_at hl 2 rfl) ?_
                refine lv_bipush (v := 12) hx hb dX12_comesTo_132 (by decide) ?_
                refine lv_icmp_ne (tgt := 177) hx hb dX12_comesTo_134 (by decide) (fun c_23 => ?_) (fun c_23 => ?_)
                · have c_23 : v_7.toInt ≠ 12 := b_ne c_23
                  refine lv_iload_n hx hb dX12_comesTo_177 rfl (lv_at hl 4 rfl) ?_
                  refine lv_iconst (v := 1) hx hb dX12_comesTo_178 (by decide) ?_
                  refine lv_isub hx hb dX12_comesTo_179 ?_
                  refine lv_topi (fun v_24 ev_24 => ?_)
                  have hv_24 : v_24.toInt = x3_3.toInt - 1 := by rw [ev_24]; have := b_rg x3_3; exact i_sub (a := x3_3.toInt) (b := 1) rfl rfl (by omega) (by omega)
                  refine lv_istore_n (lv' := [(3, .int v_24), (5, .int v_10), (7, .int v_9), (6, .int v_7), (4, .int 0), (0, .ref (a 0)), (1, .int p0), (2, .int p1)]) hx hb dX12_comesTo_180 rfl hl (by decide) rfl (fun ls hl => ?_)
                  refine lv_iload hx hb dX12_comesTo_181 (lv_at hl 3 rfl) ?_
                  refine lv_iconst (v := 5) hx hb dX12_comesTo_183 (by decide) ?_
                  refine lv_icmp_eq (tgt := 194) hx hb dX12_comesTo_184 (by decide) (fun c_25 => ?_) (fun c_25 => ?_)
                  · have c_25 : v_7.toInt = 5 := b_eq c_25
                    refine lv_aload_n hx hb dX12_comesTo_194 rfl (lv_at hl 5 rfl) ?_
                    refine va_get (D := D) (ci := 12) (v := .ref (a 32)) (C := RX12) (T := TX12) (N := 91) hx hb hT iX12 hown hK hP 0 rfl rfl 43 (by decide) (hT _ t_82) (fun _ h9 => h9) rfl dX12_comesTo_195 ?_
                    refine lv_iload_n hx hb dX12_comesTo_198 rfl (lv_at hl 0 rfl) ?_
                    refine va_iald hx hb hK hP 32 0 rfl rfl (vp_inI (by omega) (by omega)) dX12_comesTo_199 ?_
                    refine lv_topi (fun v_26 ev_26 => ?_)
                    have hwv_26 : v_26.toInt = (r3 32 (v_24.toNatClampNeg)).toInt := congrArg Int32.toInt ev_26
                    refine lv_if_ne (tgt := 205) hx hb dX12_comesTo_200 (by decide) (fun c_27 => ?_) (fun c_27 => ?_)
                    · have c_27 : v_26.toInt ≠ 0 := b_ne c_27
                      refine lv_aload_n hx hb dX12_comesTo_205 rfl (lv_at hl 5 rfl) ?_
                      refine va_get (D := D) (ci := 12) (v := .ref (a 32)) (C := RX12) (T := TX12) (N := 91) hx hb hT iX12 hown hK hP 0 rfl rfl 43 (by decide) (hT _ t_82) (fun _ h9 => h9) rfl dX12_comesTo_206 ?_
                      refine lv_iload_n hx hb dX12_comesTo_209 rfl (lv_at hl 0 rfl) ?_
                      refine lv_iconst (v := 1) hx hb dX12_comesTo_210 (by decide) ?_
                      refine lv_isub hx hb dX12_comesTo_211 ?_
                      refine lv_topi (fun v_28 ev_28 => ?_)
                      have hv_28 : v_28.toInt = v_24.toInt - 1 := by rw [ev_28]; have := b_rg v_24; exact i_sub (a := v_24.toInt) (b := 1) rfl rfl (by omega) (by omega)
                      refine lv_iload hx hb dX12_comesTo_212 (lv_at hl 3 rfl) ?_
                      refine lv_aload_n hx hb dX12_comesTo_214 rfl (lv_at hl 5 rfl) ?_
                      refine va_get (D := D) (ci := 12) (v := .ref (a 32)) (C := RX12) (T := TX12) (N := 91) hx hb hT iX12 hown hK hP 0 rfl rfl 43 (by decide) (hT _ t_82) (fun _ h9 => h9) rfl dX12_comesTo_215 ?_
                      refine lv_iload_n hx hb dX12_comesTo_218 rfl (lv_at hl 0 rfl) ?_
                      refine lv_iconst (v := 1) hx hb dX12_comesTo_219 (by decide) ?_
                      refine lv_isub hx hb dX12_comesTo_220 ?_
                      refine lv_topi (fun v_29 ev_29 => ?_)
                      have hv_29 : v_29.toInt = v_24.toInt - 1 := by rw [ev_29]; have := b_rg v_24; exact i_sub (a := v_24.toInt) (b := 1) rfl rfl (by omega) (by omega)
                      refine va_iald hx hb hK hP 32 0 rfl rfl (vp_inI (by omega) (by omega)) dX12_comesTo_221 ?_
                      refine lv_topi (fun v_30 ev_30 => ?_)
                      have hwv_30 : v_30.toInt = (r3 32 (v_29.toNatClampNeg)).toInt := congrArg Int32.toInt ev_30
                      refine lv_aload_n hx hb dX12_comesTo_222 rfl (lv_at hl 5 rfl) ?_
                      refine va_get (D := D) (ci := 12) (v := .ref (a 32)) (C := RX12) (T := TX12) (N := 91) hx hb hT iX12 hown hK hP 0 rfl rfl 43 (by decide) (hT _ t_82) (fun _ h9 => h9) rfl dX12_comesTo_223 ?_
                      refine lv_iload_n hx hb dX12_comesTo_226 rfl (lv_at hl 0 rfl) ?_
                      refine va_iald hx hb hK hP 32 0 rfl rfl (vp_inI (by omega) (by omega)) dX12_comesTo_227 ?_
                      refine lv_topi (fun v_31 ev_31 => ?_)
                      have hwv_31 : v_31.toInt = (r3 32 (v_24.toNatClampNeg)).toInt := congrArg Int32.toInt ev_31
                      refine vp_callSi (W.runS (As := [.int v_7, .int v_30, .int v_31]) (rest := [.int v_28, .ref (a 32)]) ⟨hx, hb, hml, hown, hT⟩ (c_X12_reckon l v_7 v_30 v_31 (by omega)) (va_cwS 3 hT (gS t_85 t_86 t_87 t_6) rfl rfl rfl (by decide +kernel) ⟨Nat.le_of_ble_eq_true rfl, Nat.le_of_ble_eq_true rfl⟩) preT rfl rfl hl.1 rfl (lv_room (Nat.le_of_ble_eq_true rfl)) dX12_comesTo_228 ⟨Nat.le_of_ble_eq_true rfl, Nat.le_of_ble_eq_true rfl⟩) (fun r_32 hr_32 => ?_)
                      refine va_iast hx hb hK hP hD hS 32 0 rfl rfl (vp_inI (by omega) (by omega)) dX12_comesTo_231 (fun H locs hP hD hS => ?_)
                      rw [mS32] at hP hD
                      have hRr : mRr (va_up r3 32 (upd (r3 32) v_28.toNatClampNeg r_32)) := Rr_upd hRr 32 (v_28.toNatClampNeg) r_32 (b_rg _)
                      have hEr : mEr [32] _ (va_up r3 32 (upd (r3 32) v_28.toNatClampNeg r_32)) := Er_up hEr 32 _ (by decide)
                      refine lv_goto (tgt := 16) hx hb dX12_comesTo_232 (by decide) ?_
                      have hgk : g v_10.toInt.toNat = g (K + 1) := congrArg g (by omega)
                      exact ih3 v_10 v_24 (va_up r3 32 (upd (r3 32) v_28.toNatClampNeg r_32)) _ _ _ (by first | omega | (simp only [Int.toNat]; omega)) (by first | omega | decide) (by first | omega | decide) hRr hEr ⟨by omega, by omega, by omega⟩ hP hD hS (lv_sub hl [1, 4, 0, 5, 6, 7] rfl)
                    · have c_27 : v_26.toInt = 0 := b_nne c_27
                      refine lv_iconst (v := 0) hx hb dX12_comesTo_203 (by decide) ?_
                      subst hQ
                      exact W.iret (v := 0) hx hb hr (fun t ht hW => ⟨⟨_, r3, rfl, ⟨hRr, hEr, trivial⟩, by rw [ht]; exact hP, va_K.moved hW.alike hK, hD⟩, hS.F ht⟩) hS.2.2 dX12_comesTo_204
                  · have c_25 : v_7.toInt ≠ 5 := b_ne c_25
                    refine lv_iload hx hb dX12_comesTo_187 (lv_at hl 3 rfl) ?_
                    refine lv_bipush (v := 6) hx hb dX12_comesTo_189 (by decide) ?_
                    refine lv_icmp_ne (tgt := 205) hx hb dX12_comesTo_191 (by decide) (fun c_33 => ?_) (fun c_33 => ?_)
                    · have c_33 : v_7.toInt ≠ 6 := b_ne c_33
                      refine lv_aload_n hx hb dX12_comesTo_205 rfl (lv_at hl 5 rfl) ?_
                      refine va_get (D := D) (ci := 12) (v := .ref (a 32)) (C := RX12) (T := TX12) (N := 91) hx hb hT iX12 hown hK hP 0 rfl rfl 43 (by decide) (hT _ t_82) (fun _ h9 => h9) rfl dX12_comesTo_206 ?_
                      refine lv_iload_n hx hb dX12_comesTo_209 rfl (lv_at hl 0 rfl) ?_
                      refine lv_iconst (v := 1) hx hb dX12_comesTo_210 (by decide) ?_
                      refine lv_isub hx hb dX12_comesTo_211 ?_
                      refine lv_topi (fun v_34 ev_34 => ?_)
                      have hv_34 : v_34.toInt = v_24.toInt - 1 := by rw [ev_34]; have := b_rg v_24; exact i_sub (a := v_24.toInt) (b := 1) rfl rfl (by omega) (by omega)
                      refine lv_iload hx hb dX12_comesTo_212 (lv_at hl 3 rfl) ?_
                      refine lv_aload_n hx hb dX12_comesTo_214 rfl (lv_at hl 5 rfl) ?_
                      refine va_get (D := D) (ci := 12) (v := .ref (a 32)) (C := RX12) (T := TX12) (N := 91) hx hb hT iX12 hown hK hP 0 rfl rfl 43 (by decide) (hT _ t_82) (fun _ h9 => h9) rfl dX12_comesTo_215 ?_
                      refine lv_iload_n hx hb dX12_comesTo_218 rfl (lv_at hl 0 rfl) ?_
                      refine lv_iconst (v := 1) hx hb dX12_comesTo_219 (by decide) ?_
                      refine lv_isub hx hb dX12_comesTo_220 ?_
                      refine lv_topi (fun v_35 ev_35 => ?_)
                      have hv_35 : v_35.toInt = v_24.toInt - 1 := by rw [ev_35]; have := b_rg v_24; exact i_sub (a := v_24.toInt) (b := 1) rfl rfl (by omega) (by omega)
                      refine va_iald hx hb hK hP 32 0 rfl rfl (vp_inI (by omega) (by omega)) dX12_comesTo_221 ?_
                      refine lv_topi (fun v_36 ev_36 => ?_)
                      have hwv_36 : v_36.toInt = (r3 32 (v_35.toNatClampNeg)).toInt := congrArg Int32.toInt ev_36
                      refine lv_aload_n hx hb dX12_comesTo_222 rfl (lv_at hl 5 rfl) ?_
                      refine va_get (D := D) (ci := 12) (v := .ref (a 32)) (C := RX12) (T := TX12) (N := 91) hx hb hT iX12 hown hK hP 0 rfl rfl 43 (by decide) (hT _ t_82) (fun _ h9 => h9) rfl dX12_comesTo_223 ?_
                      refine lv_iload_n hx hb dX12_comesTo_226 rfl (lv_at hl 0 rfl) ?_
                      refine va_iald hx hb hK hP 32 0 rfl rfl (vp_inI (by omega) (by omega)) dX12_comesTo_227 ?_
                      refine lv_topi (fun v_37 ev_37 => ?_)
                      have hwv_37 : v_37.toInt = (r3 32 (v_24.toNatClampNeg)).toInt := congrArg Int32.toInt ev_37
                      refine vp_callSi (W.runS (As := [.int v_7, .int v_36, .int v_37]) (rest := [.int v_34, .ref (a 32)]) ⟨hx, hb, hml, hown, hT⟩ (c_X12_reckon l v_7 v_36 v_37 (by omega)) (va_cwS 3 hT (gS t_85 t_86 t_87 t_6) rfl rfl rfl (by decide +kernel) ⟨Nat.le_of_ble_eq_true rfl, Nat.le_of_ble_eq_true rfl⟩) preT rfl rfl hl.1 rfl (lv_room (Nat.le_of_ble_eq_true rfl)) dX12_comesTo_228 ⟨Nat.le_of_ble_eq_true rfl, Nat.le_of_ble_eq_true rfl⟩) (fun r_38 hr_38 => ?_)
                      refine va_iast hx hb hK hP hD hS 32 0 rfl rfl (vp_inI (by omega) (by omega)) dX12_comesTo_231 (fun H locs hP hD hS => ?_)
                      rw [mS32] at hP hD
                      have hRr : mRr (va_up r3 32 (upd (r3 32) v_34.toNatClampNeg r_38)) := Rr_upd hRr 32 (v_34.toNatClampNeg) r_38 (b_rg _)
                      have hEr : mEr [32] _ (va_up r3 32 (upd (r3 32) v_34.toNatClampNeg r_38)) := Er_up hEr 32 _ (by decide)
                      refine lv_goto (tgt := 16) hx hb dX12_comesTo_232 (by decide) ?_
                      have hgk : g v_10.toInt.toNat = g (K + 1) := congrArg g (by omega)
                      exact ih3 v_10 v_24 (va_up r3 32 (upd (r3 32) v_34.toNatClampNeg r_38)) _ _ _ (by first | omega | (simp only [Int.toNat]; omega)) (by first | omega | decide) (by first | omega | decide) hRr hEr ⟨by omega, by omega, by omega⟩ hP hD hS (lv_sub hl [1, 4, 0, 5, 6, 7] rfl)
                    · have c_33 : v_7.toInt = 6 := b_nne c_33
                      refine lv_aload_n hx hb dX12_comesTo_194 rfl (lv_at hl 5 rfl) ?_
                      refine va_get (D := D) (ci := 12) (v := .ref (a 32)) (C := RX12) (T := TX12) (N := 91) hx hb hT iX12 hown hK hP 0 rfl rfl 43 (by decide) (hT _ t_82) (fun _ h9 => h9) rfl dX12_comesTo_195 ?_
                      refine lv_iload_n hx hb dX12_comesTo_198 rfl (lv_at hl 0 rfl) ?_
                      refine va_iald hx hb hK hP 32 0 rfl rfl (vp_inI (by omega) (by omega)) dX12_comesTo_199 ?_
                      refine lv_topi (fun v_39 ev_39 => ?_)
                      have hwv_39 : v_39.toInt = (r3 32 (v_24.toNatClampNeg)).toInt := congrArg Int32.toInt ev_39
                      refine lv_if_ne (tgt := 205) hx hb dX12_comesTo_200 (by decide) (fun c_40 => ?_) (fun c_40 => ?_)
                      · have c_40 : v_39.toInt ≠ 0 := b_ne c_40
                        refine lv_aload_n hx hb dX12_comesTo_205 rfl (lv_at hl 5 rfl) ?_
                        refine va_get (D := D) (ci := 12) (v := .ref (a 32)) (C := RX12) (T := TX12) (N := 91) hx hb hT iX12 hown hK hP 0 rfl rfl 43 (by decide) (hT _ t_82) (fun _ h9 => h9) rfl dX12_comesTo_206 ?_
                        refine lv_iload_n hx hb dX12_comesTo_209 rfl (lv_at hl 0 rfl) ?_
                        refine lv_iconst (v := 1) hx hb dX12_comesTo_210 (by decide) ?_
                        refine lv_isub hx hb dX12_comesTo_211 ?_
                        refine lv_topi (fun v_41 ev_41 => ?_)
                        have hv_41 : v_41.toInt = v_24.toInt - 1 := by rw [ev_41]; have := b_rg v_24; exact i_sub (a := v_24.toInt) (b := 1) rfl rfl (by omega) (by omega)
                        refine lv_iload hx hb dX12_comesTo_212 (lv_at hl 3 rfl) ?_
                        refine lv_aload_n hx hb dX12_comesTo_214 rfl (lv_at hl 5 rfl) ?_
                        refine va_get (D := D) (ci := 12) (v := .ref (a 32)) (C := RX12) (T := TX12) (N := 91) hx hb hT iX12 hown hK hP 0 rfl rfl 43 (by decide) (hT _ t_82) (fun _ h9 => h9) rfl dX12_comesTo_215 ?_
                        refine lv_iload_n hx hb dX12_comesTo_218 rfl (lv_at hl 0 rfl) ?_
                        refine lv_iconst (v := 1) hx hb dX12_comesTo_219 (by decide) ?_
                        refine lv_isub hx hb dX12_comesTo_220 ?_
                        refine lv_topi (fun v_42 ev_42 => ?_)
                        have hv_42 : v_42.toInt = v_24.toInt - 1 := by rw [ev_42]; have := b_rg v_24; exact i_sub (a := v_24.toInt) (b := 1) rfl rfl (by omega) (by omega)
                        refine va_iald hx hb hK hP 32 0 rfl rfl (vp_inI (by omega) (by omega)) dX12_comesTo_221 ?_
                        refine lv_topi (fun v_43 ev_43 => ?_)
                        have hwv_43 : v_43.toInt = (r3 32 (v_42.toNatClampNeg)).toInt := congrArg Int32.toInt ev_43
                        refine lv_aload_n hx hb dX12_comesTo_222 rfl (lv_at hl 5 rfl) ?_
                        refine va_get (D := D) (ci := 12) (v := .ref (a 32)) (C := RX12) (T := TX12) (N := 91) hx hb hT iX12 hown hK hP 0 rfl rfl 43 (by decide) (hT _ t_82) (fun _ h9 => h9) rfl dX12_comesTo_223 ?_
                        refine lv_iload_n hx hb dX12_comesTo_226 rfl (lv_at hl 0 rfl) ?_
                        refine va_iald hx hb hK hP 32 0 rfl rfl (vp_inI (by omega) (by omega)) dX12_comesTo_227 ?_
                        refine lv_topi (fun v_44 ev_44 => ?_)
                        have hwv_44 : v_44.toInt = (r3 32 (v_24.toNatClampNeg)).toInt := congrArg Int32.toInt ev_44
                        refine vp_callSi (W.runS (As := [.int v_7, .int v_43, .int v_44]) (rest := [.int v_41, .ref (a 32)]) ⟨hx, hb, hml, hown, hT⟩ (c_X12_reckon l v_7 v_43 v_44 (by omega)) (va_cwS 3 hT (gS t_85 t_86 t_87 t_6) rfl rfl rfl (by decide +kernel) ⟨Nat.le_of_ble_eq_true rfl, Nat.le_of_ble_eq_true rfl⟩) preT rfl rfl hl.1 rfl (lv_room (Nat.le_of_ble_eq_true rfl)) dX12_comesTo_228 ⟨Nat.le_of_ble_eq_true rfl, Nat.le_of_ble_eq_true rfl⟩) (fun r_45 hr_45 => ?_)
                        refine va_iast hx hb hK hP hD hS 32 0 rfl rfl (vp_inI (by omega) (by omega)) dX12_comesTo_231 (fun H locs hP hD hS => ?_)
                        rw [mS32] at hP hD
                        have hRr : mRr (va_up r3 32 (upd (r3 32) v_41.toNatClampNeg r_45)) := Rr_upd hRr 32 (v_41.toNatClampNeg) r_45 (b_rg _)
                        have hEr : mEr [32] _ (va_up r3 32 (upd (r3 32) v_41.toNatClampNeg r_45)) := Er_up hEr 32 _ (by decide)
                        refine lv_goto (tgt := 16) hx hb dX12_comesTo_232 (by decide) ?_
                        have hgk : g v_10.toInt.toNat = g (K + 1) := congrArg g (by omega)
                        exact ih3 v_10 v_24 (va_up r3 32 (upd (r3 32) v_41.toNatClampNeg r_45)) _ _ _ (by first | omega | (simp only [Int.toNat]; omega)) (by first | omega | decide) (by first | omega | decide) hRr hEr ⟨by omega, by omega, by omega⟩ hP hD hS (lv_sub hl [1, 4, 0, 5, 6, 7] rfl)
                      · have c_40 : v_39.toInt = 0 := b_nne c_40
                        refine lv_iconst (v := 0) hx hb dX12_comesTo_203 (by decide) ?_
                        subst hQ
                        exact W.iret (v := 0) hx hb hr (fun t ht hW => ⟨⟨_, r3, rfl, ⟨hRr, hEr, trivial⟩, by rw [ht]; exact hP, va_K.moved hW.alike hK, hD⟩, hS.F ht⟩) hS.2.2 dX12_comesTo_204
                · have c_23 : v_7.toInt = 12 := b_nne c_23
                  refine lv_aload_n hx hb dX12_comesTo_137 rfl (lv_at hl 5 rfl) ?_
                  refine va_get (D := D) (ci := 12) (v := .ref (a 32)) (C := RX12) (T := TX12) (N := 91) hx hb hT iX12 hown hK hP 0 rfl rfl 43 (by decide) (hT _ t_82) (fun _ h9 => h9) rfl dX12_comesTo_138 ?_
                  refine lv_iload_n hx hb dX12_comesTo_141 rfl (lv_at hl 4 rfl) ?_
                  refine lv_iconst (v := 1) hx hb dX12_comesTo_142 (by decide) ?_
                  refine lv_isub hx hb dX12_comesTo_143 ?_
                  refine lv_topi (fun v_46 ev_46 => ?_)
                  have hv_46 : v_46.toInt = x3_3.toInt - 1 := by rw [ev_46]; have := b_rg x3_3; exact i_sub (a := x3_3.toInt) (b := 1) rfl rfl (by omega) (by omega)
                  refine va_iald hx hb hK hP 32 0 rfl rfl (vp_inI (by omega) (by omega)) dX12_comesTo_144 ?_
                  refine lv_topi (fun v_47 ev_47 => ?_)
                  have hwv_47 : v_47.toInt = (r3 32 (v_46.toNatClampNeg)).toInt := congrArg Int32.toInt ev_47
                  refine lv_iload hx hb dX12_comesTo_145 (lv_at hl 2 rfl) ?_
                  refine lv_bipush (v := 12) hx hb dX12_comesTo_147 (by decide) ?_
                  refine lv_icmp_ne (tgt := 156) hx hb dX12_comesTo_149 (by decide) (fun c_48 => by have c_48 : v_7.toInt ≠ 12 := b_ne c_48; omega) (fun c_48 => ?_)
                  have c_48 : v_7.toInt = 12 := b_nne c_48
                  refine lv_iconst (v := 1) hx hb dX12_comesTo_152 (by decide) ?_
                  refine lv_goto (tgt := 157) hx hb dX12_comesTo_153 (by decide) ?_
                  refine lv_icmp_ne (tgt := 170) hx hb dX12_comesTo_157 (by decide) (fun c_49 => ?_) (fun c_49 => ?_)
                  · have c_49 : v_47.toInt ≠ 1 := b_ne c_49
                    refine lv_iload_n hx hb dX12_comesTo_170 rfl (lv_at hl 4 rfl) ?_
                    refine lv_iconst (v := 1) hx hb dX12_comesTo_171 (by decide) ?_
                    refine lv_isub hx hb dX12_comesTo_172 ?_
                    refine lv_topi (fun v_50 ev_50 => ?_)
                    have hv_50 : v_50.toInt = x3_3.toInt - 1 := by rw [ev_50]; have := b_rg x3_3; exact i_sub (a := x3_3.toInt) (b := 1) rfl rfl (by omega) (by omega)
                    refine lv_istore_n (lv' := [(3, .int v_50), (5, .int v_10), (7, .int v_9), (6, .int v_7), (4, .int 0), (0, .ref (a 0)), (1, .int p0), (2, .int p1)]) hx hb dX12_comesTo_173 rfl hl (by decide) rfl (fun ls hl => ?_)
                    refine lv_goto (tgt := 232) hx hb dX12_comesTo_174 (by decide) ?_
                    refine lv_goto (tgt := 16) hx hb dX12_comesTo_232 (by decide) ?_
                    have hgk : g v_10.toInt.toNat = g (K + 1) := congrArg g (by omega)
                    exact ih3 v_10 v_50 r3 _ _ _ (by first | omega | (simp only [Int.toNat]; omega)) (by first | omega | decide) (by first | omega | decide) hRr hEr ⟨by omega, by omega, by omega⟩ hP hD hS (lv_sub hl [1, 4, 0, 5, 6, 7] rfl)
                  · have c_49 : v_47.toInt = 1 := b_nne c_49
                    refine lv_iload hx hb dX12_comesTo_160 (lv_at hl 3 rfl) ?_
                    refine lv_iload hx hb dX12_comesTo_162 (lv_at hl 1 rfl) ?_
                    refine lv_iadd hx hb dX12_comesTo_164 ?_
                    refine lv_topi (fun v_51 ev_51 => ?_)
                    have hv_51 : v_51.toInt = 0 + v_9.toInt := by rw [ev_51]; have := b_rg v_9; exact i_add (a := 0) (b := v_9.toInt) rfl rfl (by omega) (by omega)
                    refine lv_istore (lv' := [(5, .int v_51), (7, .int v_9), (6, .int v_7), (4, .int 0), (3, .int x3_3), (0, .ref (a 0)), (1, .int p0), (2, .int p1)]) hx hb dX12_comesTo_165 hl (by decide) rfl (fun ls hl => ?_)
                    refine lv_goto (tgt := 232) hx hb dX12_comesTo_167 (by decide) ?_
                    refine lv_goto (tgt := 16) hx hb dX12_comesTo_232 (by decide) ?_
                    have hgk : g v_51.toInt.toNat = g (cV (r 27 K)).toNat := congrArg g (by omega)
                    exact ih3 v_51 x3_3 r3 _ _ _ (by first | omega | (simp only [Int.toNat]; omega)) (by first | omega | decide) (by first | omega | decide) hRr hEr ⟨by omega, by omega, by omega⟩ hP hD hS (lv_sub hl [0, 3, 4, 5, 6, 7] rfl)
            · have c_15 : v_7.toInt = 10 := b_nne c_15
              refine lv_aload_n hx hb dX12_comesTo_102 rfl (lv_at hl 5 rfl) ?_
              refine va_get (D := D) (ci := 12) (v := .ref (a 32)) (C := RX12) (T := TX12) (N := 91) hx hb hT iX12 hown hK hP 0 rfl rfl 43 (by decide) (hT _ t_82) (fun _ h9 => h9) rfl dX12_comesTo_103 ?_
              refine lv_iload_n hx hb dX12_comesTo_106 rfl (lv_at hl 4 rfl) ?_
              refine lv_iconst (v := 1) hx hb dX12_comesTo_107 (by decide) ?_
              refine lv_isub hx hb dX12_comesTo_108 ?_
              refine lv_topi (fun v_52 ev_52 => ?_)
              have hv_52 : v_52.toInt = x3_3.toInt - 1 := by rw [ev_52]; have := b_rg x3_3; exact i_sub (a := x3_3.toInt) (b := 1) rfl rfl (by omega) (by omega)
              refine lv_iconst (v := 1) hx hb dX12_comesTo_109 (by decide) ?_
              refine lv_aload_n hx hb dX12_comesTo_110 rfl (lv_at hl 5 rfl) ?_
              refine va_get (D := D) (ci := 12) (v := .ref (a 32)) (C := RX12) (T := TX12) (N := 91) hx hb hT iX12 hown hK hP 0 rfl rfl 43 (by decide) (hT _ t_82) (fun _ h9 => h9) rfl dX12_comesTo_111 ?_
              refine lv_iload_n hx hb dX12_comesTo_114 rfl (lv_at hl 4 rfl) ?_
              refine lv_iconst (v := 1) hx hb dX12_comesTo_115 (by decide) ?_
              refine lv_isub hx hb dX12_comesTo_116 ?_
              refine lv_topi (fun v_53 ev_53 => ?_)
              have hv_53 : v_53.toInt = x3_3.toInt - 1 := by rw [ev_53]; have := b_rg x3_3; exact i_sub (a := x3_3.toInt) (b := 1) rfl rfl (by omega) (by omega)
              refine va_iald hx hb hK hP 32 0 rfl rfl (vp_inI (by omega) (by omega)) dX12_comesTo_117 ?_
              refine lv_topi (fun v_54 ev_54 => ?_)
              have hwv_54 : v_54.toInt = (r3 32 (v_53.toNatClampNeg)).toInt := congrArg Int32.toInt ev_54
              refine lv_isub hx hb dX12_comesTo_118 ?_
              refine lv_topi (fun v_55 ev_55 => ?_)
              refine va_iast hx hb hK hP hD hS 32 0 rfl rfl (vp_inI (by omega) (by omega)) dX12_comesTo_119 (fun H locs hP hD hS => ?_)
              rw [mS32] at hP hD
              have hRr : mRr (va_up r3 32 (upd (r3 32) v_52.toNatClampNeg v_55)) := Rr_upd hRr 32 (v_52.toNatClampNeg) v_55 (b_rg _)
              have hEr : mEr [32] _ (va_up r3 32 (upd (r3 32) v_52.toNatClampNeg v_55)) := Er_up hEr 32 _ (by decide)
              refine lv_goto (tgt := 232) hx hb dX12_comesTo_120 (by decide) ?_
              refine lv_goto (tgt := 16) hx hb dX12_comesTo_232 (by decide) ?_
              have hgk : g v_10.toInt.toNat = g (K + 1) := congrArg g (by omega)
              exact ih3 v_10 x3_3 (va_up r3 32 (upd (r3 32) v_52.toNatClampNeg v_55)) _ _ _ (by first | omega | (simp only [Int.toNat]; omega)) (by first | omega | decide) (by first | omega | decide) hRr hEr ⟨by omega, by omega, by omega⟩ hP hD hS (lv_sub hl [0, 3, 4, 5, 6, 7] rfl)
          · have c_14 : v_7.toInt = 1 := b_nne c_14
            refine lv_aload_n hx hb dX12_comesTo_65 rfl (lv_at hl 5 rfl) ?_
            refine va_get (D := D) (ci := 12) (v := .ref (a 32)) (C := RX12) (T := TX12) (N := 91) hx hb hT iX12 hown hK hP 0 rfl rfl 43 (by decide) (hT _ t_82) (fun _ h9 => h9) rfl dX12_comesTo_66 ?_
            refine lv_iload_n hx hb dX12_comesTo_69 rfl (lv_at hl 4 rfl) ?_
            refine lv_iload hx hb dX12_comesTo_70 (lv_at hl 2 rfl) ?_
            refine lv_if_ne (tgt := 80) hx hb dX12_comesTo_72 (by decide) (fun c_56 => ?_) (fun c_56 => by have c_56 : v_7.toInt = 0 := b_nne c_56; omega)
            have c_56 : v_7.toInt ≠ 0 := b_ne c_56
            refine lv_aload_n hx hb dX12_comesTo_80 rfl (lv_at hl 5 rfl) ?_
            refine va_get (D := D) (ci := 12) (v := .ref (a 33)) (C := RX12) (T := TX12) (N := 91) hx hb hT iX12 hown hK hP 0 rfl rfl 44 (by decide) (hT _ t_65) (fun _ h9 => h9) rfl dX12_comesTo_81 ?_
            refine lv_iload hx hb dX12_comesTo_84 (lv_at hl 1 rfl) ?_
            refine va_iald hx hb hK hP 33 0 rfl rfl (vp_inI (by omega) (by omega)) dX12_comesTo_86 ?_
            refine lv_topi (fun v_57 ev_57 => ?_)
            refine va_iast hx hb hK hP hD hS 32 0 rfl rfl (vp_inI (by omega) (by omega)) dX12_comesTo_87 (fun H locs hP hD hS => ?_)
            rw [mS32] at hP hD
            have hRr : mRr (va_up r3 32 (upd (r3 32) x3_3.toNatClampNeg v_57)) := Rr_upd hRr 32 (x3_3.toNatClampNeg) v_57 (b_rg _)
            have hEr : mEr [32] _ (va_up r3 32 (upd (r3 32) x3_3.toNatClampNeg v_57)) := Er_up hEr 32 _ (by decide)
            refine lv_iload_n hx hb dX12_comesTo_88 rfl (lv_at hl 4 rfl) ?_
            refine lv_iconst (v := 1) hx hb dX12_comesTo_89 (by decide) ?_
            refine lv_iadd hx hb dX12_comesTo_90 ?_
            refine lv_topi (fun v_58 ev_58 => ?_)
            have hv_58 : v_58.toInt = x3_3.toInt + 1 := by rw [ev_58]; have := b_rg x3_3; exact i_add (a := x3_3.toInt) (b := 1) rfl rfl (by omega) (by omega)
            refine lv_istore_n (lv' := [(3, .int v_58), (5, .int v_10), (7, .int v_9), (6, .int v_7), (4, .int 0), (0, .ref (a 0)), (1, .int p0), (2, .int p1)]) hx hb dX12_comesTo_91 rfl hl (by decide) rfl (fun ls hl => ?_)
            refine lv_goto (tgt := 232) hx hb dX12_comesTo_92 (by decide) ?_
            refine lv_goto (tgt := 16) hx hb dX12_comesTo_232 (by decide) ?_
            have hgk : g v_10.toInt.toNat = g (K + 1) := congrArg g (by omega)
            exact ih3 v_10 v_58 (va_up r3 32 (upd (r3 32) x3_3.toNatClampNeg v_57)) _ _ _ (by first | omega | (simp only [Int.toNat]; omega)) (by first | omega | decide) (by first | omega | decide) hRr hEr ⟨by omega, by omega, by omega⟩ hP hD hS (lv_sub hl [1, 4, 0, 5, 6, 7] rfl)
  exact loop_3 _ p0 0 r _ _ _ (Nat.lt_succ_self _) (by first | omega | decide) (by first | omega | decide) hRr hEr ⟨by omega, by omega, by have h3 : (0 : Int32).toInt = 0 := rfl; omega⟩ hP hD hS hl
