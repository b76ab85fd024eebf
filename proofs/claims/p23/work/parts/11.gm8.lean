def dl_133 : List (Nat × (Instr × Nat)) := [(0, (.aload_n 0, 1)), (1, (.iload_n 1, 1)), (2, (.iload_n 2, 1)), (3, (.invokevirtual 405, 3)), (6, (.ifCond .eq 41, 3)), (9, (.iload_n 3, 1)), (10, (.iconst 0, 1)), (11, (.bipush 9, 2)), (13, (.invokestatic 241, 3)), (16, (.ifCond .eq 31, 3)), (19, (.iload 4, 2)), (21, (.iconst 0, 1)), (22, (.bipush 7, 2)), (24, (.invokestatic 241, 3)), (27, (.ifCond .eq 20, 3)), (30, (.iload 5, 2)), (32, (.invokestatic 420, 3)), (35, (.ifCond .eq 12, 3)), (38, (.aload_n 0, 1)), (39, (.getfield 417, 3))]
theorem dh_133 : dchk cX12_claim dl_133 = true := by decide +kernel
theorem dX12_claim_0 : decode cX12_claim 0 = .ok (.aload_n 0, 1) := dget dh_133 (k := 0) rfl
theorem dX12_claim_1 : decode cX12_claim 1 = .ok (.iload_n 1, 1) := dget dh_133 (k := 1) rfl
theorem dX12_claim_2 : decode cX12_claim 2 = .ok (.iload_n 2, 1) := dget dh_133 (k := 2) rfl
theorem dX12_claim_3 : decode cX12_claim 3 = .ok (.invokevirtual 405, 3) := dget dh_133 (k := 3) rfl
theorem dX12_claim_6 : decode cX12_claim 6 = .ok (.ifCond .eq 41, 3) := dget dh_133 (k := 4) rfl
theorem dX12_claim_9 : decode cX12_claim 9 = .ok (.iload_n 3, 1) := dget dh_133 (k := 5) rfl
theorem dX12_claim_10 : decode cX12_claim 10 = .ok (.iconst 0, 1) := dget dh_133 (k := 6) rfl
theorem dX12_claim_11 : decode cX12_claim 11 = .ok (.bipush 9, 2) := dget dh_133 (k := 7) rfl
theorem dX12_claim_13 : decode cX12_claim 13 = .ok (.invokestatic 241, 3) := dget dh_133 (k := 8) rfl
theorem dX12_claim_16 : decode cX12_claim 16 = .ok (.ifCond .eq 31, 3) := dget dh_133 (k := 9) rfl
theorem dX12_claim_19 : decode cX12_claim 19 = .ok (.iload 4, 2) := dget dh_133 (k := 10) rfl
theorem dX12_claim_21 : decode cX12_claim 21 = .ok (.iconst 0, 1) := dget dh_133 (k := 11) rfl
theorem dX12_claim_22 : decode cX12_claim 22 = .ok (.bipush 7, 2) := dget dh_133 (k := 12) rfl
theorem dX12_claim_24 : decode cX12_claim 24 = .ok (.invokestatic 241, 3) := dget dh_133 (k := 13) rfl
theorem dX12_claim_27 : decode cX12_claim 27 = .ok (.ifCond .eq 20, 3) := dget dh_133 (k := 14) rfl
theorem dX12_claim_30 : decode cX12_claim 30 = .ok (.iload 5, 2) := dget dh_133 (k := 15) rfl
theorem dX12_claim_32 : decode cX12_claim 32 = .ok (.invokestatic 420, 3) := dget dh_133 (k := 16) rfl
theorem dX12_claim_35 : decode cX12_claim 35 = .ok (.ifCond .eq 12, 3) := dget dh_133 (k := 17) rfl
theorem dX12_claim_38 : decode cX12_claim 38 = .ok (.aload_n 0, 1) := dget dh_133 (k := 18) rfl
theorem dX12_claim_39 : decode cX12_claim 39 = .ok (.getfield 417, 3) := dget dh_133 (k := 19) rfl
def dl_134 : List (Nat × (Instr × Nat)) := [(42, (.bipush 30, 2)), (44, (.if_icmp .ne 5, 3)), (47, (.iconst (-1), 1)), (48, (.ireturn, 1)), (49, (.iconst 0, 1)), (50, (.istore 6, 2)), (52, (.iload 6, 2)), (54, (.aload_n 0, 1)), (55, (.getfield 417, 3)), (58, (.if_icmp .ge 34, 3)), (61, (.aload_n 0, 1)), (62, (.getfield 129, 3)), (65, (.iload 6, 2)), (67, (.iaload, 1)), (68, (.iload_n 1, 1)), (69, (.if_icmp .ne 17, 3)), (72, (.aload_n 0, 1)), (73, (.getfield 132, 3)), (76, (.iload 6, 2)), (78, (.iaload, 1))]
theorem dh_134 : dchk cX12_claim dl_134 = true := by decide +kernel
theorem dX12_claim_42 : decode cX12_claim 42 = .ok (.bipush 30, 2) := dget dh_134 (k := 0) rfl
theorem dX12_claim_44 : decode cX12_claim 44 = .ok (.if_icmp .ne 5, 3) := dget dh_134 (k := 1) rfl
theorem dX12_claim_47 : decode cX12_claim 47 = .ok (.iconst (-1), 1) := dget dh_134 (k := 2) rfl
theorem dX12_claim_48 : decode cX12_claim 48 = .ok (.ireturn, 1) := dget dh_134 (k := 3) rfl
theorem dX12_claim_49 : decode cX12_claim 49 = .ok (.iconst 0, 1) := dget dh_134 (k := 4) rfl
theorem dX12_claim_50 : decode cX12_claim 50 = .ok (.istore 6, 2) := dget dh_134 (k := 5) rfl
theorem dX12_claim_52 : decode cX12_claim 52 = .ok (.iload 6, 2) := dget dh_134 (k := 6) rfl
theorem dX12_claim_54 : decode cX12_claim 54 = .ok (.aload_n 0, 1) := dget dh_134 (k := 7) rfl
theorem dX12_claim_55 : decode cX12_claim 55 = .ok (.getfield 417, 3) := dget dh_134 (k := 8) rfl
theorem dX12_claim_58 : decode cX12_claim 58 = .ok (.if_icmp .ge 34, 3) := dget dh_134 (k := 9) rfl
theorem dX12_claim_61 : decode cX12_claim 61 = .ok (.aload_n 0, 1) := dget dh_134 (k := 10) rfl
theorem dX12_claim_62 : decode cX12_claim 62 = .ok (.getfield 129, 3) := dget dh_134 (k := 11) rfl
theorem dX12_claim_65 : decode cX12_claim 65 = .ok (.iload 6, 2) := dget dh_134 (k := 12) rfl
theorem dX12_claim_67 : decode cX12_claim 67 = .ok (.iaload, 1) := dget dh_134 (k := 13) rfl
theorem dX12_claim_68 : decode cX12_claim 68 = .ok (.iload_n 1, 1) := dget dh_134 (k := 14) rfl
theorem dX12_claim_69 : decode cX12_claim 69 = .ok (.if_icmp .ne 17, 3) := dget dh_134 (k := 15) rfl
theorem dX12_claim_72 : decode cX12_claim 72 = .ok (.aload_n 0, 1) := dget dh_134 (k := 16) rfl
theorem dX12_claim_73 : decode cX12_claim 73 = .ok (.getfield 132, 3) := dget dh_134 (k := 17) rfl
theorem dX12_claim_76 : decode cX12_claim 76 = .ok (.iload 6, 2) := dget dh_134 (k := 18) rfl
theorem dX12_claim_78 : decode cX12_claim 78 = .ok (.iaload, 1) := dget dh_134 (k := 19) rfl
def dl_135 : List (Nat × (Instr × Nat)) := [(79, (.iload_n 2, 1)), (80, (.if_icmp .ne 6, 3)), (83, (.bipush (-2), 2)), (85, (.ireturn, 1)), (86, (.iinc 6 1, 3)), (89, (.goto (-37), 3)), (92, (.aload_n 0, 1)), (93, (.getfield 129, 3)), (96, (.aload_n 0, 1)), (97, (.getfield 417, 3)), (100, (.iload_n 1, 1)), (101, (.iastore, 1)), (102, (.aload_n 0, 1)), (103, (.getfield 132, 3)), (106, (.aload_n 0, 1)), (107, (.getfield 417, 3)), (110, (.iload_n 2, 1)), (111, (.iastore, 1)), (112, (.aload_n 0, 1)), (113, (.getfield 135, 3))]
theorem dh_135 : dchk cX12_claim dl_135 = true := by decide +kernel
theorem dX12_claim_79 : decode cX12_claim 79 = .ok (.iload_n 2, 1) := dget dh_135 (k := 0) rfl
theorem dX12_claim_80 : decode cX12_claim 80 = .ok (.if_icmp .ne 6, 3) := dget dh_135 (k := 1) rfl
theorem dX12_claim_83 : decode cX12_claim 83 = .ok (.bipush (-2), 2) := dget dh_135 (k := 2) rfl
theorem dX12_claim_85 : decode cX12_claim 85 = .ok (.ireturn, 1) := dget dh_135 (k := 3) rfl
theorem dX12_claim_86 : decode cX12_claim 86 = .ok (.iinc 6 1, 3) := dget dh_135 (k := 4) rfl
theorem dX12_claim_89 : decode cX12_claim 89 = .ok (.goto (-37), 3) := dget dh_135 (k := 5) rfl
theorem dX12_claim_92 : decode cX12_claim 92 = .ok (.aload_n 0, 1) := dget dh_135 (k := 6) rfl
theorem dX12_claim_93 : decode cX12_claim 93 = .ok (.getfield 129, 3) := dget dh_135 (k := 7) rfl
theorem dX12_claim_96 : decode cX12_claim 96 = .ok (.aload_n 0, 1) := dget dh_135 (k := 8) rfl
theorem dX12_claim_97 : decode cX12_claim 97 = .ok (.getfield 417, 3) := dget dh_135 (k := 9) rfl
theorem dX12_claim_100 : decode cX12_claim 100 = .ok (.iload_n 1, 1) := dget dh_135 (k := 10) rfl
theorem dX12_claim_101 : decode cX12_claim 101 = .ok (.iastore, 1) := dget dh_135 (k := 11) rfl
theorem dX12_claim_102 : decode cX12_claim 102 = .ok (.aload_n 0, 1) := dget dh_135 (k := 12) rfl
theorem dX12_claim_103 : decode cX12_claim 103 = .ok (.getfield 132, 3) := dget dh_135 (k := 13) rfl
theorem dX12_claim_106 : decode cX12_claim 106 = .ok (.aload_n 0, 1) := dget dh_135 (k := 14) rfl
theorem dX12_claim_107 : decode cX12_claim 107 = .ok (.getfield 417, 3) := dget dh_135 (k := 15) rfl
theorem dX12_claim_110 : decode cX12_claim 110 = .ok (.iload_n 2, 1) := dget dh_135 (k := 16) rfl
theorem dX12_claim_111 : decode cX12_claim 111 = .ok (.iastore, 1) := dget dh_135 (k := 17) rfl
theorem dX12_claim_112 : decode cX12_claim 112 = .ok (.aload_n 0, 1) := dget dh_135 (k := 18) rfl
theorem dX12_claim_113 : decode cX12_claim 113 = .ok (.getfield 135, 3) := dget dh_135 (k := 19) rfl
def dl_136 : List (Nat × (Instr × Nat)) := [(116, (.aload_n 0, 1)), (117, (.getfield 417, 3)), (120, (.iload_n 3, 1)), (121, (.iastore, 1)), (122, (.aload_n 0, 1)), (123, (.getfield 138, 3)), (126, (.aload_n 0, 1)), (127, (.getfield 417, 3)), (130, (.iload 4, 2)), (132, (.iastore, 1)), (133, (.aload_n 0, 1)), (134, (.getfield 141, 3)), (137, (.aload_n 0, 1)), (138, (.getfield 417, 3)), (141, (.iload 5, 2)), (143, (.iastore, 1)), (144, (.aload_n 0, 1)), (145, (.getfield 144, 3)), (148, (.aload_n 0, 1)), (149, (.getfield 417, 3))]
theorem dh_136 : dchk cX12_claim dl_136 = true := by decide +kernel
theorem dX12_claim_116 : decode cX12_claim 116 = .ok (.aload_n 0, 1) := dget dh_136 (k := 0) rfl
theorem dX12_claim_117 : decode cX12_claim 117 = .ok (.getfield 417, 3) := dget dh_136 (k := 1) rfl
theorem dX12_claim_120 : decode cX12_claim 120 = .ok (.iload_n 3, 1) := dget dh_136 (k := 2) rfl
theorem dX12_claim_121 : decode cX12_claim 121 = .ok (.iastore, 1) := dget dh_136 (k := 3) rfl
theorem dX12_claim_122 : decode cX12_claim 122 = .ok (.aload_n 0, 1) := dget dh_136 (k := 4) rfl
theorem dX12_claim_123 : decode cX12_claim 123 = .ok (.getfield 138, 3) := dget dh_136 (k := 5) rfl
theorem dX12_claim_126 : decode cX12_claim 126 = .ok (.aload_n 0, 1) := dget dh_136 (k := 6) rfl
theorem dX12_claim_127 : decode cX12_claim 127 = .ok (.getfield 417, 3) := dget dh_136 (k := 7) rfl
theorem dX12_claim_130 : decode cX12_claim 130 = .ok (.iload 4, 2) := dget dh_136 (k := 8) rfl
theorem dX12_claim_132 : decode cX12_claim 132 = .ok (.iastore, 1) := dget dh_136 (k := 9) rfl
theorem dX12_claim_133 : decode cX12_claim 133 = .ok (.aload_n 0, 1) := dget dh_136 (k := 10) rfl
theorem dX12_claim_134 : decode cX12_claim 134 = .ok (.getfield 141, 3) := dget dh_136 (k := 11) rfl
theorem dX12_claim_137 : decode cX12_claim 137 = .ok (.aload_n 0, 1) := dget dh_136 (k := 12) rfl
theorem dX12_claim_138 : decode cX12_claim 138 = .ok (.getfield 417, 3) := dget dh_136 (k := 13) rfl
theorem dX12_claim_141 : decode cX12_claim 141 = .ok (.iload 5, 2) := dget dh_136 (k := 14) rfl
theorem dX12_claim_143 : decode cX12_claim 143 = .ok (.iastore, 1) := dget dh_136 (k := 15) rfl
theorem dX12_claim_144 : decode cX12_claim 144 = .ok (.aload_n 0, 1) := dget dh_136 (k := 16) rfl
theorem dX12_claim_145 : decode cX12_claim 145 = .ok (.getfield 144, 3) := dget dh_136 (k := 17) rfl
theorem dX12_claim_148 : decode cX12_claim 148 = .ok (.aload_n 0, 1) := dget dh_136 (k := 18) rfl
theorem dX12_claim_149 : decode cX12_claim 149 = .ok (.getfield 417, 3) := dget dh_136 (k := 19) rfl
def dl_137 : List (Nat × (Instr × Nat)) := [(152, (.iconst 0, 1)), (153, (.iastore, 1)), (154, (.aload_n 0, 1)), (155, (.getfield 147, 3)), (158, (.aload_n 0, 1)), (159, (.getfield 417, 3)), (162, (.iconst (-1), 1)), (163, (.iastore, 1)), (164, (.aload_n 0, 1)), (165, (.getfield 150, 3)), (168, (.aload_n 0, 1)), (169, (.getfield 417, 3)), (172, (.iconst 0, 1)), (173, (.bastore, 1)), (174, (.aload_n 0, 1)), (175, (.aload_n 0, 1)), (176, (.getfield 417, 3)), (179, (.iconst 1, 1)), (180, (.iadd, 1)), (181, (.putfield 417, 3))]
theorem dh_137 : dchk cX12_claim dl_137 = true := by decide +kernel
theorem dX12_claim_152 : decode cX12_claim 152 = .ok (.iconst 0, 1) := dget dh_137 (k := 0) rfl
theorem dX12_claim_153 : decode cX12_claim 153 = .ok (.iastore, 1) := dget dh_137 (k := 1) rfl
theorem dX12_claim_154 : decode cX12_claim 154 = .ok (.aload_n 0, 1) := dget dh_137 (k := 2) rfl
theorem dX12_claim_155 : decode cX12_claim 155 = .ok (.getfield 147, 3) := dget dh_137 (k := 3) rfl
theorem dX12_claim_158 : decode cX12_claim 158 = .ok (.aload_n 0, 1) := dget dh_137 (k := 4) rfl
theorem dX12_claim_159 : decode cX12_claim 159 = .ok (.getfield 417, 3) := dget dh_137 (k := 5) rfl
theorem dX12_claim_162 : decode cX12_claim 162 = .ok (.iconst (-1), 1) := dget dh_137 (k := 6) rfl
theorem dX12_claim_163 : decode cX12_claim 163 = .ok (.iastore, 1) := dget dh_137 (k := 7) rfl
theorem dX12_claim_164 : decode cX12_claim 164 = .ok (.aload_n 0, 1) := dget dh_137 (k := 8) rfl
theorem dX12_claim_165 : decode cX12_claim 165 = .ok (.getfield 150, 3) := dget dh_137 (k := 9) rfl
theorem dX12_claim_168 : decode cX12_claim 168 = .ok (.aload_n 0, 1) := dget dh_137 (k := 10) rfl
theorem dX12_claim_169 : decode cX12_claim 169 = .ok (.getfield 417, 3) := dget dh_137 (k := 11) rfl
theorem dX12_claim_172 : decode cX12_claim 172 = .ok (.iconst 0, 1) := dget dh_137 (k := 12) rfl
theorem dX12_claim_173 : decode cX12_claim 173 = .ok (.bastore, 1) := dget dh_137 (k := 13) rfl
theorem dX12_claim_174 : decode cX12_claim 174 = .ok (.aload_n 0, 1) := dget dh_137 (k := 14) rfl
theorem dX12_claim_175 : decode cX12_claim 175 = .ok (.aload_n 0, 1) := dget dh_137 (k := 15) rfl
theorem dX12_claim_176 : decode cX12_claim 176 = .ok (.getfield 417, 3) := dget dh_137 (k := 16) rfl
theorem dX12_claim_179 : decode cX12_claim 179 = .ok (.iconst 1, 1) := dget dh_137 (k := 17) rfl
theorem dX12_claim_180 : decode cX12_claim 180 = .ok (.iadd, 1) := dget dh_137 (k := 18) rfl
theorem dX12_claim_181 : decode cX12_claim 181 = .ok (.putfield 417, 3) := dget dh_137 (k := 19) rfl
def dl_138 : List (Nat × (Instr × Nat)) := [(184, (.aload_n 0, 1)), (185, (.getfield 417, 3)), (188, (.iconst 1, 1)), (189, (.isub, 1)), (190, (.ireturn, 1))]
theorem dh_138 : dchk cX12_claim dl_138 = true := by decide +kernel
theorem dX12_claim_184 : decode cX12_claim 184 = .ok (.aload_n 0, 1) := dget dh_138 (k := 0) rfl
theorem dX12_claim_185 : decode cX12_claim 185 = .ok (.getfield 417, 3) := dget dh_138 (k := 1) rfl
theorem dX12_claim_188 : decode cX12_claim 188 = .ok (.iconst 1, 1) := dget dh_138 (k := 2) rfl
theorem dX12_claim_189 : decode cX12_claim 189 = .ok (.isub, 1) := dget dh_138 (k := 3) rfl
theorem dX12_claim_190 : decode cX12_claim 190 = .ok (.ireturn, 1) := dget dh_138 (k := 4) rfl
def dl_139 : List (Nat × (Instr × Nat)) := [(0, (.aload_n 0, 1)), (1, (.iload_n 1, 1)), (2, (.invokevirtual 249, 3)), (5, (.ifCond .eq 36, 3)), (8, (.iload_n 2, 1)), (9, (.iload_n 3, 1)), (10, (.iload 4, 2)), (12, (.invokestatic 252, 3)), (15, (.ifCond .eq 26, 3)), (18, (.iload 5, 2)), (20, (.iconst 0, 1)), (21, (.sipush 360, 3)), (24, (.invokestatic 241, 3)), (27, (.ifCond .eq 14, 3)), (30, (.aload_n 0, 1)), (31, (.getfield 37, 3)), (34, (.iload_n 1, 1)), (35, (.iaload, 1)), (36, (.bipush 20, 2)), (38, (.if_icmp .ne 5, 3))]
theorem dh_139 : dchk cX12_first dl_139 = true := by decide +kernel
theorem dX12_first_0 : decode cX12_first 0 = .ok (.aload_n 0, 1) := dget dh_139 (k := 0) rfl
theorem dX12_first_1 : decode cX12_first 1 = .ok (.iload_n 1, 1) := dget dh_139 (k := 1) rfl
theorem dX12_first_2 : decode cX12_first 2 = .ok (.invokevirtual 249, 3) := dget dh_139 (k := 2) rfl
theorem dX12_first_5 : decode cX12_first 5 = .ok (.ifCond .eq 36, 3) := dget dh_139 (k := 3) rfl
theorem dX12_first_8 : decode cX12_first 8 = .ok (.iload_n 2, 1) := dget dh_139 (k := 4) rfl
theorem dX12_first_9 : decode cX12_first 9 = .ok (.iload_n 3, 1) := dget dh_139 (k := 5) rfl
theorem dX12_first_10 : decode cX12_first 10 = .ok (.iload 4, 2) := dget dh_139 (k := 6) rfl
theorem dX12_first_12 : decode cX12_first 12 = .ok (.invokestatic 252, 3) := dget dh_139 (k := 7) rfl
theorem dX12_first_15 : decode cX12_first 15 = .ok (.ifCond .eq 26, 3) := dget dh_139 (k := 8) rfl
theorem dX12_first_18 : decode cX12_first 18 = .ok (.iload 5, 2) := dget dh_139 (k := 9) rfl
theorem dX12_first_20 : decode cX12_first 20 = .ok (.iconst 0, 1) := dget dh_139 (k := 10) rfl
theorem dX12_first_21 : decode cX12_first 21 = .ok (.sipush 360, 3) := dget dh_139 (k := 11) rfl
theorem dX12_first_24 : decode cX12_first 24 = .ok (.invokestatic 241, 3) := dget dh_139 (k := 12) rfl
theorem dX12_first_27 : decode cX12_first 27 = .ok (.ifCond .eq 14, 3) := dget dh_139 (k := 13) rfl
theorem dX12_first_30 : decode cX12_first 30 = .ok (.aload_n 0, 1) := dget dh_139 (k := 14) rfl
theorem dX12_first_31 : decode cX12_first 31 = .ok (.getfield 37, 3) := dget dh_139 (k := 15) rfl
theorem dX12_first_34 : decode cX12_first 34 = .ok (.iload_n 1, 1) := dget dh_139 (k := 16) rfl
theorem dX12_first_35 : decode cX12_first 35 = .ok (.iaload, 1) := dget dh_139 (k := 17) rfl
theorem dX12_first_36 : decode cX12_first 36 = .ok (.bipush 20, 2) := dget dh_139 (k := 18) rfl
theorem dX12_first_38 : decode cX12_first 38 = .ok (.if_icmp .ne 5, 3) := dget dh_139 (k := 19) rfl
def dl_140 : List (Nat × (Instr × Nat)) := [(41, (.iconst (-1), 1)), (42, (.ireturn, 1)), (43, (.bipush 20, 2)), (45, (.iload_n 1, 1)), (46, (.imul, 1)), (47, (.aload_n 0, 1)), (48, (.getfield 37, 3)), (51, (.iload_n 1, 1)), (52, (.iaload, 1)), (53, (.iadd, 1)), (54, (.istore 6, 2)), (56, (.aload_n 0, 1)), (57, (.getfield 43, 3)), (60, (.iload 6, 2)), (62, (.iload_n 2, 1)), (63, (.iastore, 1)), (64, (.aload_n 0, 1)), (65, (.getfield 46, 3)), (68, (.iload 6, 2)), (70, (.iload_n 3, 1))]
theorem dh_140 : dchk cX12_first dl_140 = true := by decide +kernel
theorem dX12_first_41 : decode cX12_first 41 = .ok (.iconst (-1), 1) := dget dh_140 (k := 0) rfl
theorem dX12_first_42 : decode cX12_first 42 = .ok (.ireturn, 1) := dget dh_140 (k := 1) rfl
theorem dX12_first_43 : decode cX12_first 43 = .ok (.bipush 20, 2) := dget dh_140 (k := 2) rfl
theorem dX12_first_45 : decode cX12_first 45 = .ok (.iload_n 1, 1) := dget dh_140 (k := 3) rfl
theorem dX12_first_46 : decode cX12_first 46 = .ok (.imul, 1) := dget dh_140 (k := 4) rfl
theorem dX12_first_47 : decode cX12_first 47 = .ok (.aload_n 0, 1) := dget dh_140 (k := 5) rfl
theorem dX12_first_48 : decode cX12_first 48 = .ok (.getfield 37, 3) := dget dh_140 (k := 6) rfl
theorem dX12_first_51 : decode cX12_first 51 = .ok (.iload_n 1, 1) := dget dh_140 (k := 7) rfl
theorem dX12_first_52 : decode cX12_first 52 = .ok (.iaload, 1) := dget dh_140 (k := 8) rfl
theorem dX12_first_53 : decode cX12_first 53 = .ok (.iadd, 1) := dget dh_140 (k := 9) rfl
theorem dX12_first_54 : decode cX12_first 54 = .ok (.istore 6, 2) := dget dh_140 (k := 10) rfl
theorem dX12_first_56 : decode cX12_first 56 = .ok (.aload_n 0, 1) := dget dh_140 (k := 11) rfl
theorem dX12_first_57 : decode cX12_first 57 = .ok (.getfield 43, 3) := dget dh_140 (k := 12) rfl
theorem dX12_first_60 : decode cX12_first 60 = .ok (.iload 6, 2) := dget dh_140 (k := 13) rfl
theorem dX12_first_62 : decode cX12_first 62 = .ok (.iload_n 2, 1) := dget dh_140 (k := 14) rfl
theorem dX12_first_63 : decode cX12_first 63 = .ok (.iastore, 1) := dget dh_140 (k := 15) rfl
theorem dX12_first_64 : decode cX12_first 64 = .ok (.aload_n 0, 1) := dget dh_140 (k := 16) rfl
theorem dX12_first_65 : decode cX12_first 65 = .ok (.getfield 46, 3) := dget dh_140 (k := 17) rfl
theorem dX12_first_68 : decode cX12_first 68 = .ok (.iload 6, 2) := dget dh_140 (k := 18) rfl
theorem dX12_first_70 : decode cX12_first 70 = .ok (.iload_n 3, 1) := dget dh_140 (k := 19) rfl
def dl_141 : List (Nat × (Instr × Nat)) := [(71, (.iastore, 1)), (72, (.aload_n 0, 1)), (73, (.getfield 49, 3)), (76, (.iload 6, 2)), (78, (.iload 4, 2)), (80, (.iastore, 1)), (81, (.aload_n 0, 1)), (82, (.getfield 52, 3)), (85, (.iload 6, 2)), (87, (.iload 5, 2)), (89, (.iastore, 1)), (90, (.aload_n 0, 1)), (91, (.getfield 37, 3)), (94, (.iload_n 1, 1)), (95, (.aload_n 0, 1)), (96, (.getfield 37, 3)), (99, (.iload_n 1, 1)), (100, (.iaload, 1)), (101, (.iconst 1, 1)), (102, (.iadd, 1))]
theorem dh_141 : dchk cX12_first dl_141 = true := by decide +kernel
theorem dX12_first_71 : decode cX12_first 71 = .ok (.iastore, 1) := dget dh_141 (k := 0) rfl
theorem dX12_first_72 : decode cX12_first 72 = .ok (.aload_n 0, 1) := dget dh_141 (k := 1) rfl
theorem dX12_first_73 : decode cX12_first 73 = .ok (.getfield 49, 3) := dget dh_141 (k := 2) rfl
theorem dX12_first_76 : decode cX12_first 76 = .ok (.iload 6, 2) := dget dh_141 (k := 3) rfl
theorem dX12_first_78 : decode cX12_first 78 = .ok (.iload 4, 2) := dget dh_141 (k := 4) rfl
theorem dX12_first_80 : decode cX12_first 80 = .ok (.iastore, 1) := dget dh_141 (k := 5) rfl
theorem dX12_first_81 : decode cX12_first 81 = .ok (.aload_n 0, 1) := dget dh_141 (k := 6) rfl
theorem dX12_first_82 : decode cX12_first 82 = .ok (.getfield 52, 3) := dget dh_141 (k := 7) rfl
theorem dX12_first_85 : decode cX12_first 85 = .ok (.iload 6, 2) := dget dh_141 (k := 8) rfl
theorem dX12_first_87 : decode cX12_first 87 = .ok (.iload 5, 2) := dget dh_141 (k := 9) rfl
theorem dX12_first_89 : decode cX12_first 89 = .ok (.iastore, 1) := dget dh_141 (k := 10) rfl
theorem dX12_first_90 : decode cX12_first 90 = .ok (.aload_n 0, 1) := dget dh_141 (k := 11) rfl
theorem dX12_first_91 : decode cX12_first 91 = .ok (.getfield 37, 3) := dget dh_141 (k := 12) rfl
theorem dX12_first_94 : decode cX12_first 94 = .ok (.iload_n 1, 1) := dget dh_141 (k := 13) rfl
theorem dX12_first_95 : decode cX12_first 95 = .ok (.aload_n 0, 1) := dget dh_141 (k := 14) rfl
theorem dX12_first_96 : decode cX12_first 96 = .ok (.getfield 37, 3) := dget dh_141 (k := 15) rfl
theorem dX12_first_99 : decode cX12_first 99 = .ok (.iload_n 1, 1) := dget dh_141 (k := 16) rfl
theorem dX12_first_100 : decode cX12_first 100 = .ok (.iaload, 1) := dget dh_141 (k := 17) rfl
theorem dX12_first_101 : decode cX12_first 101 = .ok (.iconst 1, 1) := dget dh_141 (k := 18) rfl
theorem dX12_first_102 : decode cX12_first 102 = .ok (.iadd, 1) := dget dh_141 (k := 19) rfl
def dl_142 : List (Nat × (Instr × Nat)) := [(103, (.iastore, 1)), (104, (.aload_n 0, 1)), (105, (.getfield 37, 3)), (108, (.iload_n 1, 1)), (109, (.iaload, 1)), (110, (.iconst 1, 1)), (111, (.isub, 1)), (112, (.ireturn, 1))]
theorem dh_142 : dchk cX12_first dl_142 = true := by decide +kernel
theorem dX12_first_103 : decode cX12_first 103 = .ok (.iastore, 1) := dget dh_142 (k := 0) rfl
theorem dX12_first_104 : decode cX12_first 104 = .ok (.aload_n 0, 1) := dget dh_142 (k := 1) rfl
theorem dX12_first_105 : decode cX12_first 105 = .ok (.getfield 37, 3) := dget dh_142 (k := 2) rfl
theorem dX12_first_108 : decode cX12_first 108 = .ok (.iload_n 1, 1) := dget dh_142 (k := 3) rfl
theorem dX12_first_109 : decode cX12_first 109 = .ok (.iaload, 1) := dget dh_142 (k := 4) rfl
theorem dX12_first_110 : decode cX12_first 110 = .ok (.iconst 1, 1) := dget dh_142 (k := 5) rfl
theorem dX12_first_111 : decode cX12_first 111 = .ok (.isub, 1) := dget dh_142 (k := 6) rfl
theorem dX12_first_112 : decode cX12_first 112 = .ok (.ireturn, 1) := dget dh_142 (k := 7) rfl
def dl_143 : List (Nat × (Instr × Nat)) := [(0, (.iload_n 1, 1)), (1, (.iconst 0, 1)), (2, (.iconst 3, 1)), (3, (.invokestatic 241, 3)), (6, (.ifCond .eq 53, 3)), (9, (.iload_n 2, 1)), (10, (.iconst 1, 1)), (11, (.iconst 4, 1)), (12, (.invokestatic 241, 3)), (15, (.ifCond .eq 44, 3)), (18, (.iload_n 3, 1)), (19, (.invokestatic 246, 3)), (22, (.ifCond .eq 37, 3)), (25, (.iload 4, 2)), (27, (.iconst 0, 1)), (28, (.sipush 999, 3)), (31, (.invokestatic 241, 3)), (34, (.ifCond .eq 25, 3)), (37, (.iload 5, 2)), (39, (.iload 4, 2))]
theorem dh_143 : dchk cX12_home dl_143 = true := by decide +kernel
theorem dX12_home_0 : decode cX12_home 0 = .ok (.iload_n 1, 1) := dget dh_143 (k := 0) rfl
theorem dX12_home_1 : decode cX12_home 1 = .ok (.iconst 0, 1) := dget dh_143 (k := 1) rfl
theorem dX12_home_2 : decode cX12_home 2 = .ok (.iconst 3, 1) := dget dh_143 (k := 2) rfl
theorem dX12_home_3 : decode cX12_home 3 = .ok (.invokestatic 241, 3) := dget dh_143 (k := 3) rfl
theorem dX12_home_6 : decode cX12_home 6 = .ok (.ifCond .eq 53, 3) := dget dh_143 (k := 4) rfl
theorem dX12_home_9 : decode cX12_home 9 = .ok (.iload_n 2, 1) := dget dh_143 (k := 5) rfl
theorem dX12_home_10 : decode cX12_home 10 = .ok (.iconst 1, 1) := dget dh_143 (k := 6) rfl
theorem dX12_home_11 : decode cX12_home 11 = .ok (.iconst 4, 1) := dget dh_143 (k := 7) rfl
theorem dX12_home_12 : decode cX12_home 12 = .ok (.invokestatic 241, 3) := dget dh_143 (k := 8) rfl
theorem dX12_home_15 : decode cX12_home 15 = .ok (.ifCond .eq 44, 3) := dget dh_143 (k := 9) rfl
theorem dX12_home_18 : decode cX12_home 18 = .ok (.iload_n 3, 1) := dget dh_143 (k := 10) rfl
theorem dX12_home_19 : decode cX12_home 19 = .ok (.invokestatic 246, 3) := dget dh_143 (k := 11) rfl
theorem dX12_home_22 : decode cX12_home 22 = .ok (.ifCond .eq 37, 3) := dget dh_143 (k := 12) rfl
theorem dX12_home_25 : decode cX12_home 25 = .ok (.iload 4, 2) := dget dh_143 (k := 13) rfl
theorem dX12_home_27 : decode cX12_home 27 = .ok (.iconst 0, 1) := dget dh_143 (k := 14) rfl
theorem dX12_home_28 : decode cX12_home 28 = .ok (.sipush 999, 3) := dget dh_143 (k := 15) rfl
theorem dX12_home_31 : decode cX12_home 31 = .ok (.invokestatic 241, 3) := dget dh_143 (k := 16) rfl
theorem dX12_home_34 : decode cX12_home 34 = .ok (.ifCond .eq 25, 3) := dget dh_143 (k := 17) rfl
theorem dX12_home_37 : decode cX12_home 37 = .ok (.iload 5, 2) := dget dh_143 (k := 18) rfl
theorem dX12_home_39 : decode cX12_home 39 = .ok (.iload 4, 2) := dget dh_143 (k := 19) rfl
def dl_144 : List (Nat × (Instr × Nat)) := [(41, (.sipush 999, 3)), (44, (.invokestatic 241, 3)), (47, (.ifCond .eq 12, 3)), (50, (.aload_n 0, 1)), (51, (.getfield 234, 3)), (54, (.bipush 6, 2)), (56, (.if_icmp .ne 5, 3)), (59, (.iconst (-1), 1)), (60, (.ireturn, 1)), (61, (.aload_n 0, 1)), (62, (.getfield 16, 3)), (65, (.aload_n 0, 1)), (66, (.getfield 234, 3)), (69, (.iload_n 1, 1)), (70, (.iastore, 1)), (71, (.aload_n 0, 1)), (72, (.getfield 19, 3)), (75, (.aload_n 0, 1)), (76, (.getfield 234, 3)), (79, (.iload_n 2, 1))]
theorem dh_144 : dchk cX12_home dl_144 = true := by decide +kernel
theorem dX12_home_41 : decode cX12_home 41 = .ok (.sipush 999, 3) := dget dh_144 (k := 0) rfl
theorem dX12_home_44 : decode cX12_home 44 = .ok (.invokestatic 241, 3) := dget dh_144 (k := 1) rfl
theorem dX12_home_47 : decode cX12_home 47 = .ok (.ifCond .eq 12, 3) := dget dh_144 (k := 2) rfl
theorem dX12_home_50 : decode cX12_home 50 = .ok (.aload_n 0, 1) := dget dh_144 (k := 3) rfl
theorem dX12_home_51 : decode cX12_home 51 = .ok (.getfield 234, 3) := dget dh_144 (k := 4) rfl
theorem dX12_home_54 : decode cX12_home 54 = .ok (.bipush 6, 2) := dget dh_144 (k := 5) rfl
theorem dX12_home_56 : decode cX12_home 56 = .ok (.if_icmp .ne 5, 3) := dget dh_144 (k := 6) rfl
theorem dX12_home_59 : decode cX12_home 59 = .ok (.iconst (-1), 1) := dget dh_144 (k := 7) rfl
theorem dX12_home_60 : decode cX12_home 60 = .ok (.ireturn, 1) := dget dh_144 (k := 8) rfl
theorem dX12_home_61 : decode cX12_home 61 = .ok (.aload_n 0, 1) := dget dh_144 (k := 9) rfl
theorem dX12_home_62 : decode cX12_home 62 = .ok (.getfield 16, 3) := dget dh_144 (k := 10) rfl
theorem dX12_home_65 : decode cX12_home 65 = .ok (.aload_n 0, 1) := dget dh_144 (k := 11) rfl
theorem dX12_home_66 : decode cX12_home 66 = .ok (.getfield 234, 3) := dget dh_144 (k := 12) rfl
theorem dX12_home_69 : decode cX12_home 69 = .ok (.iload_n 1, 1) := dget dh_144 (k := 13) rfl
theorem dX12_home_70 : decode cX12_home 70 = .ok (.iastore, 1) := dget dh_144 (k := 14) rfl
theorem dX12_home_71 : decode cX12_home 71 = .ok (.aload_n 0, 1) := dget dh_144 (k := 15) rfl
theorem dX12_home_72 : decode cX12_home 72 = .ok (.getfield 19, 3) := dget dh_144 (k := 16) rfl
theorem dX12_home_75 : decode cX12_home 75 = .ok (.aload_n 0, 1) := dget dh_144 (k := 17) rfl
theorem dX12_home_76 : decode cX12_home 76 = .ok (.getfield 234, 3) := dget dh_144 (k := 18) rfl
theorem dX12_home_79 : decode cX12_home 79 = .ok (.iload_n 2, 1) := dget dh_144 (k := 19) rfl
def dl_145 : List (Nat × (Instr × Nat)) := [(80, (.iastore, 1)), (81, (.aload_n 0, 1)), (82, (.getfield 22, 3)), (85, (.aload_n 0, 1)), (86, (.getfield 234, 3)), (89, (.iload_n 3, 1)), (90, (.iastore, 1)), (91, (.aload_n 0, 1)), (92, (.getfield 25, 3)), (95, (.aload_n 0, 1)), (96, (.getfield 234, 3)), (99, (.iload 4, 2)), (101, (.iastore, 1)), (102, (.aload_n 0, 1)), (103, (.getfield 28, 3)), (106, (.aload_n 0, 1)), (107, (.getfield 234, 3)), (110, (.iload 5, 2)), (112, (.iastore, 1)), (113, (.aload_n 0, 1))]
theorem dh_145 : dchk cX12_home dl_145 = true := by decide +kernel
theorem dX12_home_80 : decode cX12_home 80 = .ok (.iastore, 1) := dget dh_145 (k := 0) rfl
theorem dX12_home_81 : decode cX12_home 81 = .ok (.aload_n 0, 1) := dget dh_145 (k := 1) rfl
theorem dX12_home_82 : decode cX12_home 82 = .ok (.getfield 22, 3) := dget dh_145 (k := 2) rfl
theorem dX12_home_85 : decode cX12_home 85 = .ok (.aload_n 0, 1) := dget dh_145 (k := 3) rfl
theorem dX12_home_86 : decode cX12_home 86 = .ok (.getfield 234, 3) := dget dh_145 (k := 4) rfl
theorem dX12_home_89 : decode cX12_home 89 = .ok (.iload_n 3, 1) := dget dh_145 (k := 5) rfl
theorem dX12_home_90 : decode cX12_home 90 = .ok (.iastore, 1) := dget dh_145 (k := 6) rfl
theorem dX12_home_91 : decode cX12_home 91 = .ok (.aload_n 0, 1) := dget dh_145 (k := 7) rfl
theorem dX12_home_92 : decode cX12_home 92 = .ok (.getfield 25, 3) := dget dh_145 (k := 8) rfl
theorem dX12_home_95 : decode cX12_home 95 = .ok (.aload_n 0, 1) := dget dh_145 (k := 9) rfl
theorem dX12_home_96 : decode cX12_home 96 = .ok (.getfield 234, 3) := dget dh_145 (k := 10) rfl
theorem dX12_home_99 : decode cX12_home 99 = .ok (.iload 4, 2) := dget dh_145 (k := 11) rfl
theorem dX12_home_101 : decode cX12_home 101 = .ok (.iastore, 1) := dget dh_145 (k := 12) rfl
theorem dX12_home_102 : decode cX12_home 102 = .ok (.aload_n 0, 1) := dget dh_145 (k := 13) rfl
theorem dX12_home_103 : decode cX12_home 103 = .ok (.getfield 28, 3) := dget dh_145 (k := 14) rfl
theorem dX12_home_106 : decode cX12_home 106 = .ok (.aload_n 0, 1) := dget dh_145 (k := 15) rfl
theorem dX12_home_107 : decode cX12_home 107 = .ok (.getfield 234, 3) := dget dh_145 (k := 16) rfl
theorem dX12_home_110 : decode cX12_home 110 = .ok (.iload 5, 2) := dget dh_145 (k := 17) rfl
theorem dX12_home_112 : decode cX12_home 112 = .ok (.iastore, 1) := dget dh_145 (k := 18) rfl
theorem dX12_home_113 : decode cX12_home 113 = .ok (.aload_n 0, 1) := dget dh_145 (k := 19) rfl
def dl_146 : List (Nat × (Instr × Nat)) := [(114, (.getfield 64, 3)), (117, (.aload_n 0, 1)), (118, (.getfield 234, 3)), (121, (.iload 6, 2)), (123, (.bastore, 1)), (124, (.iconst 0, 1)), (125, (.istore 7, 2)), (127, (.iload 7, 2)), (129, (.iconst 4, 1)), (130, (.if_icmp .ge 24, 3)), (133, (.aload_n 0, 1)), (134, (.getfield 31, 3)), (137, (.iconst 4, 1)), (138, (.aload_n 0, 1)), (139, (.getfield 234, 3)), (142, (.imul, 1)), (143, (.iload 7, 2)), (145, (.iadd, 1)), (146, (.iconst 1, 1)), (147, (.iastore, 1))]
theorem dh_146 : dchk cX12_home dl_146 = true := by decide +kernel
theorem dX12_home_114 : decode cX12_home 114 = .ok (.getfield 64, 3) := dget dh_146 (k := 0) rfl
theorem dX12_home_117 : decode cX12_home 117 = .ok (.aload_n 0, 1) := dget dh_146 (k := 1) rfl
theorem dX12_home_118 : decode cX12_home 118 = .ok (.getfield 234, 3) := dget dh_146 (k := 2) rfl
theorem dX12_home_121 : decode cX12_home 121 = .ok (.iload 6, 2) := dget dh_146 (k := 3) rfl
theorem dX12_home_123 : decode cX12_home 123 = .ok (.bastore, 1) := dget dh_146 (k := 4) rfl
theorem dX12_home_124 : decode cX12_home 124 = .ok (.iconst 0, 1) := dget dh_146 (k := 5) rfl
theorem dX12_home_125 : decode cX12_home 125 = .ok (.istore 7, 2) := dget dh_146 (k := 6) rfl
theorem dX12_home_127 : decode cX12_home 127 = .ok (.iload 7, 2) := dget dh_146 (k := 7) rfl
theorem dX12_home_129 : decode cX12_home 129 = .ok (.iconst 4, 1) := dget dh_146 (k := 8) rfl
theorem dX12_home_130 : decode cX12_home 130 = .ok (.if_icmp .ge 24, 3) := dget dh_146 (k := 9) rfl
theorem dX12_home_133 : decode cX12_home 133 = .ok (.aload_n 0, 1) := dget dh_146 (k := 10) rfl
theorem dX12_home_134 : decode cX12_home 134 = .ok (.getfield 31, 3) := dget dh_146 (k := 11) rfl
theorem dX12_home_137 : decode cX12_home 137 = .ok (.iconst 4, 1) := dget dh_146 (k := 12) rfl
theorem dX12_home_138 : decode cX12_home 138 = .ok (.aload_n 0, 1) := dget dh_146 (k := 13) rfl
theorem dX12_home_139 : decode cX12_home 139 = .ok (.getfield 234, 3) := dget dh_146 (k := 14) rfl
theorem dX12_home_142 : decode cX12_home 142 = .ok (.imul, 1) := dget dh_146 (k := 15) rfl
theorem dX12_home_143 : decode cX12_home 143 = .ok (.iload 7, 2) := dget dh_146 (k := 16) rfl
theorem dX12_home_145 : decode cX12_home 145 = .ok (.iadd, 1) := dget dh_146 (k := 17) rfl
theorem dX12_home_146 : decode cX12_home 146 = .ok (.iconst 1, 1) := dget dh_146 (k := 18) rfl
theorem dX12_home_147 : decode cX12_home 147 = .ok (.iastore, 1) := dget dh_146 (k := 19) rfl
def dl_147 : List (Nat × (Instr × Nat)) := [(148, (.iinc 7 1, 3)), (151, (.goto (-24), 3)), (154, (.aload_n 0, 1)), (155, (.aload_n 0, 1)), (156, (.getfield 234, 3)), (159, (.iconst 1, 1)), (160, (.iadd, 1)), (161, (.putfield 234, 3)), (164, (.aload_n 0, 1)), (165, (.getfield 234, 3)), (168, (.iconst 1, 1)), (169, (.isub, 1)), (170, (.ireturn, 1))]
theorem dh_147 : dchk cX12_home dl_147 = true := by decide +kernel
theorem dX12_home_148 : decode cX12_home 148 = .ok (.iinc 7 1, 3) := dget dh_147 (k := 0) rfl
theorem dX12_home_151 : decode cX12_home 151 = .ok (.goto (-24), 3) := dget dh_147 (k := 1) rfl
theorem dX12_home_154 : decode cX12_home 154 = .ok (.aload_n 0, 1) := dget dh_147 (k := 2) rfl
theorem dX12_home_155 : decode cX12_home 155 = .ok (.aload_n 0, 1) := dget dh_147 (k := 3) rfl
theorem dX12_home_156 : decode cX12_home 156 = .ok (.getfield 234, 3) := dget dh_147 (k := 4) rfl
theorem dX12_home_159 : decode cX12_home 159 = .ok (.iconst 1, 1) := dget dh_147 (k := 5) rfl
theorem dX12_home_160 : decode cX12_home 160 = .ok (.iadd, 1) := dget dh_147 (k := 6) rfl
theorem dX12_home_161 : decode cX12_home 161 = .ok (.putfield 234, 3) := dget dh_147 (k := 7) rfl
theorem dX12_home_164 : decode cX12_home 164 = .ok (.aload_n 0, 1) := dget dh_147 (k := 8) rfl
theorem dX12_home_165 : decode cX12_home 165 = .ok (.getfield 234, 3) := dget dh_147 (k := 9) rfl
theorem dX12_home_168 : decode cX12_home 168 = .ok (.iconst 1, 1) := dget dh_147 (k := 10) rfl
theorem dX12_home_169 : decode cX12_home 169 = .ok (.isub, 1) := dget dh_147 (k := 11) rfl
theorem dX12_home_170 : decode cX12_home 170 = .ok (.ireturn, 1) := dget dh_147 (k := 12) rfl
theorem mE_first {i : Nat → Int32} {r R : Nat → Nat → Int32} (h : mE i r) (hR : mRr r) (H n : Nat) (s v : Int32) (hH : H < 6) (hn : (r 10 H).toInt = n) (hn20 : n < 20) (hs : 1 ≤ s.toInt) (hv : v.toInt = n + 1) (e15 : R 14 = upd (r 14) (20 * H + n) s) (e11 : R 10 = upd (r 10) H v)
    (e5 : R 4 = r 4) (e38 : R 27 = r 27) (e39 : R 28 = r 28) (e40 : R 29 = r 29) (e41 : R 30 = r 30) (e42 : R 31 = r 31) (e52 : R 40 = r 40) (e53 : R 41 = r 41) (e81 : R 63 = r 63) (e82 : R 64 = r 64) : mE i R := by
  obtain ⟨a1, a2, a3, a4, a5⟩ := h
  have hle : ∀ k, (r 10 k).toInt ≤ (R 10 k).toInt := by
    intro k
    rw [e11]; unfold upd
    by_cases e : k = H
    · rw [if_pos e, e, hn, hv]; omega
    · rw [if_neg e]; exact Int.le_refl _
  refine ⟨by rw [e5]; exact a1, ?_, ?_, ?_, by rw [e38, e39, e40, e41, e42]; exact a5⟩
  · intro h2 k hh hk
    have hr : (r 10 h2).toInt ≤ 20 := (hR 10 h2).2
    rw [e15]; unfold upd
    by_cases e : 20 * h2 + k = 20 * H + n
    · rw [if_pos e]; exact hs
    · rw [if_neg e]
      refine a2 h2 k hh ?_
      rw [e11] at hk; unfold upd at hk
      by_cases e2 : h2 = H
      · rw [if_pos e2, hv] at hk; rw [e2, hn]; subst e2; omega
      · rw [if_neg e2] at hk; exact hk
  · intro c hc
    rw [e52, e53]
    exact ⟨(a3 c hc).1, Int.lt_of_lt_of_le (a3 c hc).2 (hle _)⟩
  · intro c hc
    rw [e81, e82]
    exact ⟨(a4 c hc).1, Int.lt_of_lt_of_le (a4 c hc).2 (hle _)⟩
theorem mE_home {i I : Nat → Int32} {r R : Nat → Nat → Int32} (h : mE i r) (H : Nat) (t : Int32) (hH : (i 0).toInt = H) (hv : (I 0).toInt = H + 1) (ht : 1 ≤ t.toInt) (e31 : I 31 = i 31) (e51 : I 51 = i 51) (e79 : I 79 = i 79) (e5 : R 4 = upd (r 4) H t)
    (e11 : R 10 = r 10) (e15 : R 14 = r 14) (e38 : R 27 = r 27) (e39 : R 28 = r 28) (e40 : R 29 = r 29) (e41 : R 30 = r 30) (e42 : R 31 = r 31) (e52 : R 40 = r 40) (e53 : R 41 = r 41) (e81 : R 63 = r 63) (e82 : R 64 = r 64) : mE I R := by
  obtain ⟨a1, a2, a3, a4, a5⟩ := h
  refine ⟨?_, by rw [e11, e15]; exact a2, ?_, ?_, by rw [e31, e38, e39, e40, e41, e42]; exact a5⟩
  · intro h2 hh
    rw [e5]; unfold upd
    by_cases e : h2 = H
    · rw [if_pos e]; exact ht
    · rw [if_neg e]; exact a1 h2 (by omega)
  · intro c hc
    rw [e51] at hc
    rw [e52, e53, e11]
    exact ⟨by have := (a3 c hc).1; omega, (a3 c hc).2⟩
  · intro c hc
    rw [e79] at hc
    rw [e81, e82, e11]
    exact ⟨by have := (a4 c hc).1; omega, (a4 c hc).2⟩
theorem mE_claim {i I : Nat → Int32} {r R : Nat → Nat → Int32} (h : mE i r) (C : Nat) (x y : Int32) (hC : (i 51).toInt = C) (hv : (I 51).toInt = C + 1) (hx : x.toInt < (i 0).toInt) (hy : y.toInt < (r 10 x.toNatClampNeg).toInt) (e0 : I 0 = i 0) (e31 : I 31 = i 31) (e79 : I 79 = i 79) (e52 : R 40 = upd (r 40) C x) (e53 : R 41 = upd (r 41) C y)
    (e5 : R 4 = r 4) (e11 : R 10 = r 10) (e15 : R 14 = r 14) (e38 : R 27 = r 27) (e39 : R 28 = r 28) (e40 : R 29 = r 29) (e41 : R 30 = r 30) (e42 : R 31 = r 31) (e81 : R 63 = r 63) (e82 : R 64 = r 64) : mE I R := by
  obtain ⟨a1, a2, a3, a4, a5⟩ := h
  refine ⟨by rw [e0, e5]; exact a1, by rw [e11, e15]; exact a2, ?_, by rw [e79, e81, e82, e11, e0]; exact a4, by rw [e31, e38, e39, e40, e41, e42]; exact a5⟩
  intro c hc
  rw [e52, e53, e11, e0]; unfold upd
  by_cases e : c = C
  · rw [if_pos e, if_pos e]; exact ⟨hx, hy⟩
  · rw [if_neg e, if_neg e]; exact a3 c (by omega)
set_option maxHeartbeats 4000000 in
set_option maxRecDepth 100000 in
theorem c_X12_first (l : Launch) (D : va_G) (cy : Nat → ClassId) (a : Nat → Nat) (i : Nat → Int32) (r : Nat → Nat → Int32) (rl : Nat → Int64) (p0 p1 p2 p3 p4 : Int32) (sz : Nat) (hRi : mRi i) (hRr : mRr r) (hE : mE i r) : Met l yX12_first (Cond.code yX12_first cX12_first 7 (some .int) :: gT) { frames := 3, cells := 0, slots := 0, locals := 66 } (va_Pc [.ref (a 0), .int p0, .int p1, .int p2, .int p3, .int p4] (rQ D cy (mW cy a i r rl) sz)) (va_Qi (fun (z : Int32) (u : Nat → Nat → Int32) => mRr u ∧ mEr [10, 12, 13, 14, 15] r u ∧ (mE i u)) (fun (u : Nat → Nat → Int32) t => va_P D vwCl (mW cy a i u rl) t.heap ∧ va_K D vwCl (vT cy) t ∧ va_D (va_A (mW cy a i r rl) sz) (mW cy a i u rl)) (va_A (mW cy a i r rl) sz)) 0 0 (va_A (mW cy a i r rl) sz) := by
  refine Met.ofQ (cc := cX12_first) (maxL := 7) (ret := (some .int)) (by decide) rfl ?_
  intro p e s m args below meth c s₁ B hml hv Q hQ
  obtain ⟨rfl, hsz, hP, hK, hD0⟩ := hv
  have hx := B.exec
  have hb := B.bytes
  have hr := B.returns
  have hlocks := B.notSynchronized
  have hT : ∀ w ∈ gT, w.before _ s = true := fun w h => atoms_spec (ws := (Cond.code yX12_first cX12_first 7 (some .int) :: gT)) B.pre w (List.mem_cons_of_mem _ h)
  have hown : s.vm.findClass RX12 = some m.cls := findClass_of_methodNamed B.named
  subst hsz
  have hD := hD0.self (sz := s.heap.size)
  generalize hAe : va_A (mW cy a i r rl) s.heap.size = A at hD hQ
  have hA : ∀ q : Nat, s.heap.size ≤ q → A q := fun q h => by rw [← hAe]; exact Or.inr h
  have hS : va_S A s.heap s.heap [] := va_S.rf
  have hl := lv_entry ([.ref (a 0), .int p0, .int p1, .int p2, .int p3, .int p4]) (n := 7) (Nat.le_of_ble_eq_true rfl)
  rw [lg_entry_eq]
  generalize (lg_sl ([.ref (a 0), .int p0, .int p1, .int p2, .int p3, .int p4]) ++ List.replicate (7 - (lg_sl ([.ref (a 0), .int p0, .int p1, .int p2, .int p3, .int p4])).length) Slot.unset).toArray = ls at hl ⊢
  have hl : lv_has ls 7 [(0, .ref (a 0)), (1, .int p0), (2, .int p1), (3, .int p2), (4, .int p3), (5, .int p4)] := hl
  have hEi : mEi [] i i := Ei_rf
  have hEr : mEr [10, 12, 13, 14, 15] r r := Er_rf
  have hRr0 := hRr
  refine lv_aload_n hx hb dX12_first_0 rfl (lv_at hl 0 rfl) ?_
  refine lv_iload_n hx hb dX12_first_1 rfl (lv_at hl 1 rfl) ?_
  refine vp_callSi (W.runV (As := [.int p0]) (rest := []) ⟨hx, hb, hml, hown, hT⟩ (c_X12_isHome l D cy a i r rl p0 hRi hRr) (cwV 1 hT (gV t_12 t_13 t_14 t_15 t_6) rfl rfl rfl (by decide +kernel) ⟨Nat.le_of_ble_eq_true rfl, Nat.le_of_ble_eq_true rfl⟩) (rP_v hP hK (va_recv hK hP (ci := 12) (q0 := 0) rfl rfl)) rfl rfl hl.1 rfl (lv_room (Nat.le_of_ble_eq_true rfl)) dX12_first_2 ⟨Nat.le_of_ble_eq_true rfl, Nat.le_of_ble_eq_true rfl⟩) (fun r_1 hr_1 => ?_)
  have hg_2 : 0 ≤ (i 0).toInt ∧ (i 0).toInt ≤ 6 := hRi 0
  have hr_1 : BR r_1 (0 ≤ p0.toInt ∧ p0.toInt < (i 0).toInt) 1 0 := hr_1
  rcases hr_1 with ⟨rfl, h_3⟩ | ⟨rfl, h_3⟩
  · skip
    refine lv_if_eq (tgt := 41) hx hb dX12_first_5 (by decide) (fun c_4 => absurd c_4 (by decide)) (fun c_4 => ?_)
    refine lv_iload_n hx hb dX12_first_8 rfl (lv_at hl 2 rfl) ?_
    refine lv_iload_n hx hb dX12_first_9 rfl (lv_at hl 3 rfl) ?_
    refine lv_iload hx hb dX12_first_10 (lv_at hl 4 rfl) ?_
    refine vp_callSi (W.runS (As := [.int p1, .int p2, .int p3]) (rest := []) ⟨hx, hb, hml, hown, hT⟩ (c_X12_isThing l p1 p2 p3) (va_cwS 3 hT (gS t_182 t_183 t_184 t_6) rfl rfl rfl (by decide +kernel) ⟨Nat.le_of_ble_eq_true rfl, Nat.le_of_ble_eq_true rfl⟩) preT rfl rfl hl.1 rfl (lv_room (Nat.le_of_ble_eq_true rfl)) dX12_first_12 ⟨Nat.le_of_ble_eq_true rfl, Nat.le_of_ble_eq_true rfl⟩) (fun r_5 hr_5 => ?_)
    have hr_5 : BR r_5 ((0 ≤ p1.toInt ∧ p1.toInt ≤ 9) ∧ (0 ≤ p2.toInt ∧ p2.toInt ≤ 7) ∧ (1 ≤ p3.toInt ∧ p3.toInt ≤ 9)) 1 0 := hr_5
    rcases hr_5 with ⟨rfl, h_6⟩ | ⟨rfl, h_6⟩
    · skip
      refine lv_if_eq (tgt := 41) hx hb dX12_first_15 (by decide) (fun c_7 => absurd c_7 (by decide)) (fun c_7 => ?_)
      refine lv_iload hx hb dX12_first_18 (lv_at hl 5 rfl) ?_
      refine lv_iconst (v := 0) hx hb dX12_first_20 (by decide) ?_
      refine lv_sipush (v := 360) hx hb dX12_first_21 (by decide) ?_
      refine vp_callSi (W.runS (As := [.int p4, .int 0, .int 360]) (rest := []) ⟨hx, hb, hml, hown, hT⟩ (c_X12_in l p4 0 360) (va_cwS 3 hT (gS t_113 t_114 t_115 t_6) rfl rfl rfl (by decide +kernel) ⟨Nat.le_of_ble_eq_true rfl, Nat.le_of_ble_eq_true rfl⟩) preT rfl rfl hl.1 rfl (lv_room (Nat.le_of_ble_eq_true rfl)) dX12_first_24 ⟨Nat.le_of_ble_eq_true rfl, Nat.le_of_ble_eq_true rfl⟩) (fun r_8 hr_8 => ?_)
      have hr_8 : BR r_8 (0 ≤ p4.toInt ∧ p4.toInt ≤ 360) 1 0 := hr_8
      rcases hr_8 with ⟨rfl, h_9⟩ | ⟨rfl, h_9⟩
      · skip
        refine lv_if_eq (tgt := 41) hx hb dX12_first_27 (by decide) (fun c_10 => absurd c_10 (by decide)) (fun c_10 => ?_)
        refine lv_aload_n hx hb dX12_first_30 rfl (lv_at hl 0 rfl) ?_
        refine va_get (D := D) (ci := 12) (v := .ref (a 10)) (C := RX12) (T := TX12) (N := 91) hx hb hT iX12 hown hK hP 0 rfl rfl 11 (by decide) (hT _ t_16) (fun _ h9 => h9) rfl dX12_first_31 ?_
        refine lv_iload_n hx hb dX12_first_34 rfl (lv_at hl 1 rfl) ?_
        refine va_iald hx hb hK hP 10 0 rfl rfl (vp_inI (by omega) (by omega)) dX12_first_35 ?_
        refine lv_topi (fun v_11 ev_11 => ?_)
        have hgv_11 : 0 ≤ v_11.toInt ∧ v_11.toInt ≤ 20 := by rw [ev_11]; exact hRr 10 _
        have hwv_11 : v_11.toInt = (r 10 (p0.toNatClampNeg)).toInt := congrArg Int32.toInt ev_11
        refine lv_bipush (v := 20) hx hb dX12_first_36 (by decide) ?_
        refine lv_icmp_ne (tgt := 43) hx hb dX12_first_38 (by decide) (fun c_12 => ?_) (fun c_12 => ?_)
        · have c_12 : v_11.toInt ≠ 20 := b_ne c_12
          refine lv_bipush (v := 20) hx hb dX12_first_43 (by decide) ?_
          refine lv_iload_n hx hb dX12_first_45 rfl (lv_at hl 1 rfl) ?_
          refine lv_imul hx hb dX12_first_46 ?_
          refine lv_topi (fun v_13 ev_13 => ?_)
          have hv_13 : v_13.toInt = 20 * p0.toInt := by rw [ev_13]; have := b_rg p0; exact i_mul (a := 20) (b := p0.toInt) rfl rfl (by omega) (by omega)
          refine lv_aload_n hx hb dX12_first_47 rfl (lv_at hl 0 rfl) ?_
          refine va_get (D := D) (ci := 12) (v := .ref (a 10)) (C := RX12) (T := TX12) (N := 91) hx hb hT iX12 hown hK hP 0 rfl rfl 11 (by decide) (hT _ t_16) (fun _ h9 => h9) rfl dX12_first_48 ?_
          refine lv_iload_n hx hb dX12_first_51 rfl (lv_at hl 1 rfl) ?_
          refine va_iald hx hb hK hP 10 0 rfl rfl (vp_inI (by omega) (by omega)) dX12_first_52 ?_
          refine lv_topi (fun v_14 ev_14 => ?_)
          have hgv_14 : 0 ≤ v_14.toInt ∧ v_14.toInt ≤ 20 := by rw [ev_14]; exact hRr 10 _
          have hwv_14 : v_14.toInt = (r 10 (p0.toNatClampNeg)).toInt := congrArg Int32.toInt ev_14
          refine lv_iadd hx hb dX12_first_53 ?_
          refine lv_topi (fun v_15 ev_15 => ?_)
          have hv_15 : v_15.toInt = v_13.toInt + v_14.toInt := by rw [ev_15]; have := b_rg v_13; have := b_rg v_14; exact i_add (a := v_13.toInt) (b := v_14.toInt) rfl rfl (by omega) (by omega)
          refine lv_istore (lv' := [(6, .int v_15), (0, .ref (a 0)), (1, .int p0), (2, .int p1), (3, .int p2), (4, .int p3), (5, .int p4)]) hx hb dX12_first_54 hl (by decide) rfl (fun ls hl => ?_)
          refine lv_aload_n hx hb dX12_first_56 rfl (lv_at hl 1 rfl) ?_
          refine va_get (D := D) (ci := 12) (v := .ref (a 12)) (C := RX12) (T := TX12) (N := 91) hx hb hT iX12 hown hK hP 0 rfl rfl 13 (by decide) (hT _ t_30) (fun _ h9 => h9) rfl dX12_first_57 ?_
          refine lv_iload hx hb dX12_first_60 (lv_at hl 0 rfl) ?_
          refine lv_iload_n hx hb dX12_first_62 rfl (lv_at hl 3 rfl) ?_
          refine va_iast hx hb hK hP hD hS 12 0 rfl rfl (vp_inI (by omega) (by omega)) dX12_first_63 (fun H locs hP hD hS => ?_)
          rw [mS12] at hP hD
          have hRr : mRr (va_up r 12 (upd (r 12) v_15.toNatClampNeg p1)) := Rr_upd hRr 12 (v_15.toNatClampNeg) p1 ⟨by show (0 : Int) ≤ p1.toInt; omega, by show p1.toInt ≤ (9 : Int); omega⟩
          have hEr : mEr [10, 12, 13, 14, 15] _ (va_up r 12 (upd (r 12) v_15.toNatClampNeg p1)) := Er_up hEr 12 _ (by decide)
          refine lv_aload_n hx hb dX12_first_64 rfl (lv_at hl 1 rfl) ?_
          refine va_get (D := D) (ci := 12) (v := .ref (a 13)) (C := RX12) (T := TX12) (N := 91) hx hb hT iX12 hown hK hP 0 rfl rfl 14 (by decide) (hT _ t_24) (fun _ h9 => h9) rfl dX12_first_65 ?_
          refine lv_iload hx hb dX12_first_68 (lv_at hl 0 rfl) ?_
          refine lv_iload_n hx hb dX12_first_70 rfl (lv_at hl 4 rfl) ?_
          refine va_iast hx hb hK hP hD hS 13 0 rfl rfl (vp_inI (by omega) (by omega)) dX12_first_71 (fun H locs hP hD hS => ?_)
          rw [mS13] at hP hD
          have hRr : mRr (va_up (va_up r 12 (upd (r 12) v_15.toNatClampNeg p1)) 13 (upd (r 13) v_15.toNatClampNeg p2)) := Rr_upd hRr 13 (v_15.toNatClampNeg) p2 ⟨by show (0 : Int) ≤ p2.toInt; omega, by show p2.toInt ≤ (7 : Int); omega⟩
          have hEr : mEr [10, 12, 13, 14, 15] _ (va_up (va_up r 12 (upd (r 12) v_15.toNatClampNeg p1)) 13 (upd (r 13) v_15.toNatClampNeg p2)) := Er_up hEr 13 _ (by decide)
          refine lv_aload_n hx hb dX12_first_72 rfl (lv_at hl 1 rfl) ?_
          refine va_get (D := D) (ci := 12) (v := .ref (a 14)) (C := RX12) (T := TX12) (N := 91) hx hb hT iX12 hown hK hP 0 rfl rfl 15 (by decide) (hT _ t_38) (fun _ h9 => h9) rfl dX12_first_73 ?_
          refine lv_iload hx hb dX12_first_76 (lv_at hl 0 rfl) ?_
          refine lv_iload hx hb dX12_first_78 (lv_at hl 5 rfl) ?_
          refine va_iast hx hb hK hP hD hS 14 0 rfl rfl (vp_inI (by omega) (by omega)) dX12_first_80 (fun H locs hP hD hS => ?_)
          rw [mS14] at hP hD
          have hRr : mRr (va_up (va_up (va_up r 12 (upd (r 12) v_15.toNatClampNeg p1)) 13 (upd (r 13) v_15.toNatClampNeg p2)) 14 (upd (r 14) v_15.toNatClampNeg p3)) := Rr_upd hRr 14 (v_15.toNatClampNeg) p3 ⟨by show (0 : Int) ≤ p3.toInt; omega, by show p3.toInt ≤ (9 : Int); omega⟩
          have hEr : mEr [10, 12, 13, 14, 15] _ (va_up (va_up (va_up r 12 (upd (r 12) v_15.toNatClampNeg p1)) 13 (upd (r 13) v_15.toNatClampNeg p2)) 14 (upd (r 14) v_15.toNatClampNeg p3)) := Er_up hEr 14 _ (by decide)
          refine lv_aload_n hx hb dX12_first_81 rfl (lv_at hl 1 rfl) ?_
          refine va_get (D := D) (ci := 12) (v := .ref (a 15)) (C := RX12) (T := TX12) (N := 91) hx hb hT iX12 hown hK hP 0 rfl rfl 16 (by decide) (hT _ t_19) (fun _ h9 => h9) rfl dX12_first_82 ?_
          refine lv_iload hx hb dX12_first_85 (lv_at hl 0 rfl) ?_
          refine lv_iload hx hb dX12_first_87 (lv_at hl 6 rfl) ?_
          refine va_iast hx hb hK hP hD hS 15 0 rfl rfl (vp_inI (by omega) (by omega)) dX12_first_89 (fun H locs hP hD hS => ?_)
          rw [mS15] at hP hD
          have hRr : mRr (va_up (va_up (va_up (va_up r 12 (upd (r 12) v_15.toNatClampNeg p1)) 13 (upd (r 13) v_15.toNatClampNeg p2)) 14 (upd (r 14) v_15.toNatClampNeg p3)) 15 (upd (r 15) v_15.toNatClampNeg p4)) := Rr_upd hRr 15 (v_15.toNatClampNeg) p4 ⟨by show (0 : Int) ≤ p4.toInt; omega, by show p4.toInt ≤ (360 : Int); omega⟩
          have hEr : mEr [10, 12, 13, 14, 15] _ (va_up (va_up (va_up (va_up r 12 (upd (r 12) v_15.toNatClampNeg p1)) 13 (upd (r 13) v_15.toNatClampNeg p2)) 14 (upd (r 14) v_15.toNatClampNeg p3)) 15 (upd (r 15) v_15.toNatClampNeg p4)) := Er_up hEr 15 _ (by decide)
          refine lv_aload_n hx hb dX12_first_90 rfl (lv_at hl 1 rfl) ?_
          refine va_get (D := D) (ci := 12) (v := .ref (a 10)) (C := RX12) (T := TX12) (N := 91) hx hb hT iX12 hown hK hP 0 rfl rfl 11 (by decide) (hT _ t_16) (fun _ h9 => h9) rfl dX12_first_91 ?_
          refine lv_iload_n hx hb dX12_first_94 rfl (lv_at hl 2 rfl) ?_
          refine lv_aload_n hx hb dX12_first_95 rfl (lv_at hl 1 rfl) ?_
          refine va_get (D := D) (ci := 12) (v := .ref (a 10)) (C := RX12) (T := TX12) (N := 91) hx hb hT iX12 hown hK hP 0 rfl rfl 11 (by decide) (hT _ t_16) (fun _ h9 => h9) rfl dX12_first_96 ?_
          refine lv_iload_n hx hb dX12_first_99 rfl (lv_at hl 2 rfl) ?_
          refine va_iald hx hb hK hP 10 0 rfl rfl (vp_inI (by omega) (by omega)) dX12_first_100 ?_
          refine lv_topi (fun v_16 ev_16 => ?_)
          have hgv_16 : 0 ≤ v_16.toInt ∧ v_16.toInt ≤ 20 := by rw [ev_16]; exact hRr 10 _
          have hwv_16 : v_16.toInt = (r 10 (p0.toNatClampNeg)).toInt := congrArg Int32.toInt ev_16
          refine lv_iconst (v := 1) hx hb dX12_first_101 (by decide) ?_
          refine lv_iadd hx hb dX12_first_102 ?_
          refine lv_topi (fun v_17 ev_17 => ?_)
          have hv_17 : v_17.toInt = v_16.toInt + 1 := by rw [ev_17]; have := b_rg v_16; exact i_add (a := v_16.toInt) (b := 1) rfl rfl (by omega) (by omega)
          refine va_iast hx hb hK hP hD hS 10 0 rfl rfl (vp_inI (by omega) (by omega)) dX12_first_103 (fun H locs hP hD hS => ?_)
          rw [mS10] at hP hD
          have hRr : mRr (va_up (va_up (va_up (va_up (va_up r 12 (upd (r 12) v_15.toNatClampNeg p1)) 13 (upd (r 13) v_15.toNatClampNeg p2)) 14 (upd (r 14) v_15.toNatClampNeg p3)) 15 (upd (r 15) v_15.toNatClampNeg p4)) 10 (upd (r 10) p0.toNatClampNeg v_17)) := Rr_upd hRr 10 (p0.toNatClampNeg) v_17 ⟨by show (0 : Int) ≤ v_17.toInt; omega, by show v_17.toInt ≤ (20 : Int); omega⟩
          have hEr : mEr [10, 12, 13, 14, 15] _ (va_up (va_up (va_up (va_up (va_up r 12 (upd (r 12) v_15.toNatClampNeg p1)) 13 (upd (r 13) v_15.toNatClampNeg p2)) 14 (upd (r 14) v_15.toNatClampNeg p3)) 15 (upd (r 15) v_15.toNatClampNeg p4)) 10 (upd (r 10) p0.toNatClampNeg v_17)) := Er_up hEr 10 _ (by decide)
          refine lv_aload_n hx hb dX12_first_104 rfl (lv_at hl 1 rfl) ?_
          refine va_get (D := D) (ci := 12) (v := .ref (a 10)) (C := RX12) (T := TX12) (N := 91) hx hb hT iX12 hown hK hP 0 rfl rfl 11 (by decide) (hT _ t_16) (fun _ h9 => h9) rfl dX12_first_105 ?_
          refine lv_iload_n hx hb dX12_first_108 rfl (lv_at hl 2 rfl) ?_
          refine va_iald hx hb hK hP 10 0 rfl rfl (vp_inI (by omega) (by omega)) dX12_first_109 ?_
          refine lv_topi (fun v_18 ev_18 => ?_)
          have hgv_18 : 0 ≤ v_18.toInt ∧ v_18.toInt ≤ 20 := by rw [ev_18]; exact hRr 10 _
          have hwv_18 : v_18.toInt = (upd (r 10) p0.toNatClampNeg v_17 (p0.toNatClampNeg)).toInt := congrArg Int32.toInt ev_18
          refine lv_iconst (v := 1) hx hb dX12_first_110 (by decide) ?_
          refine lv_isub hx hb dX12_first_111 ?_
          refine lv_topi (fun v_19 ev_19 => ?_)
          have hv_19 : v_19.toInt = v_18.toInt - 1 := by rw [ev_19]; have := b_rg v_18; exact i_sub (a := v_18.toInt) (b := 1) rfl rfl (by omega) (by omega)
          subst hQ
          obtain ⟨nn, hnn⟩ : ∃ nn : Nat, (nn : Int) = v_14.toInt := ⟨v_14.toInt.toNat, by omega⟩
          have hix : v_15.toNatClampNeg = 20 * p0.toNatClampNeg + nn := by have h9_p0 : p0.toNatClampNeg = p0.toInt.toNat := rfl; have h9_v_15 : v_15.toNatClampNeg = v_15.toInt.toNat := rfl; omega
          have h15 : (va_up (va_up (va_up (va_up (va_up r 12 (upd (r 12) v_15.toNatClampNeg p1)) 13 (upd (r 13) v_15.toNatClampNeg p2)) 14 (upd (r 14) v_15.toNatClampNeg p3)) 15 (upd (r 15) v_15.toNatClampNeg p4)) 10 (upd (r 10) p0.toNatClampNeg v_17)) 14 = upd (r 14) (20 * p0.toNatClampNeg + nn) p3 := by rw [← hix]; rfl
          exact W.iret (v := v_19) hx hb hr (fun t ht hW => ⟨⟨_, (va_up (va_up (va_up (va_up (va_up r 12 (upd (r 12) v_15.toNatClampNeg p1)) 13 (upd (r 13) v_15.toNatClampNeg p2)) 14 (upd (r 14) v_15.toNatClampNeg p3)) 15 (upd (r 15) v_15.toNatClampNeg p4)) 10 (upd (r 10) p0.toNatClampNeg v_17)), rfl, ⟨hRr, hEr, mE_first hE hRr0 p0.toNatClampNeg nn p3 v_17 (by have h9_p0 : p0.toNatClampNeg = p0.toInt.toNat := rfl; omega) (by omega) (by omega) (by omega) (by omega) h15 rfl rfl rfl rfl rfl rfl rfl rfl rfl rfl rfl⟩, by rw [ht]; exact hP, va_K.moved hW.alike hK, hD⟩, hS.F ht⟩) hS.2.2 dX12_first_112
        · have c_12 : v_11.toInt = 20 := b_nne c_12
          refine lv_iconst (v := (-1)) hx hb dX12_first_41 (by decide) ?_
          subst hQ
          exact W.iret (v := (-1)) hx hb hr (fun t ht hW => ⟨⟨_, r, rfl, ⟨hRr, hEr, hE⟩, by rw [ht]; exact hP, va_K.moved hW.alike hK, hD⟩, hS.F ht⟩) hS.2.2 dX12_first_42
      · skip
        refine lv_if_eq (tgt := 41) hx hb dX12_first_27 (by decide) (fun c_20 => ?_) (fun c_20 => absurd (by decide) c_20)
        refine lv_iconst (v := (-1)) hx hb dX12_first_41 (by decide) ?_
        subst hQ
        exact W.iret (v := (-1)) hx hb hr (fun t ht hW => ⟨⟨_, r, rfl, ⟨hRr, hEr, hE⟩, by rw [ht]; exact hP, va_K.moved hW.alike hK, hD⟩, hS.F ht⟩) hS.2.2 dX12_first_42
    · skip
      refine lv_if_eq (tgt := 41) hx hb dX12_first_15 (by decide) (fun c_21 => ?_) (fun c_21 => absurd (by decide) c_21)
      refine lv_iconst (v := (-1)) hx hb dX12_first_41 (by decide) ?_
      subst hQ
      exact W.iret (v := (-1)) hx hb hr (fun t ht hW => ⟨⟨_, r, rfl, ⟨hRr, hEr, hE⟩, by rw [ht]; exact hP, va_K.moved hW.alike hK, hD⟩, hS.F ht⟩) hS.2.2 dX12_first_42
  · skip
    refine lv_if_eq (tgt := 41) hx hb dX12_first_5 (by decide) (fun c_22 => ?_) (fun c_22 => absurd (by decide) c_22)
    refine lv_iconst (v := (-1)) hx hb dX12_first_41 (by decide) ?_
    subst hQ
    exact W.iret (v := (-1)) hx hb hr (fun t ht hW => ⟨⟨_, r, rfl, ⟨hRr, hEr, hE⟩, by rw [ht]; exact hP, va_K.moved hW.alike hK, hD⟩, hS.F ht⟩) hS.2.2 dX12_first_42
set_option maxHeartbeats 4000000 in
set_option maxRecDepth 100000 in
theorem c_X12_claim (l : Launch) (D : va_G) (cy : Nat → ClassId) (a : Nat → Nat) (i : Nat → Int32) (r : Nat → Nat → Int32) (rl : Nat → Int64) (p0 p1 p2 p3 p4 : Int32) (sz : Nat) (hRi : mRi i) (hRr : mRr r) (hE : mE i r) : Met l yX12_claim (Cond.code yX12_claim cX12_claim 7 (some .int) :: gT) { frames := 3, cells := 0, slots := 0, locals := 67 } (va_Pc [.ref (a 0), .int p0, .int p1, .int p2, .int p3, .int p4] (rQ D cy (mW cy a i r rl) sz)) (va_Qi (fun (z : Int32) (u : (Nat → Int32) × (Nat → Nat → Int32)) => mRi u.1 ∧ mRr u.2 ∧ mEi [51] i u.1 ∧ mEr [40, 41, 42, 43, 44, 45, 46, 47] r u.2 ∧ (mE u.1 u.2)) (fun (u : (Nat → Int32) × (Nat → Nat → Int32)) t => va_P D vwCl (mW cy a u.1 u.2 rl) t.heap ∧ va_K D vwCl (vT cy) t ∧ va_D (va_A (mW cy a i r rl) sz) (mW cy a u.1 u.2 rl)) (va_A (mW cy a i r rl) sz)) 0 0 (va_A (mW cy a i r rl) sz) := by
  refine Met.ofQ (cc := cX12_claim) (maxL := 7) (ret := (some .int)) (by decide) rfl ?_
  intro p e s m args below meth c s₁ B hml hv Q hQ
  obtain ⟨rfl, hsz, hP, hK, hD0⟩ := hv
  have hx := B.exec
  have hb := B.bytes
  have hr := B.returns
  have hlocks := B.notSynchronized
  have hT : ∀ w ∈ gT, w.before _ s = true := fun w h => atoms_spec (ws := (Cond.code yX12_claim cX12_claim 7 (some .int) :: gT)) B.pre w (List.mem_cons_of_mem _ h)
  have hown : s.vm.findClass RX12 = some m.cls := findClass_of_methodNamed B.named
  subst hsz
  have hD := hD0.self (sz := s.heap.size)
  generalize hAe : va_A (mW cy a i r rl) s.heap.size = A at hD hQ
  have hA : ∀ q : Nat, s.heap.size ≤ q → A q := fun q h => by rw [← hAe]; exact Or.inr h
  have hS : va_S A s.heap s.heap [] := va_S.rf
  have hl := lv_entry ([.ref (a 0), .int p0, .int p1, .int p2, .int p3, .int p4]) (n := 7) (Nat.le_of_ble_eq_true rfl)
  rw [lg_entry_eq]
  generalize (lg_sl ([.ref (a 0), .int p0, .int p1, .int p2, .int p3, .int p4]) ++ List.replicate (7 - (lg_sl ([.ref (a 0), .int p0, .int p1, .int p2, .int p3, .int p4])).length) Slot.unset).toArray = ls at hl ⊢
  have hl : lv_has ls 7 [(0, .ref (a 0)), (1, .int p0), (2, .int p1), (3, .int p2), (4, .int p3), (5, .int p4)] := hl
  have hEi : mEi [51] i i := Ei_rf
  have hEr : mEr [40, 41, 42, 43, 44, 45, 46, 47] r r := Er_rf
  refine lv_aload_n hx hb dX12_claim_0 rfl (lv_at hl 0 rfl) ?_
  refine lv_iload_n hx hb dX12_claim_1 rfl (lv_at hl 1 rfl) ?_
  refine lv_iload_n hx hb dX12_claim_2 rfl (lv_at hl 2 rfl) ?_
  refine vp_callSi (W.runV (As := [.int p0, .int p1]) (rest := []) ⟨hx, hb, hml, hown, hT⟩ (c_X12_isFirst l D cy a i r rl p0 p1 hRi hRr) (cwV 2 hT (gV t_109 t_110 t_111 t_112 t_6) rfl rfl rfl (by decide +kernel) ⟨Nat.le_of_ble_eq_true rfl, Nat.le_of_ble_eq_true rfl⟩) (rP_v hP hK (va_recv hK hP (ci := 12) (q0 := 0) rfl rfl)) rfl rfl hl.1 rfl (lv_room (Nat.le_of_ble_eq_true rfl)) dX12_claim_3 ⟨Nat.le_of_ble_eq_true rfl, Nat.le_of_ble_eq_true rfl⟩) (fun r_1 hr_1 => ?_)
  have hg_2 : 0 ≤ (i 0).toInt ∧ (i 0).toInt ≤ 6 := hRi 0
  have hgrr_1_0 : 0 ≤ (r 10 p0.toNatClampNeg).toInt ∧ (r 10 p0.toNatClampNeg).toInt ≤ 20 := hRr 10 _
  have hr_1 : BR r_1 ((0 ≤ p0.toInt ∧ p0.toInt < (i 0).toInt) ∧ 0 ≤ p1.toInt ∧ p1.toInt < (r 10 p0.toNatClampNeg).toInt) 1 0 := hr_1
  rcases hr_1 with ⟨rfl, h_3⟩ | ⟨rfl, h_3⟩
  · skip
    refine lv_if_eq (tgt := 47) hx hb dX12_claim_6 (by decide) (fun c_4 => absurd c_4 (by decide)) (fun c_4 => ?_)
    refine lv_iload_n hx hb dX12_claim_9 rfl (lv_at hl 3 rfl) ?_
    refine lv_iconst (v := 0) hx hb dX12_claim_10 (by decide) ?_
    refine lv_bipush (v := 9) hx hb dX12_claim_11 (by decide) ?_
    refine vp_callSi (W.runS (As := [.int p2, .int 0, .int 9]) (rest := []) ⟨hx, hb, hml, hown, hT⟩ (c_X12_in l p2 0 9) (va_cwS 3 hT (gS t_113 t_114 t_115 t_6) rfl rfl rfl (by decide +kernel) ⟨Nat.le_of_ble_eq_true rfl, Nat.le_of_ble_eq_true rfl⟩) preT rfl rfl hl.1 rfl (lv_room (Nat.le_of_ble_eq_true rfl)) dX12_claim_13 ⟨Nat.le_of_ble_eq_true rfl, Nat.le_of_ble_eq_true rfl⟩) (fun r_5 hr_5 => ?_)
    have hr_5 : BR r_5 (0 ≤ p2.toInt ∧ p2.toInt ≤ 9) 1 0 := hr_5
    rcases hr_5 with ⟨rfl, h_6⟩ | ⟨rfl, h_6⟩
    · skip
      refine lv_if_eq (tgt := 47) hx hb dX12_claim_16 (by decide) (fun c_7 => absurd c_7 (by decide)) (fun c_7 => ?_)
      refine lv_iload hx hb dX12_claim_19 (lv_at hl 4 rfl) ?_
      refine lv_iconst (v := 0) hx hb dX12_claim_21 (by decide) ?_
      refine lv_bipush (v := 7) hx hb dX12_claim_22 (by decide) ?_
      refine vp_callSi (W.runS (As := [.int p3, .int 0, .int 7]) (rest := []) ⟨hx, hb, hml, hown, hT⟩ (c_X12_in l p3 0 7) (va_cwS 3 hT (gS t_113 t_114 t_115 t_6) rfl rfl rfl (by decide +kernel) ⟨Nat.le_of_ble_eq_true rfl, Nat.le_of_ble_eq_true rfl⟩) preT rfl rfl hl.1 rfl (lv_room (Nat.le_of_ble_eq_true rfl)) dX12_claim_24 ⟨Nat.le_of_ble_eq_true rfl, Nat.le_of_ble_eq_true rfl⟩) (fun r_8 hr_8 => ?_)
      have hr_8 : BR r_8 (0 ≤ p3.toInt ∧ p3.toInt ≤ 7) 1 0 := hr_8
      rcases hr_8 with ⟨rfl, h_9⟩ | ⟨rfl, h_9⟩
      · skip
        refine lv_if_eq (tgt := 47) hx hb dX12_claim_27 (by decide) (fun c_10 => absurd c_10 (by decide)) (fun c_10 => ?_)
        refine lv_iload hx hb dX12_claim_30 (lv_at hl 5 rfl) ?_
        refine vp_callSi (W.runS (As := [.int p4]) (rest := []) ⟨hx, hb, hml, hown, hT⟩ (c_X12_isDay l p4) (va_cwS 1 hT (gS t_157 t_158 t_159 t_6) rfl rfl rfl (by decide +kernel) ⟨Nat.le_of_ble_eq_true rfl, Nat.le_of_ble_eq_true rfl⟩) preT rfl rfl hl.1 rfl (lv_room (Nat.le_of_ble_eq_true rfl)) dX12_claim_32 ⟨Nat.le_of_ble_eq_true rfl, Nat.le_of_ble_eq_true rfl⟩) (fun r_11 hr_11 => ?_)
        have hr_11 : BR r_11 (0 ≤ p4.toInt ∧ p4.toInt ≤ 9999) 1 0 := hr_11
        rcases hr_11 with ⟨rfl, h_12⟩ | ⟨rfl, h_12⟩
        · skip
          refine lv_if_eq (tgt := 47) hx hb dX12_claim_35 (by decide) (fun c_13 => absurd c_13 (by decide)) (fun c_13 => ?_)
          refine lv_aload_n hx hb dX12_claim_38 rfl (lv_at hl 0 rfl) ?_
          refine va_get (D := D) (ci := 12) (v := .int (i 51)) (C := RX12) (T := TX12) (N := 91) hx hb hT iX12 hown hK hP 0 rfl rfl 51 (by decide) (hT _ t_11) (fun _ h9 => h9) rfl dX12_claim_39 ?_
          have hg_14 : 0 ≤ (i 51).toInt ∧ (i 51).toInt ≤ 30 := hRi 51
          refine lv_bipush (v := 30) hx hb dX12_claim_42 (by decide) ?_
          refine lv_icmp_ne (tgt := 49) hx hb dX12_claim_44 (by decide) (fun c_15 => ?_) (fun c_15 => ?_)
          · have c_15 : (i 51).toInt ≠ 30 := b_ne c_15
            refine lv_iconst (v := 0) hx hb dX12_claim_49 (by decide) ?_
            refine lv_istore (lv' := [(6, .int 0), (0, .ref (a 0)), (1, .int p0), (2, .int p1), (3, .int p2), (4, .int p3), (5, .int p4)]) hx hb dX12_claim_50 hl (by decide) rfl (fun ls hl => ?_)
            have loop_16 : ∀ (n : Nat) (x16_6 : Int32) (H : Heap) (locs : List Loc) (ls : Array Slot), (30 - x16_6.toInt).toNat < n → (0 ≤ x16_6.toInt ∧ x16_6.toInt ≤ 30) → va_P D vwCl (mW cy a i r rl) H → va_D A (mW cy a i r rl) → va_S A s.heap H locs → lv_has ls 7 [(6, .int x16_6), (0, .ref (a 0)), (1, .int p0), (2, .int p1), (3, .int p2), (4, .int p3), (5, .int p4)] → W p l e ({ frames := 3, cells := 0, slots := 0, locals := 67 } : Room) s m ([.ref (a 0), .int p0, .int p1, .int p2, .int p3, .int p4] : List Value).toArray below meth c H locs 0 0 Q (F0 m 52 ls []) := by
              intro n
              induction n with
              | zero =>
                intro x16_6 H locs ls hm16 hf16_0 hP hD hS hl
                exact absurd hm16 (by omega)
              | succ n ih16 =>
                intro x16_6 H locs ls hm16 hf16_0 hP hD hS hl
                refine lv_iload hx hb dX12_claim_52 (lv_at hl 0 rfl) ?_
                refine lv_aload_n hx hb dX12_claim_54 rfl (lv_at hl 1 rfl) ?_
                refine va_get (D := D) (ci := 12) (v := .int (i 51)) (C := RX12) (T := TX12) (N := 91) hx hb hT iX12 hown hK hP 0 rfl rfl 51 (by decide) (hT _ t_11) (fun _ h9 => h9) rfl dX12_claim_55 ?_
                refine lv_icmp_ge (tgt := 92) hx hb dX12_claim_58 (by decide) (fun c_17 => ?_) (fun c_17 => ?_)
                · have c_17 : (i 51).toInt ≤ x16_6.toInt := b_le c_17
                  refine lv_aload_n hx hb dX12_claim_92 rfl (lv_at hl 1 rfl) ?_
                  refine va_get (D := D) (ci := 12) (v := .ref (a 40)) (C := RX12) (T := TX12) (N := 91) hx hb hT iX12 hown hK hP 0 rfl rfl 52 (by decide) (hT _ t_75) (fun _ h9 => h9) rfl dX12_claim_93 ?_
                  refine lv_aload_n hx hb dX12_claim_96 rfl (lv_at hl 1 rfl) ?_
                  refine va_get (D := D) (ci := 12) (v := .int (i 51)) (C := RX12) (T := TX12) (N := 91) hx hb hT iX12 hown hK hP 0 rfl rfl 51 (by decide) (hT _ t_11) (fun _ h9 => h9) rfl dX12_claim_97 ?_
                  refine lv_iload_n hx hb dX12_claim_100 rfl (lv_at hl 2 rfl) ?_
                  refine va_iast hx hb hK hP hD hS 40 0 rfl rfl (vp_inI (by omega) (by omega)) dX12_claim_101 (fun H locs hP hD hS => ?_)
                  rw [mS40] at hP hD
                  have hRr : mRr (va_up r 40 (upd (r 40) ((i 51).toNatClampNeg) p0)) := Rr_upd hRr 40 ((i 51).toNatClampNeg) p0 ⟨by show (0 : Int) ≤ p0.toInt; omega, by show p0.toInt ≤ (5 : Int); omega⟩
                  have hEr : mEr [40, 41, 42, 43, 44, 45, 46, 47] _ (va_up r 40 (upd (r 40) ((i 51).toNatClampNeg) p0)) := Er_up hEr 40 _ (by decide)
                  refine lv_aload_n hx hb dX12_claim_102 rfl (lv_at hl 1 rfl) ?_
                  refine va_get (D := D) (ci := 12) (v := .ref (a 41)) (C := RX12) (T := TX12) (N := 91) hx hb hT iX12 hown hK hP 0 rfl rfl 53 (by decide) (hT _ t_76) (fun _ h9 => h9) rfl dX12_claim_103 ?_
                  refine lv_aload_n hx hb dX12_claim_106 rfl (lv_at hl 1 rfl) ?_
                  refine va_get (D := D) (ci := 12) (v := .int (i 51)) (C := RX12) (T := TX12) (N := 91) hx hb hT iX12 hown hK hP 0 rfl rfl 51 (by decide) (hT _ t_11) (fun _ h9 => h9) rfl dX12_claim_107 ?_
                  refine lv_iload_n hx hb dX12_claim_110 rfl (lv_at hl 3 rfl) ?_
                  refine va_iast hx hb hK hP hD hS 41 0 rfl rfl (vp_inI (by omega) (by omega)) dX12_claim_111 (fun H locs hP hD hS => ?_)
                  rw [mS41] at hP hD
                  have hRr : mRr (va_up (va_up r 40 (upd (r 40) ((i 51).toNatClampNeg) p0)) 41 (upd (r 41) ((i 51).toNatClampNeg) p1)) := Rr_upd hRr 41 ((i 51).toNatClampNeg) p1 ⟨by show (0 : Int) ≤ p1.toInt; omega, by show p1.toInt ≤ (19 : Int); omega⟩
                  have hEr : mEr [40, 41, 42, 43, 44, 45, 46, 47] _ (va_up (va_up r 40 (upd (r 40) ((i 51).toNatClampNeg) p0)) 41 (upd (r 41) ((i 51).toNatClampNeg) p1)) := Er_up hEr 41 _ (by decide)
                  refine lv_aload_n hx hb dX12_claim_112 rfl (lv_at hl 1 rfl) ?_
                  refine va_get (D := D) (ci := 12) (v := .ref (a 42)) (C := RX12) (T := TX12) (N := 91) hx hb hT iX12 hown hK hP 0 rfl rfl 54 (by decide) (hT _ t_81) (fun _ h9 => h9) rfl dX12_claim_113 ?_
                  refine lv_aload_n hx hb dX12_claim_116 rfl (lv_at hl 1 rfl) ?_
                  refine va_get (D := D) (ci := 12) (v := .int (i 51)) (C := RX12) (T := TX12) (N := 91) hx hb hT iX12 hown hK hP 0 rfl rfl 51 (by decide) (hT _ t_11) (fun _ h9 => h9) rfl dX12_claim_117 ?_
                  refine lv_iload_n hx hb dX12_claim_120 rfl (lv_at hl 4 rfl) ?_
                  refine va_iast hx hb hK hP hD hS 42 0 rfl rfl (vp_inI (by omega) (by omega)) dX12_claim_121 (fun H locs hP hD hS => ?_)
                  rw [mS42] at hP hD
                  have hRr : mRr (va_up (va_up (va_up r 40 (upd (r 40) ((i 51).toNatClampNeg) p0)) 41 (upd (r 41) ((i 51).toNatClampNeg) p1)) 42 (upd (r 42) ((i 51).toNatClampNeg) p2)) := Rr_upd hRr 42 ((i 51).toNatClampNeg) p2 ⟨by show (0 : Int) ≤ p2.toInt; omega, by show p2.toInt ≤ (9 : Int); omega⟩
                  have hEr : mEr [40, 41, 42, 43, 44, 45, 46, 47] _ (va_up (va_up (va_up r 40 (upd (r 40) ((i 51).toNatClampNeg) p0)) 41 (upd (r 41) ((i 51).toNatClampNeg) p1)) 42 (upd (r 42) ((i 51).toNatClampNeg) p2)) := Er_up hEr 42 _ (by decide)
                  refine lv_aload_n hx hb dX12_claim_122 rfl (lv_at hl 1 rfl) ?_
                  refine va_get (D := D) (ci := 12) (v := .ref (a 43)) (C := RX12) (T := TX12) (N := 91) hx hb hT iX12 hown hK hP 0 rfl rfl 55 (by decide) (hT _ t_31) (fun _ h9 => h9) rfl dX12_claim_123 ?_
                  refine lv_aload_n hx hb dX12_claim_126 rfl (lv_at hl 1 rfl) ?_
                  refine va_get (D := D) (ci := 12) (v := .int (i 51)) (C := RX12) (T := TX12) (N := 91) hx hb hT iX12 hown hK hP 0 rfl rfl 51 (by decide) (hT _ t_11) (fun _ h9 => h9) rfl dX12_claim_127 ?_
                  refine lv_iload hx hb dX12_claim_130 (lv_at hl 5 rfl) ?_
                  refine va_iast hx hb hK hP hD hS 43 0 rfl rfl (vp_inI (by omega) (by omega)) dX12_claim_132 (fun H locs hP hD hS => ?_)
                  rw [mS43] at hP hD
                  have hRr : mRr (va_up (va_up (va_up (va_up r 40 (upd (r 40) ((i 51).toNatClampNeg) p0)) 41 (upd (r 41) ((i 51).toNatClampNeg) p1)) 42 (upd (r 42) ((i 51).toNatClampNeg) p2)) 43 (upd (r 43) ((i 51).toNatClampNeg) p3)) := Rr_upd hRr 43 ((i 51).toNatClampNeg) p3 ⟨by show (0 : Int) ≤ p3.toInt; omega, by show p3.toInt ≤ (7 : Int); omega⟩
                  have hEr : mEr [40, 41, 42, 43, 44, 45, 46, 47] _ (va_up (va_up (va_up (va_up r 40 (upd (r 40) ((i 51).toNatClampNeg) p0)) 41 (upd (r 41) ((i 51).toNatClampNeg) p1)) 42 (upd (r 42) ((i 51).toNatClampNeg) p2)) 43 (upd (r 43) ((i 51).toNatClampNeg) p3)) := Er_up hEr 43 _ (by decide)
                  refine lv_aload_n hx hb dX12_claim_133 rfl (lv_at hl 1 rfl) ?_
                  refine va_get (D := D) (ci := 12) (v := .ref (a 44)) (C := RX12) (T := TX12) (N := 91) hx hb hT iX12 hown hK hP 0 rfl rfl 56 (by decide) (hT _ t_139) (fun _ h9 => h9) rfl dX12_claim_134 ?_
                  refine lv_aload_n hx hb dX12_claim_137 rfl (lv_at hl 1 rfl) ?_
                  refine va_get (D := D) (ci := 12) (v := .int (i 51)) (C := RX12) (T := TX12) (N := 91) hx hb hT iX12 hown hK hP 0 rfl rfl 51 (by decide) (hT _ t_11) (fun _ h9 => h9) rfl dX12_claim_138 ?_
                  refine lv_iload hx hb dX12_claim_141 (lv_at hl 6 rfl) ?_
                  refine va_iast hx hb hK hP hD hS 44 0 rfl rfl (vp_inI (by omega) (by omega)) dX12_claim_143 (fun H locs hP hD hS => ?_)
                  rw [mS44] at hP hD
                  have hRr : mRr (va_up (va_up (va_up (va_up (va_up r 40 (upd (r 40) ((i 51).toNatClampNeg) p0)) 41 (upd (r 41) ((i 51).toNatClampNeg) p1)) 42 (upd (r 42) ((i 51).toNatClampNeg) p2)) 43 (upd (r 43) ((i 51).toNatClampNeg) p3)) 44 (upd (r 44) ((i 51).toNatClampNeg) p4)) := Rr_upd hRr 44 ((i 51).toNatClampNeg) p4 ⟨by show (0 : Int) ≤ p4.toInt; omega, by show p4.toInt ≤ (9999 : Int); omega⟩
                  have hEr : mEr [40, 41, 42, 43, 44, 45, 46, 47] _ (va_up (va_up (va_up (va_up (va_up r 40 (upd (r 40) ((i 51).toNatClampNeg) p0)) 41 (upd (r 41) ((i 51).toNatClampNeg) p1)) 42 (upd (r 42) ((i 51).toNatClampNeg) p2)) 43 (upd (r 43) ((i 51).toNatClampNeg) p3)) 44 (upd (r 44) ((i 51).toNatClampNeg) p4)) := Er_up hEr 44 _ (by decide)
                  refine lv_aload_n hx hb dX12_claim_144 rfl (lv_at hl 1 rfl) ?_
                  refine va_get (D := D) (ci := 12) (v := .ref (a 45)) (C := RX12) (T := TX12) (N := 91) hx hb hT iX12 hown hK hP 0 rfl rfl 57 (by decide) (hT _ t_133) (fun _ h9 => h9) rfl dX12_claim_145 ?_
                  refine lv_aload_n hx hb dX12_claim_148 rfl (lv_at hl 1 rfl) ?_
                  refine va_get (D := D) (ci := 12) (v := .int (i 51)) (C := RX12) (T := TX12) (N := 91) hx hb hT iX12 hown hK hP 0 rfl rfl 51 (by decide) (hT _ t_11) (fun _ h9 => h9) rfl dX12_claim_149 ?_
                  refine lv_iconst (v := 0) hx hb dX12_claim_152 (by decide) ?_
                  refine va_iast hx hb hK hP hD hS 45 0 rfl rfl (vp_inI (by omega) (by omega)) dX12_claim_153 (fun H locs hP hD hS => ?_)
                  rw [mS45] at hP hD
                  have hRr : mRr (va_up (va_up (va_up (va_up (va_up (va_up r 40 (upd (r 40) ((i 51).toNatClampNeg) p0)) 41 (upd (r 41) ((i 51).toNatClampNeg) p1)) 42 (upd (r 42) ((i 51).toNatClampNeg) p2)) 43 (upd (r 43) ((i 51).toNatClampNeg) p3)) 44 (upd (r 44) ((i 51).toNatClampNeg) p4)) 45 (upd (r 45) ((i 51).toNatClampNeg) 0)) := Rr_upd hRr 45 ((i 51).toNatClampNeg) 0 ⟨by decide, by decide⟩
                  have hEr : mEr [40, 41, 42, 43, 44, 45, 46, 47] _ (va_up (va_up (va_up (va_up (va_up (va_up r 40 (upd (r 40) ((i 51).toNatClampNeg) p0)) 41 (upd (r 41) ((i 51).toNatClampNeg) p1)) 42 (upd (r 42) ((i 51).toNatClampNeg) p2)) 43 (upd (r 43) ((i 51).toNatClampNeg) p3)) 44 (upd (r 44) ((i 51).toNatClampNeg) p4)) 45 (upd (r 45) ((i 51).toNatClampNeg) 0)) := Er_up hEr 45 _ (by decide)
                  refine lv_aload_n hx hb dX12_claim_154 rfl (lv_at hl 1 rfl) ?_
                  refine va_get (D := D) (ci := 12) (v := .ref (a 46)) (C := RX12) (T := TX12) (N := 91) hx hb hT iX12 hown hK hP 0 rfl rfl 58 (by decide) (hT _ t_138) (fun _ h9 => h9) rfl dX12_claim_155 ?_
                  refine lv_aload_n hx hb dX12_claim_158 rfl (lv_at hl 1 rfl) ?_
                  refine va_get (D := D) (ci := 12) (v := .int (i 51)) (C := RX12) (T := TX12) (N := 91) hx hb hT iX12 hown hK hP 0 rfl rfl 51 (by decide) (hT _ t_11) (fun _ h9 => h9) rfl dX12_claim_159 ?_
                  refine lv_iconst (v := (-1)) hx hb dX12_claim_162 (by decide) ?_
                  refine va_iast hx hb hK hP hD hS 46 0 rfl rfl (vp_inI (by omega) (by omega)) dX12_claim_163 (fun H locs hP hD hS => ?_)
                  rw [mS46] at hP hD
                  have hRr : mRr (va_up (va_up (va_up (va_up (va_up (va_up (va_up r 40 (upd (r 40) ((i 51).toNatClampNeg) p0)) 41 (upd (r 41) ((i 51).toNatClampNeg) p1)) 42 (upd (r 42) ((i 51).toNatClampNeg) p2)) 43 (upd (r 43) ((i 51).toNatClampNeg) p3)) 44 (upd (r 44) ((i 51).toNatClampNeg) p4)) 45 (upd (r 45) ((i 51).toNatClampNeg) 0)) 46 (upd (r 46) ((i 51).toNatClampNeg) (-1))) := Rr_upd hRr 46 ((i 51).toNatClampNeg) (-1) ⟨by decide, by decide⟩
                  have hEr : mEr [40, 41, 42, 43, 44, 45, 46, 47] _ (va_up (va_up (va_up (va_up (va_up (va_up (va_up r 40 (upd (r 40) ((i 51).toNatClampNeg) p0)) 41 (upd (r 41) ((i 51).toNatClampNeg) p1)) 42 (upd (r 42) ((i 51).toNatClampNeg) p2)) 43 (upd (r 43) ((i 51).toNatClampNeg) p3)) 44 (upd (r 44) ((i 51).toNatClampNeg) p4)) 45 (upd (r 45) ((i 51).toNatClampNeg) 0)) 46 (upd (r 46) ((i 51).toNatClampNeg) (-1))) := Er_up hEr 46 _ (by decide)
                  refine lv_aload_n hx hb dX12_claim_164 rfl (lv_at hl 1 rfl) ?_
                  refine va_get (D := D) (ci := 12) (v := .ref (a 47)) (C := RX12) (T := TX12) (N := 91) hx hb hT iX12 hown hK hP 0 rfl rfl 59 (by decide) (hT _ t_152) (fun _ h9 => h9) rfl dX12_claim_165 ?_
                  refine lv_aload_n hx hb dX12_claim_168 rfl (lv_at hl 1 rfl) ?_
                  refine va_get (D := D) (ci := 12) (v := .int (i 51)) (C := RX12) (T := TX12) (N := 91) hx hb hT iX12 hown hK hP 0 rfl rfl 51 (by decide) (hT _ t_11) (fun _ h9 => h9) rfl dX12_claim_169 ?_
                  refine lv_iconst (v := 0) hx hb dX12_claim_172 (by decide) ?_
                  refine va_zast hx hb hK hP hD hS 47 2 rfl rfl (vp_inI (by omega) (by omega)) dX12_claim_173 (fun H locs hP hD hS => ?_)
                  rw [mS47] at hP hD
                  have hRr : mRr (va_up (va_up (va_up (va_up (va_up (va_up (va_up (va_up r 40 (upd (r 40) ((i 51).toNatClampNeg) p0)) 41 (upd (r 41) ((i 51).toNatClampNeg) p1)) 42 (upd (r 42) ((i 51).toNatClampNeg) p2)) 43 (upd (r 43) ((i 51).toNatClampNeg) p3)) 44 (upd (r 44) ((i 51).toNatClampNeg) p4)) 45 (upd (r 45) ((i 51).toNatClampNeg) 0)) 46 (upd (r 46) ((i 51).toNatClampNeg) (-1))) 47 (upd (r 47) ((i 51).toNatClampNeg) (vp_nar .boolean 0))) := Rr_upd hRr 47 ((i 51).toNatClampNeg) (vp_nar .boolean 0) (b_rg _)
                  have hEr : mEr [40, 41, 42, 43, 44, 45, 46, 47] _ (va_up (va_up (va_up (va_up (va_up (va_up (va_up (va_up r 40 (upd (r 40) ((i 51).toNatClampNeg) p0)) 41 (upd (r 41) ((i 51).toNatClampNeg) p1)) 42 (upd (r 42) ((i 51).toNatClampNeg) p2)) 43 (upd (r 43) ((i 51).toNatClampNeg) p3)) 44 (upd (r 44) ((i 51).toNatClampNeg) p4)) 45 (upd (r 45) ((i 51).toNatClampNeg) 0)) 46 (upd (r 46) ((i 51).toNatClampNeg) (-1))) 47 (upd (r 47) ((i 51).toNatClampNeg) (vp_nar .boolean 0))) := Er_up hEr 47 _ (by decide)
                  refine lv_aload_n hx hb dX12_claim_174 rfl (lv_at hl 1 rfl) ?_
                  refine lv_aload_n hx hb dX12_claim_175 rfl (lv_at hl 1 rfl) ?_
                  refine va_get (D := D) (ci := 12) (v := .int (i 51)) (C := RX12) (T := TX12) (N := 91) hx hb hT iX12 hown hK hP 0 rfl rfl 51 (by decide) (hT _ t_11) (fun _ h9 => h9) rfl dX12_claim_176 ?_
                  refine lv_iconst (v := 1) hx hb dX12_claim_179 (by decide) ?_
                  refine lv_iadd hx hb dX12_claim_180 ?_
                  refine lv_topi (fun v_18 ev_18 => ?_)
                  have hv_18 : v_18.toInt = (i 51).toInt + 1 := by rw [ev_18]; have := b_rg (i 51); exact i_add (a := (i 51).toInt) (b := 1) rfl rfl (by omega) (by omega)
                  refine va_put (D := D) (ci := 12) (v := .int v_18) (ty := .int) (C := RX12) (T := TX12) (N := 91) hx hb hT iX12 tyX12 tyX12_ok nmX12 hown hK hP hD hS 0 rfl rfl 51 (by decide) (hT _ t_11) (fun _ h9 => h9) rfl (by decide +kernel) rfl rfl (Nat.le_of_ble_eq_true rfl) dX12_claim_181 (fun H locs hP hD hS => ?_)
                  rw [mP51] at hP hD
                  have hRi := Ri_upd hRi 51 v_18 ⟨by show (0 : Int) ≤ v_18.toInt; omega, by show v_18.toInt ≤ (30 : Int); omega⟩
                  have hEi := Ei_upd hEi 51 v_18 (by decide)
                  refine lv_aload_n hx hb dX12_claim_184 rfl (lv_at hl 1 rfl) ?_
                  refine va_get (D := D) (ci := 12) (v := .int v_18) (C := RX12) (T := TX12) (N := 91) hx hb hT iX12 hown hK hP 0 rfl rfl 51 (by decide) (hT _ t_11) (fun _ h9 => h9) rfl dX12_claim_185 ?_
                  refine lv_iconst (v := 1) hx hb dX12_claim_188 (by decide) ?_
                  refine lv_isub hx hb dX12_claim_189 ?_
                  refine lv_topi (fun v_19 ev_19 => ?_)
                  have hv_19 : v_19.toInt = v_18.toInt - 1 := by rw [ev_19]; have := b_rg v_18; exact i_sub (a := v_18.toInt) (b := 1) rfl rfl (by omega) (by omega)
                  subst hQ
                  obtain ⟨nn, hnn⟩ : ∃ nn : Nat, (nn : Int) = (i 51).toInt := ⟨(i 51).toInt.toNat, by omega⟩
                  have hix : (i 51).toNatClampNeg = nn := by have h9 : (i 51).toNatClampNeg = (i 51).toInt.toNat := rfl; omega
                  have h52 : (va_up (va_up (va_up (va_up (va_up (va_up (va_up (va_up r 40 (upd (r 40) ((i 51).toNatClampNeg) p0)) 41 (upd (r 41) ((i 51).toNatClampNeg) p1)) 42 (upd (r 42) ((i 51).toNatClampNeg) p2)) 43 (upd (r 43) ((i 51).toNatClampNeg) p3)) 44 (upd (r 44) ((i 51).toNatClampNeg) p4)) 45 (upd (r 45) ((i 51).toNatClampNeg) 0)) 46 (upd (r 46) ((i 51).toNatClampNeg) (-1))) 47 (upd (r 47) ((i 51).toNatClampNeg) (vp_nar .boolean 0))) 40 = upd (r 40) nn p0 := by rw [← hix]; rfl
                  have h53 : (va_up (va_up (va_up (va_up (va_up (va_up (va_up (va_up r 40 (upd (r 40) ((i 51).toNatClampNeg) p0)) 41 (upd (r 41) ((i 51).toNatClampNeg) p1)) 42 (upd (r 42) ((i 51).toNatClampNeg) p2)) 43 (upd (r 43) ((i 51).toNatClampNeg) p3)) 44 (upd (r 44) ((i 51).toNatClampNeg) p4)) 45 (upd (r 45) ((i 51).toNatClampNeg) 0)) 46 (upd (r 46) ((i 51).toNatClampNeg) (-1))) 47 (upd (r 47) ((i 51).toNatClampNeg) (vp_nar .boolean 0))) 41 = upd (r 41) nn p1 := by rw [← hix]; rfl
                  exact W.iret (v := v_19) hx hb hr (fun t ht hW => ⟨⟨_, (upd i 51 v_18, va_up (va_up (va_up (va_up (va_up (va_up (va_up (va_up r 40 (upd (r 40) ((i 51).toNatClampNeg) p0)) 41 (upd (r 41) ((i 51).toNatClampNeg) p1)) 42 (upd (r 42) ((i 51).toNatClampNeg) p2)) 43 (upd (r 43) ((i 51).toNatClampNeg) p3)) 44 (upd (r 44) ((i 51).toNatClampNeg) p4)) 45 (upd (r 45) ((i 51).toNatClampNeg) 0)) 46 (upd (r 46) ((i 51).toNatClampNeg) (-1))) 47 (upd (r 47) ((i 51).toNatClampNeg) (vp_nar .boolean 0))), rfl, ⟨hRi, hRr, hEi, hEr, mE_claim hE nn p0 p1 (by omega) (by show v_18.toInt = _; omega) (by omega) (by omega) rfl rfl rfl h52 h53 rfl rfl rfl rfl rfl rfl rfl rfl rfl rfl⟩, by rw [ht]; exact hP, va_K.moved hW.alike hK, hD⟩, hS.F ht⟩) hS.2.2 dX12_claim_190
                · have c_17 : x16_6.toInt < (i 51).toInt := b_nle c_17
                  refine lv_aload_n hx hb dX12_claim_61 rfl (lv_at hl 1 rfl) ?_
                  refine va_get (D := D) (ci := 12) (v := .ref (a 40)) (C := RX12) (T := TX12) (N := 91) hx hb hT iX12 hown hK hP 0 rfl rfl 52 (by decide) (hT _ t_75) (fun _ h9 => h9) rfl dX12_claim_62 ?_
                  refine lv_iload hx hb dX12_claim_65 (lv_at hl 0 rfl) ?_
                  refine va_iald hx hb hK hP 40 0 rfl rfl (vp_inI (by omega) (by omega)) dX12_claim_67 ?_
                  refine lv_topi (fun v_20 ev_20 => ?_)
                  have hgv_20 : 0 ≤ v_20.toInt ∧ v_20.toInt ≤ 5 := by rw [ev_20]; exact hRr 40 _
                  refine lv_iload_n hx hb dX12_claim_68 rfl (lv_at hl 2 rfl) ?_
                  refine lv_icmp_ne (tgt := 86) hx hb dX12_claim_69 (by decide) (fun c_21 => ?_) (fun c_21 => ?_)
                  · have c_21 : v_20.toInt ≠ p0.toInt := b_ne c_21
                    obtain ⟨x_22, ex_22⟩ : ∃ y : Int32, y = x16_6 + 1 := ⟨_, rfl⟩
                    refine lv_iinc (v := x_22) (lv' := [(6, .int x_22), (0, .ref (a 0)), (1, .int p0), (2, .int p1), (3, .int p2), (4, .int p3), (5, .int p4)]) hx hb dX12_claim_86 hl (k := 0) rfl (by rw [ex_22]; rfl) (by decide) rfl (fun ls hl => ?_)
                    have hx_22 : x_22.toInt = x16_6.toInt + 1 := by rw [ex_22]; have := b_rg x16_6; exact i_add (a := x16_6.toInt) (b := 1) rfl rfl (by omega) (by omega)
                    refine lv_goto (tgt := 52) hx hb dX12_claim_89 (by decide) ?_
                    exact ih16 x_22 _ _ _ (by first | omega | (simp only [Int.toNat]; omega)) (by first | omega | decide)   hP hD hS (lv_sub hl [0, 1, 2, 3, 4, 5, 6] rfl)
                  · have c_21 : v_20.toInt = p0.toInt := b_nne c_21
                    refine lv_aload_n hx hb dX12_claim_72 rfl (lv_at hl 1 rfl) ?_
                    refine va_get (D := D) (ci := 12) (v := .ref (a 41)) (C := RX12) (T := TX12) (N := 91) hx hb hT iX12 hown hK hP 0 rfl rfl 53 (by decide) (hT _ t_76) (fun _ h9 => h9) rfl dX12_claim_73 ?_
                    refine lv_iload hx hb dX12_claim_76 (lv_at hl 0 rfl) ?_
                    refine va_iald hx hb hK hP 41 0 rfl rfl (vp_inI (by omega) (by omega)) dX12_claim_78 ?_
                    refine lv_topi (fun v_23 ev_23 => ?_)
                    have hgv_23 : 0 ≤ v_23.toInt ∧ v_23.toInt ≤ 19 := by rw [ev_23]; exact hRr 41 _
                    refine lv_iload_n hx hb dX12_claim_79 rfl (lv_at hl 3 rfl) ?_
                    refine lv_icmp_ne (tgt := 86) hx hb dX12_claim_80 (by decide) (fun c_24 => ?_) (fun c_24 => ?_)
                    · have c_24 : v_23.toInt ≠ p1.toInt := b_ne c_24
                      obtain ⟨x_25, ex_25⟩ : ∃ y : Int32, y = x16_6 + 1 := ⟨_, rfl⟩
                      refine lv_iinc (v := x_25) (lv' := [(6, .int x_25), (0, .ref (a 0)), (1, .int p0), (2, .int p1), (3, .int p2), (4, .int p3), (5, .int p4)]) hx hb dX12_claim_86 hl (k := 0) rfl (by rw [ex_25]; rfl) (by decide) rfl (fun ls hl => ?_)
                      have hx_25 : x_25.toInt = x16_6.toInt + 1 := by rw [ex_25]; have := b_rg x16_6; exact i_add (a := x16_6.toInt) (b := 1) rfl rfl (by omega) (by omega)
                      refine lv_goto (tgt := 52) hx hb dX12_claim_89 (by decide) ?_
                      exact ih16 x_25 _ _ _ (by first | omega | (simp only [Int.toNat]; omega)) (by first | omega | decide)   hP hD hS (lv_sub hl [0, 1, 2, 3, 4, 5, 6] rfl)
                    · have c_24 : v_23.toInt = p1.toInt := b_nne c_24
                      refine lv_bipush (v := (-2)) hx hb dX12_claim_83 (by decide) ?_
                      subst hQ
                      exact W.iret (v := (-2)) hx hb hr (fun t ht hW => ⟨⟨_, (i, r), rfl, ⟨hRi, hRr, hEi, hEr, hE⟩, by rw [ht]; exact hP, va_K.moved hW.alike hK, hD⟩, hS.F ht⟩) hS.2.2 dX12_claim_85
            exact loop_16 _ 0 _ _ _ (Nat.lt_succ_self _) (by first | omega | decide)   hP hD hS hl
          · have c_15 : (i 51).toInt = 30 := b_nne c_15
            refine lv_iconst (v := (-1)) hx hb dX12_claim_47 (by decide) ?_
            subst hQ
            exact W.iret (v := (-1)) hx hb hr (fun t ht hW => ⟨⟨_, (i, r), rfl, ⟨hRi, hRr, hEi, hEr, hE⟩, by rw [ht]; exact hP, va_K.moved hW.alike hK, hD⟩, hS.F ht⟩) hS.2.2 dX12_claim_48
        · skip
          refine lv_if_eq (tgt := 47) hx hb dX12_claim_35 (by decide) (fun c_26 => ?_) (fun c_26 => absurd (by decide) c_26)
          refine lv_iconst (v := (-1)) hx hb dX12_claim_47 (by decide) ?_
          subst hQ
          exact W.iret (v := (-1)) hx hb hr (fun t ht hW => ⟨⟨_, (i, r), rfl, ⟨hRi, hRr, hEi, hEr, hE⟩, by rw [ht]; exact hP, va_K.moved hW.alike hK, hD⟩, hS.F ht⟩) hS.2.2 dX12_claim_48
      · skip
        refine lv_if_eq (tgt := 47) hx hb dX12_claim_27 (by decide) (fun c_27 => ?_) (fun c_27 => absurd (by decide) c_27)
        refine lv_iconst (v := (-1)) hx hb dX12_claim_47 (by decide) ?_
        subst hQ
        exact W.iret (v := (-1)) hx hb hr (fun t ht hW => ⟨⟨_, (i, r), rfl, ⟨hRi, hRr, hEi, hEr, hE⟩, by rw [ht]; exact hP, va_K.moved hW.alike hK, hD⟩, hS.F ht⟩) hS.2.2 dX12_claim_48
    · skip
      refine lv_if_eq (tgt := 47) hx hb dX12_claim_16 (by decide) (fun c_28 => ?_) (fun c_28 => absurd (by decide) c_28)
      refine lv_iconst (v := (-1)) hx hb dX12_claim_47 (by decide) ?_
      subst hQ
      exact W.iret (v := (-1)) hx hb hr (fun t ht hW => ⟨⟨_, (i, r), rfl, ⟨hRi, hRr, hEi, hEr, hE⟩, by rw [ht]; exact hP, va_K.moved hW.alike hK, hD⟩, hS.F ht⟩) hS.2.2 dX12_claim_48
  · skip
    refine lv_if_eq (tgt := 47) hx hb dX12_claim_6 (by decide) (fun c_29 => ?_) (fun c_29 => absurd (by decide) c_29)
    refine lv_iconst (v := (-1)) hx hb dX12_claim_47 (by decide) ?_
    subst hQ
    exact W.iret (v := (-1)) hx hb hr (fun t ht hW => ⟨⟨_, (i, r), rfl, ⟨hRi, hRr, hEi, hEr, hE⟩, by rw [ht]; exact hP, va_K.moved hW.alike hK, hD⟩, hS.F ht⟩) hS.2.2 dX12_claim_48
