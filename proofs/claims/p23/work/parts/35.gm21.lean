set_option maxRecDepth 100000 in
theorem t_904 : Cond.fieldLink RX12 341 "DepositJudgeModel" "saidMany" "I" ∈ gT := tm (tb4 (List.mem_of_getElem? (i := 226) (by rfl))) (by decide +kernel)
set_option maxRecDepth 100000 in
theorem t_905 : Cond.code yX12_readsCondition cX12_readsCondition 1 (some .boolean) ∈ gT := tm (tb6 (List.mem_of_getElem? (i := 108) (by rfl))) (by decide +kernel)
set_option maxRecDepth 100000 in
theorem t_906 : Cond.methodLink RX12 344 yX12_readsCondition ∈ gT := tm (tb6 (List.mem_of_getElem? (i := 105) (by rfl))) (by decide +kernel)
set_option maxRecDepth 100000 in
theorem t_907 : Cond.instanceMethod yX12_readsCondition ∈ gT := tm (tb6 (List.mem_of_getElem? (i := 107) (by rfl))) (by decide +kernel)
theorem t_908 : Cond.selects RX12 yX12_readsCondition yX12_readsCondition ∈ gT := tmp (List.mem_of_getElem? (i := 46) (by decide +kernel)) (by decide +kernel)
def dl_534 : List (Nat × (Instr × Nat)) := [(0, (.aload_n 0, 1)), (1, (.invokevirtual 268, 3)), (4, (.istore_n 1, 1)), (5, (.iload_n 1, 1)), (6, (.bipush 102, 2)), (8, (.if_icmp .eq 37, 3)), (11, (.iload_n 1, 1)), (12, (.bipush 112, 2)), (14, (.if_icmp .eq 31, 3)), (17, (.iload_n 1, 1)), (18, (.bipush 100, 2)), (20, (.if_icmp .eq 25, 3)), (23, (.iload_n 1, 1)), (24, (.bipush 116, 2)), (26, (.if_icmp .eq 19, 3)), (29, (.iload_n 1, 1)), (30, (.bipush 98, 2)), (32, (.if_icmp .eq 13, 3)), (35, (.aload_n 0, 1)), (36, (.iconst 1, 1))]
theorem dh_534 : dchk cX12_readsClause dl_534 = true := by decide +kernel
theorem dX12_readsClause_0 : decode cX12_readsClause 0 = .ok (.aload_n 0, 1) := dget dh_534 (k := 0) rfl
theorem dX12_readsClause_1 : decode cX12_readsClause 1 = .ok (.invokevirtual 268, 3) := dget dh_534 (k := 1) rfl
theorem dX12_readsClause_4 : decode cX12_readsClause 4 = .ok (.istore_n 1, 1) := dget dh_534 (k := 2) rfl
theorem dX12_readsClause_5 : decode cX12_readsClause 5 = .ok (.iload_n 1, 1) := dget dh_534 (k := 3) rfl
theorem dX12_readsClause_6 : decode cX12_readsClause 6 = .ok (.bipush 102, 2) := dget dh_534 (k := 4) rfl
theorem dX12_readsClause_8 : decode cX12_readsClause 8 = .ok (.if_icmp .eq 37, 3) := dget dh_534 (k := 5) rfl
theorem dX12_readsClause_11 : decode cX12_readsClause 11 = .ok (.iload_n 1, 1) := dget dh_534 (k := 6) rfl
theorem dX12_readsClause_12 : decode cX12_readsClause 12 = .ok (.bipush 112, 2) := dget dh_534 (k := 7) rfl
theorem dX12_readsClause_14 : decode cX12_readsClause 14 = .ok (.if_icmp .eq 31, 3) := dget dh_534 (k := 8) rfl
theorem dX12_readsClause_17 : decode cX12_readsClause 17 = .ok (.iload_n 1, 1) := dget dh_534 (k := 9) rfl
theorem dX12_readsClause_18 : decode cX12_readsClause 18 = .ok (.bipush 100, 2) := dget dh_534 (k := 10) rfl
theorem dX12_readsClause_20 : decode cX12_readsClause 20 = .ok (.if_icmp .eq 25, 3) := dget dh_534 (k := 11) rfl
theorem dX12_readsClause_23 : decode cX12_readsClause 23 = .ok (.iload_n 1, 1) := dget dh_534 (k := 12) rfl
theorem dX12_readsClause_24 : decode cX12_readsClause 24 = .ok (.bipush 116, 2) := dget dh_534 (k := 13) rfl
theorem dX12_readsClause_26 : decode cX12_readsClause 26 = .ok (.if_icmp .eq 19, 3) := dget dh_534 (k := 14) rfl
theorem dX12_readsClause_29 : decode cX12_readsClause 29 = .ok (.iload_n 1, 1) := dget dh_534 (k := 15) rfl
theorem dX12_readsClause_30 : decode cX12_readsClause 30 = .ok (.bipush 98, 2) := dget dh_534 (k := 16) rfl
theorem dX12_readsClause_32 : decode cX12_readsClause 32 = .ok (.if_icmp .eq 13, 3) := dget dh_534 (k := 17) rfl
theorem dX12_readsClause_35 : decode cX12_readsClause 35 = .ok (.aload_n 0, 1) := dget dh_534 (k := 18) rfl
theorem dX12_readsClause_36 : decode cX12_readsClause 36 = .ok (.iconst 1, 1) := dget dh_534 (k := 19) rfl
def dl_535 : List (Nat × (Instr × Nat)) := [(37, (.aload_n 0, 1)), (38, (.getfield 262, 3)), (41, (.invokevirtual 275, 3)), (44, (.ireturn, 1)), (45, (.aload_n 0, 1)), (46, (.getfield 341, 3)), (49, (.bipush 14, 2)), (51, (.if_icmp .ne 13, 3)), (54, (.aload_n 0, 1)), (55, (.iconst 4, 1)), (56, (.aload_n 0, 1)), (57, (.getfield 262, 3)), (60, (.invokevirtual 275, 3)), (63, (.ireturn, 1)), (64, (.aload_n 0, 1)), (65, (.getfield 78, 3)), (68, (.aload_n 0, 1)), (69, (.getfield 341, 3)), (72, (.iload_n 1, 1)), (73, (.iastore, 1))]
theorem dh_535 : dchk cX12_readsClause dl_535 = true := by decide +kernel
theorem dX12_readsClause_37 : decode cX12_readsClause 37 = .ok (.aload_n 0, 1) := dget dh_535 (k := 0) rfl
theorem dX12_readsClause_38 : decode cX12_readsClause 38 = .ok (.getfield 262, 3) := dget dh_535 (k := 1) rfl
theorem dX12_readsClause_41 : decode cX12_readsClause 41 = .ok (.invokevirtual 275, 3) := dget dh_535 (k := 2) rfl
theorem dX12_readsClause_44 : decode cX12_readsClause 44 = .ok (.ireturn, 1) := dget dh_535 (k := 3) rfl
theorem dX12_readsClause_45 : decode cX12_readsClause 45 = .ok (.aload_n 0, 1) := dget dh_535 (k := 4) rfl
theorem dX12_readsClause_46 : decode cX12_readsClause 46 = .ok (.getfield 341, 3) := dget dh_535 (k := 5) rfl
theorem dX12_readsClause_49 : decode cX12_readsClause 49 = .ok (.bipush 14, 2) := dget dh_535 (k := 6) rfl
theorem dX12_readsClause_51 : decode cX12_readsClause 51 = .ok (.if_icmp .ne 13, 3) := dget dh_535 (k := 7) rfl
theorem dX12_readsClause_54 : decode cX12_readsClause 54 = .ok (.aload_n 0, 1) := dget dh_535 (k := 8) rfl
theorem dX12_readsClause_55 : decode cX12_readsClause 55 = .ok (.iconst 4, 1) := dget dh_535 (k := 9) rfl
theorem dX12_readsClause_56 : decode cX12_readsClause 56 = .ok (.aload_n 0, 1) := dget dh_535 (k := 10) rfl
theorem dX12_readsClause_57 : decode cX12_readsClause 57 = .ok (.getfield 262, 3) := dget dh_535 (k := 11) rfl
theorem dX12_readsClause_60 : decode cX12_readsClause 60 = .ok (.invokevirtual 275, 3) := dget dh_535 (k := 12) rfl
theorem dX12_readsClause_63 : decode cX12_readsClause 63 = .ok (.ireturn, 1) := dget dh_535 (k := 13) rfl
theorem dX12_readsClause_64 : decode cX12_readsClause 64 = .ok (.aload_n 0, 1) := dget dh_535 (k := 14) rfl
theorem dX12_readsClause_65 : decode cX12_readsClause 65 = .ok (.getfield 78, 3) := dget dh_535 (k := 15) rfl
theorem dX12_readsClause_68 : decode cX12_readsClause 68 = .ok (.aload_n 0, 1) := dget dh_535 (k := 16) rfl
theorem dX12_readsClause_69 : decode cX12_readsClause 69 = .ok (.getfield 341, 3) := dget dh_535 (k := 17) rfl
theorem dX12_readsClause_72 : decode cX12_readsClause 72 = .ok (.iload_n 1, 1) := dget dh_535 (k := 18) rfl
theorem dX12_readsClause_73 : decode cX12_readsClause 73 = .ok (.iastore, 1) := dget dh_535 (k := 19) rfl
def dl_536 : List (Nat × (Instr × Nat)) := [(74, (.aload_n 0, 1)), (75, (.aload_n 0, 1)), (76, (.getfield 262, 3)), (79, (.iconst 1, 1)), (80, (.iadd, 1)), (81, (.putfield 262, 3)), (84, (.aload_n 0, 1)), (85, (.getfield 81, 3)), (88, (.aload_n 0, 1)), (89, (.getfield 341, 3)), (92, (.aload_n 0, 1)), (93, (.getfield 286, 3)), (96, (.iastore, 1)), (97, (.aload_n 0, 1)), (98, (.iconst 0, 1)), (99, (.putfield 290, 3)), (102, (.aload_n 0, 1)), (103, (.iconst 0, 1)), (104, (.putfield 293, 3)), (107, (.iload_n 1, 1))]
theorem dh_536 : dchk cX12_readsClause dl_536 = true := by decide +kernel
theorem dX12_readsClause_74 : decode cX12_readsClause 74 = .ok (.aload_n 0, 1) := dget dh_536 (k := 0) rfl
theorem dX12_readsClause_75 : decode cX12_readsClause 75 = .ok (.aload_n 0, 1) := dget dh_536 (k := 1) rfl
theorem dX12_readsClause_76 : decode cX12_readsClause 76 = .ok (.getfield 262, 3) := dget dh_536 (k := 2) rfl
theorem dX12_readsClause_79 : decode cX12_readsClause 79 = .ok (.iconst 1, 1) := dget dh_536 (k := 3) rfl
theorem dX12_readsClause_80 : decode cX12_readsClause 80 = .ok (.iadd, 1) := dget dh_536 (k := 4) rfl
theorem dX12_readsClause_81 : decode cX12_readsClause 81 = .ok (.putfield 262, 3) := dget dh_536 (k := 5) rfl
theorem dX12_readsClause_84 : decode cX12_readsClause 84 = .ok (.aload_n 0, 1) := dget dh_536 (k := 6) rfl
theorem dX12_readsClause_85 : decode cX12_readsClause 85 = .ok (.getfield 81, 3) := dget dh_536 (k := 7) rfl
theorem dX12_readsClause_88 : decode cX12_readsClause 88 = .ok (.aload_n 0, 1) := dget dh_536 (k := 8) rfl
theorem dX12_readsClause_89 : decode cX12_readsClause 89 = .ok (.getfield 341, 3) := dget dh_536 (k := 9) rfl
theorem dX12_readsClause_92 : decode cX12_readsClause 92 = .ok (.aload_n 0, 1) := dget dh_536 (k := 10) rfl
theorem dX12_readsClause_93 : decode cX12_readsClause 93 = .ok (.getfield 286, 3) := dget dh_536 (k := 11) rfl
theorem dX12_readsClause_96 : decode cX12_readsClause 96 = .ok (.iastore, 1) := dget dh_536 (k := 12) rfl
theorem dX12_readsClause_97 : decode cX12_readsClause 97 = .ok (.aload_n 0, 1) := dget dh_536 (k := 13) rfl
theorem dX12_readsClause_98 : decode cX12_readsClause 98 = .ok (.iconst 0, 1) := dget dh_536 (k := 14) rfl
theorem dX12_readsClause_99 : decode cX12_readsClause 99 = .ok (.putfield 290, 3) := dget dh_536 (k := 15) rfl
theorem dX12_readsClause_102 : decode cX12_readsClause 102 = .ok (.aload_n 0, 1) := dget dh_536 (k := 16) rfl
theorem dX12_readsClause_103 : decode cX12_readsClause 103 = .ok (.iconst 0, 1) := dget dh_536 (k := 17) rfl
theorem dX12_readsClause_104 : decode cX12_readsClause 104 = .ok (.putfield 293, 3) := dget dh_536 (k := 18) rfl
theorem dX12_readsClause_107 : decode cX12_readsClause 107 = .ok (.iload_n 1, 1) := dget dh_536 (k := 19) rfl
def dl_537 : List (Nat × (Instr × Nat)) := [(108, (.bipush 98, 2)), (110, (.if_icmp .eq 12, 3)), (113, (.aload_n 0, 1)), (114, (.invokevirtual 326, 3)), (117, (.ifCond .ne 5, 3)), (120, (.iconst 0, 1)), (121, (.ireturn, 1)), (122, (.aload_n 0, 1)), (123, (.getfield 84, 3)), (126, (.aload_n 0, 1)), (127, (.getfield 341, 3)), (130, (.aload_n 0, 1)), (131, (.getfield 286, 3)), (134, (.iastore, 1)), (135, (.aload_n 0, 1)), (136, (.invokevirtual 344, 3)), (139, (.ifCond .ne 5, 3)), (142, (.iconst 0, 1)), (143, (.ireturn, 1)), (144, (.aload_n 0, 1))]
theorem dh_537 : dchk cX12_readsClause dl_537 = true := by decide +kernel
theorem dX12_readsClause_108 : decode cX12_readsClause 108 = .ok (.bipush 98, 2) := dget dh_537 (k := 0) rfl
theorem dX12_readsClause_110 : decode cX12_readsClause 110 = .ok (.if_icmp .eq 12, 3) := dget dh_537 (k := 1) rfl
theorem dX12_readsClause_113 : decode cX12_readsClause 113 = .ok (.aload_n 0, 1) := dget dh_537 (k := 2) rfl
theorem dX12_readsClause_114 : decode cX12_readsClause 114 = .ok (.invokevirtual 326, 3) := dget dh_537 (k := 3) rfl
theorem dX12_readsClause_117 : decode cX12_readsClause 117 = .ok (.ifCond .ne 5, 3) := dget dh_537 (k := 4) rfl
theorem dX12_readsClause_120 : decode cX12_readsClause 120 = .ok (.iconst 0, 1) := dget dh_537 (k := 5) rfl
theorem dX12_readsClause_121 : decode cX12_readsClause 121 = .ok (.ireturn, 1) := dget dh_537 (k := 6) rfl
theorem dX12_readsClause_122 : decode cX12_readsClause 122 = .ok (.aload_n 0, 1) := dget dh_537 (k := 7) rfl
theorem dX12_readsClause_123 : decode cX12_readsClause 123 = .ok (.getfield 84, 3) := dget dh_537 (k := 8) rfl
theorem dX12_readsClause_126 : decode cX12_readsClause 126 = .ok (.aload_n 0, 1) := dget dh_537 (k := 9) rfl
theorem dX12_readsClause_127 : decode cX12_readsClause 127 = .ok (.getfield 341, 3) := dget dh_537 (k := 10) rfl
theorem dX12_readsClause_130 : decode cX12_readsClause 130 = .ok (.aload_n 0, 1) := dget dh_537 (k := 11) rfl
theorem dX12_readsClause_131 : decode cX12_readsClause 131 = .ok (.getfield 286, 3) := dget dh_537 (k := 12) rfl
theorem dX12_readsClause_134 : decode cX12_readsClause 134 = .ok (.iastore, 1) := dget dh_537 (k := 13) rfl
theorem dX12_readsClause_135 : decode cX12_readsClause 135 = .ok (.aload_n 0, 1) := dget dh_537 (k := 14) rfl
theorem dX12_readsClause_136 : decode cX12_readsClause 136 = .ok (.invokevirtual 344, 3) := dget dh_537 (k := 15) rfl
theorem dX12_readsClause_139 : decode cX12_readsClause 139 = .ok (.ifCond .ne 5, 3) := dget dh_537 (k := 16) rfl
theorem dX12_readsClause_142 : decode cX12_readsClause 142 = .ok (.iconst 0, 1) := dget dh_537 (k := 17) rfl
theorem dX12_readsClause_143 : decode cX12_readsClause 143 = .ok (.ireturn, 1) := dget dh_537 (k := 18) rfl
theorem dX12_readsClause_144 : decode cX12_readsClause 144 = .ok (.aload_n 0, 1) := dget dh_537 (k := 19) rfl
def dl_538 : List (Nat × (Instr × Nat)) := [(145, (.getfield 87, 3)), (148, (.aload_n 0, 1)), (149, (.getfield 341, 3)), (152, (.aload_n 0, 1)), (153, (.getfield 286, 3)), (156, (.iastore, 1)), (157, (.aload_n 0, 1)), (158, (.aload_n 0, 1)), (159, (.getfield 341, 3)), (162, (.iconst 1, 1)), (163, (.iadd, 1)), (164, (.putfield 341, 3)), (167, (.iconst 1, 1)), (168, (.ireturn, 1))]
theorem dh_538 : dchk cX12_readsClause dl_538 = true := by decide +kernel
theorem dX12_readsClause_145 : decode cX12_readsClause 145 = .ok (.getfield 87, 3) := dget dh_538 (k := 0) rfl
theorem dX12_readsClause_148 : decode cX12_readsClause 148 = .ok (.aload_n 0, 1) := dget dh_538 (k := 1) rfl
theorem dX12_readsClause_149 : decode cX12_readsClause 149 = .ok (.getfield 341, 3) := dget dh_538 (k := 2) rfl
theorem dX12_readsClause_152 : decode cX12_readsClause 152 = .ok (.aload_n 0, 1) := dget dh_538 (k := 3) rfl
theorem dX12_readsClause_153 : decode cX12_readsClause 153 = .ok (.getfield 286, 3) := dget dh_538 (k := 4) rfl
theorem dX12_readsClause_156 : decode cX12_readsClause 156 = .ok (.iastore, 1) := dget dh_538 (k := 5) rfl
theorem dX12_readsClause_157 : decode cX12_readsClause 157 = .ok (.aload_n 0, 1) := dget dh_538 (k := 6) rfl
theorem dX12_readsClause_158 : decode cX12_readsClause 158 = .ok (.aload_n 0, 1) := dget dh_538 (k := 7) rfl
theorem dX12_readsClause_159 : decode cX12_readsClause 159 = .ok (.getfield 341, 3) := dget dh_538 (k := 8) rfl
theorem dX12_readsClause_162 : decode cX12_readsClause 162 = .ok (.iconst 1, 1) := dget dh_538 (k := 9) rfl
theorem dX12_readsClause_163 : decode cX12_readsClause 163 = .ok (.iadd, 1) := dget dh_538 (k := 10) rfl
theorem dX12_readsClause_164 : decode cX12_readsClause 164 = .ok (.putfield 341, 3) := dget dh_538 (k := 11) rfl
theorem dX12_readsClause_167 : decode cX12_readsClause 167 = .ok (.iconst 1, 1) := dget dh_538 (k := 12) rfl
theorem dX12_readsClause_168 : decode cX12_readsClause 168 = .ok (.ireturn, 1) := dget dh_538 (k := 13) rfl
/-- the clauses said so far -/
def CIv (i : Nat → Int32) (r : Nat → Nat → Int32) : Prop := NP i ∧ ∀ q : Nat, (q : Int) < (i 29).toInt → segOK (r 21) (r 25 q).toInt.toNat (r 26 q).toInt.toNat ∧ ((r 23 q).toInt ≠ 98 → segOK (r 21) (r 24 q).toInt.toNat (r 25 q).toInt.toNat) ∧ (r 26 q).toInt.toNat ≤ (i 27).toInt.toNat
def RK (i : Nat → Int32) (r : Nat → Nat → Int32) (z : Int32) (I : Nat → Int32) (R : Nat → Nat → Int32) : Prop := (z = 1 ∧ CIv I R ∧ (i 23).toInt < (I 23).toInt) ∨ z = 0
theorem CIv_np {i : Nat → Int32} {r : Nat → Nat → Int32} (h : CIv i r) (hR : mRi i) : (i 27).toInt ≤ 200 := by
  have h1 : (i 27).toInt.toNat ≤ (i 23).toInt.toNat := h.1
  have h2 : 0 ≤ (i 23).toInt ∧ (i 23).toInt ≤ 200 := hR 23
  omega
theorem SS_b0 {i I : Nat → Int32} {R : Nat → Nat → Int32} (h : NP i) (e27 : I 27 = i 27) (e28 : (I 28).toInt = 0) (e23 : (I 23).toInt = (i 23).toInt + 1) : SS (i 27).toInt.toNat 0 0 I R := by
  unfold NP at h
  exact SS_begin (by rw [e27]) e28 (by omega)
theorem outB0 {w : Nat → Int32} {I : Nat → Int32} (e28 : (I 28).toInt = 0) : outB w (I 28).toInt.toNat := by rw [e28]; exact Or.inl rfl
theorem SS_seg {f s : Nat} {I : Nat → Int32} {R : Nat → Nat → Int32} (hs : SS f 1 s I R) (h0 : (I 28).toInt = 0) (hR : mRi I) : segOK (R 21) f (I 27).toInt.toNat ∧ NP I := by
  have hn := SS_n hs
  have h2 : 0 ≤ (I 23).toInt ∧ (I 23).toInt ≤ 200 := hR 23
  unfold SS at hs
  rw [h0] at hs
  refine ⟨?_, by unfold NP; omega⟩
  have hlt : f < (I 27).toInt.toNat := by
    obtain ⟨hfn, g, g0, gn, -⟩ := hs.1
    by_cases e : f = (I 27).toInt.toNat
    · rw [← e, g0] at gn; omega
    · omega
  exact PS_end hs.1 hlt (by omega)
theorem RK_of {i J : Nat → Int32} {r S : Nat → Nat → Int32} {c v2 v3 : Int32} (h : CIv i r) (h29 : 0 ≤ (i 29).toInt) (e29 : (J 29).toInt = (i 29).toInt + 1) (e34 : S 23 = upd (r 23) (i 29).toInt.toNat c) (e35 : S 24 = upd (r 24) (i 29).toInt.toNat (i 27)) (e36 : S 25 = upd (r 25) (i 29).toInt.toNat v2) (e37 : S 26 = upd (r 26) (i 29).toInt.toNat v3) (hl : low (i 27).toInt.toNat r S) (s1 : segOK (S 21) v2.toInt.toNat v3.toInt.toNat) (s2 : c.toInt ≠ 98 → segOK (S 21) (i 27).toInt.toNat v2.toInt.toNat) (hv : (i 27).toInt.toNat ≤ v2.toInt.toNat) (e27 : (J 27).toInt = v3.toInt) (hnp : NP J) : CIv J S := by
  refine ⟨hnp, fun q hq => ?_⟩
  have h12 := s1.1
  by_cases e : q = (i 29).toInt.toNat
  · rw [e34, e35, e36, e37, e, pk_us, pk_us, pk_us, pk_us, e27]
    exact ⟨s1, s2, Nat.le_refl _⟩
  · rw [e34, e35, e36, e37, pk_un e, pk_un e, pk_un e, pk_un e]
    obtain ⟨a1, a2, a3⟩ := h.2 q (by omega)
    have a4 := a1.1
    refine ⟨segOK_congr a1 (fun k hk => hl k (by omega)), fun h9 => segOK_congr (a2 h9) (fun k hk => hl k (by omega)), by rw [e27]; omega⟩
theorem lw0 {x a b y : Int} {n : Nat} (h : (if x = 0 then 0 else 201 - a).toNat < n + 1) (hx : x ≠ 0) (ha : a ≤ 200) (hy : y = 0) : (if y = 0 then 0 else 201 - b).toNat < n := by
  rw [if_neg hx] at h; rw [if_pos hy]; omega
theorem lw1 {x a b y : Int} {n : Nat} (h : (if x = 0 then 0 else 201 - a).toNat < n + 1) (hx : x ≠ 0) (hab : a < b) (hb : b ≤ 200) (hy : y ≠ 0) : (if y = 0 then 0 else 201 - b).toNat < n := by
  rw [if_neg hx] at h; rw [if_neg hy]; omega
def LG (x : Int32) (I : Nat → Int32) (R : Nat → Nat → Int32) : Prop := x.toInt ≠ 0 → CIv I R
def cpU (f g : Nat → Int32) (x : Int32) : Prop := ∀ t : Nat, (t : Int) < x.toInt → f t = g t
theorem cpU_0 {f g : Nat → Int32} : cpU f g 0 := fun t h => absurd h (by have : (0 : Int32).toInt = 0 := rfl; omega)
theorem cpU_s {f f2 g : Nat → Int32} {x y v : Int32} (h : cpU f g x) (e : f2 = upd f x.toInt.toNat v) (hv : v = g x.toInt.toNat) (hy : y.toInt = x.toInt + 1) (hx : 0 ≤ x.toInt) : cpU f2 g y := by
  intro t ht
  rw [e]
  by_cases e2 : t = x.toInt.toNat
  · rw [e2, pk_us]; exact hv
  · rw [pk_un e2]; exact h t (by omega)
theorem mE_law {i I : Nat → Int32} {r S R : Nat → Nat → Int32} (h : mE i r) (e0 : I 0 = i 0) (e51 : I 51 = i 51) (e79 : I 79 = i 79) (e5 : R 4 = r 4) (e11 : R 10 = r 10) (e15 : R 14 = r 14) (e52 : R 40 = r 40) (e53 : R 41 = r 41) (e81 : R 63 = r 63) (e82 : R 64 = r 64)
    {J : Nat → Int32} {x y : Int32} (hc : CIv J S) (hx : (J 27).toInt ≤ x.toInt) (hy : (J 29).toInt ≤ y.toInt) (e31 : (I 31).toInt = (J 29).toInt) (c38 : cpU (R 27) (S 21) x) (c39 : cpU (R 28) (S 23) y) (c40 : cpU (R 29) (S 24) y) (c41 : cpU (R 30) (S 25) y) (c42 : cpU (R 31) (S 26) y) : mE I R := by
  obtain ⟨a1, a2, a3, a4, -⟩ := h
  refine ⟨by rw [e0, e5]; exact a1, by rw [e11, e15]; exact a2, by rw [e51, e52, e53, e11, e0]; exact a3, by rw [e79, e81, e82, e11, e0]; exact a4, fun q hq => ?_⟩
  rw [e31] at hq
  obtain ⟨b1, b2, b3⟩ := hc.2 q hq
  rw [c39 q (by omega), c40 q (by omega), c41 q (by omega), c42 q (by omega)]
  have b4 := b1.1
  refine ⟨segOK_congr b1 (fun k hk => c38 k ?_), fun h9 => segOK_congr (b2 h9) (fun k hk => c38 k ?_)⟩
  · have hk2 : k < (S 26 q).toInt.toNat := hk
    omega
  · have hk2 : k < (S 25 q).toInt.toNat := hk
    omega
set_option maxHeartbeats 4000000 in
set_option maxRecDepth 100000 in
theorem c_X12_readsClause (l : Launch) (D : va_G) (cy : Nat → ClassId) (a : Nat → Nat) (i : Nat → Int32) (r : Nat → Nat → Int32) (rl : Nat → Int64) (sz : Nat) (hRi : mRi i) (hRr : mRr r) (hC : CIv i r) : Met l yX12_readsClause (Cond.code yX12_readsClause cX12_readsClause 2 (some .boolean) :: gT) { frames := 8, cells := 0, slots := 0, locals := 169 } (va_Pc [.ref (a 0)] (rQ D cy (mW cy a i r rl) sz)) (va_Qi (fun (z : Int32) (u : (Nat → Int32) × (Nat → Nat → Int32)) => mRi u.1 ∧ mRr u.2 ∧ mEi [23, 25, 26, 27, 28, 29, 30] i u.1 ∧ mEr [21, 22, 23, 24, 25, 26] r u.2 ∧ (RK i r z u.1 u.2)) (fun (u : (Nat → Int32) × (Nat → Nat → Int32)) t => va_P D vwCl (mW cy a u.1 u.2 rl) t.heap ∧ va_K D vwCl (vT cy) t ∧ va_D (va_A (mW cy a i r rl) sz) (mW cy a u.1 u.2 rl)) (va_A (mW cy a i r rl) sz)) 0 0 (va_A (mW cy a i r rl) sz) := by
  refine Met.ofQ (cc := cX12_readsClause) (maxL := 2) (ret := (some .boolean)) (by decide) rfl ?_
  intro p e s m args below meth c s₁ B hml hv Q hQ
  obtain ⟨rfl, hsz, hP, hK, hD0⟩ := hv
  have hx := B.exec
  have hb := B.bytes
  have hr := B.returns
  have hlocks := B.notSynchronized
  have hT : ∀ w ∈ gT, w.before _ s = true := fun w h => atoms_spec (ws := (Cond.code yX12_readsClause cX12_readsClause 2 (some .boolean) :: gT)) B.pre w (List.mem_cons_of_mem _ h)
  have hown : s.vm.findClass RX12 = some m.cls := findClass_of_methodNamed B.named
  subst hsz
  have hD := hD0.self (sz := s.heap.size)
  generalize hAe : va_A (mW cy a i r rl) s.heap.size = A at hD hQ
  have hA : ∀ q : Nat, s.heap.size ≤ q → A q := fun q h => by rw [← hAe]; exact Or.inr h
  have hS : va_S A s.heap s.heap [] := va_S.rf
  have hl := lv_entry ([.ref (a 0)]) (n := 2) (Nat.le_of_ble_eq_true rfl)
  rw [lg_entry_eq]
  generalize (lg_sl ([.ref (a 0)]) ++ List.replicate (2 - (lg_sl ([.ref (a 0)])).length) Slot.unset).toArray = ls at hl ⊢
  have hl : lv_has ls 2 [(0, .ref (a 0))] := hl
  have hEi : mEi [23, 25, 26, 27, 28, 29, 30] i i := Ei_rf
  have hEr : mEr [21, 22, 23, 24, 25, 26] r r := Er_rf
  have hg23i : 0 ≤ (i 23).toInt ∧ (i 23).toInt ≤ 200 := hRi 23
  have hg24i : 0 ≤ (i 24).toInt ∧ (i 24).toInt ≤ 200 := hRi 24
  have hg27i : 0 ≤ (i 27).toInt ∧ (i 27).toInt ≤ 220 := hRi 27
  have hg29i : 0 ≤ (i 29).toInt ∧ (i 29).toInt ≤ 14 := hRi 29
  have hb27i := CIv_np hC hRi
  refine lv_aload_n hx hb dX12_readsClause_0 rfl (lv_at hl 0 rfl) ?_
  refine vp_callSi (W.runV (As := []) (rest := []) ⟨hx, hb, hml, hown, hT⟩ (c_X12_here l D cy a i r rl hRi hRr) (cwV 0 hT (gV t_254 t_255 t_256 t_257 t_6) rfl rfl rfl (by decide +kernel) ⟨Nat.le_of_ble_eq_true rfl, Nat.le_of_ble_eq_true rfl⟩) (rP_v hP hK (va_recv hK hP (ci := 12) (q0 := 0) rfl rfl)) rfl rfl hl.1 rfl (lv_room (Nat.le_of_ble_eq_true rfl)) dX12_readsClause_1 ⟨Nat.le_of_ble_eq_true rfl, Nat.le_of_ble_eq_true rfl⟩) (fun r_1 hr_1 => ?_)
  have hqr_1 : -1 ≤ r_1.toInt ∧ r_1.toInt ≤ 255 := by rw [hr_1]; exact mHere_rg _ _
  have hwr_1 : r_1.toInt = (mHere i r).toInt := congrArg Int32.toInt hr_1
  refine lv_istore_n (lv' := [(1, .int r_1), (0, .ref (a 0))]) hx hb dX12_readsClause_4 rfl hl (by decide) rfl (fun ls hl => ?_)
  refine lv_iload_n hx hb dX12_readsClause_5 rfl (lv_at hl 0 rfl) ?_
  refine lv_bipush (v := 102) hx hb dX12_readsClause_6 (by decide) ?_
  refine lv_icmp_eq (tgt := 45) hx hb dX12_readsClause_8 (by decide) (fun c_2 => ?_) (fun c_2 => ?_)
  · have c_2 : r_1.toInt = 102 := b_eq c_2
    refine lv_aload_n hx hb dX12_readsClause_45 rfl (lv_at hl 1 rfl) ?_
    have hlt9 := mHere_lt (i := i) (r := r) (by omega)
    refine va_get (D := D) (ci := 12) (v := .int (i 29)) (C := RX12) (T := TX12) (N := 91) hx hb hT iX12 hown hK hP 0 rfl rfl 29 (by decide) (hT _ t_904) (fun _ h9 => h9) rfl dX12_readsClause_46 ?_
    have hg_3 : 0 ≤ (i 29).toInt ∧ (i 29).toInt ≤ 14 := hRi 29
    refine lv_bipush (v := 14) hx hb dX12_readsClause_49 (by decide) ?_
    refine lv_icmp_ne (tgt := 64) hx hb dX12_readsClause_51 (by decide) (fun c_4 => ?_) (fun c_4 => ?_)
    · have c_4 : (i 29).toInt ≠ 14 := b_ne c_4
      refine lv_aload_n hx hb dX12_readsClause_64 rfl (lv_at hl 1 rfl) ?_
      have hb29 : (i 29).toInt ≤ 13 := by omega
      refine va_get (D := D) (ci := 12) (v := .ref (a 23)) (C := RX12) (T := TX12) (N := 91) hx hb hT iX12 hown hK hP 0 rfl rfl 34 (by decide) (hT _ t_790) (fun _ h9 => h9) rfl dX12_readsClause_65 ?_
      refine lv_aload_n hx hb dX12_readsClause_68 rfl (lv_at hl 1 rfl) ?_
      refine va_get (D := D) (ci := 12) (v := .int (i 29)) (C := RX12) (T := TX12) (N := 91) hx hb hT iX12 hown hK hP 0 rfl rfl 29 (by decide) (hT _ t_904) (fun _ h9 => h9) rfl dX12_readsClause_69 ?_
      refine lv_iload_n hx hb dX12_readsClause_72 rfl (lv_at hl 0 rfl) ?_
      refine va_iast hx hb hK hP hD hS 23 0 rfl rfl (vp_inI (by omega) (by omega)) dX12_readsClause_73 (fun H locs hP hD hS => ?_)
      rw [mS23] at hP hD
      have hRr : mRr (va_up r 23 (upd (r 23) ((i 29).toNatClampNeg) r_1)) := Rr_upd hRr 23 ((i 29).toNatClampNeg) r_1 (b_rg _)
      have hEr : mEr [21, 22, 23, 24, 25, 26] _ (va_up r 23 (upd (r 23) ((i 29).toNatClampNeg) r_1)) := Er_up hEr 23 _ (by decide)
      refine lv_aload_n hx hb dX12_readsClause_74 rfl (lv_at hl 1 rfl) ?_
      refine lv_aload_n hx hb dX12_readsClause_75 rfl (lv_at hl 1 rfl) ?_
      refine va_get (D := D) (ci := 12) (v := .int (i 23)) (C := RX12) (T := TX12) (N := 91) hx hb hT iX12 hown hK hP 0 rfl rfl 23 (by decide) (hT _ t_252) (fun _ h9 => h9) rfl dX12_readsClause_76 ?_
      have hg_5 : 0 ≤ (i 23).toInt ∧ (i 23).toInt ≤ 200 := hRi 23
      refine lv_iconst (v := 1) hx hb dX12_readsClause_79 (by decide) ?_
      refine lv_iadd hx hb dX12_readsClause_80 ?_
      refine lv_topi (fun v_6 ev_6 => ?_)
      have hv_6 : v_6.toInt = (i 23).toInt + 1 := by rw [ev_6]; have := b_rg (i 23); exact i_add (a := (i 23).toInt) (b := 1) rfl rfl (by omega) (by omega)
      refine va_put (D := D) (ci := 12) (v := .int v_6) (ty := .int) (C := RX12) (T := TX12) (N := 91) hx hb hT iX12 tyX12 tyX12_ok nmX12 hown hK hP hD hS 0 rfl rfl 23 (by decide) (hT _ t_252) (fun _ h9 => h9) rfl (by decide +kernel) rfl rfl (Nat.le_of_ble_eq_true rfl) dX12_readsClause_81 (fun H locs hP hD hS => ?_)
      rw [mP23] at hP hD
      have hRi := Ri_upd hRi 23 v_6 ⟨by show (0 : Int) ≤ v_6.toInt; omega, by show v_6.toInt ≤ (200 : Int); omega⟩
      have hEi := Ei_upd hEi 23 v_6 (by decide)
      refine lv_aload_n hx hb dX12_readsClause_84 rfl (lv_at hl 1 rfl) ?_
      refine va_get (D := D) (ci := 12) (v := .ref (a 24)) (C := RX12) (T := TX12) (N := 91) hx hb hT iX12 hown hK hP 0 rfl rfl 35 (by decide) (hT _ t_791) (fun _ h9 => h9) rfl dX12_readsClause_85 ?_
      refine lv_aload_n hx hb dX12_readsClause_88 rfl (lv_at hl 1 rfl) ?_
      refine va_get (D := D) (ci := 12) (v := .int (i 29)) (C := RX12) (T := TX12) (N := 91) hx hb hT iX12 hown hK hP 0 rfl rfl 29 (by decide) (hT _ t_904) (fun _ h9 => h9) rfl dX12_readsClause_89 ?_
      refine lv_aload_n hx hb dX12_readsClause_92 rfl (lv_at hl 1 rfl) ?_
      refine va_get (D := D) (ci := 12) (v := .int (i 27)) (C := RX12) (T := TX12) (N := 91) hx hb hT iX12 hown hK hP 0 rfl rfl 27 (by decide) (hT _ t_847) (fun _ h9 => h9) rfl dX12_readsClause_93 ?_
      have hg_7 : 0 ≤ (i 27).toInt ∧ (i 27).toInt ≤ 220 := hRi 27
      refine va_iast hx hb hK hP hD hS 24 0 rfl rfl (vp_inI (by omega) (by omega)) dX12_readsClause_96 (fun H locs hP hD hS => ?_)
      rw [mS24] at hP hD
      have hRr : mRr (va_up (va_up r 23 (upd (r 23) ((i 29).toNatClampNeg) r_1)) 24 (upd (r 24) ((i 29).toNatClampNeg) (i 27))) := Rr_upd hRr 24 ((i 29).toNatClampNeg) (i 27) ⟨by show (0 : Int) ≤ (i 27).toInt; omega, by show (i 27).toInt ≤ (220 : Int); omega⟩
      have hEr : mEr [21, 22, 23, 24, 25, 26] _ (va_up (va_up r 23 (upd (r 23) ((i 29).toNatClampNeg) r_1)) 24 (upd (r 24) ((i 29).toNatClampNeg) (i 27))) := Er_up hEr 24 _ (by decide)
      refine lv_aload_n hx hb dX12_readsClause_97 rfl (lv_at hl 1 rfl) ?_
      refine lv_iconst (v := 0) hx hb dX12_readsClause_98 (by decide) ?_
      refine va_put (D := D) (ci := 12) (v := .int 0) (ty := .int) (C := RX12) (T := TX12) (N := 91) hx hb hT iX12 tyX12 tyX12_ok nmX12 hown hK hP hD hS 0 rfl rfl 26 (by decide) (hT _ t_848) (fun _ h9 => h9) rfl (by decide +kernel) rfl rfl (Nat.le_of_ble_eq_true rfl) dX12_readsClause_99 (fun H locs hP hD hS => ?_)
      rw [mP26] at hP hD
      have hRi := Ri_upd hRi 26 0 (b_rg _)
      have hEi := Ei_upd hEi 26 0 (by decide)
      refine lv_aload_n hx hb dX12_readsClause_102 rfl (lv_at hl 1 rfl) ?_
      refine lv_iconst (v := 0) hx hb dX12_readsClause_103 (by decide) ?_
      refine va_put (D := D) (ci := 12) (v := .int 0) (ty := .int) (C := RX12) (T := TX12) (N := 91) hx hb hT iX12 tyX12 tyX12_ok nmX12 hown hK hP hD hS 0 rfl rfl 28 (by decide) (hT _ t_849) (fun _ h9 => h9) rfl (by decide +kernel) rfl rfl (Nat.le_of_ble_eq_true rfl) dX12_readsClause_104 (fun H locs hP hD hS => ?_)
      rw [mP28] at hP hD
      have hRi := Ri_upd hRi 28 0 ⟨by decide, by decide⟩
      have hEi := Ei_upd hEi 28 0 (by decide)
      refine lv_iload_n hx hb dX12_readsClause_107 rfl (lv_at hl 0 rfl) ?_
      refine lv_bipush (v := 98) hx hb dX12_readsClause_108 (by decide) ?_
      refine lv_icmp_eq (tgt := 122) hx hb dX12_readsClause_110 (by decide) (fun c_8 => by have c_8 : r_1.toInt = 98 := b_eq c_8; omega) (fun c_8 => ?_)
      have c_8 : r_1.toInt ≠ 98 := b_ne c_8
      refine lv_aload_n hx hb dX12_readsClause_113 rfl (lv_at hl 1 rfl) ?_
      have hZ : SS (i 27).toInt.toNat 0 0 (upd (upd (upd i 23 v_6) 26 0) 28 0) (va_up (va_up r 23 (upd (r 23) ((i 29).toNatClampNeg) r_1)) 24 (upd (r 24) ((i 29).toNatClampNeg) (i 27))) := SS_b0 hC.1 rfl rfl (by show v_6.toInt = _; omega)
      have hO : outB ((va_up (va_up r 23 (upd (r 23) ((i 29).toNatClampNeg) r_1)) 24 (upd (r 24) ((i 29).toNatClampNeg) (i 27))) 22) ((upd (upd (upd i 23 v_6) 26 0) 28 0) 28).toInt.toNat := outB0 rfl
      have hF_9 := rF hD hS hA
      refine va_calli (va_runV (As := []) (rest := []) ⟨hx, hb, hml, hown, hT⟩ (c_X12_readsSum l D cy a (upd (upd (upd i 23 v_6) 26 0) 28 0) (va_up (va_up r 23 (upd (r 23) ((i 29).toNatClampNeg) r_1)) 24 (upd (r 24) ((i 29).toNatClampNeg) (i 27))) rl _ hRi hRr ((i 27).toInt.toNat) 0 0 hZ hO) (cwV 0 hT (gV t_884 t_885 t_886 t_887 t_6) rfl rfl rfl (by decide +kernel) ⟨Nat.le_of_ble_eq_true rfl, Nat.le_of_ble_eq_true rfl⟩) (rQ_v hP hK hD (va_recv hK hP (ci := 12) (q0 := 0) rfl rfl)) rfl rfl hl.1 rfl (lv_room (Nat.le_of_ble_eq_true rfl)) dX12_readsClause_114 ⟨Nat.le_of_ble_eq_true rfl, Nat.le_of_ble_eq_true rfl⟩) hS (fun q _ h => hF_9 q h) hF_9 (fun r_10 u_11 t H1 locs ht hvm hr_10 hB hz1 hk1 hS => ?_)
      obtain ⟨i11, r11⟩ := u_11
      obtain ⟨hP, hK1, hD1⟩ := hB
      rw [ht] at hP
      have hD := hD1.weaken (fun k q _ h => hF_9 q.1 h)
      have hP : va_P D vwCl (mW cy a i11 r11 rl) H1 := hP
      have hD : va_D A (mW cy a i11 r11 rl) := hD
      obtain ⟨hRi, hRr, hE1, hE2, hr_10⟩ := hr_10
      have hRi : mRi i11 := hRi
      have hRr : mRr r11 := hRr
      have hEi : mEi [23, 25, 26, 27, 28, 29, 30] _ i11 := Ei_tr hEi hE1 (by decide)
      have hEr : mEr [21, 22, 23, 24, 25, 26] _ r11 := Er_tr hEr hE2 (by decide)
      rcases hr_10 with ⟨rfl, hrs10⟩ | rfl
      · have hrs10 : SS (i 27).toInt.toNat (0 + 1) 0 i11 r11 ∧ ((upd (upd (upd i 23 v_6) 26 0) 28 0) 23).toInt < (i11 23).toInt ∧ (i11 28).toInt = ((upd (upd (upd i 23 v_6) 26 0) 28 0) 28).toInt ∧ (∀ j, j < ((upd (upd (upd i 23 v_6) 26 0) 28 0) 28).toInt.toNat → r11 22 j = (va_up (va_up r 23 (upd (r 23) ((i 29).toNatClampNeg) r_1)) 24 (upd (r 24) ((i 29).toNatClampNeg) (i 27))) 22 j) ∧ low (i 27).toInt.toNat (va_up (va_up r 23 (upd (r 23) ((i 29).toNatClampNeg) r_1)) 24 (upd (r 24) ((i 29).toNatClampNeg) (i 27))) r11 := hrs10
        refine lv_if_ne (tgt := 122) hx hb dX12_readsClause_117 (by decide) (fun c_12 => ?_) (fun c_12 => absurd c_12 (by decide))
        refine lv_aload_n hx hb dX12_readsClause_122 rfl (lv_at hl 1 rfl) ?_
        have hse := SS_seg hrs10.1 (by rw [hrs10.2.2.1]; rfl) hRi
        have hNP0 : NP i11 := hse.2
        have e29a : i11 29 = i 29 := hE1 29 (by decide)
        have hle0 := (SS_n hrs10.1).1
        have hlow0 : low (i 27).toInt.toNat r r11 := low_tr (low_eq rfl) hrs10.2.2.2.2
        have hl23 : (i 23).toInt < (i11 23).toInt := by have h9 := hrs10.2.1; have h8 : ((upd (upd (upd i 23 v_6) 26 0) 28 0) 23).toInt = v_6.toInt := rfl; omega
        have hq23 : r11 23 = (va_up (va_up r 23 (upd (r 23) ((i 29).toNatClampNeg) r_1)) 24 (upd (r 24) ((i 29).toNatClampNeg) (i 27))) 23 := hE2 23 (by decide)
        have hq24 : r11 24 = (va_up (va_up r 23 (upd (r 23) ((i 29).toNatClampNeg) r_1)) 24 (upd (r 24) ((i 29).toNatClampNeg) (i 27))) 24 := hE2 24 (by decide)
        have hq25 : r11 25 = (va_up (va_up r 23 (upd (r 23) ((i 29).toNatClampNeg) r_1)) 24 (upd (r 24) ((i 29).toNatClampNeg) (i 27))) 25 := hE2 25 (by decide)
        have hq26 : r11 26 = (va_up (va_up r 23 (upd (r 23) ((i 29).toNatClampNeg) r_1)) 24 (upd (r 24) ((i 29).toNatClampNeg) (i 27))) 26 := hE2 26 (by decide)
        have hg29b : 0 ≤ (i11 29).toInt ∧ (i11 29).toInt ≤ 13 := by rw [e29a]; omega
        have hg27b : 0 ≤ (i11 27).toInt ∧ (i11 27).toInt ≤ 220 := hRi 27
        refine va_get (D := D) (ci := 12) (v := .ref (a 25)) (C := RX12) (T := TX12) (N := 91) hx hb hT iX12 hown hK hP 0 rfl rfl 36 (by decide) (hT _ t_792) (fun _ h9 => h9) rfl dX12_readsClause_123 ?_
        refine lv_aload_n hx hb dX12_readsClause_126 rfl (lv_at hl 1 rfl) ?_
        refine va_get (D := D) (ci := 12) (v := .int (i11 29)) (C := RX12) (T := TX12) (N := 91) hx hb hT iX12 hown hK hP 0 rfl rfl 29 (by decide) (hT _ t_904) (fun _ h9 => h9) rfl dX12_readsClause_127 ?_
        have hg_13 : 0 ≤ (i11 29).toInt ∧ (i11 29).toInt ≤ 14 := hRi 29
        refine lv_aload_n hx hb dX12_readsClause_130 rfl (lv_at hl 1 rfl) ?_
        refine va_get (D := D) (ci := 12) (v := .int (i11 27)) (C := RX12) (T := TX12) (N := 91) hx hb hT iX12 hown hK hP 0 rfl rfl 27 (by decide) (hT _ t_847) (fun _ h9 => h9) rfl dX12_readsClause_131 ?_
        have hg_14 : 0 ≤ (i11 27).toInt ∧ (i11 27).toInt ≤ 220 := hRi 27
        refine va_iast hx hb hK hP hD hS 25 0 rfl rfl (vp_inI (by omega) (by omega)) dX12_readsClause_134 (fun H locs hP hD hS => ?_)
        rw [mS25] at hP hD
        have hRr : mRr (va_up r11 25 (upd (r11 25) ((i11 29).toNatClampNeg) (i11 27))) := Rr_upd hRr 25 ((i11 29).toNatClampNeg) (i11 27) ⟨by show (0 : Int) ≤ (i11 27).toInt; omega, by show (i11 27).toInt ≤ (220 : Int); omega⟩
        have hEr : mEr [21, 22, 23, 24, 25, 26] _ (va_up r11 25 (upd (r11 25) ((i11 29).toNatClampNeg) (i11 27))) := Er_up hEr 25 _ (by decide)
        refine lv_aload_n hx hb dX12_readsClause_135 rfl (lv_at hl 1 rfl) ?_
        have hNP : NP i11 := hNP0
        have hF_15 := rF hD hS hA
        refine va_calli (va_runV (As := []) (rest := []) ⟨hx, hb, hml, hown, hT⟩ (c_X12_readsCondition l D cy a i11 (va_up r11 25 (upd (r11 25) ((i11 29).toNatClampNeg) (i11 27))) rl _ hRi hRr hNP) (cwV 0 hT (gV t_905 t_906 t_907 t_908 t_6) rfl rfl rfl (by decide +kernel) ⟨Nat.le_of_ble_eq_true rfl, Nat.le_of_ble_eq_true rfl⟩) (rQ_v hP hK hD (va_recv hK hP (ci := 12) (q0 := 0) rfl rfl)) rfl rfl hl.1 rfl (lv_room (Nat.le_of_ble_eq_true rfl)) dX12_readsClause_136 ⟨Nat.le_of_ble_eq_true rfl, Nat.le_of_ble_eq_true rfl⟩) hS (fun q _ h => hF_15 q h) hF_15 (fun r_16 u_17 t H1 locs ht hvm hr_16 hB hz1 hk1 hS => ?_)
        obtain ⟨i17, r17⟩ := u_17
        obtain ⟨hP, hK1, hD1⟩ := hB
        rw [ht] at hP
        have hD := hD1.weaken (fun k q _ h => hF_15 q.1 h)
        have hP : va_P D vwCl (mW cy a i17 r17 rl) H1 := hP
        have hD : va_D A (mW cy a i17 r17 rl) := hD
        obtain ⟨hRi, hRr, hE1, hE2, hr_16⟩ := hr_16
        have hRi : mRi i17 := hRi
        have hRr : mRr r17 := hRr
        have hEi : mEi [23, 25, 26, 27, 28, 29, 30] _ i17 := Ei_tr hEi hE1 (by decide)
        have hEr : mEr [21, 22, 23, 24, 25, 26] _ r17 := Er_tr hEr hE2 (by decide)
        rcases hr_16 with ⟨rfl, hrd16⟩ | rfl
        · have hrd16 : segOK (r17 21) (i11 27).toInt.toNat (i17 27).toInt.toNat ∧ (i11 23).toInt < (i17 23).toInt ∧ NP i17 ∧ low (i11 27).toInt.toNat (va_up r11 25 (upd (r11 25) ((i11 29).toNatClampNeg) (i11 27))) r17 := hrd16
          refine lv_if_ne (tgt := 144) hx hb dX12_readsClause_139 (by decide) (fun c_18 => ?_) (fun c_18 => absurd c_18 (by decide))
          refine lv_aload_n hx hb dX12_readsClause_144 rfl (lv_at hl 1 rfl) ?_
          have e29b : i17 29 = i11 29 := hE1 29 (by decide)
          have hg29c : 0 ≤ (i17 29).toInt ∧ (i17 29).toInt ≤ 13 := by rw [e29b]; show 0 ≤ (i11 29).toInt ∧ (i11 29).toInt ≤ 13; omega
          have hz23 : r17 23 = (va_up r11 25 (upd (r11 25) ((i11 29).toNatClampNeg) (i11 27))) 23 := hE2 23 (by decide)
          have hz24 : r17 24 = (va_up r11 25 (upd (r11 25) ((i11 29).toNatClampNeg) (i11 27))) 24 := hE2 24 (by decide)
          have hz25 : r17 25 = (va_up r11 25 (upd (r11 25) ((i11 29).toNatClampNeg) (i11 27))) 25 := hE2 25 (by decide)
          have hz26 : r17 26 = (va_up r11 25 (upd (r11 25) ((i11 29).toNatClampNeg) (i11 27))) 26 := hE2 26 (by decide)
          refine va_get (D := D) (ci := 12) (v := .ref (a 26)) (C := RX12) (T := TX12) (N := 91) hx hb hT iX12 hown hK hP 0 rfl rfl 37 (by decide) (hT _ t_793) (fun _ h9 => h9) rfl dX12_readsClause_145 ?_
          refine lv_aload_n hx hb dX12_readsClause_148 rfl (lv_at hl 1 rfl) ?_
          refine va_get (D := D) (ci := 12) (v := .int (i17 29)) (C := RX12) (T := TX12) (N := 91) hx hb hT iX12 hown hK hP 0 rfl rfl 29 (by decide) (hT _ t_904) (fun _ h9 => h9) rfl dX12_readsClause_149 ?_
          have hg_19 : 0 ≤ (i17 29).toInt ∧ (i17 29).toInt ≤ 14 := hRi 29
          refine lv_aload_n hx hb dX12_readsClause_152 rfl (lv_at hl 1 rfl) ?_
          refine va_get (D := D) (ci := 12) (v := .int (i17 27)) (C := RX12) (T := TX12) (N := 91) hx hb hT iX12 hown hK hP 0 rfl rfl 27 (by decide) (hT _ t_847) (fun _ h9 => h9) rfl dX12_readsClause_153 ?_
          have hg_20 : 0 ≤ (i17 27).toInt ∧ (i17 27).toInt ≤ 220 := hRi 27
          refine va_iast hx hb hK hP hD hS 26 0 rfl rfl (vp_inI (by omega) (by omega)) dX12_readsClause_156 (fun H locs hP hD hS => ?_)
          rw [mS26] at hP hD
          have hRr : mRr (va_up r17 26 (upd (r17 26) ((i17 29).toNatClampNeg) (i17 27))) := Rr_upd hRr 26 ((i17 29).toNatClampNeg) (i17 27) ⟨by show (0 : Int) ≤ (i17 27).toInt; omega, by show (i17 27).toInt ≤ (220 : Int); omega⟩
          have hEr : mEr [21, 22, 23, 24, 25, 26] _ (va_up r17 26 (upd (r17 26) ((i17 29).toNatClampNeg) (i17 27))) := Er_up hEr 26 _ (by decide)
          refine lv_aload_n hx hb dX12_readsClause_157 rfl (lv_at hl 1 rfl) ?_
          refine lv_aload_n hx hb dX12_readsClause_158 rfl (lv_at hl 1 rfl) ?_
          refine va_get (D := D) (ci := 12) (v := .int (i17 29)) (C := RX12) (T := TX12) (N := 91) hx hb hT iX12 hown hK hP 0 rfl rfl 29 (by decide) (hT _ t_904) (fun _ h9 => h9) rfl dX12_readsClause_159 ?_
          refine lv_iconst (v := 1) hx hb dX12_readsClause_162 (by decide) ?_
          refine lv_iadd hx hb dX12_readsClause_163 ?_
          refine lv_topi (fun v_21 ev_21 => ?_)
          have hv_21 : v_21.toInt = (i17 29).toInt + 1 := by rw [ev_21]; have := b_rg (i17 29); exact i_add (a := (i17 29).toInt) (b := 1) rfl rfl (by omega) (by omega)
          refine va_put (D := D) (ci := 12) (v := .int v_21) (ty := .int) (C := RX12) (T := TX12) (N := 91) hx hb hT iX12 tyX12 tyX12_ok nmX12 hown hK hP hD hS 0 rfl rfl 29 (by decide) (hT _ t_904) (fun _ h9 => h9) rfl (by decide +kernel) rfl rfl (Nat.le_of_ble_eq_true rfl) dX12_readsClause_164 (fun H locs hP hD hS => ?_)
          rw [mP29] at hP hD
          have hRi := Ri_upd hRi 29 v_21 ⟨by show (0 : Int) ≤ v_21.toInt; omega, by show v_21.toInt ≤ (14 : Int); omega⟩
          have hEi := Ei_upd hEi 29 v_21 (by decide)
          refine lv_iconst (v := 1) hx hb dX12_readsClause_167 (by decide) ?_
          subst hQ
          have hi29 : (i17 29).toInt.toNat = (i 29).toInt.toNat := by rw [e29b]; show (i11 29).toInt.toNat = _; rw [e29a]
          have f23 : (va_up r17 26 (upd (r17 26) ((i17 29).toNatClampNeg) (i17 27))) 23 = upd (r 23) (i 29).toInt.toNat r_1 := by show r17 23 = _; rw [hz23]; show r11 23 = _; rw [hq23]; rfl
          have f24 : (va_up r17 26 (upd (r17 26) ((i17 29).toNatClampNeg) (i17 27))) 24 = upd (r 24) (i 29).toInt.toNat (i 27) := by show r17 24 = _; rw [hz24]; show r11 24 = _; rw [hq24]; rfl
          have f25 : (va_up r17 26 (upd (r17 26) ((i17 29).toNatClampNeg) (i17 27))) 25 = upd (r 25) (i 29).toInt.toNat (i11 27) := by show r17 25 = _; rw [hz25]; show upd (r11 25) (i11 29).toInt.toNat _ = _; rw [hq25, e29a]; rfl
          have f26 : (va_up r17 26 (upd (r17 26) ((i17 29).toNatClampNeg) (i17 27))) 26 = upd (r 26) (i 29).toInt.toNat (i17 27) := by show upd (r17 26) (i17 29).toInt.toNat _ = _; rw [hi29, hz26]; show upd (r11 26) _ _ = _; rw [hq26]; rfl
          have hlow9 : low (i 27).toInt.toNat r (va_up r17 26 (upd (r17 26) ((i17 29).toNatClampNeg) (i17 27))) := low_tr hlow0 (fun k9 hk9 => hrd16.2.2.2 k9 (Nat.lt_of_lt_of_le hk9 hle0))
          have hs2 : r_1.toInt ≠ 98 → segOK ((va_up r17 26 (upd (r17 26) ((i17 29).toNatClampNeg) (i17 27))) 21) (i 27).toInt.toNat (i11 27).toInt.toNat := fun _ => segOK_congr hse.1 (fun k9 hk9 => hrd16.2.2.2 k9 hk9)
          have hci : CIv (upd i17 29 v_21) (va_up r17 26 (upd (r17 26) ((i17 29).toNatClampNeg) (i17 27))) := RK_of (c := r_1) (v2 := i11 27) (v3 := i17 27) hC (by omega) (by show v_21.toInt = _; have h9 : (i17 29).toInt = (i 29).toInt := (by rw [e29b]; show (i11 29).toInt = _; rw [e29a]); omega) f23 f24 f25 f26 hlow9 hrd16.1 hs2 hle0 rfl hrd16.2.2.1
          have hj : RK i r 1 (upd i17 29 v_21) (va_up r17 26 (upd (r17 26) ((i17 29).toNatClampNeg) (i17 27))) := Or.inl ⟨rfl, hci, by have h9 := hrd16.2.1; exact Int.lt_trans hl23 h9⟩
          exact W.zret hx hb hr rfl (fun t ht hW => ⟨⟨_, (upd i17 29 v_21, va_up r17 26 (upd (r17 26) ((i17 29).toNatClampNeg) (i17 27))), rfl, ⟨hRi, hRr, hEi, hEr, hj⟩, by rw [ht]; exact hP, va_K.moved hW.alike hK, hD⟩, hS.F ht⟩) hS.2.2 dX12_readsClause_168
        · skip
          refine lv_if_ne (tgt := 144) hx hb dX12_readsClause_139 (by decide) (fun c_22 => absurd (by decide) c_22) (fun c_22 => ?_)
          refine lv_iconst (v := 0) hx hb dX12_readsClause_142 (by decide) ?_
          subst hQ
          exact W.zret hx hb hr rfl (fun t ht hW => ⟨⟨_, (i17, r17), rfl, ⟨hRi, hRr, hEi, hEr, (Or.inr rfl)⟩, by rw [ht]; exact hP, va_K.moved hW.alike hK, hD⟩, hS.F ht⟩) hS.2.2 dX12_readsClause_143
      · skip
        refine lv_if_ne (tgt := 122) hx hb dX12_readsClause_117 (by decide) (fun c_23 => absurd (by decide) c_23) (fun c_23 => ?_)
        refine lv_iconst (v := 0) hx hb dX12_readsClause_120 (by decide) ?_
        subst hQ
        exact W.zret hx hb hr rfl (fun t ht hW => ⟨⟨_, (i11, r11), rfl, ⟨hRi, hRr, hEi, hEr, (Or.inr rfl)⟩, by rw [ht]; exact hP, va_K.moved hW.alike hK, hD⟩, hS.F ht⟩) hS.2.2 dX12_readsClause_121
    · have c_4 : (i 29).toInt = 14 := b_nne c_4
      refine lv_aload_n hx hb dX12_readsClause_54 rfl (lv_at hl 1 rfl) ?_
      refine lv_iconst (v := 4) hx hb dX12_readsClause_55 (by decide) ?_
      refine lv_aload_n hx hb dX12_readsClause_56 rfl (lv_at hl 1 rfl) ?_
      refine va_get (D := D) (ci := 12) (v := .int (i 23)) (C := RX12) (T := TX12) (N := 91) hx hb hT iX12 hown hK hP 0 rfl rfl 23 (by decide) (hT _ t_252) (fun _ h9 => h9) rfl dX12_readsClause_57 ?_
      have hg_24 : 0 ≤ (i 23).toInt ∧ (i 23).toInt ≤ 200 := hRi 23
      have hF_25 := rF hD hS hA
      refine va_calli (va_runV (As := [.int 4, .int (i 23)]) (rest := []) ⟨hx, hb, hml, hown, hT⟩ (c_X12_wrongAt l D cy a i r rl 4 (i 23) _ hRi hRr) (cwV 2 hT (gV t_259 t_260 t_261 t_262 t_6) rfl rfl rfl (by decide +kernel) ⟨Nat.le_of_ble_eq_true rfl, Nat.le_of_ble_eq_true rfl⟩) (rQ_v hP hK hD (va_recv hK hP (ci := 12) (q0 := 0) rfl rfl)) rfl rfl hl.1 rfl (lv_room (Nat.le_of_ble_eq_true rfl)) dX12_readsClause_60 ⟨Nat.le_of_ble_eq_true rfl, Nat.le_of_ble_eq_true rfl⟩) hS (fun q _ h => hF_25 q h) hF_25 (fun r_26 u_27 t H1 locs ht hvm hr_26 hB hz1 hk1 hS => ?_)
      obtain ⟨i27, r27⟩ := u_27
      obtain ⟨hP, hK1, hD1⟩ := hB
      rw [ht] at hP
      have hD := hD1.weaken (fun k q _ h => hF_25 q.1 h)
      have hP : va_P D vwCl (mW cy a i27 r27 rl) H1 := hP
      have hD : va_D A (mW cy a i27 r27 rl) := hD
      obtain ⟨hRi, hRr, hE1, hE2, hr_26⟩ := hr_26
      have hRi : mRi i27 := hRi
      have hRr : mRr r27 := hRr
      have hEi : mEi [23, 25, 26, 27, 28, 29, 30] _ i27 := Ei_tr hEi hE1 (by decide)
      have hEr : mEr [21, 22, 23, 24, 25, 26] _ r27 := Er_tr hEr hE2 (by decide)
      subst hr_26
      subst hQ
      exact W.zret hx hb hr rfl (fun t ht hW => ⟨⟨_, (i27, r27), rfl, ⟨hRi, hRr, hEi, hEr, (Or.inr rfl)⟩, by rw [ht]; exact hP, va_K.moved hW.alike hK, hD⟩, hS.F ht⟩) hS.2.2 dX12_readsClause_63
  · have c_2 : r_1.toInt ≠ 102 := b_ne c_2
    refine lv_iload_n hx hb dX12_readsClause_11 rfl (lv_at hl 0 rfl) ?_
    refine lv_bipush (v := 112) hx hb dX12_readsClause_12 (by decide) ?_
    refine lv_icmp_eq (tgt := 45) hx hb dX12_readsClause_14 (by decide) (fun c_28 => ?_) (fun c_28 => ?_)
    · have c_28 : r_1.toInt = 112 := b_eq c_28
      refine lv_aload_n hx hb dX12_readsClause_45 rfl (lv_at hl 1 rfl) ?_
      have hlt9 := mHere_lt (i := i) (r := r) (by omega)
      refine va_get (D := D) (ci := 12) (v := .int (i 29)) (C := RX12) (T := TX12) (N := 91) hx hb hT iX12 hown hK hP 0 rfl rfl 29 (by decide) (hT _ t_904) (fun _ h9 => h9) rfl dX12_readsClause_46 ?_
      have hg_29 : 0 ≤ (i 29).toInt ∧ (i 29).toInt ≤ 14 := hRi 29
      refine lv_bipush (v := 14) hx hb dX12_readsClause_49 (by decide) ?_
      refine lv_icmp_ne (tgt := 64) hx hb dX12_readsClause_51 (by decide) (fun c_30 => ?_) (fun c_30 => ?_)
      · have c_30 : (i 29).toInt ≠ 14 := b_ne c_30
        refine lv_aload_n hx hb dX12_readsClause_64 rfl (lv_at hl 1 rfl) ?_
        have hb29 : (i 29).toInt ≤ 13 := by omega
        refine va_get (D := D) (ci := 12) (v := .ref (a 23)) (C := RX12) (T := TX12) (N := 91) hx hb hT iX12 hown hK hP 0 rfl rfl 34 (by decide) (hT _ t_790) (fun _ h9 => h9) rfl dX12_readsClause_65 ?_
        refine lv_aload_n hx hb dX12_readsClause_68 rfl (lv_at hl 1 rfl) ?_
        refine va_get (D := D) (ci := 12) (v := .int (i 29)) (C := RX12) (T := TX12) (N := 91) hx hb hT iX12 hown hK hP 0 rfl rfl 29 (by decide) (hT _ t_904) (fun _ h9 => h9) rfl dX12_readsClause_69 ?_
        refine lv_iload_n hx hb dX12_readsClause_72 rfl (lv_at hl 0 rfl) ?_
        refine va_iast hx hb hK hP hD hS 23 0 rfl rfl (vp_inI (by omega) (by omega)) dX12_readsClause_73 (fun H locs hP hD hS => ?_)
        rw [mS23] at hP hD
        have hRr : mRr (va_up r 23 (upd (r 23) ((i 29).toNatClampNeg) r_1)) := Rr_upd hRr 23 ((i 29).toNatClampNeg) r_1 (b_rg _)
        have hEr : mEr [21, 22, 23, 24, 25, 26] _ (va_up r 23 (upd (r 23) ((i 29).toNatClampNeg) r_1)) := Er_up hEr 23 _ (by decide)
        refine lv_aload_n hx hb dX12_readsClause_74 rfl (lv_at hl 1 rfl) ?_
        refine lv_aload_n hx hb dX12_readsClause_75 rfl (lv_at hl 1 rfl) ?_
        refine va_get (D := D) (ci := 12) (v := .int (i 23)) (C := RX12) (T := TX12) (N := 91) hx hb hT iX12 hown hK hP 0 rfl rfl 23 (by decide) (hT _ t_252) (fun _ h9 => h9) rfl dX12_readsClause_76 ?_
        have hg_31 : 0 ≤ (i 23).toInt ∧ (i 23).toInt ≤ 200 := hRi 23
        refine lv_iconst (v := 1) hx hb dX12_readsClause_79 (by decide) ?_
        refine lv_iadd hx hb dX12_readsClause_80 ?_
        refine lv_topi (fun v_32 ev_32 => ?_)
        have hv_32 : v_32.toInt = (i 23).toInt + 1 := by rw [ev_32]; have := b_rg (i 23); exact i_add (a := (i 23).toInt) (b := 1) rfl rfl (by omega) (by omega)
        refine va_put (D := D) (ci := 12) (v := .int v_32) (ty := .int) (C := RX12) (T := TX12) (N := 91) hx hb hT iX12 tyX12 tyX12_ok nmX12 hown hK hP hD hS 0 rfl rfl 23 (by decide) (hT _ t_252) (fun _ h9 => h9) rfl (by decide +kernel) rfl rfl (Nat.le_of_ble_eq_true rfl) dX12_readsClause_81 (fun H locs hP hD hS => ?_)
        rw [mP23] at hP hD
        have hRi := Ri_upd hRi 23 v_32 ⟨by show (0 : Int) ≤ v_32.toInt; omega, by show v_32.toInt ≤ (200 : Int); omega⟩
        have hEi := Ei_upd hEi 23 v_32 (by decide)
        refine lv_aload_n hx hb dX12_readsClause_84 rfl (lv_at hl 1 rfl) ?_
        refine va_get (D := D) (ci := 12) (v := .ref (a 24)) (C := RX12) (T := TX12) (N := 91) hx hb hT iX12 hown hK hP 0 rfl rfl 35 (by decide) (hT _ t_791) (fun _ h9 => h9) rfl dX12_readsClause_85 ?_
        refine lv_aload_n hx hb dX12_readsClause_88 rfl (lv_at hl 1 rfl) ?_
        refine va_get (D := D) (ci := 12) (v := .int (i 29)) (C := RX12) (T := TX12) (N := 91) hx hb hT iX12 hown hK hP 0 rfl rfl 29 (by decide) (hT _ t_904) (fun _ h9 => h9) rfl dX12_readsClause_89 ?_
        refine lv_aload_n hx hb dX12_readsClause_92 rfl (lv_at hl 1 rfl) ?_
        refine va_get (D := D) (ci := 12) (v := .int (i 27)) (C := RX12) (T := TX12) (N := 91) hx hb hT iX12 hown hK hP 0 rfl rfl 27 (by decide) (hT _ t_847) (fun _ h9 => h9) rfl dX12_readsClause_93 ?_
        have hg_33 : 0 ≤ (i 27).toInt ∧ (i 27).toInt ≤ 220 := hRi 27
        refine va_iast hx hb hK hP hD hS 24 0 rfl rfl (vp_inI (by omega) (by omega)) dX12_readsClause_96 (fun H locs hP hD hS => ?_)
        rw [mS24] at hP hD
        have hRr : mRr (va_up (va_up r 23 (upd (r 23) ((i 29).toNatClampNeg) r_1)) 24 (upd (r 24) ((i 29).toNatClampNeg) (i 27))) := Rr_upd hRr 24 ((i 29).toNatClampNeg) (i 27) ⟨by show (0 : Int) ≤ (i 27).toInt; omega, by show (i 27).toInt ≤ (220 : Int); omega⟩
        have hEr : mEr [21, 22, 23, 24, 25, 26] _ (va_up (va_up r 23 (upd (r 23) ((i 29).toNatClampNeg) r_1)) 24 (upd (r 24) ((i 29).toNatClampNeg) (i 27))) := Er_up hEr 24 _ (by decide)
        refine lv_aload_n hx hb dX12_readsClause_97 rfl (lv_at hl 1 rfl) ?_
        refine lv_iconst (v := 0) hx hb dX12_readsClause_98 (by decide) ?_
        refine va_put (D := D) (ci := 12) (v := .int 0) (ty := .int) (C := RX12) (T := TX12) (N := 91) hx hb hT iX12 tyX12 tyX12_ok nmX12 hown hK hP hD hS 0 rfl rfl 26 (by decide) (hT _ t_848) (fun _ h9 => h9) rfl (by decide +kernel) rfl rfl (Nat.le_of_ble_eq_true rfl) dX12_readsClause_99 (fun H locs hP hD hS => ?_)
        rw [mP26] at hP hD
        have hRi := Ri_upd hRi 26 0 (b_rg _)
        have hEi := Ei_upd hEi 26 0 (by decide)
        refine lv_aload_n hx hb dX12_readsClause_102 rfl (lv_at hl 1 rfl) ?_
        refine lv_iconst (v := 0) hx hb dX12_readsClause_103 (by decide) ?_
        refine va_put (D := D) (ci := 12) (v := .int 0) (ty := .int) (C := RX12) (T := TX12) (N := 91) hx hb hT iX12 tyX12 tyX12_ok nmX12 hown hK hP hD hS 0 rfl rfl 28 (by decide) (hT _ t_849) (fun _ h9 => h9) rfl (by decide +kernel) rfl rfl (Nat.le_of_ble_eq_true rfl) dX12_readsClause_104 (fun H locs hP hD hS => ?_)
        rw [mP28] at hP hD
        have hRi := Ri_upd hRi 28 0 ⟨by decide, by decide⟩
        have hEi := Ei_upd hEi 28 0 (by decide)
        refine lv_iload_n hx hb dX12_readsClause_107 rfl (lv_at hl 0 rfl) ?_
        refine lv_bipush (v := 98) hx hb dX12_readsClause_108 (by decide) ?_
        refine lv_icmp_eq (tgt := 122) hx hb dX12_readsClause_110 (by decide) (fun c_34 => by have c_34 : r_1.toInt = 98 := b_eq c_34; omega) (fun c_34 => ?_)
        have c_34 : r_1.toInt ≠ 98 := b_ne c_34
        refine lv_aload_n hx hb dX12_readsClause_113 rfl (lv_at hl 1 rfl) ?_
        have hZ : SS (i 27).toInt.toNat 0 0 (upd (upd (upd i 23 v_32) 26 0) 28 0) (va_up (va_up r 23 (upd (r 23) ((i 29).toNatClampNeg) r_1)) 24 (upd (r 24) ((i 29).toNatClampNeg) (i 27))) := SS_b0 hC.1 rfl rfl (by show v_32.toInt = _; omega)
        have hO : outB ((va_up (va_up r 23 (upd (r 23) ((i 29).toNatClampNeg) r_1)) 24 (upd (r 24) ((i 29).toNatClampNeg) (i 27))) 22) ((upd (upd (upd i 23 v_32) 26 0) 28 0) 28).toInt.toNat := outB0 rfl
        have hF_35 := rF hD hS hA
        refine va_calli (va_runV (As := []) (rest := []) ⟨hx, hb, hml, hown, hT⟩ (c_X12_readsSum l D cy a (upd (upd (upd i 23 v_32) 26 0) 28 0) (va_up (va_up r 23 (upd (r 23) ((i 29).toNatClampNeg) r_1)) 24 (upd (r 24) ((i 29).toNatClampNeg) (i 27))) rl _ hRi hRr ((i 27).toInt.toNat) 0 0 hZ hO) (cwV 0 hT (gV t_884 t_885 t_886 t_887 t_6) rfl rfl rfl (by decide +kernel) ⟨Nat.le_of_ble_eq_true rfl, Nat.le_of_ble_eq_true rfl⟩) (rQ_v hP hK hD (va_recv hK hP (ci := 12) (q0 := 0) rfl rfl)) rfl rfl hl.1 rfl (lv_room (Nat.le_of_ble_eq_true rfl)) dX12_readsClause_114 ⟨Nat.le_of_ble_eq_true rfl, Nat.le_of_ble_eq_true rfl⟩) hS (fun q _ h => hF_35 q h) hF_35 (fun r_36 u_37 t H1 locs ht hvm hr_36 hB hz1 hk1 hS => ?_)
        obtain ⟨i37, r37⟩ := u_37
        obtain ⟨hP, hK1, hD1⟩ := hB
        rw [ht] at hP
        have hD := hD1.weaken (fun k q _ h => hF_35 q.1 h)
        have hP : va_P D vwCl (mW cy a i37 r37 rl) H1 := hP
        have hD : va_D A (mW cy a i37 r37 rl) := hD
        obtain ⟨hRi, hRr, hE1, hE2, hr_36⟩ := hr_36
        have hRi : mRi i37 := hRi
        have hRr : mRr r37 := hRr
        have hEi : mEi [23, 25, 26, 27, 28, 29, 30] _ i37 := Ei_tr hEi hE1 (by decide)
        have hEr : mEr [21, 22, 23, 24, 25, 26] _ r37 := Er_tr hEr hE2 (by decide)
        rcases hr_36 with ⟨rfl, hrs36⟩ | rfl
        · have hrs36 : SS (i 27).toInt.toNat (0 + 1) 0 i37 r37 ∧ ((upd (upd (upd i 23 v_32) 26 0) 28 0) 23).toInt < (i37 23).toInt ∧ (i37 28).toInt = ((upd (upd (upd i 23 v_32) 26 0) 28 0) 28).toInt ∧ (∀ j, j < ((upd (upd (upd i 23 v_32) 26 0) 28 0) 28).toInt.toNat → r37 22 j = (va_up (va_up r 23 (upd (r 23) ((i 29).toNatClampNeg) r_1)) 24 (upd (r 24) ((i 29).toNatClampNeg) (i 27))) 22 j) ∧ low (i 27).toInt.toNat (va_up (va_up r 23 (upd (r 23) ((i 29).toNatClampNeg) r_1)) 24 (upd (r 24) ((i 29).toNatClampNeg) (i 27))) r37 := hrs36
          refine lv_if_ne (tgt := 122) hx hb dX12_readsClause_117 (by decide) (fun c_38 => ?_) (fun c_38 => absurd c_38 (by decide))
          refine lv_aload_n hx hb dX12_readsClause_122 rfl (lv_at hl 1 rfl) ?_
          have hse := SS_seg hrs36.1 (by rw [hrs36.2.2.1]; rfl) hRi
          have hNP0 : NP i37 := hse.2
          have e29a : i37 29 = i 29 := hE1 29 (by decide)
          have hle0 := (SS_n hrs36.1).1
          have hlow0 : low (i 27).toInt.toNat r r37 := low_tr (low_eq rfl) hrs36.2.2.2.2
          have hl23 : (i 23).toInt < (i37 23).toInt := by have h9 := hrs36.2.1; have h8 : ((upd (upd (upd i 23 v_32) 26 0) 28 0) 23).toInt = v_32.toInt := rfl; omega
          have hq23 : r37 23 = (va_up (va_up r 23 (upd (r 23) ((i 29).toNatClampNeg) r_1)) 24 (upd (r 24) ((i 29).toNatClampNeg) (i 27))) 23 := hE2 23 (by decide)
          have hq24 : r37 24 = (va_up (va_up r 23 (upd (r 23) ((i 29).toNatClampNeg) r_1)) 24 (upd (r 24) ((i 29).toNatClampNeg) (i 27))) 24 := hE2 24 (by decide)
          have hq25 : r37 25 = (va_up (va_up r 23 (upd (r 23) ((i 29).toNatClampNeg) r_1)) 24 (upd (r 24) ((i 29).toNatClampNeg) (i 27))) 25 := hE2 25 (by decide)
          have hq26 : r37 26 = (va_up (va_up r 23 (upd (r 23) ((i 29).toNatClampNeg) r_1)) 24 (upd (r 24) ((i 29).toNatClampNeg) (i 27))) 26 := hE2 26 (by decide)
          have hg29b : 0 ≤ (i37 29).toInt ∧ (i37 29).toInt ≤ 13 := by rw [e29a]; omega
          have hg27b : 0 ≤ (i37 27).toInt ∧ (i37 27).toInt ≤ 220 := hRi 27
          refine va_get (D := D) (ci := 12) (v := .ref (a 25)) (C := RX12) (T := TX12) (N := 91) hx hb hT iX12 hown hK hP 0 rfl rfl 36 (by decide) (hT _ t_792) (fun _ h9 => h9) rfl dX12_readsClause_123 ?_
          refine lv_aload_n hx hb dX12_readsClause_126 rfl (lv_at hl 1 rfl) ?_
          refine va_get (D := D) (ci := 12) (v := .int (i37 29)) (C := RX12) (T := TX12) (N := 91) hx hb hT iX12 hown hK hP 0 rfl rfl 29 (by decide) (hT _ t_904) (fun _ h9 => h9) rfl dX12_readsClause_127 ?_
          have hg_39 : 0 ≤ (i37 29).toInt ∧ (i37 29).toInt ≤ 14 := hRi 29
          refine lv_aload_n hx hb dX12_readsClause_130 rfl (lv_at hl 1 rfl) ?_
          refine va_get (D := D) (ci := 12) (v := .int (i37 27)) (C := RX12) (T := TX12) (N := 91) hx hb hT iX12 hown hK hP 0 rfl rfl 27 (by decide) (hT _ t_847) (fun _ h9 => h9) rfl dX12_readsClause_131 ?_
          have hg_40 : 0 ≤ (i37 27).toInt ∧ (i37 27).toInt ≤ 220 := hRi 27
          refine va_iast hx hb hK hP hD hS 25 0 rfl rfl (vp_inI (by omega) (by omega)) dX12_readsClause_134 (fun H locs hP hD hS => ?_)
          rw [mS25] at hP hD
          have hRr : mRr (va_up r37 25 (upd (r37 25) ((i37 29).toNatClampNeg) (i37 27))) := Rr_upd hRr 25 ((i37 29).toNatClampNeg) (i37 27) ⟨by show (0 : Int) ≤ (i37 27).toInt; omega, by show (i37 27).toInt ≤ (220 : Int); omega⟩
          have hEr : mEr [21, 22, 23, 24, 25, 26] _ (va_up r37 25 (upd (r37 25) ((i37 29).toNatClampNeg) (i37 27))) := Er_up hEr 25 _ (by decide)
          refine lv_aload_n hx hb dX12_readsClause_135 rfl (lv_at hl 1 rfl) ?_
          have hNP : NP i37 := hNP0
          have hF_41 := rF hD hS hA
          refine va_calli (va_runV (As := []) (rest := []) ⟨hx, hb, hml, hown, hT⟩ (c_X12_readsCondition l D cy a i37 (va_up r37 25 (upd (r37 25) ((i37 29).toNatClampNeg) (i37 27))) rl _ hRi hRr hNP) (cwV 0 hT (gV t_905 t_906 t_907 t_908 t_6) rfl rfl rfl (by decide +kernel) ⟨Nat.le_of_ble_eq_true rfl, Nat.le_of_ble_eq_true rfl⟩) (rQ_v hP hK hD (va_recv hK hP (ci := 12) (q0 := 0) rfl rfl)) rfl rfl hl.1 rfl (lv_room (Nat.le_of_ble_eq_true rfl)) dX12_readsClause_136 ⟨Nat.le_of_ble_eq_true rfl, Nat.le_of_ble_eq_true rfl⟩) hS (fun q _ h => hF_41 q h) hF_41 (fun r_42 u_43 t H1 locs ht hvm hr_42 hB hz1 hk1 hS => ?_)
          obtain ⟨i43, r43⟩ := u_43
          obtain ⟨hP, hK1, hD1⟩ := hB
          rw [ht] at hP
          have hD := hD1.weaken (fun k q _ h => hF_41 q.1 h)
          have hP : va_P D vwCl (mW cy a i43 r43 rl) H1 := hP
          have hD : va_D A (mW cy a i43 r43 rl) := hD
          obtain ⟨hRi, hRr, hE1, hE2, hr_42⟩ := hr_42
          have hRi : mRi i43 := hRi
          have hRr : mRr r43 := hRr
          have hEi : mEi [23, 25, 26, 27, 28, 29, 30] _ i43 := Ei_tr hEi hE1 (by decide)
          have hEr : mEr [21, 22, 23, 24, 25, 26] _ r43 := Er_tr hEr hE2 (by decide)
          rcases hr_42 with ⟨rfl, hrd42⟩ | rfl
          · have hrd42 : segOK (r43 21) (i37 27).toInt.toNat (i43 27).toInt.toNat ∧ (i37 23).toInt < (i43 23).toInt ∧ NP i43 ∧ low (i37 27).toInt.toNat (va_up r37 25 (upd (r37 25) ((i37 29).toNatClampNeg) (i37 27))) r43 := hrd42
            refine lv_if_ne (tgt := 144) hx hb dX12_readsClause_139 (by decide) (fun c_44 => ?_) (fun c_44 => absurd c_44 (by decide))
            refine lv_aload_n hx hb dX12_readsClause_144 rfl (lv_at hl 1 rfl) ?_
            have e29b : i43 29 = i37 29 := hE1 29 (by decide)
            have hg29c : 0 ≤ (i43 29).toInt ∧ (i43 29).toInt ≤ 13 := by rw [e29b]; show 0 ≤ (i37 29).toInt ∧ (i37 29).toInt ≤ 13; omega
            have hz23 : r43 23 = (va_up r37 25 (upd (r37 25) ((i37 29).toNatClampNeg) (i37 27))) 23 := hE2 23 (by decide)
            have hz24 : r43 24 = (va_up r37 25 (upd (r37 25) ((i37 29).toNatClampNeg) (i37 27))) 24 := hE2 24 (by decide)
            have hz25 : r43 25 = (va_up r37 25 (upd (r37 25) ((i37 29).toNatClampNeg) (i37 27))) 25 := hE2 25 (by decide)
            have hz26 : r43 26 = (va_up r37 25 (upd (r37 25) ((i37 29).toNatClampNeg) (i37 27))) 26 := hE2 26 (by decide)
            refine va_get (D := D) (ci := 12) (v := .ref (a 26)) (C := RX12) (T := TX12) (N := 91) hx hb hT iX12 hown hK hP 0 rfl rfl 37 (by decide) (hT _ t_793) (fun _ h9 => h9) rfl dX12_readsClause_145 ?_
            refine lv_aload_n hx hb dX12_readsClause_148 rfl (lv_at hl 1 rfl) ?_
            refine va_get (D := D) (ci := 12) (v := .int (i43 29)) (C := RX12) (T := TX12) (N := 91) hx hb hT iX12 hown hK hP 0 rfl rfl 29 (by decide) (hT _ t_904) (fun _ h9 => h9) rfl dX12_readsClause_149 ?_
            have hg_45 : 0 ≤ (i43 29).toInt ∧ (i43 29).toInt ≤ 14 := hRi 29
            refine lv_aload_n hx hb dX12_readsClause_152 rfl (lv_at hl 1 rfl) ?_
            refine va_get (D := D) (ci := 12) (v := .int (i43 27)) (C := RX12) (T := TX12) (N := 91) hx hb hT iX12 hown hK hP 0 rfl rfl 27 (by decide) (hT _ t_847) (fun _ h9 => h9) rfl dX12_readsClause_153 ?_
            have hg_46 : 0 ≤ (i43 27).toInt ∧ (i43 27).toInt ≤ 220 := hRi 27
            refine va_iast hx hb hK hP hD hS 26 0 rfl rfl (vp_inI (by omega) (by omega)) dX12_readsClause_156 (fun H locs hP hD hS => ?_)
            rw [mS26] at hP hD
            have hRr : mRr (va_up r43 26 (upd (r43 26) ((i43 29).toNatClampNeg) (i43 27))) := Rr_upd hRr 26 ((i43 29).toNatClampNeg) (i43 27) ⟨by show (0 : Int) ≤ (i43 27).toInt; omega, by show (i43 27).toInt ≤ (220 : Int); omega⟩
            have hEr : mEr [21, 22, 23, 24, 25, 26] _ (va_up r43 26 (upd (r43 26) ((i43 29).toNatClampNeg) (i43 27))) := Er_up hEr 26 _ (by decide)
            refine lv_aload_n hx hb dX12_readsClause_157 rfl (lv_at hl 1 rfl) ?_
            refine lv_aload_n hx hb dX12_readsClause_158 rfl (lv_at hl 1 rfl) ?_
            refine va_get (D := D) (ci := 12) (v := .int (i43 29)) (C := RX12) (T := TX12) (N := 91) hx hb hT iX12 hown hK hP 0 rfl rfl 29 (by decide) (hT _ t_904) (fun _ h9 => h9) rfl dX12_readsClause_159 ?_
            refine lv_iconst (v := 1) hx hb dX12_readsClause_162 (by decide) ?_
            refine lv_iadd hx hb dX12_readsClause_163 ?_
            refine lv_topi (fun v_47 ev_47 => ?_)
            have hv_47 : v_47.toInt = (i43 29).toInt + 1 := by rw [ev_47]; have := b_rg (i43 29); exact i_add (a := (i43 29).toInt) (b := 1) rfl rfl (by omega) (by omega)
            refine va_put (D := D) (ci := 12) (v := .int v_47) (ty := .int) (C := RX12) (T := TX12) (N := 91) hx hb hT iX12 tyX12 tyX12_ok nmX12 hown hK hP hD hS 0 rfl rfl 29 (by decide) (hT _ t_904) (fun _ h9 => h9) rfl (by decide +kernel) rfl rfl (Nat.le_of_ble_eq_true rfl) dX12_readsClause_164 (fun H locs hP hD hS => ?_)
            rw [mP29] at hP hD
            have hRi := Ri_upd hRi 29 v_47 ⟨by show (0 : Int) ≤ v_47.toInt; omega, by show v_47.toInt ≤ (14 : Int); omega⟩
            have hEi := Ei_upd hEi 29 v_47 (by decide)
            refine lv_iconst (v := 1) hx hb dX12_readsClause_167 (by decide) ?_
            subst hQ
            have hi29 : (i43 29).toInt.toNat = (i 29).toInt.toNat := by rw [e29b]; show (i37 29).toInt.toNat = _; rw [e29a]
            have f23 : (va_up r43 26 (upd (r43 26) ((i43 29).toNatClampNeg) (i43 27))) 23 = upd (r 23) (i 29).toInt.toNat r_1 := by show r43 23 = _; rw [hz23]; show r37 23 = _; rw [hq23]; rfl
            have f24 : (va_up r43 26 (upd (r43 26) ((i43 29).toNatClampNeg) (i43 27))) 24 = upd (r 24) (i 29).toInt.toNat (i 27) := by show r43 24 = _; rw [hz24]; show r37 24 = _; rw [hq24]; rfl
            have f25 : (va_up r43 26 (upd (r43 26) ((i43 29).toNatClampNeg) (i43 27))) 25 = upd (r 25) (i 29).toInt.toNat (i37 27) := by show r43 25 = _; rw [hz25]; show upd (r37 25) (i37 29).toInt.toNat _ = _; rw [hq25, e29a]; rfl
            have f26 : (va_up r43 26 (upd (r43 26) ((i43 29).toNatClampNeg) (i43 27))) 26 = upd (r 26) (i 29).toInt.toNat (i43 27) := by show upd (r43 26) (i43 29).toInt.toNat _ = _; rw [hi29, hz26]; show upd (r37 26) _ _ = _; rw [hq26]; rfl
            have hlow9 : low (i 27).toInt.toNat r (va_up r43 26 (upd (r43 26) ((i43 29).toNatClampNeg) (i43 27))) := low_tr hlow0 (fun k9 hk9 => hrd42.2.2.2 k9 (Nat.lt_of_lt_of_le hk9 hle0))
            have hs2 : r_1.toInt ≠ 98 → segOK ((va_up r43 26 (upd (r43 26) ((i43 29).toNatClampNeg) (i43 27))) 21) (i 27).toInt.toNat (i37 27).toInt.toNat := fun _ => segOK_congr hse.1 (fun k9 hk9 => hrd42.2.2.2 k9 hk9)
            have hci : CIv (upd i43 29 v_47) (va_up r43 26 (upd (r43 26) ((i43 29).toNatClampNeg) (i43 27))) := RK_of (c := r_1) (v2 := i37 27) (v3 := i43 27) hC (by omega) (by show v_47.toInt = _; have h9 : (i43 29).toInt = (i 29).toInt := (by rw [e29b]; show (i37 29).toInt = _; rw [e29a]); omega) f23 f24 f25 f26 hlow9 hrd42.1 hs2 hle0 rfl hrd42.2.2.1
            have hj : RK i r 1 (upd i43 29 v_47) (va_up r43 26 (upd (r43 26) ((i43 29).toNatClampNeg) (i43 27))) := Or.inl ⟨rfl, hci, by have h9 := hrd42.2.1; exact Int.lt_trans hl23 h9⟩
            exact W.zret hx hb hr rfl (fun t ht hW => ⟨⟨_, (upd i43 29 v_47, va_up r43 26 (upd (r43 26) ((i43 29).toNatClampNeg) (i43 27))), rfl, ⟨hRi, hRr, hEi, hEr, hj⟩, by rw [ht]; exact hP, va_K.moved hW.alike hK, hD⟩, hS.F ht⟩) hS.2.2 dX12_readsClause_168
          · skip
            refine lv_if_ne (tgt := 144) hx hb dX12_readsClause_139 (by decide) (fun c_48 => absurd (by decide) c_48) (fun c_48 => ?_)
            refine lv_iconst (v := 0) hx hb dX12_readsClause_142 (by decide) ?_
            subst hQ
            exact W.zret hx hb hr rfl (fun t ht hW => ⟨⟨_, (i43, r43), rfl, ⟨hRi, hRr, hEi, hEr, (Or.inr rfl)⟩, by rw [ht]; exact hP, va_K.moved hW.alike hK, hD⟩, hS.F ht⟩) hS.2.2 dX12_readsClause_143
        · skip
          refine lv_if_ne (tgt := 122) hx hb dX12_readsClause_117 (by decide) (fun c_49 => absurd (by decide) c_49) (fun c_49 => ?_)
          refine lv_iconst (v := 0) hx hb dX12_readsClause_120 (by decide) ?_
          subst hQ
          exact W.zret hx hb hr rfl (fun t ht hW => ⟨⟨_, (i37, r37), rfl, ⟨hRi, hRr, hEi, hEr, (Or.inr rfl)⟩, by rw [ht]; exact hP, va_K.moved hW.alike hK, hD⟩, hS.F ht⟩) hS.2.2 dX12_readsClause_121
      · have c_30 : (i 29).toInt = 14 := b_nne c_30
        refine lv_aload_n hx hb dX12_readsClause_54 rfl (lv_at hl 1 rfl) ?_
        refine lv_iconst (v := 4) hx hb dX12_readsClause_55 (by decide) ?_
        refine lv_aload_n hx hb dX12_readsClause_56 rfl (lv_at hl 1 rfl) ?_
        refine va_get (D := D) (ci := 12) (v := .int (i 23)) (C := RX12) (T := TX12) (N := 91) hx hb hT iX12 hown hK hP 0 rfl rfl 23 (by decide) (hT _ t_252) (fun _ h9 => h9) rfl dX12_readsClause_57 ?_
        have hg_50 : 0 ≤ (i 23).toInt ∧ (i 23).toInt ≤ 200 := hRi 23
        have hF_51 := rF hD hS hA
        refine va_calli (va_runV (As := [.int 4, .int (i 23)]) (rest := []) ⟨hx, hb, hml, hown, hT⟩ (c_X12_wrongAt l D cy a i r rl 4 (i 23) _ hRi hRr) (cwV 2 hT (gV t_259 t_260 t_261 t_262 t_6) rfl rfl rfl (by decide +kernel) ⟨Nat.le_of_ble_eq_true rfl, Nat.le_of_ble_eq_true rfl⟩) (rQ_v hP hK hD (va_recv hK hP (ci := 12) (q0 := 0) rfl rfl)) rfl rfl hl.1 rfl (lv_room (Nat.le_of_ble_eq_true rfl)) dX12_readsClause_60 ⟨Nat.le_of_ble_eq_true rfl, Nat.le_of_ble_eq_true rfl⟩) hS (fun q _ h => hF_51 q h) hF_51 (fun r_52 u_53 t H1 locs ht hvm hr_52 hB hz1 hk1 hS => ?_)
        obtain ⟨i53, r53⟩ := u_53
        obtain ⟨hP, hK1, hD1⟩ := hB
        rw [ht] at hP
        have hD := hD1.weaken (fun k q _ h => hF_51 q.1 h)
        have hP : va_P D vwCl (mW cy a i53 r53 rl) H1 := hP
        have hD : va_D A (mW cy a i53 r53 rl) := hD
        obtain ⟨hRi, hRr, hE1, hE2, hr_52⟩ := hr_52
        have hRi : mRi i53 := hRi
        have hRr : mRr r53 := hRr
        have hEi : mEi [23, 25, 26, 27, 28, 29, 30] _ i53 := Ei_tr hEi hE1 (by decide)
        have hEr : mEr [21, 22, 23, 24, 25, 26] _ r53 := Er_tr hEr hE2 (by decide)
        subst hr_52
        subst hQ
        exact W.zret hx hb hr rfl (fun t ht hW => ⟨⟨_, (i53, r53), rfl, ⟨hRi, hRr, hEi, hEr, (Or.inr rfl)⟩, by rw [ht]; exact hP, va_K.moved hW.alike hK, hD⟩, hS.F ht⟩) hS.2.2 dX12_readsClause_63
    · have c_28 : r_1.toInt ≠ 112 := b_ne c_28
      refine lv_iload_n hx hb dX12_readsClause_17 rfl (lv_at hl 0 rfl) ?_
      refine lv_bipush (v := 100) hx hb dX12_readsClause_18 (by decide) ?_
      refine lv_icmp_eq (tgt := 45) hx hb dX12_readsClause_20 (by decide) (fun c_54 => ?_) (fun c_54 => ?_)
      · have c_54 : r_1.toInt = 100 := b_eq c_54
        refine lv_aload_n hx hb dX12_readsClause_45 rfl (lv_at hl 1 rfl) ?_
        have hlt9 := mHere_lt (i := i) (r := r) (by omega)
        refine va_get (D := D) (ci := 12) (v := .int (i 29)) (C := RX12) (T := TX12) (N := 91) hx hb hT iX12 hown hK hP 0 rfl rfl 29 (by decide) (hT _ t_904) (fun _ h9 => h9) rfl dX12_readsClause_46 ?_
        have hg_55 : 0 ≤ (i 29).toInt ∧ (i 29).toInt ≤ 14 := hRi 29
        refine lv_bipush (v := 14) hx hb dX12_readsClause_49 (by decide) ?_
        refine lv_icmp_ne (tgt := 64) hx hb dX12_readsClause_51 (by decide) (fun c_56 => ?_) (fun c_56 => ?_)
        · have c_56 : (i 29).toInt ≠ 14 := b_ne c_56
          refine lv_aload_n hx hb dX12_readsClause_64 rfl (lv_at hl 1 rfl) ?_
          have hb29 : (i 29).toInt ≤ 13 := by omega
          refine va_get (D := D) (ci := 12) (v := .ref (a 23)) (C := RX12) (T := TX12) (N := 91) hx hb hT iX12 hown hK hP 0 rfl rfl 34 (by decide) (hT _ t_790) (fun _ h9 => h9) rfl dX12_readsClause_65 ?_
          refine lv_aload_n hx hb dX12_readsClause_68 rfl (lv_at hl 1 rfl) ?_
          refine va_get (D := D) (ci := 12) (v := .int (i 29)) (C := RX12) (T := TX12) (N := 91) hx hb hT iX12 hown hK hP 0 rfl rfl 29 (by decide) (hT _ t_904) (fun _ h9 => h9) rfl dX12_readsClause_69 ?_
          refine lv_iload_n hx hb dX12_readsClause_72 rfl (lv_at hl 0 rfl) ?_
          refine va_iast hx hb hK hP hD hS 23 0 rfl rfl (vp_inI (by omega) (by omega)) dX12_readsClause_73 (fun H locs hP hD hS => ?_)
          rw [mS23] at hP hD
          have hRr : mRr (va_up r 23 (upd (r 23) ((i 29).toNatClampNeg) r_1)) := Rr_upd hRr 23 ((i 29).toNatClampNeg) r_1 (b_rg _)
          have hEr : mEr [21, 22, 23, 24, 25, 26] _ (va_up r 23 (upd (r 23) ((i 29).toNatClampNeg) r_1)) := Er_up hEr 23 _ (by decide)
          refine lv_aload_n hx hb dX12_readsClause_74 rfl (lv_at hl 1 rfl) ?_
          refine lv_aload_n hx hb dX12_readsClause_75 rfl (lv_at hl 1 rfl) ?_
          refine va_get (D := D) (ci := 12) (v := .int (i 23)) (C := RX12) (T := TX12) (N := 91) hx hb hT iX12 hown hK hP 0 rfl rfl 23 (by decide) (hT _ t_252) (fun _ h9 => h9) rfl dX12_readsClause_76 ?_
          have hg_57 : 0 ≤ (i 23).toInt ∧ (i 23).toInt ≤ 200 := hRi 23
          refine lv_iconst (v := 1) hx hb dX12_readsClause_79 (by decide) ?_
          refine lv_iadd hx hb dX12_readsClause_80 ?_
          refine lv_topi (fun v_58 ev_58 => ?_)
          have hv_58 : v_58.toInt = (i 23).toInt + 1 := by rw [ev_58]; have := b_rg (i 23); exact i_add (a := (i 23).toInt) (b := 1) rfl rfl (by omega) (by omega)
          refine va_put (D := D) (ci := 12) (v := .int v_58) (ty := .int) (C := RX12) (T := TX12) (N := 91) hx hb hT iX12 tyX12 tyX12_ok nmX12 hown hK hP hD hS 0 rfl rfl 23 (by decide) (hT _ t_252) (fun _ h9 => h9) rfl (by decide +kernel) rfl rfl (Nat.le_of_ble_eq_true rfl) dX12_readsClause_81 (fun H locs hP hD hS => ?_)
          rw [mP23] at hP hD
          have hRi := Ri_upd hRi 23 v_58 ⟨by show (0 : Int) ≤ v_58.toInt; omega, by show v_58.toInt ≤ (200 : Int); omega⟩
          have hEi := Ei_upd hEi 23 v_58 (by decide)
          refine lv_aload_n hx hb dX12_readsClause_84 rfl (lv_at hl 1 rfl) ?_
          refine va_get (D := D) (ci := 12) (v := .ref (a 24)) (C := RX12) (T := TX12) (N := 91) hx hb hT iX12 hown hK hP 0 rfl rfl 35 (by decide) (hT _ t_791) (fun _ h9 => h9) rfl dX12_readsClause_85 ?_
          refine lv_aload_n hx hb dX12_readsClause_88 rfl (lv_at hl 1 rfl) ?_
          refine va_get (D := D) (ci := 12) (v := .int (i 29)) (C := RX12) (T := TX12) (N := 91) hx hb hT iX12 hown hK hP 0 rfl rfl 29 (by decide) (hT _ t_904) (fun _ h9 => h9) rfl dX12_readsClause_89 ?_
          refine lv_aload_n hx hb dX12_readsClause_92 rfl (lv_at hl 1 rfl) ?_
          refine va_get (D := D) (ci := 12) (v := .int (i 27)) (C := RX12) (T := TX12) (N := 91) hx hb hT iX12 hown hK hP 0 rfl rfl 27 (by decide) (hT _ t_847) (fun _ h9 => h9) rfl dX12_readsClause_93 ?_
          have hg_59 : 0 ≤ (i 27).toInt ∧ (i 27).toInt ≤ 220 := hRi 27
          refine va_iast hx hb hK hP hD hS 24 0 rfl rfl (vp_inI (by omega) (by omega)) dX12_readsClause_96 (fun H locs hP hD hS => ?_)
          rw [mS24] at hP hD
          have hRr : mRr (va_up (va_up r 23 (upd (r 23) ((i 29).toNatClampNeg) r_1)) 24 (upd (r 24) ((i 29).toNatClampNeg) (i 27))) := Rr_upd hRr 24 ((i 29).toNatClampNeg) (i 27) ⟨by show (0 : Int) ≤ (i 27).toInt; omega, by show (i 27).toInt ≤ (220 : Int); omega⟩
          have hEr : mEr [21, 22, 23, 24, 25, 26] _ (va_up (va_up r 23 (upd (r 23) ((i 29).toNatClampNeg) r_1)) 24 (upd (r 24) ((i 29).toNatClampNeg) (i 27))) := Er_up hEr 24 _ (by decide)
          refine lv_aload_n hx hb dX12_readsClause_97 rfl (lv_at hl 1 rfl) ?_
          refine lv_iconst (v := 0) hx hb dX12_readsClause_98 (by decide) ?_
          refine va_put (D := D) (ci := 12) (v := .int 0) (ty := .int) (C := RX12) (T := TX12) (N := 91) hx hb hT iX12 tyX12 tyX12_ok nmX12 hown hK hP hD hS 0 rfl rfl 26 (by decide) (hT _ t_848) (fun _ h9 => h9) rfl (by decide +kernel) rfl rfl (Nat.le_of_ble_eq_true rfl) dX12_readsClause_99 (fun H locs hP hD hS => ?_)
          rw [mP26] at hP hD
          have hRi := Ri_upd hRi 26 0 (b_rg _)
          have hEi := Ei_upd hEi 26 0 (by decide)
          refine lv_aload_n hx hb dX12_readsClause_102 rfl (lv_at hl 1 rfl) ?_
          refine lv_iconst (v := 0) hx hb dX12_readsClause_103 (by decide) ?_
          refine va_put (D := D) (ci := 12) (v := .int 0) (ty := .int) (C := RX12) (T := TX12) (N := 91) hx hb hT iX12 tyX12 tyX12_ok nmX12 hown hK hP hD hS 0 rfl rfl 28 (by decide) (hT _ t_849) (fun _ h9 => h9) rfl (by decide +kernel) rfl rfl (Nat.le_of_ble_eq_true rfl) dX12_readsClause_104 (fun H locs hP hD hS => ?_)
          rw [mP28] at hP hD
          have hRi := Ri_upd hRi 28 0 ⟨by decide, by decide⟩
          have hEi := Ei_upd hEi 28 0 (by decide)
          refine lv_iload_n hx hb dX12_readsClause_107 rfl (lv_at hl 0 rfl) ?_
          refine lv_bipush (v := 98) hx hb dX12_readsClause_108 (by decide) ?_
          refine lv_icmp_eq (tgt := 122) hx hb dX12_readsClause_110 (by decide) (fun c_60 => by have c_60 : r_1.toInt = 98 := b_eq c_60; omega) (fun c_60 => ?_)
          have c_60 : r_1.toInt ≠ 98 := b_ne c_60
          refine lv_aload_n hx hb dX12_readsClause_113 rfl (lv_at hl 1 rfl) ?_
          have hZ : SS (i 27).toInt.toNat 0 0 (upd (upd (upd i 23 v_58) 26 0) 28 0) (va_up (va_up r 23 (upd (r 23) ((i 29).toNatClampNeg) r_1)) 24 (upd (r 24) ((i 29).toNatClampNeg) (i 27))) := SS_b0 hC.1 rfl rfl (by show v_58.toInt = _; omega)
          have hO : outB ((va_up (va_up r 23 (upd (r 23) ((i 29).toNatClampNeg) r_1)) 24 (upd (r 24) ((i 29).toNatClampNeg) (i 27))) 22) ((upd (upd (upd i 23 v_58) 26 0) 28 0) 28).toInt.toNat := outB0 rfl
          have hF_61 := rF hD hS hA
          refine va_calli (va_runV (As := []) (rest := []) ⟨hx, hb, hml, hown, hT⟩ (c_X12_readsSum l D cy a (upd (upd (upd i 23 v_58) 26 0) 28 0) (va_up (va_up r 23 (upd (r 23) ((i 29).toNatClampNeg) r_1)) 24 (upd (r 24) ((i 29).toNatClampNeg) (i 27))) rl _ hRi hRr ((i 27).toInt.toNat) 0 0 hZ hO) (cwV 0 hT (gV t_884 t_885 t_886 t_887 t_6) rfl rfl rfl (by decide +kernel) ⟨Nat.le_of_ble_eq_true rfl, Nat.le_of_ble_eq_true rfl⟩) (rQ_v hP hK hD (va_recv hK hP (ci := 12) (q0 := 0) rfl rfl)) rfl rfl hl.1 rfl (lv_room (Nat.le_of_ble_eq_true rfl)) dX12_readsClause_114 ⟨Nat.le_of_ble_eq_true rfl, Nat.le_of_ble_eq_true rfl⟩) hS (fun q _ h => hF_61 q h) hF_61 (fun r_62 u_63 t H1 locs ht hvm hr_62 hB hz1 hk1 hS => ?_)
          obtain ⟨i63, r63⟩ := u_63
          obtain ⟨hP, hK1, hD1⟩ := hB
          rw [ht] at hP
          have hD := hD1.weaken (fun k q _ h => hF_61 q.1 h)
          have hP : va_P D vwCl (mW cy a i63 r63 rl) H1 := hP
          have hD : va_D A (mW cy a i63 r63 rl) := hD
          obtain ⟨hRi, hRr, hE1, hE2, hr_62⟩ := hr_62
          have hRi : mRi i63 := hRi
          have hRr : mRr r63 := hRr
          have hEi : mEi [23, 25, 26, 27, 28, 29, 30] _ i63 := Ei_tr hEi hE1 (by decide)
          have hEr : mEr [21, 22, 23, 24, 25, 26] _ r63 := Er_tr hEr hE2 (by decide)
          rcases hr_62 with ⟨rfl, hrs62⟩ | rfl
          · have hrs62 : SS (i 27).toInt.toNat (0 + 1) 0 i63 r63 ∧ ((upd (upd (upd i 23 v_58) 26 0) 28 0) 23).toInt < (i63 23).toInt ∧ (i63 28).toInt = ((upd (upd (upd i 23 v_58) 26 0) 28 0) 28).toInt ∧ (∀ j, j < ((upd (upd (upd i 23 v_58) 26 0) 28 0) 28).toInt.toNat → r63 22 j = (va_up (va_up r 23 (upd (r 23) ((i 29).toNatClampNeg) r_1)) 24 (upd (r 24) ((i 29).toNatClampNeg) (i 27))) 22 j) ∧ low (i 27).toInt.toNat (va_up (va_up r 23 (upd (r 23) ((i 29).toNatClampNeg) r_1)) 24 (upd (r 24) ((i 29).toNatClampNeg) (i 27))) r63 := hrs62
            refine lv_if_ne (tgt := 122) hx hb dX12_readsClause_117 (by decide) (fun c_64 => ?_) (fun c_64 => absurd c_64 (by decide))
            refine lv_aload_n hx hb dX12_readsClause_122 rfl (lv_at hl 1 rfl) ?_
            have hse := SS_seg hrs62.1 (by rw [hrs62.2.2.1]; rfl) hRi
            have hNP0 : NP i63 := hse.2
            have e29a : i63 29 = i 29 := hE1 29 (by decide)
            have hle0 := (SS_n hrs62.1).1
            have hlow0 : low (i 27).toInt.toNat r r63 := low_tr (low_eq rfl) hrs62.2.2.2.2
            have hl23 : (i 23).toInt < (i63 23).toInt := by have h9 := hrs62.2.1; have h8 : ((upd (upd (upd i 23 v_58) 26 0) 28 0) 23).toInt = v_58.toInt := rfl; omega
            have hq23 : r63 23 = (va_up (va_up r 23 (upd (r 23) ((i 29).toNatClampNeg) r_1)) 24 (upd (r 24) ((i 29).toNatClampNeg) (i 27))) 23 := hE2 23 (by decide)
            have hq24 : r63 24 = (va_up (va_up r 23 (upd (r 23) ((i 29).toNatClampNeg) r_1)) 24 (upd (r 24) ((i 29).toNatClampNeg) (i 27))) 24 := hE2 24 (by decide)
            have hq25 : r63 25 = (va_up (va_up r 23 (upd (r 23) ((i 29).toNatClampNeg) r_1)) 24 (upd (r 24) ((i 29).toNatClampNeg) (i 27))) 25 := hE2 25 (by decide)
            have hq26 : r63 26 = (va_up (va_up r 23 (upd (r 23) ((i 29).toNatClampNeg) r_1)) 24 (upd (r 24) ((i 29).toNatClampNeg) (i 27))) 26 := hE2 26 (by decide)
            have hg29b : 0 ≤ (i63 29).toInt ∧ (i63 29).toInt ≤ 13 := by rw [e29a]; omega
            have hg27b : 0 ≤ (i63 27).toInt ∧ (i63 27).toInt ≤ 220 := hRi 27
            refine va_get (D := D) (ci := 12) (v := .ref (a 25)) (C := RX12) (T := TX12) (N := 91) hx hb hT iX12 hown hK hP 0 rfl rfl 36 (by decide) (hT _ t_792) (fun _ h9 => h9) rfl dX12_readsClause_123 ?_
            refine lv_aload_n hx hb dX12_readsClause_126 rfl (lv_at hl 1 rfl) ?_
            refine va_get (D := D) (ci := 12) (v := .int (i63 29)) (C := RX12) (T := TX12) (N := 91) hx hb hT iX12 hown hK hP 0 rfl rfl 29 (by decide) (hT _ t_904) (fun _ h9 => h9) rfl dX12_readsClause_127 ?_
            have hg_65 : 0 ≤ (i63 29).toInt ∧ (i63 29).toInt ≤ 14 := hRi 29
            refine lv_aload_n hx hb dX12_readsClause_130 rfl (lv_at hl 1 rfl) ?_
            refine va_get (D := D) (ci := 12) (v := .int (i63 27)) (C := RX12) (T := TX12) (N := 91) hx hb hT iX12 hown hK hP 0 rfl rfl 27 (by decide) (hT _ t_847) (fun _ h9 => h9) rfl dX12_readsClause_131 ?_
            have hg_66 : 0 ≤ (i63 27).toInt ∧ (i63 27).toInt ≤ 220 := hRi 27
            refine va_iast hx hb hK hP hD hS 25 0 rfl rfl (vp_inI (by omega) (by omega)) dX12_readsClause_134 (fun H locs hP hD hS => ?_)
            rw [mS25] at hP hD
            have hRr : mRr (va_up r63 25 (upd (r63 25) ((i63 29).toNatClampNeg) (i63 27))) := Rr_upd hRr 25 ((i63 29).toNatClampNeg) (i63 27) ⟨by show (0 : Int) ≤ (i63 27).toInt; omega, by show (i63 27).toInt ≤ (220 : Int); omega⟩
            have hEr : mEr [21, 22, 23, 24, 25, 26] _ (va_up r63 25 (upd (r63 25) ((i63 29).toNatClampNeg) (i63 27))) := Er_up hEr 25 _ (by decide)
            refine lv_aload_n hx hb dX12_readsClause_135 rfl (lv_at hl 1 rfl) ?_
            have hNP : NP i63 := hNP0
            have hF_67 := rF hD hS hA
            refine va_calli (va_runV (As := []) (rest := []) ⟨hx, hb, hml, hown, hT⟩ (c_X12_readsCondition l D cy a i63 (va_up r63 25 (upd (r63 25) ((i63 29).toNatClampNeg) (i63 27))) rl _ hRi hRr hNP) (cwV 0 hT (gV t_905 t_906 t_907 t_908 t_6) rfl rfl rfl (by decide +kernel) ⟨Nat.le_of_ble_eq_true rfl, Nat.le_of_ble_eq_true rfl⟩) (rQ_v hP hK hD (va_recv hK hP (ci := 12) (q0 := 0) rfl rfl)) rfl rfl hl.1 rfl (lv_room (Nat.le_of_ble_eq_true rfl)) dX12_readsClause_136 ⟨Nat.le_of_ble_eq_true rfl, Nat.le_of_ble_eq_true rfl⟩) hS (fun q _ h => hF_67 q h) hF_67 (fun r_68 u_69 t H1 locs ht hvm hr_68 hB hz1 hk1 hS => ?_)
            obtain ⟨i69, r69⟩ := u_69
            obtain ⟨hP, hK1, hD1⟩ := hB
            rw [ht] at hP
            have hD := hD1.weaken (fun k q _ h => hF_67 q.1 h)
            have hP : va_P D vwCl (mW cy a i69 r69 rl) H1 := hP
            have hD : va_D A (mW cy a i69 r69 rl) := hD
            obtain ⟨hRi, hRr, hE1, hE2, hr_68⟩ := hr_68
            have hRi : mRi i69 := hRi
            have hRr : mRr r69 := hRr
            have hEi : mEi [23, 25, 26, 27, 28, 29, 30] _ i69 := Ei_tr hEi hE1 (by decide)
            have hEr : mEr [21, 22, 23, 24, 25, 26] _ r69 := Er_tr hEr hE2 (by decide)
            rcases hr_68 with ⟨rfl, hrd68⟩ | rfl
            · have hrd68 : segOK (r69 21) (i63 27).toInt.toNat (i69 27).toInt.toNat ∧ (i63 23).toInt < (i69 23).toInt ∧ NP i69 ∧ low (i63 27).toInt.toNat (va_up r63 25 (upd (r63 25) ((i63 29).toNatClampNeg) (i63 27))) r69 := hrd68
              refine lv_if_ne (tgt := 144) hx hb dX12_readsClause_139 (by decide) (fun c_70 => ?_) (fun c_70 => absurd c_70 (by decide))
              refine lv_aload_n hx hb dX12_readsClause_144 rfl (lv_at hl 1 rfl) ?_
              have e29b : i69 29 = i63 29 := hE1 29 (by decide)
              have hg29c : 0 ≤ (i69 29).toInt ∧ (i69 29).toInt ≤ 13 := by rw [e29b]; show 0 ≤ (i63 29).toInt ∧ (i63 29).toInt ≤ 13; omega
              have hz23 : r69 23 = (va_up r63 25 (upd (r63 25) ((i63 29).toNatClampNeg) (i63 27))) 23 := hE2 23 (by decide)
              have hz24 : r69 24 = (va_up r63 25 (upd (r63 25) ((i63 29).toNatClampNeg) (i63 27))) 24 := hE2 24 (by decide)
              have hz25 : r69 25 = (va_up r63 25 (upd (r63 25) ((i63 29).toNatClampNeg) (i63 27))) 25 := hE2 25 (by decide)
              have hz26 : r69 26 = (va_up r63 25 (upd (r63 25) ((i63 29).toNatClampNeg) (i63 27))) 26 := hE2 26 (by decide)
              refine va_get (D := D) (ci := 12) (v := .ref (a 26)) (C := RX12) (T := TX12) (N := 91) hx hb hT iX12 hown hK hP 0 rfl rfl 37 (by decide) (hT _ t_793) (fun _ h9 => h9) rfl dX12_readsClause_145 ?_
              refine lv_aload_n hx hb dX12_readsClause_148 rfl (lv_at hl 1 rfl) ?_
              refine va_get (D := D) (ci := 12) (v := .int (i69 29)) (C := RX12) (T := TX12) (N := 91) hx hb hT iX12 hown hK hP 0 rfl rfl 29 (by decide) (hT _ t_904) (fun _ h9 => h9) rfl dX12_readsClause_149 ?_
              have hg_71 : 0 ≤ (i69 29).toInt ∧ (i69 29).toInt ≤ 14 := hRi 29
              refine lv_aload_n hx hb dX12_readsClause_152 rfl (lv_at hl 1 rfl) ?_
              refine va_get (D := D) (ci := 12) (v := .int (i69 27)) (C := RX12) (T := TX12) (N := 91) hx hb hT iX12 hown hK hP 0 rfl rfl 27 (by decide) (hT _ t_847) (fun _ h9 => h9) rfl dX12_readsClause_153 ?_
              have hg_72 : 0 ≤ (i69 27).toInt ∧ (i69 27).toInt ≤ 220 := hRi 27
              refine va_iast hx hb hK hP hD hS 26 0 rfl rfl (vp_inI (by omega) (by omega)) dX12_readsClause_156 (fun H locs hP hD hS => ?_)
              rw [mS26] at hP hD
              have hRr : mRr (va_up r69 26 (upd (r69 26) ((i69 29).toNatClampNeg) (i69 27))) := Rr_upd hRr 26 ((i69 29).toNatClampNeg) (i69 27) ⟨by show (0 : Int) ≤ (i69 27).toInt; omega, by show (i69 27).toInt ≤ (220 : Int); omega⟩
              have hEr : mEr [21, 22, 23, 24, 25, 26] _ (va_up r69 26 (upd (r69 26) ((i69 29).toNatClampNeg) (i69 27))) := Er_up hEr 26 _ (by decide)
              refine lv_aload_n hx hb dX12_readsClause_157 rfl (lv_at hl 1 rfl) ?_
              refine lv_aload_n hx hb dX12_readsClause_158 rfl (lv_at hl 1 rfl) ?_
              refine va_get (D := D) (ci := 12) (v := .int (i69 29)) (C := RX12) (T := TX12) (N := 91) hx hb hT iX12 hown hK hP 0 rfl rfl 29 (by decide) (hT _ t_904) (fun _ h9 => h9) rfl dX12_readsClause_159 ?_
              refine lv_iconst (v := 1) hx hb dX12_readsClause_162 (by decide) ?_
              refine lv_iadd hx hb dX12_readsClause_163 ?_
              refine lv_topi (fun v_73 ev_73 => ?_)
              have hv_73 : v_73.toInt = (i69 29).toInt + 1 := by rw [ev_73]; have := b_rg (i69 29); exact i_add (a := (i69 29).toInt) (b := 1) rfl rfl (by omega) (by omega)
              refine va_put (D := D) (ci := 12) (v := .int v_73) (ty := .int) (C := RX12) (T := TX12) (N := 91) hx hb hT iX12 tyX12 tyX12_ok nmX12 hown hK hP hD hS 0 rfl rfl 29 (by decide) (hT _ t_904) (fun _ h9 => h9) rfl (by decide +kernel) rfl rfl (Nat.le_of_ble_eq_true rfl) dX12_readsClause_164 (fun H locs hP hD hS => ?_)
              rw [mP29] at hP hD
              have hRi := Ri_upd hRi 29 v_73 ⟨by show (0 : Int) ≤ v_73.toInt; omega, by show v_73.toInt ≤ (14 : Int); omega⟩
              have hEi := Ei_upd hEi 29 v_73 (by decide)
              refine lv_iconst (v := 1) hx hb dX12_readsClause_167 (by decide) ?_
              subst hQ
              have hi29 : (i69 29).toInt.toNat = (i 29).toInt.toNat := by rw [e29b]; show (i63 29).toInt.toNat = _; rw [e29a]
              have f23 : (va_up r69 26 (upd (r69 26) ((i69 29).toNatClampNeg) (i69 27))) 23 = upd (r 23) (i 29).toInt.toNat r_1 := by show r69 23 = _; rw [hz23]; show r63 23 = _; rw [hq23]; rfl
              have f24 : (va_up r69 26 (upd (r69 26) ((i69 29).toNatClampNeg) (i69 27))) 24 = upd (r 24) (i 29).toInt.toNat (i 27) := by show r69 24 = _; rw [hz24]; show r63 24 = _; rw [hq24]; rfl
              have f25 : (va_up r69 26 (upd (r69 26) ((i69 29).toNatClampNeg) (i69 27))) 25 = upd (r 25) (i 29).toInt.toNat (i63 27) := by show r69 25 = _; rw [hz25]; show upd (r63 25) (i63 29).toInt.toNat _ = _; rw [hq25, e29a]; rfl
              have f26 : (va_up r69 26 (upd (r69 26) ((i69 29).toNatClampNeg) (i69 27))) 26 = upd (r 26) (i 29).toInt.toNat (i69 27) := by show upd (r69 26) (i69 29).toInt.toNat _ = _; rw [hi29, hz26]; show upd (r63 26) _ _ = _; rw [hq26]; rfl
              have hlow9 : low (i 27).toInt.toNat r (va_up r69 26 (upd (r69 26) ((i69 29).toNatClampNeg) (i69 27))) := low_tr hlow0 (fun k9 hk9 => hrd68.2.2.2 k9 (Nat.lt_of_lt_of_le hk9 hle0))
              have hs2 : r_1.toInt ≠ 98 → segOK ((va_up r69 26 (upd (r69 26) ((i69 29).toNatClampNeg) (i69 27))) 21) (i 27).toInt.toNat (i63 27).toInt.toNat := fun _ => segOK_congr hse.1 (fun k9 hk9 => hrd68.2.2.2 k9 hk9)
              have hci : CIv (upd i69 29 v_73) (va_up r69 26 (upd (r69 26) ((i69 29).toNatClampNeg) (i69 27))) := RK_of (c := r_1) (v2 := i63 27) (v3 := i69 27) hC (by omega) (by show v_73.toInt = _; have h9 : (i69 29).toInt = (i 29).toInt := (by rw [e29b]; show (i63 29).toInt = _; rw [e29a]); omega) f23 f24 f25 f26 hlow9 hrd68.1 hs2 hle0 rfl hrd68.2.2.1
              have hj : RK i r 1 (upd i69 29 v_73) (va_up r69 26 (upd (r69 26) ((i69 29).toNatClampNeg) (i69 27))) := Or.inl ⟨rfl, hci, by have h9 := hrd68.2.1; exact Int.lt_trans hl23 h9⟩
              exact W.zret hx hb hr rfl (fun t ht hW => ⟨⟨_, (upd i69 29 v_73, va_up r69 26 (upd (r69 26) ((i69 29).toNatClampNeg) (i69 27))), rfl, ⟨hRi, hRr, hEi, hEr, hj⟩, by rw [ht]; exact hP, va_K.moved hW.alike hK, hD⟩, hS.F ht⟩) hS.2.2 dX12_readsClause_168
            · skip
              refine lv_if_ne (tgt := 144) hx hb dX12_readsClause_139 (by decide) (fun c_74 => absurd (by decide) c_74) (fun c_74 => ?_)
              refine lv_iconst (v := 0) hx hb dX12_readsClause_142 (by decide) ?_
              subst hQ
              exact W.zret hx hb hr rfl (fun t ht hW => ⟨⟨_, (i69, r69), rfl, ⟨hRi, hRr, hEi, hEr, (Or.inr rfl)⟩, by rw [ht]; exact hP, va_K.moved hW.alike hK, hD⟩, hS.F ht⟩) hS.2.2 dX12_readsClause_143
          · skip
            refine lv_if_ne (tgt := 122) hx hb dX12_readsClause_117 (by decide) (fun c_75 => absurd (by decide) c_75) (fun c_75 => ?_)
            refine lv_iconst (v := 0) hx hb dX12_readsClause_120 (by decide) ?_
            subst hQ
            exact W.zret hx hb hr rfl (fun t ht hW => ⟨⟨_, (i63, r63), rfl, ⟨hRi, hRr, hEi, hEr, (Or.inr rfl)⟩, by rw [ht]; exact hP, va_K.moved hW.alike hK, hD⟩, hS.F ht⟩) hS.2.2 dX12_readsClause_121
        · have c_56 : (i 29).toInt = 14 := b_nne c_56
          refine lv_aload_n hx hb dX12_readsClause_54 rfl (lv_at hl 1 rfl) ?_
          refine lv_iconst (v := 4) hx hb dX12_readsClause_55 (by decide) ?_
          refine lv_aload_n hx hb dX12_readsClause_56 rfl (lv_at hl 1 rfl) ?_
          refine va_get (D := D) (ci := 12) (v := .int (i 23)) (C := RX12) (T := TX12) (N := 91) hx hb hT iX12 hown hK hP 0 rfl rfl 23 (by decide) (hT _ t_252) (fun _ h9 => h9) rfl dX12_readsClause_57 ?_
          have hg_76 : 0 ≤ (i 23).toInt ∧ (i 23).toInt ≤ 200 := hRi 23
          have hF_77 := rF hD hS hA
          refine va_calli (va_runV (As := [.int 4, .int (i 23)]) (rest := []) ⟨hx, hb, hml, hown, hT⟩ (c_X12_wrongAt l D cy a i r rl 4 (i 23) _ hRi hRr) (cwV 2 hT (gV t_259 t_260 t_261 t_262 t_6) rfl rfl rfl (by decide +kernel) ⟨Nat.le_of_ble_eq_true rfl, Nat.le_of_ble_eq_true rfl⟩) (rQ_v hP hK hD (va_recv hK hP (ci := 12) (q0 := 0) rfl rfl)) rfl rfl hl.1 rfl (lv_room (Nat.le_of_ble_eq_true rfl)) dX12_readsClause_60 ⟨Nat.le_of_ble_eq_true rfl, Nat.le_of_ble_eq_true rfl⟩) hS (fun q _ h => hF_77 q h) hF_77 (fun r_78 u_79 t H1 locs ht hvm hr_78 hB hz1 hk1 hS => ?_)
          obtain ⟨i79, r79⟩ := u_79
          obtain ⟨hP, hK1, hD1⟩ := hB
          rw [ht] at hP
          have hD := hD1.weaken (fun k q _ h => hF_77 q.1 h)
          have hP : va_P D vwCl (mW cy a i79 r79 rl) H1 := hP
          have hD : va_D A (mW cy a i79 r79 rl) := hD
          obtain ⟨hRi, hRr, hE1, hE2, hr_78⟩ := hr_78
          have hRi : mRi i79 := hRi
          have hRr : mRr r79 := hRr
          have hEi : mEi [23, 25, 26, 27, 28, 29, 30] _ i79 := Ei_tr hEi hE1 (by decide)
          have hEr : mEr [21, 22, 23, 24, 25, 26] _ r79 := Er_tr hEr hE2 (by decide)
          subst hr_78
          subst hQ
          exact W.zret hx hb hr rfl (fun t ht hW => ⟨⟨_, (i79, r79), rfl, ⟨hRi, hRr, hEi, hEr, (Or.inr rfl)⟩, by rw [ht]; exact hP, va_K.moved hW.alike hK, hD⟩, hS.F ht⟩) hS.2.2 dX12_readsClause_63
      · have c_54 : r_1.toInt ≠ 100 := b_ne c_54
        refine lv_iload_n hx hb dX12_readsClause_23 rfl (lv_at hl 0 rfl) ?_
        refine lv_bipush (v := 116) hx hb dX12_readsClause_24 (by decide) ?_
        refine lv_icmp_eq (tgt := 45) hx hb dX12_readsClause_26 (by decide) (fun c_80 => ?_) (fun c_80 => ?_)
        · have c_80 : r_1.toInt = 116 := b_eq c_80
          refine lv_aload_n hx hb dX12_readsClause_45 rfl (lv_at hl 1 rfl) ?_
          have hlt9 := mHere_lt (i := i) (r := r) (by omega)
          refine va_get (D := D) (ci := 12) (v := .int (i 29)) (C := RX12) (T := TX12) (N := 91) hx hb hT iX12 hown hK hP 0 rfl rfl 29 (by decide) (hT _ t_904) (fun _ h9 => h9) rfl dX12_readsClause_46 ?_
          have hg_81 : 0 ≤ (i 29).toInt ∧ (i 29).toInt ≤ 14 := hRi 29
          refine lv_bipush (v := 14) hx hb dX12_readsClause_49 (by decide) ?_
          refine lv_icmp_ne (tgt := 64) hx hb dX12_readsClause_51 (by decide) (fun c_82 => ?_) (fun c_82 => ?_)
          · have c_82 : (i 29).toInt ≠ 14 := b_ne c_82
            refine lv_aload_n hx hb dX12_readsClause_64 rfl (lv_at hl 1 rfl) ?_
            have hb29 : (i 29).toInt ≤ 13 := by omega
            refine va_get (D := D) (ci := 12) (v := .ref (a 23)) (C := RX12) (T := TX12) (N := 91) hx hb hT iX12 hown hK hP 0 rfl rfl 34 (by decide) (hT _ t_790) (fun _ h9 => h9) rfl dX12_readsClause_65 ?_
            refine lv_aload_n hx hb dX12_readsClause_68 rfl (lv_at hl 1 rfl) ?_
            refine va_get (D := D) (ci := 12) (v := .int (i 29)) (C := RX12) (T := TX12) (N := 91) hx hb hT iX12 hown hK hP 0 rfl rfl 29 (by decide) (hT _ t_904) (fun _ h9 => h9) rfl dX12_readsClause_69 ?_
            refine lv_iload_n hx hb dX12_readsClause_72 rfl (lv_at hl 0 rfl) ?_
            refine va_iast hx hb hK hP hD hS 23 0 rfl rfl (vp_inI (by omega) (by omega)) dX12_readsClause_73 (fun H locs hP hD hS => ?_)
            rw [mS23] at hP hD
            have hRr : mRr (va_up r 23 (upd (r 23) ((i 29).toNatClampNeg) r_1)) := Rr_upd hRr 23 ((i 29).toNatClampNeg) r_1 (b_rg _)
            have hEr : mEr [21, 22, 23, 24, 25, 26] _ (va_up r 23 (upd (r 23) ((i 29).toNatClampNeg) r_1)) := Er_up hEr 23 _ (by decide)
            refine lv_aload_n hx hb dX12_readsClause_74 rfl (lv_at hl 1 rfl) ?_
            refine lv_aload_n hx hb dX12_readsClause_75 rfl (lv_at hl 1 rfl) ?_
            refine va_get (D := D) (ci := 12) (v := .int (i 23)) (C := RX12) (T := TX12) (N := 91) hx hb hT iX12 hown hK hP 0 rfl rfl 23 (by decide) (hT _ t_252) (fun _ h9 => h9) rfl dX12_readsClause_76 ?_
            have hg_83 : 0 ≤ (i 23).toInt ∧ (i 23).toInt ≤ 200 := hRi 23
            refine lv_iconst (v := 1) hx hb dX12_readsClause_79 (by decide) ?_
            refine lv_iadd hx hb dX12_readsClause_80 ?_
            refine lv_topi (fun v_84 ev_84 => ?_)
            have hv_84 : v_84.toInt = (i 23).toInt + 1 := by rw [ev_84]; have := b_rg (i 23); exact i_add (a := (i 23).toInt) (b := 1) rfl rfl (by omega) (by omega)
            refine va_put (D := D) (ci := 12) (v := .int v_84) (ty := .int) (C := RX12) (T := TX12) (N := 91) hx hb hT iX12 tyX12 tyX12_ok nmX12 hown hK hP hD hS 0 rfl rfl 23 (by decide) (hT _ t_252) (fun _ h9 => h9) rfl (by decide +kernel) rfl rfl (Nat.le_of_ble_eq_true rfl) dX12_readsClause_81 (fun H locs hP hD hS => ?_)
            rw [mP23] at hP hD
            have hRi := Ri_upd hRi 23 v_84 ⟨by show (0 : Int) ≤ v_84.toInt; omega, by show v_84.toInt ≤ (200 : Int); omega⟩
            have hEi := Ei_upd hEi 23 v_84 (by decide)
            refine lv_aload_n hx hb dX12_readsClause_84 rfl (lv_at hl 1 rfl) ?_
            refine va_get (D := D) (ci := 12) (v := .ref (a 24)) (C := RX12) (T := TX12) (N := 91) hx hb hT iX12 hown hK hP 0 rfl rfl 35 (by decide) (hT _ t_791) (fun _ h9 => h9) rfl dX12_readsClause_85 ?_
            refine lv_aload_n hx hb dX12_readsClause_88 rfl (lv_at hl 1 rfl) ?_
            refine va_get (D := D) (ci := 12) (v := .int (i 29)) (C := RX12) (T := TX12) (N := 91) hx hb hT iX12 hown hK hP 0 rfl rfl 29 (by decide) (hT _ t_904) (fun _ h9 => h9) rfl dX12_readsClause_89 ?_
            refine lv_aload_n hx hb dX12_readsClause_92 rfl (lv_at hl 1 rfl) ?_
            refine va_get (D := D) (ci := 12) (v := .int (i 27)) (C := RX12) (T := TX12) (N := 91) hx hb hT iX12 hown hK hP 0 rfl rfl 27 (by decide) (hT _ t_847) (fun _ h9 => h9) rfl dX12_readsClause_93 ?_
            have hg_85 : 0 ≤ (i 27).toInt ∧ (i 27).toInt ≤ 220 := hRi 27
            refine va_iast hx hb hK hP hD hS 24 0 rfl rfl (vp_inI (by omega) (by omega)) dX12_readsClause_96 (fun H locs hP hD hS => ?_)
            rw [mS24] at hP hD
            have hRr : mRr (va_up (va_up r 23 (upd (r 23) ((i 29).toNatClampNeg) r_1)) 24 (upd (r 24) ((i 29).toNatClampNeg) (i 27))) := Rr_upd hRr 24 ((i 29).toNatClampNeg) (i 27) ⟨by show (0 : Int) ≤ (i 27).toInt; omega, by show (i 27).toInt ≤ (220 : Int); omega⟩
            have hEr : mEr [21, 22, 23, 24, 25, 26] _ (va_up (va_up r 23 (upd (r 23) ((i 29).toNatClampNeg) r_1)) 24 (upd (r 24) ((i 29).toNatClampNeg) (i 27))) := Er_up hEr 24 _ (by decide)
            refine lv_aload_n hx hb dX12_readsClause_97 rfl (lv_at hl 1 rfl) ?_
            refine lv_iconst (v := 0) hx hb dX12_readsClause_98 (by decide) ?_
            refine va_put (D := D) (ci := 12) (v := .int 0) (ty := .int) (C := RX12) (T := TX12) (N := 91) hx hb hT iX12 tyX12 tyX12_ok nmX12 hown hK hP hD hS 0 rfl rfl 26 (by decide) (hT _ t_848) (fun _ h9 => h9) rfl (by decide +kernel) rfl rfl (Nat.le_of_ble_eq_true rfl) dX12_readsClause_99 (fun H locs hP hD hS => ?_)
            rw [mP26] at hP hD
            have hRi := Ri_upd hRi 26 0 (b_rg _)
            have hEi := Ei_upd hEi 26 0 (by decide)
            refine lv_aload_n hx hb dX12_readsClause_102 rfl (lv_at hl 1 rfl) ?_
            refine lv_iconst (v := 0) hx hb dX12_readsClause_103 (by decide) ?_
            refine va_put (D := D) (ci := 12) (v := .int 0) (ty := .int) (C := RX12) (T := TX12) (N := 91) hx hb hT iX12 tyX12 tyX12_ok nmX12 hown hK hP hD hS 0 rfl rfl 28 (by decide) (hT _ t_849) (fun _ h9 => h9) rfl (by decide +kernel) rfl rfl (Nat.le_of_ble_eq_true rfl) dX12_readsClause_104 (fun H locs hP hD hS => ?_)
            rw [mP28] at hP hD
            have hRi := Ri_upd hRi 28 0 ⟨by decide, by decide⟩
            have hEi := Ei_upd hEi 28 0 (by decide)
            refine lv_iload_n hx hb dX12_readsClause_107 rfl (lv_at hl 0 rfl) ?_
            refine lv_bipush (v := 98) hx hb dX12_readsClause_108 (by decide) ?_
            refine lv_icmp_eq (tgt := 122) hx hb dX12_readsClause_110 (by decide) (fun c_86 => by have c_86 : r_1.toInt = 98 := b_eq c_86; omega) (fun c_86 => ?_)
            have c_86 : r_1.toInt ≠ 98 := b_ne c_86
            refine lv_aload_n hx hb dX12_readsClause_113 rfl (lv_at hl 1 rfl) ?_
            have hZ : SS (i 27).toInt.toNat 0 0 (upd (upd (upd i 23 v_84) 26 0) 28 0) (va_up (va_up r 23 (upd (r 23) ((i 29).toNatClampNeg) r_1)) 24 (upd (r 24) ((i 29).toNatClampNeg) (i 27))) := SS_b0 hC.1 rfl rfl (by show v_84.toInt = _; omega)
            have hO : outB ((va_up (va_up r 23 (upd (r 23) ((i 29).toNatClampNeg) r_1)) 24 (upd (r 24) ((i 29).toNatClampNeg) (i 27))) 22) ((upd (upd (upd i 23 v_84) 26 0) 28 0) 28).toInt.toNat := outB0 rfl
            have hF_87 := rF hD hS hA
            refine va_calli (va_runV (As := []) (rest := []) ⟨hx, hb, hml, hown, hT⟩ (c_X12_readsSum l D cy a (upd (upd (upd i 23 v_84) 26 0) 28 0) (va_up (va_up r 23 (upd (r 23) ((i 29).toNatClampNeg) r_1)) 24 (upd (r 24) ((i 29).toNatClampNeg) (i 27))) rl _ hRi hRr ((i 27).toInt.toNat) 0 0 hZ hO) (cwV 0 hT (gV t_884 t_885 t_886 t_887 t_6) rfl rfl rfl (by decide +kernel) ⟨Nat.le_of_ble_eq_true rfl, Nat.le_of_ble_eq_true rfl⟩) (rQ_v hP hK hD (va_recv hK hP (ci := 12) (q0 := 0) rfl rfl)) rfl rfl hl.1 rfl (lv_room (Nat.le_of_ble_eq_true rfl)) dX12_readsClause_114 ⟨Nat.le_of_ble_eq_true rfl, Nat.le_of_ble_eq_true rfl⟩) hS (fun q _ h => hF_87 q h) hF_87 (fun r_88 u_89 t H1 locs ht hvm hr_88 hB hz1 hk1 hS => ?_)
            obtain ⟨i89, r89⟩ := u_89
            obtain ⟨hP, hK1, hD1⟩ := hB
            rw [ht] at hP
            have hD := hD1.weaken (fun k q _ h => hF_87 q.1 h)
            have hP : va_P D vwCl (mW cy a i89 r89 rl) H1 := hP
            have hD : va_D A (mW cy a i89 r89 rl) := hD
            obtain ⟨hRi, hRr, hE1, hE2, hr_88⟩ := hr_88
            have hRi : mRi i89 := hRi
            have hRr : mRr r89 := hRr
            have hEi : mEi [23, 25, 26, 27, 28, 29, 30] _ i89 := Ei_tr hEi hE1 (by decide)
            have hEr : mEr [21, 22, 23, 24, 25, 26] _ r89 := Er_tr hEr hE2 (by decide)
            rcases hr_88 with ⟨rfl, hrs88⟩ | rfl
            · have hrs88 : SS (i 27).toInt.toNat (0 + 1) 0 i89 r89 ∧ ((upd (upd (upd i 23 v_84) 26 0) 28 0) 23).toInt < (i89 23).toInt ∧ (i89 28).toInt = ((upd (upd (upd i 23 v_84) 26 0) 28 0) 28).toInt ∧ (∀ j, j < ((upd (upd (upd i 23 v_84) 26 0) 28 0) 28).toInt.toNat → r89 22 j = (va_up (va_up r 23 (upd (r 23) ((i 29).toNatClampNeg) r_1)) 24 (upd (r 24) ((i 29).toNatClampNeg) (i 27))) 22 j) ∧ low (i 27).toInt.toNat (va_up (va_up r 23 (upd (r 23) ((i 29).toNatClampNeg) r_1)) 24 (upd (r 24) ((i 29).toNatClampNeg) (i 27))) r89 := hrs88
              refine lv_if_ne (tgt := 122) hx hb dX12_readsClause_117 (by decide) (fun c_90 => ?_) (fun c_90 => absurd c_90 (by decide))
              refine lv_aload_n hx hb dX12_readsClause_122 rfl (lv_at hl 1 rfl) ?_
              have hse := SS_seg hrs88.1 (by rw [hrs88.2.2.1]; rfl) hRi
              have hNP0 : NP i89 := hse.2
              have e29a : i89 29 = i 29 := hE1 29 (by decide)
              have hle0 := (SS_n hrs88.1).1
              have hlow0 : low (i 27).toInt.toNat r r89 := low_tr (low_eq rfl) hrs88.2.2.2.2
              have hl23 : (i 23).toInt < (i89 23).toInt := by have h9 := hrs88.2.1; have h8 : ((upd (upd (upd i 23 v_84) 26 0) 28 0) 23).toInt = v_84.toInt := rfl; omega
              have hq23 : r89 23 = (va_up (va_up r 23 (upd (r 23) ((i 29).toNatClampNeg) r_1)) 24 (upd (r 24) ((i 29).toNatClampNeg) (i 27))) 23 := hE2 23 (by decide)
              have hq24 : r89 24 = (va_up (va_up r 23 (upd (r 23) ((i 29).toNatClampNeg) r_1)) 24 (upd (r 24) ((i 29).toNatClampNeg) (i 27))) 24 := hE2 24 (by decide)
              have hq25 : r89 25 = (va_up (va_up r 23 (upd (r 23) ((i 29).toNatClampNeg) r_1)) 24 (upd (r 24) ((i 29).toNatClampNeg) (i 27))) 25 := hE2 25 (by decide)
              have hq26 : r89 26 = (va_up (va_up r 23 (upd (r 23) ((i 29).toNatClampNeg) r_1)) 24 (upd (r 24) ((i 29).toNatClampNeg) (i 27))) 26 := hE2 26 (by decide)
              have hg29b : 0 ≤ (i89 29).toInt ∧ (i89 29).toInt ≤ 13 := by rw [e29a]; omega
              have hg27b : 0 ≤ (i89 27).toInt ∧ (i89 27).toInt ≤ 220 := hRi 27
              refine va_get (D := D) (ci := 12) (v := .ref (a 25)) (C := RX12) (T := TX12) (N := 91) hx hb hT iX12 hown hK hP 0 rfl rfl 36 (by decide) (hT _ t_792) (fun _ h9 => h9) rfl dX12_readsClause_123 ?_
              refine lv_aload_n hx hb dX12_readsClause_126 rfl (lv_at hl 1 rfl) ?_
              refine va_get (D := D) (ci := 12) (v := .int (i89 29)) (C := RX12) (T := TX12) (N := 91) hx hb hT iX12 hown hK hP 0 rfl rfl 29 (by decide) (hT _ t_904) (fun _ h9 => h9) rfl dX12_readsClause_127 ?_
              have hg_91 : 0 ≤ (i89 29).toInt ∧ (i89 29).toInt ≤ 14 := hRi 29
              refine lv_aload_n hx hb dX12_readsClause_130 rfl (lv_at hl 1 rfl) ?_
              refine va_get (D := D) (ci := 12) (v := .int (i89 27)) (C := RX12) (T := TX12) (N := 91) hx hb hT iX12 hown hK hP 0 rfl rfl 27 (by decide) (hT _ t_847) (fun _ h9 => h9) rfl dX12_readsClause_131 ?_
              have hg_92 : 0 ≤ (i89 27).toInt ∧ (i89 27).toInt ≤ 220 := hRi 27
              refine va_iast hx hb hK hP hD hS 25 0 rfl rfl (vp_inI (by omega) (by omega)) dX12_readsClause_134 (fun H locs hP hD hS => ?_)
              rw [mS25] at hP hD
              have hRr : mRr (va_up r89 25 (upd (r89 25) ((i89 29).toNatClampNeg) (i89 27))) := Rr_upd hRr 25 ((i89 29).toNatClampNeg) (i89 27) ⟨by show (0 : Int) ≤ (i89 27).toInt; omega, by show (i89 27).toInt ≤ (220 : Int); omega⟩
              have hEr : mEr [21, 22, 23, 24, 25, 26] _ (va_up r89 25 (upd (r89 25) ((i89 29).toNatClampNeg) (i89 27))) := Er_up hEr 25 _ (by decide)
              refine lv_aload_n hx hb dX12_readsClause_135 rfl (lv_at hl 1 rfl) ?_
              have hNP : NP i89 := hNP0
              have hF_93 := rF hD hS hA
              refine va_calli (va_runV (As := []) (rest := []) ⟨hx, hb, hml, hown, hT⟩ (c_X12_readsCondition l D cy a i89 (va_up r89 25 (upd (r89 25) ((i89 29).toNatClampNeg) (i89 27))) rl _ hRi hRr hNP) (cwV 0 hT (gV t_905 t_906 t_907 t_908 t_6) rfl rfl rfl (by decide +kernel) ⟨Nat.le_of_ble_eq_true rfl, Nat.le_of_ble_eq_true rfl⟩) (rQ_v hP hK hD (va_recv hK hP (ci := 12) (q0 := 0) rfl rfl)) rfl rfl hl.1 rfl (lv_room (Nat.le_of_ble_eq_true rfl)) dX12_readsClause_136 ⟨Nat.le_of_ble_eq_true rfl, Nat.le_of_ble_eq_true rfl⟩) hS (fun q _ h => hF_93 q h) hF_93 (fun r_94 u_95 t H1 locs ht hvm hr_94 hB hz1 hk1 hS => ?_)
              obtain ⟨i95, r95⟩ := u_95
              obtain ⟨hP, hK1, hD1⟩ := hB
              rw [ht] at hP
              have hD := hD1.weaken (fun k q _ h => hF_93 q.1 h)
              have hP : va_P D vwCl (mW cy a i95 r95 rl) H1 := hP
              have hD : va_D A (mW cy a i95 r95 rl) := hD
              obtain ⟨hRi, hRr, hE1, hE2, hr_94⟩ := hr_94
              have hRi : mRi i95 := hRi
              have hRr : mRr r95 := hRr
              have hEi : mEi [23, 25, 26, 27, 28, 29, 30] _ i95 := Ei_tr hEi hE1 (by decide)
              have hEr : mEr [21, 22, 23, 24, 25, 26] _ r95 := Er_tr hEr hE2 (by decide)
              rcases hr_94 with ⟨rfl, hrd94⟩ | rfl
              · have hrd94 : segOK (r95 21) (i89 27).toInt.toNat (i95 27).toInt.toNat ∧ (i89 23).toInt < (i95 23).toInt ∧ NP i95 ∧ low (i89 27).toInt.toNat (va_up r89 25 (upd (r89 25) ((i89 29).toNatClampNeg) (i89 27))) r95 := hrd94
                refine lv_if_ne (tgt := 144) hx hb dX12_readsClause_139 (by decide) (fun c_96 => ?_) (fun c_96 => absurd c_96 (by decide))
                refine lv_aload_n hx hb dX12_readsClause_144 rfl (lv_at hl 1 rfl) ?_
                have e29b : i95 29 = i89 29 := hE1 29 (by decide)
                have hg29c : 0 ≤ (i95 29).toInt ∧ (i95 29).toInt ≤ 13 := by rw [e29b]; show 0 ≤ (i89 29).toInt ∧ (i89 29).toInt ≤ 13; omega
                have hz23 : r95 23 = (va_up r89 25 (upd (r89 25) ((i89 29).toNatClampNeg) (i89 27))) 23 := hE2 23 (by decide)
                have hz24 : r95 24 = (va_up r89 25 (upd (r89 25) ((i89 29).toNatClampNeg) (i89 27))) 24 := hE2 24 (by decide)
                have hz25 : r95 25 = (va_up r89 25 (upd (r89 25) ((i89 29).toNatClampNeg) (i89 27))) 25 := hE2 25 (by decide)
                have hz26 : r95 26 = (va_up r89 25 (upd (r89 25) ((i89 29).toNatClampNeg) (i89 27))) 26 := hE2 26 (by decide)
                refine va_get (D := D) (ci := 12) (v := .ref (a 26)) (C := RX12) (T := TX12) (N := 91) hx hb hT iX12 hown hK hP 0 rfl rfl 37 (by decide) (hT _ t_793) (fun _ h9 => h9) rfl dX12_readsClause_145 ?_
                refine lv_aload_n hx hb dX12_readsClause_148 rfl (lv_at hl 1 rfl) ?_
                refine va_get (D := D) (ci := 12) (v := .int (i95 29)) (C := RX12) (T := TX12) (N := 91) hx hb hT iX12 hown hK hP 0 rfl rfl 29 (by decide) (hT _ t_904) (fun _ h9 => h9) rfl dX12_readsClause_149 ?_
                have hg_97 : 0 ≤ (i95 29).toInt ∧ (i95 29).toInt ≤ 14 := hRi 29
                refine lv_aload_n hx hb dX12_readsClause_152 rfl (lv_at hl 1 rfl) ?_
                refine va_get (D := D) (ci := 12) (v := .int (i95 27)) (C := RX12) (T := TX12) (N := 91) hx hb hT iX12 hown hK hP 0 rfl rfl 27 (by decide) (hT _ t_847) (fun _ h9 => h9) rfl dX12_readsClause_153 ?_
                have hg_98 : 0 ≤ (i95 27).toInt ∧ (i95 27).toInt ≤ 220 := hRi 27
                refine va_iast hx hb hK hP hD hS 26 0 rfl rfl (vp_inI (by omega) (by omega)) dX12_readsClause_156 (fun H locs hP hD hS => ?_)
                rw [mS26] at hP hD
                have hRr : mRr (va_up r95 26 (upd (r95 26) ((i95 29).toNatClampNeg) (i95 27))) := Rr_upd hRr 26 ((i95 29).toNatClampNeg) (i95 27) ⟨by show (0 : Int) ≤ (i95 27).toInt; omega, by show (i95 27).toInt ≤ (220 : Int); omega⟩
                have hEr : mEr [21, 22, 23, 24, 25, 26] _ (va_up r95 26 (upd (r95 26) ((i95 29).toNatClampNeg) (i95 27))) := Er_up hEr 26 _ (by decide)
                refine lv_aload_n hx hb dX12_readsClause_157 rfl (lv_at hl 1 rfl) ?_
                refine lv_aload_n hx hb dX12_readsClause_158 rfl (lv_at hl 1 rfl) ?_
                refine va_get (D := D) (ci := 12) (v := .int (i95 29)) (C := RX12) (T := TX12) (N := 91) hx hb hT iX12 hown hK hP 0 rfl rfl 29 (by decide) (hT _ t_904) (fun _ h9 => h9) rfl dX12_readsClause_159 ?_
                refine lv_iconst (v := 1) hx hb dX12_readsClause_162 (by decide) ?_
                refine lv_iadd hx hb dX12_readsClause_163 ?_
                refine lv_topi (fun v_99 ev_99 => ?_)
                have hv_99 : v_99.toInt = (i95 29).toInt + 1 := by rw [ev_99]; have := b_rg (i95 29); exact i_add (a := (i95 29).toInt) (b := 1) rfl rfl (by omega) (by omega)
                refine va_put (D := D) (ci := 12) (v := .int v_99) (ty := .int) (C := RX12) (T := TX12) (N := 91) hx hb hT iX12 tyX12 tyX12_ok nmX12 hown hK hP hD hS 0 rfl rfl 29 (by decide) (hT _ t_904) (fun _ h9 => h9) rfl (by decide +kernel) rfl rfl (Nat.le_of_ble_eq_true rfl) dX12_readsClause_164 (fun H locs hP hD hS => ?_)
                rw [mP29] at hP hD
                have hRi := Ri_upd hRi 29 v_99 ⟨by show (0 : Int) ≤ v_99.toInt; omega, by show v_99.toInt ≤ (14 : Int); omega⟩
                have hEi := Ei_upd hEi 29 v_99 (by decide)
                refine lv_iconst (v := 1) hx hb dX12_readsClause_167 (by decide) ?_
                subst hQ
                have hi29 : (i95 29).toInt.toNat = (i 29).toInt.toNat := by rw [e29b]; show (i89 29).toInt.toNat = _; rw [e29a]
                have f23 : (va_up r95 26 (upd (r95 26) ((i95 29).toNatClampNeg) (i95 27))) 23 = upd (r 23) (i 29).toInt.toNat r_1 := by show r95 23 = _; rw [hz23]; show r89 23 = _; rw [hq23]; rfl
                have f24 : (va_up r95 26 (upd (r95 26) ((i95 29).toNatClampNeg) (i95 27))) 24 = upd (r 24) (i 29).toInt.toNat (i 27) := by show r95 24 = _; rw [hz24]; show r89 24 = _; rw [hq24]; rfl
                have f25 : (va_up r95 26 (upd (r95 26) ((i95 29).toNatClampNeg) (i95 27))) 25 = upd (r 25) (i 29).toInt.toNat (i89 27) := by show r95 25 = _; rw [hz25]; show upd (r89 25) (i89 29).toInt.toNat _ = _; rw [hq25, e29a]; rfl
                have f26 : (va_up r95 26 (upd (r95 26) ((i95 29).toNatClampNeg) (i95 27))) 26 = upd (r 26) (i 29).toInt.toNat (i95 27) := by show upd (r95 26) (i95 29).toInt.toNat _ = _; rw [hi29, hz26]; show upd (r89 26) _ _ = _; rw [hq26]; rfl
                have hlow9 : low (i 27).toInt.toNat r (va_up r95 26 (upd (r95 26) ((i95 29).toNatClampNeg) (i95 27))) := low_tr hlow0 (fun k9 hk9 => hrd94.2.2.2 k9 (Nat.lt_of_lt_of_le hk9 hle0))
                have hs2 : r_1.toInt ≠ 98 → segOK ((va_up r95 26 (upd (r95 26) ((i95 29).toNatClampNeg) (i95 27))) 21) (i 27).toInt.toNat (i89 27).toInt.toNat := fun _ => segOK_congr hse.1 (fun k9 hk9 => hrd94.2.2.2 k9 hk9)
                have hci : CIv (upd i95 29 v_99) (va_up r95 26 (upd (r95 26) ((i95 29).toNatClampNeg) (i95 27))) := RK_of (c := r_1) (v2 := i89 27) (v3 := i95 27) hC (by omega) (by show v_99.toInt = _; have h9 : (i95 29).toInt = (i 29).toInt := (by rw [e29b]; show (i89 29).toInt = _; rw [e29a]); omega) f23 f24 f25 f26 hlow9 hrd94.1 hs2 hle0 rfl hrd94.2.2.1
                have hj : RK i r 1 (upd i95 29 v_99) (va_up r95 26 (upd (r95 26) ((i95 29).toNatClampNeg) (i95 27))) := Or.inl ⟨rfl, hci, by have h9 := hrd94.2.1; exact Int.lt_trans hl23 h9⟩
                exact W.zret hx hb hr rfl (fun t ht hW => ⟨⟨_, (upd i95 29 v_99, va_up r95 26 (upd (r95 26) ((i95 29).toNatClampNeg) (i95 27))), rfl, ⟨hRi, hRr, hEi, hEr, hj⟩, by rw [ht]; exact hP, va_K.moved hW.alike hK, hD⟩, hS.F ht⟩) hS.2.2 dX12_readsClause_168
              · skip
                refine lv_if_ne (tgt := 144) hx hb dX12_readsClause_139 (by decide) (fun c_100 => absurd (by decide) c_100) (fun c_100 => ?_)
                refine lv_iconst (v := 0) hx hb dX12_readsClause_142 (by decide) ?_
                subst hQ
                exact W.zret hx hb hr rfl (fun t ht hW => ⟨⟨_, (i95, r95), rfl, ⟨hRi, hRr, hEi, hEr, (Or.inr rfl)⟩, by rw [ht]; exact hP, va_K.moved hW.alike hK, hD⟩, hS.F ht⟩) hS.2.2 dX12_readsClause_143
            · skip
              refine lv_if_ne (tgt := 122) hx hb dX12_readsClause_117 (by decide) (fun c_101 => absurd (by decide) c_101) (fun c_101 => ?_)
              refine lv_iconst (v := 0) hx hb dX12_readsClause_120 (by decide) ?_
              subst hQ
              exact W.zret hx hb hr rfl (fun t ht hW => ⟨⟨_, (i89, r89), rfl, ⟨hRi, hRr, hEi, hEr, (Or.inr rfl)⟩, by rw [ht]; exact hP, va_K.moved hW.alike hK, hD⟩, hS.F ht⟩) hS.2.2 dX12_readsClause_121
          · have c_82 : (i 29).toInt = 14 := b_nne c_82
            refine lv_aload_n hx hb dX12_readsClause_54 rfl (lv_at hl 1 rfl) ?_
            refine lv_iconst (v := 4) hx hb dX12_readsClause_55 (by decide) ?_
            refine lv_aload_n hx hb dX12_readsClause_56 rfl (lv_at hl 1 rfl) ?_
            refine va_get (D := D) (ci := 12) (v := .int (i 23)) (C := RX12) (T := TX12) (N := 91) hx hb hT iX12 hown hK hP 0 rfl rfl 23 (by decide) (hT _ t_252) (fun _ h9 => h9) rfl dX12_readsClause_57 ?_
            have hg_102 : 0 ≤ (i 23).toInt ∧ (i 23).toInt ≤ 200 := hRi 23
            have hF_103 := rF hD hS hA
            refine va_calli (va_runV (As := [.int 4, .int (i 23)]) (rest := []) ⟨hx, hb, hml, hown, hT⟩ (c_X12_wrongAt l D cy a i r rl 4 (i 23) _ hRi hRr) (cwV 2 hT (gV t_259 t_260 t_261 t_262 t_6) rfl rfl rfl (by decide +kernel) ⟨Nat.le_of_ble_eq_true rfl, Nat.le_of_ble_eq_true rfl⟩) (rQ_v hP hK hD (va_recv hK hP (ci := 12) (q0 := 0) rfl rfl)) rfl rfl hl.1 rfl (lv_room (Nat.le_of_ble_eq_true rfl)) dX12_readsClause_60 ⟨Nat.le_of_ble_eq_true rfl, Nat.le_of_ble_eq_true rfl⟩) hS (fun q _ h => hF_103 q h) hF_103 (fun r_104 u_105 t H1 locs ht hvm hr_104 hB hz1 hk1 hS => ?_)
            obtain ⟨i105, r105⟩ := u_105
            obtain ⟨hP, hK1, hD1⟩ := hB
            rw [ht] at hP
            have hD := hD1.weaken (fun k q _ h => hF_103 q.1 h)
            have hP : va_P D vwCl (mW cy a i105 r105 rl) H1 := hP
            have hD : va_D A (mW cy a i105 r105 rl) := hD
            obtain ⟨hRi, hRr, hE1, hE2, hr_104⟩ := hr_104
            have hRi : mRi i105 := hRi
            have hRr : mRr r105 := hRr
            have hEi : mEi [23, 25, 26, 27, 28, 29, 30] _ i105 := Ei_tr hEi hE1 (by decide)
            have hEr : mEr [21, 22, 23, 24, 25, 26] _ r105 := Er_tr hEr hE2 (by decide)
            subst hr_104
            subst hQ
            exact W.zret hx hb hr rfl (fun t ht hW => ⟨⟨_, (i105, r105), rfl, ⟨hRi, hRr, hEi, hEr, (Or.inr rfl)⟩, by rw [ht]; exact hP, va_K.moved hW.alike hK, hD⟩, hS.F ht⟩) hS.2.2 dX12_readsClause_63
        · have c_80 : r_1.toInt ≠ 116 := b_ne c_80
          refine lv_iload_n hx hb dX12_readsClause_29 rfl (lv_at hl 0 rfl) ?_
          refine lv_bipush (v := 98) hx hb dX12_readsClause_30 (by decide) ?_
          refine lv_icmp_eq (tgt := 45) hx hb dX12_readsClause_32 (by decide) (fun c_106 => ?_) (fun c_106 => ?_)
          · have c_106 : r_1.toInt = 98 := b_eq c_106
            refine lv_aload_n hx hb dX12_readsClause_45 rfl (lv_at hl 1 rfl) ?_
            have hlt9 := mHere_lt (i := i) (r := r) (by omega)
            refine va_get (D := D) (ci := 12) (v := .int (i 29)) (C := RX12) (T := TX12) (N := 91) hx hb hT iX12 hown hK hP 0 rfl rfl 29 (by decide) (hT _ t_904) (fun _ h9 => h9) rfl dX12_readsClause_46 ?_
            have hg_107 : 0 ≤ (i 29).toInt ∧ (i 29).toInt ≤ 14 := hRi 29
            refine lv_bipush (v := 14) hx hb dX12_readsClause_49 (by decide) ?_
            refine lv_icmp_ne (tgt := 64) hx hb dX12_readsClause_51 (by decide) (fun c_108 => ?_) (fun c_108 => ?_)
            · have c_108 : (i 29).toInt ≠ 14 := b_ne c_108
              refine lv_aload_n hx hb dX12_readsClause_64 rfl (lv_at hl 1 rfl) ?_
              have hb29 : (i 29).toInt ≤ 13 := by omega
              refine va_get (D := D) (ci := 12) (v := .ref (a 23)) (C := RX12) (T := TX12) (N := 91) hx hb hT iX12 hown hK hP 0 rfl rfl 34 (by decide) (hT _ t_790) (fun _ h9 => h9) rfl dX12_readsClause_65 ?_
              refine lv_aload_n hx hb dX12_readsClause_68 rfl (lv_at hl 1 rfl) ?_
              refine va_get (D := D) (ci := 12) (v := .int (i 29)) (C := RX12) (T := TX12) (N := 91) hx hb hT iX12 hown hK hP 0 rfl rfl 29 (by decide) (hT _ t_904) (fun _ h9 => h9) rfl dX12_readsClause_69 ?_
              refine lv_iload_n hx hb dX12_readsClause_72 rfl (lv_at hl 0 rfl) ?_
              refine va_iast hx hb hK hP hD hS 23 0 rfl rfl (vp_inI (by omega) (by omega)) dX12_readsClause_73 (fun H locs hP hD hS => ?_)
              rw [mS23] at hP hD
              have hRr : mRr (va_up r 23 (upd (r 23) ((i 29).toNatClampNeg) r_1)) := Rr_upd hRr 23 ((i 29).toNatClampNeg) r_1 (b_rg _)
              have hEr : mEr [21, 22, 23, 24, 25, 26] _ (va_up r 23 (upd (r 23) ((i 29).toNatClampNeg) r_1)) := Er_up hEr 23 _ (by decide)
              refine lv_aload_n hx hb dX12_readsClause_74 rfl (lv_at hl 1 rfl) ?_
              refine lv_aload_n hx hb dX12_readsClause_75 rfl (lv_at hl 1 rfl) ?_
              refine va_get (D := D) (ci := 12) (v := .int (i 23)) (C := RX12) (T := TX12) (N := 91) hx hb hT iX12 hown hK hP 0 rfl rfl 23 (by decide) (hT _ t_252) (fun _ h9 => h9) rfl dX12_readsClause_76 ?_
              have hg_109 : 0 ≤ (i 23).toInt ∧ (i 23).toInt ≤ 200 := hRi 23
              refine lv_iconst (v := 1) hx hb dX12_readsClause_79 (by decide) ?_
              refine lv_iadd hx hb dX12_readsClause_80 ?_
              refine lv_topi (fun v_110 ev_110 => ?_)
              have hv_110 : v_110.toInt = (i 23).toInt + 1 := by rw [ev_110]; have := b_rg (i 23); exact i_add (a := (i 23).toInt) (b := 1) rfl rfl (by omega) (by omega)
              refine va_put (D := D) (ci := 12) (v := .int v_110) (ty := .int) (C := RX12) (T := TX12) (N := 91) hx hb hT iX12 tyX12 tyX12_ok nmX12 hown hK hP hD hS 0 rfl rfl 23 (by decide) (hT _ t_252) (fun _ h9 => h9) rfl (by decide +kernel) rfl rfl (Nat.le_of_ble_eq_true rfl) dX12_readsClause_81 (fun H locs hP hD hS => ?_)
              rw [mP23] at hP hD
              have hRi := Ri_upd hRi 23 v_110 ⟨by show (0 : Int) ≤ v_110.toInt; omega, by show v_110.toInt ≤ (200 : Int); omega⟩
              have hEi := Ei_upd hEi 23 v_110 (by decide)
              refine lv_aload_n hx hb dX12_readsClause_84 rfl (lv_at hl 1 rfl) ?_
              refine va_get (D := D) (ci := 12) (v := .ref (a 24)) (C := RX12) (T := TX12) (N := 91) hx hb hT iX12 hown hK hP 0 rfl rfl 35 (by decide) (hT _ t_791) (fun _ h9 => h9) rfl dX12_readsClause_85 ?_
              refine lv_aload_n hx hb dX12_readsClause_88 rfl (lv_at hl 1 rfl) ?_
              refine va_get (D := D) (ci := 12) (v := .int (i 29)) (C := RX12) (T := TX12) (N := 91) hx hb hT iX12 hown hK hP 0 rfl rfl 29 (by decide) (hT _ t_904) (fun _ h9 => h9) rfl dX12_readsClause_89 ?_
              refine lv_aload_n hx hb dX12_readsClause_92 rfl (lv_at hl 1 rfl) ?_
              refine va_get (D := D) (ci := 12) (v := .int (i 27)) (C := RX12) (T := TX12) (N := 91) hx hb hT iX12 hown hK hP 0 rfl rfl 27 (by decide) (hT _ t_847) (fun _ h9 => h9) rfl dX12_readsClause_93 ?_
              have hg_111 : 0 ≤ (i 27).toInt ∧ (i 27).toInt ≤ 220 := hRi 27
              refine va_iast hx hb hK hP hD hS 24 0 rfl rfl (vp_inI (by omega) (by omega)) dX12_readsClause_96 (fun H locs hP hD hS => ?_)
              rw [mS24] at hP hD
              have hRr : mRr (va_up (va_up r 23 (upd (r 23) ((i 29).toNatClampNeg) r_1)) 24 (upd (r 24) ((i 29).toNatClampNeg) (i 27))) := Rr_upd hRr 24 ((i 29).toNatClampNeg) (i 27) ⟨by show (0 : Int) ≤ (i 27).toInt; omega, by show (i 27).toInt ≤ (220 : Int); omega⟩
              have hEr : mEr [21, 22, 23, 24, 25, 26] _ (va_up (va_up r 23 (upd (r 23) ((i 29).toNatClampNeg) r_1)) 24 (upd (r 24) ((i 29).toNatClampNeg) (i 27))) := Er_up hEr 24 _ (by decide)
              refine lv_aload_n hx hb dX12_readsClause_97 rfl (lv_at hl 1 rfl) ?_
              refine lv_iconst (v := 0) hx hb dX12_readsClause_98 (by decide) ?_
              refine va_put (D := D) (ci := 12) (v := .int 0) (ty := .int) (C := RX12) (T := TX12) (N := 91) hx hb hT iX12 tyX12 tyX12_ok nmX12 hown hK hP hD hS 0 rfl rfl 26 (by decide) (hT _ t_848) (fun _ h9 => h9) rfl (by decide +kernel) rfl rfl (Nat.le_of_ble_eq_true rfl) dX12_readsClause_99 (fun H locs hP hD hS => ?_)
              rw [mP26] at hP hD
              have hRi := Ri_upd hRi 26 0 (b_rg _)
              have hEi := Ei_upd hEi 26 0 (by decide)
              refine lv_aload_n hx hb dX12_readsClause_102 rfl (lv_at hl 1 rfl) ?_
              refine lv_iconst (v := 0) hx hb dX12_readsClause_103 (by decide) ?_
              refine va_put (D := D) (ci := 12) (v := .int 0) (ty := .int) (C := RX12) (T := TX12) (N := 91) hx hb hT iX12 tyX12 tyX12_ok nmX12 hown hK hP hD hS 0 rfl rfl 28 (by decide) (hT _ t_849) (fun _ h9 => h9) rfl (by decide +kernel) rfl rfl (Nat.le_of_ble_eq_true rfl) dX12_readsClause_104 (fun H locs hP hD hS => ?_)
              rw [mP28] at hP hD
              have hRi := Ri_upd hRi 28 0 ⟨by decide, by decide⟩
              have hEi := Ei_upd hEi 28 0 (by decide)
              refine lv_iload_n hx hb dX12_readsClause_107 rfl (lv_at hl 0 rfl) ?_
              refine lv_bipush (v := 98) hx hb dX12_readsClause_108 (by decide) ?_
              refine lv_icmp_eq (tgt := 122) hx hb dX12_readsClause_110 (by decide) (fun c_112 => ?_) (fun c_112 => by have c_112 : r_1.toInt ≠ 98 := b_ne c_112; omega)
              have c_112 : r_1.toInt = 98 := b_eq c_112
              refine lv_aload_n hx hb dX12_readsClause_122 rfl (lv_at hl 1 rfl) ?_
              have hNP0 : NP (upd (upd (upd i 23 v_110) 26 0) 28 0) := by have h9 := hC.1; unfold NP at h9 ⊢; show (i 27).toInt.toNat ≤ v_110.toInt.toNat; omega
              refine va_get (D := D) (ci := 12) (v := .ref (a 25)) (C := RX12) (T := TX12) (N := 91) hx hb hT iX12 hown hK hP 0 rfl rfl 36 (by decide) (hT _ t_792) (fun _ h9 => h9) rfl dX12_readsClause_123 ?_
              refine lv_aload_n hx hb dX12_readsClause_126 rfl (lv_at hl 1 rfl) ?_
              refine va_get (D := D) (ci := 12) (v := .int (i 29)) (C := RX12) (T := TX12) (N := 91) hx hb hT iX12 hown hK hP 0 rfl rfl 29 (by decide) (hT _ t_904) (fun _ h9 => h9) rfl dX12_readsClause_127 ?_
              refine lv_aload_n hx hb dX12_readsClause_130 rfl (lv_at hl 1 rfl) ?_
              refine va_get (D := D) (ci := 12) (v := .int (i 27)) (C := RX12) (T := TX12) (N := 91) hx hb hT iX12 hown hK hP 0 rfl rfl 27 (by decide) (hT _ t_847) (fun _ h9 => h9) rfl dX12_readsClause_131 ?_
              refine va_iast hx hb hK hP hD hS 25 0 rfl rfl (vp_inI (by omega) (by omega)) dX12_readsClause_134 (fun H locs hP hD hS => ?_)
              rw [mS25] at hP hD
              have hRr : mRr (va_up (va_up (va_up r 23 (upd (r 23) ((i 29).toNatClampNeg) r_1)) 24 (upd (r 24) ((i 29).toNatClampNeg) (i 27))) 25 (upd (r 25) ((i 29).toNatClampNeg) (i 27))) := Rr_upd hRr 25 ((i 29).toNatClampNeg) (i 27) ⟨by show (0 : Int) ≤ (i 27).toInt; omega, by show (i 27).toInt ≤ (220 : Int); omega⟩
              have hEr : mEr [21, 22, 23, 24, 25, 26] _ (va_up (va_up (va_up r 23 (upd (r 23) ((i 29).toNatClampNeg) r_1)) 24 (upd (r 24) ((i 29).toNatClampNeg) (i 27))) 25 (upd (r 25) ((i 29).toNatClampNeg) (i 27))) := Er_up hEr 25 _ (by decide)
              refine lv_aload_n hx hb dX12_readsClause_135 rfl (lv_at hl 1 rfl) ?_
              have hNP : NP (upd (upd (upd i 23 v_110) 26 0) 28 0) := hNP0
              have hF_113 := rF hD hS hA
              refine va_calli (va_runV (As := []) (rest := []) ⟨hx, hb, hml, hown, hT⟩ (c_X12_readsCondition l D cy a (upd (upd (upd i 23 v_110) 26 0) 28 0) (va_up (va_up (va_up r 23 (upd (r 23) ((i 29).toNatClampNeg) r_1)) 24 (upd (r 24) ((i 29).toNatClampNeg) (i 27))) 25 (upd (r 25) ((i 29).toNatClampNeg) (i 27))) rl _ hRi hRr hNP) (cwV 0 hT (gV t_905 t_906 t_907 t_908 t_6) rfl rfl rfl (by decide +kernel) ⟨Nat.le_of_ble_eq_true rfl, Nat.le_of_ble_eq_true rfl⟩) (rQ_v hP hK hD (va_recv hK hP (ci := 12) (q0 := 0) rfl rfl)) rfl rfl hl.1 rfl (lv_room (Nat.le_of_ble_eq_true rfl)) dX12_readsClause_136 ⟨Nat.le_of_ble_eq_true rfl, Nat.le_of_ble_eq_true rfl⟩) hS (fun q _ h => hF_113 q h) hF_113 (fun r_114 u_115 t H1 locs ht hvm hr_114 hB hz1 hk1 hS => ?_)
              obtain ⟨i115, r115⟩ := u_115
              obtain ⟨hP, hK1, hD1⟩ := hB
              rw [ht] at hP
              have hD := hD1.weaken (fun k q _ h => hF_113 q.1 h)
              have hP : va_P D vwCl (mW cy a i115 r115 rl) H1 := hP
              have hD : va_D A (mW cy a i115 r115 rl) := hD
              obtain ⟨hRi, hRr, hE1, hE2, hr_114⟩ := hr_114
              have hRi : mRi i115 := hRi
              have hRr : mRr r115 := hRr
              have hEi : mEi [23, 25, 26, 27, 28, 29, 30] _ i115 := Ei_tr hEi hE1 (by decide)
              have hEr : mEr [21, 22, 23, 24, 25, 26] _ r115 := Er_tr hEr hE2 (by decide)
              rcases hr_114 with ⟨rfl, hrd114⟩ | rfl
              · have hrd114 : segOK (r115 21) ((upd (upd (upd i 23 v_110) 26 0) 28 0) 27).toInt.toNat (i115 27).toInt.toNat ∧ ((upd (upd (upd i 23 v_110) 26 0) 28 0) 23).toInt < (i115 23).toInt ∧ NP i115 ∧ low ((upd (upd (upd i 23 v_110) 26 0) 28 0) 27).toInt.toNat (va_up (va_up (va_up r 23 (upd (r 23) ((i 29).toNatClampNeg) r_1)) 24 (upd (r 24) ((i 29).toNatClampNeg) (i 27))) 25 (upd (r 25) ((i 29).toNatClampNeg) (i 27))) r115 := hrd114
                refine lv_if_ne (tgt := 144) hx hb dX12_readsClause_139 (by decide) (fun c_116 => ?_) (fun c_116 => absurd c_116 (by decide))
                refine lv_aload_n hx hb dX12_readsClause_144 rfl (lv_at hl 1 rfl) ?_
                have e29b : i115 29 = (upd (upd (upd i 23 v_110) 26 0) 28 0) 29 := hE1 29 (by decide)
                have hg29c : 0 ≤ (i115 29).toInt ∧ (i115 29).toInt ≤ 13 := by rw [e29b]; show 0 ≤ (i 29).toInt ∧ (i 29).toInt ≤ 13; omega
                have hz23 : r115 23 = (va_up (va_up (va_up r 23 (upd (r 23) ((i 29).toNatClampNeg) r_1)) 24 (upd (r 24) ((i 29).toNatClampNeg) (i 27))) 25 (upd (r 25) ((i 29).toNatClampNeg) (i 27))) 23 := hE2 23 (by decide)
                have hz24 : r115 24 = (va_up (va_up (va_up r 23 (upd (r 23) ((i 29).toNatClampNeg) r_1)) 24 (upd (r 24) ((i 29).toNatClampNeg) (i 27))) 25 (upd (r 25) ((i 29).toNatClampNeg) (i 27))) 24 := hE2 24 (by decide)
                have hz25 : r115 25 = (va_up (va_up (va_up r 23 (upd (r 23) ((i 29).toNatClampNeg) r_1)) 24 (upd (r 24) ((i 29).toNatClampNeg) (i 27))) 25 (upd (r 25) ((i 29).toNatClampNeg) (i 27))) 25 := hE2 25 (by decide)
                have hz26 : r115 26 = (va_up (va_up (va_up r 23 (upd (r 23) ((i 29).toNatClampNeg) r_1)) 24 (upd (r 24) ((i 29).toNatClampNeg) (i 27))) 25 (upd (r 25) ((i 29).toNatClampNeg) (i 27))) 26 := hE2 26 (by decide)
                refine va_get (D := D) (ci := 12) (v := .ref (a 26)) (C := RX12) (T := TX12) (N := 91) hx hb hT iX12 hown hK hP 0 rfl rfl 37 (by decide) (hT _ t_793) (fun _ h9 => h9) rfl dX12_readsClause_145 ?_
                refine lv_aload_n hx hb dX12_readsClause_148 rfl (lv_at hl 1 rfl) ?_
                refine va_get (D := D) (ci := 12) (v := .int (i115 29)) (C := RX12) (T := TX12) (N := 91) hx hb hT iX12 hown hK hP 0 rfl rfl 29 (by decide) (hT _ t_904) (fun _ h9 => h9) rfl dX12_readsClause_149 ?_
                have hg_117 : 0 ≤ (i115 29).toInt ∧ (i115 29).toInt ≤ 14 := hRi 29
                refine lv_aload_n hx hb dX12_readsClause_152 rfl (lv_at hl 1 rfl) ?_
                refine va_get (D := D) (ci := 12) (v := .int (i115 27)) (C := RX12) (T := TX12) (N := 91) hx hb hT iX12 hown hK hP 0 rfl rfl 27 (by decide) (hT _ t_847) (fun _ h9 => h9) rfl dX12_readsClause_153 ?_
                have hg_118 : 0 ≤ (i115 27).toInt ∧ (i115 27).toInt ≤ 220 := hRi 27
                refine va_iast hx hb hK hP hD hS 26 0 rfl rfl (vp_inI (by omega) (by omega)) dX12_readsClause_156 (fun H locs hP hD hS => ?_)
                rw [mS26] at hP hD
                have hRr : mRr (va_up r115 26 (upd (r115 26) ((i115 29).toNatClampNeg) (i115 27))) := Rr_upd hRr 26 ((i115 29).toNatClampNeg) (i115 27) ⟨by show (0 : Int) ≤ (i115 27).toInt; omega, by show (i115 27).toInt ≤ (220 : Int); omega⟩
                have hEr : mEr [21, 22, 23, 24, 25, 26] _ (va_up r115 26 (upd (r115 26) ((i115 29).toNatClampNeg) (i115 27))) := Er_up hEr 26 _ (by decide)
                refine lv_aload_n hx hb dX12_readsClause_157 rfl (lv_at hl 1 rfl) ?_
                refine lv_aload_n hx hb dX12_readsClause_158 rfl (lv_at hl 1 rfl) ?_
                refine va_get (D := D) (ci := 12) (v := .int (i115 29)) (C := RX12) (T := TX12) (N := 91) hx hb hT iX12 hown hK hP 0 rfl rfl 29 (by decide) (hT _ t_904) (fun _ h9 => h9) rfl dX12_readsClause_159 ?_
                refine lv_iconst (v := 1) hx hb dX12_readsClause_162 (by decide) ?_
                refine lv_iadd hx hb dX12_readsClause_163 ?_
                refine lv_topi (fun v_119 ev_119 => ?_)
                have hv_119 : v_119.toInt = (i115 29).toInt + 1 := by rw [ev_119]; have := b_rg (i115 29); exact i_add (a := (i115 29).toInt) (b := 1) rfl rfl (by omega) (by omega)
                refine va_put (D := D) (ci := 12) (v := .int v_119) (ty := .int) (C := RX12) (T := TX12) (N := 91) hx hb hT iX12 tyX12 tyX12_ok nmX12 hown hK hP hD hS 0 rfl rfl 29 (by decide) (hT _ t_904) (fun _ h9 => h9) rfl (by decide +kernel) rfl rfl (Nat.le_of_ble_eq_true rfl) dX12_readsClause_164 (fun H locs hP hD hS => ?_)
                rw [mP29] at hP hD
                have hRi := Ri_upd hRi 29 v_119 ⟨by show (0 : Int) ≤ v_119.toInt; omega, by show v_119.toInt ≤ (14 : Int); omega⟩
                have hEi := Ei_upd hEi 29 v_119 (by decide)
                refine lv_iconst (v := 1) hx hb dX12_readsClause_167 (by decide) ?_
                subst hQ
                have hi29 : (i115 29).toInt.toNat = (i 29).toInt.toNat := by rw [e29b]; rfl
                have f23 : (va_up r115 26 (upd (r115 26) ((i115 29).toNatClampNeg) (i115 27))) 23 = upd (r 23) (i 29).toInt.toNat r_1 := by show r115 23 = _; rw [hz23]; rfl
                have f24 : (va_up r115 26 (upd (r115 26) ((i115 29).toNatClampNeg) (i115 27))) 24 = upd (r 24) (i 29).toInt.toNat (i 27) := by show r115 24 = _; rw [hz24]; rfl
                have f25 : (va_up r115 26 (upd (r115 26) ((i115 29).toNatClampNeg) (i115 27))) 25 = upd (r 25) (i 29).toInt.toNat (i 27) := by show r115 25 = _; rw [hz25]; rfl
                have f26 : (va_up r115 26 (upd (r115 26) ((i115 29).toNatClampNeg) (i115 27))) 26 = upd (r 26) (i 29).toInt.toNat (i115 27) := by show upd (r115 26) (i115 29).toInt.toNat _ = _; rw [hi29, hz26]; rfl
                have hlow9 : low (i 27).toInt.toNat r (va_up r115 26 (upd (r115 26) ((i115 29).toNatClampNeg) (i115 27))) := fun k9 hk9 => hrd114.2.2.2 k9 hk9
                have hs2 : r_1.toInt ≠ 98 → segOK ((va_up r115 26 (upd (r115 26) ((i115 29).toNatClampNeg) (i115 27))) 21) (i 27).toInt.toNat (i 27).toInt.toNat := fun h9 => absurd (by omega) h9
                have hci : CIv (upd i115 29 v_119) (va_up r115 26 (upd (r115 26) ((i115 29).toNatClampNeg) (i115 27))) := RK_of (c := r_1) (v2 := i 27) (v3 := i115 27) hC (by omega) (by show v_119.toInt = _; have h9 : (i115 29).toInt = (i 29).toInt := (by rw [e29b]; rfl); omega) f23 f24 f25 f26 hlow9 hrd114.1 hs2 (Nat.le_refl _) rfl hrd114.2.2.1
                have hj : RK i r 1 (upd i115 29 v_119) (va_up r115 26 (upd (r115 26) ((i115 29).toNatClampNeg) (i115 27))) := Or.inl ⟨rfl, hci, by have h9 := hrd114.2.1; have h8 : ((upd (upd (upd i 23 v_110) 26 0) 28 0) 23).toInt = v_110.toInt := rfl; show (i 23).toInt < (i115 23).toInt; omega⟩
                exact W.zret hx hb hr rfl (fun t ht hW => ⟨⟨_, (upd i115 29 v_119, va_up r115 26 (upd (r115 26) ((i115 29).toNatClampNeg) (i115 27))), rfl, ⟨hRi, hRr, hEi, hEr, hj⟩, by rw [ht]; exact hP, va_K.moved hW.alike hK, hD⟩, hS.F ht⟩) hS.2.2 dX12_readsClause_168
              · skip
                refine lv_if_ne (tgt := 144) hx hb dX12_readsClause_139 (by decide) (fun c_120 => absurd (by decide) c_120) (fun c_120 => ?_)
                refine lv_iconst (v := 0) hx hb dX12_readsClause_142 (by decide) ?_
                subst hQ
                exact W.zret hx hb hr rfl (fun t ht hW => ⟨⟨_, (i115, r115), rfl, ⟨hRi, hRr, hEi, hEr, (Or.inr rfl)⟩, by rw [ht]; exact hP, va_K.moved hW.alike hK, hD⟩, hS.F ht⟩) hS.2.2 dX12_readsClause_143
            · have c_108 : (i 29).toInt = 14 := b_nne c_108
              refine lv_aload_n hx hb dX12_readsClause_54 rfl (lv_at hl 1 rfl) ?_
              refine lv_iconst (v := 4) hx hb dX12_readsClause_55 (by decide) ?_
              refine lv_aload_n hx hb dX12_readsClause_56 rfl (lv_at hl 1 rfl) ?_
              refine va_get (D := D) (ci := 12) (v := .int (i 23)) (C := RX12) (T := TX12) (N := 91) hx hb hT iX12 hown hK hP 0 rfl rfl 23 (by decide) (hT _ t_252) (fun _ h9 => h9) rfl dX12_readsClause_57 ?_
              have hg_121 : 0 ≤ (i 23).toInt ∧ (i 23).toInt ≤ 200 := hRi 23
              have hF_122 := rF hD hS hA
              refine va_calli (va_runV (As := [.int 4, .int (i 23)]) (rest := []) ⟨hx, hb, hml, hown, hT⟩ (c_X12_wrongAt l D cy a i r rl 4 (i 23) _ hRi hRr) (cwV 2 hT (gV t_259 t_260 t_261 t_262 t_6) rfl rfl rfl (by decide +kernel) ⟨Nat.le_of_ble_eq_true rfl, Nat.le_of_ble_eq_true rfl⟩) (rQ_v hP hK hD (va_recv hK hP (ci := 12) (q0 := 0) rfl rfl)) rfl rfl hl.1 rfl (lv_room (Nat.le_of_ble_eq_true rfl)) dX12_readsClause_60 ⟨Nat.le_of_ble_eq_true rfl, Nat.le_of_ble_eq_true rfl⟩) hS (fun q _ h => hF_122 q h) hF_122 (fun r_123 u_124 t H1 locs ht hvm hr_123 hB hz1 hk1 hS => ?_)
              obtain ⟨i124, r124⟩ := u_124
              obtain ⟨hP, hK1, hD1⟩ := hB
              rw [ht] at hP
              have hD := hD1.weaken (fun k q _ h => hF_122 q.1 h)
              have hP : va_P D vwCl (mW cy a i124 r124 rl) H1 := hP
              have hD : va_D A (mW cy a i124 r124 rl) := hD
              obtain ⟨hRi, hRr, hE1, hE2, hr_123⟩ := hr_123
              have hRi : mRi i124 := hRi
              have hRr : mRr r124 := hRr
              have hEi : mEi [23, 25, 26, 27, 28, 29, 30] _ i124 := Ei_tr hEi hE1 (by decide)
              have hEr : mEr [21, 22, 23, 24, 25, 26] _ r124 := Er_tr hEr hE2 (by decide)
              subst hr_123
              subst hQ
              exact W.zret hx hb hr rfl (fun t ht hW => ⟨⟨_, (i124, r124), rfl, ⟨hRi, hRr, hEi, hEr, (Or.inr rfl)⟩, by rw [ht]; exact hP, va_K.moved hW.alike hK, hD⟩, hS.F ht⟩) hS.2.2 dX12_readsClause_63
          · have c_106 : r_1.toInt ≠ 98 := b_ne c_106
            refine lv_aload_n hx hb dX12_readsClause_35 rfl (lv_at hl 1 rfl) ?_
            refine lv_iconst (v := 1) hx hb dX12_readsClause_36 (by decide) ?_
            refine lv_aload_n hx hb dX12_readsClause_37 rfl (lv_at hl 1 rfl) ?_
            refine va_get (D := D) (ci := 12) (v := .int (i 23)) (C := RX12) (T := TX12) (N := 91) hx hb hT iX12 hown hK hP 0 rfl rfl 23 (by decide) (hT _ t_252) (fun _ h9 => h9) rfl dX12_readsClause_38 ?_
            have hg_125 : 0 ≤ (i 23).toInt ∧ (i 23).toInt ≤ 200 := hRi 23
            have hF_126 := rF hD hS hA
            refine va_calli (va_runV (As := [.int 1, .int (i 23)]) (rest := []) ⟨hx, hb, hml, hown, hT⟩ (c_X12_wrongAt l D cy a i r rl 1 (i 23) _ hRi hRr) (cwV 2 hT (gV t_259 t_260 t_261 t_262 t_6) rfl rfl rfl (by decide +kernel) ⟨Nat.le_of_ble_eq_true rfl, Nat.le_of_ble_eq_true rfl⟩) (rQ_v hP hK hD (va_recv hK hP (ci := 12) (q0 := 0) rfl rfl)) rfl rfl hl.1 rfl (lv_room (Nat.le_of_ble_eq_true rfl)) dX12_readsClause_41 ⟨Nat.le_of_ble_eq_true rfl, Nat.le_of_ble_eq_true rfl⟩) hS (fun q _ h => hF_126 q h) hF_126 (fun r_127 u_128 t H1 locs ht hvm hr_127 hB hz1 hk1 hS => ?_)
            obtain ⟨i128, r128⟩ := u_128
            obtain ⟨hP, hK1, hD1⟩ := hB
            rw [ht] at hP
            have hD := hD1.weaken (fun k q _ h => hF_126 q.1 h)
            have hP : va_P D vwCl (mW cy a i128 r128 rl) H1 := hP
            have hD : va_D A (mW cy a i128 r128 rl) := hD
            obtain ⟨hRi, hRr, hE1, hE2, hr_127⟩ := hr_127
            have hRi : mRi i128 := hRi
            have hRr : mRr r128 := hRr
            have hEi : mEi [23, 25, 26, 27, 28, 29, 30] _ i128 := Ei_tr hEi hE1 (by decide)
            have hEr : mEr [21, 22, 23, 24, 25, 26] _ r128 := Er_tr hEr hE2 (by decide)
            subst hr_127
            subst hQ
            exact W.zret hx hb hr rfl (fun t ht hW => ⟨⟨_, (i128, r128), rfl, ⟨hRi, hRr, hEi, hEr, (Or.inr rfl)⟩, by rw [ht]; exact hP, va_K.moved hW.alike hK, hD⟩, hS.F ht⟩) hS.2.2 dX12_readsClause_44
