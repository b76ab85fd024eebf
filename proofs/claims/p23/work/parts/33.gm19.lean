set_option maxRecDepth 100000 in
theorem t_869 : Cond.code yX12_readsFactor cX12_readsFactor 2 (some .boolean) ∈ gT := tm (tb6 (List.mem_of_getElem? (i := 69) (by rfl))) (by decide +kernel)
set_option maxRecDepth 100000 in
theorem t_870 : Cond.methodLink RX12 313 yX12_readsFactor ∈ gT := tm (tb6 (List.mem_of_getElem? (i := 66) (by rfl))) (by decide +kernel)
set_option maxRecDepth 100000 in
theorem t_871 : Cond.instanceMethod yX12_readsFactor ∈ gT := tm (tb6 (List.mem_of_getElem? (i := 68) (by rfl))) (by decide +kernel)
theorem t_872 : Cond.selects RX12 yX12_readsFactor yX12_readsFactor ∈ gT := tmp (List.mem_of_getElem? (i := 38) (by decide +kernel)) (by decide +kernel)
set_option maxRecDepth 100000 in
theorem t_873 : Cond.code yX12_sumSign cX12_sumSign 1 (some .int) ∈ gT := tm (tb6 (List.mem_of_getElem? (i := 92) (by rfl))) (by decide +kernel)
set_option maxRecDepth 100000 in
theorem t_874 : Cond.methodLink RX12 316 yX12_sumSign ∈ gT := tm (tb6 (List.mem_of_getElem? (i := 90) (by rfl))) (by decide +kernel)
set_option maxRecDepth 100000 in
theorem t_875 : Cond.static yX12_sumSign ∈ gT := tm (tb6 (List.mem_of_getElem? (i := 91) (by rfl))) (by decide +kernel)
set_option maxRecDepth 100000 in
theorem t_876 : Cond.code yX12_hasOpenSum cX12_hasOpenSum 3 (some .boolean) ∈ gT := tm (tb6 (List.mem_of_getElem? (i := 104) (by rfl))) (by decide +kernel)
set_option maxRecDepth 100000 in
theorem t_877 : Cond.methodLink RX12 323 yX12_hasOpenSum ∈ gT := tm (tb6 (List.mem_of_getElem? (i := 101) (by rfl))) (by decide +kernel)
set_option maxRecDepth 100000 in
theorem t_878 : Cond.instanceMethod yX12_hasOpenSum ∈ gT := tm (tb6 (List.mem_of_getElem? (i := 103) (by rfl))) (by decide +kernel)
theorem t_879 : Cond.selects RX12 yX12_hasOpenSum yX12_hasOpenSum ∈ gT := tmp (List.mem_of_getElem? (i := 45) (by decide +kernel)) (by decide +kernel)
set_option maxRecDepth 100000 in
theorem t_880 : Cond.code yX12_closesSums cX12_closesSums 2 none ∈ gT := tm (tb6 (List.mem_of_getElem? (i := 96) (by rfl))) (by decide +kernel)
set_option maxRecDepth 100000 in
theorem t_881 : Cond.methodLink RX12 319 yX12_closesSums ∈ gT := tm (tb6 (List.mem_of_getElem? (i := 93) (by rfl))) (by decide +kernel)
set_option maxRecDepth 100000 in
theorem t_882 : Cond.instanceMethod yX12_closesSums ∈ gT := tm (tb6 (List.mem_of_getElem? (i := 95) (by rfl))) (by decide +kernel)
theorem t_883 : Cond.selects RX12 yX12_closesSums yX12_closesSums ∈ gT := tmp (List.mem_of_getElem? (i := 43) (by decide +kernel)) (by decide +kernel)
def dl_520 : List (Nat × (Instr × Nat)) := [(0, (.aload_n 0, 1)), (1, (.getfield 293, 3)), (4, (.istore_n 1, 1)), (5, (.aload_n 0, 1)), (6, (.invokevirtual 313, 3)), (9, (.ifCond .ne 5, 3)), (12, (.iconst 0, 1)), (13, (.ireturn, 1)), (14, (.aload_n 0, 1)), (15, (.invokevirtual 268, 3)), (18, (.invokestatic 316, 3)), (21, (.istore_n 2, 1)), (22, (.iload_n 2, 1)), (23, (.iconst (-1), 1)), (24, (.if_icmp .eq 60, 3)), (27, (.aload_n 0, 1)), (28, (.iload_n 2, 1)), (29, (.iconst 4, 1)), (30, (.if_icmp .ge 7, 3)), (33, (.iconst 1, 1))]
theorem dh_520 : dchk cX12_readsSum dl_520 = true := by decide +kernel
theorem dX12_readsSum_0 : decode cX12_readsSum 0 = .ok (.aload_n 0, 1) := dget dh_520 (k := 0) rfl
theorem dX12_readsSum_1 : decode cX12_readsSum 1 = .ok (.getfield 293, 3) := dget dh_520 (k := 1) rfl
theorem dX12_readsSum_4 : decode cX12_readsSum 4 = .ok (.istore_n 1, 1) := dget dh_520 (k := 2) rfl
theorem dX12_readsSum_5 : decode cX12_readsSum 5 = .ok (.aload_n 0, 1) := dget dh_520 (k := 3) rfl
theorem dX12_readsSum_6 : decode cX12_readsSum 6 = .ok (.invokevirtual 313, 3) := dget dh_520 (k := 4) rfl
theorem dX12_readsSum_9 : decode cX12_readsSum 9 = .ok (.ifCond .ne 5, 3) := dget dh_520 (k := 5) rfl
theorem dX12_readsSum_12 : decode cX12_readsSum 12 = .ok (.iconst 0, 1) := dget dh_520 (k := 6) rfl
theorem dX12_readsSum_13 : decode cX12_readsSum 13 = .ok (.ireturn, 1) := dget dh_520 (k := 7) rfl
theorem dX12_readsSum_14 : decode cX12_readsSum 14 = .ok (.aload_n 0, 1) := dget dh_520 (k := 8) rfl
theorem dX12_readsSum_15 : decode cX12_readsSum 15 = .ok (.invokevirtual 268, 3) := dget dh_520 (k := 9) rfl
theorem dX12_readsSum_18 : decode cX12_readsSum 18 = .ok (.invokestatic 316, 3) := dget dh_520 (k := 10) rfl
theorem dX12_readsSum_21 : decode cX12_readsSum 21 = .ok (.istore_n 2, 1) := dget dh_520 (k := 11) rfl
theorem dX12_readsSum_22 : decode cX12_readsSum 22 = .ok (.iload_n 2, 1) := dget dh_520 (k := 12) rfl
theorem dX12_readsSum_23 : decode cX12_readsSum 23 = .ok (.iconst (-1), 1) := dget dh_520 (k := 13) rfl
theorem dX12_readsSum_24 : decode cX12_readsSum 24 = .ok (.if_icmp .eq 60, 3) := dget dh_520 (k := 14) rfl
theorem dX12_readsSum_27 : decode cX12_readsSum 27 = .ok (.aload_n 0, 1) := dget dh_520 (k := 15) rfl
theorem dX12_readsSum_28 : decode cX12_readsSum 28 = .ok (.iload_n 2, 1) := dget dh_520 (k := 16) rfl
theorem dX12_readsSum_29 : decode cX12_readsSum 29 = .ok (.iconst 4, 1) := dget dh_520 (k := 17) rfl
theorem dX12_readsSum_30 : decode cX12_readsSum 30 = .ok (.if_icmp .ge 7, 3) := dget dh_520 (k := 18) rfl
theorem dX12_readsSum_33 : decode cX12_readsSum 33 = .ok (.iconst 1, 1) := dget dh_520 (k := 19) rfl
def dl_521 : List (Nat × (Instr × Nat)) := [(34, (.goto 4, 3)), (37, (.iconst 0, 1)), (38, (.invokevirtual 319, 3)), (41, (.aload_n 0, 1)), (42, (.getfield 75, 3)), (45, (.aload_n 0, 1)), (46, (.getfield 293, 3)), (49, (.ldc_w 289, 3)), (52, (.iload_n 2, 1)), (53, (.imul, 1)), (54, (.iastore, 1)), (55, (.aload_n 0, 1)), (56, (.aload_n 0, 1)), (57, (.getfield 293, 3)), (60, (.iconst 1, 1)), (61, (.iadd, 1)), (62, (.putfield 293, 3)), (65, (.aload_n 0, 1)), (66, (.aload_n 0, 1)), (67, (.getfield 262, 3))]
theorem dh_521 : dchk cX12_readsSum dl_521 = true := by decide +kernel
theorem dX12_readsSum_34 : decode cX12_readsSum 34 = .ok (.goto 4, 3) := dget dh_521 (k := 0) rfl
theorem dX12_readsSum_37 : decode cX12_readsSum 37 = .ok (.iconst 0, 1) := dget dh_521 (k := 1) rfl
theorem dX12_readsSum_38 : decode cX12_readsSum 38 = .ok (.invokevirtual 319, 3) := dget dh_521 (k := 2) rfl
theorem dX12_readsSum_41 : decode cX12_readsSum 41 = .ok (.aload_n 0, 1) := dget dh_521 (k := 3) rfl
theorem dX12_readsSum_42 : decode cX12_readsSum 42 = .ok (.getfield 75, 3) := dget dh_521 (k := 4) rfl
theorem dX12_readsSum_45 : decode cX12_readsSum 45 = .ok (.aload_n 0, 1) := dget dh_521 (k := 5) rfl
theorem dX12_readsSum_46 : decode cX12_readsSum 46 = .ok (.getfield 293, 3) := dget dh_521 (k := 6) rfl
theorem dX12_readsSum_49 : decode cX12_readsSum 49 = .ok (.ldc_w 289, 3) := dget dh_521 (k := 7) rfl
theorem dX12_readsSum_52 : decode cX12_readsSum 52 = .ok (.iload_n 2, 1) := dget dh_521 (k := 8) rfl
theorem dX12_readsSum_53 : decode cX12_readsSum 53 = .ok (.imul, 1) := dget dh_521 (k := 9) rfl
theorem dX12_readsSum_54 : decode cX12_readsSum 54 = .ok (.iastore, 1) := dget dh_521 (k := 10) rfl
theorem dX12_readsSum_55 : decode cX12_readsSum 55 = .ok (.aload_n 0, 1) := dget dh_521 (k := 11) rfl
theorem dX12_readsSum_56 : decode cX12_readsSum 56 = .ok (.aload_n 0, 1) := dget dh_521 (k := 12) rfl
theorem dX12_readsSum_57 : decode cX12_readsSum 57 = .ok (.getfield 293, 3) := dget dh_521 (k := 13) rfl
theorem dX12_readsSum_60 : decode cX12_readsSum 60 = .ok (.iconst 1, 1) := dget dh_521 (k := 14) rfl
theorem dX12_readsSum_61 : decode cX12_readsSum 61 = .ok (.iadd, 1) := dget dh_521 (k := 15) rfl
theorem dX12_readsSum_62 : decode cX12_readsSum 62 = .ok (.putfield 293, 3) := dget dh_521 (k := 16) rfl
theorem dX12_readsSum_65 : decode cX12_readsSum 65 = .ok (.aload_n 0, 1) := dget dh_521 (k := 17) rfl
theorem dX12_readsSum_66 : decode cX12_readsSum 66 = .ok (.aload_n 0, 1) := dget dh_521 (k := 18) rfl
theorem dX12_readsSum_67 : decode cX12_readsSum 67 = .ok (.getfield 262, 3) := dget dh_521 (k := 19) rfl
def dl_522 : List (Nat × (Instr × Nat)) := [(70, (.iconst 1, 1)), (71, (.iadd, 1)), (72, (.putfield 262, 3)), (75, (.aload_n 0, 1)), (76, (.invokevirtual 313, 3)), (79, (.ifCond .ne 85, 3)), (82, (.iconst 0, 1)), (83, (.ireturn, 1)), (84, (.aload_n 0, 1)), (85, (.invokevirtual 268, 3)), (88, (.bipush 93, 2)), (90, (.if_icmp .ne 49, 3)), (93, (.aload_n 0, 1)), (94, (.iload_n 1, 1)), (95, (.invokevirtual 323, 3)), (98, (.ifCond .eq 41, 3)), (101, (.aload_n 0, 1)), (102, (.iconst 1, 1)), (103, (.invokevirtual 319, 3)), (106, (.aload_n 0, 1))]
theorem dh_522 : dchk cX12_readsSum dl_522 = true := by decide +kernel
theorem dX12_readsSum_70 : decode cX12_readsSum 70 = .ok (.iconst 1, 1) := dget dh_522 (k := 0) rfl
theorem dX12_readsSum_71 : decode cX12_readsSum 71 = .ok (.iadd, 1) := dget dh_522 (k := 1) rfl
theorem dX12_readsSum_72 : decode cX12_readsSum 72 = .ok (.putfield 262, 3) := dget dh_522 (k := 2) rfl
theorem dX12_readsSum_75 : decode cX12_readsSum 75 = .ok (.aload_n 0, 1) := dget dh_522 (k := 3) rfl
theorem dX12_readsSum_76 : decode cX12_readsSum 76 = .ok (.invokevirtual 313, 3) := dget dh_522 (k := 4) rfl
theorem dX12_readsSum_79 : decode cX12_readsSum 79 = .ok (.ifCond .ne 85, 3) := dget dh_522 (k := 5) rfl
theorem dX12_readsSum_82 : decode cX12_readsSum 82 = .ok (.iconst 0, 1) := dget dh_522 (k := 6) rfl
theorem dX12_readsSum_83 : decode cX12_readsSum 83 = .ok (.ireturn, 1) := dget dh_522 (k := 7) rfl
theorem dX12_readsSum_84 : decode cX12_readsSum 84 = .ok (.aload_n 0, 1) := dget dh_522 (k := 8) rfl
theorem dX12_readsSum_85 : decode cX12_readsSum 85 = .ok (.invokevirtual 268, 3) := dget dh_522 (k := 9) rfl
theorem dX12_readsSum_88 : decode cX12_readsSum 88 = .ok (.bipush 93, 2) := dget dh_522 (k := 10) rfl
theorem dX12_readsSum_90 : decode cX12_readsSum 90 = .ok (.if_icmp .ne 49, 3) := dget dh_522 (k := 11) rfl
theorem dX12_readsSum_93 : decode cX12_readsSum 93 = .ok (.aload_n 0, 1) := dget dh_522 (k := 12) rfl
theorem dX12_readsSum_94 : decode cX12_readsSum 94 = .ok (.iload_n 1, 1) := dget dh_522 (k := 13) rfl
theorem dX12_readsSum_95 : decode cX12_readsSum 95 = .ok (.invokevirtual 323, 3) := dget dh_522 (k := 14) rfl
theorem dX12_readsSum_98 : decode cX12_readsSum 98 = .ok (.ifCond .eq 41, 3) := dget dh_522 (k := 15) rfl
theorem dX12_readsSum_101 : decode cX12_readsSum 101 = .ok (.aload_n 0, 1) := dget dh_522 (k := 16) rfl
theorem dX12_readsSum_102 : decode cX12_readsSum 102 = .ok (.iconst 1, 1) := dget dh_522 (k := 17) rfl
theorem dX12_readsSum_103 : decode cX12_readsSum 103 = .ok (.invokevirtual 319, 3) := dget dh_522 (k := 18) rfl
theorem dX12_readsSum_106 : decode cX12_readsSum 106 = .ok (.aload_n 0, 1) := dget dh_522 (k := 19) rfl
def dl_523 : List (Nat × (Instr × Nat)) := [(107, (.aload_n 0, 1)), (108, (.getfield 293, 3)), (111, (.iconst 1, 1)), (112, (.isub, 1)), (113, (.putfield 293, 3)), (116, (.aload_n 0, 1)), (117, (.aload_n 0, 1)), (118, (.getfield 290, 3)), (121, (.iconst 1, 1)), (122, (.isub, 1)), (123, (.putfield 290, 3)), (126, (.aload_n 0, 1)), (127, (.aload_n 0, 1)), (128, (.getfield 262, 3)), (131, (.iconst 1, 1)), (132, (.iadd, 1)), (133, (.putfield 262, 3)), (136, (.goto 28, 3)), (139, (.aload_n 0, 1)), (140, (.iload_n 1, 1))]
theorem dh_523 : dchk cX12_readsSum dl_523 = true := by decide +kernel
theorem dX12_readsSum_107 : decode cX12_readsSum 107 = .ok (.aload_n 0, 1) := dget dh_523 (k := 0) rfl
theorem dX12_readsSum_108 : decode cX12_readsSum 108 = .ok (.getfield 293, 3) := dget dh_523 (k := 1) rfl
theorem dX12_readsSum_111 : decode cX12_readsSum 111 = .ok (.iconst 1, 1) := dget dh_523 (k := 2) rfl
theorem dX12_readsSum_112 : decode cX12_readsSum 112 = .ok (.isub, 1) := dget dh_523 (k := 3) rfl
theorem dX12_readsSum_113 : decode cX12_readsSum 113 = .ok (.putfield 293, 3) := dget dh_523 (k := 4) rfl
theorem dX12_readsSum_116 : decode cX12_readsSum 116 = .ok (.aload_n 0, 1) := dget dh_523 (k := 5) rfl
theorem dX12_readsSum_117 : decode cX12_readsSum 117 = .ok (.aload_n 0, 1) := dget dh_523 (k := 6) rfl
theorem dX12_readsSum_118 : decode cX12_readsSum 118 = .ok (.getfield 290, 3) := dget dh_523 (k := 7) rfl
theorem dX12_readsSum_121 : decode cX12_readsSum 121 = .ok (.iconst 1, 1) := dget dh_523 (k := 8) rfl
theorem dX12_readsSum_122 : decode cX12_readsSum 122 = .ok (.isub, 1) := dget dh_523 (k := 9) rfl
theorem dX12_readsSum_123 : decode cX12_readsSum 123 = .ok (.putfield 290, 3) := dget dh_523 (k := 10) rfl
theorem dX12_readsSum_126 : decode cX12_readsSum 126 = .ok (.aload_n 0, 1) := dget dh_523 (k := 11) rfl
theorem dX12_readsSum_127 : decode cX12_readsSum 127 = .ok (.aload_n 0, 1) := dget dh_523 (k := 12) rfl
theorem dX12_readsSum_128 : decode cX12_readsSum 128 = .ok (.getfield 262, 3) := dget dh_523 (k := 13) rfl
theorem dX12_readsSum_131 : decode cX12_readsSum 131 = .ok (.iconst 1, 1) := dget dh_523 (k := 14) rfl
theorem dX12_readsSum_132 : decode cX12_readsSum 132 = .ok (.iadd, 1) := dget dh_523 (k := 15) rfl
theorem dX12_readsSum_133 : decode cX12_readsSum 133 = .ok (.putfield 262, 3) := dget dh_523 (k := 16) rfl
theorem dX12_readsSum_136 : decode cX12_readsSum 136 = .ok (.goto 28, 3) := dget dh_523 (k := 17) rfl
theorem dX12_readsSum_139 : decode cX12_readsSum 139 = .ok (.aload_n 0, 1) := dget dh_523 (k := 18) rfl
theorem dX12_readsSum_140 : decode cX12_readsSum 140 = .ok (.iload_n 1, 1) := dget dh_523 (k := 19) rfl
def dl_524 : List (Nat × (Instr × Nat)) := [(141, (.invokevirtual 323, 3)), (144, (.ifCond .eq 13, 3)), (147, (.aload_n 0, 1)), (148, (.iconst 1, 1)), (149, (.aload_n 0, 1)), (150, (.getfield 262, 3)), (153, (.invokevirtual 275, 3)), (156, (.ireturn, 1)), (157, (.aload_n 0, 1)), (158, (.iconst 1, 1)), (159, (.invokevirtual 319, 3)), (162, (.iconst 1, 1)), (163, (.ireturn, 1)), (164, (.goto (-150), 3))]
theorem dh_524 : dchk cX12_readsSum dl_524 = true := by decide +kernel
theorem dX12_readsSum_141 : decode cX12_readsSum 141 = .ok (.invokevirtual 323, 3) := dget dh_524 (k := 0) rfl
theorem dX12_readsSum_144 : decode cX12_readsSum 144 = .ok (.ifCond .eq 13, 3) := dget dh_524 (k := 1) rfl
theorem dX12_readsSum_147 : decode cX12_readsSum 147 = .ok (.aload_n 0, 1) := dget dh_524 (k := 2) rfl
theorem dX12_readsSum_148 : decode cX12_readsSum 148 = .ok (.iconst 1, 1) := dget dh_524 (k := 3) rfl
theorem dX12_readsSum_149 : decode cX12_readsSum 149 = .ok (.aload_n 0, 1) := dget dh_524 (k := 4) rfl
theorem dX12_readsSum_150 : decode cX12_readsSum 150 = .ok (.getfield 262, 3) := dget dh_524 (k := 5) rfl
theorem dX12_readsSum_153 : decode cX12_readsSum 153 = .ok (.invokevirtual 275, 3) := dget dh_524 (k := 6) rfl
theorem dX12_readsSum_156 : decode cX12_readsSum 156 = .ok (.ireturn, 1) := dget dh_524 (k := 7) rfl
theorem dX12_readsSum_157 : decode cX12_readsSum 157 = .ok (.aload_n 0, 1) := dget dh_524 (k := 8) rfl
theorem dX12_readsSum_158 : decode cX12_readsSum 158 = .ok (.iconst 1, 1) := dget dh_524 (k := 9) rfl
theorem dX12_readsSum_159 : decode cX12_readsSum 159 = .ok (.invokevirtual 319, 3) := dget dh_524 (k := 10) rfl
theorem dX12_readsSum_162 : decode cX12_readsSum 162 = .ok (.iconst 1, 1) := dget dh_524 (k := 11) rfl
theorem dX12_readsSum_163 : decode cX12_readsSum 163 = .ok (.ireturn, 1) := dget dh_524 (k := 12) rfl
theorem dX12_readsSum_164 : decode cX12_readsSum 164 = .ok (.goto (-150), 3) := dget dh_524 (k := 13) rfl
theorem bcn_app {w : Nat → Int32} {b m : Nat} (hb : b ≤ m) : ∀ m', m ≤ m' → (∀ j, m ≤ j → j < m' → cOp (w j) = 14) → bcn w b m' = bcn w b m := by
  intro m'
  induction m' with
  | zero => intro h1 _; have : m = 0 := by omega
            rw [this]
  | succ m' ih =>
    intro h1 h2
    by_cases e : m = m' + 1
    · rw [e]
    · show (if b ≤ m' then bcn w b m' + (if 2 ≤ cOp (w m') ∧ cOp (w m') ≤ 6 then 1 else 0) else 0) = _
      have h3 := h2 m' (by omega) (by omega)
      rw [if_pos (by omega), if_neg (by omega), ih (by omega) (fun j a1 a2 => h2 j a1 (by omega))]
      omega
def RSi (f g s : Nat) (i : Nat → Int32) (r : Nat → Nat → Int32) (I : Nat → Int32) (R : Nat → Nat → Int32) : Prop := SU f g s (i 28).toInt.toNat I R ∧ (i 23).toInt < (I 23).toInt ∧ (∀ j, j < (i 28).toInt.toNat → R 22 j = r 22 j) ∧ low f r R
def RS (f g s : Nat) (i : Nat → Int32) (r : Nat → Nat → Int32) (z : Int32) (I : Nat → Int32) (R : Nat → Nat → Int32) : Prop := (z = 1 ∧ SS f (g + 1) s I R ∧ (i 23).toInt < (I 23).toInt ∧ (I 28).toInt = (i 28).toInt ∧ (∀ j, j < (i 28).toInt.toNat → R 22 j = r 22 j) ∧ low f r R) ∨ z = 0
def outB (w : Nat → Int32) (b : Nat) : Prop := b = 0 ∨ ¬ binW (w (b - 1))
theorem RS_start {f g s : Nat} {i I : Nat → Int32} {r R : Nat → Nat → Int32} (h : RFi f (g + 1) s i r I R) (hl : (i 23).toInt < (I 23).toInt) (ho : outB (r 22) (i 28).toInt.toNat) : RSi f g s i r I R := by
  obtain ⟨a1, a2, a3, a4, a5, a6⟩ := h
  have hb : bcn (R 22) (i 28).toInt.toNat (I 28).toInt.toNat = 0 := by
    rw [bcn_app (Nat.le_refl _) _ (by omega) a5]; exact bcn_self _ (Nat.le_refl _)
  refine ⟨⟨by rw [hb]; exact a1, by omega, fun j h1 h2 => Or.inr (a5 j h1 h2), ?_⟩, hl, a4, a6⟩
  rcases ho with h | h
  · exact Or.inl h
  · by_cases e : (i 28).toInt.toNat = 0
    · exact Or.inl e
    · exact Or.inr (by rw [a4 _ (by omega)]; exact h)
theorem RS_push {f g s b : Nat} {I i3 : Nat → Int32} {R r3 : Nat → Nat → Int32} {x : Int32} {o : Int} (h : SU f g s b I R) (hx : x.toInt = 1048576 * o) (ho : 2 ≤ o ∧ o ≤ 6) (e27 : i3 27 = I 27) (e28 : (i3 28).toInt = (I 28).toInt + 1) (e23 : (i3 23).toInt = (I 23).toInt + 1) (e32 : r3 21 = R 21) (e33 : r3 22 = upd (R 22) (I 28).toInt.toNat x) (h28 : 0 ≤ (I 28).toInt) (h23 : 0 ≤ (I 23).toInt) : SS f (g + 1 + bcn (R 22) b (I 28).toInt.toNat) s i3 r3 := by
  have hc := cOp_mk (x := x) (o := o) (v := 0) (by omega) ⟨by omega, by omega⟩
  unfold SS
  rw [e27, e32, e33, show (i3 28).toInt.toNat = (I 28).toInt.toNat + 1 by omega, show (i3 23).toInt.toNat = (I 23).toInt.toNat + 1 by omega]
  exact ST_push h.1 (by omega) (by unfold jmpW; omega)
theorem RS_fac {f g s : Nat} {i I I2 i3 I4 : Nat → Int32} {r R R2 r3 R4 : Nat → Nat → Int32} {x : Int32} {o : Int} (h : RSi f g s i r I R) (hc : CL f g s (i 28).toInt.toNat I R I2 R2) (hx : x.toInt = 1048576 * o) (ho : 2 ≤ o ∧ o ≤ 6) (e28 : (i3 28).toInt = (I2 28).toInt + 1) (e23 : (i3 23).toInt = (I2 23).toInt + 1) (e23b : I2 23 = I 23) (e32 : r3 21 = R2 21) (e33 : r3 22 = upd (R2 22) (I2 28).toInt.toNat x) (h28 : 0 ≤ (I2 28).toInt) (hf : RFi f (g + 1 + bcn (R2 22) (i 28).toInt.toNat (I2 28).toInt.toNat + 1) s i3 r3 I4 R4) : RSi f g s i r I4 R4 := by
  obtain ⟨-, b2, b3, b4⟩ := h
  obtain ⟨⟨c1, c2, c3, c4⟩, d2, d3, d4, d5⟩ := hc
  obtain ⟨a1, a2, a3, a4, a5, a6⟩ := hf
  have hop := cOp_mk (x := x) (o := o) (v := 0) (by omega) ⟨by omega, by omega⟩
  have em : (i3 28).toInt.toNat = (I2 28).toInt.toNat + 1 := by omega
  rw [em] at a4 a5
  have hw3 : ∀ j, j < (I2 28).toInt.toNat → R4 22 j = R2 22 j := fun j hj => by rw [a4 j (by omega), e33, pk_un (by omega)]
  have hwm : R4 22 (I2 28).toInt.toNat = x := by rw [a4 _ (by omega), e33, pk_us]
  have hbc : bcn (R4 22) (i 28).toInt.toNat (I4 28).toInt.toNat = bcn (R2 22) (i 28).toInt.toNat (I2 28).toInt.toNat + 1 := by
    rw [bcn_app (m := (I2 28).toInt.toNat + 1) (by omega) _ (by omega) a5]
    show (if (i 28).toInt.toNat ≤ (I2 28).toInt.toNat then bcn (R4 22) (i 28).toInt.toNat (I2 28).toInt.toNat + (if 2 ≤ cOp (R4 22 (I2 28).toInt.toNat) ∧ cOp (R4 22 (I2 28).toInt.toNat) ≤ 6 then 1 else 0) else 0) = _
    rw [if_pos c2, hwm, if_pos (by omega), bcn_congr _ hw3]
  refine ⟨⟨?_, by omega, fun j h1 h2 => ?_, ?_⟩, by rw [e23b] at e23; omega, fun j hj => ?_, low_tr b4 (low_tr d4 (low_tr (low_eq e32) a6))⟩
  · rw [hbc]; exact a1
  · by_cases e : j < (I2 28).toInt.toNat
    · rw [hw3 j e]; exact c3 j h1 e
    · by_cases e2 : j = (I2 28).toInt.toNat
      · rw [e2, hwm]; left; unfold binW; omega
      · exact Or.inr (a5 j (by omega) h2)
  · rcases c4 with h | h
    · exact Or.inl h
    · by_cases e : (i 28).toInt.toNat = 0
      · exact Or.inl e
      · right; rw [hw3 _ (by omega)]; exact h
  · rw [hw3 j (by omega), d5]; exact b3 j hj
theorem RS_pos {f g s : Nat} {i I I2 : Nat → Int32} {r R R2 : Nat → Nat → Int32} (h : RSi f g s i r I R) (hc : CL f g s (i 28).toInt.toNat I R I2 R2) (ho : hasO (R 22) (i 28).toInt.toNat (I 28).toInt.toNat) : (i 28).toInt.toNat < (I2 28).toInt.toNat := by
  obtain ⟨-, d2, d3, -, d5⟩ := hc
  obtain ⟨k, h1, h2, h3⟩ := ho
  by_cases e : k < (I2 28).toInt.toNat
  · omega
  · have h4 := d3 k (by omega) h2
    unfold binW at h4
    omega
theorem RS_close {f g s : Nat} {i I I2 i3 : Nat → Int32} {r R R2 r3 : Nat → Nat → Int32} (h : RSi f g s i r I R) (hc : CL f g s (i 28).toInt.toNat I R I2 R2) (hp : (i 28).toInt.toNat < (I2 28).toInt.toNat) (ht : ¬ (2 ≤ topv I2 R2 ∧ topv I2 R2 ≤ 6)) (e27 : i3 27 = I2 27) (e28 : (i3 28).toInt = (I2 28).toInt - 1) (e23 : (i3 23).toInt = (I2 23).toInt + 1) (e23b : I2 23 = I 23) (e32 : r3 21 = R2 21) (e33 : r3 22 = R2 22) (h23 : 0 ≤ (I2 23).toInt) : RSi f g s i r i3 r3 := by
  obtain ⟨-, b2, b3, b4⟩ := h
  obtain ⟨⟨c1, c2, c3, c4⟩, d2, d3, d4, d5⟩ := hc
  obtain ⟨m, hm⟩ : ∃ m : Nat, (I2 28).toInt.toNat = m + 1 := ⟨(I2 28).toInt.toNat - 1, by omega⟩
  have htop := topv_at (r := R2) hm
  have h14 : cOp (R2 22 m) = 14 := by
    rcases c3 m (by omega) (by omega) with h | h
    · unfold binW at h; rw [← htop] at h; exact absurd h ht
    · exact h
  have e1 : (i3 28).toInt.toNat = m := by omega
  have hbc : bcn (R2 22) (i 28).toInt.toNat (m + 1) = bcn (R2 22) (i 28).toInt.toNat m := bcn_app (by omega) _ (by omega) (fun j h1 h2 => by rw [show j = m by omega]; exact h14)
  unfold SS at c1
  rw [hm, hbc] at c1
  refine ⟨⟨?_, by omega, fun j h1 h2 => ?_, ?_⟩, by rw [e23b] at e23; omega, fun j hj => ?_, low_tr b4 (low_tr d4 (low_eq e32))⟩
  · unfold SS
    rw [e33, e32, e1, e27]
    exact ST_adv (ST_pop c1 (by unfold jmpW; omega)) (by omega) (by omega)
  · rw [e33]; exact c3 j h1 (by omega)
  · rw [e33]; exact c4
  · rw [e33, d5]; exact b3 j hj
theorem RS_done {f g s : Nat} {i I I2 : Nat → Int32} {r R R2 : Nat → Nat → Int32} (h : RSi f g s i r I R) (hc : CL f g s (i 28).toInt.toNat I R I2 R2) (hn : ¬ hasO (R 22) (i 28).toInt.toNat (I 28).toInt.toNat) (ht : ¬ (2 ≤ topv I2 R2 ∧ topv I2 R2 ≤ 6)) (e23b : I2 23 = I 23) (h28 : 0 ≤ (I2 28).toInt) (hi28 : 0 ≤ (i 28).toInt) : RS f g s i r 1 I2 R2 := by
  obtain ⟨-, b2, b3, b4⟩ := h
  obtain ⟨⟨c1, c2, c3, c4⟩, d2, d3, d4, d5⟩ := hc
  have he : (I2 28).toInt.toNat = (i 28).toInt.toNat := by
    by_cases e : (I2 28).toInt.toNat = (i 28).toInt.toNat
    · exact e
    · obtain ⟨m, hm⟩ : ∃ m : Nat, (I2 28).toInt.toNat = m + 1 := ⟨(I2 28).toInt.toNat - 1, by omega⟩
      have htop := topv_at (r := R2) hm
      rcases c3 m (by omega) (by omega) with h | h
      · unfold binW at h; rw [← htop] at h; exact absurd h ht
      · exact absurd ⟨m, by omega, by omega, by rw [← d5]; exact h⟩ hn
  refine Or.inl ⟨rfl, ?_, by rw [e23b]; exact b2, by omega, fun j hj => by rw [d5]; exact b3 j hj, low_tr b4 d4⟩
  rw [he, bcn_self _ (Nat.le_refl _)] at c1
  exact c1
set_option maxHeartbeats 4000000 in
set_option maxRecDepth 100000 in
theorem c_X12_sumSign9 (l : Launch) (p0 : Int32) : Met l yX12_sumSign (Cond.code yX12_sumSign cX12_sumSign 1 (some .int) :: gT) { frames := 1, cells := 0, slots := 0, locals := 24 } (va_Pc [.int p0] (fun _ => True)) (vp_Si (fun z => (z.toInt = -1 ∨ (2 ≤ z.toInt ∧ z.toInt ≤ 6)) ∧ (p0.toInt = -1 → z.toInt = -1))) 0 0 (fun _ => False) := by
  refine Met.ofQ (cc := cX12_sumSign) (maxL := 1) (ret := (some .int)) (by decide) rfl ?_
  intro p e s m args below meth c s₁ B hml hv Q hQ
  obtain ⟨rfl, -⟩ := hv
  have hx := B.exec
  have hb := B.bytes
  have hr := B.returns
  have hlocks := B.notSynchronized
  have hT : ∀ w ∈ gT, w.before _ s = true := fun w h => atoms_spec (ws := (Cond.code yX12_sumSign cX12_sumSign 1 (some .int) :: gT)) B.pre w (List.mem_cons_of_mem _ h)
  have hown : s.vm.findClass RX12 = some m.cls := findClass_of_methodNamed B.named
  have hl := lv_entry ([.int p0]) (n := 1) (Nat.le_of_ble_eq_true rfl)
  rw [lg_entry_eq]
  generalize (lg_sl ([.int p0]) ++ List.replicate (1 - (lg_sl ([.int p0])).length) Slot.unset).toArray = ls at hl ⊢
  have hl : lv_has ls 1 [(0, .int p0)] := hl
  refine lv_iload_n hx hb dX12_sumSign_0 rfl (lv_at hl 0 rfl) ?_
  refine lv_bipush (v := 43) hx hb dX12_sumSign_1 (by decide) ?_
  refine lv_icmp_ne (tgt := 10) hx hb dX12_sumSign_3 (by decide) (fun c_1 => ?_) (fun c_1 => ?_)
  · have c_1 : p0.toInt ≠ 43 := b_ne c_1
    refine lv_iload_n hx hb dX12_sumSign_10 rfl (lv_at hl 0 rfl) ?_
    refine lv_bipush (v := 45) hx hb dX12_sumSign_11 (by decide) ?_
    refine lv_icmp_ne (tgt := 20) hx hb dX12_sumSign_13 (by decide) (fun c_2 => ?_) (fun c_2 => ?_)
    · have c_2 : p0.toInt ≠ 45 := b_ne c_2
      refine lv_iload_n hx hb dX12_sumSign_20 rfl (lv_at hl 0 rfl) ?_
      refine lv_bipush (v := 42) hx hb dX12_sumSign_21 (by decide) ?_
      refine lv_icmp_ne (tgt := 30) hx hb dX12_sumSign_23 (by decide) (fun c_3 => ?_) (fun c_3 => ?_)
      · have c_3 : p0.toInt ≠ 42 := b_ne c_3
        refine lv_iload_n hx hb dX12_sumSign_30 rfl (lv_at hl 0 rfl) ?_
        refine lv_bipush (v := 47) hx hb dX12_sumSign_31 (by decide) ?_
        refine lv_icmp_ne (tgt := 40) hx hb dX12_sumSign_33 (by decide) (fun c_4 => ?_) (fun c_4 => ?_)
        · have c_4 : p0.toInt ≠ 47 := b_ne c_4
          refine lv_iload_n hx hb dX12_sumSign_40 rfl (lv_at hl 0 rfl) ?_
          refine lv_bipush (v := 37) hx hb dX12_sumSign_41 (by decide) ?_
          refine lv_icmp_ne (tgt := 51) hx hb dX12_sumSign_43 (by decide) (fun c_5 => ?_) (fun c_5 => ?_)
          · have c_5 : p0.toInt ≠ 37 := b_ne c_5
            refine lv_iconst (v := (-1)) hx hb dX12_sumSign_51 (by decide) ?_
            subst hQ
            exact W.iret (v := (-1)) hx hb hr (fun t ht hW => ⟨_, rfl, (by refine ⟨by decide, fun h9 => ?_⟩; first | rfl | (exfalso; omega)), ht⟩) (fun q hq => absurd hq List.not_mem_nil) dX12_sumSign_52
          · have c_5 : p0.toInt = 37 := b_nne c_5
            refine lv_bipush (v := 6) hx hb dX12_sumSign_46 (by decide) ?_
            refine lv_goto (tgt := 52) hx hb dX12_sumSign_48 (by decide) ?_
            subst hQ
            exact W.iret (v := 6) hx hb hr (fun t ht hW => ⟨_, rfl, (by refine ⟨by decide, fun h9 => ?_⟩; first | rfl | (exfalso; omega)), ht⟩) (fun q hq => absurd hq List.not_mem_nil) dX12_sumSign_52
        · have c_4 : p0.toInt = 47 := b_nne c_4
          refine lv_iconst (v := 5) hx hb dX12_sumSign_36 (by decide) ?_
          refine lv_goto (tgt := 52) hx hb dX12_sumSign_37 (by decide) ?_
          subst hQ
          exact W.iret (v := 5) hx hb hr (fun t ht hW => ⟨_, rfl, (by refine ⟨by decide, fun h9 => ?_⟩; first | rfl | (exfalso; omega)), ht⟩) (fun q hq => absurd hq List.not_mem_nil) dX12_sumSign_52
      · have c_3 : p0.toInt = 42 := b_nne c_3
        refine lv_iconst (v := 4) hx hb dX12_sumSign_26 (by decide) ?_
        refine lv_goto (tgt := 52) hx hb dX12_sumSign_27 (by decide) ?_
        subst hQ
        exact W.iret (v := 4) hx hb hr (fun t ht hW => ⟨_, rfl, (by refine ⟨by decide, fun h9 => ?_⟩; first | rfl | (exfalso; omega)), ht⟩) (fun q hq => absurd hq List.not_mem_nil) dX12_sumSign_52
    · have c_2 : p0.toInt = 45 := b_nne c_2
      refine lv_iconst (v := 3) hx hb dX12_sumSign_16 (by decide) ?_
      refine lv_goto (tgt := 52) hx hb dX12_sumSign_17 (by decide) ?_
      subst hQ
      exact W.iret (v := 3) hx hb hr (fun t ht hW => ⟨_, rfl, (by refine ⟨by decide, fun h9 => ?_⟩; first | rfl | (exfalso; omega)), ht⟩) (fun q hq => absurd hq List.not_mem_nil) dX12_sumSign_52
  · have c_1 : p0.toInt = 43 := b_nne c_1
    refine lv_iconst (v := 2) hx hb dX12_sumSign_6 (by decide) ?_
    refine lv_goto (tgt := 52) hx hb dX12_sumSign_7 (by decide) ?_
    subst hQ
    exact W.iret (v := 2) hx hb hr (fun t ht hW => ⟨_, rfl, (by refine ⟨by decide, fun h9 => ?_⟩; first | rfl | (exfalso; omega)), ht⟩) (fun q hq => absurd hq List.not_mem_nil) dX12_sumSign_52
set_option maxHeartbeats 4000000 in
set_option maxRecDepth 100000 in
theorem c_X12_readsSum (l : Launch) (D : va_G) (cy : Nat → ClassId) (a : Nat → Nat) (i : Nat → Int32) (r : Nat → Nat → Int32) (rl : Nat → Int64) (sz : Nat) (hRi : mRi i) (hRr : mRr r) (f9 g9 s9 : Nat) (hZ : SS f9 g9 s9 i r) (hO : outB (r 22) (i 28).toInt.toNat) : Met l yX12_readsSum (Cond.code yX12_readsSum cX12_readsSum 3 (some .boolean) :: gT) { frames := 5, cells := 0, slots := 0, locals := 106 } (va_Pc [.ref (a 0)] (rQ D cy (mW cy a i r rl) sz)) (va_Qi (fun (z : Int32) (u : (Nat → Int32) × (Nat → Nat → Int32)) => mRi u.1 ∧ mRr u.2 ∧ mEi [23, 25, 26, 27, 28, 30] i u.1 ∧ mEr [21, 22] r u.2 ∧ (RS f9 g9 s9 i r z u.1 u.2)) (fun (u : (Nat → Int32) × (Nat → Nat → Int32)) t => va_P D vwCl (mW cy a u.1 u.2 rl) t.heap ∧ va_K D vwCl (vT cy) t ∧ va_D (va_A (mW cy a i r rl) sz) (mW cy a u.1 u.2 rl)) (va_A (mW cy a i r rl) sz)) 0 0 (va_A (mW cy a i r rl) sz) := by
  refine Met.ofQ (cc := cX12_readsSum) (maxL := 3) (ret := (some .boolean)) (by decide) rfl ?_
  intro p e s m args below meth c s₁ B hml hv Q hQ
  obtain ⟨rfl, hsz, hP, hK, hD0⟩ := hv
  have hx := B.exec
  have hb := B.bytes
  have hr := B.returns
  have hlocks := B.notSynchronized
  have hT : ∀ w ∈ gT, w.before _ s = true := fun w h => atoms_spec (ws := (Cond.code yX12_readsSum cX12_readsSum 3 (some .boolean) :: gT)) B.pre w (List.mem_cons_of_mem _ h)
  have hown : s.vm.findClass RX12 = some m.cls := findClass_of_methodNamed B.named
  subst hsz
  have hD := hD0.self (sz := s.heap.size)
  generalize hAe : va_A (mW cy a i r rl) s.heap.size = A at hD hQ
  have hA : ∀ q : Nat, s.heap.size ≤ q → A q := fun q h => by rw [← hAe]; exact Or.inr h
  have hS : va_S A s.heap s.heap [] := va_S.rf
  have hl := lv_entry ([.ref (a 0)]) (n := 3) (Nat.le_of_ble_eq_true rfl)
  rw [lg_entry_eq]
  generalize (lg_sl ([.ref (a 0)]) ++ List.replicate (3 - (lg_sl ([.ref (a 0)])).length) Slot.unset).toArray = ls at hl ⊢
  have hl : lv_has ls 3 [(0, .ref (a 0))] := hl
  have hEi : mEi [23, 25, 26, 27, 28, 30] i i := Ei_rf
  have hEr : mEr [21, 22] r r := Er_rf
  have hg23 : 0 ≤ (i 23).toInt ∧ (i 23).toInt ≤ 200 := hRi 23
  have hg27 : 0 ≤ (i 27).toInt ∧ (i 27).toInt ≤ 220 := hRi 27
  have hg28 : 0 ≤ (i 28).toInt ∧ (i 28).toInt ≤ 220 := hRi 28
  have hssi := SS_n hZ
  refine lv_aload_n hx hb dX12_readsSum_0 rfl (lv_at hl 0 rfl) ?_
  refine va_get (D := D) (ci := 12) (v := .int (i 28)) (C := RX12) (T := TX12) (N := 91) hx hb hT iX12 hown hK hP 0 rfl rfl 28 (by decide) (hT _ t_849) (fun _ h9 => h9) rfl dX12_readsSum_1 ?_
  have hg_1 : 0 ≤ (i 28).toInt ∧ (i 28).toInt ≤ 220 := hRi 28
  refine lv_istore_n (lv' := [(1, .int (i 28)), (0, .ref (a 0))]) hx hb dX12_readsSum_4 rfl hl (by decide) rfl (fun ls hl => ?_)
  refine lv_aload_n hx hb dX12_readsSum_5 rfl (lv_at hl 1 rfl) ?_
  have hF_2 := rF hD hS hA
  refine va_calli (va_runV (As := []) (rest := []) ⟨hx, hb, hml, hown, hT⟩ (c_X12_readsFactor l D cy a i r rl _ hRi hRr f9 g9 s9 hZ) (cwV 0 hT (gV t_869 t_870 t_871 t_872 t_6) rfl rfl rfl (by decide +kernel) ⟨Nat.le_of_ble_eq_true rfl, Nat.le_of_ble_eq_true rfl⟩) (rQ_v hP hK hD (va_recv hK hP (ci := 12) (q0 := 0) rfl rfl)) rfl rfl hl.1 rfl (lv_room (Nat.le_of_ble_eq_true rfl)) dX12_readsSum_6 ⟨Nat.le_of_ble_eq_true rfl, Nat.le_of_ble_eq_true rfl⟩) hS (fun q _ h => hF_2 q h) hF_2 (fun r_3 u_4 t H1 locs ht hvm hr_3 hB hz1 hk1 hS => ?_)
  obtain ⟨i4, r4⟩ := u_4
  obtain ⟨hP, hK1, hD1⟩ := hB
  rw [ht] at hP
  have hD := hD1.weaken (fun k q _ h => hF_2 q.1 h)
  have hP : va_P D vwCl (mW cy a i4 r4 rl) H1 := hP
  have hD : va_D A (mW cy a i4 r4 rl) := hD
  obtain ⟨hRi, hRr, hE1, hE2, hr_3⟩ := hr_3
  have hRi : mRi i4 := hRi
  have hRr : mRr r4 := hRr
  have hEi : mEi [23, 25, 26, 27, 28, 30] _ i4 := Ei_tr hEi hE1 (by decide)
  have hEr : mEr [21, 22] _ r4 := Er_tr hEr hE2 (by decide)
  rcases hr_3 with ⟨rfl, hrf3, hlt3⟩ | rfl
  · have hrf3 : RFi f9 (g9 + 1) s9 i r i4 r4 := hrf3
    have hlt3 : (i 23).toInt < (i4 23).toInt := hlt3
    refine lv_if_ne (tgt := 14) hx hb dX12_readsSum_9 (by decide) (fun c_5 => ?_) (fun c_5 => absurd c_5 (by decide))
    have loop_6 : ∀ (n : Nat) (i6 : Nat → Int32) (r6 : Nat → Nat → Int32) (H : Heap) (locs : List Loc) (ls : Array Slot), (200 - (i6 23).toInt).toNat < n → mRi i6 → mEi [23, 25, 26, 27, 28, 30] i i6 → mRr r6 → mEr [21, 22] r r6 → (RSi f9 g9 s9 i r i6 r6) → va_P D vwCl (mW cy a i6 r6 rl) H → va_D A (mW cy a i6 r6 rl) → va_S A s.heap H locs → lv_has ls 3 [(1, .int (i 28)), (0, .ref (a 0))] → W p l e ({ frames := 5, cells := 0, slots := 0, locals := 106 } : Room) s m ([.ref (a 0)] : List Value).toArray below meth c H locs 0 0 Q (F0 m 14 ls []) := by
      intro n
      induction n with
      | zero =>
        intro i6 r6 H locs ls hm6 hRi hEi hRr hEr hx6 hP hD hS hl
        exact absurd hm6 (by omega)
      | succ n ih6 =>
        intro i6 r6 H locs ls hm6 hRi hEi hRr hEr hx6 hP hD hS hl
        refine lv_aload_n hx hb dX12_readsSum_14 rfl (lv_at hl 1 rfl) ?_
        have hg23 : 0 ≤ (i6 23).toInt ∧ (i6 23).toInt ≤ 200 := hRi 23
        have hg27 : 0 ≤ (i6 27).toInt ∧ (i6 27).toInt ≤ 220 := hRi 27
        have hg28 : 0 ≤ (i6 28).toInt ∧ (i6 28).toInt ≤ 220 := hRi 28
        have hss := SS_n hx6.1.1
        have hb27 : (i6 27).toInt ≤ 200 := by omega
        have hb28 : (i6 28).toInt ≤ 200 := by omega
        have hg24 : 0 ≤ (i6 24).toInt ∧ (i6 24).toInt ≤ 200 := hRi 24
        have hb28i : (i 28).toInt ≤ 200 := by omega
        refine vp_callSi (W.runV (As := []) (rest := []) ⟨hx, hb, hml, hown, hT⟩ (c_X12_here l D cy a i6 r6 rl hRi hRr) (cwV 0 hT (gV t_254 t_255 t_256 t_257 t_6) rfl rfl rfl (by decide +kernel) ⟨Nat.le_of_ble_eq_true rfl, Nat.le_of_ble_eq_true rfl⟩) (rP_v hP hK (va_recv hK hP (ci := 12) (q0 := 0) rfl rfl)) rfl rfl hl.1 rfl (lv_room (Nat.le_of_ble_eq_true rfl)) dX12_readsSum_15 ⟨Nat.le_of_ble_eq_true rfl, Nat.le_of_ble_eq_true rfl⟩) (fun r_7 hr_7 => ?_)
        have hqr_7 : -1 ≤ r_7.toInt ∧ r_7.toInt ≤ 255 := by rw [hr_7]; exact mHere_rg _ _
        have hwr_7 : r_7.toInt = (mHere i6 r6).toInt := congrArg Int32.toInt hr_7
        refine vp_callSi (W.runS (As := [.int r_7]) (rest := []) ⟨hx, hb, hml, hown, hT⟩ (c_X12_sumSign9 l r_7) (va_cwS 1 hT (gS t_873 t_874 t_875 t_6) rfl rfl rfl (by decide +kernel) ⟨Nat.le_of_ble_eq_true rfl, Nat.le_of_ble_eq_true rfl⟩) preT rfl rfl hl.1 rfl (lv_room (Nat.le_of_ble_eq_true rfl)) dX12_readsSum_18 ⟨Nat.le_of_ble_eq_true rfl, Nat.le_of_ble_eq_true rfl⟩) (fun r_8 hr_8 => ?_)
        have hss_r_8 := hr_8.1
        have hse_r_8 : r_7.toInt = -1 → r_8.toInt = -1 := hr_8.2
        refine lv_istore_n (lv' := [(2, .int r_8), (1, .int (i 28)), (0, .ref (a 0))]) hx hb dX12_readsSum_21 rfl hl (by decide) rfl (fun ls hl => ?_)
        refine lv_iload_n hx hb dX12_readsSum_22 rfl (lv_at hl 0 rfl) ?_
        refine lv_iconst (v := (-1)) hx hb dX12_readsSum_23 (by decide) ?_
        refine lv_icmp_eq (tgt := 84) hx hb dX12_readsSum_24 (by decide) (fun c_9 => ?_) (fun c_9 => ?_)
        · have c_9 : r_8.toInt = (-1) := b_eq c_9
          refine lv_aload_n hx hb dX12_readsSum_84 rfl (lv_at hl 2 rfl) ?_
          refine vp_callSi (W.runV (As := []) (rest := []) ⟨hx, hb, hml, hown, hT⟩ (c_X12_here l D cy a i6 r6 rl hRi hRr) (cwV 0 hT (gV t_254 t_255 t_256 t_257 t_6) rfl rfl rfl (by decide +kernel) ⟨Nat.le_of_ble_eq_true rfl, Nat.le_of_ble_eq_true rfl⟩) (rP_v hP hK (va_recv hK hP (ci := 12) (q0 := 0) rfl rfl)) rfl rfl hl.1 rfl (lv_room (Nat.le_of_ble_eq_true rfl)) dX12_readsSum_85 ⟨Nat.le_of_ble_eq_true rfl, Nat.le_of_ble_eq_true rfl⟩) (fun r_10 hr_10 => ?_)
          have hqr_10 : -1 ≤ r_10.toInt ∧ r_10.toInt ≤ 255 := by rw [hr_10]; exact mHere_rg _ _
          have hwr_10 : r_10.toInt = (mHere i6 r6).toInt := congrArg Int32.toInt hr_10
          refine lv_bipush (v := 93) hx hb dX12_readsSum_88 (by decide) ?_
          refine lv_icmp_ne (tgt := 139) hx hb dX12_readsSum_90 (by decide) (fun c_11 => ?_) (fun c_11 => ?_)
          · have c_11 : r_10.toInt ≠ 93 := b_ne c_11
            refine lv_aload_n hx hb dX12_readsSum_139 rfl (lv_at hl 2 rfl) ?_
            refine lv_iload_n hx hb dX12_readsSum_140 rfl (lv_at hl 1 rfl) ?_
            refine vp_callSi (W.runV (As := [.int (i 28)]) (rest := []) ⟨hx, hb, hml, hown, hT⟩ (c_X12_hasOpenSum l D cy a i6 r6 rl (i 28) hRi hRr (by omega) (SS_w hx6.1.1)) (cwV 1 hT (gV t_876 t_877 t_878 t_879 t_6) rfl rfl rfl (by decide +kernel) ⟨Nat.le_of_ble_eq_true rfl, Nat.le_of_ble_eq_true rfl⟩) (rP_v hP hK (va_recv hK hP (ci := 12) (q0 := 0) rfl rfl)) rfl rfl hl.1 rfl (lv_room (Nat.le_of_ble_eq_true rfl)) dX12_readsSum_141 ⟨Nat.le_of_ble_eq_true rfl, Nat.le_of_ble_eq_true rfl⟩) (fun r_12 hr_12 => ?_)
            have hr_12 : BR r_12 (hasO (r6 22) ((i 28).toInt.toNat) (i6 28).toInt.toNat) 1 0 := hr_12
            rcases hr_12 with ⟨rfl, h_13⟩ | ⟨rfl, h_13⟩
            · skip
              refine lv_if_eq (tgt := 157) hx hb dX12_readsSum_144 (by decide) (fun c_14 => absurd c_14 (by decide)) (fun c_14 => ?_)
              refine lv_aload_n hx hb dX12_readsSum_147 rfl (lv_at hl 2 rfl) ?_
              refine lv_iconst (v := 1) hx hb dX12_readsSum_148 (by decide) ?_
              refine lv_aload_n hx hb dX12_readsSum_149 rfl (lv_at hl 2 rfl) ?_
              refine va_get (D := D) (ci := 12) (v := .int (i6 23)) (C := RX12) (T := TX12) (N := 91) hx hb hT iX12 hown hK hP 0 rfl rfl 23 (by decide) (hT _ t_252) (fun _ h9 => h9) rfl dX12_readsSum_150 ?_
              have hg_15 : 0 ≤ (i6 23).toInt ∧ (i6 23).toInt ≤ 200 := hRi 23
              have hF_16 := rF hD hS hA
              refine va_calli (va_runV (As := [.int 1, .int (i6 23)]) (rest := []) ⟨hx, hb, hml, hown, hT⟩ (c_X12_wrongAt l D cy a i6 r6 rl 1 (i6 23) _ hRi hRr) (cwV 2 hT (gV t_259 t_260 t_261 t_262 t_6) rfl rfl rfl (by decide +kernel) ⟨Nat.le_of_ble_eq_true rfl, Nat.le_of_ble_eq_true rfl⟩) (rQ_v hP hK hD (va_recv hK hP (ci := 12) (q0 := 0) rfl rfl)) rfl rfl hl.1 rfl (lv_room (Nat.le_of_ble_eq_true rfl)) dX12_readsSum_153 ⟨Nat.le_of_ble_eq_true rfl, Nat.le_of_ble_eq_true rfl⟩) hS (fun q _ h => hF_16 q h) hF_16 (fun r_17 u_18 t H1 locs ht hvm hr_17 hB hz1 hk1 hS => ?_)
              obtain ⟨i18, r18⟩ := u_18
              obtain ⟨hP, hK1, hD1⟩ := hB
              rw [ht] at hP
              have hD := hD1.weaken (fun k q _ h => hF_16 q.1 h)
              have hP : va_P D vwCl (mW cy a i18 r18 rl) H1 := hP
              have hD : va_D A (mW cy a i18 r18 rl) := hD
              obtain ⟨hRi, hRr, hE1, hE2, hr_17⟩ := hr_17
              have hRi : mRi i18 := hRi
              have hRr : mRr r18 := hRr
              have hEi : mEi [23, 25, 26, 27, 28, 30] _ i18 := Ei_tr hEi hE1 (by decide)
              have hEr : mEr [21, 22] _ r18 := Er_tr hEr hE2 (by decide)
              subst hr_17
              subst hQ
              exact W.zret hx hb hr rfl (fun t ht hW => ⟨⟨_, (i18, r18), rfl, ⟨hRi, hRr, hEi, hEr, (Or.inr rfl)⟩, by rw [ht]; exact hP, va_K.moved hW.alike hK, hD⟩, hS.F ht⟩) hS.2.2 dX12_readsSum_156
            · skip
              refine lv_if_eq (tgt := 157) hx hb dX12_readsSum_144 (by decide) (fun c_19 => ?_) (fun c_19 => absurd (by decide) c_19)
              refine lv_aload_n hx hb dX12_readsSum_157 rfl (lv_at hl 2 rfl) ?_
              refine lv_iconst (v := 1) hx hb dX12_readsSum_158 (by decide) ?_
              have hF_20 := rF hD hS hA
              refine va_callv (va_runV (As := [.int 1]) (rest := []) ⟨hx, hb, hml, hown, hT⟩ (c_X12_closesSums l D cy a i6 r6 rl 1 _ hRi hRr f9 g9 s9 ((i 28).toInt.toNat) hx6.1) (cwV 1 hT (gV t_880 t_881 t_882 t_883 t_6) rfl rfl rfl (by decide +kernel) ⟨Nat.le_of_ble_eq_true rfl, Nat.le_of_ble_eq_true rfl⟩) (rQ_v hP hK hD (va_recv hK hP (ci := 12) (q0 := 0) rfl rfl)) rfl rfl hl.1 rfl (lv_room (Nat.le_of_ble_eq_true rfl)) dX12_readsSum_159 ⟨Nat.le_of_ble_eq_true rfl, Nat.le_of_ble_eq_true rfl⟩) hS (fun q _ h => hF_20 q h) hF_20 (fun u_22 t H1 locs ht hvm hr_21 hB hz1 hk1 hS => ?_)
              obtain ⟨i22, r22⟩ := u_22
              obtain ⟨hP, hK1, hD1⟩ := hB
              rw [ht] at hP
              have hD := hD1.weaken (fun k q _ h => hF_20 q.1 h)
              have hP : va_P D vwCl (mW cy a i22 r22 rl) H1 := hP
              have hD : va_D A (mW cy a i22 r22 rl) := hD
              obtain ⟨hRi, hRr, hE1, hE2, hr_21⟩ := hr_21
              have hRi : mRi i22 := hRi
              have hRr : mRr r22 := hRr
              have hEi : mEi [23, 25, 26, 27, 28, 30] _ i22 := Ei_tr hEi hE1 (by decide)
              have hEr : mEr [21, 22] _ r22 := Er_tr hEr hE2 (by decide)
              have hr_21 : CL f9 g9 s9 ((i 28).toInt.toNat) i6 r6 i22 r22 ∧ ¬ (4 ≤ topv i22 r22 ∧ topv i22 r22 ≤ 6) ∧ ((1 : Int32).toInt ≠ 0 → ¬ (2 ≤ topv i22 r22 ∧ topv i22 r22 ≤ 6)) := hr_21
              have e23b : i22 23 = i6 23 := hE1 23 (by decide)
              have e23t : (i22 23).toInt = (i6 23).toInt := congrArg Int32.toInt e23b
              have h28c : 0 ≤ (i22 28).toInt ∧ (i22 28).toInt ≤ 200 := by have h9 := hr_21.1.2.1; have h8 : 0 ≤ (i22 28).toInt ∧ (i22 28).toInt ≤ 220 := hRi 28; omega
              refine lv_iconst (v := 1) hx hb dX12_readsSum_162 (by decide) ?_
              subst hQ
              have hj : RS f9 g9 s9 i r 1 i22 r22 := RS_done hx6 hr_21.1 h_13 (hr_21.2.2 (by decide)) e23b (by omega) (by omega)
              exact W.zret hx hb hr rfl (fun t ht hW => ⟨⟨_, (i22, r22), rfl, ⟨hRi, hRr, hEi, hEr, hj⟩, by rw [ht]; exact hP, va_K.moved hW.alike hK, hD⟩, hS.F ht⟩) hS.2.2 dX12_readsSum_163
          · have c_11 : r_10.toInt = 93 := b_nne c_11
            have hlt9 := mHere_lt (i := i6) (r := r6) (by omega)
            refine lv_aload_n hx hb dX12_readsSum_93 rfl (lv_at hl 2 rfl) ?_
            refine lv_iload_n hx hb dX12_readsSum_94 rfl (lv_at hl 1 rfl) ?_
            refine vp_callSi (W.runV (As := [.int (i 28)]) (rest := []) ⟨hx, hb, hml, hown, hT⟩ (c_X12_hasOpenSum l D cy a i6 r6 rl (i 28) hRi hRr (by omega) (SS_w hx6.1.1)) (cwV 1 hT (gV t_876 t_877 t_878 t_879 t_6) rfl rfl rfl (by decide +kernel) ⟨Nat.le_of_ble_eq_true rfl, Nat.le_of_ble_eq_true rfl⟩) (rP_v hP hK (va_recv hK hP (ci := 12) (q0 := 0) rfl rfl)) rfl rfl hl.1 rfl (lv_room (Nat.le_of_ble_eq_true rfl)) dX12_readsSum_95 ⟨Nat.le_of_ble_eq_true rfl, Nat.le_of_ble_eq_true rfl⟩) (fun r_23 hr_23 => ?_)
            have hr_23 : BR r_23 (hasO (r6 22) ((i 28).toInt.toNat) (i6 28).toInt.toNat) 1 0 := hr_23
            rcases hr_23 with ⟨rfl, h_24⟩ | ⟨rfl, h_24⟩
            · skip
              refine lv_if_eq (tgt := 139) hx hb dX12_readsSum_98 (by decide) (fun c_25 => absurd c_25 (by decide)) (fun c_25 => ?_)
              refine lv_aload_n hx hb dX12_readsSum_101 rfl (lv_at hl 2 rfl) ?_
              refine lv_iconst (v := 1) hx hb dX12_readsSum_102 (by decide) ?_
              have hF_26 := rF hD hS hA
              refine va_callv (va_runV (As := [.int 1]) (rest := []) ⟨hx, hb, hml, hown, hT⟩ (c_X12_closesSums l D cy a i6 r6 rl 1 _ hRi hRr f9 g9 s9 ((i 28).toInt.toNat) hx6.1) (cwV 1 hT (gV t_880 t_881 t_882 t_883 t_6) rfl rfl rfl (by decide +kernel) ⟨Nat.le_of_ble_eq_true rfl, Nat.le_of_ble_eq_true rfl⟩) (rQ_v hP hK hD (va_recv hK hP (ci := 12) (q0 := 0) rfl rfl)) rfl rfl hl.1 rfl (lv_room (Nat.le_of_ble_eq_true rfl)) dX12_readsSum_103 ⟨Nat.le_of_ble_eq_true rfl, Nat.le_of_ble_eq_true rfl⟩) hS (fun q _ h => hF_26 q h) hF_26 (fun u_28 t H1 locs ht hvm hr_27 hB hz1 hk1 hS => ?_)
              obtain ⟨i28, r28⟩ := u_28
              obtain ⟨hP, hK1, hD1⟩ := hB
              rw [ht] at hP
              have hD := hD1.weaken (fun k q _ h => hF_26 q.1 h)
              have hP : va_P D vwCl (mW cy a i28 r28 rl) H1 := hP
              have hD : va_D A (mW cy a i28 r28 rl) := hD
              obtain ⟨hRi, hRr, hE1, hE2, hr_27⟩ := hr_27
              have hRi : mRi i28 := hRi
              have hRr : mRr r28 := hRr
              have hEi : mEi [23, 25, 26, 27, 28, 30] _ i28 := Ei_tr hEi hE1 (by decide)
              have hEr : mEr [21, 22] _ r28 := Er_tr hEr hE2 (by decide)
              have hr_27 : CL f9 g9 s9 ((i 28).toInt.toNat) i6 r6 i28 r28 ∧ ¬ (4 ≤ topv i28 r28 ∧ topv i28 r28 ≤ 6) ∧ ((1 : Int32).toInt ≠ 0 → ¬ (2 ≤ topv i28 r28 ∧ topv i28 r28 ≤ 6)) := hr_27
              have e23b : i28 23 = i6 23 := hE1 23 (by decide)
              have e23t : (i28 23).toInt = (i6 23).toInt := congrArg Int32.toInt e23b
              have h28c : 0 ≤ (i28 28).toInt ∧ (i28 28).toInt ≤ 200 := by have h9 := hr_27.1.2.1; have h8 : 0 ≤ (i28 28).toInt ∧ (i28 28).toInt ≤ 220 := hRi 28; omega
              have hpos := RS_pos hx6 hr_27.1 h_24
              have hpos2 : 1 ≤ (i28 28).toInt := by omega
              refine lv_aload_n hx hb dX12_readsSum_106 rfl (lv_at hl 2 rfl) ?_
              refine lv_aload_n hx hb dX12_readsSum_107 rfl (lv_at hl 2 rfl) ?_
              refine va_get (D := D) (ci := 12) (v := .int (i28 28)) (C := RX12) (T := TX12) (N := 91) hx hb hT iX12 hown hK hP 0 rfl rfl 28 (by decide) (hT _ t_849) (fun _ h9 => h9) rfl dX12_readsSum_108 ?_
              have hg_29 : 0 ≤ (i28 28).toInt ∧ (i28 28).toInt ≤ 220 := hRi 28
              refine lv_iconst (v := 1) hx hb dX12_readsSum_111 (by decide) ?_
              refine lv_isub hx hb dX12_readsSum_112 ?_
              refine lv_topi (fun v_30 ev_30 => ?_)
              have hv_30 : v_30.toInt = (i28 28).toInt - 1 := by rw [ev_30]; have := b_rg (i28 28); exact i_sub (a := (i28 28).toInt) (b := 1) rfl rfl (by omega) (by omega)
              refine va_put (D := D) (ci := 12) (v := .int v_30) (ty := .int) (C := RX12) (T := TX12) (N := 91) hx hb hT iX12 tyX12 tyX12_ok nmX12 hown hK hP hD hS 0 rfl rfl 28 (by decide) (hT _ t_849) (fun _ h9 => h9) rfl (by decide +kernel) rfl rfl (Nat.le_of_ble_eq_true rfl) dX12_readsSum_113 (fun H locs hP hD hS => ?_)
              rw [mP28] at hP hD
              have hRi := Ri_upd hRi 28 v_30 ⟨by show (0 : Int) ≤ v_30.toInt; omega, by show v_30.toInt ≤ (220 : Int); omega⟩
              have hEi := Ei_upd hEi 28 v_30 (by decide)
              refine lv_aload_n hx hb dX12_readsSum_116 rfl (lv_at hl 2 rfl) ?_
              refine lv_aload_n hx hb dX12_readsSum_117 rfl (lv_at hl 2 rfl) ?_
              refine va_get (D := D) (ci := 12) (v := .int (i28 26)) (C := RX12) (T := TX12) (N := 91) hx hb hT iX12 hown hK hP 0 rfl rfl 26 (by decide) (hT _ t_848) (fun _ h9 => h9) rfl dX12_readsSum_118 ?_
              refine lv_iconst (v := 1) hx hb dX12_readsSum_121 (by decide) ?_
              refine lv_isub hx hb dX12_readsSum_122 ?_
              refine lv_topi (fun v_31 ev_31 => ?_)
              refine va_put (D := D) (ci := 12) (v := .int v_31) (ty := .int) (C := RX12) (T := TX12) (N := 91) hx hb hT iX12 tyX12 tyX12_ok nmX12 hown hK hP hD hS 0 rfl rfl 26 (by decide) (hT _ t_848) (fun _ h9 => h9) rfl (by decide +kernel) rfl rfl (Nat.le_of_ble_eq_true rfl) dX12_readsSum_123 (fun H locs hP hD hS => ?_)
              rw [mP26] at hP hD
              have hRi := Ri_upd hRi 26 v_31 (b_rg _)
              have hEi := Ei_upd hEi 26 v_31 (by decide)
              refine lv_aload_n hx hb dX12_readsSum_126 rfl (lv_at hl 2 rfl) ?_
              refine lv_aload_n hx hb dX12_readsSum_127 rfl (lv_at hl 2 rfl) ?_
              refine va_get (D := D) (ci := 12) (v := .int (i28 23)) (C := RX12) (T := TX12) (N := 91) hx hb hT iX12 hown hK hP 0 rfl rfl 23 (by decide) (hT _ t_252) (fun _ h9 => h9) rfl dX12_readsSum_128 ?_
              have hg_32 : 0 ≤ (i28 23).toInt ∧ (i28 23).toInt ≤ 200 := hRi 23
              refine lv_iconst (v := 1) hx hb dX12_readsSum_131 (by decide) ?_
              refine lv_iadd hx hb dX12_readsSum_132 ?_
              refine lv_topi (fun v_33 ev_33 => ?_)
              have hv_33 : v_33.toInt = (i28 23).toInt + 1 := by rw [ev_33]; have := b_rg (i28 23); exact i_add (a := (i28 23).toInt) (b := 1) rfl rfl (by omega) (by omega)
              refine va_put (D := D) (ci := 12) (v := .int v_33) (ty := .int) (C := RX12) (T := TX12) (N := 91) hx hb hT iX12 tyX12 tyX12_ok nmX12 hown hK hP hD hS 0 rfl rfl 23 (by decide) (hT _ t_252) (fun _ h9 => h9) rfl (by decide +kernel) rfl rfl (Nat.le_of_ble_eq_true rfl) dX12_readsSum_133 (fun H locs hP hD hS => ?_)
              rw [mP23] at hP hD
              have hRi := Ri_upd hRi 23 v_33 ⟨by show (0 : Int) ≤ v_33.toInt; omega, by show v_33.toInt ≤ (200 : Int); omega⟩
              have hEi := Ei_upd hEi 23 v_33 (by decide)
              refine lv_goto (tgt := 164) hx hb dX12_readsSum_136 (by decide) ?_
              refine lv_goto (tgt := 14) hx hb dX12_readsSum_164 (by decide) ?_
              have hmm23 : ((upd (upd (upd i28 28 v_30) 26 v_31) 23 v_33) 23).toInt = v_33.toInt := rfl
              exact ih6 (upd (upd (upd i28 28 v_30) 26 v_31) 23 v_33) r28 _ _ _ (by first | omega | (simp only [Int.toNat]; omega))  hRi hEi hRr hEr (RS_close hx6 hr_27.1 hpos (hr_27.2.2 (by decide)) rfl (by show v_30.toInt = _; omega) (by show v_33.toInt = _; omega) e23b rfl rfl (by omega)) hP hD hS (lv_sub hl [1, 2] rfl)
            · skip
              refine lv_if_eq (tgt := 139) hx hb dX12_readsSum_98 (by decide) (fun c_34 => ?_) (fun c_34 => absurd (by decide) c_34)
              refine lv_aload_n hx hb dX12_readsSum_139 rfl (lv_at hl 2 rfl) ?_
              refine lv_iload_n hx hb dX12_readsSum_140 rfl (lv_at hl 1 rfl) ?_
              refine vp_callSi (W.runV (As := [.int (i 28)]) (rest := []) ⟨hx, hb, hml, hown, hT⟩ (c_X12_hasOpenSum l D cy a i6 r6 rl (i 28) hRi hRr (by omega) (SS_w hx6.1.1)) (cwV 1 hT (gV t_876 t_877 t_878 t_879 t_6) rfl rfl rfl (by decide +kernel) ⟨Nat.le_of_ble_eq_true rfl, Nat.le_of_ble_eq_true rfl⟩) (rP_v hP hK (va_recv hK hP (ci := 12) (q0 := 0) rfl rfl)) rfl rfl hl.1 rfl (lv_room (Nat.le_of_ble_eq_true rfl)) dX12_readsSum_141 ⟨Nat.le_of_ble_eq_true rfl, Nat.le_of_ble_eq_true rfl⟩) (fun r_35 hr_35 => ?_)
              have hr_35 : BR r_35 (hasO (r6 22) ((i 28).toInt.toNat) (i6 28).toInt.toNat) 1 0 := hr_35
              rcases hr_35 with ⟨rfl, h_36⟩ | ⟨rfl, h_36⟩
              · skip
                refine lv_if_eq (tgt := 157) hx hb dX12_readsSum_144 (by decide) (fun c_37 => absurd c_37 (by decide)) (fun c_37 => ?_)
                refine lv_aload_n hx hb dX12_readsSum_147 rfl (lv_at hl 2 rfl) ?_
                refine lv_iconst (v := 1) hx hb dX12_readsSum_148 (by decide) ?_
                refine lv_aload_n hx hb dX12_readsSum_149 rfl (lv_at hl 2 rfl) ?_
                refine va_get (D := D) (ci := 12) (v := .int (i6 23)) (C := RX12) (T := TX12) (N := 91) hx hb hT iX12 hown hK hP 0 rfl rfl 23 (by decide) (hT _ t_252) (fun _ h9 => h9) rfl dX12_readsSum_150 ?_
                have hg_38 : 0 ≤ (i6 23).toInt ∧ (i6 23).toInt ≤ 200 := hRi 23
                have hF_39 := rF hD hS hA
                refine va_calli (va_runV (As := [.int 1, .int (i6 23)]) (rest := []) ⟨hx, hb, hml, hown, hT⟩ (c_X12_wrongAt l D cy a i6 r6 rl 1 (i6 23) _ hRi hRr) (cwV 2 hT (gV t_259 t_260 t_261 t_262 t_6) rfl rfl rfl (by decide +kernel) ⟨Nat.le_of_ble_eq_true rfl, Nat.le_of_ble_eq_true rfl⟩) (rQ_v hP hK hD (va_recv hK hP (ci := 12) (q0 := 0) rfl rfl)) rfl rfl hl.1 rfl (lv_room (Nat.le_of_ble_eq_true rfl)) dX12_readsSum_153 ⟨Nat.le_of_ble_eq_true rfl, Nat.le_of_ble_eq_true rfl⟩) hS (fun q _ h => hF_39 q h) hF_39 (fun r_40 u_41 t H1 locs ht hvm hr_40 hB hz1 hk1 hS => ?_)
                obtain ⟨i41, r41⟩ := u_41
                obtain ⟨hP, hK1, hD1⟩ := hB
                rw [ht] at hP
                have hD := hD1.weaken (fun k q _ h => hF_39 q.1 h)
                have hP : va_P D vwCl (mW cy a i41 r41 rl) H1 := hP
                have hD : va_D A (mW cy a i41 r41 rl) := hD
                obtain ⟨hRi, hRr, hE1, hE2, hr_40⟩ := hr_40
                have hRi : mRi i41 := hRi
                have hRr : mRr r41 := hRr
                have hEi : mEi [23, 25, 26, 27, 28, 30] _ i41 := Ei_tr hEi hE1 (by decide)
                have hEr : mEr [21, 22] _ r41 := Er_tr hEr hE2 (by decide)
                subst hr_40
                subst hQ
                exact W.zret hx hb hr rfl (fun t ht hW => ⟨⟨_, (i41, r41), rfl, ⟨hRi, hRr, hEi, hEr, (Or.inr rfl)⟩, by rw [ht]; exact hP, va_K.moved hW.alike hK, hD⟩, hS.F ht⟩) hS.2.2 dX12_readsSum_156
              · skip
                refine lv_if_eq (tgt := 157) hx hb dX12_readsSum_144 (by decide) (fun c_42 => ?_) (fun c_42 => absurd (by decide) c_42)
                refine lv_aload_n hx hb dX12_readsSum_157 rfl (lv_at hl 2 rfl) ?_
                refine lv_iconst (v := 1) hx hb dX12_readsSum_158 (by decide) ?_
                have hF_43 := rF hD hS hA
                refine va_callv (va_runV (As := [.int 1]) (rest := []) ⟨hx, hb, hml, hown, hT⟩ (c_X12_closesSums l D cy a i6 r6 rl 1 _ hRi hRr f9 g9 s9 ((i 28).toInt.toNat) hx6.1) (cwV 1 hT (gV t_880 t_881 t_882 t_883 t_6) rfl rfl rfl (by decide +kernel) ⟨Nat.le_of_ble_eq_true rfl, Nat.le_of_ble_eq_true rfl⟩) (rQ_v hP hK hD (va_recv hK hP (ci := 12) (q0 := 0) rfl rfl)) rfl rfl hl.1 rfl (lv_room (Nat.le_of_ble_eq_true rfl)) dX12_readsSum_159 ⟨Nat.le_of_ble_eq_true rfl, Nat.le_of_ble_eq_true rfl⟩) hS (fun q _ h => hF_43 q h) hF_43 (fun u_45 t H1 locs ht hvm hr_44 hB hz1 hk1 hS => ?_)
                obtain ⟨i45, r45⟩ := u_45
                obtain ⟨hP, hK1, hD1⟩ := hB
                rw [ht] at hP
                have hD := hD1.weaken (fun k q _ h => hF_43 q.1 h)
                have hP : va_P D vwCl (mW cy a i45 r45 rl) H1 := hP
                have hD : va_D A (mW cy a i45 r45 rl) := hD
                obtain ⟨hRi, hRr, hE1, hE2, hr_44⟩ := hr_44
                have hRi : mRi i45 := hRi
                have hRr : mRr r45 := hRr
                have hEi : mEi [23, 25, 26, 27, 28, 30] _ i45 := Ei_tr hEi hE1 (by decide)
                have hEr : mEr [21, 22] _ r45 := Er_tr hEr hE2 (by decide)
                have hr_44 : CL f9 g9 s9 ((i 28).toInt.toNat) i6 r6 i45 r45 ∧ ¬ (4 ≤ topv i45 r45 ∧ topv i45 r45 ≤ 6) ∧ ((1 : Int32).toInt ≠ 0 → ¬ (2 ≤ topv i45 r45 ∧ topv i45 r45 ≤ 6)) := hr_44
                have e23b : i45 23 = i6 23 := hE1 23 (by decide)
                have e23t : (i45 23).toInt = (i6 23).toInt := congrArg Int32.toInt e23b
                have h28c : 0 ≤ (i45 28).toInt ∧ (i45 28).toInt ≤ 200 := by have h9 := hr_44.1.2.1; have h8 : 0 ≤ (i45 28).toInt ∧ (i45 28).toInt ≤ 220 := hRi 28; omega
                refine lv_iconst (v := 1) hx hb dX12_readsSum_162 (by decide) ?_
                subst hQ
                have hj : RS f9 g9 s9 i r 1 i45 r45 := RS_done hx6 hr_44.1 h_36 (hr_44.2.2 (by decide)) e23b (by omega) (by omega)
                exact W.zret hx hb hr rfl (fun t ht hW => ⟨⟨_, (i45, r45), rfl, ⟨hRi, hRr, hEi, hEr, hj⟩, by rw [ht]; exact hP, va_K.moved hW.alike hK, hD⟩, hS.F ht⟩) hS.2.2 dX12_readsSum_163
        · have c_9 : r_8.toInt ≠ (-1) := b_ne c_9
          have hlt9 := mHere_lt (i := i6) (r := r6) (by intro h9; have h8 := hse_r_8 (by omega); omega)
          have hs26 : 2 ≤ r_8.toInt ∧ r_8.toInt ≤ 6 := by omega
          refine lv_aload_n hx hb dX12_readsSum_27 rfl (lv_at hl 2 rfl) ?_
          refine lv_iload_n hx hb dX12_readsSum_28 rfl (lv_at hl 0 rfl) ?_
          refine lv_iconst (v := 4) hx hb dX12_readsSum_29 (by decide) ?_
          refine lv_icmp_ge (tgt := 37) hx hb dX12_readsSum_30 (by decide) (fun c_46 => ?_) (fun c_46 => ?_)
          · have c_46 : 4 ≤ r_8.toInt := b_le c_46
            refine lv_iconst (v := 0) hx hb dX12_readsSum_37 (by decide) ?_
            have hF_47 := rF hD hS hA
            refine va_callv (va_runV (As := [.int 0]) (rest := []) ⟨hx, hb, hml, hown, hT⟩ (c_X12_closesSums l D cy a i6 r6 rl 0 _ hRi hRr f9 g9 s9 ((i 28).toInt.toNat) hx6.1) (cwV 1 hT (gV t_880 t_881 t_882 t_883 t_6) rfl rfl rfl (by decide +kernel) ⟨Nat.le_of_ble_eq_true rfl, Nat.le_of_ble_eq_true rfl⟩) (rQ_v hP hK hD (va_recv hK hP (ci := 12) (q0 := 0) rfl rfl)) rfl rfl hl.1 rfl (lv_room (Nat.le_of_ble_eq_true rfl)) dX12_readsSum_38 ⟨Nat.le_of_ble_eq_true rfl, Nat.le_of_ble_eq_true rfl⟩) hS (fun q _ h => hF_47 q h) hF_47 (fun u_49 t H1 locs ht hvm hr_48 hB hz1 hk1 hS => ?_)
            obtain ⟨i49, r49⟩ := u_49
            obtain ⟨hP, hK1, hD1⟩ := hB
            rw [ht] at hP
            have hD := hD1.weaken (fun k q _ h => hF_47 q.1 h)
            have hP : va_P D vwCl (mW cy a i49 r49 rl) H1 := hP
            have hD : va_D A (mW cy a i49 r49 rl) := hD
            obtain ⟨hRi, hRr, hE1, hE2, hr_48⟩ := hr_48
            have hRi : mRi i49 := hRi
            have hRr : mRr r49 := hRr
            have hEi : mEi [23, 25, 26, 27, 28, 30] _ i49 := Ei_tr hEi hE1 (by decide)
            have hEr : mEr [21, 22] _ r49 := Er_tr hEr hE2 (by decide)
            have hr_48 : CL f9 g9 s9 ((i 28).toInt.toNat) i6 r6 i49 r49 ∧ ¬ (4 ≤ topv i49 r49 ∧ topv i49 r49 ≤ 6) ∧ ((0 : Int32).toInt ≠ 0 → ¬ (2 ≤ topv i49 r49 ∧ topv i49 r49 ≤ 6)) := hr_48
            have e23b : i49 23 = i6 23 := hE1 23 (by decide)
            have e23t : (i49 23).toInt = (i6 23).toInt := congrArg Int32.toInt e23b
            have h28c : 0 ≤ (i49 28).toInt ∧ (i49 28).toInt ≤ 200 := by have h9 := hr_48.1.2.1; have h8 : 0 ≤ (i49 28).toInt ∧ (i49 28).toInt ≤ 220 := hRi 28; omega
            refine lv_aload_n hx hb dX12_readsSum_41 rfl (lv_at hl 2 rfl) ?_
            refine va_get (D := D) (ci := 12) (v := .ref (a 22)) (C := RX12) (T := TX12) (N := 91) hx hb hT iX12 hown hK hP 0 rfl rfl 33 (by decide) (hT _ t_789) (fun _ h9 => h9) rfl dX12_readsSum_42 ?_
            refine lv_aload_n hx hb dX12_readsSum_45 rfl (lv_at hl 2 rfl) ?_
            refine va_get (D := D) (ci := 12) (v := .int (i49 28)) (C := RX12) (T := TX12) (N := 91) hx hb hT iX12 hown hK hP 0 rfl rfl 28 (by decide) (hT _ t_849) (fun _ h9 => h9) rfl dX12_readsSum_46 ?_
            have hg_50 : 0 ≤ (i49 28).toInt ∧ (i49 28).toInt ≤ 220 := hRi 28
            refine lv_ldcw (v := 1048576) hx hb hown (hT _ t_84) dX12_readsSum_49 ?_
            refine lv_iload_n hx hb dX12_readsSum_52 rfl (lv_at hl 0 rfl) ?_
            refine lv_imul hx hb dX12_readsSum_53 ?_
            refine lv_topi (fun v_51 ev_51 => ?_)
            have hv_51 : v_51.toInt = 1048576 * r_8.toInt := by rw [ev_51]; have := b_rg r_8; exact i_mul (a := 1048576) (b := r_8.toInt) rfl rfl (by omega) (by omega)
            refine va_iast hx hb hK hP hD hS 22 0 rfl rfl (vp_inI (by omega) (by omega)) dX12_readsSum_54 (fun H locs hP hD hS => ?_)
            rw [mS22] at hP hD
            have hRr : mRr (va_up r49 22 (upd (r49 22) ((i49 28).toNatClampNeg) v_51)) := Rr_upd hRr 22 ((i49 28).toNatClampNeg) v_51 (b_rg _)
            have hEr : mEr [21, 22] _ (va_up r49 22 (upd (r49 22) ((i49 28).toNatClampNeg) v_51)) := Er_up hEr 22 _ (by decide)
            refine lv_aload_n hx hb dX12_readsSum_55 rfl (lv_at hl 2 rfl) ?_
            refine lv_aload_n hx hb dX12_readsSum_56 rfl (lv_at hl 2 rfl) ?_
            refine va_get (D := D) (ci := 12) (v := .int (i49 28)) (C := RX12) (T := TX12) (N := 91) hx hb hT iX12 hown hK hP 0 rfl rfl 28 (by decide) (hT _ t_849) (fun _ h9 => h9) rfl dX12_readsSum_57 ?_
            refine lv_iconst (v := 1) hx hb dX12_readsSum_60 (by decide) ?_
            refine lv_iadd hx hb dX12_readsSum_61 ?_
            refine lv_topi (fun v_52 ev_52 => ?_)
            have hv_52 : v_52.toInt = (i49 28).toInt + 1 := by rw [ev_52]; have := b_rg (i49 28); exact i_add (a := (i49 28).toInt) (b := 1) rfl rfl (by omega) (by omega)
            refine va_put (D := D) (ci := 12) (v := .int v_52) (ty := .int) (C := RX12) (T := TX12) (N := 91) hx hb hT iX12 tyX12 tyX12_ok nmX12 hown hK hP hD hS 0 rfl rfl 28 (by decide) (hT _ t_849) (fun _ h9 => h9) rfl (by decide +kernel) rfl rfl (Nat.le_of_ble_eq_true rfl) dX12_readsSum_62 (fun H locs hP hD hS => ?_)
            rw [mP28] at hP hD
            have hRi := Ri_upd hRi 28 v_52 ⟨by show (0 : Int) ≤ v_52.toInt; omega, by show v_52.toInt ≤ (220 : Int); omega⟩
            have hEi := Ei_upd hEi 28 v_52 (by decide)
            refine lv_aload_n hx hb dX12_readsSum_65 rfl (lv_at hl 2 rfl) ?_
            refine lv_aload_n hx hb dX12_readsSum_66 rfl (lv_at hl 2 rfl) ?_
            refine va_get (D := D) (ci := 12) (v := .int (i49 23)) (C := RX12) (T := TX12) (N := 91) hx hb hT iX12 hown hK hP 0 rfl rfl 23 (by decide) (hT _ t_252) (fun _ h9 => h9) rfl dX12_readsSum_67 ?_
            have hg_53 : 0 ≤ (i49 23).toInt ∧ (i49 23).toInt ≤ 200 := hRi 23
            refine lv_iconst (v := 1) hx hb dX12_readsSum_70 (by decide) ?_
            refine lv_iadd hx hb dX12_readsSum_71 ?_
            refine lv_topi (fun v_54 ev_54 => ?_)
            have hv_54 : v_54.toInt = (i49 23).toInt + 1 := by rw [ev_54]; have := b_rg (i49 23); exact i_add (a := (i49 23).toInt) (b := 1) rfl rfl (by omega) (by omega)
            refine va_put (D := D) (ci := 12) (v := .int v_54) (ty := .int) (C := RX12) (T := TX12) (N := 91) hx hb hT iX12 tyX12 tyX12_ok nmX12 hown hK hP hD hS 0 rfl rfl 23 (by decide) (hT _ t_252) (fun _ h9 => h9) rfl (by decide +kernel) rfl rfl (Nat.le_of_ble_eq_true rfl) dX12_readsSum_72 (fun H locs hP hD hS => ?_)
            rw [mP23] at hP hD
            have hRi := Ri_upd hRi 23 v_54 ⟨by show (0 : Int) ≤ v_54.toInt; omega, by show v_54.toInt ≤ (200 : Int); omega⟩
            have hEi := Ei_upd hEi 23 v_54 (by decide)
            refine lv_aload_n hx hb dX12_readsSum_75 rfl (lv_at hl 2 rfl) ?_
            have hps : SS f9 (g9 + 1 + bcn (r49 22) ((i 28).toInt.toNat) (i49 28).toInt.toNat) s9 (upd (upd i49 28 v_52) 23 v_54) (va_up r49 22 (upd (r49 22) ((i49 28).toNatClampNeg) v_51)) := RS_push (x := v_51) (o := r_8.toInt) hr_48.1.1 (by omega) hs26 rfl (by show v_52.toInt = _; omega) (by show v_54.toInt = _; omega) rfl rfl (by omega) (by omega)
            have hF_55 := rF hD hS hA
            refine va_calli (va_runV (As := []) (rest := []) ⟨hx, hb, hml, hown, hT⟩ (c_X12_readsFactor l D cy a (upd (upd i49 28 v_52) 23 v_54) (va_up r49 22 (upd (r49 22) ((i49 28).toNatClampNeg) v_51)) rl _ hRi hRr f9 (g9 + 1 + bcn (r49 22) ((i 28).toInt.toNat) (i49 28).toInt.toNat) s9 hps) (cwV 0 hT (gV t_869 t_870 t_871 t_872 t_6) rfl rfl rfl (by decide +kernel) ⟨Nat.le_of_ble_eq_true rfl, Nat.le_of_ble_eq_true rfl⟩) (rQ_v hP hK hD (va_recv hK hP (ci := 12) (q0 := 0) rfl rfl)) rfl rfl hl.1 rfl (lv_room (Nat.le_of_ble_eq_true rfl)) dX12_readsSum_76 ⟨Nat.le_of_ble_eq_true rfl, Nat.le_of_ble_eq_true rfl⟩) hS (fun q _ h => hF_55 q h) hF_55 (fun r_56 u_57 t H1 locs ht hvm hr_56 hB hz1 hk1 hS => ?_)
            obtain ⟨i57, r57⟩ := u_57
            obtain ⟨hP, hK1, hD1⟩ := hB
            rw [ht] at hP
            have hD := hD1.weaken (fun k q _ h => hF_55 q.1 h)
            have hP : va_P D vwCl (mW cy a i57 r57 rl) H1 := hP
            have hD : va_D A (mW cy a i57 r57 rl) := hD
            obtain ⟨hRi, hRr, hE1, hE2, hr_56⟩ := hr_56
            have hRi : mRi i57 := hRi
            have hRr : mRr r57 := hRr
            have hEi : mEi [23, 25, 26, 27, 28, 30] _ i57 := Ei_tr hEi hE1 (by decide)
            have hEr : mEr [21, 22] _ r57 := Er_tr hEr hE2 (by decide)
            rcases hr_56 with ⟨rfl, hrf56, hlt56⟩ | rfl
            · have hrf56 : RFi f9 ((g9 + 1 + bcn (r49 22) ((i 28).toInt.toNat) (i49 28).toInt.toNat) + 1) s9 (upd (upd i49 28 v_52) 23 v_54) (va_up r49 22 (upd (r49 22) ((i49 28).toNatClampNeg) v_51)) i57 r57 := hrf56
              have hlt56 : ((upd (upd i49 28 v_52) 23 v_54) 23).toInt < (i57 23).toInt := hlt56
              refine lv_if_ne (tgt := 164) hx hb dX12_readsSum_79 (by decide) (fun c_58 => ?_) (fun c_58 => absurd c_58 (by decide))
              refine lv_goto (tgt := 14) hx hb dX12_readsSum_164 (by decide) ?_
              have hm23 : ((upd (upd i49 28 v_52) 23 v_54) 23).toInt = v_54.toInt := rfl
              exact ih6 i57 r57 _ _ _ (by first | omega | (simp only [Int.toNat]; omega))  hRi hEi hRr hEr (RS_fac (i3 := upd (upd i49 28 v_52) 23 v_54) (r3 := va_up r49 22 (upd (r49 22) ((i49 28).toNatClampNeg) v_51)) (x := v_51) (o := r_8.toInt) hx6 hr_48.1 (by omega) hs26 (by show v_52.toInt = _; omega) (by show v_54.toInt = _; omega) e23b rfl rfl (by omega) hrf56) hP hD hS (lv_sub hl [1, 2] rfl)
            · skip
              refine lv_if_ne (tgt := 164) hx hb dX12_readsSum_79 (by decide) (fun c_59 => absurd (by decide) c_59) (fun c_59 => ?_)
              refine lv_iconst (v := 0) hx hb dX12_readsSum_82 (by decide) ?_
              subst hQ
              exact W.zret hx hb hr rfl (fun t ht hW => ⟨⟨_, (i57, r57), rfl, ⟨hRi, hRr, hEi, hEr, (Or.inr rfl)⟩, by rw [ht]; exact hP, va_K.moved hW.alike hK, hD⟩, hS.F ht⟩) hS.2.2 dX12_readsSum_83
          · have c_46 : r_8.toInt < 4 := b_nle c_46
            refine lv_iconst (v := 1) hx hb dX12_readsSum_33 (by decide) ?_
            refine lv_goto (tgt := 38) hx hb dX12_readsSum_34 (by decide) ?_
            have hF_60 := rF hD hS hA
            refine va_callv (va_runV (As := [.int 1]) (rest := []) ⟨hx, hb, hml, hown, hT⟩ (c_X12_closesSums l D cy a i6 r6 rl 1 _ hRi hRr f9 g9 s9 ((i 28).toInt.toNat) hx6.1) (cwV 1 hT (gV t_880 t_881 t_882 t_883 t_6) rfl rfl rfl (by decide +kernel) ⟨Nat.le_of_ble_eq_true rfl, Nat.le_of_ble_eq_true rfl⟩) (rQ_v hP hK hD (va_recv hK hP (ci := 12) (q0 := 0) rfl rfl)) rfl rfl hl.1 rfl (lv_room (Nat.le_of_ble_eq_true rfl)) dX12_readsSum_38 ⟨Nat.le_of_ble_eq_true rfl, Nat.le_of_ble_eq_true rfl⟩) hS (fun q _ h => hF_60 q h) hF_60 (fun u_62 t H1 locs ht hvm hr_61 hB hz1 hk1 hS => ?_)
            obtain ⟨i62, r62⟩ := u_62
            obtain ⟨hP, hK1, hD1⟩ := hB
            rw [ht] at hP
            have hD := hD1.weaken (fun k q _ h => hF_60 q.1 h)
            have hP : va_P D vwCl (mW cy a i62 r62 rl) H1 := hP
            have hD : va_D A (mW cy a i62 r62 rl) := hD
            obtain ⟨hRi, hRr, hE1, hE2, hr_61⟩ := hr_61
            have hRi : mRi i62 := hRi
            have hRr : mRr r62 := hRr
            have hEi : mEi [23, 25, 26, 27, 28, 30] _ i62 := Ei_tr hEi hE1 (by decide)
            have hEr : mEr [21, 22] _ r62 := Er_tr hEr hE2 (by decide)
            have hr_61 : CL f9 g9 s9 ((i 28).toInt.toNat) i6 r6 i62 r62 ∧ ¬ (4 ≤ topv i62 r62 ∧ topv i62 r62 ≤ 6) ∧ ((1 : Int32).toInt ≠ 0 → ¬ (2 ≤ topv i62 r62 ∧ topv i62 r62 ≤ 6)) := hr_61
            have e23b : i62 23 = i6 23 := hE1 23 (by decide)
            have e23t : (i62 23).toInt = (i6 23).toInt := congrArg Int32.toInt e23b
            have h28c : 0 ≤ (i62 28).toInt ∧ (i62 28).toInt ≤ 200 := by have h9 := hr_61.1.2.1; have h8 : 0 ≤ (i62 28).toInt ∧ (i62 28).toInt ≤ 220 := hRi 28; omega
            refine lv_aload_n hx hb dX12_readsSum_41 rfl (lv_at hl 2 rfl) ?_
            refine va_get (D := D) (ci := 12) (v := .ref (a 22)) (C := RX12) (T := TX12) (N := 91) hx hb hT iX12 hown hK hP 0 rfl rfl 33 (by decide) (hT _ t_789) (fun _ h9 => h9) rfl dX12_readsSum_42 ?_
            refine lv_aload_n hx hb dX12_readsSum_45 rfl (lv_at hl 2 rfl) ?_
            refine va_get (D := D) (ci := 12) (v := .int (i62 28)) (C := RX12) (T := TX12) (N := 91) hx hb hT iX12 hown hK hP 0 rfl rfl 28 (by decide) (hT _ t_849) (fun _ h9 => h9) rfl dX12_readsSum_46 ?_
            have hg_63 : 0 ≤ (i62 28).toInt ∧ (i62 28).toInt ≤ 220 := hRi 28
            refine lv_ldcw (v := 1048576) hx hb hown (hT _ t_84) dX12_readsSum_49 ?_
            refine lv_iload_n hx hb dX12_readsSum_52 rfl (lv_at hl 0 rfl) ?_
            refine lv_imul hx hb dX12_readsSum_53 ?_
            refine lv_topi (fun v_64 ev_64 => ?_)
            have hv_64 : v_64.toInt = 1048576 * r_8.toInt := by rw [ev_64]; have := b_rg r_8; exact i_mul (a := 1048576) (b := r_8.toInt) rfl rfl (by omega) (by omega)
            refine va_iast hx hb hK hP hD hS 22 0 rfl rfl (vp_inI (by omega) (by omega)) dX12_readsSum_54 (fun H locs hP hD hS => ?_)
            rw [mS22] at hP hD
            have hRr : mRr (va_up r62 22 (upd (r62 22) ((i62 28).toNatClampNeg) v_64)) := Rr_upd hRr 22 ((i62 28).toNatClampNeg) v_64 (b_rg _)
            have hEr : mEr [21, 22] _ (va_up r62 22 (upd (r62 22) ((i62 28).toNatClampNeg) v_64)) := Er_up hEr 22 _ (by decide)
            refine lv_aload_n hx hb dX12_readsSum_55 rfl (lv_at hl 2 rfl) ?_
            refine lv_aload_n hx hb dX12_readsSum_56 rfl (lv_at hl 2 rfl) ?_
            refine va_get (D := D) (ci := 12) (v := .int (i62 28)) (C := RX12) (T := TX12) (N := 91) hx hb hT iX12 hown hK hP 0 rfl rfl 28 (by decide) (hT _ t_849) (fun _ h9 => h9) rfl dX12_readsSum_57 ?_
            refine lv_iconst (v := 1) hx hb dX12_readsSum_60 (by decide) ?_
            refine lv_iadd hx hb dX12_readsSum_61 ?_
            refine lv_topi (fun v_65 ev_65 => ?_)
            have hv_65 : v_65.toInt = (i62 28).toInt + 1 := by rw [ev_65]; have := b_rg (i62 28); exact i_add (a := (i62 28).toInt) (b := 1) rfl rfl (by omega) (by omega)
            refine va_put (D := D) (ci := 12) (v := .int v_65) (ty := .int) (C := RX12) (T := TX12) (N := 91) hx hb hT iX12 tyX12 tyX12_ok nmX12 hown hK hP hD hS 0 rfl rfl 28 (by decide) (hT _ t_849) (fun _ h9 => h9) rfl (by decide +kernel) rfl rfl (Nat.le_of_ble_eq_true rfl) dX12_readsSum_62 (fun H locs hP hD hS => ?_)
            rw [mP28] at hP hD
            have hRi := Ri_upd hRi 28 v_65 ⟨by show (0 : Int) ≤ v_65.toInt; omega, by show v_65.toInt ≤ (220 : Int); omega⟩
            have hEi := Ei_upd hEi 28 v_65 (by decide)
            refine lv_aload_n hx hb dX12_readsSum_65 rfl (lv_at hl 2 rfl) ?_
            refine lv_aload_n hx hb dX12_readsSum_66 rfl (lv_at hl 2 rfl) ?_
            refine va_get (D := D) (ci := 12) (v := .int (i62 23)) (C := RX12) (T := TX12) (N := 91) hx hb hT iX12 hown hK hP 0 rfl rfl 23 (by decide) (hT _ t_252) (fun _ h9 => h9) rfl dX12_readsSum_67 ?_
            have hg_66 : 0 ≤ (i62 23).toInt ∧ (i62 23).toInt ≤ 200 := hRi 23
            refine lv_iconst (v := 1) hx hb dX12_readsSum_70 (by decide) ?_
            refine lv_iadd hx hb dX12_readsSum_71 ?_
            refine lv_topi (fun v_67 ev_67 => ?_)
            have hv_67 : v_67.toInt = (i62 23).toInt + 1 := by rw [ev_67]; have := b_rg (i62 23); exact i_add (a := (i62 23).toInt) (b := 1) rfl rfl (by omega) (by omega)
            refine va_put (D := D) (ci := 12) (v := .int v_67) (ty := .int) (C := RX12) (T := TX12) (N := 91) hx hb hT iX12 tyX12 tyX12_ok nmX12 hown hK hP hD hS 0 rfl rfl 23 (by decide) (hT _ t_252) (fun _ h9 => h9) rfl (by decide +kernel) rfl rfl (Nat.le_of_ble_eq_true rfl) dX12_readsSum_72 (fun H locs hP hD hS => ?_)
            rw [mP23] at hP hD
            have hRi := Ri_upd hRi 23 v_67 ⟨by show (0 : Int) ≤ v_67.toInt; omega, by show v_67.toInt ≤ (200 : Int); omega⟩
            have hEi := Ei_upd hEi 23 v_67 (by decide)
            refine lv_aload_n hx hb dX12_readsSum_75 rfl (lv_at hl 2 rfl) ?_
            have hps : SS f9 (g9 + 1 + bcn (r62 22) ((i 28).toInt.toNat) (i62 28).toInt.toNat) s9 (upd (upd i62 28 v_65) 23 v_67) (va_up r62 22 (upd (r62 22) ((i62 28).toNatClampNeg) v_64)) := RS_push (x := v_64) (o := r_8.toInt) hr_61.1.1 (by omega) hs26 rfl (by show v_65.toInt = _; omega) (by show v_67.toInt = _; omega) rfl rfl (by omega) (by omega)
            have hF_68 := rF hD hS hA
            refine va_calli (va_runV (As := []) (rest := []) ⟨hx, hb, hml, hown, hT⟩ (c_X12_readsFactor l D cy a (upd (upd i62 28 v_65) 23 v_67) (va_up r62 22 (upd (r62 22) ((i62 28).toNatClampNeg) v_64)) rl _ hRi hRr f9 (g9 + 1 + bcn (r62 22) ((i 28).toInt.toNat) (i62 28).toInt.toNat) s9 hps) (cwV 0 hT (gV t_869 t_870 t_871 t_872 t_6) rfl rfl rfl (by decide +kernel) ⟨Nat.le_of_ble_eq_true rfl, Nat.le_of_ble_eq_true rfl⟩) (rQ_v hP hK hD (va_recv hK hP (ci := 12) (q0 := 0) rfl rfl)) rfl rfl hl.1 rfl (lv_room (Nat.le_of_ble_eq_true rfl)) dX12_readsSum_76 ⟨Nat.le_of_ble_eq_true rfl, Nat.le_of_ble_eq_true rfl⟩) hS (fun q _ h => hF_68 q h) hF_68 (fun r_69 u_70 t H1 locs ht hvm hr_69 hB hz1 hk1 hS => ?_)
            obtain ⟨i70, r70⟩ := u_70
            obtain ⟨hP, hK1, hD1⟩ := hB
            rw [ht] at hP
            have hD := hD1.weaken (fun k q _ h => hF_68 q.1 h)
            have hP : va_P D vwCl (mW cy a i70 r70 rl) H1 := hP
            have hD : va_D A (mW cy a i70 r70 rl) := hD
            obtain ⟨hRi, hRr, hE1, hE2, hr_69⟩ := hr_69
            have hRi : mRi i70 := hRi
            have hRr : mRr r70 := hRr
            have hEi : mEi [23, 25, 26, 27, 28, 30] _ i70 := Ei_tr hEi hE1 (by decide)
            have hEr : mEr [21, 22] _ r70 := Er_tr hEr hE2 (by decide)
            rcases hr_69 with ⟨rfl, hrf69, hlt69⟩ | rfl
            · have hrf69 : RFi f9 ((g9 + 1 + bcn (r62 22) ((i 28).toInt.toNat) (i62 28).toInt.toNat) + 1) s9 (upd (upd i62 28 v_65) 23 v_67) (va_up r62 22 (upd (r62 22) ((i62 28).toNatClampNeg) v_64)) i70 r70 := hrf69
              have hlt69 : ((upd (upd i62 28 v_65) 23 v_67) 23).toInt < (i70 23).toInt := hlt69
              refine lv_if_ne (tgt := 164) hx hb dX12_readsSum_79 (by decide) (fun c_71 => ?_) (fun c_71 => absurd c_71 (by decide))
              refine lv_goto (tgt := 14) hx hb dX12_readsSum_164 (by decide) ?_
              have hm23 : ((upd (upd i62 28 v_65) 23 v_67) 23).toInt = v_67.toInt := rfl
              exact ih6 i70 r70 _ _ _ (by first | omega | (simp only [Int.toNat]; omega))  hRi hEi hRr hEr (RS_fac (i3 := upd (upd i62 28 v_65) 23 v_67) (r3 := va_up r62 22 (upd (r62 22) ((i62 28).toNatClampNeg) v_64)) (x := v_64) (o := r_8.toInt) hx6 hr_61.1 (by omega) hs26 (by show v_65.toInt = _; omega) (by show v_67.toInt = _; omega) e23b rfl rfl (by omega) hrf69) hP hD hS (lv_sub hl [1, 2] rfl)
            · skip
              refine lv_if_ne (tgt := 164) hx hb dX12_readsSum_79 (by decide) (fun c_72 => absurd (by decide) c_72) (fun c_72 => ?_)
              refine lv_iconst (v := 0) hx hb dX12_readsSum_82 (by decide) ?_
              subst hQ
              exact W.zret hx hb hr rfl (fun t ht hW => ⟨⟨_, (i70, r70), rfl, ⟨hRi, hRr, hEi, hEr, (Or.inr rfl)⟩, by rw [ht]; exact hP, va_K.moved hW.alike hK, hD⟩, hS.F ht⟩) hS.2.2 dX12_readsSum_83
    exact loop_6 _ i4 r4 _ _ _ (Nat.lt_succ_self _)  hRi hEi hRr hEr (RS_start hrf3 hlt3 hO) hP hD hS hl
  · skip
    refine lv_if_ne (tgt := 14) hx hb dX12_readsSum_9 (by decide) (fun c_73 => absurd (by decide) c_73) (fun c_73 => ?_)
    refine lv_iconst (v := 0) hx hb dX12_readsSum_12 (by decide) ?_
    subst hQ
    exact W.zret hx hb hr rfl (fun t ht hW => ⟨⟨_, (i4, r4), rfl, ⟨hRi, hRr, hEi, hEr, (Or.inr rfl)⟩, by rw [ht]; exact hP, va_K.moved hW.alike hK, hD⟩, hS.F ht⟩) hS.2.2 dX12_readsSum_13
