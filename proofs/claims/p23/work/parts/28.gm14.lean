set_option maxRecDepth 100000 in
theorem t_824 : Cond.constant RX12 469 (65536) ∈ gT := tm (tb7 (List.mem_of_getElem? (i := 72) (by rfl))) (by decide +kernel)
def dl_480 : List (Nat × (Instr × Nat)) := [(0, (.aload_n 0, 1)), (1, (.iload_n 1, 1)), (2, (.invokevirtual 249, 3)), (5, (.ifCond .ne 5, 3)), (8, (.iconst (-1), 1)), (9, (.ireturn, 1)), (10, (.iconst 1, 1)), (11, (.istore_n 2, 1)), (12, (.iconst 0, 1)), (13, (.istore_n 3, 1)), (14, (.iload_n 3, 1)), (15, (.bipush 6, 2)), (17, (.if_icmp .ge 33, 3)), (20, (.iload_n 2, 1)), (21, (.ifCond .eq 21, 3)), (24, (.aload_n 0, 1)), (25, (.getfield 178, 3)), (28, (.bipush 6, 2)), (30, (.iload_n 3, 1)), (31, (.imul, 1))]
theorem dh_480 : dchk cX12_draw dl_480 = true := by decide +kernel
theorem dX12_draw_0 : decode cX12_draw 0 = .ok (.aload_n 0, 1) := dget dh_480 (k := 0) rfl
theorem dX12_draw_1 : decode cX12_draw 1 = .ok (.iload_n 1, 1) := dget dh_480 (k := 1) rfl
theorem dX12_draw_2 : decode cX12_draw 2 = .ok (.invokevirtual 249, 3) := dget dh_480 (k := 2) rfl
theorem dX12_draw_5 : decode cX12_draw 5 = .ok (.ifCond .ne 5, 3) := dget dh_480 (k := 3) rfl
theorem dX12_draw_8 : decode cX12_draw 8 = .ok (.iconst (-1), 1) := dget dh_480 (k := 4) rfl
theorem dX12_draw_9 : decode cX12_draw 9 = .ok (.ireturn, 1) := dget dh_480 (k := 5) rfl
theorem dX12_draw_10 : decode cX12_draw 10 = .ok (.iconst 1, 1) := dget dh_480 (k := 6) rfl
theorem dX12_draw_11 : decode cX12_draw 11 = .ok (.istore_n 2, 1) := dget dh_480 (k := 7) rfl
theorem dX12_draw_12 : decode cX12_draw 12 = .ok (.iconst 0, 1) := dget dh_480 (k := 8) rfl
theorem dX12_draw_13 : decode cX12_draw 13 = .ok (.istore_n 3, 1) := dget dh_480 (k := 9) rfl
theorem dX12_draw_14 : decode cX12_draw 14 = .ok (.iload_n 3, 1) := dget dh_480 (k := 10) rfl
theorem dX12_draw_15 : decode cX12_draw 15 = .ok (.bipush 6, 2) := dget dh_480 (k := 11) rfl
theorem dX12_draw_17 : decode cX12_draw 17 = .ok (.if_icmp .ge 33, 3) := dget dh_480 (k := 12) rfl
theorem dX12_draw_20 : decode cX12_draw 20 = .ok (.iload_n 2, 1) := dget dh_480 (k := 13) rfl
theorem dX12_draw_21 : decode cX12_draw 21 = .ok (.ifCond .eq 21, 3) := dget dh_480 (k := 14) rfl
theorem dX12_draw_24 : decode cX12_draw 24 = .ok (.aload_n 0, 1) := dget dh_480 (k := 15) rfl
theorem dX12_draw_25 : decode cX12_draw 25 = .ok (.getfield 178, 3) := dget dh_480 (k := 16) rfl
theorem dX12_draw_28 : decode cX12_draw 28 = .ok (.bipush 6, 2) := dget dh_480 (k := 17) rfl
theorem dX12_draw_30 : decode cX12_draw 30 = .ok (.iload_n 3, 1) := dget dh_480 (k := 18) rfl
theorem dX12_draw_31 : decode cX12_draw 31 = .ok (.imul, 1) := dget dh_480 (k := 19) rfl
def dl_481 : List (Nat × (Instr × Nat)) := [(32, (.iload_n 1, 1)), (33, (.iadd, 1)), (34, (.baload, 1)), (35, (.ifCond .eq 7, 3)), (38, (.iconst 1, 1)), (39, (.goto 4, 3)), (42, (.iconst 0, 1)), (43, (.istore_n 2, 1)), (44, (.iinc 3 1, 3)), (47, (.goto (-33), 3)), (50, (.iload_n 2, 1)), (51, (.ifCond .eq 6, 3)), (54, (.bipush (-2), 2)), (56, (.ireturn, 1)), (57, (.aload_n 0, 1)), (58, (.sipush 25173, 3)), (61, (.aload_n 0, 1)), (62, (.getfield 229, 3)), (65, (.imul, 1)), (66, (.sipush 13849, 3))]
theorem dh_481 : dchk cX12_draw dl_481 = true := by decide +kernel
theorem dX12_draw_32 : decode cX12_draw 32 = .ok (.iload_n 1, 1) := dget dh_481 (k := 0) rfl
theorem dX12_draw_33 : decode cX12_draw 33 = .ok (.iadd, 1) := dget dh_481 (k := 1) rfl
theorem dX12_draw_34 : decode cX12_draw 34 = .ok (.baload, 1) := dget dh_481 (k := 2) rfl
theorem dX12_draw_35 : decode cX12_draw 35 = .ok (.ifCond .eq 7, 3) := dget dh_481 (k := 3) rfl
theorem dX12_draw_38 : decode cX12_draw 38 = .ok (.iconst 1, 1) := dget dh_481 (k := 4) rfl
theorem dX12_draw_39 : decode cX12_draw 39 = .ok (.goto 4, 3) := dget dh_481 (k := 5) rfl
theorem dX12_draw_42 : decode cX12_draw 42 = .ok (.iconst 0, 1) := dget dh_481 (k := 6) rfl
theorem dX12_draw_43 : decode cX12_draw 43 = .ok (.istore_n 2, 1) := dget dh_481 (k := 7) rfl
theorem dX12_draw_44 : decode cX12_draw 44 = .ok (.iinc 3 1, 3) := dget dh_481 (k := 8) rfl
theorem dX12_draw_47 : decode cX12_draw 47 = .ok (.goto (-33), 3) := dget dh_481 (k := 9) rfl
theorem dX12_draw_50 : decode cX12_draw 50 = .ok (.iload_n 2, 1) := dget dh_481 (k := 10) rfl
theorem dX12_draw_51 : decode cX12_draw 51 = .ok (.ifCond .eq 6, 3) := dget dh_481 (k := 11) rfl
theorem dX12_draw_54 : decode cX12_draw 54 = .ok (.bipush (-2), 2) := dget dh_481 (k := 12) rfl
theorem dX12_draw_56 : decode cX12_draw 56 = .ok (.ireturn, 1) := dget dh_481 (k := 13) rfl
theorem dX12_draw_57 : decode cX12_draw 57 = .ok (.aload_n 0, 1) := dget dh_481 (k := 14) rfl
theorem dX12_draw_58 : decode cX12_draw 58 = .ok (.sipush 25173, 3) := dget dh_481 (k := 15) rfl
theorem dX12_draw_61 : decode cX12_draw 61 = .ok (.aload_n 0, 1) := dget dh_481 (k := 16) rfl
theorem dX12_draw_62 : decode cX12_draw 62 = .ok (.getfield 229, 3) := dget dh_481 (k := 17) rfl
theorem dX12_draw_65 : decode cX12_draw 65 = .ok (.imul, 1) := dget dh_481 (k := 18) rfl
theorem dX12_draw_66 : decode cX12_draw 66 = .ok (.sipush 13849, 3) := dget dh_481 (k := 19) rfl
def dl_482 : List (Nat × (Instr × Nat)) := [(69, (.iadd, 1)), (70, (.ldc_w 469, 3)), (73, (.irem, 1)), (74, (.putfield 229, 3)), (77, (.aload_n 0, 1)), (78, (.getfield 178, 3)), (81, (.bipush 6, 2)), (83, (.aload_n 0, 1)), (84, (.getfield 229, 3)), (87, (.bipush 6, 2)), (89, (.irem, 1)), (90, (.imul, 1)), (91, (.iload_n 1, 1)), (92, (.iadd, 1)), (93, (.baload, 1)), (94, (.ifCond .eq 26, 3)), (97, (.aload_n 0, 1)), (98, (.sipush 25173, 3)), (101, (.aload_n 0, 1)), (102, (.getfield 229, 3))]
theorem dh_482 : dchk cX12_draw dl_482 = true := by decide +kernel
theorem dX12_draw_69 : decode cX12_draw 69 = .ok (.iadd, 1) := dget dh_482 (k := 0) rfl
theorem dX12_draw_70 : decode cX12_draw 70 = .ok (.ldc_w 469, 3) := dget dh_482 (k := 1) rfl
theorem dX12_draw_73 : decode cX12_draw 73 = .ok (.irem, 1) := dget dh_482 (k := 2) rfl
theorem dX12_draw_74 : decode cX12_draw 74 = .ok (.putfield 229, 3) := dget dh_482 (k := 3) rfl
theorem dX12_draw_77 : decode cX12_draw 77 = .ok (.aload_n 0, 1) := dget dh_482 (k := 4) rfl
theorem dX12_draw_78 : decode cX12_draw 78 = .ok (.getfield 178, 3) := dget dh_482 (k := 5) rfl
theorem dX12_draw_81 : decode cX12_draw 81 = .ok (.bipush 6, 2) := dget dh_482 (k := 6) rfl
theorem dX12_draw_83 : decode cX12_draw 83 = .ok (.aload_n 0, 1) := dget dh_482 (k := 7) rfl
theorem dX12_draw_84 : decode cX12_draw 84 = .ok (.getfield 229, 3) := dget dh_482 (k := 8) rfl
theorem dX12_draw_87 : decode cX12_draw 87 = .ok (.bipush 6, 2) := dget dh_482 (k := 9) rfl
theorem dX12_draw_89 : decode cX12_draw 89 = .ok (.irem, 1) := dget dh_482 (k := 10) rfl
theorem dX12_draw_90 : decode cX12_draw 90 = .ok (.imul, 1) := dget dh_482 (k := 11) rfl
theorem dX12_draw_91 : decode cX12_draw 91 = .ok (.iload_n 1, 1) := dget dh_482 (k := 12) rfl
theorem dX12_draw_92 : decode cX12_draw 92 = .ok (.iadd, 1) := dget dh_482 (k := 13) rfl
theorem dX12_draw_93 : decode cX12_draw 93 = .ok (.baload, 1) := dget dh_482 (k := 14) rfl
theorem dX12_draw_94 : decode cX12_draw 94 = .ok (.ifCond .eq 26, 3) := dget dh_482 (k := 15) rfl
theorem dX12_draw_97 : decode cX12_draw 97 = .ok (.aload_n 0, 1) := dget dh_482 (k := 16) rfl
theorem dX12_draw_98 : decode cX12_draw 98 = .ok (.sipush 25173, 3) := dget dh_482 (k := 17) rfl
theorem dX12_draw_101 : decode cX12_draw 101 = .ok (.aload_n 0, 1) := dget dh_482 (k := 18) rfl
theorem dX12_draw_102 : decode cX12_draw 102 = .ok (.getfield 229, 3) := dget dh_482 (k := 19) rfl
def dl_483 : List (Nat × (Instr × Nat)) := [(105, (.imul, 1)), (106, (.sipush 13849, 3)), (109, (.iadd, 1)), (110, (.ldc_w 469, 3)), (113, (.irem, 1)), (114, (.putfield 229, 3)), (117, (.goto (-40), 3)), (120, (.aload_n 0, 1)), (121, (.getfield 229, 3)), (124, (.bipush 6, 2)), (126, (.irem, 1)), (127, (.ireturn, 1))]
theorem dh_483 : dchk cX12_draw dl_483 = true := by decide +kernel
theorem dX12_draw_105 : decode cX12_draw 105 = .ok (.imul, 1) := dget dh_483 (k := 0) rfl
theorem dX12_draw_106 : decode cX12_draw 106 = .ok (.sipush 13849, 3) := dget dh_483 (k := 1) rfl
theorem dX12_draw_109 : decode cX12_draw 109 = .ok (.iadd, 1) := dget dh_483 (k := 2) rfl
theorem dX12_draw_110 : decode cX12_draw 110 = .ok (.ldc_w 469, 3) := dget dh_483 (k := 3) rfl
theorem dX12_draw_113 : decode cX12_draw 113 = .ok (.irem, 1) := dget dh_483 (k := 4) rfl
theorem dX12_draw_114 : decode cX12_draw 114 = .ok (.putfield 229, 3) := dget dh_483 (k := 5) rfl
theorem dX12_draw_117 : decode cX12_draw 117 = .ok (.goto (-40), 3) := dget dh_483 (k := 6) rfl
theorem dX12_draw_120 : decode cX12_draw 120 = .ok (.aload_n 0, 1) := dget dh_483 (k := 7) rfl
theorem dX12_draw_121 : decode cX12_draw 121 = .ok (.getfield 229, 3) := dget dh_483 (k := 8) rfl
theorem dX12_draw_124 : decode cX12_draw 124 = .ok (.bipush 6, 2) := dget dh_483 (k := 9) rfl
theorem dX12_draw_126 : decode cX12_draw 126 = .ok (.irem, 1) := dget dh_483 (k := 10) rfl
theorem dX12_draw_127 : decode cX12_draw 127 = .ok (.ireturn, 1) := dget dh_483 (k := 11) rfl
def fu (j : Nat) : Nat → Nat → Nat
  | 0, _ => 0
  | n + 1, x => if Nat.beq (x % 6) j then 0 else fu j n (lcg x) + 1
theorem fu_more {j : Nat} : ∀ n x, hits j n x = true → fu j (n + 1) x = fu j n x := by
  intro n
  induction n with
  | zero => intro x h; cases h
  | succ n ih =>
    intro x h
    show (if Nat.beq (x % 6) j then 0 else fu j (n + 1) (lcg x) + 1) = (if Nat.beq (x % 6) j then 0 else fu j n (lcg x) + 1)
    by_cases e : Nat.beq (x % 6) j = true
    · rw [if_pos e, if_pos e]
    · rw [if_neg e, if_neg e, ih (lcg x) (by
        have h2 : (Nat.beq (x % 6) j || hits j n (lcg x)) = true := h
        rcases Bool.or_eq_true_iff.mp h2 with h3 | h3
        · exact absurd h3 e
        · exact h3)]
theorem fu_step {j x y : Nat} (hj : j < 6) (hx : x < 65536) (hne : ¬ x % 6 = j) (hy : y = lcg x) : fu j (hB + 1) y + 1 = fu j (hB + 1) x := by
  have h := hits4 hj hx
  have e : ¬ Nat.beq (x % 6) j = true := fun h2 => hne (Nat.eq_of_beq_eq_true h2)
  have h2 : hits j hB (lcg x) = true := by
    have h3 : (Nat.beq (x % 6) j || hits j hB (lcg x)) = true := h
    rcases Bool.or_eq_true_iff.mp h3 with h4 | h4
    · exact absurd h4 e
    · exact h4
  have h5 : fu j (hB + 1) x = fu j hB (lcg x) + 1 := by
    show (if Nat.beq (x % 6) j then 0 else fu j hB (lcg x) + 1) = _
    rw [if_neg e]
  rw [h5, hy, fu_more hB (lcg x) h2]
def dKX (r : Nat → Nat → Int32) (p x : Int32) : Prop := x.toInt = 0 → ∃ j : Nat, j < 6 ∧ (r 56 (6 * j + p.toNatClampNeg)).toInt = 0
