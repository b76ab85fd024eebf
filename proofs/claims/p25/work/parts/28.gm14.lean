set_option maxRecDepth 100000 in
theorem t_824 : Cond.constant RX12 469 (65536) ∈ gT := tm (tb7 (List.mem_of_getElem? (i := 72) (by rfl))) (by decide +kernel)
def dl_480 : List (Nat × (Instr × Nat)) := [(0, (.aload_n 0, 1)), (1, (.iload_n 1, 1)), (2, (.invokevirtual 249, 3)), (5, (.ifCond .ne 5, 3)), (8, (.iconst (-1), 1)), (9, (.ireturn, 1)), (10, (.iconst 1, 1)), (11, (.istore_n 2, 1)), (12, (.iconst 0, 1)), (13, (.istore_n 3, 1)), (14, (.iload_n 3, 1)), (15, (.bipush 6, 2)), (17, (.if_icmp .ge 33, 3)), (20, (.iload_n 2, 1)), (21, (.ifCond .eq 21, 3)), (24, (.aload_n 0, 1)), (25, (.getfield 178, 3)), (28, (.bipush 6, 2)), (30, (.iload_n 3, 1)), (31, (.imul, 1))]
theorem dh_480 : dchk cX12_draw dl_480 = true := by decide +kernel
theorem dX12_draw_0 : decode cX12_draw 0 = .ok (.aload_n 0, 1) := dget dh_480 (k := 0) rfl
theorem dX12_draw_1 : decode cX12_draw 1 = .ok (.iload_n 1, 1) := dget dh_480 (k := 1) rfl
theorem dX12_draw_2 : decode cX12_draw 2 = .ok (.invokevirtual 249, 3) := dget dh_480 (k := 2) rfl
theorem dX12_draw_5 : decode cX12_draw 5 = .ok (.ifCond .ne 5, 3) := dget dh_480 (k := 3) rfl
theorem dX12_draw_8 : decode cX12_draw 8 = .ok (.iconst (-1), 1) := dget dh_480 (k := 4) rfl
theorem dX12_draw_9 : decode cX12_draw 9 = .ok (.ireturn, 1) := dget dh_480 (k := 5) rfl
theorem dX12_draw_10 : decode cX12_draw 10 = .ok (.iconst 1, 1) := dget dh_480 (k := 6) rfl
theorem dX12_draw_11 : decode cX12_draw 11 = .ok (.istore_n 2, 1) := dget dh_480 (k := 7) rfl
theorem dX12_draw_12 : decode cX12_draw 12 = .ok (.iconst 0, 1) := dget dh_480 (k := 8) rfl
theorem dX12_draw_13 : decode cX12_draw 13 = .ok (.istore_n 3, 1) := dget dh_480 (k := 9) rfl
theorem dX12_draw_14 : decode cX12_draw 14 = .ok (.iload_n 3, 1) := dget dh_480 (k := 10) rfl
theorem dX12_draw_15 : decode cX12_draw 15 = .ok (.bipush 6, 2) := dget dh_480 (k := 11) rfl
theorem dX12_draw_17 : decode cX12_draw 17 = .ok (.if_icmp .ge 33, 3) := dget dh_480 (k := 12) rfl
theorem dX12_draw_20 : decode cX12_draw 20 = .ok (.iload_n 2, 1) := dget dh_480 (k := 13) rfl
theorem dX12_draw_21 : decode cX12_draw 21 = .ok (.ifCond .eq 21, 3) := dget dh_480 (k := 14) rfl
theorem dX12_draw_24 : decode cX12_draw 24 = .ok (.aload_n 0, 1) := dget dh_480 (k := 15) rfl
theorem dX12_draw_25 : decode cX12_draw 25 = .ok (.getfield 178, 3) := dget dh_480 (k := 16) rfl
theorem dX12_draw_28 : decode cX12_draw 28 = .ok (.bipush 6, 2) := dget dh_480 (k := 17) rfl
theorem dX12_draw_30 : decode cX12_draw 30 = .ok (.iload_n 3, 1) := dget dh_480 (k := 18) rfl
theorem dX12_draw_31 : decode cX12_draw 31 = .ok (.imul, 1) := dget dh_480 (k := 19) rfl
def dl_481 : List (Nat × (Instr × Nat)) := [(32, (.iload_n 1, 1)), (33, (.iadd, 1)), (34, (.baload, 1)), (35, (.ifCond .eq 7, 3)), (38, (.iconst 1, 1)), (39, (.goto 4, 3)), (42, (.iconst 0, 1)), (43, (.istore_n 2, 1)), (44, (.iinc 3 1, 3)), (47, (.goto (-33), 3)), (50, (.iload_n 2, 1)), (51, (.ifCond .eq 6, 3)), (54, (.bipush (-2), 2)), (56, (.ireturn, 1)), (57, (.aload_n 0, 1)), (58, (.sipush 25173, 3)), (61, (.aload_n 0, 1)), (62, (.getfield 229, 3)), (65, (.imul, 1)), (66, (.sipush 13849, 3))]
theorem dh_481 : dchk cX12_draw dl_481 = true := by decide +kernel
theorem dX12_draw_32 : decode cX12_draw 32 = .ok (.iload_n 1, 1) := dget dh_481 (k := 0) rfl
theorem dX12_draw_33 : decode cX12_draw 33 = .ok (.iadd, 1) := dget dh_481 (k := 1) rfl
theorem dX12_draw_34 : decode cX12_draw 34 = .ok (.baload, 1) := dget dh_481 (k := 2) rfl
theorem dX12_draw_35 : decode cX12_draw 35 = .ok (.ifCond .eq 7, 3) := dget dh_481 (k := 3) rfl
theorem dX12_draw_38 : decode cX12_draw 38 = .ok (.iconst 1, 1) := dget dh_481 (k := 4) rfl
theorem dX12_draw_39 : decode cX12_draw 39 = .ok (.goto 4, 3) := dget dh_481 (k := 5) rfl
theorem dX12_draw_42 : decode cX12_draw 42 = .ok (.iconst 0, 1) := dget dh_481 (k := 6) rfl
theorem dX12_draw_43 : decode cX12_draw 43 = .ok (.istore_n 2, 1) := dget dh_481 (k := 7) rfl
theorem dX12_draw_44 : decode cX12_draw 44 = .ok (.iinc 3 1, 3) := dget dh_481 (k := 8) rfl
theorem dX12_draw_47 : decode cX12_draw 47 = .ok (.goto (-33), 3) := dget dh_481 (k := 9) rfl
theorem dX12_draw_50 : decode cX12_draw 50 = .ok (.iload_n 2, 1) := dget dh_481 (k := 10) rfl
theorem dX12_draw_51 : decode cX12_draw 51 = .ok (.ifCond .eq 6, 3) := dget dh_481 (k := 11) rfl
theorem dX12_draw_54 : decode cX12_draw 54 = .ok (.bipush (-2), 2) := dget dh_481 (k := 12) rfl
theorem dX12_draw_56 : decode cX12_draw 56 = .ok (.ireturn, 1) := dget dh_481 (k := 13) rfl
theorem dX12_draw_57 : decode cX12_draw 57 = .ok (.aload_n 0, 1) := dget dh_481 (k := 14) rfl
theorem dX12_draw_58 : decode cX12_draw 58 = .ok (.sipush 25173, 3) := dget dh_481 (k := 15) rfl
theorem dX12_draw_61 : decode cX12_draw 61 = .ok (.aload_n 0, 1) := dget dh_481 (k := 16) rfl
theorem dX12_draw_62 : decode cX12_draw 62 = .ok (.getfield 229, 3) := dget dh_481 (k := 17) rfl
theorem dX12_draw_65 : decode cX12_draw 65 = .ok (.imul, 1) := dget dh_481 (k := 18) rfl
theorem dX12_draw_66 : decode cX12_draw 66 = .ok (.sipush 13849, 3) := dget dh_481 (k := 19) rfl
def dl_482 : List (Nat × (Instr × Nat)) := [(69, (.iadd, 1)), (70, (.ldc_w 469, 3)), (73, (.irem, 1)), (74, (.putfield 229, 3)), (77, (.aload_n 0, 1)), (78, (.getfield 178, 3)), (81, (.bipush 6, 2)), (83, (.aload_n 0, 1)), (84, (.getfield 229, 3)), (87, (.bipush 6, 2)), (89, (.irem, 1)), (90, (.imul, 1)), (91, (.iload_n 1, 1)), (92, (.iadd, 1)), (93, (.baload, 1)), (94, (.ifCond .eq 26, 3)), (97, (.aload_n 0, 1)), (98, (.sipush 25173, 3)), (101, (.aload_n 0, 1)), (102, (.getfield 229, 3))]
theorem dh_482 : dchk cX12_draw dl_482 = true := by decide +kernel
theorem dX12_draw_69 : decode cX12_draw 69 = .ok (.iadd, 1) := dget dh_482 (k := 0) rfl
theorem dX12_draw_70 : decode cX12_draw 70 = .ok (.ldc_w 469, 3) := dget dh_482 (k := 1) rfl
theorem dX12_draw_73 : decode cX12_draw 73 = .ok (.irem, 1) := dget dh_482 (k := 2) rfl
theorem dX12_draw_74 : decode cX12_draw 74 = .ok (.putfield 229, 3) := dget dh_482 (k := 3) rfl
theorem dX12_draw_77 : decode cX12_draw 77 = .ok (.aload_n 0, 1) := dget dh_482 (k := 4) rfl
theorem dX12_draw_78 : decode cX12_draw 78 = .ok (.getfield 178, 3) := dget dh_482 (k := 5) rfl
theorem dX12_draw_81 : decode cX12_draw 81 = .ok (.bipush 6, 2) := dget dh_482 (k := 6) rfl
theorem dX12_draw_83 : decode cX12_draw 83 = .ok (.aload_n 0, 1) := dget dh_482 (k := 7) rfl
theorem dX12_draw_84 : decode cX12_draw 84 = .ok (.getfield 229, 3) := dget dh_482 (k := 8) rfl
theorem dX12_draw_87 : decode cX12_draw 87 = .ok (.bipush 6, 2) := dget dh_482 (k := 9) rfl
theorem dX12_draw_89 : decode cX12_draw 89 = .ok (.irem, 1) := dget dh_482 (k := 10) rfl
theorem dX12_draw_90 : decode cX12_draw 90 = .ok (.imul, 1) := dget dh_482 (k := 11) rfl
theorem dX12_draw_91 : decode cX12_draw 91 = .ok (.iload_n 1, 1) := dget dh_482 (k := 12) rfl
theorem dX12_draw_92 : decode cX12_draw 92 = .ok (.iadd, 1) := dget dh_482 (k := 13) rfl
theorem dX12_draw_93 : decode cX12_draw 93 = .ok (.baload, 1) := dget dh_482 (k := 14) rfl
theorem dX12_draw_94 : decode cX12_draw 94 = .ok (.ifCond .eq 26, 3) := dget dh_482 (k := 15) rfl
theorem dX12_draw_97 : decode cX12_draw 97 = .ok (.aload_n 0, 1) := dget dh_482 (k := 16) rfl
theorem dX12_draw_98 : decode cX12_draw 98 = .ok (.sipush 25173, 3) := dget dh_482 (k := 17) rfl
theorem dX12_draw_101 : decode cX12_draw 101 = .ok (.aload_n 0, 1) := dget dh_482 (k := 18) rfl
theorem dX12_draw_102 : decode cX12_draw 102 = .ok (.getfield 229, 3) := dget dh_482 (k := 19) rfl
def dl_483 : List (Nat × (Instr × Nat)) := [(105, (.imul, 1)), (106, (.sipush 13849, 3)), (109, (.iadd, 1)), (110, (.ldc_w 469, 3)), (113, (.irem, 1)), (114, (.putfield 229, 3)), (117, (.goto (-40), 3)), (120, (.aload_n 0, 1)), (121, (.getfield 229, 3)), (124, (.bipush 6, 2)), (126, (.irem, 1)), (127, (.ireturn, 1))]
theorem dh_483 : dchk cX12_draw dl_483 = true := by decide +kernel
theorem dX12_draw_105 : decode cX12_draw 105 = .ok (.imul, 1) := dget dh_483 (k := 0) rfl
theorem dX12_draw_106 : decode cX12_draw 106 = .ok (.sipush 13849, 3) := dget dh_483 (k := 1) rfl
theorem dX12_draw_109 : decode cX12_draw 109 = .ok (.iadd, 1) := dget dh_483 (k := 2) rfl
theorem dX12_draw_110 : decode cX12_draw 110 = .ok (.ldc_w 469, 3) := dget dh_483 (k := 3) rfl
theorem dX12_draw_113 : decode cX12_draw 113 = .ok (.irem, 1) := dget dh_483 (k := 4) rfl
theorem dX12_draw_114 : decode cX12_draw 114 = .ok (.putfield 229, 3) := dget dh_483 (k := 5) rfl
theorem dX12_draw_117 : decode cX12_draw 117 = .ok (.goto (-40), 3) := dget dh_483 (k := 6) rfl
theorem dX12_draw_120 : decode cX12_draw 120 = .ok (.aload_n 0, 1) := dget dh_483 (k := 7) rfl
theorem dX12_draw_121 : decode cX12_draw 121 = .ok (.getfield 229, 3) := dget dh_483 (k := 8) rfl
theorem dX12_draw_124 : decode cX12_draw 124 = .ok (.bipush 6, 2) := dget dh_483 (k := 9) rfl
theorem dX12_draw_126 : decode cX12_draw 126 = .ok (.irem, 1) := dget dh_483 (k := 10) rfl
theorem dX12_draw_127 : decode cX12_draw 127 = .ok (.ireturn, 1) := dget dh_483 (k := 11) rfl
def fu (j : Nat) : Nat → Nat → Nat
  | 0, _ => 0
  | n + 1, x => if Nat.beq (x % 6) j then 0 else fu j n (lcg x) + 1
theorem fu_more {j : Nat} : ∀ n x, hits j n x = true → fu j (n + 1) x = fu j n x := by
  intro n
  induction n with
  | zero => intro x h; cases h
  | succ n ih =>
    intro x h
    show (if Nat.beq (x % 6) j then 0 else fu j (n + 1) (lcg x) + 1) = (if Nat.beq (x % 6) j then 0 else fu j n (lcg x) + 1)
    by_cases e : Nat.beq (x % 6) j = true
    · rw [if_pos e, if_pos e]
    · rw [if_neg e, if_neg e, ih (lcg x) (by
        have h2 : (Nat.beq (x % 6) j || hits j n (lcg x)) = true := h
        rcases Bool.or_eq_true_iff.mp h2 with h3 | h3
        · exact absurd h3 e
        · exact h3)]
theorem fu_step {j x y : Nat} (hj : j < 6) (hx : x < 65536) (hne : ¬ x % 6 = j) (hy : y = lcg x) : fu j (hB + 1) y + 1 = fu j (hB + 1) x := by
  have h := hits4 hj hx
  have e : ¬ Nat.beq (x % 6) j = true := fun h2 => hne (Nat.eq_of_beq_eq_true h2)
  have h2 : hits j hB (lcg x) = true := by
    have h3 : (Nat.beq (x % 6) j || hits j hB (lcg x)) = true := h
    rcases Bool.or_eq_true_iff.mp h3 with h4 | h4
    · exact absurd h4 e
    · exact h4
  have h5 : fu j (hB + 1) x = fu j hB (lcg x) + 1 := by
    show (if Nat.beq (x % 6) j then 0 else fu j hB (lcg x) + 1) = _
    rw [if_neg e]
  rw [h5, hy, fu_more hB (lcg x) h2]
def dKX (r : Nat → Nat → Int32) (p x : Int32) : Prop := x.toInt = 0 → ∃ j : Nat, j < 6 ∧ (r 56 (6 * j + p.toNatClampNeg)).toInt = 0
set_option maxHeartbeats 4000000 in
set_option maxRecDepth 100000 in
theorem c_X12_draw (l : Launch) (D : va_G) (cy : Nat → ClassId) (a : Nat → Nat) (i : Nat → Int32) (r : Nat → Nat → Int32) (rl : Nat → Int64) (p0 : Int32) (sz : Nat) (hRi : mRi i) (hRr : mRr r) : Met l yX12_draw (Cond.code yX12_draw cX12_draw 4 (some .int) :: gT) { frames := 2, cells := 0, slots := 0, locals := 45 } (va_Pc [.ref (a 0), .int p0] (rQ D cy (mW cy a i r rl) sz)) (va_Qi (fun (z : Int32) (u : (Nat → Int32) × (Nat → Nat → Int32)) => mRi u.1 ∧ mRr u.2 ∧ mEi [1] i u.1 ∧ mEr [] r u.2 ∧ True) (fun (u : (Nat → Int32) × (Nat → Nat → Int32)) t => va_P D vwCl (mW cy a u.1 u.2 rl) t.heap ∧ va_K D vwCl (vT cy) t ∧ va_D (va_A (mW cy a i r rl) sz) (mW cy a u.1 u.2 rl)) (va_A (mW cy a i r rl) sz)) 0 0 (va_A (mW cy a i r rl) sz) := by
  refine Met.ofQ (cc := cX12_draw) (maxL := 4) (ret := (some .int)) (by decide) rfl ?_
  intro p e s m args below meth c s₁ B hml hv Q hQ
  obtain ⟨rfl, hsz, hP, hK, hD0⟩ := hv
  have hx := B.exec
  have hb := B.bytes
  have hr := B.returns
  have hlocks := B.notSynchronized
  have hT : ∀ w ∈ gT, w.before _ s = true := fun w h => atoms_spec (ws := (Cond.code yX12_draw cX12_draw 4 (some .int) :: gT)) B.pre w (List.mem_cons_of_mem _ h)
  have hown : s.vm.findClass RX12 = some m.cls := findClass_of_methodNamed B.named
  subst hsz
  have hD := hD0.self (sz := s.heap.size)
  generalize hAe : va_A (mW cy a i r rl) s.heap.size = A at hD hQ
  have hA : ∀ q : Nat, s.heap.size ≤ q → A q := fun q h => by rw [← hAe]; exact Or.inr h
  have hS : va_S A s.heap s.heap [] := va_S.rf
  have hl := lv_entry ([.ref (a 0), .int p0]) (n := 4) (Nat.le_of_ble_eq_true rfl)
  rw [lg_entry_eq]
  generalize (lg_sl ([.ref (a 0), .int p0]) ++ List.replicate (4 - (lg_sl ([.ref (a 0), .int p0])).length) Slot.unset).toArray = ls at hl ⊢
  have hl : lv_has ls 4 [(0, .ref (a 0)), (1, .int p0)] := hl
  have hEi : mEi [1] i i := Ei_rf
  have hEr : mEr [] r r := Er_rf
  refine lv_aload_n hx hb dX12_draw_0 rfl (lv_at hl 0 rfl) ?_
  refine lv_iload_n hx hb dX12_draw_1 rfl (lv_at hl 1 rfl) ?_
  refine vp_callSi (W.runV (As := [.int p0]) (rest := []) ⟨hx, hb, hml, hown, hT⟩ (c_X12_isHome l D cy a i r rl p0 hRi hRr) (cwV 1 hT (gV t_12 t_13 t_14 t_15 t_6) rfl rfl rfl (by decide +kernel) ⟨Nat.le_of_ble_eq_true rfl, Nat.le_of_ble_eq_true rfl⟩) (rP_v hP hK (va_recv hK hP (ci := 12) (q0 := 0) rfl rfl)) rfl rfl hl.1 rfl (lv_room (Nat.le_of_ble_eq_true rfl)) dX12_draw_2 ⟨Nat.le_of_ble_eq_true rfl, Nat.le_of_ble_eq_true rfl⟩) (fun r_1 hr_1 => ?_)
  have hg_2 : 0 ≤ (i 0).toInt ∧ (i 0).toInt ≤ 6 := hRi 0
  have hr_1 : BR r_1 (0 ≤ p0.toInt ∧ p0.toInt < (i 0).toInt) 1 0 := hr_1
  rcases hr_1 with ⟨rfl, h_3⟩ | ⟨rfl, h_3⟩
  · skip
    refine lv_if_ne (tgt := 10) hx hb dX12_draw_5 (by decide) (fun c_4 => ?_) (fun c_4 => absurd c_4 (by decide))
    refine lv_iconst (v := 1) hx hb dX12_draw_10 (by decide) ?_
    refine lv_istore_n (lv' := [(2, .int 1), (0, .ref (a 0)), (1, .int p0)]) hx hb dX12_draw_11 rfl hl (by decide) rfl (fun ls hl => ?_)
    refine lv_iconst (v := 0) hx hb dX12_draw_12 (by decide) ?_
    refine lv_istore_n (lv' := [(3, .int 0), (2, .int 1), (0, .ref (a 0)), (1, .int p0)]) hx hb dX12_draw_13 rfl hl (by decide) rfl (fun ls hl => ?_)
    have loop_5 : ∀ (n : Nat) (x5_3 : Int32) (x5_2 : Int32) (H : Heap) (locs : List Loc) (ls : Array Slot), (6 - x5_3.toInt).toNat < n → (0 ≤ x5_3.toInt ∧ x5_3.toInt ≤ 6) → (0 ≤ x5_2.toInt ∧ x5_2.toInt ≤ 1) → (dKX r p0 x5_2) → va_P D vwCl (mW cy a i r rl) H → va_D A (mW cy a i r rl) → va_S A s.heap H locs → lv_has ls 4 [(3, .int x5_3), (2, .int x5_2), (0, .ref (a 0)), (1, .int p0)] → W p l e ({ frames := 2, cells := 0, slots := 0, locals := 45 } : Room) s m ([.ref (a 0), .int p0] : List Value).toArray below meth c H locs 0 0 Q (F0 m 14 ls []) := by
      intro n
      induction n with
      | zero =>
        intro x5_3 x5_2 H locs ls hm5 hf5_0 hf5_1 hx5 hP hD hS hl
        exact absurd hm5 (by omega)
      | succ n ih5 =>
        intro x5_3 x5_2 H locs ls hm5 hf5_0 hf5_1 hx5 hP hD hS hl
        refine lv_iload_n hx hb dX12_draw_14 rfl (lv_at hl 0 rfl) ?_
        refine lv_bipush (v := 6) hx hb dX12_draw_15 (by decide) ?_
        refine lv_icmp_ge (tgt := 50) hx hb dX12_draw_17 (by decide) (fun c_6 => ?_) (fun c_6 => ?_)
        · have c_6 : 6 ≤ x5_3.toInt := b_le c_6
          refine lv_iload_n hx hb dX12_draw_50 rfl (lv_at hl 1 rfl) ?_
          refine lv_if_eq (tgt := 57) hx hb dX12_draw_51 (by decide) (fun c_7 => ?_) (fun c_7 => ?_)
          · have c_7 : x5_2.toInt = 0 := b_eq c_7
            obtain ⟨j0, hj0, hk0⟩ := hx5 c_7
            refine lv_aload_n hx hb dX12_draw_57 rfl (lv_at hl 2 rfl) ?_
            refine lv_sipush (v := 25173) hx hb dX12_draw_58 (by decide) ?_
            refine lv_aload_n hx hb dX12_draw_61 rfl (lv_at hl 2 rfl) ?_
            refine va_get (D := D) (ci := 12) (v := .int (i 1)) (C := RX12) (T := TX12) (N := 91) hx hb hT iX12 hown hK hP 0 rfl rfl 1 (by decide) (hT _ t_181) (fun _ h9 => h9) rfl dX12_draw_62 ?_
            have hg_8 : 0 ≤ (i 1).toInt ∧ (i 1).toInt ≤ 65535 := hRi 1
            refine lv_imul hx hb dX12_draw_65 ?_
            refine lv_topi (fun v_9 ev_9 => ?_)
            have hv_9 : v_9.toInt = 25173 * (i 1).toInt := by rw [ev_9]; have := b_rg (i 1); exact i_mul (a := 25173) (b := (i 1).toInt) rfl rfl (by omega) (by omega)
            refine lv_sipush (v := 13849) hx hb dX12_draw_66 (by decide) ?_
            refine lv_iadd hx hb dX12_draw_69 ?_
            refine lv_topi (fun v_10 ev_10 => ?_)
            have hv_10 : v_10.toInt = v_9.toInt + 13849 := by rw [ev_10]; have := b_rg v_9; exact i_add (a := v_9.toInt) (b := 13849) rfl rfl (by omega) (by omega)
            refine lv_ldcw (v := 65536) hx hb hown (hT _ t_824) dX12_draw_70 ?_
            refine lv_irem hx hb dX12_draw_73 (by decide) ?_
            refine lv_topi (fun v_11 ev_11 => ?_)
            have hmv_11 : v_11.toInt = v_10.toInt % 65536 := by rw [ev_11, rem_toInt]; exact Int.tmod_eq_emod_of_nonneg (by omega)
            refine va_put (D := D) (ci := 12) (v := .int v_11) (ty := .int) (C := RX12) (T := TX12) (N := 91) hx hb hT iX12 tyX12 tyX12_ok nmX12 hown hK hP hD hS 0 rfl rfl 1 (by decide) (hT _ t_181) (fun _ h9 => h9) rfl (by decide +kernel) rfl rfl (Nat.le_of_ble_eq_true rfl) dX12_draw_74 (fun H locs hP hD hS => ?_)
            rw [mP1] at hP hD
            have hRi := Ri_upd hRi 1 v_11 ⟨by show (0 : Int) ≤ v_11.toInt; omega, by show v_11.toInt ≤ (65535 : Int); omega⟩
            have hEi := Ei_upd hEi 1 v_11 (by decide)
            have loop_12 : ∀ (n : Nat) (i12 : Nat → Int32) (H : Heap) (locs : List Loc) (ls : Array Slot), ((fu j0 (hB + 1) (i12 1).toInt.toNat : Int)).toNat < n → mRi i12 → mEi [1] i i12 → va_P D vwCl (mW cy a i12 r rl) H → va_D A (mW cy a i12 r rl) → va_S A s.heap H locs → lv_has ls 4 [(3, .int x5_3), (2, .int x5_2), (0, .ref (a 0)), (1, .int p0)] → W p l e ({ frames := 2, cells := 0, slots := 0, locals := 45 } : Room) s m ([.ref (a 0), .int p0] : List Value).toArray below meth c H locs 0 0 Q (F0 m 77 ls []) := by
              intro n
              induction n with
              | zero =>
                intro i12 H locs ls hm12 hRi hEi hP hD hS hl
                exact absurd hm12 (by omega)
              | succ n ih12 =>
                intro i12 H locs ls hm12 hRi hEi hP hD hS hl
                refine lv_aload_n hx hb dX12_draw_77 rfl (lv_at hl 2 rfl) ?_
                refine va_get (D := D) (ci := 12) (v := .ref (a 56)) (C := RX12) (T := TX12) (N := 91) hx hb hT iX12 hown hK hP 0 rfl rfl 70 (by decide) (hT _ t_190) (fun _ h9 => h9) rfl dX12_draw_78 ?_
                refine lv_bipush (v := 6) hx hb dX12_draw_81 (by decide) ?_
                refine lv_aload_n hx hb dX12_draw_83 rfl (lv_at hl 2 rfl) ?_
                refine va_get (D := D) (ci := 12) (v := .int (i12 1)) (C := RX12) (T := TX12) (N := 91) hx hb hT iX12 hown hK hP 0 rfl rfl 1 (by decide) (hT _ t_181) (fun _ h9 => h9) rfl dX12_draw_84 ?_
                have hg_13 : 0 ≤ (i12 1).toInt ∧ (i12 1).toInt ≤ 65535 := hRi 1
                refine lv_bipush (v := 6) hx hb dX12_draw_87 (by decide) ?_
                refine lv_irem hx hb dX12_draw_89 (by decide) ?_
                refine lv_topi (fun v_14 ev_14 => ?_)
                have hmv_14 : v_14.toInt = (i12 1).toInt % 6 := by rw [ev_14, rem_toInt]; exact Int.tmod_eq_emod_of_nonneg (by omega)
                refine lv_imul hx hb dX12_draw_90 ?_
                refine lv_topi (fun v_15 ev_15 => ?_)
                have hv_15 : v_15.toInt = 6 * v_14.toInt := by rw [ev_15]; have := b_rg v_14; exact i_mul (a := 6) (b := v_14.toInt) rfl rfl (by omega) (by omega)
                refine lv_iload_n hx hb dX12_draw_91 rfl (lv_at hl 3 rfl) ?_
                refine lv_iadd hx hb dX12_draw_92 ?_
                refine lv_topi (fun v_16 ev_16 => ?_)
                have hv_16 : v_16.toInt = v_15.toInt + p0.toInt := by rw [ev_16]; have := b_rg v_15; have := b_rg p0; exact i_add (a := v_15.toInt) (b := p0.toInt) rfl rfl (by omega) (by omega)
                refine va_zald hx hb hK hP 56 2 rfl rfl (vp_inI (by omega) (by omega)) dX12_draw_93 ?_
                refine lv_topi (fun v_17 ev_17 => ?_)
                have hwv_17 : v_17.toInt = (r 56 (v_16.toNatClampNeg)).toInt := congrArg Int32.toInt ev_17
                refine lv_if_eq (tgt := 120) hx hb dX12_draw_94 (by decide) (fun c_18 => ?_) (fun c_18 => ?_)
                · have c_18 : v_17.toInt = 0 := b_eq c_18
                  refine lv_aload_n hx hb dX12_draw_120 rfl (lv_at hl 2 rfl) ?_
                  refine va_get (D := D) (ci := 12) (v := .int (i12 1)) (C := RX12) (T := TX12) (N := 91) hx hb hT iX12 hown hK hP 0 rfl rfl 1 (by decide) (hT _ t_181) (fun _ h9 => h9) rfl dX12_draw_121 ?_
                  refine lv_bipush (v := 6) hx hb dX12_draw_124 (by decide) ?_
                  refine lv_irem hx hb dX12_draw_126 (by decide) ?_
                  refine lv_topi (fun v_19 ev_19 => ?_)
                  subst hQ
                  exact W.iret (v := v_19) hx hb hr (fun t ht hW => ⟨⟨_, (i12, r), rfl, ⟨hRi, hRr, hEi, hEr, trivial⟩, by rw [ht]; exact hP, va_K.moved hW.alike hK, hD⟩, hS.F ht⟩) hS.2.2 dX12_draw_127
                · have c_18 : v_17.toInt ≠ 0 := b_ne c_18
                  refine lv_aload_n hx hb dX12_draw_97 rfl (lv_at hl 2 rfl) ?_
                  refine lv_sipush (v := 25173) hx hb dX12_draw_98 (by decide) ?_
                  refine lv_aload_n hx hb dX12_draw_101 rfl (lv_at hl 2 rfl) ?_
                  refine va_get (D := D) (ci := 12) (v := .int (i12 1)) (C := RX12) (T := TX12) (N := 91) hx hb hT iX12 hown hK hP 0 rfl rfl 1 (by decide) (hT _ t_181) (fun _ h9 => h9) rfl dX12_draw_102 ?_
                  refine lv_imul hx hb dX12_draw_105 ?_
                  refine lv_topi (fun v_20 ev_20 => ?_)
                  have hv_20 : v_20.toInt = 25173 * (i12 1).toInt := by rw [ev_20]; have := b_rg (i12 1); exact i_mul (a := 25173) (b := (i12 1).toInt) rfl rfl (by omega) (by omega)
                  refine lv_sipush (v := 13849) hx hb dX12_draw_106 (by decide) ?_
                  refine lv_iadd hx hb dX12_draw_109 ?_
                  refine lv_topi (fun v_21 ev_21 => ?_)
                  have hv_21 : v_21.toInt = v_20.toInt + 13849 := by rw [ev_21]; have := b_rg v_20; exact i_add (a := v_20.toInt) (b := 13849) rfl rfl (by omega) (by omega)
                  refine lv_ldcw (v := 65536) hx hb hown (hT _ t_824) dX12_draw_110 ?_
                  refine lv_irem hx hb dX12_draw_113 (by decide) ?_
                  refine lv_topi (fun v_22 ev_22 => ?_)
                  have hmv_22 : v_22.toInt = v_21.toInt % 65536 := by rw [ev_22, rem_toInt]; exact Int.tmod_eq_emod_of_nonneg (by omega)
                  refine va_put (D := D) (ci := 12) (v := .int v_22) (ty := .int) (C := RX12) (T := TX12) (N := 91) hx hb hT iX12 tyX12 tyX12_ok nmX12 hown hK hP hD hS 0 rfl rfl 1 (by decide) (hT _ t_181) (fun _ h9 => h9) rfl (by decide +kernel) rfl rfl (Nat.le_of_ble_eq_true rfl) dX12_draw_114 (fun H locs hP hD hS => ?_)
                  rw [mP1] at hP hD
                  have hRi := Ri_upd hRi 1 v_22 ⟨by show (0 : Int) ≤ v_22.toInt; omega, by show v_22.toInt ≤ (65535 : Int); omega⟩
                  have hEi := Ei_upd hEi 1 v_22 (by decide)
                  refine lv_goto (tgt := 77) hx hb dX12_draw_117 (by decide) ?_
                  have hne : ¬ (i12 1).toInt.toNat % 6 = j0 := by
                    intro h9
                    have hix : v_16.toNatClampNeg = 6 * j0 + p0.toNatClampNeg := by show v_16.toInt.toNat = 6 * j0 + p0.toInt.toNat; omega
                    rw [hix] at hwv_17
                    omega
                  have hfu : fu j0 (hB + 1) ((upd i12 1 v_22) 1).toInt.toNat + 1 = fu j0 (hB + 1) (i12 1).toInt.toNat := by
                    show fu j0 (hB + 1) v_22.toInt.toNat + 1 = _
                    exact fu_step hj0 (by omega) hne (by unfold lcg; omega)
                  exact ih12 (upd i12 1 v_22) _ _ _ (by first | omega | (simp only [Int.toNat]; omega))  hRi hEi  hP hD hS (lv_sub hl [0, 1, 2, 3] rfl)
            exact loop_12 _ (upd i 1 v_11) _ _ _ (Nat.lt_succ_self _)  hRi hEi  hP hD hS hl
          · have c_7 : x5_2.toInt ≠ 0 := b_ne c_7
            refine lv_bipush (v := (-2)) hx hb dX12_draw_54 (by decide) ?_
            subst hQ
            exact W.iret (v := (-2)) hx hb hr (fun t ht hW => ⟨⟨_, (i, r), rfl, ⟨hRi, hRr, hEi, hEr, trivial⟩, by rw [ht]; exact hP, va_K.moved hW.alike hK, hD⟩, hS.F ht⟩) hS.2.2 dX12_draw_56
        · have c_6 : x5_3.toInt < 6 := b_nle c_6
          refine lv_iload_n hx hb dX12_draw_20 rfl (lv_at hl 1 rfl) ?_
          refine lv_if_eq (tgt := 42) hx hb dX12_draw_21 (by decide) (fun c_23 => ?_) (fun c_23 => ?_)
          · have c_23 : x5_2.toInt = 0 := b_eq c_23
            refine lv_iconst (v := 0) hx hb dX12_draw_42 (by decide) ?_
            refine lv_istore_n (lv' := [(2, .int 0), (3, .int x5_3), (0, .ref (a 0)), (1, .int p0)]) hx hb dX12_draw_43 rfl hl (by decide) rfl (fun ls hl => ?_)
            obtain ⟨x_24, ex_24⟩ : ∃ y : Int32, y = x5_3 + 1 := ⟨_, rfl⟩
            refine lv_iinc (v := x_24) (lv' := [(3, .int x_24), (2, .int 0), (0, .ref (a 0)), (1, .int p0)]) hx hb dX12_draw_44 hl (k := 1) rfl (by rw [ex_24]; rfl) (by decide) rfl (fun ls hl => ?_)
            have hx_24 : x_24.toInt = x5_3.toInt + 1 := by rw [ex_24]; have := b_rg x5_3; exact i_add (a := x5_3.toInt) (b := 1) rfl rfl (by omega) (by omega)
            refine lv_goto (tgt := 14) hx hb dX12_draw_47 (by decide) ?_
            exact ih5 x_24 0 _ _ _ (by first | omega | (simp only [Int.toNat]; omega)) (by first | omega | decide) (by first | omega | decide)  (fun _ => hx5 c_23) hP hD hS (lv_sub hl [0, 1, 2, 3] rfl)
          · have c_23 : x5_2.toInt ≠ 0 := b_ne c_23
            refine lv_aload_n hx hb dX12_draw_24 rfl (lv_at hl 2 rfl) ?_
            refine va_get (D := D) (ci := 12) (v := .ref (a 56)) (C := RX12) (T := TX12) (N := 91) hx hb hT iX12 hown hK hP 0 rfl rfl 70 (by decide) (hT _ t_190) (fun _ h9 => h9) rfl dX12_draw_25 ?_
            refine lv_bipush (v := 6) hx hb dX12_draw_28 (by decide) ?_
            refine lv_iload_n hx hb dX12_draw_30 rfl (lv_at hl 0 rfl) ?_
            refine lv_imul hx hb dX12_draw_31 ?_
            refine lv_topi (fun v_25 ev_25 => ?_)
            have hv_25 : v_25.toInt = 6 * x5_3.toInt := by rw [ev_25]; have := b_rg x5_3; exact i_mul (a := 6) (b := x5_3.toInt) rfl rfl (by omega) (by omega)
            refine lv_iload_n hx hb dX12_draw_32 rfl (lv_at hl 3 rfl) ?_
            refine lv_iadd hx hb dX12_draw_33 ?_
            refine lv_topi (fun v_26 ev_26 => ?_)
            have hv_26 : v_26.toInt = v_25.toInt + p0.toInt := by rw [ev_26]; have := b_rg v_25; have := b_rg p0; exact i_add (a := v_25.toInt) (b := p0.toInt) rfl rfl (by omega) (by omega)
            refine va_zald hx hb hK hP 56 2 rfl rfl (vp_inI (by omega) (by omega)) dX12_draw_34 ?_
            refine lv_topi (fun v_27 ev_27 => ?_)
            have hwv_27 : v_27.toInt = (r 56 (v_26.toNatClampNeg)).toInt := congrArg Int32.toInt ev_27
            refine lv_if_eq (tgt := 42) hx hb dX12_draw_35 (by decide) (fun c_28 => ?_) (fun c_28 => ?_)
            · have c_28 : v_27.toInt = 0 := b_eq c_28
              refine lv_iconst (v := 0) hx hb dX12_draw_42 (by decide) ?_
              refine lv_istore_n (lv' := [(2, .int 0), (3, .int x5_3), (0, .ref (a 0)), (1, .int p0)]) hx hb dX12_draw_43 rfl hl (by decide) rfl (fun ls hl => ?_)
              obtain ⟨x_29, ex_29⟩ : ∃ y : Int32, y = x5_3 + 1 := ⟨_, rfl⟩
              refine lv_iinc (v := x_29) (lv' := [(3, .int x_29), (2, .int 0), (0, .ref (a 0)), (1, .int p0)]) hx hb dX12_draw_44 hl (k := 1) rfl (by rw [ex_29]; rfl) (by decide) rfl (fun ls hl => ?_)
              have hx_29 : x_29.toInt = x5_3.toInt + 1 := by rw [ex_29]; have := b_rg x5_3; exact i_add (a := x5_3.toInt) (b := 1) rfl rfl (by omega) (by omega)
              refine lv_goto (tgt := 14) hx hb dX12_draw_47 (by decide) ?_
              have hix : v_26.toNatClampNeg = 6 * x5_3.toNatClampNeg + p0.toNatClampNeg := by show v_26.toInt.toNat = 6 * x5_3.toInt.toNat + p0.toInt.toNat; omega
              exact ih5 x_29 0 _ _ _ (by first | omega | (simp only [Int.toNat]; omega)) (by first | omega | decide) (by first | omega | decide)  (fun _ => ⟨x5_3.toNatClampNeg, by show x5_3.toInt.toNat < 6; omega, by rw [← hix]; omega⟩) hP hD hS (lv_sub hl [0, 1, 2, 3] rfl)
            · have c_28 : v_27.toInt ≠ 0 := b_ne c_28
              refine lv_iconst (v := 1) hx hb dX12_draw_38 (by decide) ?_
              refine lv_goto (tgt := 43) hx hb dX12_draw_39 (by decide) ?_
              refine lv_istore_n (lv' := [(2, .int 1), (3, .int x5_3), (0, .ref (a 0)), (1, .int p0)]) hx hb dX12_draw_43 rfl hl (by decide) rfl (fun ls hl => ?_)
              obtain ⟨x_30, ex_30⟩ : ∃ y : Int32, y = x5_3 + 1 := ⟨_, rfl⟩
              refine lv_iinc (v := x_30) (lv' := [(3, .int x_30), (2, .int 1), (0, .ref (a 0)), (1, .int p0)]) hx hb dX12_draw_44 hl (k := 1) rfl (by rw [ex_30]; rfl) (by decide) rfl (fun ls hl => ?_)
              have hx_30 : x_30.toInt = x5_3.toInt + 1 := by rw [ex_30]; have := b_rg x5_3; exact i_add (a := x5_3.toInt) (b := 1) rfl rfl (by omega) (by omega)
              refine lv_goto (tgt := 14) hx hb dX12_draw_47 (by decide) ?_
              exact ih5 x_30 1 _ _ _ (by first | omega | (simp only [Int.toNat]; omega)) (by first | omega | decide) (by first | omega | decide)  (fun h9 => absurd h9 (by decide)) hP hD hS (lv_sub hl [0, 1, 2, 3] rfl)
    exact loop_5 _ 0 1 _ _ _ (Nat.lt_succ_self _) (by first | omega | decide) (by first | omega | decide)  (fun h9 => absurd h9 (by decide)) hP hD hS hl
  · skip
    refine lv_if_ne (tgt := 10) hx hb dX12_draw_5 (by decide) (fun c_31 => absurd (by decide) c_31) (fun c_31 => ?_)
    refine lv_iconst (v := (-1)) hx hb dX12_draw_8 (by decide) ?_
    subst hQ
    exact W.iret (v := (-1)) hx hb hr (fun t ht hW => ⟨⟨_, (i, r), rfl, ⟨hRi, hRr, hEi, hEr, trivial⟩, by rw [ht]; exact hP, va_K.moved hW.alike hK, hD⟩, hS.F ht⟩) hS.2.2 dX12_draw_9
