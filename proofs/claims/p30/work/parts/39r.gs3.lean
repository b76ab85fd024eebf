-- a sign tells its step
theorem qSg_of {o : Int} (hr : 0 ≤ o ∧ o ≤ 12) : (qSg o = 48 ↔ o = 0) ∧ (qSg o = 107 ↔ o = 1) ∧ (qSg o = 43 ↔ o = 2) ∧ (qSg o = 45 ↔ o = 3) ∧ (qSg o = 42 ↔ o = 4) ∧ (qSg o = 47 ↔ o = 5) ∧ (qSg o = 37 ↔ o = 6) ∧ (qSg o = 60 ↔ o = 7) ∧ (qSg o = 62 ↔ o = 8) ∧ (qSg o = 61 ↔ o = 9) ∧ (qSg o = 33 ↔ o = 10) ∧ (qSg o = 38 ↔ o = 11) ∧ (qSg o = 124 ↔ o = 12) := by
  rcases (show o = 0 ∨ o = 1 ∨ o = 2 ∨ o = 3 ∨ o = 4 ∨ o = 5 ∨ o = 6 ∨ o = 7 ∨ o = 8 ∨ o = 9 ∨ o = 10 ∨ o = 11 ∨ o = 12 by omega) with rfl | rfl | rfl | rfl | rfl | rfl | rfl | rfl | rfl | rfl | rfl | rfl | rfl <;> decide
theorem qSg_r {o : Int} (hr : 0 ≤ o ∧ o ≤ 12) : 33 ≤ qSg o ∧ qSg o ≤ 124 := by
  rcases (show o = 0 ∨ o = 1 ∨ o = 2 ∨ o = 3 ∨ o = 4 ∨ o = 5 ∨ o = 6 ∨ o = 7 ∨ o = 8 ∨ o = 9 ∨ o = 10 ∨ o = 11 ∨ o = 12 by omega) with rfl | rfl | rfl | rfl | rfl | rfl | rfl | rfl | rfl | rfl | rfl | rfl | rfl <;> decide
theorem rB_of {o : Int} (h : rBin o) (hr : 0 ≤ o ∧ o ≤ 12) : 2 ≤ o ∧ o ≤ 9 := by
  obtain ⟨h0, h1, h2, h3, h4⟩ := h
  omega
theorem clp_x {hi v m z : Int32} (h : 0 ≤ hi.toInt) (e1 : m = if v < hi then v else hi) (e2 : z = if (0 : Int32) < m then m else 0) : z = clp hi v := by
  have h0 : (0 : Int32).toInt = 0 := rfl
  have lt : ∀ x y : Int32, x < y ↔ x.toInt < y.toInt := fun x y => Int32.lt_iff_toInt_lt
  rw [e2, e1]
  unfold clp
  by_cases a : v.toInt < 0
  · rw [if_pos a, if_pos ((lt v hi).mpr (by omega)), if_neg (fun h9 => by have h8 := (lt 0 v).mp h9; omega)]
  · rw [if_neg a]
    by_cases b : hi.toInt < v.toInt
    · have hn : ¬ v < hi := fun h9 => by have h8 := (lt v hi).mp h9; omega
      rw [if_pos b, if_neg hn]
      by_cases c : hi.toInt = 0
      · rw [if_neg (fun h9 => by have h8 := (lt 0 hi).mp h9; omega)]; exact Int32.toInt_inj.mp (by omega)
      · exact if_pos ((lt 0 hi).mpr (by omega))
    · rw [if_neg b]
      have e : (if v < hi then v else hi) = v := by
        by_cases c : v < hi
        · exact if_pos c
        · rw [if_neg c]; exact Int32.toInt_inj.mp (by have h8 : ¬ v.toInt < hi.toInt := fun h7 => c ((lt v hi).mpr h7); omega)
      rw [e]
      by_cases c : v.toInt = 0
      · rw [if_neg (fun h9 => by have h8 := (lt 0 v).mp h9; omega)]; exact Int32.toInt_inj.mp (by omega)
      · exact if_pos ((lt 0 v).mpr (by omega))
-- the law in force, in the words of the class
def xLw (d : lwT) (i : Nat → Int32) (r : Nat → Nat → Int32) : Prop := (i 8).toInt = (d.2 : Int) ∧ (∀ q, q < d.2 → r 21 q = d.1 1 q ∧ r 22 q = d.1 2 q ∧ r 23 q = d.1 3 q ∧ r 24 q = d.1 4 q) ∧ ∃ n : Nat, qRel (r 25) (r 26) (d.1 0) n ∧ ∀ q, q < d.2 → (d.1 4 q).toInt.toNat ≤ n
theorem xLw_co {d : lwT} {i I : Nat → Int32} {r R : Nat → Nat → Int32} (h : xLw d i r) (e8 : I 8 = i 8) (e21 : R 21 = r 21) (e22 : R 22 = r 22) (e23 : R 23 = r 23) (e24 : R 24 = r 24) (e25 : R 25 = r 25) (e26 : R 26 = r 26) : xLw d I R := by
  unfold xLw
  rw [e8, e21, e22, e23, e24, e25, e26]
  exact h
set_option maxHeartbeats 4000000 in
set_option maxRecDepth 100000 in
theorem c_X5_combine9 (l : Launch) (p0 p1 p2 : Int32) (o9 : Int) (e9 : p0.toInt = qSg o9) (h9 : 2 ≤ o9 ∧ o9 ≤ 9) (q : o9 = 5 ∨ o9 = 6 → p2.toInt ≠ 0) : Met l yX5_combine (Cond.code yX5_combine cX5_combine 3 (some .int) :: gT) { frames := 1, cells := 0, slots := 0, locals := 24 } (va_Pc [.int p0, .int p1, .int p2] (fun _ => True)) (vp_Si (fun z => z = rK o9 p1 p2)) 0 0 (fun _ => False) := by
  refine Met.ofQ (cc := cX5_combine) (maxL := 3) (ret := (some .int)) (by decide) rfl ?_
  intro p e s m args below meth c s₁ B hml hv Q hQ
  obtain ⟨rfl, -⟩ := hv
  have hx := B.exec
  have hb := B.bytes
  have hr := B.returns
  have hlocks := B.notSynchronized
  have hT : ∀ w ∈ gT, w.before _ s = true := fun w h => atoms_spec (ws := (Cond.code yX5_combine cX5_combine 3 (some .int) :: gT)) B.pre w (List.mem_cons_of_mem _ h)
  have hown : s.vm.findClass RX5 = some m.cls := findClass_of_methodNamed B.named
  have hl := lv_entry ([.int p0, .int p1, .int p2]) (n := 3) (Nat.le_of_ble_eq_true rfl)
  rw [lg_entry_eq]
  generalize (lg_sl ([.int p0, .int p1, .int p2]) ++ List.replicate (3 - (lg_sl ([.int p0, .int p1, .int p2])).length) Slot.unset).toArray = ls at hl ⊢
  have hl : lv_has ls 3 [(0, .int p0), (1, .int p1), (2, .int p2)] := hl
  refine lv_iload_n hx hb dX5_combine_0 rfl (lv_at hl 0 rfl) ?_
  by_cases h_1_0 : p0 = 37
  · refine lv_lookup (off := 91) (tgt := 92) hx hb dX5_combine_1 rfl (by rw [h_1_0]; rfl) (by decide) ?_
    have hk9 : p0.toInt = 37 := by first | omega | exact congrArg Int32.toInt h_1_0
    have ho9 : o9 = 6 := (qSg_of (o := o9) ⟨by omega, by omega⟩).2.2.2.2.2.2.1.mp (e9.symm.trans hk9)
    subst ho9
    refine lv_iload_n hx hb dX5_combine_92 rfl (lv_at hl 2 rfl) ?_
    refine lv_if_ne (tgt := 100) hx hb dX5_combine_93 (by decide) (fun c_2 => ?_) (fun c_2 => ?_)
    · have c_2 : p2.toInt ≠ 0 := b_ne c_2
      refine lv_iload_n hx hb dX5_combine_100 rfl (lv_at hl 1 rfl) ?_
      refine lv_iload_n hx hb dX5_combine_101 rfl (lv_at hl 2 rfl) ?_
      refine lv_irem hx hb dX5_combine_102 (nz (by omega)) ?_
      refine lv_topi (fun v_3 ev_3 => ?_)
      subst hQ
      exact W.iret (v := v_3) hx hb hr (fun t ht hW => ⟨_, rfl, (by unfold rK; rw [if_neg (by omega), if_neg (by omega), if_neg (by omega), if_neg (by omega), if_pos (by omega)]; exact ev_3), ht⟩) (fun q hq => absurd hq List.not_mem_nil) dX5_combine_103
    · have c_2 : p2.toInt = 0 := b_nne c_2
      refine lv_iconst (v := 0) hx hb dX5_combine_96 (by decide) ?_
      refine lv_goto (tgt := 103) hx hb dX5_combine_97 (by decide) ?_
      subst hQ
      exact W.iret (v := 0) hx hb hr (fun t ht hW => ⟨_, rfl, (absurd (show p2.toInt = 0 by omega) (q (Or.inr rfl))), ht⟩) (fun q hq => absurd hq List.not_mem_nil) dX5_combine_103
  by_cases h_1_1 : p0 = 42
  · refine lv_lookup (off := 75) (tgt := 76) hx hb dX5_combine_1 rfl (by rw [h_1_1]; rfl) (by decide) ?_
    have hk9 : p0.toInt = 42 := by first | omega | exact congrArg Int32.toInt h_1_1
    have ho9 : o9 = 4 := (qSg_of (o := o9) ⟨by omega, by omega⟩).2.2.2.2.1.mp (e9.symm.trans hk9)
    subst ho9
    refine lv_iload_n hx hb dX5_combine_76 rfl (lv_at hl 1 rfl) ?_
    refine lv_iload_n hx hb dX5_combine_77 rfl (lv_at hl 2 rfl) ?_
    refine lv_imul hx hb dX5_combine_78 ?_
    refine lv_topi (fun v_4 ev_4 => ?_)
    subst hQ
    exact W.iret (v := v_4) hx hb hr (fun t ht hW => ⟨_, rfl, (by unfold rK; rw [if_neg (by omega), if_neg (by omega), if_pos (by omega)]; exact ev_4), ht⟩) (fun q hq => absurd hq List.not_mem_nil) dX5_combine_79
  by_cases h_1_2 : p0 = 43
  · refine lv_lookup (off := 67) (tgt := 68) hx hb dX5_combine_1 rfl (by rw [h_1_2]; rfl) (by decide) ?_
    have hk9 : p0.toInt = 43 := by first | omega | exact congrArg Int32.toInt h_1_2
    have ho9 : o9 = 2 := (qSg_of (o := o9) ⟨by omega, by omega⟩).2.2.1.mp (e9.symm.trans hk9)
    subst ho9
    refine lv_iload_n hx hb dX5_combine_68 rfl (lv_at hl 1 rfl) ?_
    refine lv_iload_n hx hb dX5_combine_69 rfl (lv_at hl 2 rfl) ?_
    refine lv_iadd hx hb dX5_combine_70 ?_
    refine lv_topi (fun v_5 ev_5 => ?_)
    subst hQ
    exact W.iret (v := v_5) hx hb hr (fun t ht hW => ⟨_, rfl, (by unfold rK; rw [if_pos (by omega)]; exact ev_5), ht⟩) (fun q hq => absurd hq List.not_mem_nil) dX5_combine_71
  by_cases h_1_3 : p0 = 45
  · refine lv_lookup (off := 71) (tgt := 72) hx hb dX5_combine_1 rfl (by rw [h_1_3]; rfl) (by decide) ?_
    have hk9 : p0.toInt = 45 := by first | omega | exact congrArg Int32.toInt h_1_3
    have ho9 : o9 = 3 := (qSg_of (o := o9) ⟨by omega, by omega⟩).2.2.2.1.mp (e9.symm.trans hk9)
    subst ho9
    refine lv_iload_n hx hb dX5_combine_72 rfl (lv_at hl 1 rfl) ?_
    refine lv_iload_n hx hb dX5_combine_73 rfl (lv_at hl 2 rfl) ?_
    refine lv_isub hx hb dX5_combine_74 ?_
    refine lv_topi (fun v_6 ev_6 => ?_)
    subst hQ
    exact W.iret (v := v_6) hx hb hr (fun t ht hW => ⟨_, rfl, (by unfold rK; rw [if_neg (by omega), if_pos (by omega)]; exact ev_6), ht⟩) (fun q hq => absurd hq List.not_mem_nil) dX5_combine_75
  by_cases h_1_4 : p0 = 47
  · refine lv_lookup (off := 79) (tgt := 80) hx hb dX5_combine_1 rfl (by rw [h_1_4]; rfl) (by decide) ?_
    have hk9 : p0.toInt = 47 := by first | omega | exact congrArg Int32.toInt h_1_4
    have ho9 : o9 = 5 := (qSg_of (o := o9) ⟨by omega, by omega⟩).2.2.2.2.2.1.mp (e9.symm.trans hk9)
    subst ho9
    refine lv_iload_n hx hb dX5_combine_80 rfl (lv_at hl 2 rfl) ?_
    refine lv_if_ne (tgt := 88) hx hb dX5_combine_81 (by decide) (fun c_7 => ?_) (fun c_7 => ?_)
    · have c_7 : p2.toInt ≠ 0 := b_ne c_7
      refine lv_iload_n hx hb dX5_combine_88 rfl (lv_at hl 1 rfl) ?_
      refine lv_iload_n hx hb dX5_combine_89 rfl (lv_at hl 2 rfl) ?_
      refine lv_idiv hx hb dX5_combine_90 (nz (by omega)) ?_
      refine lv_topi (fun v_8 ev_8 => ?_)
      subst hQ
      exact W.iret (v := v_8) hx hb hr (fun t ht hW => ⟨_, rfl, (by unfold rK; rw [if_neg (by omega), if_neg (by omega), if_neg (by omega), if_pos (by omega)]; exact ev_8), ht⟩) (fun q hq => absurd hq List.not_mem_nil) dX5_combine_91
    · have c_7 : p2.toInt = 0 := b_nne c_7
      refine lv_iconst (v := 0) hx hb dX5_combine_84 (by decide) ?_
      refine lv_goto (tgt := 91) hx hb dX5_combine_85 (by decide) ?_
      subst hQ
      exact W.iret (v := 0) hx hb hr (fun t ht hW => ⟨_, rfl, (absurd (show p2.toInt = 0 by omega) (q (Or.inl rfl))), ht⟩) (fun q hq => absurd hq List.not_mem_nil) dX5_combine_91
  by_cases h_1_5 : p0 = 60
  · refine lv_lookup (off := 103) (tgt := 104) hx hb dX5_combine_1 rfl (by rw [h_1_5]; rfl) (by decide) ?_
    have hk9 : p0.toInt = 60 := by first | omega | exact congrArg Int32.toInt h_1_5
    have ho9 : o9 = 7 := (qSg_of (o := o9) ⟨by omega, by omega⟩).2.2.2.2.2.2.2.1.mp (e9.symm.trans hk9)
    subst ho9
    refine lv_iload_n hx hb dX5_combine_104 rfl (lv_at hl 1 rfl) ?_
    refine lv_iload_n hx hb dX5_combine_105 rfl (lv_at hl 2 rfl) ?_
    refine lv_icmp_ge (tgt := 113) hx hb dX5_combine_106 (by decide) (fun c_9 => ?_) (fun c_9 => ?_)
    · have c_9 : p2.toInt ≤ p1.toInt := b_le c_9
      refine lv_iconst (v := 0) hx hb dX5_combine_113 (by decide) ?_
      subst hQ
      exact W.iret (v := 0) hx hb hr (fun t ht hW => ⟨_, rfl, (by unfold rK; rw [if_neg (by omega), if_neg (by omega), if_neg (by omega), if_neg (by omega), if_neg (by omega), if_pos (by omega), if_neg (by omega)]), ht⟩) (fun q hq => absurd hq List.not_mem_nil) dX5_combine_114
    · have c_9 : p1.toInt < p2.toInt := b_nle c_9
      refine lv_iconst (v := 1) hx hb dX5_combine_109 (by decide) ?_
      refine lv_goto (tgt := 114) hx hb dX5_combine_110 (by decide) ?_
      subst hQ
      exact W.iret (v := 1) hx hb hr (fun t ht hW => ⟨_, rfl, (by unfold rK; rw [if_neg (by omega), if_neg (by omega), if_neg (by omega), if_neg (by omega), if_neg (by omega), if_pos (by omega), if_pos (by omega)]), ht⟩) (fun q hq => absurd hq List.not_mem_nil) dX5_combine_114
  by_cases h_1_6 : p0 = 62
  · refine lv_lookup (off := 114) (tgt := 115) hx hb dX5_combine_1 rfl (by rw [h_1_6]; rfl) (by decide) ?_
    have hk9 : p0.toInt = 62 := by first | omega | exact congrArg Int32.toInt h_1_6
    have ho9 : o9 = 8 := (qSg_of (o := o9) ⟨by omega, by omega⟩).2.2.2.2.2.2.2.2.1.mp (e9.symm.trans hk9)
    subst ho9
    refine lv_iload_n hx hb dX5_combine_115 rfl (lv_at hl 1 rfl) ?_
    refine lv_iload_n hx hb dX5_combine_116 rfl (lv_at hl 2 rfl) ?_
    refine lv_icmp_le (tgt := 124) hx hb dX5_combine_117 (by decide) (fun c_10 => ?_) (fun c_10 => ?_)
    · have c_10 : p1.toInt ≤ p2.toInt := b_le c_10
      refine lv_iconst (v := 0) hx hb dX5_combine_124 (by decide) ?_
      subst hQ
      exact W.iret (v := 0) hx hb hr (fun t ht hW => ⟨_, rfl, (by unfold rK; rw [if_neg (by omega), if_neg (by omega), if_neg (by omega), if_neg (by omega), if_neg (by omega), if_neg (by omega), if_pos (by omega), if_neg (by omega)]), ht⟩) (fun q hq => absurd hq List.not_mem_nil) dX5_combine_125
    · have c_10 : p2.toInt < p1.toInt := b_nle c_10
      refine lv_iconst (v := 1) hx hb dX5_combine_120 (by decide) ?_
      refine lv_goto (tgt := 125) hx hb dX5_combine_121 (by decide) ?_
      subst hQ
      exact W.iret (v := 1) hx hb hr (fun t ht hW => ⟨_, rfl, (by unfold rK; rw [if_neg (by omega), if_neg (by omega), if_neg (by omega), if_neg (by omega), if_neg (by omega), if_neg (by omega), if_pos (by omega), if_pos (by omega)]), ht⟩) (fun q hq => absurd hq List.not_mem_nil) dX5_combine_125
  refine lv_lookup (off := 125) (tgt := 126) hx hb dX5_combine_1 rfl ((lv_osw h_1_0 rfl).trans ((lv_osw h_1_1 rfl).trans ((lv_osw h_1_2 rfl).trans ((lv_osw h_1_3 rfl).trans ((lv_osw h_1_4 rfl).trans ((lv_osw h_1_5 rfl).trans ((lv_osw h_1_6 rfl).trans (rfl)))))))) (by decide) ?_
  have ho9 : o9 = 9 := by
    have n0 : o9 ≠ 2 := fun h8 => by have h7 := (qSg_of (o := o9) ⟨by omega, by omega⟩).2.2.1.mpr h8; have h6 : p0.toInt = 43 := e9.trans h7; first | omega | (have h5 : p0 = 43 := Int32.toInt_inj.mp h6; contradiction)
    have n1 : o9 ≠ 3 := fun h8 => by have h7 := (qSg_of (o := o9) ⟨by omega, by omega⟩).2.2.2.1.mpr h8; have h6 : p0.toInt = 45 := e9.trans h7; first | omega | (have h5 : p0 = 45 := Int32.toInt_inj.mp h6; contradiction)
    have n2 : o9 ≠ 4 := fun h8 => by have h7 := (qSg_of (o := o9) ⟨by omega, by omega⟩).2.2.2.2.1.mpr h8; have h6 : p0.toInt = 42 := e9.trans h7; first | omega | (have h5 : p0 = 42 := Int32.toInt_inj.mp h6; contradiction)
    have n3 : o9 ≠ 5 := fun h8 => by have h7 := (qSg_of (o := o9) ⟨by omega, by omega⟩).2.2.2.2.2.1.mpr h8; have h6 : p0.toInt = 47 := e9.trans h7; first | omega | (have h5 : p0 = 47 := Int32.toInt_inj.mp h6; contradiction)
    have n4 : o9 ≠ 6 := fun h8 => by have h7 := (qSg_of (o := o9) ⟨by omega, by omega⟩).2.2.2.2.2.2.1.mpr h8; have h6 : p0.toInt = 37 := e9.trans h7; first | omega | (have h5 : p0 = 37 := Int32.toInt_inj.mp h6; contradiction)
    have n5 : o9 ≠ 7 := fun h8 => by have h7 := (qSg_of (o := o9) ⟨by omega, by omega⟩).2.2.2.2.2.2.2.1.mpr h8; have h6 : p0.toInt = 60 := e9.trans h7; first | omega | (have h5 : p0 = 60 := Int32.toInt_inj.mp h6; contradiction)
    have n6 : o9 ≠ 8 := fun h8 => by have h7 := (qSg_of (o := o9) ⟨by omega, by omega⟩).2.2.2.2.2.2.2.2.1.mpr h8; have h6 : p0.toInt = 62 := e9.trans h7; first | omega | (have h5 : p0 = 62 := Int32.toInt_inj.mp h6; contradiction)
    omega
  subst ho9
  refine lv_iload_n hx hb dX5_combine_126 rfl (lv_at hl 1 rfl) ?_
  refine lv_iload_n hx hb dX5_combine_127 rfl (lv_at hl 2 rfl) ?_
  refine lv_icmp_ne (tgt := 135) hx hb dX5_combine_128 (by decide) (fun c_11 => ?_) (fun c_11 => ?_)
  · have c_11 : p1.toInt ≠ p2.toInt := b_ne c_11
    refine lv_iconst (v := 0) hx hb dX5_combine_135 (by decide) ?_
    subst hQ
    exact W.iret (v := 0) hx hb hr (fun t ht hW => ⟨_, rfl, (by unfold rK; rw [if_neg (by omega), if_neg (by omega), if_neg (by omega), if_neg (by omega), if_neg (by omega), if_neg (by omega), if_neg (by omega), if_neg (by omega)]), ht⟩) (fun q hq => absurd hq List.not_mem_nil) dX5_combine_136
  · have c_11 : p1.toInt = p2.toInt := b_nne c_11
    refine lv_iconst (v := 1) hx hb dX5_combine_131 (by decide) ?_
    refine lv_goto (tgt := 136) hx hb dX5_combine_132 (by decide) ?_
    subst hQ
    exact W.iret (v := 1) hx hb hr (fun t ht hW => ⟨_, rfl, (by unfold rK; rw [if_neg (by omega), if_neg (by omega), if_neg (by omega), if_neg (by omega), if_neg (by omega), if_neg (by omega), if_neg (by omega), if_pos (by omega)]), ht⟩) (fun q hq => absurd hq List.not_mem_nil) dX5_combine_136
set_option maxHeartbeats 4000000 in
set_option maxRecDepth 100000 in
theorem c_X5_run9 (l : Launch) (D : va_G) (cy : Nat → ClassId) (a : Nat → Nat) (i : Nat → Int32) (r : Nat → Nat → Int32) (q : Nat → Option Nat) (tl : va_W) (p0 p1 : Int32) (sz : Nat) (hRi : yRi i) (hRr : yRr r) (q0 : 0 ≤ p0.toInt ∧ p0.toInt ≤ 200) (q1 : 0 ≤ p1.toInt ∧ p1.toInt ≤ 200) (c9 fa9 : Nat → Int32) (n9 : Nat) (hR9 : qRel (r 25) (r 26) c9 n9) (ht9 : p1.toInt.toNat ≤ n9) (hs9 : segOK c9 p0.toInt.toNat p1.toInt.toNat) (hA9 : rA c9 p0.toInt.toNat p1.toInt.toNat) (hf9 : ∀ k, k < 10 → r 28 k = fa9 k) : Met l yX5_run (Cond.code yX5_run cX5_run 10 (some .int) :: gT) { frames := 2, cells := 0, slots := 0, locals := 46 } (va_Pc [.ref (a 20), .int p0, .int p1, .ref (a 28)] (rM D cy (xW cy a i r q (a 20) (a 12) ++ tl) sz)) (va_Qi (fun (z : Int32) (u : Nat → Nat → Int32) => yRr u ∧ mEr [27] r u ∧ (z = rv c9 fa9 p0.toInt.toNat p1.toInt.toNat)) (fun (u : Nat → Nat → Int32) t => va_P D vwCl (xW cy a i u q (a 20) (a 12) ++ tl) t.heap ∧ va_K D vwCl (vT cy) t ∧ va_D (va_A (xW cy a i r q (a 20) (a 12) ++ tl) sz) (xW cy a i u q (a 20) (a 12) ++ tl)) (va_A (xW cy a i r q (a 20) (a 12) ++ tl) sz)) 0 0 (va_A (xW cy a i r q (a 20) (a 12) ++ tl) sz) := by
  refine Met.ofQ (cc := cX5_run) (maxL := 10) (ret := (some .int)) (by decide) rfl ?_
  intro p e s m args below meth c s₁ B hml hv Q hQ
  obtain ⟨rfl, hnw, hsz, hP, hK, hD0⟩ := hv
  have hx := B.exec
  have hb := B.bytes
  have hr := B.returns
  have hlocks := B.notSynchronized
  have hT : ∀ w ∈ gT, w.before _ s = true := fun w h => atoms_spec (ws := (Cond.code yX5_run cX5_run 10 (some .int) :: gT)) B.pre w (List.mem_cons_of_mem _ h)
  have hown : s.vm.findClass RX5 = some m.cls := findClass_of_methodNamed B.named
  subst hsz
  have hD := hD0.self (sz := s.heap.size)
  generalize hAe : va_A (xW cy a i r q (a 20) (a 12) ++ tl) s.heap.size = A at hD hQ
  have hA : ∀ q : Nat, s.heap.size ≤ q → A q := fun q h => by rw [← hAe]; exact Or.inr h
  have hS : va_S A s.heap s.heap [] := va_S.rf
  have hl := lv_entry ([.ref (a 20), .int p0, .int p1, .ref (a 28)]) (n := 10) (Nat.le_of_ble_eq_true rfl)
  rw [lg_entry_eq]
  generalize (lg_sl ([.ref (a 20), .int p0, .int p1, .ref (a 28)]) ++ List.replicate (10 - (lg_sl ([.ref (a 20), .int p0, .int p1, .ref (a 28)])).length) Slot.unset).toArray = ls at hl ⊢
  have hl : lv_has ls 10 [(0, .ref (a 20)), (1, .int p0), (2, .int p1), (3, .ref (a 28))] := hl
  have hEi : mEi [] i i := Ei_rf
  have hEr : mEr [27] r r := Er_rf
  obtain ⟨hft, ht, g, ⟨hg0, hg1⟩, hg⟩ := hs9
  have hX9 : rX c9 g p0.toInt.toNat p1.toInt.toNat := ⟨hg0, hg1, hg, hA9, hft, ht⟩
  refine lv_iconst (v := 0) hx hb dX5_run_0 (by decide) ?_
  refine lv_istore (lv' := [(4, .int 0), (0, .ref (a 20)), (1, .int p0), (2, .int p1), (3, .ref (a 28))]) hx hb dX5_run_1 hl (by decide) rfl (fun ls hl => ?_)
  refine lv_iload_n hx hb dX5_run_3 rfl (lv_at hl 2 rfl) ?_
  refine lv_istore (lv' := [(5, .int p0), (4, .int 0), (0, .ref (a 20)), (1, .int p0), (2, .int p1), (3, .ref (a 28))]) hx hb dX5_run_4 hl (by decide) rfl (fun ls hl => ?_)
  refine lv_iconst (v := 0) hx hb dX5_run_6 (by decide) ?_
  refine lv_istore (lv' := [(6, .int 0), (5, .int p0), (4, .int 0), (0, .ref (a 20)), (1, .int p0), (2, .int p1), (3, .ref (a 28))]) hx hb dX5_run_7 hl (by decide) rfl (fun ls hl => ?_)
  have loop_1 : ∀ (n : Nat) (x1_6 : Int32) (x1_5 : Int32) (x1_4 : Int32) (r1 : Nat → Nat → Int32) (H : Heap) (locs : List Loc) (ls : Array Slot), (200 - x1_6.toInt).toNat < n → (0 ≤ x1_6.toInt ∧ x1_6.toInt ≤ 200) → (0 ≤ x1_5.toInt ∧ x1_5.toInt ≤ 200) → (0 ≤ x1_4.toInt ∧ x1_4.toInt ≤ 200) → yRr r1 → mEr [27] r r1 → ((p0.toInt ≤ x1_5.toInt ∧ x1_5.toInt ≤ p1.toInt ∧ x1_6.toInt + p0.toInt ≤ x1_5.toInt) ∧ rLI c9 fa9 g p0.toInt.toNat p1.toInt.toNat (r1 27) x1_5.toInt.toNat x1_4.toInt) → va_P D vwCl (xW cy a i r1 q (a 20) (a 12) ++ tl) H → va_D A (xW cy a i r1 q (a 20) (a 12) ++ tl) → va_S A s.heap H locs → lv_has ls 10 [(6, .int x1_6), (5, .int x1_5), (4, .int x1_4), (0, .ref (a 20)), (1, .int p0), (2, .int p1), (3, .ref (a 28))] → W p l e ({ frames := 2, cells := 0, slots := 0, locals := 46 } : Room) s m ([.ref (a 20), .int p0, .int p1, .ref (a 28)] : List Value).toArray below meth c H locs 0 0 Q (F0 m 9 ls []) := by
    intro n
    induction n with
    | zero =>
      intro x1_6 x1_5 x1_4 r1 H locs ls hm1 hf1_0 hf1_1 hf1_2 hRr hEr hx1 hP hD hS hl
      exact absurd hm1 (by omega)
    | succ n ih1 =>
      intro x1_6 x1_5 x1_4 r1 H locs ls hm1 hf1_0 hf1_1 hf1_2 hRr hEr hx1 hP hD hS hl
      refine lv_iload hx hb dX5_run_9 (lv_at hl 0 rfl) ?_
      obtain ⟨hx1, hLI9⟩ := hx1
      have hrl := rL_r hLI9
      have hgb : x1_4.toInt + p0.toInt ≤ x1_5.toInt := by have h9 := hrl.2.2.2; omega
      have hgk9 : x1_4.toInt = (g x1_5.toInt.toNat : Int) := hrl.2.2.1
      clear hrl
      refine lv_sipush (v := 200) hx hb dX5_run_11 (by decide) ?_
      refine lv_icmp_ge (tgt := 308) hx hb dX5_run_14 (by decide) (fun c_2 => ?_) (fun c_2 => ?_)
      · have c_2 : 200 ≤ x1_6.toInt := b_le c_2
        refine lv_iload hx hb dX5_run_308 (lv_at hl 2 rfl) ?_
        obtain ⟨hend1, hend2⟩ := rL_end hX9 hLI9 (show p1.toInt.toNat ≤ x1_5.toInt.toNat by omega)
        refine lv_if_le (tgt := 325) hx hb dX5_run_310 (by decide) (fun c_3 => by have c_3 : x1_4.toInt ≤ 0 := b_le c_3; omega) (fun c_3 => ?_)
        have c_3 : 0 < x1_4.toInt := b_nle c_3
        refine lv_aload_n hx hb dX5_run_313 rfl (lv_at hl 3 rfl) ?_
        refine va_get (D := D) (ci := 5) (v := .ref (a 27)) (C := RX5) (T := TX5) (N := 9) hx hb hT iX5 hown hK hP 20 rfl rfl 8 (by decide) (hT _ t_363) (fun _ h9 => h9) rfl dX5_run_314 ?_
        refine lv_iload hx hb dX5_run_317 (lv_at hl 2 rfl) ?_
        refine lv_iconst (v := 1) hx hb dX5_run_319 (by decide) ?_
        refine lv_isub hx hb dX5_run_320 ?_
        refine lv_topi (fun v_4 ev_4 => ?_)
        have hv_4 : v_4.toInt = x1_4.toInt - 1 := by rw [ev_4]; have := b_rg x1_4; exact i_sub (a := x1_4.toInt) (b := 1) rfl rfl (by omega) (by omega)
        refine va_iald hx hb hK hP 27 0 rfl rfl (vp_inI (by omega) (by omega)) dX5_run_321 ?_
        refine lv_topi (fun v_5 ev_5 => ?_)
        refine lv_goto (tgt := 326) hx hb dX5_run_322 (by decide) ?_
        subst hQ
        exact W.iret (v := v_5) hx hb hr (fun t ht hW => ⟨⟨_, r1, rfl, ⟨hRr, hEr, (by rw [ev_5]; exact (congrArg (r1 27) (by show v_4.toInt.toNat = 0; omega)).trans hend1)⟩, by rw [ht]; exact hP, va_K.moved hW.alike hK, hD⟩, hS.F ht⟩) hS.2.2 dX5_run_326
      · have c_2 : x1_6.toInt < 200 := b_nle c_2
        refine lv_iload hx hb dX5_run_17 (lv_at hl 1 rfl) ?_
        refine lv_iconst (v := 0) hx hb dX5_run_19 (by decide) ?_
        refine lv_iload_n hx hb dX5_run_20 rfl (lv_at hl 5 rfl) ?_
        refine lv_iconst (v := 1) hx hb dX5_run_21 (by decide) ?_
        refine lv_isub hx hb dX5_run_22 ?_
        refine lv_topi (fun v_6 ev_6 => ?_)
        have hv_6 : v_6.toInt = p1.toInt - 1 := by rw [ev_6]; have := b_rg p1; exact i_sub (a := p1.toInt) (b := 1) rfl rfl (by omega) (by omega)
        refine vp_callSi (va_Run.run (va_runSN (As := [.int x1_5, .int 0, .int v_6]) (rest := []) ⟨hx, hb, hml, hown, hT⟩ (c_X11_within l x1_5 0 v_6) ⟨va_cnB 3 hT (gI t_1) rfl rfl rfl hnw (hT _ t_2) (by decide +kernel) ⟨Nat.le_of_ble_eq_true rfl, Nat.le_of_ble_eq_true rfl⟩, (hT _ t_4), trivial⟩ preT rfl rfl hl.1 rfl (lv_room (Nat.le_of_ble_eq_true rfl)) dX5_run_23 ⟨Nat.le_of_ble_eq_true rfl, Nat.le_of_ble_eq_true rfl⟩)) (fun r_7 hr_7 => ?_)
        have hr_7 : BR r_7 (0 ≤ x1_5.toInt ∧ x1_5.toInt ≤ v_6.toInt) 1 0 := hr_7
        rcases hr_7 with ⟨rfl, h_8⟩ | ⟨rfl, h_8⟩
        · skip
          refine lv_if_eq (tgt := 308) hx hb dX5_run_26 (by decide) (fun c_9 => absurd c_9 (by decide)) (fun c_9 => ?_)
          refine lv_iload_n hx hb dX5_run_29 rfl (lv_at hl 5 rfl) ?_
          refine lv_sipush (v := 200) hx hb dX5_run_30 (by decide) ?_
          refine lv_icmp_gt (tgt := 308) hx hb dX5_run_33 (by decide) (fun c_10 => by have c_10 : 200 < p1.toInt := b_lt c_10; omega) (fun c_10 => ?_)
          have c_10 : p1.toInt ≤ 200 := b_nlt c_10
          refine lv_aload_n hx hb dX5_run_36 rfl (lv_at hl 3 rfl) ?_
          refine va_get (D := D) (ci := 5) (v := .ref (a 25)) (C := RX5) (T := TX5) (N := 9) hx hb hT iX5 hown hK hP 20 rfl rfl 6 (by decide) (hT _ t_364) (fun _ h9 => h9) rfl dX5_run_37 ?_
          refine lv_iload hx hb dX5_run_40 (lv_at hl 1 rfl) ?_
          refine va_iald hx hb hK hP 25 0 rfl rfl (vp_inI (by omega) (by omega)) dX5_run_42 ?_
          refine lv_topi (fun v_11 ev_11 => ?_)
          obtain ⟨K, hKK⟩ : ∃ K : Nat, K = x1_5.toInt.toNat := ⟨_, rfl⟩
          rw [← hKK] at hLI9 hgk9
          have hKt : K < p1.toInt.toNat := by omega
          have hKF : p0.toInt.toNat ≤ K := by omega
          obtain ⟨hq1, hq2, hq3, hq4⟩ := hR9 K (by omega)
          have hor : 0 ≤ cOp (c9 K) ∧ cOp (c9 K) ≤ 12 := ⟨hq3, hq4⟩
          have hcv : 0 ≤ cV (c9 K) ∧ cV (c9 K) < 1048576 := by unfold cV; omega
          have hs := hg K hKF hKt
          unfold stepOK at hs
          obtain ⟨hs0, hs1, hs2, hs3⟩ := hs
          have hsg : v_11.toInt = qSg (cOp (c9 K)) := by rw [ev_11, hEr 25 (by decide), ← hq1, hKK]; rfl
          have hsr : 33 ≤ v_11.toInt ∧ v_11.toInt ≤ 124 := by rw [hsg]; exact qSg_r hor
          refine lv_istore (lv' := [(7, .int v_11), (6, .int x1_6), (5, .int x1_5), (4, .int x1_4), (0, .ref (a 20)), (1, .int p0), (2, .int p1), (3, .ref (a 28))]) hx hb dX5_run_43 hl (by decide) rfl (fun ls hl => ?_)
          refine lv_aload_n hx hb dX5_run_45 rfl (lv_at hl 4 rfl) ?_
          refine va_get (D := D) (ci := 5) (v := .ref (a 26)) (C := RX5) (T := TX5) (N := 9) hx hb hT iX5 hown hK hP 20 rfl rfl 7 (by decide) (hT _ t_365) (fun _ h9 => h9) rfl dX5_run_46 ?_
          refine lv_iload hx hb dX5_run_49 (lv_at hl 2 rfl) ?_
          refine va_iald hx hb hK hP 26 0 rfl rfl (vp_inI (by omega) (by omega)) dX5_run_51 ?_
          refine lv_topi (fun v_12 ev_12 => ?_)
          have hvv : v_12.toInt = cV (c9 K) := by rw [ev_12, hEr 26 (by decide), ← hq2, hKK]; rfl
          refine lv_istore (lv' := [(8, .int v_12), (7, .int v_11), (6, .int x1_6), (5, .int x1_5), (4, .int x1_4), (0, .ref (a 20)), (1, .int p0), (2, .int p1), (3, .ref (a 28))]) hx hb dX5_run_52 hl (by decide) rfl (fun ls hl => ?_)
          obtain ⟨x_13, ex_13⟩ : ∃ y : Int32, y = x1_5 + 1 := ⟨_, rfl⟩
          refine lv_iinc (v := x_13) (lv' := [(5, .int x_13), (8, .int v_12), (7, .int v_11), (6, .int x1_6), (4, .int x1_4), (0, .ref (a 20)), (1, .int p0), (2, .int p1), (3, .ref (a 28))]) hx hb dX5_run_54 hl (k := 3) rfl (by rw [ex_13]; rfl) (by decide) rfl (fun ls hl => ?_)
          have hx_13 : x_13.toInt = x1_5.toInt + 1 := by rw [ex_13]; have := b_rg x1_5; exact i_add (a := x1_5.toInt) (b := 1) rfl rfl (by omega) (by omega)
          refine lv_iload hx hb dX5_run_57 (lv_at hl 2 rfl) ?_
          refine lv_bipush (v := 48) hx hb dX5_run_59 (by decide) ?_
          refine lv_icmp_eq (tgt := 71) hx hb dX5_run_61 (by decide) (fun c_14 => ?_) (fun c_14 => ?_)
          · have c_14 : v_11.toInt = 48 := b_eq c_14
            have hop : cOp (c9 K) = 0 := (qSg_of hor).1.mp (by omega)
            refine lv_iload hx hb dX5_run_71 (lv_at hl 4 rfl) ?_
            refine lv_sipush (v := 200) hx hb dX5_run_73 (by decide) ?_
            refine lv_icmp_ge (tgt := 97) hx hb dX5_run_76 (by decide) (fun c_15 => by have c_15 : 200 ≤ x1_4.toInt := b_le c_15; omega) (fun c_15 => ?_)
            have c_15 : x1_4.toInt < 200 := b_nle c_15
            refine lv_iload hx hb dX5_run_79 (lv_at hl 2 rfl) ?_
            refine lv_bipush (v := 107) hx hb dX5_run_81 (by decide) ?_
            refine lv_icmp_ne (tgt := 99) hx hb dX5_run_83 (by decide) (fun c_16 => ?_) (fun c_16 => by have c_16 : v_11.toInt = 107 := b_nne c_16; omega)
            have c_16 : v_11.toInt ≠ 107 := b_ne c_16
            refine lv_aload_n hx hb dX5_run_99 rfl (lv_at hl 5 rfl) ?_
            refine va_get (D := D) (ci := 5) (v := .ref (a 27)) (C := RX5) (T := TX5) (N := 9) hx hb hT iX5 hown hK hP 20 rfl rfl 8 (by decide) (hT _ t_363) (fun _ h9 => h9) rfl dX5_run_100 ?_
            refine lv_iload hx hb dX5_run_103 (lv_at hl 4 rfl) ?_
            refine lv_iload hx hb dX5_run_105 (lv_at hl 2 rfl) ?_
            refine lv_bipush (v := 48) hx hb dX5_run_107 (by decide) ?_
            refine lv_icmp_ne (tgt := 117) hx hb dX5_run_109 (by decide) (fun c_17 => by have c_17 : v_11.toInt ≠ 48 := b_ne c_17; omega) (fun c_17 => ?_)
            have c_17 : v_11.toInt = 48 := b_nne c_17
            refine lv_iload hx hb dX5_run_112 (lv_at hl 1 rfl) ?_
            refine lv_goto (tgt := 121) hx hb dX5_run_114 (by decide) ?_
            refine va_iast hx hb hK hP hD hS 27 0 rfl rfl (vp_inI (by omega) (by omega)) dX5_run_121 (fun H locs hP hD hS => ?_)
            rw [zS27] at hP hD
            have hRr : yRr (va_up r1 27 (upd (r1 27) x1_4.toNatClampNeg v_12)) := Yr_upd hRr 27 (x1_4.toNatClampNeg) v_12 (b_rg _)
            have hEr : mEr [27] _ (va_up r1 27 (upd (r1 27) x1_4.toNatClampNeg v_12)) := Er_up hEr 27 _ (by decide)
            obtain ⟨x_18, ex_18⟩ : ∃ y : Int32, y = x1_4 + 1 := ⟨_, rfl⟩
            refine lv_iinc (v := x_18) (lv' := [(4, .int x_18), (5, .int x_13), (8, .int v_12), (7, .int v_11), (6, .int x1_6), (0, .ref (a 20)), (1, .int p0), (2, .int p1), (3, .ref (a 28))]) hx hb dX5_run_122 hl (k := 4) rfl (by rw [ex_18]; rfl) (by decide) rfl (fun ls hl => ?_)
            have hx_18 : x_18.toInt = x1_4.toInt + 1 := by rw [ex_18]; have := b_rg x1_4; exact i_add (a := x1_4.toInt) (b := 1) rfl rfl (by omega) (by omega)
            refine lv_goto (tgt := 302) hx hb dX5_run_125 (by decide) ?_
            obtain ⟨x_19, ex_19⟩ : ∃ y : Int32, y = x1_6 + 1 := ⟨_, rfl⟩
            refine lv_iinc (v := x_19) (lv' := [(6, .int x_19), (4, .int x_18), (5, .int x_13), (8, .int v_12), (7, .int v_11), (0, .ref (a 20)), (1, .int p0), (2, .int p1), (3, .ref (a 28))]) hx hb dX5_run_302 hl (k := 4) rfl (by rw [ex_19]; rfl) (by decide) rfl (fun ls hl => ?_)
            have hx_19 : x_19.toInt = x1_6.toInt + 1 := by rw [ex_19]; have := b_rg x1_6; exact i_add (a := x1_6.toInt) (b := 1) rfl rfl (by omega) (by omega)
            refine lv_goto (tgt := 9) hx hb dX5_run_305 (by decide) ?_
            have hLn := rL_num (x := v_12) (j := x1_4.toNatClampNeg) hX9 hLI9 hKt hop hvv (show ((x1_4.toInt.toNat : Nat) : Int) = x1_4.toInt by omega)
            rw [show K + 1 = x_13.toInt.toNat by omega, show x1_4.toInt + 1 = x_18.toInt by omega] at hLn
            exact ih1 x_19 x_13 x_18 (va_up r1 27 (upd (r1 27) x1_4.toNatClampNeg v_12)) _ _ _ (by first | omega | (simp only [Int.toNat]; omega)) (by first | omega | decide) (by first | omega | decide) (by first | omega | decide) hRr hEr ⟨⟨by omega, by omega, by omega⟩, hLn⟩ hP hD hS (lv_sub hl [0, 2, 1, 5, 6, 7, 8] rfl)
          · have c_14 : v_11.toInt ≠ 48 := b_ne c_14
            refine lv_iload hx hb dX5_run_64 (lv_at hl 2 rfl) ?_
            refine lv_bipush (v := 107) hx hb dX5_run_66 (by decide) ?_
            refine lv_icmp_ne (tgt := 128) hx hb dX5_run_68 (by decide) (fun c_20 => ?_) (fun c_20 => ?_)
            · have c_20 : v_11.toInt ≠ 107 := b_ne c_20
              refine lv_iload hx hb dX5_run_128 (lv_at hl 2 rfl) ?_
              refine lv_bipush (v := 33) hx hb dX5_run_130 (by decide) ?_
              refine lv_icmp_eq (tgt := 149) hx hb dX5_run_132 (by decide) (fun c_21 => ?_) (fun c_21 => ?_)
              · have c_21 : v_11.toInt = 33 := b_eq c_21
                have hop : cOp (c9 K) = 10 := (qSg_of hor).2.2.2.2.2.2.2.2.2.2.1.mp (by omega)
                have hg1K : 1 ≤ g K := by omega
                refine lv_iload hx hb dX5_run_149 (lv_at hl 4 rfl) ?_
                refine lv_iconst (v := 1) hx hb dX5_run_151 (by decide) ?_
                refine lv_icmp_ge (tgt := 157) hx hb dX5_run_152 (by decide) (fun c_22 => ?_) (fun c_22 => by have c_22 : x1_4.toInt < 1 := b_nle c_22; omega)
                have c_22 : 1 ≤ x1_4.toInt := b_le c_22
                refine lv_aload_n hx hb dX5_run_157 rfl (lv_at hl 5 rfl) ?_
                refine va_get (D := D) (ci := 5) (v := .ref (a 27)) (C := RX5) (T := TX5) (N := 9) hx hb hT iX5 hown hK hP 20 rfl rfl 8 (by decide) (hT _ t_363) (fun _ h9 => h9) rfl dX5_run_158 ?_
                refine lv_iload hx hb dX5_run_161 (lv_at hl 4 rfl) ?_
                refine lv_iconst (v := 1) hx hb dX5_run_163 (by decide) ?_
                refine lv_isub hx hb dX5_run_164 ?_
                refine lv_topi (fun v_23 ev_23 => ?_)
                have hv_23 : v_23.toInt = x1_4.toInt - 1 := by rw [ev_23]; have := b_rg x1_4; exact i_sub (a := x1_4.toInt) (b := 1) rfl rfl (by omega) (by omega)
                refine va_iald hx hb hK hP 27 0 rfl rfl (vp_inI (by omega) (by omega)) dX5_run_165 ?_
                refine lv_topi (fun v_24 ev_24 => ?_)
                refine lv_if_eq (tgt := 173) hx hb dX5_run_166 (by decide) (fun c_25 => ?_) (fun c_25 => ?_)
                · have c_25 : v_24.toInt = 0 := b_eq c_25
                  refine lv_iconst (v := 0) hx hb dX5_run_173 (by decide) ?_
                  refine lv_istore (lv' := [(9, .int 0), (5, .int x_13), (8, .int v_12), (7, .int v_11), (6, .int x1_6), (4, .int x1_4), (0, .ref (a 20)), (1, .int p0), (2, .int p1), (3, .ref (a 28))]) hx hb dX5_run_174 hl (by decide) rfl (fun ls hl => ?_)
                  refine lv_iload hx hb dX5_run_176 (lv_at hl 3 rfl) ?_
                  refine lv_bipush (v := 33) hx hb dX5_run_178 (by decide) ?_
                  refine lv_icmp_ne (tgt := 205) hx hb dX5_run_180 (by decide) (fun c_26 => by have c_26 : v_11.toInt ≠ 33 := b_ne c_26; omega) (fun c_26 => ?_)
                  have c_26 : v_11.toInt = 33 := b_nne c_26
                  refine lv_aload_n hx hb dX5_run_183 rfl (lv_at hl 6 rfl) ?_
                  refine va_get (D := D) (ci := 5) (v := .ref (a 27)) (C := RX5) (T := TX5) (N := 9) hx hb hT iX5 hown hK hP 20 rfl rfl 8 (by decide) (hT _ t_363) (fun _ h9 => h9) rfl dX5_run_184 ?_
                  refine lv_iload hx hb dX5_run_187 (lv_at hl 5 rfl) ?_
                  refine lv_iconst (v := 1) hx hb dX5_run_189 (by decide) ?_
                  refine lv_isub hx hb dX5_run_190 ?_
                  refine lv_topi (fun v_27 ev_27 => ?_)
                  have hv_27 : v_27.toInt = x1_4.toInt - 1 := by rw [ev_27]; have := b_rg x1_4; exact i_sub (a := x1_4.toInt) (b := 1) rfl rfl (by omega) (by omega)
                  refine lv_iload hx hb dX5_run_191 (lv_at hl 0 rfl) ?_
                  refine lv_if_eq (tgt := 200) hx hb dX5_run_193 (by decide) (fun c_28 => ?_) (fun c_28 => absurd (by decide) c_28)
                  refine lv_iconst (v := 1) hx hb dX5_run_200 (by decide) ?_
                  refine va_iast hx hb hK hP hD hS 27 0 rfl rfl (vp_inI (by omega) (by omega)) dX5_run_201 (fun H locs hP hD hS => ?_)
                  rw [zS27] at hP hD
                  have hRr : yRr (va_up r1 27 (upd (r1 27) v_27.toNatClampNeg 1)) := Yr_upd hRr 27 (v_27.toNatClampNeg) 1 (b_rg _)
                  have hEr : mEr [27] _ (va_up r1 27 (upd (r1 27) v_27.toNatClampNeg 1)) := Er_up hEr 27 _ (by decide)
                  refine lv_goto (tgt := 232) hx hb dX5_run_202 (by decide) ?_
                  refine lv_goto (tgt := 302) hx hb dX5_run_232 (by decide) ?_
                  obtain ⟨x_29, ex_29⟩ : ∃ y : Int32, y = x1_6 + 1 := ⟨_, rfl⟩
                  refine lv_iinc (v := x_29) (lv' := [(6, .int x_29), (9, .int 0), (5, .int x_13), (8, .int v_12), (7, .int v_11), (4, .int x1_4), (0, .ref (a 20)), (1, .int p0), (2, .int p1), (3, .ref (a 28))]) hx hb dX5_run_302 hl (k := 4) rfl (by rw [ex_29]; rfl) (by decide) rfl (fun ls hl => ?_)
                  have hx_29 : x_29.toInt = x1_6.toInt + 1 := by rw [ex_29]; have := b_rg x1_6; exact i_add (a := x1_6.toInt) (b := 1) rfl rfl (by omega) (by omega)
                  refine lv_goto (tgt := 9) hx hb dX5_run_305 (by decide) ?_
                  have hl0 : (r1 27) v_23.toNatClampNeg = 0 := by rw [← ev_24]; exact Int32.toInt_inj.mp (show v_24.toInt = 0 by omega)
                  have hnj : v_27.toNatClampNeg = v_23.toNatClampNeg := by show v_27.toInt.toNat = v_23.toInt.toNat; omega
                  have hLn := rL_not (x := 1) (j := v_27.toNatClampNeg) hX9 hLI9 hKt hop (show ((v_27.toInt.toNat : Nat) : Int) + 1 = x1_4.toInt by omega) (by rw [hnj, hl0]; rfl)
                  rw [show K + 1 = x_13.toInt.toNat by omega] at hLn
                  exact ih1 x_29 x_13 x1_4 (va_up r1 27 (upd (r1 27) v_27.toNatClampNeg 1)) _ _ _ (by first | omega | (simp only [Int.toNat]; omega)) (by first | omega | decide) (by first | omega | decide) (by first | omega | decide) hRr hEr ⟨⟨by omega, by omega, by omega⟩, hLn⟩ hP hD hS (lv_sub hl [0, 2, 5, 6, 7, 8, 9] rfl)
                · have c_25 : v_24.toInt ≠ 0 := b_ne c_25
                  refine lv_iconst (v := 1) hx hb dX5_run_169 (by decide) ?_
                  refine lv_goto (tgt := 174) hx hb dX5_run_170 (by decide) ?_
                  refine lv_istore (lv' := [(9, .int 1), (5, .int x_13), (8, .int v_12), (7, .int v_11), (6, .int x1_6), (4, .int x1_4), (0, .ref (a 20)), (1, .int p0), (2, .int p1), (3, .ref (a 28))]) hx hb dX5_run_174 hl (by decide) rfl (fun ls hl => ?_)
                  refine lv_iload hx hb dX5_run_176 (lv_at hl 3 rfl) ?_
                  refine lv_bipush (v := 33) hx hb dX5_run_178 (by decide) ?_
                  refine lv_icmp_ne (tgt := 205) hx hb dX5_run_180 (by decide) (fun c_30 => by have c_30 : v_11.toInt ≠ 33 := b_ne c_30; omega) (fun c_30 => ?_)
                  have c_30 : v_11.toInt = 33 := b_nne c_30
                  refine lv_aload_n hx hb dX5_run_183 rfl (lv_at hl 6 rfl) ?_
                  refine va_get (D := D) (ci := 5) (v := .ref (a 27)) (C := RX5) (T := TX5) (N := 9) hx hb hT iX5 hown hK hP 20 rfl rfl 8 (by decide) (hT _ t_363) (fun _ h9 => h9) rfl dX5_run_184 ?_
                  refine lv_iload hx hb dX5_run_187 (lv_at hl 5 rfl) ?_
                  refine lv_iconst (v := 1) hx hb dX5_run_189 (by decide) ?_
                  refine lv_isub hx hb dX5_run_190 ?_
                  refine lv_topi (fun v_31 ev_31 => ?_)
                  have hv_31 : v_31.toInt = x1_4.toInt - 1 := by rw [ev_31]; have := b_rg x1_4; exact i_sub (a := x1_4.toInt) (b := 1) rfl rfl (by omega) (by omega)
                  refine lv_iload hx hb dX5_run_191 (lv_at hl 0 rfl) ?_
                  refine lv_if_eq (tgt := 200) hx hb dX5_run_193 (by decide) (fun c_32 => absurd c_32 (by decide)) (fun c_32 => ?_)
                  refine lv_iconst (v := 0) hx hb dX5_run_196 (by decide) ?_
                  refine lv_goto (tgt := 201) hx hb dX5_run_197 (by decide) ?_
                  refine va_iast hx hb hK hP hD hS 27 0 rfl rfl (vp_inI (by omega) (by omega)) dX5_run_201 (fun H locs hP hD hS => ?_)
                  rw [zS27] at hP hD
                  have hRr : yRr (va_up r1 27 (upd (r1 27) v_31.toNatClampNeg 0)) := Yr_upd hRr 27 (v_31.toNatClampNeg) 0 (b_rg _)
                  have hEr : mEr [27] _ (va_up r1 27 (upd (r1 27) v_31.toNatClampNeg 0)) := Er_up hEr 27 _ (by decide)
                  refine lv_goto (tgt := 232) hx hb dX5_run_202 (by decide) ?_
                  refine lv_goto (tgt := 302) hx hb dX5_run_232 (by decide) ?_
                  obtain ⟨x_33, ex_33⟩ : ∃ y : Int32, y = x1_6 + 1 := ⟨_, rfl⟩
                  refine lv_iinc (v := x_33) (lv' := [(6, .int x_33), (9, .int 1), (5, .int x_13), (8, .int v_12), (7, .int v_11), (4, .int x1_4), (0, .ref (a 20)), (1, .int p0), (2, .int p1), (3, .ref (a 28))]) hx hb dX5_run_302 hl (k := 4) rfl (by rw [ex_33]; rfl) (by decide) rfl (fun ls hl => ?_)
                  have hx_33 : x_33.toInt = x1_6.toInt + 1 := by rw [ex_33]; have := b_rg x1_6; exact i_add (a := x1_6.toInt) (b := 1) rfl rfl (by omega) (by omega)
                  refine lv_goto (tgt := 9) hx hb dX5_run_305 (by decide) ?_
                  have hl1 : (r1 27) v_23.toNatClampNeg = 1 := (rL_bool hX9 hLI9 hKt (by omega) (by omega) (show ((v_23.toInt.toNat : Nat) : Int) + 1 = x1_4.toInt by omega)).resolve_left (fun h9 => by have h8 : v_24.toInt = 0 := (by rw [ev_24]; exact congrArg Int32.toInt h9); omega)
                  have hnj : v_31.toNatClampNeg = v_23.toNatClampNeg := by show v_31.toInt.toNat = v_23.toInt.toNat; omega
                  have hLn := rL_not (x := 0) (j := v_31.toNatClampNeg) hX9 hLI9 hKt hop (show ((v_31.toInt.toNat : Nat) : Int) + 1 = x1_4.toInt by omega) (by rw [hnj, hl1]; rfl)
                  rw [show K + 1 = x_13.toInt.toNat by omega] at hLn
                  exact ih1 x_33 x_13 x1_4 (va_up r1 27 (upd (r1 27) v_31.toNatClampNeg 0)) _ _ _ (by first | omega | (simp only [Int.toNat]; omega)) (by first | omega | decide) (by first | omega | decide) (by first | omega | decide) hRr hEr ⟨⟨by omega, by omega, by omega⟩, hLn⟩ hP hD hS (lv_sub hl [0, 2, 5, 6, 7, 8, 9] rfl)
              · have c_21 : v_11.toInt ≠ 33 := b_ne c_21
                refine lv_iload hx hb dX5_run_135 (lv_at hl 2 rfl) ?_
                refine lv_bipush (v := 124) hx hb dX5_run_137 (by decide) ?_
                refine lv_icmp_eq (tgt := 149) hx hb dX5_run_139 (by decide) (fun c_34 => ?_) (fun c_34 => ?_)
                · have c_34 : v_11.toInt = 124 := b_eq c_34
                  have hop : cOp (c9 K) = 12 := (qSg_of hor).2.2.2.2.2.2.2.2.2.2.2.2.mp (by omega)
                  have hg1K : 1 ≤ g K := by omega
                  refine lv_iload hx hb dX5_run_149 (lv_at hl 4 rfl) ?_
                  refine lv_iconst (v := 1) hx hb dX5_run_151 (by decide) ?_
                  refine lv_icmp_ge (tgt := 157) hx hb dX5_run_152 (by decide) (fun c_35 => ?_) (fun c_35 => by have c_35 : x1_4.toInt < 1 := b_nle c_35; omega)
                  have c_35 : 1 ≤ x1_4.toInt := b_le c_35
                  refine lv_aload_n hx hb dX5_run_157 rfl (lv_at hl 5 rfl) ?_
                  refine va_get (D := D) (ci := 5) (v := .ref (a 27)) (C := RX5) (T := TX5) (N := 9) hx hb hT iX5 hown hK hP 20 rfl rfl 8 (by decide) (hT _ t_363) (fun _ h9 => h9) rfl dX5_run_158 ?_
                  refine lv_iload hx hb dX5_run_161 (lv_at hl 4 rfl) ?_
                  refine lv_iconst (v := 1) hx hb dX5_run_163 (by decide) ?_
                  refine lv_isub hx hb dX5_run_164 ?_
                  refine lv_topi (fun v_36 ev_36 => ?_)
                  have hv_36 : v_36.toInt = x1_4.toInt - 1 := by rw [ev_36]; have := b_rg x1_4; exact i_sub (a := x1_4.toInt) (b := 1) rfl rfl (by omega) (by omega)
                  refine va_iald hx hb hK hP 27 0 rfl rfl (vp_inI (by omega) (by omega)) dX5_run_165 ?_
                  refine lv_topi (fun v_37 ev_37 => ?_)
                  refine lv_if_eq (tgt := 173) hx hb dX5_run_166 (by decide) (fun c_38 => ?_) (fun c_38 => ?_)
                  · have c_38 : v_37.toInt = 0 := b_eq c_38
                    refine lv_iconst (v := 0) hx hb dX5_run_173 (by decide) ?_
                    refine lv_istore (lv' := [(9, .int 0), (5, .int x_13), (8, .int v_12), (7, .int v_11), (6, .int x1_6), (4, .int x1_4), (0, .ref (a 20)), (1, .int p0), (2, .int p1), (3, .ref (a 28))]) hx hb dX5_run_174 hl (by decide) rfl (fun ls hl => ?_)
                    refine lv_iload hx hb dX5_run_176 (lv_at hl 3 rfl) ?_
                    refine lv_bipush (v := 33) hx hb dX5_run_178 (by decide) ?_
                    refine lv_icmp_ne (tgt := 205) hx hb dX5_run_180 (by decide) (fun c_39 => ?_) (fun c_39 => by have c_39 : v_11.toInt = 33 := b_nne c_39; omega)
                    have c_39 : v_11.toInt ≠ 33 := b_ne c_39
                    refine lv_iload hx hb dX5_run_205 (lv_at hl 0 rfl) ?_
                    refine lv_iload hx hb dX5_run_207 (lv_at hl 3 rfl) ?_
                    refine lv_bipush (v := 124) hx hb dX5_run_209 (by decide) ?_
                    refine lv_icmp_ne (tgt := 218) hx hb dX5_run_211 (by decide) (fun c_40 => by have c_40 : v_11.toInt ≠ 124 := b_ne c_40; omega) (fun c_40 => ?_)
                    have c_40 : v_11.toInt = 124 := b_nne c_40
                    refine lv_iconst (v := 1) hx hb dX5_run_214 (by decide) ?_
                    refine lv_goto (tgt := 219) hx hb dX5_run_215 (by decide) ?_
                    refine lv_icmp_ne (tgt := 229) hx hb dX5_run_219 (by decide) (fun c_41 => ?_) (fun c_41 => absurd c_41 (by decide))
                    obtain ⟨x_42, ex_42⟩ : ∃ y : Int32, y = x1_4 + (-1) := ⟨_, rfl⟩
                    refine lv_iinc (v := x_42) (lv' := [(4, .int x_42), (9, .int 0), (5, .int x_13), (8, .int v_12), (7, .int v_11), (6, .int x1_6), (0, .ref (a 20)), (1, .int p0), (2, .int p1), (3, .ref (a 28))]) hx hb dX5_run_229 hl (k := 5) rfl (by rw [ex_42]; rfl) (by decide) rfl (fun ls hl => ?_)
                    have hx_42 : x_42.toInt = x1_4.toInt + (-1) := by rw [ex_42]; have := b_rg x1_4; exact i_add (a := x1_4.toInt) (b := (-1)) rfl rfl (by omega) (by omega)
                    refine lv_goto (tgt := 302) hx hb dX5_run_232 (by decide) ?_
                    obtain ⟨x_43, ex_43⟩ : ∃ y : Int32, y = x1_6 + 1 := ⟨_, rfl⟩
                    refine lv_iinc (v := x_43) (lv' := [(6, .int x_43), (4, .int x_42), (9, .int 0), (5, .int x_13), (8, .int v_12), (7, .int v_11), (0, .ref (a 20)), (1, .int p0), (2, .int p1), (3, .ref (a 28))]) hx hb dX5_run_302 hl (k := 5) rfl (by rw [ex_43]; rfl) (by decide) rfl (fun ls hl => ?_)
                    have hx_43 : x_43.toInt = x1_6.toInt + 1 := by rw [ex_43]; have := b_rg x1_6; exact i_add (a := x1_6.toInt) (b := 1) rfl rfl (by omega) (by omega)
                    refine lv_goto (tgt := 9) hx hb dX5_run_305 (by decide) ?_
                    have hl0 : (r1 27) v_36.toNatClampNeg = 0 := by rw [← ev_37]; exact Int32.toInt_inj.mp (show v_37.toInt = 0 by omega)
                    have hLn := rL_pop (j := v_36.toNatClampNeg) hX9 hLI9 hKt (Or.inr ⟨hop, by rw [hl0]; decide⟩) (show ((v_36.toInt.toNat : Nat) : Int) + 1 = x1_4.toInt by omega)
                    rw [show K + 1 = x_13.toInt.toNat by omega, show x1_4.toInt - 1 = x_42.toInt by omega] at hLn
                    exact ih1 x_43 x_13 x_42 r1 _ _ _ (by first | omega | (simp only [Int.toNat]; omega)) (by first | omega | decide) (by first | omega | decide) (by first | omega | decide) hRr hEr ⟨⟨by omega, by omega, by omega⟩, hLn⟩ hP hD hS (lv_sub hl [0, 3, 1, 6, 7, 8, 9] rfl)
                  · have c_38 : v_37.toInt ≠ 0 := b_ne c_38
                    refine lv_iconst (v := 1) hx hb dX5_run_169 (by decide) ?_
                    refine lv_goto (tgt := 174) hx hb dX5_run_170 (by decide) ?_
                    refine lv_istore (lv' := [(9, .int 1), (5, .int x_13), (8, .int v_12), (7, .int v_11), (6, .int x1_6), (4, .int x1_4), (0, .ref (a 20)), (1, .int p0), (2, .int p1), (3, .ref (a 28))]) hx hb dX5_run_174 hl (by decide) rfl (fun ls hl => ?_)
                    refine lv_iload hx hb dX5_run_176 (lv_at hl 3 rfl) ?_
                    refine lv_bipush (v := 33) hx hb dX5_run_178 (by decide) ?_
                    refine lv_icmp_ne (tgt := 205) hx hb dX5_run_180 (by decide) (fun c_44 => ?_) (fun c_44 => by have c_44 : v_11.toInt = 33 := b_nne c_44; omega)
                    have c_44 : v_11.toInt ≠ 33 := b_ne c_44
                    refine lv_iload hx hb dX5_run_205 (lv_at hl 0 rfl) ?_
                    refine lv_iload hx hb dX5_run_207 (lv_at hl 3 rfl) ?_
                    refine lv_bipush (v := 124) hx hb dX5_run_209 (by decide) ?_
                    refine lv_icmp_ne (tgt := 218) hx hb dX5_run_211 (by decide) (fun c_45 => by have c_45 : v_11.toInt ≠ 124 := b_ne c_45; omega) (fun c_45 => ?_)
                    have c_45 : v_11.toInt = 124 := b_nne c_45
                    refine lv_iconst (v := 1) hx hb dX5_run_214 (by decide) ?_
                    refine lv_goto (tgt := 219) hx hb dX5_run_215 (by decide) ?_
                    refine lv_icmp_ne (tgt := 229) hx hb dX5_run_219 (by decide) (fun c_46 => absurd (by decide) c_46) (fun c_46 => ?_)
                    refine lv_iload hx hb dX5_run_222 (lv_at hl 2 rfl) ?_
                    refine lv_istore (lv' := [(5, .int v_12), (9, .int 1), (8, .int v_12), (7, .int v_11), (6, .int x1_6), (4, .int x1_4), (0, .ref (a 20)), (1, .int p0), (2, .int p1), (3, .ref (a 28))]) hx hb dX5_run_224 hl (by decide) rfl (fun ls hl => ?_)
                    refine lv_goto (tgt := 232) hx hb dX5_run_226 (by decide) ?_
                    refine lv_goto (tgt := 302) hx hb dX5_run_232 (by decide) ?_
                    obtain ⟨x_47, ex_47⟩ : ∃ y : Int32, y = x1_6 + 1 := ⟨_, rfl⟩
                    refine lv_iinc (v := x_47) (lv' := [(6, .int x_47), (5, .int v_12), (9, .int 1), (8, .int v_12), (7, .int v_11), (4, .int x1_4), (0, .ref (a 20)), (1, .int p0), (2, .int p1), (3, .ref (a 28))]) hx hb dX5_run_302 hl (k := 4) rfl (by rw [ex_47]; rfl) (by decide) rfl (fun ls hl => ?_)
                    have hx_47 : x_47.toInt = x1_6.toInt + 1 := by rw [ex_47]; have := b_rg x1_6; exact i_add (a := x1_6.toInt) (b := 1) rfl rfl (by omega) (by omega)
                    refine lv_goto (tgt := 9) hx hb dX5_run_305 (by decide) ?_
                    have hl1 : (r1 27) v_36.toNatClampNeg = 1 := (rL_bool hX9 hLI9 hKt (by omega) (by omega) (show ((v_36.toInt.toNat : Nat) : Int) + 1 = x1_4.toInt by omega)).resolve_left (fun h9 => by have h8 : v_37.toInt = 0 := (by rw [ev_37]; exact congrArg Int32.toInt h9); omega)
                    have hLn := rL_jmp (j := v_36.toNatClampNeg) hX9 hLI9 hKt (Or.inr ⟨hop, hl1⟩) (show ((v_36.toInt.toNat : Nat) : Int) + 1 = x1_4.toInt by omega)
                    rw [show (cV (c9 K)).toNat = v_12.toInt.toNat by omega] at hLn
                    exact ih1 x_47 v_12 x1_4 r1 _ _ _ (by first | omega | (simp only [Int.toNat]; omega)) (by first | omega | decide) (by first | omega | decide) (by first | omega | decide) hRr hEr ⟨⟨by omega, by omega, by omega⟩, hLn⟩ hP hD hS (lv_sub hl [0, 1, 5, 6, 7, 8, 9] rfl)
                · have c_34 : v_11.toInt ≠ 124 := b_ne c_34
                  refine lv_iload hx hb dX5_run_142 (lv_at hl 2 rfl) ?_
                  refine lv_bipush (v := 38) hx hb dX5_run_144 (by decide) ?_
                  refine lv_icmp_ne (tgt := 235) hx hb dX5_run_146 (by decide) (fun c_48 => ?_) (fun c_48 => ?_)
                  · have c_48 : v_11.toInt ≠ 38 := b_ne c_48
                    have hb0 : cOp (c9 K) ≠ 0 := fun h9 => by have h8 := (qSg_of hor).1.mpr h9; omega
                    have hb1 : cOp (c9 K) ≠ 1 := fun h9 => by have h8 := (qSg_of hor).2.1.mpr h9; omega
                    have hb10 : cOp (c9 K) ≠ 10 := fun h9 => by have h8 := (qSg_of hor).2.2.2.2.2.2.2.2.2.2.1.mpr h9; omega
                    have hb11 : cOp (c9 K) ≠ 11 := fun h9 => by have h8 := (qSg_of hor).2.2.2.2.2.2.2.2.2.2.2.1.mpr h9; omega
                    have hb12 : cOp (c9 K) ≠ 12 := fun h9 => by have h8 := (qSg_of hor).2.2.2.2.2.2.2.2.2.2.2.2.mpr h9; omega
                    have hbb : rBin (cOp (c9 K)) := ⟨hb0, hb1, hb10, hb11, hb12⟩
                    have hb29 := rB_of hbb hor
                    have hg2K : 2 ≤ g K := by omega
                    refine lv_iload hx hb dX5_run_235 (lv_at hl 4 rfl) ?_
                    refine lv_iconst (v := 2) hx hb dX5_run_237 (by decide) ?_
                    refine lv_icmp_lt (tgt := 267) hx hb dX5_run_238 (by decide) (fun c_49 => by have c_49 : x1_4.toInt < 2 := b_lt c_49; omega) (fun c_49 => ?_)
                    have c_49 : 2 ≤ x1_4.toInt := b_nlt c_49
                    refine lv_iload hx hb dX5_run_241 (lv_at hl 2 rfl) ?_
                    refine lv_bipush (v := 47) hx hb dX5_run_243 (by decide) ?_
                    refine lv_icmp_eq (tgt := 255) hx hb dX5_run_245 (by decide) (fun c_50 => ?_) (fun c_50 => ?_)
                    · have c_50 : v_11.toInt = 47 := b_eq c_50
                      have hop : cOp (c9 K) = 5 := (qSg_of hor).2.2.2.2.2.1.mp (by omega)
                      refine lv_aload_n hx hb dX5_run_255 rfl (lv_at hl 5 rfl) ?_
                      refine va_get (D := D) (ci := 5) (v := .ref (a 27)) (C := RX5) (T := TX5) (N := 9) hx hb hT iX5 hown hK hP 20 rfl rfl 8 (by decide) (hT _ t_363) (fun _ h9 => h9) rfl dX5_run_256 ?_
                      refine lv_iload hx hb dX5_run_259 (lv_at hl 4 rfl) ?_
                      refine lv_iconst (v := 1) hx hb dX5_run_261 (by decide) ?_
                      refine lv_isub hx hb dX5_run_262 ?_
                      refine lv_topi (fun v_51 ev_51 => ?_)
                      have hv_51 : v_51.toInt = x1_4.toInt - 1 := by rw [ev_51]; have := b_rg x1_4; exact i_sub (a := x1_4.toInt) (b := 1) rfl rfl (by omega) (by omega)
                      refine va_iald hx hb hK hP 27 0 rfl rfl (vp_inI (by omega) (by omega)) dX5_run_263 ?_
                      refine lv_topi (fun v_52 ev_52 => ?_)
                      refine lv_if_ne (tgt := 269) hx hb dX5_run_264 (by decide) (fun c_53 => ?_) (fun c_53 => ?_)
                      · have c_53 : v_52.toInt ≠ 0 := b_ne c_53
                        obtain ⟨x_54, ex_54⟩ : ∃ y : Int32, y = x1_4 + (-1) := ⟨_, rfl⟩
                        refine lv_iinc (v := x_54) (lv' := [(4, .int x_54), (5, .int x_13), (8, .int v_12), (7, .int v_11), (6, .int x1_6), (0, .ref (a 20)), (1, .int p0), (2, .int p1), (3, .ref (a 28))]) hx hb dX5_run_269 hl (k := 4) rfl (by rw [ex_54]; rfl) (by decide) rfl (fun ls hl => ?_)
                        have hx_54 : x_54.toInt = x1_4.toInt + (-1) := by rw [ex_54]; have := b_rg x1_4; exact i_add (a := x1_4.toInt) (b := (-1)) rfl rfl (by omega) (by omega)
                        refine lv_aload_n hx hb dX5_run_272 rfl (lv_at hl 5 rfl) ?_
                        refine va_get (D := D) (ci := 5) (v := .ref (a 27)) (C := RX5) (T := TX5) (N := 9) hx hb hT iX5 hown hK hP 20 rfl rfl 8 (by decide) (hT _ t_363) (fun _ h9 => h9) rfl dX5_run_273 ?_
                        refine lv_iload hx hb dX5_run_276 (lv_at hl 0 rfl) ?_
                        refine lv_iconst (v := 1) hx hb dX5_run_278 (by decide) ?_
                        refine lv_isub hx hb dX5_run_279 ?_
                        refine lv_topi (fun v_55 ev_55 => ?_)
                        have hv_55 : v_55.toInt = x_54.toInt - 1 := by rw [ev_55]; have := b_rg x_54; exact i_sub (a := x_54.toInt) (b := 1) rfl rfl (by omega) (by omega)
                        refine lv_iload hx hb dX5_run_280 (lv_at hl 3 rfl) ?_
                        refine lv_aload_n hx hb dX5_run_282 rfl (lv_at hl 5 rfl) ?_
                        refine va_get (D := D) (ci := 5) (v := .ref (a 27)) (C := RX5) (T := TX5) (N := 9) hx hb hT iX5 hown hK hP 20 rfl rfl 8 (by decide) (hT _ t_363) (fun _ h9 => h9) rfl dX5_run_283 ?_
                        refine lv_iload hx hb dX5_run_286 (lv_at hl 0 rfl) ?_
                        refine lv_iconst (v := 1) hx hb dX5_run_288 (by decide) ?_
                        refine lv_isub hx hb dX5_run_289 ?_
                        refine lv_topi (fun v_56 ev_56 => ?_)
                        have hv_56 : v_56.toInt = x_54.toInt - 1 := by rw [ev_56]; have := b_rg x_54; exact i_sub (a := x_54.toInt) (b := 1) rfl rfl (by omega) (by omega)
                        refine va_iald hx hb hK hP 27 0 rfl rfl (vp_inI (by omega) (by omega)) dX5_run_290 ?_
                        refine lv_topi (fun v_57 ev_57 => ?_)
                        refine lv_aload_n hx hb dX5_run_291 rfl (lv_at hl 5 rfl) ?_
                        refine va_get (D := D) (ci := 5) (v := .ref (a 27)) (C := RX5) (T := TX5) (N := 9) hx hb hT iX5 hown hK hP 20 rfl rfl 8 (by decide) (hT _ t_363) (fun _ h9 => h9) rfl dX5_run_292 ?_
                        refine lv_iload hx hb dX5_run_295 (lv_at hl 0 rfl) ?_
                        refine va_iald hx hb hK hP 27 0 rfl rfl (vp_inI (by omega) (by omega)) dX5_run_297 ?_
                        refine lv_topi (fun v_58 ev_58 => ?_)
                        have hnz9 : v_58.toInt ≠ 0 := by have h8 : v_58 = v_52 := (by rw [ev_58, ev_52]; exact congrArg (r1 27) (by show x_54.toInt.toNat = v_51.toInt.toNat; omega)); rw [h8]; omega
                        refine vp_callSi (W.runS (As := [.int v_11, .int v_57, .int v_58]) (rest := [.int v_55, .ref (a 27)]) ⟨hx, hb, hml, hown, hT⟩ (c_X5_combine9 l v_11 v_57 v_58 (cOp (c9 K)) (hsg.trans rfl) hb29 (by first | exact fun h8 => h8.elim (fun h7 => absurd h7 (by omega)) (fun h7 => absurd h7 (by omega)) | exact fun _ => hnz9)) (va_cwS 3 hT (gS t_366 t_368 t_369 t_367) rfl rfl rfl (by decide +kernel) ⟨Nat.le_of_ble_eq_true rfl, Nat.le_of_ble_eq_true rfl⟩) preT rfl rfl hl.1 rfl (lv_room (Nat.le_of_ble_eq_true rfl)) dX5_run_298 ⟨Nat.le_of_ble_eq_true rfl, Nat.le_of_ble_eq_true rfl⟩) (fun r_59 hr_59 => ?_)
                        refine va_iast hx hb hK hP hD hS 27 0 rfl rfl (vp_inI (by omega) (by omega)) dX5_run_301 (fun H locs hP hD hS => ?_)
                        rw [zS27] at hP hD
                        have hRr : yRr (va_up r1 27 (upd (r1 27) v_55.toNatClampNeg r_59)) := Yr_upd hRr 27 (v_55.toNatClampNeg) r_59 (b_rg _)
                        have hEr : mEr [27] _ (va_up r1 27 (upd (r1 27) v_55.toNatClampNeg r_59)) := Er_up hEr 27 _ (by decide)
                        obtain ⟨x_60, ex_60⟩ : ∃ y : Int32, y = x1_6 + 1 := ⟨_, rfl⟩
                        refine lv_iinc (v := x_60) (lv' := [(6, .int x_60), (4, .int x_54), (5, .int x_13), (8, .int v_12), (7, .int v_11), (0, .ref (a 20)), (1, .int p0), (2, .int p1), (3, .ref (a 28))]) hx hb dX5_run_302 hl (k := 4) rfl (by rw [ex_60]; rfl) (by decide) rfl (fun ls hl => ?_)
                        have hx_60 : x_60.toInt = x1_6.toInt + 1 := by rw [ex_60]; have := b_rg x1_6; exact i_add (a := x1_6.toInt) (b := 1) rfl rfl (by omega) (by omega)
                        refine lv_goto (tgt := 9) hx hb dX5_run_305 (by decide) ?_
                        have hxv : v_57 = (r1 27) v_55.toNatClampNeg := by rw [ev_57]; exact congrArg (r1 27) (by show v_56.toInt.toNat = v_55.toInt.toNat; omega)
                        have hex : r_59 = rK (cOp (c9 K)) ((r1 27) v_55.toNatClampNeg) ((r1 27) x_54.toNatClampNeg) := by rw [hr_59, hxv, ev_58]
                        have hz9 : ¬ ((cOp (c9 K) = 5 ∨ cOp (c9 K) = 6) ∧ (r1 27) x_54.toNatClampNeg = 0) := fun h9 => by
                          have h8 : v_52.toInt = 0 := by rw [ev_52]; exact congrArg Int32.toInt ((congrArg (r1 27) (by show v_51.toInt.toNat = x_54.toInt.toNat; omega)).trans h9.2)
                          omega
                        have hLn := rL_bin (x := r_59) (j := x_54.toNatClampNeg) (j2 := v_55.toNatClampNeg) hX9 hLI9 hKt hbb (show ((x_54.toInt.toNat : Nat) : Int) + 1 = x1_4.toInt by omega) (show ((v_55.toInt.toNat : Nat) : Int) + 2 = x1_4.toInt by omega) hz9 hex
                        rw [show K + 1 = x_13.toInt.toNat by omega, show x1_4.toInt - 1 = x_54.toInt by omega] at hLn
                        exact ih1 x_60 x_13 x_54 (va_up r1 27 (upd (r1 27) v_55.toNatClampNeg r_59)) _ _ _ (by first | omega | (simp only [Int.toNat]; omega)) (by first | omega | decide) (by first | omega | decide) (by first | omega | decide) hRr hEr ⟨⟨by omega, by omega, by omega⟩, hLn⟩ hP hD hS (lv_sub hl [0, 2, 1, 5, 6, 7, 8] rfl)
                      · have c_53 : v_52.toInt = 0 := b_nne c_53
                        refine lv_iconst (v := 0) hx hb dX5_run_267 (by decide) ?_
                        subst hQ
                        have hl0 : (r1 27) v_51.toNatClampNeg = 0 := by rw [← ev_52]; exact Int32.toInt_inj.mp (show v_52.toInt = 0 by omega)
                        exact W.iret (v := 0) hx hb hr (fun t ht hW => ⟨⟨_, r1, rfl, ⟨hRr, hEr, (rL_dz (j := v_51.toNatClampNeg) hX9 hLI9 hKt (by omega) (show ((v_51.toInt.toNat : Nat) : Int) + 1 = x1_4.toInt by omega) hl0)⟩, by rw [ht]; exact hP, va_K.moved hW.alike hK, hD⟩, hS.F ht⟩) hS.2.2 dX5_run_268
                    · have c_50 : v_11.toInt ≠ 47 := b_ne c_50
                      refine lv_iload hx hb dX5_run_248 (lv_at hl 2 rfl) ?_
                      refine lv_bipush (v := 37) hx hb dX5_run_250 (by decide) ?_
                      refine lv_icmp_ne (tgt := 269) hx hb dX5_run_252 (by decide) (fun c_61 => ?_) (fun c_61 => ?_)
                      · have c_61 : v_11.toInt ≠ 37 := b_ne c_61
                        have hnd : cOp (c9 K) ≠ 5 ∧ cOp (c9 K) ≠ 6 := ⟨fun h9 => by have h8 := (qSg_of hor).2.2.2.2.2.1.mpr h9; omega, fun h9 => by have h8 := (qSg_of hor).2.2.2.2.2.2.1.mpr h9; omega⟩
                        have hd5 := hnd.1
                        have hd6 := hnd.2
                        obtain ⟨x_62, ex_62⟩ : ∃ y : Int32, y = x1_4 + (-1) := ⟨_, rfl⟩
                        refine lv_iinc (v := x_62) (lv' := [(4, .int x_62), (5, .int x_13), (8, .int v_12), (7, .int v_11), (6, .int x1_6), (0, .ref (a 20)), (1, .int p0), (2, .int p1), (3, .ref (a 28))]) hx hb dX5_run_269 hl (k := 4) rfl (by rw [ex_62]; rfl) (by decide) rfl (fun ls hl => ?_)
                        have hx_62 : x_62.toInt = x1_4.toInt + (-1) := by rw [ex_62]; have := b_rg x1_4; exact i_add (a := x1_4.toInt) (b := (-1)) rfl rfl (by omega) (by omega)
                        refine lv_aload_n hx hb dX5_run_272 rfl (lv_at hl 5 rfl) ?_
                        refine va_get (D := D) (ci := 5) (v := .ref (a 27)) (C := RX5) (T := TX5) (N := 9) hx hb hT iX5 hown hK hP 20 rfl rfl 8 (by decide) (hT _ t_363) (fun _ h9 => h9) rfl dX5_run_273 ?_
                        refine lv_iload hx hb dX5_run_276 (lv_at hl 0 rfl) ?_
                        refine lv_iconst (v := 1) hx hb dX5_run_278 (by decide) ?_
                        refine lv_isub hx hb dX5_run_279 ?_
                        refine lv_topi (fun v_63 ev_63 => ?_)
                        have hv_63 : v_63.toInt = x_62.toInt - 1 := by rw [ev_63]; have := b_rg x_62; exact i_sub (a := x_62.toInt) (b := 1) rfl rfl (by omega) (by omega)
                        refine lv_iload hx hb dX5_run_280 (lv_at hl 3 rfl) ?_
                        refine lv_aload_n hx hb dX5_run_282 rfl (lv_at hl 5 rfl) ?_
                        refine va_get (D := D) (ci := 5) (v := .ref (a 27)) (C := RX5) (T := TX5) (N := 9) hx hb hT iX5 hown hK hP 20 rfl rfl 8 (by decide) (hT _ t_363) (fun _ h9 => h9) rfl dX5_run_283 ?_
                        refine lv_iload hx hb dX5_run_286 (lv_at hl 0 rfl) ?_
                        refine lv_iconst (v := 1) hx hb dX5_run_288 (by decide) ?_
                        refine lv_isub hx hb dX5_run_289 ?_
                        refine lv_topi (fun v_64 ev_64 => ?_)
                        have hv_64 : v_64.toInt = x_62.toInt - 1 := by rw [ev_64]; have := b_rg x_62; exact i_sub (a := x_62.toInt) (b := 1) rfl rfl (by omega) (by omega)
                        refine va_iald hx hb hK hP 27 0 rfl rfl (vp_inI (by omega) (by omega)) dX5_run_290 ?_
                        refine lv_topi (fun v_65 ev_65 => ?_)
                        refine lv_aload_n hx hb dX5_run_291 rfl (lv_at hl 5 rfl) ?_
                        refine va_get (D := D) (ci := 5) (v := .ref (a 27)) (C := RX5) (T := TX5) (N := 9) hx hb hT iX5 hown hK hP 20 rfl rfl 8 (by decide) (hT _ t_363) (fun _ h9 => h9) rfl dX5_run_292 ?_
                        refine lv_iload hx hb dX5_run_295 (lv_at hl 0 rfl) ?_
                        refine va_iald hx hb hK hP 27 0 rfl rfl (vp_inI (by omega) (by omega)) dX5_run_297 ?_
                        refine lv_topi (fun v_66 ev_66 => ?_)
                        refine vp_callSi (W.runS (As := [.int v_11, .int v_65, .int v_66]) (rest := [.int v_63, .ref (a 27)]) ⟨hx, hb, hml, hown, hT⟩ (c_X5_combine9 l v_11 v_65 v_66 (cOp (c9 K)) (hsg.trans rfl) hb29 (by first | exact fun h8 => h8.elim (fun h7 => absurd h7 (by omega)) (fun h7 => absurd h7 (by omega)) | exact fun _ => hnz9)) (va_cwS 3 hT (gS t_366 t_368 t_369 t_367) rfl rfl rfl (by decide +kernel) ⟨Nat.le_of_ble_eq_true rfl, Nat.le_of_ble_eq_true rfl⟩) preT rfl rfl hl.1 rfl (lv_room (Nat.le_of_ble_eq_true rfl)) dX5_run_298 ⟨Nat.le_of_ble_eq_true rfl, Nat.le_of_ble_eq_true rfl⟩) (fun r_67 hr_67 => ?_)
                        refine va_iast hx hb hK hP hD hS 27 0 rfl rfl (vp_inI (by omega) (by omega)) dX5_run_301 (fun H locs hP hD hS => ?_)
                        rw [zS27] at hP hD
                        have hRr : yRr (va_up r1 27 (upd (r1 27) v_63.toNatClampNeg r_67)) := Yr_upd hRr 27 (v_63.toNatClampNeg) r_67 (b_rg _)
                        have hEr : mEr [27] _ (va_up r1 27 (upd (r1 27) v_63.toNatClampNeg r_67)) := Er_up hEr 27 _ (by decide)
                        obtain ⟨x_68, ex_68⟩ : ∃ y : Int32, y = x1_6 + 1 := ⟨_, rfl⟩
                        refine lv_iinc (v := x_68) (lv' := [(6, .int x_68), (4, .int x_62), (5, .int x_13), (8, .int v_12), (7, .int v_11), (0, .ref (a 20)), (1, .int p0), (2, .int p1), (3, .ref (a 28))]) hx hb dX5_run_302 hl (k := 4) rfl (by rw [ex_68]; rfl) (by decide) rfl (fun ls hl => ?_)
                        have hx_68 : x_68.toInt = x1_6.toInt + 1 := by rw [ex_68]; have := b_rg x1_6; exact i_add (a := x1_6.toInt) (b := 1) rfl rfl (by omega) (by omega)
                        refine lv_goto (tgt := 9) hx hb dX5_run_305 (by decide) ?_
                        have hxv : v_65 = (r1 27) v_63.toNatClampNeg := by rw [ev_65]; exact congrArg (r1 27) (by show v_64.toInt.toNat = v_63.toInt.toNat; omega)
                        have hex : r_67 = rK (cOp (c9 K)) ((r1 27) v_63.toNatClampNeg) ((r1 27) x_62.toNatClampNeg) := by rw [hr_67, hxv, ev_66]
                        have hz9 : ¬ ((cOp (c9 K) = 5 ∨ cOp (c9 K) = 6) ∧ (r1 27) x_62.toNatClampNeg = 0) := fun h9 => by
                          have h8 := h9.1
                          omega
                        have hLn := rL_bin (x := r_67) (j := x_62.toNatClampNeg) (j2 := v_63.toNatClampNeg) hX9 hLI9 hKt hbb (show ((x_62.toInt.toNat : Nat) : Int) + 1 = x1_4.toInt by omega) (show ((v_63.toInt.toNat : Nat) : Int) + 2 = x1_4.toInt by omega) hz9 hex
                        rw [show K + 1 = x_13.toInt.toNat by omega, show x1_4.toInt - 1 = x_62.toInt by omega] at hLn
                        exact ih1 x_68 x_13 x_62 (va_up r1 27 (upd (r1 27) v_63.toNatClampNeg r_67)) _ _ _ (by first | omega | (simp only [Int.toNat]; omega)) (by first | omega | decide) (by first | omega | decide) (by first | omega | decide) hRr hEr ⟨⟨by omega, by omega, by omega⟩, hLn⟩ hP hD hS (lv_sub hl [0, 2, 1, 5, 6, 7, 8] rfl)
                      · have c_61 : v_11.toInt = 37 := b_nne c_61
                        have hop : cOp (c9 K) = 6 := (qSg_of hor).2.2.2.2.2.2.1.mp (by omega)
                        refine lv_aload_n hx hb dX5_run_255 rfl (lv_at hl 5 rfl) ?_
                        refine va_get (D := D) (ci := 5) (v := .ref (a 27)) (C := RX5) (T := TX5) (N := 9) hx hb hT iX5 hown hK hP 20 rfl rfl 8 (by decide) (hT _ t_363) (fun _ h9 => h9) rfl dX5_run_256 ?_
                        refine lv_iload hx hb dX5_run_259 (lv_at hl 4 rfl) ?_
                        refine lv_iconst (v := 1) hx hb dX5_run_261 (by decide) ?_
                        refine lv_isub hx hb dX5_run_262 ?_
                        refine lv_topi (fun v_69 ev_69 => ?_)
                        have hv_69 : v_69.toInt = x1_4.toInt - 1 := by rw [ev_69]; have := b_rg x1_4; exact i_sub (a := x1_4.toInt) (b := 1) rfl rfl (by omega) (by omega)
                        refine va_iald hx hb hK hP 27 0 rfl rfl (vp_inI (by omega) (by omega)) dX5_run_263 ?_
                        refine lv_topi (fun v_70 ev_70 => ?_)
                        refine lv_if_ne (tgt := 269) hx hb dX5_run_264 (by decide) (fun c_71 => ?_) (fun c_71 => ?_)
                        · have c_71 : v_70.toInt ≠ 0 := b_ne c_71
                          obtain ⟨x_72, ex_72⟩ : ∃ y : Int32, y = x1_4 + (-1) := ⟨_, rfl⟩
                          refine lv_iinc (v := x_72) (lv' := [(4, .int x_72), (5, .int x_13), (8, .int v_12), (7, .int v_11), (6, .int x1_6), (0, .ref (a 20)), (1, .int p0), (2, .int p1), (3, .ref (a 28))]) hx hb dX5_run_269 hl (k := 4) rfl (by rw [ex_72]; rfl) (by decide) rfl (fun ls hl => ?_)
                          have hx_72 : x_72.toInt = x1_4.toInt + (-1) := by rw [ex_72]; have := b_rg x1_4; exact i_add (a := x1_4.toInt) (b := (-1)) rfl rfl (by omega) (by omega)
                          refine lv_aload_n hx hb dX5_run_272 rfl (lv_at hl 5 rfl) ?_
                          refine va_get (D := D) (ci := 5) (v := .ref (a 27)) (C := RX5) (T := TX5) (N := 9) hx hb hT iX5 hown hK hP 20 rfl rfl 8 (by decide) (hT _ t_363) (fun _ h9 => h9) rfl dX5_run_273 ?_
                          refine lv_iload hx hb dX5_run_276 (lv_at hl 0 rfl) ?_
                          refine lv_iconst (v := 1) hx hb dX5_run_278 (by decide) ?_
                          refine lv_isub hx hb dX5_run_279 ?_
                          refine lv_topi (fun v_73 ev_73 => ?_)
                          have hv_73 : v_73.toInt = x_72.toInt - 1 := by rw [ev_73]; have := b_rg x_72; exact i_sub (a := x_72.toInt) (b := 1) rfl rfl (by omega) (by omega)
                          refine lv_iload hx hb dX5_run_280 (lv_at hl 3 rfl) ?_
                          refine lv_aload_n hx hb dX5_run_282 rfl (lv_at hl 5 rfl) ?_
                          refine va_get (D := D) (ci := 5) (v := .ref (a 27)) (C := RX5) (T := TX5) (N := 9) hx hb hT iX5 hown hK hP 20 rfl rfl 8 (by decide) (hT _ t_363) (fun _ h9 => h9) rfl dX5_run_283 ?_
                          refine lv_iload hx hb dX5_run_286 (lv_at hl 0 rfl) ?_
                          refine lv_iconst (v := 1) hx hb dX5_run_288 (by decide) ?_
                          refine lv_isub hx hb dX5_run_289 ?_
                          refine lv_topi (fun v_74 ev_74 => ?_)
                          have hv_74 : v_74.toInt = x_72.toInt - 1 := by rw [ev_74]; have := b_rg x_72; exact i_sub (a := x_72.toInt) (b := 1) rfl rfl (by omega) (by omega)
                          refine va_iald hx hb hK hP 27 0 rfl rfl (vp_inI (by omega) (by omega)) dX5_run_290 ?_
                          refine lv_topi (fun v_75 ev_75 => ?_)
                          refine lv_aload_n hx hb dX5_run_291 rfl (lv_at hl 5 rfl) ?_
                          refine va_get (D := D) (ci := 5) (v := .ref (a 27)) (C := RX5) (T := TX5) (N := 9) hx hb hT iX5 hown hK hP 20 rfl rfl 8 (by decide) (hT _ t_363) (fun _ h9 => h9) rfl dX5_run_292 ?_
                          refine lv_iload hx hb dX5_run_295 (lv_at hl 0 rfl) ?_
                          refine va_iald hx hb hK hP 27 0 rfl rfl (vp_inI (by omega) (by omega)) dX5_run_297 ?_
                          refine lv_topi (fun v_76 ev_76 => ?_)
                          have hnz9 : v_76.toInt ≠ 0 := by have h8 : v_76 = v_70 := (by rw [ev_76, ev_70]; exact congrArg (r1 27) (by show x_72.toInt.toNat = v_69.toInt.toNat; omega)); rw [h8]; omega
                          refine vp_callSi (W.runS (As := [.int v_11, .int v_75, .int v_76]) (rest := [.int v_73, .ref (a 27)]) ⟨hx, hb, hml, hown, hT⟩ (c_X5_combine9 l v_11 v_75 v_76 (cOp (c9 K)) (hsg.trans rfl) hb29 (by first | exact fun h8 => h8.elim (fun h7 => absurd h7 (by omega)) (fun h7 => absurd h7 (by omega)) | exact fun _ => hnz9)) (va_cwS 3 hT (gS t_366 t_368 t_369 t_367) rfl rfl rfl (by decide +kernel) ⟨Nat.le_of_ble_eq_true rfl, Nat.le_of_ble_eq_true rfl⟩) preT rfl rfl hl.1 rfl (lv_room (Nat.le_of_ble_eq_true rfl)) dX5_run_298 ⟨Nat.le_of_ble_eq_true rfl, Nat.le_of_ble_eq_true rfl⟩) (fun r_77 hr_77 => ?_)
                          refine va_iast hx hb hK hP hD hS 27 0 rfl rfl (vp_inI (by omega) (by omega)) dX5_run_301 (fun H locs hP hD hS => ?_)
                          rw [zS27] at hP hD
                          have hRr : yRr (va_up r1 27 (upd (r1 27) v_73.toNatClampNeg r_77)) := Yr_upd hRr 27 (v_73.toNatClampNeg) r_77 (b_rg _)
                          have hEr : mEr [27] _ (va_up r1 27 (upd (r1 27) v_73.toNatClampNeg r_77)) := Er_up hEr 27 _ (by decide)
                          obtain ⟨x_78, ex_78⟩ : ∃ y : Int32, y = x1_6 + 1 := ⟨_, rfl⟩
                          refine lv_iinc (v := x_78) (lv' := [(6, .int x_78), (4, .int x_72), (5, .int x_13), (8, .int v_12), (7, .int v_11), (0, .ref (a 20)), (1, .int p0), (2, .int p1), (3, .ref (a 28))]) hx hb dX5_run_302 hl (k := 4) rfl (by rw [ex_78]; rfl) (by decide) rfl (fun ls hl => ?_)
                          have hx_78 : x_78.toInt = x1_6.toInt + 1 := by rw [ex_78]; have := b_rg x1_6; exact i_add (a := x1_6.toInt) (b := 1) rfl rfl (by omega) (by omega)
                          refine lv_goto (tgt := 9) hx hb dX5_run_305 (by decide) ?_
                          have hxv : v_75 = (r1 27) v_73.toNatClampNeg := by rw [ev_75]; exact congrArg (r1 27) (by show v_74.toInt.toNat = v_73.toInt.toNat; omega)
                          have hex : r_77 = rK (cOp (c9 K)) ((r1 27) v_73.toNatClampNeg) ((r1 27) x_72.toNatClampNeg) := by rw [hr_77, hxv, ev_76]
                          have hz9 : ¬ ((cOp (c9 K) = 5 ∨ cOp (c9 K) = 6) ∧ (r1 27) x_72.toNatClampNeg = 0) := fun h9 => by
                            have h8 : v_70.toInt = 0 := by rw [ev_70]; exact congrArg Int32.toInt ((congrArg (r1 27) (by show v_69.toInt.toNat = x_72.toInt.toNat; omega)).trans h9.2)
                            omega
                          have hLn := rL_bin (x := r_77) (j := x_72.toNatClampNeg) (j2 := v_73.toNatClampNeg) hX9 hLI9 hKt hbb (show ((x_72.toInt.toNat : Nat) : Int) + 1 = x1_4.toInt by omega) (show ((v_73.toInt.toNat : Nat) : Int) + 2 = x1_4.toInt by omega) hz9 hex
                          rw [show K + 1 = x_13.toInt.toNat by omega, show x1_4.toInt - 1 = x_72.toInt by omega] at hLn
                          exact ih1 x_78 x_13 x_72 (va_up r1 27 (upd (r1 27) v_73.toNatClampNeg r_77)) _ _ _ (by first | omega | (simp only [Int.toNat]; omega)) (by first | omega | decide) (by first | omega | decide) (by first | omega | decide) hRr hEr ⟨⟨by omega, by omega, by omega⟩, hLn⟩ hP hD hS (lv_sub hl [0, 2, 1, 5, 6, 7, 8] rfl)
                        · have c_71 : v_70.toInt = 0 := b_nne c_71
                          refine lv_iconst (v := 0) hx hb dX5_run_267 (by decide) ?_
                          subst hQ
                          have hl0 : (r1 27) v_69.toNatClampNeg = 0 := by rw [← ev_70]; exact Int32.toInt_inj.mp (show v_70.toInt = 0 by omega)
                          exact W.iret (v := 0) hx hb hr (fun t ht hW => ⟨⟨_, r1, rfl, ⟨hRr, hEr, (rL_dz (j := v_69.toNatClampNeg) hX9 hLI9 hKt (by omega) (show ((v_69.toInt.toNat : Nat) : Int) + 1 = x1_4.toInt by omega) hl0)⟩, by rw [ht]; exact hP, va_K.moved hW.alike hK, hD⟩, hS.F ht⟩) hS.2.2 dX5_run_268
                  · have c_48 : v_11.toInt = 38 := b_nne c_48
                    have hop : cOp (c9 K) = 11 := (qSg_of hor).2.2.2.2.2.2.2.2.2.2.2.1.mp (by omega)
                    have hg1K : 1 ≤ g K := by omega
                    refine lv_iload hx hb dX5_run_149 (lv_at hl 4 rfl) ?_
                    refine lv_iconst (v := 1) hx hb dX5_run_151 (by decide) ?_
                    refine lv_icmp_ge (tgt := 157) hx hb dX5_run_152 (by decide) (fun c_79 => ?_) (fun c_79 => by have c_79 : x1_4.toInt < 1 := b_nle c_79; omega)
                    have c_79 : 1 ≤ x1_4.toInt := b_le c_79
                    refine lv_aload_n hx hb dX5_run_157 rfl (lv_at hl 5 rfl) ?_
                    refine va_get (D := D) (ci := 5) (v := .ref (a 27)) (C := RX5) (T := TX5) (N := 9) hx hb hT iX5 hown hK hP 20 rfl rfl 8 (by decide) (hT _ t_363) (fun _ h9 => h9) rfl dX5_run_158 ?_
                    refine lv_iload hx hb dX5_run_161 (lv_at hl 4 rfl) ?_
                    refine lv_iconst (v := 1) hx hb dX5_run_163 (by decide) ?_
                    refine lv_isub hx hb dX5_run_164 ?_
                    refine lv_topi (fun v_80 ev_80 => ?_)
                    have hv_80 : v_80.toInt = x1_4.toInt - 1 := by rw [ev_80]; have := b_rg x1_4; exact i_sub (a := x1_4.toInt) (b := 1) rfl rfl (by omega) (by omega)
                    refine va_iald hx hb hK hP 27 0 rfl rfl (vp_inI (by omega) (by omega)) dX5_run_165 ?_
                    refine lv_topi (fun v_81 ev_81 => ?_)
                    refine lv_if_eq (tgt := 173) hx hb dX5_run_166 (by decide) (fun c_82 => ?_) (fun c_82 => ?_)
                    · have c_82 : v_81.toInt = 0 := b_eq c_82
                      refine lv_iconst (v := 0) hx hb dX5_run_173 (by decide) ?_
                      refine lv_istore (lv' := [(9, .int 0), (5, .int x_13), (8, .int v_12), (7, .int v_11), (6, .int x1_6), (4, .int x1_4), (0, .ref (a 20)), (1, .int p0), (2, .int p1), (3, .ref (a 28))]) hx hb dX5_run_174 hl (by decide) rfl (fun ls hl => ?_)
                      refine lv_iload hx hb dX5_run_176 (lv_at hl 3 rfl) ?_
                      refine lv_bipush (v := 33) hx hb dX5_run_178 (by decide) ?_
                      refine lv_icmp_ne (tgt := 205) hx hb dX5_run_180 (by decide) (fun c_83 => ?_) (fun c_83 => by have c_83 : v_11.toInt = 33 := b_nne c_83; omega)
                      have c_83 : v_11.toInt ≠ 33 := b_ne c_83
                      refine lv_iload hx hb dX5_run_205 (lv_at hl 0 rfl) ?_
                      refine lv_iload hx hb dX5_run_207 (lv_at hl 3 rfl) ?_
                      refine lv_bipush (v := 124) hx hb dX5_run_209 (by decide) ?_
                      refine lv_icmp_ne (tgt := 218) hx hb dX5_run_211 (by decide) (fun c_84 => ?_) (fun c_84 => by have c_84 : v_11.toInt = 124 := b_nne c_84; omega)
                      have c_84 : v_11.toInt ≠ 124 := b_ne c_84
                      refine lv_iconst (v := 0) hx hb dX5_run_218 (by decide) ?_
                      refine lv_icmp_ne (tgt := 229) hx hb dX5_run_219 (by decide) (fun c_85 => absurd (by decide) c_85) (fun c_85 => ?_)
                      refine lv_iload hx hb dX5_run_222 (lv_at hl 2 rfl) ?_
                      refine lv_istore (lv' := [(5, .int v_12), (9, .int 0), (8, .int v_12), (7, .int v_11), (6, .int x1_6), (4, .int x1_4), (0, .ref (a 20)), (1, .int p0), (2, .int p1), (3, .ref (a 28))]) hx hb dX5_run_224 hl (by decide) rfl (fun ls hl => ?_)
                      refine lv_goto (tgt := 232) hx hb dX5_run_226 (by decide) ?_
                      refine lv_goto (tgt := 302) hx hb dX5_run_232 (by decide) ?_
                      obtain ⟨x_86, ex_86⟩ : ∃ y : Int32, y = x1_6 + 1 := ⟨_, rfl⟩
                      refine lv_iinc (v := x_86) (lv' := [(6, .int x_86), (5, .int v_12), (9, .int 0), (8, .int v_12), (7, .int v_11), (4, .int x1_4), (0, .ref (a 20)), (1, .int p0), (2, .int p1), (3, .ref (a 28))]) hx hb dX5_run_302 hl (k := 4) rfl (by rw [ex_86]; rfl) (by decide) rfl (fun ls hl => ?_)
                      have hx_86 : x_86.toInt = x1_6.toInt + 1 := by rw [ex_86]; have := b_rg x1_6; exact i_add (a := x1_6.toInt) (b := 1) rfl rfl (by omega) (by omega)
                      refine lv_goto (tgt := 9) hx hb dX5_run_305 (by decide) ?_
                      have hl0 : (r1 27) v_80.toNatClampNeg = 0 := by rw [← ev_81]; exact Int32.toInt_inj.mp (show v_81.toInt = 0 by omega)
                      have hLn := rL_jmp (j := v_80.toNatClampNeg) hX9 hLI9 hKt (Or.inl ⟨hop, hl0⟩) (show ((v_80.toInt.toNat : Nat) : Int) + 1 = x1_4.toInt by omega)
                      rw [show (cV (c9 K)).toNat = v_12.toInt.toNat by omega] at hLn
                      exact ih1 x_86 v_12 x1_4 r1 _ _ _ (by first | omega | (simp only [Int.toNat]; omega)) (by first | omega | decide) (by first | omega | decide) (by first | omega | decide) hRr hEr ⟨⟨by omega, by omega, by omega⟩, hLn⟩ hP hD hS (lv_sub hl [0, 1, 5, 6, 7, 8, 9] rfl)
                    · have c_82 : v_81.toInt ≠ 0 := b_ne c_82
                      refine lv_iconst (v := 1) hx hb dX5_run_169 (by decide) ?_
                      refine lv_goto (tgt := 174) hx hb dX5_run_170 (by decide) ?_
                      refine lv_istore (lv' := [(9, .int 1), (5, .int x_13), (8, .int v_12), (7, .int v_11), (6, .int x1_6), (4, .int x1_4), (0, .ref (a 20)), (1, .int p0), (2, .int p1), (3, .ref (a 28))]) hx hb dX5_run_174 hl (by decide) rfl (fun ls hl => ?_)
                      refine lv_iload hx hb dX5_run_176 (lv_at hl 3 rfl) ?_
                      refine lv_bipush (v := 33) hx hb dX5_run_178 (by decide) ?_
                      refine lv_icmp_ne (tgt := 205) hx hb dX5_run_180 (by decide) (fun c_87 => ?_) (fun c_87 => by have c_87 : v_11.toInt = 33 := b_nne c_87; omega)
                      have c_87 : v_11.toInt ≠ 33 := b_ne c_87
                      refine lv_iload hx hb dX5_run_205 (lv_at hl 0 rfl) ?_
                      refine lv_iload hx hb dX5_run_207 (lv_at hl 3 rfl) ?_
                      refine lv_bipush (v := 124) hx hb dX5_run_209 (by decide) ?_
                      refine lv_icmp_ne (tgt := 218) hx hb dX5_run_211 (by decide) (fun c_88 => ?_) (fun c_88 => by have c_88 : v_11.toInt = 124 := b_nne c_88; omega)
                      have c_88 : v_11.toInt ≠ 124 := b_ne c_88
                      refine lv_iconst (v := 0) hx hb dX5_run_218 (by decide) ?_
                      refine lv_icmp_ne (tgt := 229) hx hb dX5_run_219 (by decide) (fun c_89 => ?_) (fun c_89 => absurd c_89 (by decide))
                      obtain ⟨x_90, ex_90⟩ : ∃ y : Int32, y = x1_4 + (-1) := ⟨_, rfl⟩
                      refine lv_iinc (v := x_90) (lv' := [(4, .int x_90), (9, .int 1), (5, .int x_13), (8, .int v_12), (7, .int v_11), (6, .int x1_6), (0, .ref (a 20)), (1, .int p0), (2, .int p1), (3, .ref (a 28))]) hx hb dX5_run_229 hl (k := 5) rfl (by rw [ex_90]; rfl) (by decide) rfl (fun ls hl => ?_)
                      have hx_90 : x_90.toInt = x1_4.toInt + (-1) := by rw [ex_90]; have := b_rg x1_4; exact i_add (a := x1_4.toInt) (b := (-1)) rfl rfl (by omega) (by omega)
                      refine lv_goto (tgt := 302) hx hb dX5_run_232 (by decide) ?_
                      obtain ⟨x_91, ex_91⟩ : ∃ y : Int32, y = x1_6 + 1 := ⟨_, rfl⟩
                      refine lv_iinc (v := x_91) (lv' := [(6, .int x_91), (4, .int x_90), (9, .int 1), (5, .int x_13), (8, .int v_12), (7, .int v_11), (0, .ref (a 20)), (1, .int p0), (2, .int p1), (3, .ref (a 28))]) hx hb dX5_run_302 hl (k := 5) rfl (by rw [ex_91]; rfl) (by decide) rfl (fun ls hl => ?_)
                      have hx_91 : x_91.toInt = x1_6.toInt + 1 := by rw [ex_91]; have := b_rg x1_6; exact i_add (a := x1_6.toInt) (b := 1) rfl rfl (by omega) (by omega)
                      refine lv_goto (tgt := 9) hx hb dX5_run_305 (by decide) ?_
                      have hl1 : (r1 27) v_80.toNatClampNeg = 1 := (rL_bool hX9 hLI9 hKt (by omega) (by omega) (show ((v_80.toInt.toNat : Nat) : Int) + 1 = x1_4.toInt by omega)).resolve_left (fun h9 => by have h8 : v_81.toInt = 0 := (by rw [ev_81]; exact congrArg Int32.toInt h9); omega)
                      have hLn := rL_pop (j := v_80.toNatClampNeg) hX9 hLI9 hKt (Or.inl ⟨hop, by rw [hl1]; decide⟩) (show ((v_80.toInt.toNat : Nat) : Int) + 1 = x1_4.toInt by omega)
                      rw [show K + 1 = x_13.toInt.toNat by omega, show x1_4.toInt - 1 = x_90.toInt by omega] at hLn
                      exact ih1 x_91 x_13 x_90 r1 _ _ _ (by first | omega | (simp only [Int.toNat]; omega)) (by first | omega | decide) (by first | omega | decide) (by first | omega | decide) hRr hEr ⟨⟨by omega, by omega, by omega⟩, hLn⟩ hP hD hS (lv_sub hl [0, 3, 1, 6, 7, 8, 9] rfl)
            · have c_20 : v_11.toInt = 107 := b_nne c_20
              have hop : cOp (c9 K) = 1 := (qSg_of hor).2.1.mp (by omega)
              have hv10 : cV (c9 K) < 10 := by omega
              have hvr : 0 ≤ v_12.toInt ∧ v_12.toInt ≤ 9 := by omega
              refine lv_iload hx hb dX5_run_71 (lv_at hl 4 rfl) ?_
              refine lv_sipush (v := 200) hx hb dX5_run_73 (by decide) ?_
              refine lv_icmp_ge (tgt := 97) hx hb dX5_run_76 (by decide) (fun c_92 => by have c_92 : 200 ≤ x1_4.toInt := b_le c_92; omega) (fun c_92 => ?_)
              have c_92 : x1_4.toInt < 200 := b_nle c_92
              refine lv_iload hx hb dX5_run_79 (lv_at hl 2 rfl) ?_
              refine lv_bipush (v := 107) hx hb dX5_run_81 (by decide) ?_
              refine lv_icmp_ne (tgt := 99) hx hb dX5_run_83 (by decide) (fun c_93 => by have c_93 : v_11.toInt ≠ 107 := b_ne c_93; omega) (fun c_93 => ?_)
              have c_93 : v_11.toInt = 107 := b_nne c_93
              refine lv_iload hx hb dX5_run_86 (lv_at hl 1 rfl) ?_
              refine lv_iconst (v := 0) hx hb dX5_run_88 (by decide) ?_
              refine lv_bipush (v := 9) hx hb dX5_run_89 (by decide) ?_
              refine vp_callSi (va_Run.run (va_runSN (As := [.int v_12, .int 0, .int 9]) (rest := []) ⟨hx, hb, hml, hown, hT⟩ (c_X11_within l v_12 0 9) ⟨va_cnB 3 hT (gI t_1) rfl rfl rfl hnw (hT _ t_2) (by decide +kernel) ⟨Nat.le_of_ble_eq_true rfl, Nat.le_of_ble_eq_true rfl⟩, (hT _ t_4), trivial⟩ preT rfl rfl hl.1 rfl (lv_room (Nat.le_of_ble_eq_true rfl)) dX5_run_91 ⟨Nat.le_of_ble_eq_true rfl, Nat.le_of_ble_eq_true rfl⟩)) (fun r_94 hr_94 => ?_)
              have hr_94 : BR r_94 (0 ≤ v_12.toInt ∧ v_12.toInt ≤ 9) 1 0 := hr_94
              rcases hr_94 with ⟨rfl, h_95⟩ | ⟨rfl, h_95⟩
              · skip
                refine lv_if_ne (tgt := 99) hx hb dX5_run_94 (by decide) (fun c_96 => ?_) (fun c_96 => absurd c_96 (by decide))
                refine lv_aload_n hx hb dX5_run_99 rfl (lv_at hl 5 rfl) ?_
                refine va_get (D := D) (ci := 5) (v := .ref (a 27)) (C := RX5) (T := TX5) (N := 9) hx hb hT iX5 hown hK hP 20 rfl rfl 8 (by decide) (hT _ t_363) (fun _ h9 => h9) rfl dX5_run_100 ?_
                refine lv_iload hx hb dX5_run_103 (lv_at hl 4 rfl) ?_
                refine lv_iload hx hb dX5_run_105 (lv_at hl 2 rfl) ?_
                refine lv_bipush (v := 48) hx hb dX5_run_107 (by decide) ?_
                refine lv_icmp_ne (tgt := 117) hx hb dX5_run_109 (by decide) (fun c_97 => ?_) (fun c_97 => by have c_97 : v_11.toInt = 48 := b_nne c_97; omega)
                have c_97 : v_11.toInt ≠ 48 := b_ne c_97
                refine lv_aload_n hx hb dX5_run_117 rfl (lv_at hl 8 rfl) ?_
                refine lv_iload hx hb dX5_run_118 (lv_at hl 1 rfl) ?_
                refine va_iald hx hb hK hP 28 0 rfl rfl (vp_inI (by omega) (by omega)) dX5_run_120 ?_
                refine lv_topi (fun v_98 ev_98 => ?_)
                have hlv : v_98 = fa9 (cV (c9 K)).toNat := by rw [ev_98, hEr 28 (by decide), ← hf9 _ (by omega)]; exact congrArg (r 28) (by show v_12.toInt.toNat = _; rw [hvv])
                refine va_iast hx hb hK hP hD hS 27 0 rfl rfl (vp_inI (by omega) (by omega)) dX5_run_121 (fun H locs hP hD hS => ?_)
                rw [zS27] at hP hD
                have hRr : yRr (va_up r1 27 (upd (r1 27) x1_4.toNatClampNeg v_98)) := Yr_upd hRr 27 (x1_4.toNatClampNeg) v_98 (b_rg _)
                have hEr : mEr [27] _ (va_up r1 27 (upd (r1 27) x1_4.toNatClampNeg v_98)) := Er_up hEr 27 _ (by decide)
                obtain ⟨x_99, ex_99⟩ : ∃ y : Int32, y = x1_4 + 1 := ⟨_, rfl⟩
                refine lv_iinc (v := x_99) (lv' := [(4, .int x_99), (5, .int x_13), (8, .int v_12), (7, .int v_11), (6, .int x1_6), (0, .ref (a 20)), (1, .int p0), (2, .int p1), (3, .ref (a 28))]) hx hb dX5_run_122 hl (k := 4) rfl (by rw [ex_99]; rfl) (by decide) rfl (fun ls hl => ?_)
                have hx_99 : x_99.toInt = x1_4.toInt + 1 := by rw [ex_99]; have := b_rg x1_4; exact i_add (a := x1_4.toInt) (b := 1) rfl rfl (by omega) (by omega)
                refine lv_goto (tgt := 302) hx hb dX5_run_125 (by decide) ?_
                obtain ⟨x_100, ex_100⟩ : ∃ y : Int32, y = x1_6 + 1 := ⟨_, rfl⟩
                refine lv_iinc (v := x_100) (lv' := [(6, .int x_100), (4, .int x_99), (5, .int x_13), (8, .int v_12), (7, .int v_11), (0, .ref (a 20)), (1, .int p0), (2, .int p1), (3, .ref (a 28))]) hx hb dX5_run_302 hl (k := 4) rfl (by rw [ex_100]; rfl) (by decide) rfl (fun ls hl => ?_)
                have hx_100 : x_100.toInt = x1_6.toInt + 1 := by rw [ex_100]; have := b_rg x1_6; exact i_add (a := x1_6.toInt) (b := 1) rfl rfl (by omega) (by omega)
                refine lv_goto (tgt := 9) hx hb dX5_run_305 (by decide) ?_
                have hLn := rL_let (x := v_98) (j := x1_4.toNatClampNeg) hX9 hLI9 hKt hop hlv (show ((x1_4.toInt.toNat : Nat) : Int) = x1_4.toInt by omega)
                rw [show K + 1 = x_13.toInt.toNat by omega, show x1_4.toInt + 1 = x_99.toInt by omega] at hLn
                exact ih1 x_100 x_13 x_99 (va_up r1 27 (upd (r1 27) x1_4.toNatClampNeg v_98)) _ _ _ (by first | omega | (simp only [Int.toNat]; omega)) (by first | omega | decide) (by first | omega | decide) (by first | omega | decide) hRr hEr ⟨⟨by omega, by omega, by omega⟩, hLn⟩ hP hD hS (lv_sub hl [0, 2, 1, 5, 6, 7, 8] rfl)
              · exact absurd h_95 (by omega)
        · skip
          refine lv_if_eq (tgt := 308) hx hb dX5_run_26 (by decide) (fun c_101 => ?_) (fun c_101 => absurd (by decide) c_101)
          refine lv_iload hx hb dX5_run_308 (lv_at hl 2 rfl) ?_
          obtain ⟨hend1, hend2⟩ := rL_end hX9 hLI9 (show p1.toInt.toNat ≤ x1_5.toInt.toNat by omega)
          refine lv_if_le (tgt := 325) hx hb dX5_run_310 (by decide) (fun c_102 => by have c_102 : x1_4.toInt ≤ 0 := b_le c_102; omega) (fun c_102 => ?_)
          have c_102 : 0 < x1_4.toInt := b_nle c_102
          refine lv_aload_n hx hb dX5_run_313 rfl (lv_at hl 3 rfl) ?_
          refine va_get (D := D) (ci := 5) (v := .ref (a 27)) (C := RX5) (T := TX5) (N := 9) hx hb hT iX5 hown hK hP 20 rfl rfl 8 (by decide) (hT _ t_363) (fun _ h9 => h9) rfl dX5_run_314 ?_
          refine lv_iload hx hb dX5_run_317 (lv_at hl 2 rfl) ?_
          refine lv_iconst (v := 1) hx hb dX5_run_319 (by decide) ?_
          refine lv_isub hx hb dX5_run_320 ?_
          refine lv_topi (fun v_103 ev_103 => ?_)
          have hv_103 : v_103.toInt = x1_4.toInt - 1 := by rw [ev_103]; have := b_rg x1_4; exact i_sub (a := x1_4.toInt) (b := 1) rfl rfl (by omega) (by omega)
          refine va_iald hx hb hK hP 27 0 rfl rfl (vp_inI (by omega) (by omega)) dX5_run_321 ?_
          refine lv_topi (fun v_104 ev_104 => ?_)
          refine lv_goto (tgt := 326) hx hb dX5_run_322 (by decide) ?_
          subst hQ
          exact W.iret (v := v_104) hx hb hr (fun t ht hW => ⟨⟨_, r1, rfl, ⟨hRr, hEr, (by rw [ev_104]; exact (congrArg (r1 27) (by show v_103.toInt.toNat = 0; omega)).trans hend1)⟩, by rw [ht]; exact hP, va_K.moved hW.alike hK, hD⟩, hS.F ht⟩) hS.2.2 dX5_run_326
  exact loop_1 _ 0 p0 0 r _ _ _ (Nat.lt_succ_self _) (by first | omega | decide) (by first | omega | decide) (by first | omega | decide) hRr hEr ⟨⟨by omega, by omega, by have h3 : (0 : Int32).toInt = 0 := rfl; omega⟩, rL_0 hX9⟩ hP hD hS hl
