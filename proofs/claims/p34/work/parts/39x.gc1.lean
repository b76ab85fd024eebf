def cntM (i : Nat → Int32) (r : Nat → Nat → Int32) (p z : Int32) : Prop := (p.toInt = 0 → z = i 0) ∧ (p.toInt = 1 → z = i 51) ∧ (p.toInt = 2 → z = i 31) ∧ (p.toInt = 3 → z = i 22) ∧ (p.toInt = 4 → z = i 63) ∧ (p.toInt = 5 → z = i 72) ∧ (p.toInt = 6 → z = i 1) ∧ (10 ≤ p.toInt ∧ p.toInt ≤ 9 + (i 0).toInt → z = r 10 (p.toInt - 10).toNat) ∧ (20 ≤ p.toInt ∧ p.toInt ≤ 19 + (i 0).toInt → z = r 11 (p.toInt - 20).toNat) ∧ (30 ≤ p.toInt ∧ p.toInt ≤ 29 + (i 51).toInt → z = r 40 (p.toInt - 30).toNat) ∧ ((p.toInt < 0 ∨ (7 ≤ p.toInt ∧ p.toInt ≤ 9) ∨ (10 + (i 0).toInt ≤ p.toInt ∧ p.toInt ≤ 19) ∨ (20 + (i 0).toInt ≤ p.toInt ∧ p.toInt ≤ 29) ∨ 30 + (i 51).toInt ≤ p.toInt) → z = -1)
def cntL (i : Nat → Int32) (p z : Int32) : Prop := (p.toInt = 0 → z = i 0) ∧ (p.toInt = 1 → z = i 10) ∧ (p.toInt = 2 → z = i 8) ∧ (p.toInt = 3 → z = i 2) ∧ (p.toInt = 4 → z = i 14) ∧ (p.toInt = 5 → z = i 15) ∧ (p.toInt = 6 → z = i 11) ∧ (p.toInt < 0 ∨ 7 ≤ p.toInt → z = -1)
def cntH (i : Nat → Int32) (r : Nat → Nat → Int32) (p z : Int32) : Prop := (p.toInt ≤ 29 + (i 10).toInt → z = r 30 (p.toInt - 30).toNat) ∧ (¬ p.toInt ≤ 29 + (i 10).toInt → z = -1)
def cntY (i : Nat → Int32) (p z : Int32) : Prop := (p.toInt < 20 → z = i 23) ∧ (¬ p.toInt < 20 → z = i 24)
set_option maxHeartbeats 4000000 in
set_option maxRecDepth 100000 in
theorem c_X12_count9 (l : Launch) (D : va_G) (cy : Nat → ClassId) (a : Nat → Nat) (i : Nat → Int32) (r : Nat → Nat → Int32) (rl : Nat → Int64) (p0 : Int32) (hRi : mRi i) (hRr : mRr r) : Met l yX12_count (Cond.code yX12_count cX12_count 2 (some .int) :: gT) { frames := 2, cells := 0, slots := 0, locals := 46 } (va_Pc [.ref (a 0), .int p0] (rP D cy (mW cy a i r rl))) (vp_Si (fun z => cntM i r p0 z)) 0 0 (fun _ => False) := by
  refine Met.ofQ (cc := cX12_count) (maxL := 2) (ret := (some .int)) (by decide) rfl ?_
  intro p e s m args below meth c s₁ B hml hv Q hQ
  obtain ⟨rfl, hP, hK⟩ := hv
  have hx := B.exec
  have hb := B.bytes
  have hr := B.returns
  have hlocks := B.notSynchronized
  have hT : ∀ w ∈ gT, w.before _ s = true := fun w h => atoms_spec (ws := (Cond.code yX12_count cX12_count 2 (some .int) :: gT)) B.pre w (List.mem_cons_of_mem _ h)
  have hown : s.vm.findClass RX12 = some m.cls := findClass_of_methodNamed B.named
  have hl := lv_entry ([.ref (a 0), .int p0]) (n := 2) (Nat.le_of_ble_eq_true rfl)
  rw [lg_entry_eq]
  generalize (lg_sl ([.ref (a 0), .int p0]) ++ List.replicate (2 - (lg_sl ([.ref (a 0), .int p0])).length) Slot.unset).toArray = ls at hl ⊢
  have hl : lv_has ls 2 [(0, .ref (a 0)), (1, .int p0)] := hl
  have hEi : mEi [23, 24, 25, 26, 27, 28, 29, 30, 60] i i := Ei_rf
  have hEr : mEr [21, 22, 23, 24, 25, 26, 32, 33, 34, 35, 36, 37, 38, 39, 48, 49, 57, 61, 62] r r := Er_rf
  have hg0 : 0 ≤ (i 0).toInt ∧ (i 0).toInt ≤ 6 := hRi 0
  have hg51 : 0 ≤ (i 51).toInt ∧ (i 51).toInt ≤ 30 := hRi 51
  refine lv_iload_n hx hb dX12_count_0 rfl (lv_at hl 1 rfl) ?_
  rcases (show (p0.toInt < 0 ∨ 6 < p0.toInt) ∨ p0.toInt = 0 ∨ p0.toInt = 1 ∨ p0.toInt = 2 ∨ p0.toInt = 3 ∨ p0.toInt = 4 ∨ p0.toInt = 5 ∨ p0.toInt = 6 by omega) with h_1 | h_1 | h_1 | h_1 | h_1 | h_1 | h_1 | h_1
  · refine lv_tableOut (tgt := 79) hx hb dX12_count_1 h_1 (by decide) ?_
    refine lv_iload_n hx hb dX12_count_79 rfl (lv_at hl 1 rfl) ?_
    refine lv_bipush (v := 10) hx hb dX12_count_80 (by decide) ?_
    refine lv_bipush (v := 9) hx hb dX12_count_82 (by decide) ?_
    refine lv_aload_n hx hb dX12_count_84 rfl (lv_at hl 0 rfl) ?_
    refine va_get (D := D) (ci := 12) (v := .int (i 0)) (C := RX12) (T := TX12) (N := 91) hx hb hT iX12 hown hK hP 0 rfl rfl 0 (by decide) (hT _ t_10) (fun _ h9 => h9) rfl dX12_count_85 ?_
    have hg_2 : 0 ≤ (i 0).toInt ∧ (i 0).toInt ≤ 6 := hRi 0
    refine lv_iadd hx hb dX12_count_88 ?_
    refine lv_topi (fun v_3 ev_3 => ?_)
    have hv_3 : v_3.toInt = 9 + (i 0).toInt := by rw [ev_3]; have := b_rg (i 0); exact i_add (a := 9) (b := (i 0).toInt) rfl rfl (by omega) (by omega)
    refine vp_callSi (W.runS (As := [.int p0, .int 10, .int v_3]) (rest := []) ⟨hx, hb, hml, hown, hT⟩ (c_X12_in l p0 10 v_3) (va_cwS 3 hT (gS t_113 t_114 t_115 t_6) rfl rfl rfl (by decide +kernel) ⟨Nat.le_of_ble_eq_true rfl, Nat.le_of_ble_eq_true rfl⟩) preT rfl rfl hl.1 rfl (lv_room (Nat.le_of_ble_eq_true rfl)) dX12_count_89 ⟨Nat.le_of_ble_eq_true rfl, Nat.le_of_ble_eq_true rfl⟩) (fun r_4 hr_4 => ?_)
    have hr_4 : BR r_4 (10 ≤ p0.toInt ∧ p0.toInt ≤ v_3.toInt) 1 0 := hr_4
    rcases hr_4 with ⟨rfl, h_5⟩ | ⟨rfl, h_5⟩
    · skip
      refine lv_if_eq (tgt := 105) hx hb dX12_count_92 (by decide) (fun c_6 => absurd c_6 (by decide)) (fun c_6 => ?_)
      refine lv_aload_n hx hb dX12_count_95 rfl (lv_at hl 0 rfl) ?_
      refine va_get (D := D) (ci := 12) (v := .ref (a 10)) (C := RX12) (T := TX12) (N := 91) hx hb hT iX12 hown hK hP 0 rfl rfl 11 (by decide) (hT _ t_16) (fun _ h9 => h9) rfl dX12_count_96 ?_
      refine lv_iload_n hx hb dX12_count_99 rfl (lv_at hl 1 rfl) ?_
      refine lv_bipush (v := 10) hx hb dX12_count_100 (by decide) ?_
      refine lv_isub hx hb dX12_count_102 ?_
      refine lv_topi (fun v_7 ev_7 => ?_)
      have hv_7 : v_7.toInt = p0.toInt - 10 := by rw [ev_7]; have := b_rg p0; exact i_sub (a := p0.toInt) (b := 10) rfl rfl (by omega) (by omega)
      refine va_iald hx hb hK hP 10 0 rfl rfl (vp_inI (by omega) (by omega)) dX12_count_103 ?_
      refine lv_topi (fun v_8 ev_8 => ?_)
      have hgv_8 : 0 ≤ v_8.toInt ∧ v_8.toInt ≤ 20 := by rw [ev_8]; exact hRr 10 _
      subst hQ
      exact W.iret (v := v_8) hx hb hr (fun t ht hW => ⟨_, rfl, ⟨fun h9 => absurd h9 (by omega), fun h9 => absurd h9 (by omega), fun h9 => absurd h9 (by omega), fun h9 => absurd h9 (by omega), fun h9 => absurd h9 (by omega), fun h9 => absurd h9 (by omega), fun h9 => absurd h9 (by omega), fun _ => (by rw [ev_8]; exact congrArg (r 10) (by show v_7.toInt.toNat = _; omega)), fun h9 => absurd h9 (by omega), fun h9 => absurd h9 (by omega), fun h9 => absurd h9 (by omega)⟩, ht⟩) (fun q hq => absurd hq List.not_mem_nil) dX12_count_104
    · skip
      refine lv_if_eq (tgt := 105) hx hb dX12_count_92 (by decide) (fun c_9 => ?_) (fun c_9 => absurd (by decide) c_9)
      refine lv_iload_n hx hb dX12_count_105 rfl (lv_at hl 1 rfl) ?_
      refine lv_bipush (v := 20) hx hb dX12_count_106 (by decide) ?_
      refine lv_bipush (v := 19) hx hb dX12_count_108 (by decide) ?_
      refine lv_aload_n hx hb dX12_count_110 rfl (lv_at hl 0 rfl) ?_
      refine va_get (D := D) (ci := 12) (v := .int (i 0)) (C := RX12) (T := TX12) (N := 91) hx hb hT iX12 hown hK hP 0 rfl rfl 0 (by decide) (hT _ t_10) (fun _ h9 => h9) rfl dX12_count_111 ?_
      refine lv_iadd hx hb dX12_count_114 ?_
      refine lv_topi (fun v_10 ev_10 => ?_)
      have hv_10 : v_10.toInt = 19 + (i 0).toInt := by rw [ev_10]; have := b_rg (i 0); exact i_add (a := 19) (b := (i 0).toInt) rfl rfl (by omega) (by omega)
      refine vp_callSi (W.runS (As := [.int p0, .int 20, .int v_10]) (rest := []) ⟨hx, hb, hml, hown, hT⟩ (c_X12_in l p0 20 v_10) (va_cwS 3 hT (gS t_113 t_114 t_115 t_6) rfl rfl rfl (by decide +kernel) ⟨Nat.le_of_ble_eq_true rfl, Nat.le_of_ble_eq_true rfl⟩) preT rfl rfl hl.1 rfl (lv_room (Nat.le_of_ble_eq_true rfl)) dX12_count_115 ⟨Nat.le_of_ble_eq_true rfl, Nat.le_of_ble_eq_true rfl⟩) (fun r_11 hr_11 => ?_)
      have hr_11 : BR r_11 (20 ≤ p0.toInt ∧ p0.toInt ≤ v_10.toInt) 1 0 := hr_11
      rcases hr_11 with ⟨rfl, h_12⟩ | ⟨rfl, h_12⟩
      · skip
        refine lv_if_eq (tgt := 131) hx hb dX12_count_118 (by decide) (fun c_13 => absurd c_13 (by decide)) (fun c_13 => ?_)
        refine lv_aload_n hx hb dX12_count_121 rfl (lv_at hl 0 rfl) ?_
        refine va_get (D := D) (ci := 12) (v := .ref (a 11)) (C := RX12) (T := TX12) (N := 91) hx hb hT iX12 hown hK hP 0 rfl rfl 12 (by decide) (hT _ t_43) (fun _ h9 => h9) rfl dX12_count_122 ?_
        refine lv_iload_n hx hb dX12_count_125 rfl (lv_at hl 1 rfl) ?_
        refine lv_bipush (v := 20) hx hb dX12_count_126 (by decide) ?_
        refine lv_isub hx hb dX12_count_128 ?_
        refine lv_topi (fun v_14 ev_14 => ?_)
        have hv_14 : v_14.toInt = p0.toInt - 20 := by rw [ev_14]; have := b_rg p0; exact i_sub (a := p0.toInt) (b := 20) rfl rfl (by omega) (by omega)
        refine va_iald hx hb hK hP 11 0 rfl rfl (vp_inI (by omega) (by omega)) dX12_count_129 ?_
        refine lv_topi (fun v_15 ev_15 => ?_)
        have hgv_15 : 0 ≤ v_15.toInt ∧ v_15.toInt ≤ 20 := by rw [ev_15]; exact hRr 11 _
        subst hQ
        exact W.iret (v := v_15) hx hb hr (fun t ht hW => ⟨_, rfl, ⟨fun h9 => absurd h9 (by omega), fun h9 => absurd h9 (by omega), fun h9 => absurd h9 (by omega), fun h9 => absurd h9 (by omega), fun h9 => absurd h9 (by omega), fun h9 => absurd h9 (by omega), fun h9 => absurd h9 (by omega), fun h9 => absurd h9 (by omega), fun _ => (by rw [ev_15]; exact congrArg (r 11) (by show v_14.toInt.toNat = _; omega)), fun h9 => absurd h9 (by omega), fun h9 => absurd h9 (by omega)⟩, ht⟩) (fun q hq => absurd hq List.not_mem_nil) dX12_count_130
      · skip
        refine lv_if_eq (tgt := 131) hx hb dX12_count_118 (by decide) (fun c_16 => ?_) (fun c_16 => absurd (by decide) c_16)
        refine lv_iload_n hx hb dX12_count_131 rfl (lv_at hl 1 rfl) ?_
        refine lv_bipush (v := 30) hx hb dX12_count_132 (by decide) ?_
        refine lv_bipush (v := 29) hx hb dX12_count_134 (by decide) ?_
        refine lv_aload_n hx hb dX12_count_136 rfl (lv_at hl 0 rfl) ?_
        refine va_get (D := D) (ci := 12) (v := .int (i 51)) (C := RX12) (T := TX12) (N := 91) hx hb hT iX12 hown hK hP 0 rfl rfl 51 (by decide) (hT _ t_11) (fun _ h9 => h9) rfl dX12_count_137 ?_
        have hg_17 : 0 ≤ (i 51).toInt ∧ (i 51).toInt ≤ 30 := hRi 51
        refine lv_iadd hx hb dX12_count_140 ?_
        refine lv_topi (fun v_18 ev_18 => ?_)
        have hv_18 : v_18.toInt = 29 + (i 51).toInt := by rw [ev_18]; have := b_rg (i 51); exact i_add (a := 29) (b := (i 51).toInt) rfl rfl (by omega) (by omega)
        refine vp_callSi (W.runS (As := [.int p0, .int 30, .int v_18]) (rest := []) ⟨hx, hb, hml, hown, hT⟩ (c_X12_in l p0 30 v_18) (va_cwS 3 hT (gS t_113 t_114 t_115 t_6) rfl rfl rfl (by decide +kernel) ⟨Nat.le_of_ble_eq_true rfl, Nat.le_of_ble_eq_true rfl⟩) preT rfl rfl hl.1 rfl (lv_room (Nat.le_of_ble_eq_true rfl)) dX12_count_141 ⟨Nat.le_of_ble_eq_true rfl, Nat.le_of_ble_eq_true rfl⟩) (fun r_19 hr_19 => ?_)
        have hr_19 : BR r_19 (30 ≤ p0.toInt ∧ p0.toInt ≤ v_18.toInt) 1 0 := hr_19
        rcases hr_19 with ⟨rfl, h_20⟩ | ⟨rfl, h_20⟩
        · skip
          refine lv_if_eq (tgt := 159) hx hb dX12_count_144 (by decide) (fun c_21 => absurd c_21 (by decide)) (fun c_21 => ?_)
          refine lv_aload_n hx hb dX12_count_147 rfl (lv_at hl 0 rfl) ?_
          refine va_get (D := D) (ci := 12) (v := .ref (a 40)) (C := RX12) (T := TX12) (N := 91) hx hb hT iX12 hown hK hP 0 rfl rfl 52 (by decide) (hT _ t_75) (fun _ h9 => h9) rfl dX12_count_148 ?_
          refine lv_iload_n hx hb dX12_count_151 rfl (lv_at hl 1 rfl) ?_
          refine lv_bipush (v := 30) hx hb dX12_count_152 (by decide) ?_
          refine lv_isub hx hb dX12_count_154 ?_
          refine lv_topi (fun v_22 ev_22 => ?_)
          have hv_22 : v_22.toInt = p0.toInt - 30 := by rw [ev_22]; have := b_rg p0; exact i_sub (a := p0.toInt) (b := 30) rfl rfl (by omega) (by omega)
          refine va_iald hx hb hK hP 40 0 rfl rfl (vp_inI (by omega) (by omega)) dX12_count_155 ?_
          refine lv_topi (fun v_23 ev_23 => ?_)
          have hgv_23 : 0 ≤ v_23.toInt ∧ v_23.toInt ≤ 5 := by rw [ev_23]; exact hRr 40 _
          refine lv_goto (tgt := 160) hx hb dX12_count_156 (by decide) ?_
          subst hQ
          exact W.iret (v := v_23) hx hb hr (fun t ht hW => ⟨_, rfl, ⟨fun h9 => absurd h9 (by omega), fun h9 => absurd h9 (by omega), fun h9 => absurd h9 (by omega), fun h9 => absurd h9 (by omega), fun h9 => absurd h9 (by omega), fun h9 => absurd h9 (by omega), fun h9 => absurd h9 (by omega), fun h9 => absurd h9 (by omega), fun h9 => absurd h9 (by omega), fun _ => (by rw [ev_23]; exact congrArg (r 40) (by show v_22.toInt.toNat = _; omega)), fun h9 => absurd h9 (by omega)⟩, ht⟩) (fun q hq => absurd hq List.not_mem_nil) dX12_count_160
        · skip
          refine lv_if_eq (tgt := 159) hx hb dX12_count_144 (by decide) (fun c_24 => ?_) (fun c_24 => absurd (by decide) c_24)
          refine lv_iconst (v := (-1)) hx hb dX12_count_159 (by decide) ?_
          subst hQ
          exact W.iret (v := (-1)) hx hb hr (fun t ht hW => ⟨_, rfl, ⟨fun h9 => absurd h9 (by omega), fun h9 => absurd h9 (by omega), fun h9 => absurd h9 (by omega), fun h9 => absurd h9 (by omega), fun h9 => absurd h9 (by omega), fun h9 => absurd h9 (by omega), fun h9 => absurd h9 (by omega), fun h9 => absurd h9 (by omega), fun h9 => absurd h9 (by omega), fun h9 => absurd h9 (by omega), fun _ => rfl⟩, ht⟩) (fun q hq => absurd hq List.not_mem_nil) dX12_count_160
  · refine lv_tableIn (off := 43) (tgt := 44) hx hb dX12_count_1 (by omega) (by omega) (by rw [h_1]; rfl) (by decide) ?_
    refine lv_aload_n hx hb dX12_count_44 rfl (lv_at hl 0 rfl) ?_
    refine va_get (D := D) (ci := 12) (v := .int (i 0)) (C := RX12) (T := TX12) (N := 91) hx hb hT iX12 hown hK hP 0 rfl rfl 0 (by decide) (hT _ t_10) (fun _ h9 => h9) rfl dX12_count_45 ?_
    have hg_25 : 0 ≤ (i 0).toInt ∧ (i 0).toInt ≤ 6 := hRi 0
    subst hQ
    exact W.iret (v := i 0) hx hb hr (fun t ht hW => ⟨_, rfl, ⟨fun _ => rfl, fun h9 => absurd h9 (by omega), fun h9 => absurd h9 (by omega), fun h9 => absurd h9 (by omega), fun h9 => absurd h9 (by omega), fun h9 => absurd h9 (by omega), fun h9 => absurd h9 (by omega), fun h9 => absurd h9 (by omega), fun h9 => absurd h9 (by omega), fun h9 => absurd h9 (by omega), fun h9 => absurd h9 (by omega)⟩, ht⟩) (fun q hq => absurd hq List.not_mem_nil) dX12_count_48
  · refine lv_tableIn (off := 48) (tgt := 49) hx hb dX12_count_1 (by omega) (by omega) (by rw [h_1]; rfl) (by decide) ?_
    refine lv_aload_n hx hb dX12_count_49 rfl (lv_at hl 0 rfl) ?_
    refine va_get (D := D) (ci := 12) (v := .int (i 51)) (C := RX12) (T := TX12) (N := 91) hx hb hT iX12 hown hK hP 0 rfl rfl 51 (by decide) (hT _ t_11) (fun _ h9 => h9) rfl dX12_count_50 ?_
    have hg_26 : 0 ≤ (i 51).toInt ∧ (i 51).toInt ≤ 30 := hRi 51
    subst hQ
    exact W.iret (v := i 51) hx hb hr (fun t ht hW => ⟨_, rfl, ⟨fun h9 => absurd h9 (by omega), fun _ => rfl, fun h9 => absurd h9 (by omega), fun h9 => absurd h9 (by omega), fun h9 => absurd h9 (by omega), fun h9 => absurd h9 (by omega), fun h9 => absurd h9 (by omega), fun h9 => absurd h9 (by omega), fun h9 => absurd h9 (by omega), fun h9 => absurd h9 (by omega), fun h9 => absurd h9 (by omega)⟩, ht⟩) (fun q hq => absurd hq List.not_mem_nil) dX12_count_53
  · refine lv_tableIn (off := 53) (tgt := 54) hx hb dX12_count_1 (by omega) (by omega) (by rw [h_1]; rfl) (by decide) ?_
    refine lv_aload_n hx hb dX12_count_54 rfl (lv_at hl 0 rfl) ?_
    refine va_get (D := D) (ci := 12) (v := .int (i 31)) (C := RX12) (T := TX12) (N := 91) hx hb hT iX12 hown hK hP 0 rfl rfl 31 (by decide) (hT _ t_88) (fun _ h9 => h9) rfl dX12_count_55 ?_
    have hg_27 : 0 ≤ (i 31).toInt ∧ (i 31).toInt ≤ 14 := hRi 31
    subst hQ
    exact W.iret (v := i 31) hx hb hr (fun t ht hW => ⟨_, rfl, ⟨fun h9 => absurd h9 (by omega), fun h9 => absurd h9 (by omega), fun _ => rfl, fun h9 => absurd h9 (by omega), fun h9 => absurd h9 (by omega), fun h9 => absurd h9 (by omega), fun h9 => absurd h9 (by omega), fun h9 => absurd h9 (by omega), fun h9 => absurd h9 (by omega), fun h9 => absurd h9 (by omega), fun h9 => absurd h9 (by omega)⟩, ht⟩) (fun q hq => absurd hq List.not_mem_nil) dX12_count_58
  · refine lv_tableIn (off := 58) (tgt := 59) hx hb dX12_count_1 (by omega) (by omega) (by rw [h_1]; rfl) (by decide) ?_
    refine lv_aload_n hx hb dX12_count_59 rfl (lv_at hl 0 rfl) ?_
    refine va_get (D := D) (ci := 12) (v := .int (i 22)) (C := RX12) (T := TX12) (N := 91) hx hb hT iX12 hown hK hP 0 rfl rfl 22 (by decide) (hT _ t_201) (fun _ h9 => h9) rfl dX12_count_60 ?_
    have hg_28 : 0 ≤ (i 22).toInt ∧ (i 22).toInt ≤ 220 := hRi 22
    subst hQ
    exact W.iret (v := i 22) hx hb hr (fun t ht hW => ⟨_, rfl, ⟨fun h9 => absurd h9 (by omega), fun h9 => absurd h9 (by omega), fun h9 => absurd h9 (by omega), fun _ => rfl, fun h9 => absurd h9 (by omega), fun h9 => absurd h9 (by omega), fun h9 => absurd h9 (by omega), fun h9 => absurd h9 (by omega), fun h9 => absurd h9 (by omega), fun h9 => absurd h9 (by omega), fun h9 => absurd h9 (by omega)⟩, ht⟩) (fun q hq => absurd hq List.not_mem_nil) dX12_count_63
  · refine lv_tableIn (off := 63) (tgt := 64) hx hb dX12_count_1 (by omega) (by omega) (by rw [h_1]; rfl) (by decide) ?_
    refine lv_aload_n hx hb dX12_count_64 rfl (lv_at hl 0 rfl) ?_
    refine va_get (D := D) (ci := 12) (v := .int (i 63)) (C := RX12) (T := TX12) (N := 91) hx hb hT iX12 hown hK hP 0 rfl rfl 63 (by decide) (hT _ t_191) (fun _ h9 => h9) rfl dX12_count_65 ?_
    have hg_29 : 0 ≤ (i 63).toInt ∧ (i 63).toInt ≤ 40 := hRi 63
    subst hQ
    exact W.iret (v := i 63) hx hb hr (fun t ht hW => ⟨_, rfl, ⟨fun h9 => absurd h9 (by omega), fun h9 => absurd h9 (by omega), fun h9 => absurd h9 (by omega), fun h9 => absurd h9 (by omega), fun _ => rfl, fun h9 => absurd h9 (by omega), fun h9 => absurd h9 (by omega), fun h9 => absurd h9 (by omega), fun h9 => absurd h9 (by omega), fun h9 => absurd h9 (by omega), fun h9 => absurd h9 (by omega)⟩, ht⟩) (fun q hq => absurd hq List.not_mem_nil) dX12_count_68
  · refine lv_tableIn (off := 68) (tgt := 69) hx hb dX12_count_1 (by omega) (by omega) (by rw [h_1]; rfl) (by decide) ?_
    refine lv_aload_n hx hb dX12_count_69 rfl (lv_at hl 0 rfl) ?_
    refine va_get (D := D) (ci := 12) (v := .int (i 72)) (C := RX12) (T := TX12) (N := 91) hx hb hT iX12 hown hK hP 0 rfl rfl 72 (by decide) (hT _ t_196) (fun _ h9 => h9) rfl dX12_count_70 ?_
    have hg_30 : 0 ≤ (i 72).toInt ∧ (i 72).toInt ≤ 30 := hRi 72
    subst hQ
    exact W.iret (v := i 72) hx hb hr (fun t ht hW => ⟨_, rfl, ⟨fun h9 => absurd h9 (by omega), fun h9 => absurd h9 (by omega), fun h9 => absurd h9 (by omega), fun h9 => absurd h9 (by omega), fun h9 => absurd h9 (by omega), fun _ => rfl, fun h9 => absurd h9 (by omega), fun h9 => absurd h9 (by omega), fun h9 => absurd h9 (by omega), fun h9 => absurd h9 (by omega), fun h9 => absurd h9 (by omega)⟩, ht⟩) (fun q hq => absurd hq List.not_mem_nil) dX12_count_73
  · refine lv_tableIn (off := 73) (tgt := 74) hx hb dX12_count_1 (by omega) (by omega) (by rw [h_1]; rfl) (by decide) ?_
    refine lv_aload_n hx hb dX12_count_74 rfl (lv_at hl 0 rfl) ?_
    refine va_get (D := D) (ci := 12) (v := .int (i 1)) (C := RX12) (T := TX12) (N := 91) hx hb hT iX12 hown hK hP 0 rfl rfl 1 (by decide) (hT _ t_181) (fun _ h9 => h9) rfl dX12_count_75 ?_
    have hg_31 : 0 ≤ (i 1).toInt ∧ (i 1).toInt ≤ 65535 := hRi 1
    subst hQ
    exact W.iret (v := i 1) hx hb hr (fun t ht hW => ⟨_, rfl, ⟨fun h9 => absurd h9 (by omega), fun h9 => absurd h9 (by omega), fun h9 => absurd h9 (by omega), fun h9 => absurd h9 (by omega), fun h9 => absurd h9 (by omega), fun h9 => absurd h9 (by omega), fun _ => rfl, fun h9 => absurd h9 (by omega), fun h9 => absurd h9 (by omega), fun h9 => absurd h9 (by omega), fun h9 => absurd h9 (by omega)⟩, ht⟩) (fun q hq => absurd hq List.not_mem_nil) dX12_count_78
set_option maxHeartbeats 4000000 in
set_option maxRecDepth 100000 in
theorem c_X11_count.lo9 (l : Launch) (D : va_G) (cy : Nat → ClassId) (a : Nat → Nat) (i : Nat → Int32) (r : Nat → Nat → Int32) (q : Nat → Option Nat) (tl : va_W) (p0 : Int32) (hRi : yRi i) (hRr : yRr r) (h1 : p0.toInt ≤ 9) : Met l yX11_count (Cond.code yX11_count cX11_count 3 (some .int) :: gT) { frames := 1, cells := 0, slots := 0, locals := 24 } (va_Pc [.ref (a 0), .int p0] (rP D cy (xW cy a i r q (a 20) (a 12) ++ tl))) (vp_Si (fun z => cntL i p0 z)) 0 0 (fun _ => False) := by
  refine Met.ofQ (cc := cX11_count) (maxL := 3) (ret := (some .int)) (by decide) rfl ?_
  intro p e s m args below meth c s₁ B hml hv Q hQ
  obtain ⟨rfl, hP, hK⟩ := hv
  have hx := B.exec
  have hb := B.bytes
  have hr := B.returns
  have hlocks := B.notSynchronized
  have hT : ∀ w ∈ gT, w.before _ s = true := fun w h => atoms_spec (ws := (Cond.code yX11_count cX11_count 3 (some .int) :: gT)) B.pre w (List.mem_cons_of_mem _ h)
  have hown : s.vm.findClass RX11 = some m.cls := findClass_of_methodNamed B.named
  have hl := lv_entry ([.ref (a 0), .int p0]) (n := 3) (Nat.le_of_ble_eq_true rfl)
  rw [lg_entry_eq]
  generalize (lg_sl ([.ref (a 0), .int p0]) ++ List.replicate (3 - (lg_sl ([.ref (a 0), .int p0])).length) Slot.unset).toArray = ls at hl ⊢
  have hl : lv_has ls 3 [(0, .ref (a 0)), (1, .int p0)] := hl
  have hEi : mEi [] i i := Ei_rf
  have hEr : mEr [] r r := Er_rf
  have hg0 : 0 ≤ (i 0).toInt ∧ (i 0).toInt ≤ 6 := hRi 0
  have hg10 : 0 ≤ (i 10).toInt ∧ (i 10).toInt ≤ 30 := hRi 10
  refine lv_iload_n hx hb dX11_count_0 rfl (lv_at hl 1 rfl) ?_
  refine lv_bipush (v := 30) hx hb dX11_count_1 (by decide) ?_
  refine lv_icmp_lt (tgt := 34) hx hb dX11_count_3 (by decide) (fun c_1 => ?_) (fun c_1 => by have c_1 : 30 ≤ p0.toInt := b_nlt c_1; omega)
  have c_1 : p0.toInt < 30 := b_lt c_1
  refine lv_iload_n hx hb dX11_count_34 rfl (lv_at hl 1 rfl) ?_
  refine lv_bipush (v := 10) hx hb dX11_count_35 (by decide) ?_
  refine lv_icmp_lt (tgt := 79) hx hb dX11_count_37 (by decide) (fun c_2 => ?_) (fun c_2 => by have c_2 : 10 ≤ p0.toInt := b_nlt c_2; omega)
  have c_2 : p0.toInt < 10 := b_lt c_2
  refine lv_iload_n hx hb dX11_count_79 rfl (lv_at hl 1 rfl) ?_
  rcases (show (p0.toInt < 0 ∨ 6 < p0.toInt) ∨ p0.toInt = 0 ∨ p0.toInt = 1 ∨ p0.toInt = 2 ∨ p0.toInt = 3 ∨ p0.toInt = 4 ∨ p0.toInt = 5 ∨ p0.toInt = 6 by omega) with h_3 | h_3 | h_3 | h_3 | h_3 | h_3 | h_3 | h_3
  · refine lv_tableOut (tgt := 177) hx hb dX11_count_80 h_3 (by decide) ?_
    refine lv_iconst (v := (-1)) hx hb dX11_count_177 (by decide) ?_
    subst hQ
    exact W.iret (v := (-1)) hx hb hr (fun t ht hW => ⟨_, rfl, ⟨fun h9 => absurd h9 (by omega), fun h9 => absurd h9 (by omega), fun h9 => absurd h9 (by omega), fun h9 => absurd h9 (by omega), fun h9 => absurd h9 (by omega), fun h9 => absurd h9 (by omega), fun h9 => absurd h9 (by omega), fun _ => rfl⟩, ht⟩) (fun q hq => absurd hq List.not_mem_nil) dX11_count_178
  · refine lv_tableIn (off := 44) (tgt := 124) hx hb dX11_count_80 (by omega) (by omega) (by rw [h_3]; rfl) (by decide) ?_
    refine lv_aload_n hx hb dX11_count_124 rfl (lv_at hl 0 rfl) ?_
    refine va_get (D := D) (ci := 11) (v := .int (i 0)) (C := RX11) (T := TX11) (N := 14) hx hb hT iX11 hown hK hP 0 rfl rfl 2 (by decide) (hT _ t_263) (fun _ h9 => h9) rfl dX11_count_125 ?_
    have hg_4 : 0 ≤ (i 0).toInt ∧ (i 0).toInt ≤ 6 := hRi 0
    subst hQ
    exact W.iret (v := i 0) hx hb hr (fun t ht hW => ⟨_, rfl, ⟨fun _ => rfl, fun h9 => absurd h9 (by omega), fun h9 => absurd h9 (by omega), fun h9 => absurd h9 (by omega), fun h9 => absurd h9 (by omega), fun h9 => absurd h9 (by omega), fun h9 => absurd h9 (by omega), fun h9 => absurd h9 (by omega)⟩, ht⟩) (fun q hq => absurd hq List.not_mem_nil) dX11_count_128
  · refine lv_tableIn (off := 49) (tgt := 129) hx hb dX11_count_80 (by omega) (by omega) (by rw [h_3]; rfl) (by decide) ?_
    refine lv_aload_n hx hb dX11_count_129 rfl (lv_at hl 0 rfl) ?_
    refine va_get (D := D) (ci := 11) (v := .ref (a 29)) (C := RX11) (T := TX11) (N := 14) hx hb hT iX11 hown hK hP 0 rfl rfl 8 (by decide) (hT _ t_265) (fun _ h9 => h9) rfl dX11_count_130 ?_
    refine va_get (D := D) (ci := 1) (v := .int (i 10)) (C := RX1) (T := TX1) (N := 12) hx hb hT iX1 hown hK hP 29 rfl rfl 0 (by decide) (hT _ t_266) (fun _ h9 => h9) rfl dX11_count_133 ?_
    have hg_5 : 0 ≤ (i 10).toInt ∧ (i 10).toInt ≤ 30 := hRi 10
    subst hQ
    exact W.iret (v := i 10) hx hb hr (fun t ht hW => ⟨_, rfl, ⟨fun h9 => absurd h9 (by omega), fun _ => rfl, fun h9 => absurd h9 (by omega), fun h9 => absurd h9 (by omega), fun h9 => absurd h9 (by omega), fun h9 => absurd h9 (by omega), fun h9 => absurd h9 (by omega), fun h9 => absurd h9 (by omega)⟩, ht⟩) (fun q hq => absurd hq List.not_mem_nil) dX11_count_136
  · refine lv_tableIn (off := 57) (tgt := 137) hx hb dX11_count_80 (by omega) (by omega) (by rw [h_3]; rfl) (by decide) ?_
    refine lv_aload_n hx hb dX11_count_137 rfl (lv_at hl 0 rfl) ?_
    refine va_get (D := D) (ci := 11) (v := .ref (a 20)) (C := RX11) (T := TX11) (N := 14) hx hb hT iX11 hown hK hP 0 rfl rfl 6 (by decide) (hT _ t_516) (fun _ h9 => h9) rfl dX11_count_138 ?_
    refine va_get (D := D) (ci := 5) (v := .int (i 8)) (C := RX5) (T := TX5) (N := 9) hx hb hT iX5 hown hK hP 20 rfl rfl 0 (by decide) (hT _ t_609) (fun _ h9 => h9) rfl dX11_count_141 ?_
    have hg_6 : 0 ≤ (i 8).toInt ∧ (i 8).toInt ≤ 14 := hRi 8
    subst hQ
    exact W.iret (v := i 8) hx hb hr (fun t ht hW => ⟨_, rfl, ⟨fun h9 => absurd h9 (by omega), fun h9 => absurd h9 (by omega), fun _ => rfl, fun h9 => absurd h9 (by omega), fun h9 => absurd h9 (by omega), fun h9 => absurd h9 (by omega), fun h9 => absurd h9 (by omega), fun h9 => absurd h9 (by omega)⟩, ht⟩) (fun q hq => absurd hq List.not_mem_nil) dX11_count_144
  · refine lv_tableIn (off := 65) (tgt := 145) hx hb dX11_count_80 (by omega) (by omega) (by rw [h_3]; rfl) (by decide) ?_
    refine lv_aload_n hx hb dX11_count_145 rfl (lv_at hl 0 rfl) ?_
    refine va_get (D := D) (ci := 11) (v := .ref (a 8)) (C := RX11) (T := TX11) (N := 14) hx hb hT iX11 hown hK hP 0 rfl rfl 4 (by decide) (hT _ t_335) (fun _ h9 => h9) rfl dX11_count_146 ?_
    refine va_get (D := D) (ci := 9) (v := .int (i 2)) (C := RX9) (T := TX9) (N := 2) hx hb hT iX9 hown hK hP 8 rfl rfl 1 (by decide) (hT _ t_336) (fun _ h9 => h9) rfl dX11_count_149 ?_
    have hg_7 : 0 ≤ (i 2).toInt ∧ (i 2).toInt ≤ 220 := hRi 2
    subst hQ
    exact W.iret (v := i 2) hx hb hr (fun t ht hW => ⟨_, rfl, ⟨fun h9 => absurd h9 (by omega), fun h9 => absurd h9 (by omega), fun h9 => absurd h9 (by omega), fun _ => rfl, fun h9 => absurd h9 (by omega), fun h9 => absurd h9 (by omega), fun h9 => absurd h9 (by omega), fun h9 => absurd h9 (by omega)⟩, ht⟩) (fun q hq => absurd hq List.not_mem_nil) dX11_count_152
  · refine lv_tableIn (off := 73) (tgt := 153) hx hb dX11_count_80 (by omega) (by omega) (by rw [h_3]; rfl) (by decide) ?_
    refine lv_aload_n hx hb dX11_count_153 rfl (lv_at hl 0 rfl) ?_
    refine va_get (D := D) (ci := 11) (v := .ref (a 54)) (C := RX11) (T := TX11) (N := 14) hx hb hT iX11 hown hK hP 0 rfl rfl 12 (by decide) (hT _ t_292) (fun _ h9 => h9) rfl dX11_count_154 ?_
    refine va_get (D := D) (ci := 2) (v := .int (i 14)) (C := RX2) (T := TX2) (N := 4) hx hb hT iX2 hown hK hP 54 rfl rfl 0 (by decide) (hT _ t_293) (fun _ h9 => h9) rfl dX11_count_157 ?_
    have hg_8 : 0 ≤ (i 14).toInt ∧ (i 14).toInt ≤ 40 := hRi 14
    subst hQ
    exact W.iret (v := i 14) hx hb hr (fun t ht hW => ⟨_, rfl, ⟨fun h9 => absurd h9 (by omega), fun h9 => absurd h9 (by omega), fun h9 => absurd h9 (by omega), fun h9 => absurd h9 (by omega), fun _ => rfl, fun h9 => absurd h9 (by omega), fun h9 => absurd h9 (by omega), fun h9 => absurd h9 (by omega)⟩, ht⟩) (fun q hq => absurd hq List.not_mem_nil) dX11_count_160
  · refine lv_tableIn (off := 81) (tgt := 161) hx hb dX11_count_80 (by omega) (by omega) (by rw [h_3]; rfl) (by decide) ?_
    refine lv_aload_n hx hb dX11_count_161 rfl (lv_at hl 0 rfl) ?_
    refine va_get (D := D) (ci := 11) (v := .ref (a 58)) (C := RX11) (T := TX11) (N := 14) hx hb hT iX11 hown hK hP 0 rfl rfl 13 (by decide) (hT _ t_316) (fun _ h9 => h9) rfl dX11_count_162 ?_
    refine va_get (D := D) (ci := 7) (v := .int (i 15)) (C := RX7) (T := TX7) (N := 4) hx hb hT iX7 hown hK hP 58 rfl rfl 0 (by decide) (hT _ t_610) (fun _ h9 => h9) rfl dX11_count_165 ?_
    have hg_9 : 0 ≤ (i 15).toInt ∧ (i 15).toInt ≤ 30 := hRi 15
    subst hQ
    exact W.iret (v := i 15) hx hb hr (fun t ht hW => ⟨_, rfl, ⟨fun h9 => absurd h9 (by omega), fun h9 => absurd h9 (by omega), fun h9 => absurd h9 (by omega), fun h9 => absurd h9 (by omega), fun h9 => absurd h9 (by omega), fun _ => rfl, fun h9 => absurd h9 (by omega), fun h9 => absurd h9 (by omega)⟩, ht⟩) (fun q hq => absurd hq List.not_mem_nil) dX11_count_168
  · refine lv_tableIn (off := 89) (tgt := 169) hx hb dX11_count_80 (by omega) (by omega) (by rw [h_3]; rfl) (by decide) ?_
    refine lv_aload_n hx hb dX11_count_169 rfl (lv_at hl 0 rfl) ?_
    refine va_get (D := D) (ci := 11) (v := .ref (a 29)) (C := RX11) (T := TX11) (N := 14) hx hb hT iX11 hown hK hP 0 rfl rfl 8 (by decide) (hT _ t_265) (fun _ h9 => h9) rfl dX11_count_170 ?_
    refine va_get (D := D) (ci := 1) (v := .int (i 11)) (C := RX1) (T := TX1) (N := 12) hx hb hT iX1 hown hK hP 29 rfl rfl 11 (by decide) (hT _ t_272) (fun _ h9 => h9) rfl dX11_count_173 ?_
    have hg_10 : 0 ≤ (i 11).toInt ∧ (i 11).toInt ≤ 65535 := hRi 11
    subst hQ
    exact W.iret (v := i 11) hx hb hr (fun t ht hW => ⟨_, rfl, ⟨fun h9 => absurd h9 (by omega), fun h9 => absurd h9 (by omega), fun h9 => absurd h9 (by omega), fun h9 => absurd h9 (by omega), fun h9 => absurd h9 (by omega), fun h9 => absurd h9 (by omega), fun _ => rfl, fun h9 => absurd h9 (by omega)⟩, ht⟩) (fun q hq => absurd hq List.not_mem_nil) dX11_count_176
set_option maxHeartbeats 4000000 in
set_option maxRecDepth 100000 in
theorem c_X11_count.hi9 (l : Launch) (D : va_G) (cy : Nat → ClassId) (a : Nat → Nat) (i : Nat → Int32) (r : Nat → Nat → Int32) (q : Nat → Option Nat) (tl : va_W) (p0 : Int32) (hRi : yRi i) (hRr : yRr r) (h1 : 30 ≤ p0.toInt) : Met l yX11_count (Cond.code yX11_count cX11_count 3 (some .int) :: gT) { frames := 3, cells := 0, slots := 0, locals := 67 } (va_Pc [.ref (a 0), .int p0] (rP D cy (xW cy a i r q (a 20) (a 12) ++ tl))) (vp_Si (fun z => cntH i r p0 z)) 0 0 (fun _ => False) := by
  refine Met.ofQ (cc := cX11_count) (maxL := 3) (ret := (some .int)) (by decide) rfl ?_
  intro p e s m args below meth c s₁ B hml hv Q hQ
  obtain ⟨rfl, hP, hK⟩ := hv
  have hx := B.exec
  have hb := B.bytes
  have hr := B.returns
  have hlocks := B.notSynchronized
  have hT : ∀ w ∈ gT, w.before _ s = true := fun w h => atoms_spec (ws := (Cond.code yX11_count cX11_count 3 (some .int) :: gT)) B.pre w (List.mem_cons_of_mem _ h)
  have hown : s.vm.findClass RX11 = some m.cls := findClass_of_methodNamed B.named
  have hl := lv_entry ([.ref (a 0), .int p0]) (n := 3) (Nat.le_of_ble_eq_true rfl)
  rw [lg_entry_eq]
  generalize (lg_sl ([.ref (a 0), .int p0]) ++ List.replicate (3 - (lg_sl ([.ref (a 0), .int p0])).length) Slot.unset).toArray = ls at hl ⊢
  have hl : lv_has ls 3 [(0, .ref (a 0)), (1, .int p0)] := hl
  have hEi : mEi [] i i := Ei_rf
  have hEr : mEr [] r r := Er_rf
  have hg0 : 0 ≤ (i 0).toInt ∧ (i 0).toInt ≤ 6 := hRi 0
  have hg10 : 0 ≤ (i 10).toInt ∧ (i 10).toInt ≤ 30 := hRi 10
  refine lv_iload_n hx hb dX11_count_0 rfl (lv_at hl 1 rfl) ?_
  refine lv_bipush (v := 30) hx hb dX11_count_1 (by decide) ?_
  refine lv_icmp_lt (tgt := 34) hx hb dX11_count_3 (by decide) (fun c_1 => by have c_1 : p0.toInt < 30 := b_lt c_1; omega) (fun c_1 => ?_)
  have c_1 : 30 ≤ p0.toInt := b_nlt c_1
  refine lv_aload_n hx hb dX11_count_6 rfl (lv_at hl 0 rfl) ?_
  refine lv_iload_n hx hb dX11_count_7 rfl (lv_at hl 1 rfl) ?_
  refine lv_bipush (v := 30) hx hb dX11_count_8 (by decide) ?_
  refine lv_isub hx hb dX11_count_10 ?_
  refine lv_topi (fun v_2 ev_2 => ?_)
  have hv_2 : v_2.toInt = p0.toInt - 30 := by rw [ev_2]; have := b_rg p0; exact i_sub (a := p0.toInt) (b := 30) rfl rfl (by omega) (by omega)
  refine vp_callSi (W.runV (As := [.int v_2]) (rest := []) ⟨hx, hb, hml, hown, hT⟩ (c_X11_isClaim l D cy a i r q tl v_2 hRi hRr) (cwV 1 hT (gV t_273 t_274 t_275 t_276 t_2) rfl rfl rfl (by decide +kernel) ⟨Nat.le_of_ble_eq_true rfl, Nat.le_of_ble_eq_true rfl⟩) (rP_v hP hK (va_recv hK hP (ci := 11) (q0 := 0) rfl rfl)) rfl rfl hl.1 rfl (lv_room (Nat.le_of_ble_eq_true rfl)) dX11_count_11 ⟨Nat.le_of_ble_eq_true rfl, Nat.le_of_ble_eq_true rfl⟩) (fun r_3 hr_3 => ?_)
  have hg_4 : 0 ≤ (i 10).toInt ∧ (i 10).toInt ≤ 30 := hRi 10
  have hr_3 : BR r_3 (0 ≤ v_2.toInt ∧ v_2.toInt < (i 10).toInt) 1 0 := hr_3
  rcases hr_3 with ⟨rfl, h_5⟩ | ⟨rfl, h_5⟩
  · skip
    refine lv_if_eq (tgt := 32) hx hb dX11_count_14 (by decide) (fun c_6 => absurd c_6 (by decide)) (fun c_6 => ?_)
    refine lv_aload_n hx hb dX11_count_17 rfl (lv_at hl 0 rfl) ?_
    refine va_get (D := D) (ci := 11) (v := .ref (a 29)) (C := RX11) (T := TX11) (N := 14) hx hb hT iX11 hown hK hP 0 rfl rfl 8 (by decide) (hT _ t_265) (fun _ h9 => h9) rfl dX11_count_18 ?_
    refine va_get (D := D) (ci := 1) (v := .ref (a 30)) (C := RX1) (T := TX1) (N := 12) hx hb hT iX1 hown hK hP 29 rfl rfl 1 (by decide) (hT _ t_548) (fun _ h9 => h9) rfl dX11_count_21 ?_
    refine lv_iload_n hx hb dX11_count_24 rfl (lv_at hl 1 rfl) ?_
    refine lv_bipush (v := 30) hx hb dX11_count_25 (by decide) ?_
    refine lv_isub hx hb dX11_count_27 ?_
    refine lv_topi (fun v_7 ev_7 => ?_)
    have hv_7 : v_7.toInt = p0.toInt - 30 := by rw [ev_7]; have := b_rg p0; exact i_sub (a := p0.toInt) (b := 30) rfl rfl (by omega) (by omega)
    refine va_iald hx hb hK hP 30 0 rfl rfl (vp_inI (by omega) (by omega)) dX11_count_28 ?_
    refine lv_topi (fun v_8 ev_8 => ?_)
    have hgv_8 : 0 ≤ v_8.toInt ∧ v_8.toInt ≤ 5 := by rw [ev_8]; exact hRr 30 _
    refine lv_goto (tgt := 33) hx hb dX11_count_29 (by decide) ?_
    subst hQ
    exact W.iret (v := v_8) hx hb hr (fun t ht hW => ⟨_, rfl, ⟨fun _ => (by rw [ev_8]; exact congrArg (r 30) (by show v_7.toInt.toNat = _; omega)), fun h9 => absurd (by omega) h9⟩, ht⟩) (fun q hq => absurd hq List.not_mem_nil) dX11_count_33
  · skip
    refine lv_if_eq (tgt := 32) hx hb dX11_count_14 (by decide) (fun c_9 => ?_) (fun c_9 => absurd (by decide) c_9)
    refine lv_iconst (v := (-1)) hx hb dX11_count_32 (by decide) ?_
    subst hQ
    exact W.iret (v := (-1)) hx hb hr (fun t ht hW => ⟨_, rfl, ⟨fun h9 => absurd h9 (by omega), fun _ => rfl⟩, ht⟩) (fun q hq => absurd hq List.not_mem_nil) dX11_count_33
set_option maxHeartbeats 4000000 in
set_option maxRecDepth 100000 in
theorem c_X11_count.y9 (l : Launch) (D : va_G) (cy : Nat → ClassId) (a : Nat → Nat) (i : Nat → Int32) (r : Nat → Nat → Int32) (q : Nat → Option Nat) (tl : va_W) (p0 : Int32) (hRi : yRi i) (hRr : yRr r) (h1 : 10 ≤ p0.toInt ∧ p0.toInt ≤ 29) (hh : p0.toInt % 10 < (i 0).toInt) (hq : ∀ z : Int32, z.toInt = p0.toInt % 10 → q z.toNatClampNeg = some (a 61)) : Met l yX11_count (Cond.code yX11_count cX11_count 3 (some .int) :: gT) { frames := 3, cells := 0, slots := 0, locals := 67 } (va_Pc [.ref (a 0), .int p0] (rP D cy (xW cy a i r q (a 20) (a 12) ++ (hW cy a i r ++ tl)))) (vp_Si (fun z => cntY i p0 z)) 0 0 (fun _ => False) := by
  refine Met.ofQ (cc := cX11_count) (maxL := 3) (ret := (some .int)) (by decide) rfl ?_
  intro p e s m args below meth c s₁ B hml hv Q hQ
  obtain ⟨rfl, hP, hK⟩ := hv
  have hx := B.exec
  have hb := B.bytes
  have hr := B.returns
  have hlocks := B.notSynchronized
  have hT : ∀ w ∈ gT, w.before _ s = true := fun w h => atoms_spec (ws := (Cond.code yX11_count cX11_count 3 (some .int) :: gT)) B.pre w (List.mem_cons_of_mem _ h)
  have hown : s.vm.findClass RX11 = some m.cls := findClass_of_methodNamed B.named
  have hl := lv_entry ([.ref (a 0), .int p0]) (n := 3) (Nat.le_of_ble_eq_true rfl)
  rw [lg_entry_eq]
  generalize (lg_sl ([.ref (a 0), .int p0]) ++ List.replicate (3 - (lg_sl ([.ref (a 0), .int p0])).length) Slot.unset).toArray = ls at hl ⊢
  have hl : lv_has ls 3 [(0, .ref (a 0)), (1, .int p0)] := hl
  have hEi : mEi [] i i := Ei_rf
  have hEr : mEr [] r r := Er_rf
  have hg0 : 0 ≤ (i 0).toInt ∧ (i 0).toInt ≤ 6 := hRi 0
  have hg10 : 0 ≤ (i 10).toInt ∧ (i 10).toInt ≤ 30 := hRi 10
  refine lv_iload_n hx hb dX11_count_0 rfl (lv_at hl 1 rfl) ?_
  refine lv_bipush (v := 30) hx hb dX11_count_1 (by decide) ?_
  refine lv_icmp_lt (tgt := 34) hx hb dX11_count_3 (by decide) (fun c_1 => ?_) (fun c_1 => by have c_1 : 30 ≤ p0.toInt := b_nlt c_1; omega)
  have c_1 : p0.toInt < 30 := b_lt c_1
  refine lv_iload_n hx hb dX11_count_34 rfl (lv_at hl 1 rfl) ?_
  refine lv_bipush (v := 10) hx hb dX11_count_35 (by decide) ?_
  refine lv_icmp_lt (tgt := 79) hx hb dX11_count_37 (by decide) (fun c_2 => by have c_2 : p0.toInt < 10 := b_lt c_2; omega) (fun c_2 => ?_)
  have c_2 : 10 ≤ p0.toInt := b_nlt c_2
  refine lv_aload_n hx hb dX11_count_40 rfl (lv_at hl 0 rfl) ?_
  refine lv_iload_n hx hb dX11_count_41 rfl (lv_at hl 1 rfl) ?_
  refine lv_bipush (v := 10) hx hb dX11_count_42 (by decide) ?_
  refine lv_irem hx hb dX11_count_44 (by decide) ?_
  refine lv_topi (fun v_3 ev_3 => ?_)
  have hmv_3 : v_3.toInt = p0.toInt % 10 := by rw [ev_3, rem_toInt]; exact Int.tmod_eq_emod_of_nonneg (by omega)
  refine va_csq (W.runV (As := [.int v_3]) (rest := []) ⟨hx, hb, hml, hown, hT⟩ (c_X11_homeAt l D cy a i r q (hW cy a i r ++ tl) v_3 hRi hRr) (cwV 1 hT (gV t_443 t_444 t_445 t_446 t_2) rfl rfl rfl (by decide +kernel) ⟨Nat.le_of_ble_eq_true rfl, Nat.le_of_ble_eq_true rfl⟩) (rP_v hP hK (va_recv hK hP (ci := 11) (q0 := 0) rfl rfl)) rfl rfl hl.1 rfl (lv_room (Nat.le_of_ble_eq_true rfl)) dX11_count_45 ⟨Nat.le_of_ble_eq_true rfl, Nat.le_of_ble_eq_true rfl⟩) (fun r_4 hr_4 => ?_)
  obtain rfl : r_4 = some (a 61) := (hr_4.1 (by omega)).trans (hq _ hmv_3)
  refine W.eq (g2 := F0 m 48 ls [.ref (a 61)]) rfl ?_
  refine lv_astore_n (lv' := [(2, .ref (a 61)), (0, .ref (a 0)), (1, .int p0)]) hx hb dX11_count_48 rfl hl (by decide) rfl (fun ls hl => ?_)
  refine lv_aload_n hx hb dX11_count_49 rfl (lv_at hl 0 rfl) ?_
  refine lv_ifnonnull (tgt := 55) hx hb dX11_count_50 (by decide) ?_
  refine lv_iload_n hx hb dX11_count_55 rfl (lv_at hl 2 rfl) ?_
  refine lv_bipush (v := 20) hx hb dX11_count_56 (by decide) ?_
  refine lv_icmp_ge (tgt := 71) hx hb dX11_count_58 (by decide) (fun c_5 => ?_) (fun c_5 => ?_)
  · have c_5 : 20 ≤ p0.toInt := b_le c_5
    refine lv_aload_n hx hb dX11_count_71 rfl (lv_at hl 0 rfl) ?_
    refine va_get (D := D) (ci := 3) (v := .ref (a 70)) (C := RX3) (T := TX3) (N := 12) hx hb hT iX3 hown hK hP 61 rfl rfl 10 (by decide) (hT _ t_462) (fun _ h9 => h9) rfl dX11_count_72 ?_
    refine va_get (D := D) (ci := 10) (v := .int (i 24)) (C := RX10) (T := TX10) (N := 5) hx hb hT iX10 hown hK hP 70 rfl rfl 0 (by decide) (hT _ t_463) (fun _ h9 => h9) rfl dX11_count_75 ?_
    have hg_6 : 0 ≤ (i 24).toInt ∧ (i 24).toInt ≤ 20 := hRi 24
    subst hQ
    exact W.iret (v := i 24) hx hb hr (fun t ht hW => ⟨_, rfl, ⟨fun h9 => absurd h9 (by omega), fun _ => rfl⟩, ht⟩) (fun q hq => absurd hq List.not_mem_nil) dX11_count_78
  · have c_5 : p0.toInt < 20 := b_nle c_5
    refine lv_aload_n hx hb dX11_count_61 rfl (lv_at hl 0 rfl) ?_
    refine va_get (D := D) (ci := 3) (v := .ref (a 65)) (C := RX3) (T := TX3) (N := 12) hx hb hT iX3 hown hK hP 61 rfl rfl 9 (by decide) (hT _ t_453) (fun _ h9 => h9) rfl dX11_count_62 ?_
    refine va_get (D := D) (ci := 10) (v := .int (i 23)) (C := RX10) (T := TX10) (N := 5) hx hb hT iX10 hown hK hP 65 rfl rfl 0 (by decide) (hT _ t_463) (fun _ h9 => h9) rfl dX11_count_65 ?_
    have hg_7 : 0 ≤ (i 23).toInt ∧ (i 23).toInt ≤ 20 := hRi 23
    refine lv_goto (tgt := 78) hx hb dX11_count_68 (by decide) ?_
    subst hQ
    exact W.iret (v := i 23) hx hb hr (fun t ht hW => ⟨_, rfl, ⟨fun _ => rfl, fun h9 => absurd (by omega) h9⟩, ht⟩) (fun q hq => absurd hq List.not_mem_nil) dX11_count_78
set_option maxHeartbeats 4000000 in
set_option maxRecDepth 100000 in
theorem c_X11_count.b9 (l : Launch) (D : va_G) (cy : Nat → ClassId) (a : Nat → Nat) (i : Nat → Int32) (r : Nat → Nat → Int32) (q : Nat → Option Nat) (tl : va_W) (p0 : Int32) (hRi : yRi i) (hRr : yRr r) (h1 : 10 ≤ p0.toInt ∧ p0.toInt ≤ 29) (hh : ¬ p0.toInt % 10 < (i 0).toInt) : Met l yX11_count (Cond.code yX11_count cX11_count 3 (some .int) :: gT) { frames := 3, cells := 0, slots := 0, locals := 67 } (va_Pc [.ref (a 0), .int p0] (rP D cy (xW cy a i r q (a 20) (a 12) ++ tl))) (vp_Si (fun z => z = -1)) 0 0 (fun _ => False) := by
  refine Met.ofQ (cc := cX11_count) (maxL := 3) (ret := (some .int)) (by decide) rfl ?_
  intro p e s m args below meth c s₁ B hml hv Q hQ
  obtain ⟨rfl, hP, hK⟩ := hv
  have hx := B.exec
  have hb := B.bytes
  have hr := B.returns
  have hlocks := B.notSynchronized
  have hT : ∀ w ∈ gT, w.before _ s = true := fun w h => atoms_spec (ws := (Cond.code yX11_count cX11_count 3 (some .int) :: gT)) B.pre w (List.mem_cons_of_mem _ h)
  have hown : s.vm.findClass RX11 = some m.cls := findClass_of_methodNamed B.named
  have hl := lv_entry ([.ref (a 0), .int p0]) (n := 3) (Nat.le_of_ble_eq_true rfl)
  rw [lg_entry_eq]
  generalize (lg_sl ([.ref (a 0), .int p0]) ++ List.replicate (3 - (lg_sl ([.ref (a 0), .int p0])).length) Slot.unset).toArray = ls at hl ⊢
  have hl : lv_has ls 3 [(0, .ref (a 0)), (1, .int p0)] := hl
  have hEi : mEi [] i i := Ei_rf
  have hEr : mEr [] r r := Er_rf
  have hg0 : 0 ≤ (i 0).toInt ∧ (i 0).toInt ≤ 6 := hRi 0
  have hg10 : 0 ≤ (i 10).toInt ∧ (i 10).toInt ≤ 30 := hRi 10
  refine lv_iload_n hx hb dX11_count_0 rfl (lv_at hl 1 rfl) ?_
  refine lv_bipush (v := 30) hx hb dX11_count_1 (by decide) ?_
  refine lv_icmp_lt (tgt := 34) hx hb dX11_count_3 (by decide) (fun c_1 => ?_) (fun c_1 => by have c_1 : 30 ≤ p0.toInt := b_nlt c_1; omega)
  have c_1 : p0.toInt < 30 := b_lt c_1
  refine lv_iload_n hx hb dX11_count_34 rfl (lv_at hl 1 rfl) ?_
  refine lv_bipush (v := 10) hx hb dX11_count_35 (by decide) ?_
  refine lv_icmp_lt (tgt := 79) hx hb dX11_count_37 (by decide) (fun c_2 => by have c_2 : p0.toInt < 10 := b_lt c_2; omega) (fun c_2 => ?_)
  have c_2 : 10 ≤ p0.toInt := b_nlt c_2
  refine lv_aload_n hx hb dX11_count_40 rfl (lv_at hl 0 rfl) ?_
  refine lv_iload_n hx hb dX11_count_41 rfl (lv_at hl 1 rfl) ?_
  refine lv_bipush (v := 10) hx hb dX11_count_42 (by decide) ?_
  refine lv_irem hx hb dX11_count_44 (by decide) ?_
  refine lv_topi (fun v_3 ev_3 => ?_)
  have hmv_3 : v_3.toInt = p0.toInt % 10 := by rw [ev_3, rem_toInt]; exact Int.tmod_eq_emod_of_nonneg (by omega)
  refine va_csq (W.runV (As := [.int v_3]) (rest := []) ⟨hx, hb, hml, hown, hT⟩ (c_X11_homeAt l D cy a i r q tl v_3 hRi hRr) (cwV 1 hT (gV t_443 t_444 t_445 t_446 t_2) rfl rfl rfl (by decide +kernel) ⟨Nat.le_of_ble_eq_true rfl, Nat.le_of_ble_eq_true rfl⟩) (rP_v hP hK (va_recv hK hP (ci := 11) (q0 := 0) rfl rfl)) rfl rfl hl.1 rfl (lv_room (Nat.le_of_ble_eq_true rfl)) dX11_count_45 ⟨Nat.le_of_ble_eq_true rfl, Nat.le_of_ble_eq_true rfl⟩) (fun r_4 hr_4 => ?_)
  obtain rfl : r_4 = none := hr_4.2 (by omega)
  refine W.eq (g2 := F0 m 48 ls [.null]) rfl ?_
  refine lv_astore_nN (lv' := [(2, .null), (0, .ref (a 0)), (1, .int p0)]) hx hb dX11_count_48 rfl hl (by decide) rfl (fun ls hl => ?_)
  refine lv_aload_nN hx hb dX11_count_49 rfl (lv_at hl 0 rfl) ?_
  refine lv_ifnonnullN hx hb dX11_count_50 ?_
  refine lv_iconst (v := (-1)) hx hb dX11_count_53 (by decide) ?_
  subst hQ
  exact W.iret (v := (-1)) hx hb hr (fun t ht hW => ⟨_, rfl, rfl, ht⟩) (fun q hq => absurd hq List.not_mem_nil) dX11_count_54
