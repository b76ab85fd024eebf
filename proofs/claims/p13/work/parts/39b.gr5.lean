/-- what is left of a price at an age -/
def WOR (life price age : Int32) : Int32 := if age.toInt < life.toInt then price * (life - age) / life else 0
theorem WOR_p {life price age a b z : Int32} (h : age.toInt < life.toInt) (e1 : a = life - age) (e2 : b = price * a) (e3 : z = b / life) : z = WOR life price age := by
  unfold WOR; rw [if_pos h, e3, e2, e1]
theorem WOR_n {life price age : Int32} (h : ¬ age.toInt < life.toInt) : (0 : Int32) = WOR life price age := by
  unfold WOR; rw [if_neg h]
set_option maxHeartbeats 4000000 in
set_option maxRecDepth 100000 in
theorem c_X12_worthAt9 (l : Launch) (D : va_G) (cy : Nat → ClassId) (a : Nat → Nat) (i : Nat → Int32) (r : Nat → Nat → Int32) (rl : Nat → Int64) (p0 p1 p2 : Int32) (hRi : mRi i) (hRr : mRr r) (q0 : 0 ≤ p0.toInt ∧ p0.toInt ≤ 5) (q1 : 0 ≤ p1.toInt ∧ p1.toInt ≤ 19) : Met l yX12_worthAt (Cond.code yX12_worthAt cX12_worthAt 6 (some .int) :: gT) { frames := 1, cells := 0, slots := 0, locals := 24 } (va_Pc [.ref (a 0), .int p0, .int p1, .int p2] (rP D cy (mW cy a i r rl))) (vp_Si (fun z => z = WOR (r 1 (r 13 (20 * p0.toInt + p1.toInt).toNat).toNatClampNeg) (r 2 (4 * (r 13 (20 * p0.toInt + p1.toInt).toNat).toInt + (r 3 p0.toNatClampNeg).toInt).toNat) p2)) 0 0 (fun _ => False) := by
  refine Met.ofQ (cc := cX12_worthAt) (maxL := 6) (ret := (some .int)) (by decide) rfl ?_
  intro p e s m args below meth c s₁ B hml hv Q hQ
  obtain ⟨rfl, hP, hK⟩ := hv
  have hx := B.exec
  have hb := B.bytes
  have hr := B.returns
  have hlocks := B.notSynchronized
  have hT : ∀ w ∈ gT, w.before _ s = true := fun w h => atoms_spec (ws := (Cond.code yX12_worthAt cX12_worthAt 6 (some .int) :: gT)) B.pre w (List.mem_cons_of_mem _ h)
  have hown : s.vm.findClass RX12 = some m.cls := findClass_of_methodNamed B.named
  have hl := lv_entry ([.ref (a 0), .int p0, .int p1, .int p2]) (n := 6) (Nat.le_of_ble_eq_true rfl)
  rw [lg_entry_eq]
  generalize (lg_sl ([.ref (a 0), .int p0, .int p1, .int p2]) ++ List.replicate (6 - (lg_sl ([.ref (a 0), .int p0, .int p1, .int p2])).length) Slot.unset).toArray = ls at hl ⊢
  have hl : lv_has ls 6 [(0, .ref (a 0)), (1, .int p0), (2, .int p1), (3, .int p2)] := hl
  have hEi : mEi [23, 24, 25, 26, 27, 28, 29, 30, 60] i i := Ei_rf
  have hEr : mEr [21, 22, 23, 24, 25, 26, 32, 33, 34, 35, 36, 37, 38, 39, 48, 49, 57, 61, 62] r r := Er_rf
  refine lv_aload_n hx hb dX12_worthAt_0 rfl (lv_at hl 0 rfl) ?_
  refine va_get (D := D) (ci := 12) (v := .ref (a 13)) (C := RX12) (T := TX12) (N := 91) hx hb hT iX12 hown hK hP 0 rfl rfl 14 (by decide) (hT _ t_24) (fun _ h9 => h9) rfl dX12_worthAt_1 ?_
  refine lv_bipush (v := 20) hx hb dX12_worthAt_4 (by decide) ?_
  refine lv_iload_n hx hb dX12_worthAt_6 rfl (lv_at hl 1 rfl) ?_
  refine lv_imul hx hb dX12_worthAt_7 ?_
  refine lv_topi (fun v_1 ev_1 => ?_)
  have hv_1 : v_1.toInt = 20 * p0.toInt := by rw [ev_1]; have := b_rg p0; exact i_mul (a := 20) (b := p0.toInt) rfl rfl (by omega) (by omega)
  refine lv_iload_n hx hb dX12_worthAt_8 rfl (lv_at hl 2 rfl) ?_
  refine lv_iadd hx hb dX12_worthAt_9 ?_
  refine lv_topi (fun v_2 ev_2 => ?_)
  have hv_2 : v_2.toInt = v_1.toInt + p1.toInt := by rw [ev_2]; have := b_rg v_1; have := b_rg p1; exact i_add (a := v_1.toInt) (b := p1.toInt) rfl rfl (by omega) (by omega)
  refine va_iald hx hb hK hP 13 0 rfl rfl (vp_inI (by omega) (by omega)) dX12_worthAt_10 ?_
  refine lv_topi (fun v_3 ev_3 => ?_)
  have hgv_3 : 0 ≤ v_3.toInt ∧ v_3.toInt ≤ 7 := by rw [ev_3]; exact hRr 13 _
  have hwv_3 : v_3 = r 13 (((20 * p0.toInt) + p1.toInt)).toNat := by rw [ev_3]; exact congrArg (r 13) (by show v_2.toInt.toNat = _; omega)
  refine lv_istore (lv' := [(4, .int v_3), (0, .ref (a 0)), (1, .int p0), (2, .int p1), (3, .int p2)]) hx hb dX12_worthAt_11 hl (by decide) rfl (fun ls hl => ?_)
  refine lv_aload_n hx hb dX12_worthAt_13 rfl (lv_at hl 1 rfl) ?_
  refine va_get (D := D) (ci := 12) (v := .ref (a 1)) (C := RX12) (T := TX12) (N := 91) hx hb hT iX12 hown hK hP 0 rfl rfl 2 (by decide) (hT _ t_25) (fun _ h9 => h9) rfl dX12_worthAt_14 ?_
  refine lv_iload hx hb dX12_worthAt_17 (lv_at hl 0 rfl) ?_
  refine va_iald hx hb hK hP 1 0 rfl rfl (vp_inI (by omega) (by omega)) dX12_worthAt_19 ?_
  refine lv_topi (fun v_4 ev_4 => ?_)
  have hgv_4 : 1 ≤ v_4.toInt ∧ v_4.toInt ≤ 360 := by rw [ev_4]; exact hRr 1 _
  refine lv_istore (lv' := [(5, .int v_4), (4, .int v_3), (0, .ref (a 0)), (1, .int p0), (2, .int p1), (3, .int p2)]) hx hb dX12_worthAt_20 hl (by decide) rfl (fun ls hl => ?_)
  refine lv_iload_n hx hb dX12_worthAt_22 rfl (lv_at hl 5 rfl) ?_
  refine lv_iload hx hb dX12_worthAt_23 (lv_at hl 0 rfl) ?_
  refine lv_icmp_lt (tgt := 32) hx hb dX12_worthAt_25 (by decide) (fun c_5 => ?_) (fun c_5 => ?_)
  · have c_5 : p2.toInt < v_4.toInt := b_lt c_5
    refine lv_aload_n hx hb dX12_worthAt_32 rfl (lv_at hl 2 rfl) ?_
    refine va_get (D := D) (ci := 12) (v := .ref (a 2)) (C := RX12) (T := TX12) (N := 91) hx hb hT iX12 hown hK hP 0 rfl rfl 3 (by decide) (hT _ t_26) (fun _ h9 => h9) rfl dX12_worthAt_33 ?_
    refine lv_iconst (v := 4) hx hb dX12_worthAt_36 (by decide) ?_
    refine lv_iload hx hb dX12_worthAt_37 (lv_at hl 1 rfl) ?_
    refine lv_imul hx hb dX12_worthAt_39 ?_
    refine lv_topi (fun v_6 ev_6 => ?_)
    have hv_6 : v_6.toInt = 4 * v_3.toInt := by rw [ev_6]; have := b_rg v_3; exact i_mul (a := 4) (b := v_3.toInt) rfl rfl (by omega) (by omega)
    refine lv_aload_n hx hb dX12_worthAt_40 rfl (lv_at hl 2 rfl) ?_
    refine va_get (D := D) (ci := 12) (v := .ref (a 3)) (C := RX12) (T := TX12) (N := 91) hx hb hT iX12 hown hK hP 0 rfl rfl 4 (by decide) (hT _ t_27) (fun _ h9 => h9) rfl dX12_worthAt_41 ?_
    refine lv_iload_n hx hb dX12_worthAt_44 rfl (lv_at hl 3 rfl) ?_
    refine va_iald hx hb hK hP 3 0 rfl rfl (vp_inI (by omega) (by omega)) dX12_worthAt_45 ?_
    refine lv_topi (fun v_7 ev_7 => ?_)
    have hgv_7 : 0 ≤ v_7.toInt ∧ v_7.toInt ≤ 3 := by rw [ev_7]; exact hRr 3 _
    refine lv_iadd hx hb dX12_worthAt_46 ?_
    refine lv_topi (fun v_8 ev_8 => ?_)
    have hv_8 : v_8.toInt = v_6.toInt + v_7.toInt := by rw [ev_8]; have := b_rg v_6; have := b_rg v_7; exact i_add (a := v_6.toInt) (b := v_7.toInt) rfl rfl (by omega) (by omega)
    refine va_iald hx hb hK hP 2 0 rfl rfl (vp_inI (by omega) (by omega)) dX12_worthAt_47 ?_
    refine lv_topi (fun v_9 ev_9 => ?_)
    have hgv_9 : 0 ≤ v_9.toInt ∧ v_9.toInt ≤ 99999 := by rw [ev_9]; exact hRr 2 _
    refine lv_iload hx hb dX12_worthAt_48 (lv_at hl 0 rfl) ?_
    refine lv_iload_n hx hb dX12_worthAt_50 rfl (lv_at hl 5 rfl) ?_
    refine lv_isub hx hb dX12_worthAt_51 ?_
    refine lv_topi (fun v_10 ev_10 => ?_)
    refine lv_imul hx hb dX12_worthAt_52 ?_
    refine lv_topi (fun v_11 ev_11 => ?_)
    refine lv_iload hx hb dX12_worthAt_53 (lv_at hl 0 rfl) ?_
    refine lv_idiv hx hb dX12_worthAt_55 (nz (by omega)) ?_
    refine lv_topi (fun v_12 ev_12 => ?_)
    subst hQ
    have hl9 : v_4 = r 1 (r 13 (20 * p0.toInt + p1.toInt).toNat).toNatClampNeg := by rw [ev_4, hwv_3]
    have hr9 : v_7.toInt = (r 3 p0.toNatClampNeg).toInt := congrArg Int32.toInt ev_7
    have hk9 : v_3.toInt = (r 13 (20 * p0.toInt + p1.toInt).toNat).toInt := congrArg Int32.toInt hwv_3
    have hp9 : v_9 = r 2 (4 * (r 13 (20 * p0.toInt + p1.toInt).toNat).toInt + (r 3 p0.toNatClampNeg).toInt).toNat := by rw [ev_9]; exact congrArg (r 2) (by show v_8.toInt.toNat = _; omega)
    exact W.iret (v := v_12) hx hb hr (fun t ht hW => ⟨_, rfl, (by rw [← hl9, ← hp9]; exact WOR_p (by omega) ev_10 ev_11 ev_12), ht⟩) (fun q hq => absurd hq List.not_mem_nil) dX12_worthAt_56
  · have c_5 : v_4.toInt ≤ p2.toInt := b_nlt c_5
    refine lv_iconst (v := 0) hx hb dX12_worthAt_28 (by decide) ?_
    refine lv_goto (tgt := 56) hx hb dX12_worthAt_29 (by decide) ?_
    subst hQ
    have hl9 : v_4 = r 1 (r 13 (20 * p0.toInt + p1.toInt).toNat).toNatClampNeg := by rw [ev_4, hwv_3]
    exact W.iret (v := 0) hx hb hr (fun t ht hW => ⟨_, rfl, (by rw [← hl9]; exact WOR_n (by omega)), ht⟩) (fun q hq => absurd hq List.not_mem_nil) dX12_worthAt_56
set_option maxHeartbeats 4000000 in
set_option maxRecDepth 100000 in
theorem c_X12_led9 (l : Launch) (D : va_G) (cy : Nat → ClassId) (a : Nat → Nat) (i : Nat → Int32) (r : Nat → Nat → Int32) (rl : Nat → Int64) (p0 p1 p2 : Int32) (hRi : mRi i) (hRr : mRr r) : Met l yX12_led (Cond.code yX12_led cX12_led 4 (some .int) :: gT) { frames := 3, cells := 0, slots := 0, locals := 67 } (va_Pc [.ref (a 0), .int p0, .int p1, .int p2] (rP D cy (mW cy a i r rl))) (vp_Si (fun z => (((0 ≤ p0.toInt ∧ p0.toInt < (i 0).toInt) ∧ (0 ≤ p1.toInt ∧ p1.toInt < (r 10 p0.toNatClampNeg).toInt) ∧ (0 ≤ p2.toInt ∧ p2.toInt ≤ 30)) → z = WOR (r 1 (r 13 (20 * p0.toInt + p1.toInt).toNat).toNatClampNeg) (r 2 (4 * (r 13 (20 * p0.toInt + p1.toInt).toNat).toInt + (r 3 p0.toNatClampNeg).toInt).toNat) (r 15 (20 * p0.toInt + p1.toInt).toNat + 12 * p2)) ∧ (¬ ((0 ≤ p0.toInt ∧ p0.toInt < (i 0).toInt) ∧ (0 ≤ p1.toInt ∧ p1.toInt < (r 10 p0.toNatClampNeg).toInt) ∧ (0 ≤ p2.toInt ∧ p2.toInt ≤ 30)) → z = -1))) 0 0 (fun _ => False) := by
  refine Met.ofQ (cc := cX12_led) (maxL := 4) (ret := (some .int)) (by decide) rfl ?_
  intro p e s m args below meth c s₁ B hml hv Q hQ
  obtain ⟨rfl, hP, hK⟩ := hv
  have hx := B.exec
  have hb := B.bytes
  have hr := B.returns
  have hlocks := B.notSynchronized
  have hT : ∀ w ∈ gT, w.before _ s = true := fun w h => atoms_spec (ws := (Cond.code yX12_led cX12_led 4 (some .int) :: gT)) B.pre w (List.mem_cons_of_mem _ h)
  have hown : s.vm.findClass RX12 = some m.cls := findClass_of_methodNamed B.named
  have hl := lv_entry ([.ref (a 0), .int p0, .int p1, .int p2]) (n := 4) (Nat.le_of_ble_eq_true rfl)
  rw [lg_entry_eq]
  generalize (lg_sl ([.ref (a 0), .int p0, .int p1, .int p2]) ++ List.replicate (4 - (lg_sl ([.ref (a 0), .int p0, .int p1, .int p2])).length) Slot.unset).toArray = ls at hl ⊢
  have hl : lv_has ls 4 [(0, .ref (a 0)), (1, .int p0), (2, .int p1), (3, .int p2)] := hl
  have hEi : mEi [23, 24, 25, 26, 27, 28, 29, 30, 60] i i := Ei_rf
  have hEr : mEr [21, 22, 23, 24, 25, 26, 32, 33, 34, 35, 36, 37, 38, 39, 48, 49, 57, 61, 62] r r := Er_rf
  refine lv_aload_n hx hb dX12_led_0 rfl (lv_at hl 0 rfl) ?_
  refine lv_iload_n hx hb dX12_led_1 rfl (lv_at hl 1 rfl) ?_
  refine lv_iload_n hx hb dX12_led_2 rfl (lv_at hl 2 rfl) ?_
  refine vp_callSi (W.runV (As := [.int p0, .int p1]) (rest := []) ⟨hx, hb, hml, hown, hT⟩ (c_X12_isFirst l D cy a i r rl p0 p1 hRi hRr) (cwV 2 hT (gV t_109 t_110 t_111 t_112 t_6) rfl rfl rfl (by decide +kernel) ⟨Nat.le_of_ble_eq_true rfl, Nat.le_of_ble_eq_true rfl⟩) (rP_v hP hK (va_recv hK hP (ci := 12) (q0 := 0) rfl rfl)) rfl rfl hl.1 rfl (lv_room (Nat.le_of_ble_eq_true rfl)) dX12_led_3 ⟨Nat.le_of_ble_eq_true rfl, Nat.le_of_ble_eq_true rfl⟩) (fun r_1 hr_1 => ?_)
  have hg_2 : 0 ≤ (i 0).toInt ∧ (i 0).toInt ≤ 6 := hRi 0
  have hgrr_1_0 : 0 ≤ (r 10 p0.toNatClampNeg).toInt ∧ (r 10 p0.toNatClampNeg).toInt ≤ 20 := hRr 10 _
  have hr_1 : BR r_1 ((0 ≤ p0.toInt ∧ p0.toInt < (i 0).toInt) ∧ 0 ≤ p1.toInt ∧ p1.toInt < (r 10 p0.toNatClampNeg).toInt) 1 0 := hr_1
  rcases hr_1 with ⟨rfl, h_3⟩ | ⟨rfl, h_3⟩
  · skip
    refine lv_if_eq (tgt := 44) hx hb dX12_led_6 (by decide) (fun c_4 => absurd c_4 (by decide)) (fun c_4 => ?_)
    refine lv_iload_n hx hb dX12_led_9 rfl (lv_at hl 3 rfl) ?_
    refine lv_iconst (v := 0) hx hb dX12_led_10 (by decide) ?_
    refine lv_bipush (v := 30) hx hb dX12_led_11 (by decide) ?_
    refine vp_callSi (W.runS (As := [.int p2, .int 0, .int 30]) (rest := []) ⟨hx, hb, hml, hown, hT⟩ (c_X12_in l p2 0 30) (va_cwS 3 hT (gS t_113 t_114 t_115 t_6) rfl rfl rfl (by decide +kernel) ⟨Nat.le_of_ble_eq_true rfl, Nat.le_of_ble_eq_true rfl⟩) preT rfl rfl hl.1 rfl (lv_room (Nat.le_of_ble_eq_true rfl)) dX12_led_13 ⟨Nat.le_of_ble_eq_true rfl, Nat.le_of_ble_eq_true rfl⟩) (fun r_5 hr_5 => ?_)
    have hr_5 : BR r_5 (0 ≤ p2.toInt ∧ p2.toInt ≤ 30) 1 0 := hr_5
    rcases hr_5 with ⟨rfl, h_6⟩ | ⟨rfl, h_6⟩
    · skip
      refine lv_if_eq (tgt := 44) hx hb dX12_led_16 (by decide) (fun c_7 => absurd c_7 (by decide)) (fun c_7 => ?_)
      refine lv_aload_n hx hb dX12_led_19 rfl (lv_at hl 0 rfl) ?_
      refine lv_iload_n hx hb dX12_led_20 rfl (lv_at hl 1 rfl) ?_
      refine lv_iload_n hx hb dX12_led_21 rfl (lv_at hl 2 rfl) ?_
      refine lv_aload_n hx hb dX12_led_22 rfl (lv_at hl 0 rfl) ?_
      refine va_get (D := D) (ci := 12) (v := .ref (a 15)) (C := RX12) (T := TX12) (N := 91) hx hb hT iX12 hown hK hP 0 rfl rfl 16 (by decide) (hT _ t_19) (fun _ h9 => h9) rfl dX12_led_23 ?_
      refine lv_bipush (v := 20) hx hb dX12_led_26 (by decide) ?_
      refine lv_iload_n hx hb dX12_led_28 rfl (lv_at hl 1 rfl) ?_
      refine lv_imul hx hb dX12_led_29 ?_
      refine lv_topi (fun v_8 ev_8 => ?_)
      have hv_8 : v_8.toInt = 20 * p0.toInt := by rw [ev_8]; have := b_rg p0; exact i_mul (a := 20) (b := p0.toInt) rfl rfl (by omega) (by omega)
      refine lv_iload_n hx hb dX12_led_30 rfl (lv_at hl 2 rfl) ?_
      refine lv_iadd hx hb dX12_led_31 ?_
      refine lv_topi (fun v_9 ev_9 => ?_)
      have hv_9 : v_9.toInt = v_8.toInt + p1.toInt := by rw [ev_9]; have := b_rg v_8; have := b_rg p1; exact i_add (a := v_8.toInt) (b := p1.toInt) rfl rfl (by omega) (by omega)
      refine va_iald hx hb hK hP 15 0 rfl rfl (vp_inI (by omega) (by omega)) dX12_led_32 ?_
      refine lv_topi (fun v_10 ev_10 => ?_)
      have hgv_10 : 0 ≤ v_10.toInt ∧ v_10.toInt ≤ 360 := by rw [ev_10]; exact hRr 15 _
      have hwv_10 : v_10 = r 15 (((20 * p0.toInt) + p1.toInt)).toNat := by rw [ev_10]; exact congrArg (r 15) (by show v_9.toInt.toNat = _; omega)
      refine lv_bipush (v := 12) hx hb dX12_led_33 (by decide) ?_
      refine lv_iload_n hx hb dX12_led_35 rfl (lv_at hl 3 rfl) ?_
      refine lv_imul hx hb dX12_led_36 ?_
      refine lv_topi (fun v_11 ev_11 => ?_)
      have hv_11 : v_11.toInt = 12 * p2.toInt := by rw [ev_11]; have := b_rg p2; exact i_mul (a := 12) (b := p2.toInt) rfl rfl (by omega) (by omega)
      refine lv_iadd hx hb dX12_led_37 ?_
      refine lv_topi (fun v_12 ev_12 => ?_)
      have hv_12 : v_12.toInt = v_10.toInt + v_11.toInt := by rw [ev_12]; have := b_rg v_10; have := b_rg v_11; exact i_add (a := v_10.toInt) (b := v_11.toInt) rfl rfl (by omega) (by omega)
      refine vp_callSi (W.runV (As := [.int p0, .int p1, .int v_12]) (rest := []) ⟨hx, hb, hml, hown, hT⟩ (c_X12_worthAt9 l D cy a i r rl p0 p1 v_12 hRi hRr (by omega) (by omega)) (cwV 3 hT (gV t_105 t_106 t_107 t_108 t_6) rfl rfl rfl (by decide +kernel) ⟨Nat.le_of_ble_eq_true rfl, Nat.le_of_ble_eq_true rfl⟩) (rP_v hP hK (va_recv hK hP (ci := 12) (q0 := 0) rfl rfl)) rfl rfl hl.1 rfl (lv_room (Nat.le_of_ble_eq_true rfl)) dX12_led_38 ⟨Nat.le_of_ble_eq_true rfl, Nat.le_of_ble_eq_true rfl⟩) (fun r_13 hr_13 => ?_)
      refine lv_goto (tgt := 45) hx hb dX12_led_41 (by decide) ?_
      subst hQ
      have hz9 : r_13 = WOR (r 1 (r 13 (20 * p0.toInt + p1.toInt).toNat).toNatClampNeg) (r 2 (4 * (r 13 (20 * p0.toInt + p1.toInt).toNat).toInt + (r 3 p0.toNatClampNeg).toInt).toNat) v_12 := hr_13
      exact W.iret (v := r_13) hx hb hr (fun t ht hW => ⟨_, rfl, ⟨fun _ => (by rw [hz9, ev_12, ev_11, hwv_10]), fun h9 => absurd (by omega) h9⟩, ht⟩) (fun q hq => absurd hq List.not_mem_nil) dX12_led_45
    · skip
      refine lv_if_eq (tgt := 44) hx hb dX12_led_16 (by decide) (fun c_14 => ?_) (fun c_14 => absurd (by decide) c_14)
      refine lv_iconst (v := (-1)) hx hb dX12_led_44 (by decide) ?_
      subst hQ
      exact W.iret (v := (-1)) hx hb hr (fun t ht hW => ⟨_, rfl, ⟨fun h9 => absurd h9 (by omega), fun _ => rfl⟩, ht⟩) (fun q hq => absurd hq List.not_mem_nil) dX12_led_45
  · skip
    refine lv_if_eq (tgt := 44) hx hb dX12_led_6 (by decide) (fun c_15 => ?_) (fun c_15 => absurd (by decide) c_15)
    refine lv_iconst (v := (-1)) hx hb dX12_led_44 (by decide) ?_
    subst hQ
    exact W.iret (v := (-1)) hx hb hr (fun t ht hW => ⟨_, rfl, ⟨fun h9 => absurd h9 (by omega), fun _ => rfl⟩, ht⟩) (fun q hq => absurd hq List.not_mem_nil) dX12_led_45
set_option maxHeartbeats 4000000 in
set_option maxRecDepth 100000 in
theorem c_X8_worth9 (l : Launch) (D : va_G) (cy : Nat → ClassId) (a : Nat → Nat) (i : Nat → Int32) (r : Nat → Nat → Int32) (q : Nat → Option Nat) (tl : va_W) (p0 p1 p2 : Int32) (hRi : yRi i) (hRr : yRr r) (q0 : 0 ≤ p0.toInt ∧ p0.toInt ≤ 7) (q1 : 0 ≤ p1.toInt ∧ p1.toInt ≤ 3) : Met l yX8_worth (Cond.code yX8_worth cX8_worth 5 (some .int) :: gT) { frames := 1, cells := 0, slots := 0, locals := 24 } (va_Pc [.ref (a 1), .int p0, .int p1, .int p2] (rP D cy (xW cy a i r q (a 20) (a 12) ++ tl))) (vp_Si (fun z => 0 < (r 2 p0.toNatClampNeg).toInt → z = WOR (r 2 p0.toNatClampNeg) (r 3 (4 * p0.toInt + p1.toInt).toNat) p2)) 0 0 (fun _ => False) := by
  refine Met.ofQ (cc := cX8_worth) (maxL := 5) (ret := (some .int)) (by decide) rfl ?_
  intro p e s m args below meth c s₁ B hml hv Q hQ
  obtain ⟨rfl, hP, hK⟩ := hv
  have hx := B.exec
  have hb := B.bytes
  have hr := B.returns
  have hlocks := B.notSynchronized
  have hT : ∀ w ∈ gT, w.before _ s = true := fun w h => atoms_spec (ws := (Cond.code yX8_worth cX8_worth 5 (some .int) :: gT)) B.pre w (List.mem_cons_of_mem _ h)
  have hown : s.vm.findClass RX8 = some m.cls := findClass_of_methodNamed B.named
  have hl := lv_entry ([.ref (a 1), .int p0, .int p1, .int p2]) (n := 5) (Nat.le_of_ble_eq_true rfl)
  rw [lg_entry_eq]
  generalize (lg_sl ([.ref (a 1), .int p0, .int p1, .int p2]) ++ List.replicate (5 - (lg_sl ([.ref (a 1), .int p0, .int p1, .int p2])).length) Slot.unset).toArray = ls at hl ⊢
  have hl : lv_has ls 5 [(0, .ref (a 1)), (1, .int p0), (2, .int p1), (3, .int p2)] := hl
  have hEi : mEi [] i i := Ei_rf
  have hEr : mEr [] r r := Er_rf
  refine lv_aload_n hx hb dX8_worth_0 rfl (lv_at hl 0 rfl) ?_
  refine va_get (D := D) (ci := 8) (v := .ref (a 2)) (C := RX8) (T := TX8) (N := 2) hx hb hT iX8 hown hK hP 1 rfl rfl 0 (by decide) (hT _ t_361) (fun _ h9 => h9) rfl dX8_worth_1 ?_
  refine lv_iload_n hx hb dX8_worth_4 rfl (lv_at hl 1 rfl) ?_
  refine va_iald hx hb hK hP 2 0 rfl rfl (vp_inI (by omega) (by omega)) dX8_worth_5 ?_
  refine lv_topi (fun v_1 ev_1 => ?_)
  have hwv_1 : v_1.toInt = (r 2 (p0.toNatClampNeg)).toInt := congrArg Int32.toInt ev_1
  refine lv_istore (lv' := [(4, .int v_1), (0, .ref (a 1)), (1, .int p0), (2, .int p1), (3, .int p2)]) hx hb dX8_worth_6 hl (by decide) rfl (fun ls hl => ?_)
  refine lv_iload hx hb dX8_worth_8 (lv_at hl 0 rfl) ?_
  refine lv_if_le (tgt := 19) hx hb dX8_worth_10 (by decide) (fun c_2 => ?_) (fun c_2 => ?_)
  · have c_2 : v_1.toInt ≤ 0 := b_le c_2
    refine lv_iconst (v := 0) hx hb dX8_worth_19 (by decide) ?_
    subst hQ
    exact W.iret (v := 0) hx hb hr (fun t ht hW => ⟨_, rfl, (fun h9 => by first | exact absurd h9 (by omega) | (rw [← ev_1]; exact WOR_n (by omega))), ht⟩) (fun q hq => absurd hq List.not_mem_nil) dX8_worth_20
  · have c_2 : 0 < v_1.toInt := b_nle c_2
    refine lv_iload_n hx hb dX8_worth_13 rfl (lv_at hl 4 rfl) ?_
    refine lv_iload hx hb dX8_worth_14 (lv_at hl 0 rfl) ?_
    refine lv_icmp_lt (tgt := 21) hx hb dX8_worth_16 (by decide) (fun c_3 => ?_) (fun c_3 => ?_)
    · have c_3 : p2.toInt < v_1.toInt := b_lt c_3
      refine lv_aload_n hx hb dX8_worth_21 rfl (lv_at hl 1 rfl) ?_
      refine va_get (D := D) (ci := 8) (v := .ref (a 3)) (C := RX8) (T := TX8) (N := 2) hx hb hT iX8 hown hK hP 1 rfl rfl 1 (by decide) (hT _ t_362) (fun _ h9 => h9) rfl dX8_worth_22 ?_
      refine lv_iload_n hx hb dX8_worth_25 rfl (lv_at hl 2 rfl) ?_
      refine lv_iconst (v := 4) hx hb dX8_worth_26 (by decide) ?_
      refine lv_imul hx hb dX8_worth_27 ?_
      refine lv_topi (fun v_4 ev_4 => ?_)
      have hv_4 : v_4.toInt = p0.toInt * 4 := by rw [ev_4]; have := b_rg p0; exact i_mul (a := p0.toInt) (b := 4) rfl rfl (by omega) (by omega)
      refine lv_iload_n hx hb dX8_worth_28 rfl (lv_at hl 3 rfl) ?_
      refine lv_iadd hx hb dX8_worth_29 ?_
      refine lv_topi (fun v_5 ev_5 => ?_)
      have hv_5 : v_5.toInt = v_4.toInt + p1.toInt := by rw [ev_5]; have := b_rg v_4; have := b_rg p1; exact i_add (a := v_4.toInt) (b := p1.toInt) rfl rfl (by omega) (by omega)
      refine va_iald hx hb hK hP 3 0 rfl rfl (vp_inI (by omega) (by omega)) dX8_worth_30 ?_
      refine lv_topi (fun v_6 ev_6 => ?_)
      have hgv_6 : 0 ≤ v_6.toInt ∧ v_6.toInt ≤ 99999 := by rw [ev_6]; exact hRr 3 _
      refine lv_iload hx hb dX8_worth_31 (lv_at hl 0 rfl) ?_
      refine lv_iload_n hx hb dX8_worth_33 rfl (lv_at hl 4 rfl) ?_
      refine lv_isub hx hb dX8_worth_34 ?_
      refine lv_topi (fun v_7 ev_7 => ?_)
      refine lv_imul hx hb dX8_worth_35 ?_
      refine lv_topi (fun v_8 ev_8 => ?_)
      refine lv_iload hx hb dX8_worth_36 (lv_at hl 0 rfl) ?_
      refine lv_idiv hx hb dX8_worth_38 (nz (by omega)) ?_
      refine lv_topi (fun v_9 ev_9 => ?_)
      subst hQ
      have hp9 : v_6 = r 3 (4 * p0.toInt + p1.toInt).toNat := by rw [ev_6]; exact congrArg (r 3) (by show v_5.toInt.toNat = _; omega)
      exact W.iret (v := v_9) hx hb hr (fun t ht hW => ⟨_, rfl, (fun _ => by rw [← ev_1, ← hp9]; exact WOR_p (by omega) ev_7 ev_8 ev_9), ht⟩) (fun q hq => absurd hq List.not_mem_nil) dX8_worth_39
    · have c_3 : v_1.toInt ≤ p2.toInt := b_nlt c_3
      refine lv_iconst (v := 0) hx hb dX8_worth_19 (by decide) ?_
      subst hQ
      exact W.iret (v := 0) hx hb hr (fun t ht hW => ⟨_, rfl, (fun h9 => by first | exact absurd h9 (by omega) | (rw [← ev_1]; exact WOR_n (by omega))), ht⟩) (fun q hq => absurd hq List.not_mem_nil) dX8_worth_20
set_option maxHeartbeats 4000000 in
set_option maxRecDepth 100000 in
theorem c_X11_worth9 (l : Launch) (D : va_G) (cy : Nat → ClassId) (a : Nat → Nat) (i : Nat → Int32) (r : Nat → Nat → Int32) (q : Nat → Option Nat) (tl : va_W) (p0 p1 : Int32) (hRi : yRi i) (hRr : yRr r) (q0 : 0 ≤ p0.toInt ∧ p0.toInt ≤ 19) : Met l yX11_worth (Cond.code yX11_worth cX11_worth 5 (some .int) :: gT) { frames := 2, cells := 0, slots := 0, locals := 48 } (va_Pc [.ref (a 0), .ref (a 61), .int p0, .int p1] (rP D cy (xW cy a i r q (a 20) (a 12) ++ (hW cy a i r ++ tl)))) (vp_Si (fun z => 0 < (r 2 (r 67 p0.toNatClampNeg).toNatClampNeg).toInt → z = WOR (r 2 (r 67 p0.toNatClampNeg).toNatClampNeg) (r 3 (4 * (r 67 p0.toNatClampNeg).toInt + (i 17).toInt).toNat) (r 69 p0.toNatClampNeg + p1))) 0 0 (fun _ => False) := by
  refine Met.ofQ (cc := cX11_worth) (maxL := 5) (ret := (some .int)) (by decide) rfl ?_
  intro p e s m args below meth c s₁ B hml hv Q hQ
  obtain ⟨rfl, hP, hK⟩ := hv
  have hx := B.exec
  have hb := B.bytes
  have hr := B.returns
  have hlocks := B.notSynchronized
  have hT : ∀ w ∈ gT, w.before _ s = true := fun w h => atoms_spec (ws := (Cond.code yX11_worth cX11_worth 5 (some .int) :: gT)) B.pre w (List.mem_cons_of_mem _ h)
  have hown : s.vm.findClass RX11 = some m.cls := findClass_of_methodNamed B.named
  have hl := lv_entry ([.ref (a 0), .ref (a 61), .int p0, .int p1]) (n := 5) (Nat.le_of_ble_eq_true rfl)
  rw [lg_entry_eq]
  generalize (lg_sl ([.ref (a 0), .ref (a 61), .int p0, .int p1]) ++ List.replicate (5 - (lg_sl ([.ref (a 0), .ref (a 61), .int p0, .int p1])).length) Slot.unset).toArray = ls at hl ⊢
  have hl : lv_has ls 5 [(0, .ref (a 0)), (1, .ref (a 61)), (2, .int p0), (3, .int p1)] := hl
  have hEi : mEi [] i i := Ei_rf
  have hEr : mEr [] r r := Er_rf
  refine lv_aload_n hx hb dX11_worth_0 rfl (lv_at hl 1 rfl) ?_
  refine va_get (D := D) (ci := 3) (v := .ref (a 65)) (C := RX3) (T := TX3) (N := 12) hx hb hT iX3 hown hK hP 61 rfl rfl 9 (by decide) (hT _ t_453) (fun _ h9 => h9) rfl dX11_worth_1 ?_
  refine lv_astore (lv' := [(4, .ref (a 65)), (0, .ref (a 0)), (1, .ref (a 61)), (2, .int p0), (3, .int p1)]) hx hb dX11_worth_4 hl (by decide) rfl (fun ls hl => ?_)
  refine lv_aload_n hx hb dX11_worth_6 rfl (lv_at hl 1 rfl) ?_
  refine va_get (D := D) (ci := 11) (v := .ref (a 1)) (C := RX11) (T := TX11) (N := 14) hx hb hT iX11 hown hK hP 0 rfl rfl 0 (by decide) (hT _ t_267) (fun _ h9 => h9) rfl dX11_worth_7 ?_
  refine lv_aload hx hb dX11_worth_10 (lv_at hl 0 rfl) ?_
  refine va_get (D := D) (ci := 10) (v := .ref (a 67)) (C := RX10) (T := TX10) (N := 5) hx hb hT iX10 hown hK hP 65 rfl rfl 2 (by decide) (hT _ t_492) (fun _ h9 => h9) rfl dX11_worth_12 ?_
  refine lv_iload_n hx hb dX11_worth_15 rfl (lv_at hl 3 rfl) ?_
  refine va_iald hx hb hK hP 67 0 rfl rfl (vp_inI (by omega) (by omega)) dX11_worth_16 ?_
  refine lv_topi (fun v_1 ev_1 => ?_)
  have hgv_1 : 0 ≤ v_1.toInt ∧ v_1.toInt ≤ 7 := by rw [ev_1]; exact hRr 67 _
  refine lv_aload_n hx hb dX11_worth_17 rfl (lv_at hl 2 rfl) ?_
  refine va_get (D := D) (ci := 3) (v := .int (i 17)) (C := RX3) (T := TX3) (N := 12) hx hb hT iX3 hown hK hP 61 rfl rfl 0 (by decide) (hT _ t_493) (fun _ h9 => h9) rfl dX11_worth_18 ?_
  have hg_2 : 0 ≤ (i 17).toInt ∧ (i 17).toInt ≤ 3 := hRi 17
  refine lv_aload hx hb dX11_worth_21 (lv_at hl 0 rfl) ?_
  refine va_get (D := D) (ci := 10) (v := .ref (a 69)) (C := RX10) (T := TX10) (N := 5) hx hb hT iX10 hown hK hP 65 rfl rfl 4 (by decide) (hT _ t_494) (fun _ h9 => h9) rfl dX11_worth_23 ?_
  refine lv_iload_n hx hb dX11_worth_26 rfl (lv_at hl 3 rfl) ?_
  refine va_iald hx hb hK hP 69 0 rfl rfl (vp_inI (by omega) (by omega)) dX11_worth_27 ?_
  refine lv_topi (fun v_3 ev_3 => ?_)
  have hgv_3 : 0 ≤ v_3.toInt ∧ v_3.toInt ≤ 360 := by rw [ev_3]; exact hRr 69 _
  refine lv_iload_n hx hb dX11_worth_28 rfl (lv_at hl 4 rfl) ?_
  refine lv_iadd hx hb dX11_worth_29 ?_
  refine lv_topi (fun v_4 ev_4 => ?_)
  refine vp_callSi (W.runV (As := [.int v_1, .int (i 17), .int v_4]) (rest := []) ⟨hx, hb, hml, hown, hT⟩ (c_X8_worth9 l D cy a i r q (hW cy a i r ++ tl) v_1 (i 17) v_4 hRi hRr (by first | omega | decide) (by first | omega | decide)) (cwV 3 hT (gV t_495 t_497 t_498 t_499 t_496) rfl rfl rfl (by decide +kernel) ⟨Nat.le_of_ble_eq_true rfl, Nat.le_of_ble_eq_true rfl⟩) (rP_v hP hK (va_recv hK hP (ci := 8) (q0 := 1) rfl rfl)) rfl rfl hl.1 rfl (lv_room (Nat.le_of_ble_eq_true rfl)) dX11_worth_30 ⟨Nat.le_of_ble_eq_true rfl, Nat.le_of_ble_eq_true rfl⟩) (fun r_5 hr_5 => ?_)
  subst hQ
  have hz9 : 0 < (r 2 v_1.toNatClampNeg).toInt → r_5 = WOR (r 2 v_1.toNatClampNeg) (r 3 (4 * v_1.toInt + (i 17).toInt).toNat) v_4 := hr_5
  rw [ev_1, ev_4, ev_3] at hz9
  exact W.iret (v := r_5) hx hb hr (fun t ht hW => ⟨_, rfl, hz9, ht⟩) (fun q hq => absurd hq List.not_mem_nil) dX11_worth_33
set_option maxHeartbeats 4000000 in
set_option maxRecDepth 100000 in
theorem c_X11_led.y9 (l : Launch) (D : va_G) (cy : Nat → ClassId) (a : Nat → Nat) (i : Nat → Int32) (r : Nat → Nat → Int32) (q : Nat → Option Nat) (tl : va_W) (p0 p1 p2 : Int32) (hRi : yRi i) (hRr : yRr r) (hh : 0 ≤ p0.toInt ∧ p0.toInt < (i 0).toInt) (hq : q p0.toNatClampNeg = some (a 61)) : Met l yX11_led (Cond.code yX11_led cX11_led 5 (some .int) :: gT) { frames := 3, cells := 0, slots := 0, locals := 72 } (va_Pc [.ref (a 0), .int p0, .int p1, .int p2] (rP D cy (xW cy a i r q (a 20) (a 12) ++ (hW cy a i r ++ tl)))) (vp_Si (fun z => (((0 ≤ p1.toInt ∧ p1.toInt < (i 23).toInt) ∧ (0 ≤ p2.toInt ∧ p2.toInt ≤ 30)) → (0 < (r 2 (r 67 p1.toNatClampNeg).toNatClampNeg).toInt → z = WOR (r 2 (r 67 p1.toNatClampNeg).toNatClampNeg) (r 3 (4 * (r 67 p1.toNatClampNeg).toInt + (i 17).toInt).toNat) (r 69 p1.toNatClampNeg + 12 * p2))) ∧ (¬ ((0 ≤ p1.toInt ∧ p1.toInt < (i 23).toInt) ∧ (0 ≤ p2.toInt ∧ p2.toInt ≤ 30)) → z = -1))) 0 0 (fun _ => False) := by
  refine Met.ofQ (cc := cX11_led) (maxL := 5) (ret := (some .int)) (by decide) rfl ?_
  intro p e s m args below meth c s₁ B hml hv Q hQ
  obtain ⟨rfl, hP, hK⟩ := hv
  have hx := B.exec
  have hb := B.bytes
  have hr := B.returns
  have hlocks := B.notSynchronized
  have hT : ∀ w ∈ gT, w.before _ s = true := fun w h => atoms_spec (ws := (Cond.code yX11_led cX11_led 5 (some .int) :: gT)) B.pre w (List.mem_cons_of_mem _ h)
  have hown : s.vm.findClass RX11 = some m.cls := findClass_of_methodNamed B.named
  have hl := lv_entry ([.ref (a 0), .int p0, .int p1, .int p2]) (n := 5) (Nat.le_of_ble_eq_true rfl)
  rw [lg_entry_eq]
  generalize (lg_sl ([.ref (a 0), .int p0, .int p1, .int p2]) ++ List.replicate (5 - (lg_sl ([.ref (a 0), .int p0, .int p1, .int p2])).length) Slot.unset).toArray = ls at hl ⊢
  have hl : lv_has ls 5 [(0, .ref (a 0)), (1, .int p0), (2, .int p1), (3, .int p2)] := hl
  have hEi : mEi [] i i := Ei_rf
  have hEr : mEr [] r r := Er_rf
  have hg0 : 0 ≤ (i 0).toInt ∧ (i 0).toInt ≤ 6 := hRi 0
  refine lv_aload_n hx hb dX11_led_0 rfl (lv_at hl 0 rfl) ?_
  refine lv_iload_n hx hb dX11_led_1 rfl (lv_at hl 1 rfl) ?_
  refine va_csq (W.runV (As := [.int p0]) (rest := []) ⟨hx, hb, hml, hown, hT⟩ (c_X11_homeAt l D cy a i r q (hW cy a i r ++ tl) p0 hRi hRr) (cwV 1 hT (gV t_443 t_444 t_445 t_446 t_2) rfl rfl rfl (by decide +kernel) ⟨Nat.le_of_ble_eq_true rfl, Nat.le_of_ble_eq_true rfl⟩) (rP_v hP hK (va_recv hK hP (ci := 11) (q0 := 0) rfl rfl)) rfl rfl hl.1 rfl (lv_room (Nat.le_of_ble_eq_true rfl)) dX11_led_2 ⟨Nat.le_of_ble_eq_true rfl, Nat.le_of_ble_eq_true rfl⟩) (fun r_1 hr_1 => ?_)
  obtain rfl : r_1 = some (a 61) := (hr_1.1 hh).trans hq
  refine W.eq (g2 := F0 m 5 ls [.ref (a 61)]) rfl ?_
  refine lv_astore (lv' := [(4, .ref (a 61)), (0, .ref (a 0)), (1, .int p0), (2, .int p1), (3, .int p2)]) hx hb dX11_led_5 hl (by decide) rfl (fun ls hl => ?_)
  refine lv_aload hx hb dX11_led_7 (lv_at hl 0 rfl) ?_
  refine lv_ifnull hx hb dX11_led_9 ?_
  refine lv_iload_n hx hb dX11_led_12 rfl (lv_at hl 3 rfl) ?_
  refine lv_iconst (v := 0) hx hb dX11_led_13 (by decide) ?_
  refine lv_aload hx hb dX11_led_14 (lv_at hl 0 rfl) ?_
  refine va_get (D := D) (ci := 3) (v := .ref (a 65)) (C := RX3) (T := TX3) (N := 12) hx hb hT iX3 hown hK hP 61 rfl rfl 9 (by decide) (hT _ t_453) (fun _ h9 => h9) rfl dX11_led_16 ?_
  refine va_get (D := D) (ci := 10) (v := .int (i 23)) (C := RX10) (T := TX10) (N := 5) hx hb hT iX10 hown hK hP 65 rfl rfl 0 (by decide) (hT _ t_463) (fun _ h9 => h9) rfl dX11_led_19 ?_
  have hg_2 : 0 ≤ (i 23).toInt ∧ (i 23).toInt ≤ 20 := hRi 23
  refine lv_iconst (v := 1) hx hb dX11_led_22 (by decide) ?_
  refine lv_isub hx hb dX11_led_23 ?_
  refine lv_topi (fun v_3 ev_3 => ?_)
  have hv_3 : v_3.toInt = (i 23).toInt - 1 := by rw [ev_3]; have := b_rg (i 23); exact i_sub (a := (i 23).toInt) (b := 1) rfl rfl (by omega) (by omega)
  refine vp_callSi (W.runS (As := [.int p1, .int 0, .int v_3]) (rest := []) ⟨hx, hb, hml, hown, hT⟩ (c_X11_within l p1 0 v_3) (va_cwS 3 hT (gS t_1 t_3 t_4 t_2) rfl rfl rfl (by decide +kernel) ⟨Nat.le_of_ble_eq_true rfl, Nat.le_of_ble_eq_true rfl⟩) preT rfl rfl hl.1 rfl (lv_room (Nat.le_of_ble_eq_true rfl)) dX11_led_24 ⟨Nat.le_of_ble_eq_true rfl, Nat.le_of_ble_eq_true rfl⟩) (fun r_4 hr_4 => ?_)
  have hr_4 : BR r_4 (0 ≤ p1.toInt ∧ p1.toInt ≤ v_3.toInt) 1 0 := hr_4
  rcases hr_4 with ⟨rfl, h_5⟩ | ⟨rfl, h_5⟩
  · skip
    refine lv_if_eq (tgt := 40) hx hb dX11_led_27 (by decide) (fun c_6 => absurd c_6 (by decide)) (fun c_6 => ?_)
    refine lv_iload_n hx hb dX11_led_30 rfl (lv_at hl 4 rfl) ?_
    refine lv_iconst (v := 0) hx hb dX11_led_31 (by decide) ?_
    refine lv_bipush (v := 30) hx hb dX11_led_32 (by decide) ?_
    refine vp_callSi (W.runS (As := [.int p2, .int 0, .int 30]) (rest := []) ⟨hx, hb, hml, hown, hT⟩ (c_X11_within l p2 0 30) (va_cwS 3 hT (gS t_1 t_3 t_4 t_2) rfl rfl rfl (by decide +kernel) ⟨Nat.le_of_ble_eq_true rfl, Nat.le_of_ble_eq_true rfl⟩) preT rfl rfl hl.1 rfl (lv_room (Nat.le_of_ble_eq_true rfl)) dX11_led_34 ⟨Nat.le_of_ble_eq_true rfl, Nat.le_of_ble_eq_true rfl⟩) (fun r_7 hr_7 => ?_)
    have hr_7 : BR r_7 (0 ≤ p2.toInt ∧ p2.toInt ≤ 30) 1 0 := hr_7
    rcases hr_7 with ⟨rfl, h_8⟩ | ⟨rfl, h_8⟩
    · skip
      refine lv_if_ne (tgt := 42) hx hb dX11_led_37 (by decide) (fun c_9 => ?_) (fun c_9 => absurd c_9 (by decide))
      refine lv_aload_n hx hb dX11_led_42 rfl (lv_at hl 1 rfl) ?_
      refine lv_aload hx hb dX11_led_43 (lv_at hl 0 rfl) ?_
      refine lv_iload_n hx hb dX11_led_45 rfl (lv_at hl 3 rfl) ?_
      refine lv_bipush (v := 12) hx hb dX11_led_46 (by decide) ?_
      refine lv_iload_n hx hb dX11_led_48 rfl (lv_at hl 4 rfl) ?_
      refine lv_imul hx hb dX11_led_49 ?_
      refine lv_topi (fun v_10 ev_10 => ?_)
      have hv_10 : v_10.toInt = 12 * p2.toInt := by rw [ev_10]; have := b_rg p2; exact i_mul (a := 12) (b := p2.toInt) rfl rfl (by omega) (by omega)
      refine vp_callSi (W.runV (As := [.ref (a 61), .int p1, .int v_10]) (rest := []) ⟨hx, hb, hml, hown, hT⟩ (c_X11_worth9 l D cy a i r q tl p1 v_10 hRi hRr (by omega)) (cwV 3 hT (gV t_522 t_523 t_524 t_525 t_2) rfl rfl rfl (by decide +kernel) ⟨Nat.le_of_ble_eq_true rfl, Nat.le_of_ble_eq_true rfl⟩) (rP_v hP hK (va_recv hK hP (ci := 11) (q0 := 0) rfl rfl)) rfl rfl hl.1 rfl (lv_room (Nat.le_of_ble_eq_true rfl)) dX11_led_50 ⟨Nat.le_of_ble_eq_true rfl, Nat.le_of_ble_eq_true rfl⟩) (fun r_11 hr_11 => ?_)
      subst hQ
      have hz9 : 0 < (r 2 (r 67 p1.toNatClampNeg).toNatClampNeg).toInt → r_11 = WOR (r 2 (r 67 p1.toNatClampNeg).toNatClampNeg) (r 3 (4 * (r 67 p1.toNatClampNeg).toInt + (i 17).toInt).toNat) (r 69 p1.toNatClampNeg + v_10) := hr_11
      rw [ev_10] at hz9
      exact W.iret (v := r_11) hx hb hr (fun t ht hW => ⟨_, rfl, ⟨fun _ => hz9, fun h9 => absurd (by omega) h9⟩, ht⟩) (fun q hq => absurd hq List.not_mem_nil) dX11_led_53
    · skip
      refine lv_if_ne (tgt := 42) hx hb dX11_led_37 (by decide) (fun c_12 => absurd (by decide) c_12) (fun c_12 => ?_)
      refine lv_iconst (v := (-1)) hx hb dX11_led_40 (by decide) ?_
      subst hQ
      exact W.iret (v := (-1)) hx hb hr (fun t ht hW => ⟨_, rfl, ⟨fun h9 => absurd h9 (by omega), fun _ => rfl⟩, ht⟩) (fun q hq => absurd hq List.not_mem_nil) dX11_led_41
  · skip
    refine lv_if_eq (tgt := 40) hx hb dX11_led_27 (by decide) (fun c_13 => ?_) (fun c_13 => absurd (by decide) c_13)
    refine lv_iconst (v := (-1)) hx hb dX11_led_40 (by decide) ?_
    subst hQ
    exact W.iret (v := (-1)) hx hb hr (fun t ht hW => ⟨_, rfl, ⟨fun h9 => absurd h9 (by omega), fun _ => rfl⟩, ht⟩) (fun q hq => absurd hq List.not_mem_nil) dX11_led_41
