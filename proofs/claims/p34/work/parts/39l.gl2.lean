set_option maxHeartbeats 4000000 in
set_option maxRecDepth 100000 in
theorem c_X3_months9 (l : Launch) (D : va_G) (cy : Nat → ClassId) (a : Nat → Nat) (i : Nat → Int32) (r : Nat → Nat → Int32) (q : Nat → Option Nat) (tl : va_W) (hRi : yRi i) (hRr : yRr r) : Met l yX3_months (Cond.code yX3_months cX3_months 1 (some .int) :: gT) { frames := 1, cells := 0, slots := 0, locals := 24 } (va_Pc [.ref (a 61)] (rP D cy (xW cy a i r q (a 20) (a 12) ++ (hW cy a i r ++ tl)))) (vp_Si (fun z => z.toInt = (i 21).toInt - (i 20).toInt ∧ (-999 ≤ z.toInt ∧ z.toInt ≤ 999))) 0 0 (fun _ => False) := by
  refine Met.ofQ (cc := cX3_months) (maxL := 1) (ret := (some .int)) (by decide) rfl ?_
  intro p e s m args below meth c s₁ B hml hv Q hQ
  obtain ⟨rfl, hP, hK⟩ := hv
  have hx := B.exec
  have hb := B.bytes
  have hr := B.returns
  have hlocks := B.notSynchronized
  have hT : ∀ w ∈ gT, w.before _ s = true := fun w h => atoms_spec (ws := (Cond.code yX3_months cX3_months 1 (some .int) :: gT)) B.pre w (List.mem_cons_of_mem _ h)
  have hown : s.vm.findClass RX3 = some m.cls := findClass_of_methodNamed B.named
  have hl := lv_entry ([.ref (a 61)]) (n := 1) (Nat.le_of_ble_eq_true rfl)
  rw [lg_entry_eq]
  generalize (lg_sl ([.ref (a 61)]) ++ List.replicate (1 - (lg_sl ([.ref (a 61)])).length) Slot.unset).toArray = ls at hl ⊢
  have hl : lv_has ls 1 [(0, .ref (a 61))] := hl
  have hEi : mEi [] i i := Ei_rf
  have hEr : mEr [] r r := Er_rf
  refine lv_aload_n hx hb dX3_months_0 rfl (lv_at hl 0 rfl) ?_
  refine va_get (D := D) (ci := 3) (v := .int (i 21)) (C := RX3) (T := TX3) (N := 12) hx hb hT iX3 hown hK hP 61 rfl rfl 4 (by decide) (hT _ t_383) (fun _ h9 => h9) rfl dX3_months_1 ?_
  have hg_1 : 0 ≤ (i 21).toInt ∧ (i 21).toInt ≤ 999 := hRi 21
  refine lv_aload_n hx hb dX3_months_4 rfl (lv_at hl 0 rfl) ?_
  refine va_get (D := D) (ci := 3) (v := .int (i 20)) (C := RX3) (T := TX3) (N := 12) hx hb hT iX3 hown hK hP 61 rfl rfl 3 (by decide) (hT _ t_384) (fun _ h9 => h9) rfl dX3_months_5 ?_
  have hg_2 : 0 ≤ (i 20).toInt ∧ (i 20).toInt ≤ 999 := hRi 20
  refine lv_isub hx hb dX3_months_8 ?_
  refine lv_topi (fun v_3 ev_3 => ?_)
  have hv_3 : v_3.toInt = (i 21).toInt - (i 20).toInt := by rw [ev_3]; have := b_rg (i 21); have := b_rg (i 20); exact i_sub (a := (i 21).toInt) (b := (i 20).toInt) rfl rfl (by omega) (by omega)
  subst hQ
  exact W.iret (v := v_3) hx hb hr (fun t ht hW => ⟨_, rfl, ⟨by omega, by omega⟩, ht⟩) (fun q hq => absurd hq List.not_mem_nil) dX3_months_9
set_option maxHeartbeats 4000000 in
set_option maxRecDepth 100000 in
theorem c_X3_stateAtLast9 (l : Launch) (D : va_G) (cy : Nat → ClassId) (a : Nat → Nat) (i : Nat → Int32) (r : Nat → Nat → Int32) (q : Nat → Option Nat) (tl : va_W) (p0 : Int32) (hRi : yRi i) (hRr : yRr r) (q0 : 0 ≤ p0.toInt ∧ p0.toInt ≤ 19) : Met l yX3_stateAtLast (Cond.code yX3_stateAtLast cX3_stateAtLast 2 (some .int) :: gT) { frames := 2, cells := 0, slots := 0, locals := 45 } (va_Pc [.ref (a 61), .int p0] (rP D cy (xW cy a i r q (a 20) (a 12) ++ (hW cy a i r ++ tl)))) (vp_Si (fun z => z.toInt = lkX (r 75) (r 73) (i 24).toInt p0.toNatClampNeg ∧ (0 ≤ z.toInt ∧ z.toInt ≤ 9))) 0 0 (fun _ => False) := by
  refine Met.ofQ (cc := cX3_stateAtLast) (maxL := 2) (ret := (some .int)) (by decide) rfl ?_
  intro p e s m args below meth c s₁ B hml hv Q hQ
  obtain ⟨rfl, hP, hK⟩ := hv
  have hx := B.exec
  have hb := B.bytes
  have hr := B.returns
  have hlocks := B.notSynchronized
  have hT : ∀ w ∈ gT, w.before _ s = true := fun w h => atoms_spec (ws := (Cond.code yX3_stateAtLast cX3_stateAtLast 2 (some .int) :: gT)) B.pre w (List.mem_cons_of_mem _ h)
  have hown : s.vm.findClass RX3 = some m.cls := findClass_of_methodNamed B.named
  have hl := lv_entry ([.ref (a 61), .int p0]) (n := 2) (Nat.le_of_ble_eq_true rfl)
  rw [lg_entry_eq]
  generalize (lg_sl ([.ref (a 61), .int p0]) ++ List.replicate (2 - (lg_sl ([.ref (a 61), .int p0])).length) Slot.unset).toArray = ls at hl ⊢
  have hl : lv_has ls 2 [(0, .ref (a 61)), (1, .int p0)] := hl
  have hEi : mEi [] i i := Ei_rf
  have hEr : mEr [] r r := Er_rf
  refine lv_aload_n hx hb dX3_stateAtLast_0 rfl (lv_at hl 0 rfl) ?_
  refine lv_iload_n hx hb dX3_stateAtLast_1 rfl (lv_at hl 1 rfl) ?_
  refine vp_callSi (W.runV (As := [.int p0]) (rest := []) ⟨hx, hb, hml, hown, hT⟩ (c_X3_isGone l D cy a i r q tl p0 hRi hRr (by first | omega | decide)) (cwV 1 hT (gV t_390 t_392 t_393 t_394 t_391) rfl rfl rfl (by decide +kernel) ⟨Nat.le_of_ble_eq_true rfl, Nat.le_of_ble_eq_true rfl⟩) (rP_v hP hK (va_recv hK hP (ci := 3) (q0 := 61) rfl rfl)) rfl rfl hl.1 rfl (lv_room (Nat.le_of_ble_eq_true rfl)) dX3_stateAtLast_2 ⟨Nat.le_of_ble_eq_true rfl, Nat.le_of_ble_eq_true rfl⟩) (fun r_1 hr_1 => ?_)
  have hr_1 : BR r_1 ((r 75 p0.toNatClampNeg).toInt < 0 ∨ (i 24).toInt ≤ (r 75 p0.toNatClampNeg).toInt) 1 0 := hr_1
  rcases hr_1 with ⟨rfl, h_2⟩ | ⟨rfl, h_2⟩
  · skip
    refine lv_if_eq (tgt := 12) hx hb dX3_stateAtLast_5 (by decide) (fun c_3 => absurd c_3 (by decide)) (fun c_3 => ?_)
    refine lv_iconst (v := 0) hx hb dX3_stateAtLast_8 (by decide) ?_
    refine lv_goto (tgt := 26) hx hb dX3_stateAtLast_9 (by decide) ?_
    subst hQ
    exact W.iret (v := 0) hx hb hr (fun t ht hW => ⟨_, rfl, ⟨by unfold lkX; rw [if_pos h_2]; rfl, by decide⟩, ht⟩) (fun q hq => absurd hq List.not_mem_nil) dX3_stateAtLast_26
  · skip
    refine lv_if_eq (tgt := 12) hx hb dX3_stateAtLast_5 (by decide) (fun c_4 => ?_) (fun c_4 => absurd (by decide) c_4)
    refine lv_aload_n hx hb dX3_stateAtLast_12 rfl (lv_at hl 0 rfl) ?_
    refine va_get (D := D) (ci := 3) (v := .ref (a 70)) (C := RX3) (T := TX3) (N := 12) hx hb hT iX3 hown hK hP 61 rfl rfl 10 (by decide) (hT _ t_388) (fun _ h9 => h9) rfl dX3_stateAtLast_13 ?_
    refine va_get (D := D) (ci := 10) (v := .ref (a 73)) (C := RX10) (T := TX10) (N := 5) hx hb hT iX10 hown hK hP 70 rfl rfl 3 (by decide) (hT _ t_395) (fun _ h9 => h9) rfl dX3_stateAtLast_16 ?_
    refine lv_aload_n hx hb dX3_stateAtLast_19 rfl (lv_at hl 0 rfl) ?_
    refine va_get (D := D) (ci := 3) (v := .ref (a 75)) (C := RX3) (T := TX3) (N := 12) hx hb hT iX3 hown hK hP 61 rfl rfl 11 (by decide) (hT _ t_387) (fun _ h9 => h9) rfl dX3_stateAtLast_20 ?_
    refine lv_iload_n hx hb dX3_stateAtLast_23 rfl (lv_at hl 1 rfl) ?_
    refine va_iald hx hb hK hP 75 0 rfl rfl (vp_inI (by omega) (by omega)) dX3_stateAtLast_24 ?_
    refine lv_topi (fun v_5 ev_5 => ?_)
    have hgv_5 : -2 ≤ v_5.toInt ∧ v_5.toInt ≤ 19 := by rw [ev_5]; exact hRr 75 _
    have hwv_5 : v_5.toInt = (r 75 (p0.toNatClampNeg)).toInt := congrArg Int32.toInt ev_5
    have hg24 : 0 ≤ (i 24).toInt ∧ (i 24).toInt ≤ 20 := hRi 24
    have hqv_5 : 0 ≤ v_5.toInt ∧ v_5.toInt ≤ 19 := by omega
    refine va_iald hx hb hK hP 73 0 rfl rfl (vp_inI (by omega) (by omega)) dX3_stateAtLast_25 ?_
    refine lv_topi (fun v_6 ev_6 => ?_)
    have hgv_6 : 0 ≤ v_6.toInt ∧ v_6.toInt ≤ 9 := by rw [ev_6]; exact hRr 73 _
    subst hQ
    exact W.iret (v := v_6) hx hb hr (fun t ht hW => ⟨_, rfl, ⟨by unfold lkX; rw [if_neg h_2]; exact congrArg Int32.toInt (ev_6.trans (congrArg (fun k9 : Int32 => r 73 k9.toNatClampNeg) ev_5)), by omega⟩, ht⟩) (fun q hq => absurd hq List.not_mem_nil) dX3_stateAtLast_26
set_option maxHeartbeats 4000000 in
set_option maxRecDepth 100000 in
theorem c_X3_worsened9 (l : Launch) (D : va_G) (cy : Nat → ClassId) (a : Nat → Nat) (i : Nat → Int32) (r : Nat → Nat → Int32) (q : Nat → Option Nat) (tl : va_W) (p0 : Int32) (hRi : yRi i) (hRr : yRr r) : Met l yX3_worsened (Cond.code yX3_worsened cX3_worsened 4 (some .int) :: gT) { frames := 3, cells := 0, slots := 0, locals := 66 } (va_Pc [.ref (a 61), .int p0] (rP D cy (xW cy a i r q (a 20) (a 12) ++ (hW cy a i r ++ tl)))) (vp_Si (fun z => z.toInt = lkW (lkX (r 75) (r 73) (i 24).toInt) (r 67) (r 68) p0.toInt (i 23).toNatClampNeg ∧ (0 ≤ z.toInt ∧ z.toInt ≤ 20))) 0 0 (fun _ => False) := by
  refine Met.ofQ (cc := cX3_worsened) (maxL := 4) (ret := (some .int)) (by decide) rfl ?_
  intro p e s m args below meth c s₁ B hml hv Q hQ
  obtain ⟨rfl, hP, hK⟩ := hv
  have hx := B.exec
  have hb := B.bytes
  have hr := B.returns
  have hlocks := B.notSynchronized
  have hT : ∀ w ∈ gT, w.before _ s = true := fun w h => atoms_spec (ws := (Cond.code yX3_worsened cX3_worsened 4 (some .int) :: gT)) B.pre w (List.mem_cons_of_mem _ h)
  have hown : s.vm.findClass RX3 = some m.cls := findClass_of_methodNamed B.named
  have hl := lv_entry ([.ref (a 61), .int p0]) (n := 4) (Nat.le_of_ble_eq_true rfl)
  rw [lg_entry_eq]
  generalize (lg_sl ([.ref (a 61), .int p0]) ++ List.replicate (4 - (lg_sl ([.ref (a 61), .int p0])).length) Slot.unset).toArray = ls at hl ⊢
  have hl : lv_has ls 4 [(0, .ref (a 61)), (1, .int p0)] := hl
  have hEi : mEi [] i i := Ei_rf
  have hEr : mEr [] r r := Er_rf
  have hg23 : 0 ≤ (i 23).toInt ∧ (i 23).toInt ≤ 20 := hRi 23
  refine lv_iconst (v := 0) hx hb dX3_worsened_0 (by decide) ?_
  refine lv_istore_n (lv' := [(2, .int 0), (0, .ref (a 61)), (1, .int p0)]) hx hb dX3_worsened_1 rfl hl (by decide) rfl (fun ls hl => ?_)
  refine lv_iconst (v := 0) hx hb dX3_worsened_2 (by decide) ?_
  refine lv_istore_n (lv' := [(3, .int 0), (2, .int 0), (0, .ref (a 61)), (1, .int p0)]) hx hb dX3_worsened_3 rfl hl (by decide) rfl (fun ls hl => ?_)
  have loop_1 : ∀ (n : Nat) (x1_3 : Int32) (x1_2 : Int32) (ls : Array Slot), (20 - x1_3.toInt).toNat < n → (0 ≤ x1_3.toInt ∧ x1_3.toInt ≤ 20) → (0 ≤ x1_2.toInt ∧ x1_2.toInt ≤ 20) → (x1_2.toInt = lkW (lkX (r 75) (r 73) (i 24).toInt) (r 67) (r 68) p0.toInt (x1_3.toNatClampNeg) ∧ x1_3.toInt ≤ (i 23).toInt) → lv_has ls 4 [(3, .int x1_3), (2, .int x1_2), (0, .ref (a 61)), (1, .int p0)] → W p l e ({ frames := 3, cells := 0, slots := 0, locals := 66 } : Room) s m ([.ref (a 61), .int p0] : List Value).toArray below meth c s.heap [] 0 0 Q (F0 m 4 ls []) := by
    intro n
    induction n with
    | zero =>
      intro x1_3 x1_2 ls hm1 hf1_0 hf1_1 hx1 hl
      exact absurd hm1 (by omega)
    | succ n ih1 =>
      intro x1_3 x1_2 ls hm1 hf1_0 hf1_1 hx1 hl
      refine lv_iload_n hx hb dX3_worsened_4 rfl (lv_at hl 0 rfl) ?_
      refine lv_aload_n hx hb dX3_worsened_5 rfl (lv_at hl 2 rfl) ?_
      refine va_get (D := D) (ci := 3) (v := .ref (a 65)) (C := RX3) (T := TX3) (N := 12) hx hb hT iX3 hown hK hP 61 rfl rfl 9 (by decide) (hT _ t_396) (fun _ h9 => h9) rfl dX3_worsened_6 ?_
      refine va_get (D := D) (ci := 10) (v := .int (i 23)) (C := RX10) (T := TX10) (N := 5) hx hb hT iX10 hown hK hP 65 rfl rfl 0 (by decide) (hT _ t_389) (fun _ h9 => h9) rfl dX3_worsened_9 ?_
      have hg_2 : 0 ≤ (i 23).toInt ∧ (i 23).toInt ≤ 20 := hRi 23
      refine lv_icmp_ge (tgt := 54) hx hb dX3_worsened_12 (by decide) (fun c_3 => ?_) (fun c_3 => ?_)
      · have c_3 : (i 23).toInt ≤ x1_3.toInt := b_le c_3
        refine lv_iload_n hx hb dX3_worsened_54 rfl (lv_at hl 1 rfl) ?_
        subst hQ
        have hk : x1_3.toNatClampNeg = (i 23).toNatClampNeg := by show x1_3.toInt.toNat = (i 23).toInt.toNat; omega
        have hv1 := hx1.1
        rw [hk] at hv1
        exact W.iret (v := x1_2) hx hb hr (fun t ht hW => ⟨_, rfl, ⟨hv1, by omega⟩, ht⟩) (fun q hq => absurd hq List.not_mem_nil) dX3_worsened_55
      · have c_3 : x1_3.toInt < (i 23).toInt := b_nle c_3
        refine lv_aload_n hx hb dX3_worsened_15 rfl (lv_at hl 2 rfl) ?_
        refine va_get (D := D) (ci := 3) (v := .ref (a 65)) (C := RX3) (T := TX3) (N := 12) hx hb hT iX3 hown hK hP 61 rfl rfl 9 (by decide) (hT _ t_396) (fun _ h9 => h9) rfl dX3_worsened_16 ?_
        refine va_get (D := D) (ci := 10) (v := .ref (a 67)) (C := RX10) (T := TX10) (N := 5) hx hb hT iX10 hown hK hP 65 rfl rfl 2 (by decide) (hT _ t_401) (fun _ h9 => h9) rfl dX3_worsened_19 ?_
        refine lv_iload_n hx hb dX3_worsened_22 rfl (lv_at hl 0 rfl) ?_
        refine va_iald hx hb hK hP 67 0 rfl rfl (vp_inI (by omega) (by omega)) dX3_worsened_23 ?_
        refine lv_topi (fun v_4 ev_4 => ?_)
        have hgv_4 : 0 ≤ v_4.toInt ∧ v_4.toInt ≤ 7 := by rw [ev_4]; exact hRr 67 _
        have hwv_4 : v_4.toInt = (r 67 (x1_3.toNatClampNeg)).toInt := congrArg Int32.toInt ev_4
        refine lv_iload_n hx hb dX3_worsened_24 rfl (lv_at hl 3 rfl) ?_
        refine lv_icmp_ne (tgt := 48) hx hb dX3_worsened_25 (by decide) (fun c_5 => ?_) (fun c_5 => ?_)
        · have c_5 : v_4.toInt ≠ p0.toInt := b_ne c_5
          obtain ⟨x_6, ex_6⟩ : ∃ y : Int32, y = x1_3 + 1 := ⟨_, rfl⟩
          refine lv_iinc (v := x_6) (lv' := [(3, .int x_6), (2, .int x1_2), (0, .ref (a 61)), (1, .int p0)]) hx hb dX3_worsened_48 hl (k := 0) rfl (by rw [ex_6]; rfl) (by decide) rfl (fun ls hl => ?_)
          have hx_6 : x_6.toInt = x1_3.toInt + 1 := by rw [ex_6]; have := b_rg x1_3; exact i_add (a := x1_3.toInt) (b := 1) rfl rfl (by omega) (by omega)
          refine lv_goto (tgt := 4) hx hb dX3_worsened_51 (by decide) ?_
          have hk : x_6.toNatClampNeg = x1_3.toNatClampNeg + 1 := by show x_6.toInt.toNat = x1_3.toInt.toNat + 1; omega
          have hv1 := hx1.1
          have hv2 := hx1.2
          have hw9 : x1_2.toInt = lkW (lkX (r 75) (r 73) (i 24).toInt) (r 67) (r 68) p0.toInt (x_6.toNatClampNeg) := by rw [hk, lkW_n (fun h9 => by have h8 := h9.1; have h7 := h9.2; omega)]; omega
          have hlb := lkW_r (S := (lkX (r 75) (r 73) (i 24).toInt)) (fk := r 67) (fs := r 68) (kd := p0.toInt) (x_6.toNatClampNeg)
          have hyn : ((x_6.toNatClampNeg : Nat) : Int) = x_6.toInt := by show ((x_6.toInt.toNat : Nat) : Int) = _; omega
          exact ih1 x_6 x1_2 _ (by first | omega | (simp only [Int.toNat]; omega)) (by first | omega | decide) (by first | omega | decide)  ⟨hw9, by omega⟩  (lv_sub hl [0, 1, 2, 3] rfl)
        · have c_5 : v_4.toInt = p0.toInt := b_nne c_5
          refine lv_aload_n hx hb dX3_worsened_28 rfl (lv_at hl 2 rfl) ?_
          refine lv_iload_n hx hb dX3_worsened_29 rfl (lv_at hl 0 rfl) ?_
          refine vp_callSi (W.runV (As := [.int x1_3]) (rest := []) ⟨hx, hb, hml, hown, hT⟩ (c_X3_stateAtLast9 l D cy a i r q tl x1_3 hRi hRr (by first | omega | decide)) (cwV 1 hT (gV t_397 t_398 t_399 t_400 t_391) rfl rfl rfl (by decide +kernel) ⟨Nat.le_of_ble_eq_true rfl, Nat.le_of_ble_eq_true rfl⟩) (rP_v hP hK (va_recv hK hP (ci := 3) (q0 := 61) rfl rfl)) rfl rfl hl.1 rfl (lv_room (Nat.le_of_ble_eq_true rfl)) dX3_worsened_30 ⟨Nat.le_of_ble_eq_true rfl, Nat.le_of_ble_eq_true rfl⟩) (fun r_7 hr_7 => ?_)
          have hqr_7 : r_7.toInt = (lkX (r 75) (r 73) (i 24).toInt) x1_3.toNatClampNeg := hr_7.1
          have hr_7 : 0 ≤ r_7.toInt ∧ r_7.toInt ≤ 9 := hr_7.2
          refine lv_aload_n hx hb dX3_worsened_33 rfl (lv_at hl 2 rfl) ?_
          refine va_get (D := D) (ci := 3) (v := .ref (a 65)) (C := RX3) (T := TX3) (N := 12) hx hb hT iX3 hown hK hP 61 rfl rfl 9 (by decide) (hT _ t_396) (fun _ h9 => h9) rfl dX3_worsened_34 ?_
          refine va_get (D := D) (ci := 10) (v := .ref (a 68)) (C := RX10) (T := TX10) (N := 5) hx hb hT iX10 hown hK hP 65 rfl rfl 3 (by decide) (hT _ t_395) (fun _ h9 => h9) rfl dX3_worsened_37 ?_
          refine lv_iload_n hx hb dX3_worsened_40 rfl (lv_at hl 0 rfl) ?_
          refine va_iald hx hb hK hP 68 0 rfl rfl (vp_inI (by omega) (by omega)) dX3_worsened_41 ?_
          refine lv_topi (fun v_8 ev_8 => ?_)
          have hgv_8 : 0 ≤ v_8.toInt ∧ v_8.toInt ≤ 9 := by rw [ev_8]; exact hRr 68 _
          have hwv_8 : v_8.toInt = (r 68 (x1_3.toNatClampNeg)).toInt := congrArg Int32.toInt ev_8
          refine lv_icmp_ge (tgt := 48) hx hb dX3_worsened_42 (by decide) (fun c_9 => ?_) (fun c_9 => ?_)
          · have c_9 : v_8.toInt ≤ r_7.toInt := b_le c_9
            obtain ⟨x_10, ex_10⟩ : ∃ y : Int32, y = x1_3 + 1 := ⟨_, rfl⟩
            refine lv_iinc (v := x_10) (lv' := [(3, .int x_10), (2, .int x1_2), (0, .ref (a 61)), (1, .int p0)]) hx hb dX3_worsened_48 hl (k := 0) rfl (by rw [ex_10]; rfl) (by decide) rfl (fun ls hl => ?_)
            have hx_10 : x_10.toInt = x1_3.toInt + 1 := by rw [ex_10]; have := b_rg x1_3; exact i_add (a := x1_3.toInt) (b := 1) rfl rfl (by omega) (by omega)
            refine lv_goto (tgt := 4) hx hb dX3_worsened_51 (by decide) ?_
            have hk : x_10.toNatClampNeg = x1_3.toNatClampNeg + 1 := by show x_10.toInt.toNat = x1_3.toInt.toNat + 1; omega
            have hv1 := hx1.1
            have hv2 := hx1.2
            have hw9 : x1_2.toInt = lkW (lkX (r 75) (r 73) (i 24).toInt) (r 67) (r 68) p0.toInt (x_10.toNatClampNeg) := by rw [hk, lkW_n (fun h9 => by have h8 := h9.1; have h7 := h9.2; omega)]; omega
            have hlb := lkW_r (S := (lkX (r 75) (r 73) (i 24).toInt)) (fk := r 67) (fs := r 68) (kd := p0.toInt) (x_10.toNatClampNeg)
            have hyn : ((x_10.toNatClampNeg : Nat) : Int) = x_10.toInt := by show ((x_10.toInt.toNat : Nat) : Int) = _; omega
            exact ih1 x_10 x1_2 _ (by first | omega | (simp only [Int.toNat]; omega)) (by first | omega | decide) (by first | omega | decide)  ⟨hw9, by omega⟩  (lv_sub hl [0, 1, 2, 3] rfl)
          · have c_9 : r_7.toInt < v_8.toInt := b_nle c_9
            obtain ⟨x_11, ex_11⟩ : ∃ y : Int32, y = x1_2 + 1 := ⟨_, rfl⟩
            refine lv_iinc (v := x_11) (lv' := [(2, .int x_11), (3, .int x1_3), (0, .ref (a 61)), (1, .int p0)]) hx hb dX3_worsened_45 hl (k := 1) rfl (by rw [ex_11]; rfl) (by decide) rfl (fun ls hl => ?_)
            have hx_11 : x_11.toInt = x1_2.toInt + 1 := by rw [ex_11]; have := b_rg x1_2; exact i_add (a := x1_2.toInt) (b := 1) rfl rfl (by omega) (by omega)
            obtain ⟨x_12, ex_12⟩ : ∃ y : Int32, y = x1_3 + 1 := ⟨_, rfl⟩
            refine lv_iinc (v := x_12) (lv' := [(3, .int x_12), (2, .int x_11), (0, .ref (a 61)), (1, .int p0)]) hx hb dX3_worsened_48 hl (k := 1) rfl (by rw [ex_12]; rfl) (by decide) rfl (fun ls hl => ?_)
            have hx_12 : x_12.toInt = x1_3.toInt + 1 := by rw [ex_12]; have := b_rg x1_3; exact i_add (a := x1_3.toInt) (b := 1) rfl rfl (by omega) (by omega)
            refine lv_goto (tgt := 4) hx hb dX3_worsened_51 (by decide) ?_
            have hk : x_12.toNatClampNeg = x1_3.toNatClampNeg + 1 := by show x_12.toInt.toNat = x1_3.toInt.toNat + 1; omega
            have hv1 := hx1.1
            have hv2 := hx1.2
            have hw9 : x_11.toInt = lkW (lkX (r 75) (r 73) (i 24).toInt) (r 67) (r 68) p0.toInt (x_12.toNatClampNeg) := by rw [hk, lkW_y ⟨by omega, by omega⟩]; omega
            have hlb := lkW_r (S := (lkX (r 75) (r 73) (i 24).toInt)) (fk := r 67) (fs := r 68) (kd := p0.toInt) (x_12.toNatClampNeg)
            have hyn : ((x_12.toNatClampNeg : Nat) : Int) = x_12.toInt := by show ((x_12.toInt.toNat : Nat) : Int) = _; omega
            exact ih1 x_12 x_11 _ (by first | omega | (simp only [Int.toNat]; omega)) (by first | omega | decide) (by first | omega | decide)  ⟨hw9, by omega⟩  (lv_sub hl [0, 1, 2, 3] rfl)
  exact loop_1 _ 0 0 _ (Nat.lt_succ_self _) (by first | omega | decide) (by first | omega | decide)  ⟨rfl, by have h9 : (0 : Int32).toInt = 0 := rfl; omega⟩  hl
set_option maxHeartbeats 4000000 in
set_option maxRecDepth 100000 in
theorem c_X11_distance9 (l : Launch) (D : va_G) (cy : Nat → ClassId) (a : Nat → Nat) (i : Nat → Int32) (r : Nat → Nat → Int32) (q : Nat → Option Nat) (tl : va_W) (b9 : Nat → Nat) (j9 : Nat → Int32) (r9 : Nat → Nat → Int32) (tl9 : va_W) (hRi : yRi i) (hRr : yRr r) (hRi9 : yRi j9) (hRr9 : yRr r9) : Met l yX11_distance (Cond.code yX11_distance cX11_distance 4 (some .int) :: gT) { frames := 4, cells := 0, slots := 0, locals := 89 } (va_Pc [.ref (a 61), .ref (b9 61)] (rP2 D cy (xW cy a i r q (a 20) (a 12) ++ (hW cy a i r ++ tl)) (xW cy b9 j9 r9 q (b9 20) (b9 12) ++ (hW cy b9 j9 r9 ++ tl9)))) (vp_Si (fun z => z.toInt = lkD ((i 21).toInt - (i 20).toInt) ((j9 21).toInt - (j9 20).toInt) (fun k9 : Nat => lkW (lkX (r 75) (r 73) (i 24).toInt) (r 67) (r 68) ((k9 : Nat) : Int) (i 23).toNatClampNeg) (fun k9 : Nat => lkW (lkX (r9 75) (r9 73) (j9 24).toInt) (r9 67) (r9 68) ((k9 : Nat) : Int) (j9 23).toNatClampNeg))) 0 0 (fun _ => False) := by
  refine Met.ofQ (cc := cX11_distance) (maxL := 4) (ret := (some .int)) (by decide) rfl ?_
  intro p e s m args below meth c s₁ B hml hv Q hQ
  obtain ⟨rfl, hP, hP9, hK⟩ := hv
  have hx := B.exec
  have hb := B.bytes
  have hr := B.returns
  have hlocks := B.notSynchronized
  have hT : ∀ w ∈ gT, w.before _ s = true := fun w h => atoms_spec (ws := (Cond.code yX11_distance cX11_distance 4 (some .int) :: gT)) B.pre w (List.mem_cons_of_mem _ h)
  have hown : s.vm.findClass RX11 = some m.cls := findClass_of_methodNamed B.named
  have hl := lv_entry ([.ref (a 61), .ref (b9 61)]) (n := 4) (Nat.le_of_ble_eq_true rfl)
  rw [lg_entry_eq]
  generalize (lg_sl ([.ref (a 61), .ref (b9 61)]) ++ List.replicate (4 - (lg_sl ([.ref (a 61), .ref (b9 61)])).length) Slot.unset).toArray = ls at hl ⊢
  have hl : lv_has ls 4 [(0, .ref (a 61)), (1, .ref (b9 61))] := hl
  have hEi : mEi [] i i := Ei_rf
  have hEr : mEr [] r r := Er_rf
  refine lv_aload_n hx hb dX11_distance_0 rfl (lv_at hl 0 rfl) ?_
  refine vp_callSi (W.runV (As := []) (rest := []) ⟨hx, hb, hml, hown, hT⟩ (c_X3_months9 l D cy a i r q tl hRi hRr) (cwV 0 hT (gV t_501 t_502 t_503 t_504 t_391) rfl rfl rfl (by decide +kernel) ⟨Nat.le_of_ble_eq_true rfl, Nat.le_of_ble_eq_true rfl⟩) (rP_v hP hK (va_recv hK hP (ci := 3) (q0 := 61) rfl rfl)) rfl rfl hl.1 rfl (lv_room (Nat.le_of_ble_eq_true rfl)) dX11_distance_1 ⟨Nat.le_of_ble_eq_true rfl, Nat.le_of_ble_eq_true rfl⟩) (fun r_1 hr_1 => ?_)
  have hqr_1 : r_1.toInt = (i 21).toInt - (i 20).toInt := hr_1.1
  have hr_1 : -999 ≤ r_1.toInt ∧ r_1.toInt ≤ 999 := hr_1.2
  refine lv_aload_n hx hb dX11_distance_4 rfl (lv_at hl 1 rfl) ?_
  refine vp_callSi (W.runV (As := []) (rest := [.int r_1]) ⟨hx, hb, hml, hown, hT⟩ (c_X3_months9 l D cy b9 j9 r9 q tl9 hRi9 hRr9) (cwV 0 hT (gV t_501 t_502 t_503 t_504 t_391) rfl rfl rfl (by decide +kernel) ⟨Nat.le_of_ble_eq_true rfl, Nat.le_of_ble_eq_true rfl⟩) (rP_v hP9 hK (va_recv hK hP9 (ci := 3) (q0 := 61) rfl rfl)) rfl rfl hl.1 rfl (lv_room (Nat.le_of_ble_eq_true rfl)) dX11_distance_5 ⟨Nat.le_of_ble_eq_true rfl, Nat.le_of_ble_eq_true rfl⟩) (fun r_2 hr_2 => ?_)
  have hqr_2 : r_2.toInt = (j9 21).toInt - (j9 20).toInt := hr_2.1
  have hr_2 : -999 ≤ r_2.toInt ∧ r_2.toInt ≤ 999 := hr_2.2
  refine lv_isub hx hb dX11_distance_8 ?_
  refine lv_topi (fun v_3 ev_3 => ?_)
  have hv_3 : v_3.toInt = r_1.toInt - r_2.toInt := by rw [ev_3]; have := b_rg r_1; have := b_rg r_2; exact i_sub (a := r_1.toInt) (b := r_2.toInt) rfl rfl (by omega) (by omega)
  refine va_mabs hx hb (by rw [hml]; exact hl.1.symm) hown (hT _ t_328) (hT _ t_288) (hT _ t_289) (hT _ t_290) (Nat.le_of_ble_eq_true rfl) (Nat.le_of_ble_eq_true rfl) (Nat.le_of_ble_eq_true rfl) (Nat.le_of_ble_eq_true rfl) dX11_distance_9 ?_
  refine lv_topi (fun v_4 ev_4 => ?_)
  have hav_4 : v_4.toInt = lkA v_3.toInt := by rw [ev_4]; exact ABS_A (x := v_3) (by omega)
  have hrv_4 : 0 ≤ v_4.toInt ∧ v_4.toInt ≤ 1998 := by rw [hav_4]; exact lkA_r (by omega) (by omega)
  refine lv_bipush (v := 12) hx hb dX11_distance_12 (by decide) ?_
  refine lv_idiv hx hb dX11_distance_14 (by decide) ?_
  refine lv_topi (fun v_5 ev_5 => ?_)
  have hdv_5 : v_5.toInt = lkA (((i 21).toInt - (i 20).toInt) - ((j9 21).toInt - (j9 20).toInt)) / 12 := by rw [ev_5, idiv12 (by omega), hav_4, show v_3.toInt = ((i 21).toInt - (i 20).toInt) - ((j9 21).toInt - (j9 20).toInt) by omega]
  have hbv_5 : 0 ≤ v_5.toInt ∧ v_5.toInt ≤ 166 := by rw [ev_5, idiv12 (by omega)]; omega
  have ha166 : 0 ≤ lkA (((i 21).toInt - (i 20).toInt) - ((j9 21).toInt - (j9 20).toInt)) / 12 ∧ lkA (((i 21).toInt - (i 20).toInt) - ((j9 21).toInt - (j9 20).toInt)) / 12 ≤ 166 := by rw [← hdv_5]; exact hbv_5
  refine lv_istore_n (lv' := [(2, .int v_5), (0, .ref (a 61)), (1, .ref (b9 61))]) hx hb dX11_distance_15 rfl hl (by decide) rfl (fun ls hl => ?_)
  refine lv_iconst (v := 0) hx hb dX11_distance_16 (by decide) ?_
  refine lv_istore_n (lv' := [(3, .int 0), (2, .int v_5), (0, .ref (a 61)), (1, .ref (b9 61))]) hx hb dX11_distance_17 rfl hl (by decide) rfl (fun ls hl => ?_)
  have loop_6 : ∀ (n : Nat) (x6_3 : Int32) (x6_2 : Int32) (ls : Array Slot), (8 - x6_3.toInt).toNat < n → (0 ≤ x6_3.toInt ∧ x6_3.toInt ≤ 8) → (0 ≤ x6_2.toInt ∧ x6_2.toInt ≤ 1766) → (x6_2.toInt = lkA (((i 21).toInt - (i 20).toInt) - ((j9 21).toInt - (j9 20).toInt)) / 12 + lkS (fun k9 : Nat => lkW (lkX (r 75) (r 73) (i 24).toInt) (r 67) (r 68) ((k9 : Nat) : Int) (i 23).toNatClampNeg) (fun k9 : Nat => lkW (lkX (r9 75) (r9 73) (j9 24).toInt) (r9 67) (r9 68) ((k9 : Nat) : Int) (j9 23).toNatClampNeg) (x6_3.toNatClampNeg)) → lv_has ls 4 [(3, .int x6_3), (2, .int x6_2), (0, .ref (a 61)), (1, .ref (b9 61))] → W p l e ({ frames := 4, cells := 0, slots := 0, locals := 89 } : Room) s m ([.ref (a 61), .ref (b9 61)] : List Value).toArray below meth c s.heap [] 0 0 Q (F0 m 18 ls []) := by
    intro n
    induction n with
    | zero =>
      intro x6_3 x6_2 ls hm6 hf6_0 hf6_1 hx6 hl
      exact absurd hm6 (by omega)
    | succ n ih6 =>
      intro x6_3 x6_2 ls hm6 hf6_0 hf6_1 hx6 hl
      refine lv_iload_n hx hb dX11_distance_18 rfl (lv_at hl 0 rfl) ?_
      refine lv_bipush (v := 8) hx hb dX11_distance_19 (by decide) ?_
      refine lv_icmp_ge (tgt := 50) hx hb dX11_distance_21 (by decide) (fun c_7 => ?_) (fun c_7 => ?_)
      · have c_7 : 8 ≤ x6_3.toInt := b_le c_7
        refine lv_iload_n hx hb dX11_distance_50 rfl (lv_at hl 1 rfl) ?_
        subst hQ
        have h8 : x6_3.toNatClampNeg = 8 := by show x6_3.toInt.toNat = 8; omega
        exact W.iret (v := x6_2) hx hb hr (fun t ht hW => ⟨_, rfl, (by have h9 := hx6; rw [h8] at h9; exact h9), ht⟩) (fun q hq => absurd hq List.not_mem_nil) dX11_distance_51
      · have c_7 : x6_3.toInt < 8 := b_nle c_7
        refine lv_iload_n hx hb dX11_distance_24 rfl (lv_at hl 1 rfl) ?_
        refine lv_bipush (v := 10) hx hb dX11_distance_25 (by decide) ?_
        refine lv_aload_n hx hb dX11_distance_27 rfl (lv_at hl 2 rfl) ?_
        refine lv_iload_n hx hb dX11_distance_28 rfl (lv_at hl 0 rfl) ?_
        refine vp_callSi (W.runV (As := [.int x6_3]) (rest := [.int 10, .int x6_2]) ⟨hx, hb, hml, hown, hT⟩ (c_X3_worsened9 l D cy a i r q tl x6_3 hRi hRr) (cwV 1 hT (gV t_817 t_818 t_819 t_820 t_391) rfl rfl rfl (by decide +kernel) ⟨Nat.le_of_ble_eq_true rfl, Nat.le_of_ble_eq_true rfl⟩) (rP_v hP hK (va_recv hK hP (ci := 3) (q0 := 61) rfl rfl)) rfl rfl hl.1 rfl (lv_room (Nat.le_of_ble_eq_true rfl)) dX11_distance_29 ⟨Nat.le_of_ble_eq_true rfl, Nat.le_of_ble_eq_true rfl⟩) (fun r_8 hr_8 => ?_)
        have hqr_8 : r_8.toInt = lkW (lkX (r 75) (r 73) (i 24).toInt) (r 67) (r 68) x6_3.toInt (i 23).toNatClampNeg := hr_8.1
        have hr_8 : 0 ≤ r_8.toInt ∧ r_8.toInt ≤ 20 := hr_8.2
        have hxnu : x6_3.toInt = ((x6_3.toNatClampNeg : Nat) : Int) := by show x6_3.toInt = ((x6_3.toInt.toNat : Nat) : Int); omega
        have huu : r_8.toInt = (fun k9 : Nat => lkW (lkX (r 75) (r 73) (i 24).toInt) (r 67) (r 68) ((k9 : Nat) : Int) (i 23).toNatClampNeg) (x6_3.toNatClampNeg) := by have h9 := hqr_8; rw [hxnu] at h9; exact h9
        refine lv_aload_n hx hb dX11_distance_32 rfl (lv_at hl 3 rfl) ?_
        refine lv_iload_n hx hb dX11_distance_33 rfl (lv_at hl 0 rfl) ?_
        refine vp_callSi (W.runV (As := [.int x6_3]) (rest := [.int r_8, .int 10, .int x6_2]) ⟨hx, hb, hml, hown, hT⟩ (c_X3_worsened9 l D cy b9 j9 r9 q tl9 x6_3 hRi9 hRr9) (cwV 1 hT (gV t_817 t_818 t_819 t_820 t_391) rfl rfl rfl (by decide +kernel) ⟨Nat.le_of_ble_eq_true rfl, Nat.le_of_ble_eq_true rfl⟩) (rP_v hP9 hK (va_recv hK hP9 (ci := 3) (q0 := 61) rfl rfl)) rfl rfl hl.1 rfl (lv_room (Nat.le_of_ble_eq_true rfl)) dX11_distance_34 ⟨Nat.le_of_ble_eq_true rfl, Nat.le_of_ble_eq_true rfl⟩) (fun r_9 hr_9 => ?_)
        have hqr_9 : r_9.toInt = lkW (lkX (r9 75) (r9 73) (j9 24).toInt) (r9 67) (r9 68) x6_3.toInt (j9 23).toNatClampNeg := hr_9.1
        have hr_9 : 0 ≤ r_9.toInt ∧ r_9.toInt ≤ 20 := hr_9.2
        have hxnv : x6_3.toInt = ((x6_3.toNatClampNeg : Nat) : Int) := by show x6_3.toInt = ((x6_3.toInt.toNat : Nat) : Int); omega
        have huv : r_9.toInt = (fun k9 : Nat => lkW (lkX (r9 75) (r9 73) (j9 24).toInt) (r9 67) (r9 68) ((k9 : Nat) : Int) (j9 23).toNatClampNeg) (x6_3.toNatClampNeg) := by have h9 := hqr_9; rw [hxnv] at h9; exact h9
        refine lv_isub hx hb dX11_distance_37 ?_
        refine lv_topi (fun v_10 ev_10 => ?_)
        have hv_10 : v_10.toInt = r_8.toInt - r_9.toInt := by rw [ev_10]; have := b_rg r_8; have := b_rg r_9; exact i_sub (a := r_8.toInt) (b := r_9.toInt) rfl rfl (by omega) (by omega)
        refine va_mabs hx hb (by rw [hml]; exact hl.1.symm) hown (hT _ t_328) (hT _ t_288) (hT _ t_289) (hT _ t_290) (Nat.le_of_ble_eq_true rfl) (Nat.le_of_ble_eq_true rfl) (Nat.le_of_ble_eq_true rfl) (Nat.le_of_ble_eq_true rfl) dX11_distance_38 ?_
        refine lv_topi (fun v_11 ev_11 => ?_)
        have hav_11 : v_11.toInt = lkA v_10.toInt := by rw [ev_11]; exact ABS_A (x := v_10) (by omega)
        have hrv_11 : 0 ≤ v_11.toInt ∧ v_11.toInt ≤ 20 := by rw [hav_11]; exact lkA_r (by omega) (by omega)
        refine lv_imul hx hb dX11_distance_41 ?_
        refine lv_topi (fun v_12 ev_12 => ?_)
        have hv_12 : v_12.toInt = 10 * v_11.toInt := by rw [ev_12]; have := b_rg v_11; exact i_mul (a := 10) (b := v_11.toInt) rfl rfl (by omega) (by omega)
        refine lv_iadd hx hb dX11_distance_42 ?_
        refine lv_topi (fun v_13 ev_13 => ?_)
        have hv_13 : v_13.toInt = x6_2.toInt + v_12.toInt := by rw [ev_13]; have := b_rg x6_2; have := b_rg v_12; exact i_add (a := x6_2.toInt) (b := v_12.toInt) rfl rfl (by omega) (by omega)
        refine lv_istore_n (lv' := [(2, .int v_13), (3, .int x6_3), (0, .ref (a 61)), (1, .ref (b9 61))]) hx hb dX11_distance_43 rfl hl (by decide) rfl (fun ls hl => ?_)
        obtain ⟨x_14, ex_14⟩ : ∃ y : Int32, y = x6_3 + 1 := ⟨_, rfl⟩
        refine lv_iinc (v := x_14) (lv' := [(3, .int x_14), (2, .int v_13), (0, .ref (a 61)), (1, .ref (b9 61))]) hx hb dX11_distance_44 hl (k := 1) rfl (by rw [ex_14]; rfl) (by decide) rfl (fun ls hl => ?_)
        have hx_14 : x_14.toInt = x6_3.toInt + 1 := by rw [ex_14]; have := b_rg x6_3; exact i_add (a := x6_3.toInt) (b := 1) rfl rfl (by omega) (by omega)
        refine lv_goto (tgt := 18) hx hb dX11_distance_47 (by decide) ?_
        have hk : x_14.toNatClampNeg = x6_3.toNatClampNeg + 1 := by show x_14.toInt.toNat = x6_3.toInt.toNat + 1; omega
        have hsd : v_11.toInt = lkA ((fun k9 : Nat => lkW (lkX (r 75) (r 73) (i 24).toInt) (r 67) (r 68) ((k9 : Nat) : Int) (i 23).toNatClampNeg) (x6_3.toNatClampNeg) - (fun k9 : Nat => lkW (lkX (r9 75) (r9 73) (j9 24).toInt) (r9 67) (r9 68) ((k9 : Nat) : Int) (j9 23).toNatClampNeg) (x6_3.toNatClampNeg)) := by rw [hav_11]; exact congrArg lkA (by rw [← huu, ← huv]; omega)
        have hx9 : v_13.toInt = lkA (((i 21).toInt - (i 20).toInt) - ((j9 21).toInt - (j9 20).toInt)) / 12 + lkS (fun k9 : Nat => lkW (lkX (r 75) (r 73) (i 24).toInt) (r 67) (r 68) ((k9 : Nat) : Int) (i 23).toNatClampNeg) (fun k9 : Nat => lkW (lkX (r9 75) (r9 73) (j9 24).toInt) (r9 67) (r9 68) ((k9 : Nat) : Int) (j9 23).toNatClampNeg) (x_14.toNatClampNeg) := by rw [hk, lkS, ← hsd, ← Int.add_assoc, ← hx6]; omega
        have hwi : ∀ k9 : Nat, 0 ≤ (fun k9 : Nat => lkW (lkX (r 75) (r 73) (i 24).toInt) (r 67) (r 68) ((k9 : Nat) : Int) (i 23).toNatClampNeg) k9 ∧ (fun k9 : Nat => lkW (lkX (r 75) (r 73) (i 24).toInt) (r 67) (r 68) ((k9 : Nat) : Int) (i 23).toNatClampNeg) k9 ≤ 20 := fun k9 => by have h9 := lkW_r (S := (lkX (r 75) (r 73) (i 24).toInt)) (fk := r 67) (fs := r 68) (kd := ((k9 : Nat) : Int)) (i 23).toNatClampNeg; have h8 : (i 23).toInt ≤ 20 := (hRi 23).2; have h7 : (i 23).toNatClampNeg = (i 23).toInt.toNat := rfl; exact ⟨h9.1, by have h6 := h9.2; show lkW _ _ _ _ _ ≤ 20; omega⟩
        have hwj9 : ∀ k9 : Nat, 0 ≤ (fun k9 : Nat => lkW (lkX (r9 75) (r9 73) (j9 24).toInt) (r9 67) (r9 68) ((k9 : Nat) : Int) (j9 23).toNatClampNeg) k9 ∧ (fun k9 : Nat => lkW (lkX (r9 75) (r9 73) (j9 24).toInt) (r9 67) (r9 68) ((k9 : Nat) : Int) (j9 23).toNatClampNeg) k9 ≤ 20 := fun k9 => by have h9 := lkW_r (S := (lkX (r9 75) (r9 73) (j9 24).toInt)) (fk := r9 67) (fs := r9 68) (kd := ((k9 : Nat) : Int)) (j9 23).toNatClampNeg; have h8 : (j9 23).toInt ≤ 20 := (hRi9 23).2; have h7 : (j9 23).toNatClampNeg = (j9 23).toInt.toNat := rfl; exact ⟨h9.1, by have h6 := h9.2; show lkW _ _ _ _ _ ≤ 20; omega⟩
        have hlb := lkS_r (u := (fun k9 : Nat => lkW (lkX (r 75) (r 73) (i 24).toInt) (r 67) (r 68) ((k9 : Nat) : Int) (i 23).toNatClampNeg)) (v := (fun k9 : Nat => lkW (lkX (r9 75) (r9 73) (j9 24).toInt) (r9 67) (r9 68) ((k9 : Nat) : Int) (j9 23).toNatClampNeg)) (x_14.toNatClampNeg) (fun k _ => ⟨hwi k, hwj9 k⟩)
        have hyn : ((x_14.toNatClampNeg : Nat) : Int) ≤ 8 := by show ((x_14.toInt.toNat : Nat) : Int) ≤ 8; omega
        exact ih6 x_14 v_13 _ (by first | omega | (simp only [Int.toNat]; omega)) (by first | omega | decide) (by first | omega | decide)  hx9  (lv_sub hl [0, 1, 2, 3] rfl)
  exact loop_6 _ 0 v_5 _ (Nat.lt_succ_self _) (by first | omega | decide) (by first | omega | decide)  (by rw [hdv_5]; show _ = _ + (0 : Int); omega)  hl
set_option maxHeartbeats 4000000 in
set_option maxRecDepth 100000 in
theorem c_X11_like.y9 (l : Launch) (D : va_G) (cy : Nat → ClassId) (a : Nat → Nat) (i : Nat → Int32) (r : Nat → Nat → Int32) (q : Nat → Option Nat) (tl : va_W) (p0 p1 : Int32) (hRi : yRi i) (hRr : yRr r) (nh : Nat) (gb : Nat → Nat → Nat) (gi : Nat → Nat → Int32) (gr : Nat → Nat → Nat → Int32) (hn : (i 0).toInt = (nh : Int)) (hH : ∀ k, k < nh → q k = some (gb k 61) ∧ yRi (gi k) ∧ yRr (gr k) ∧ ∀ c ∈ hW cy (gb k) (gi k) (gr k), c ∈ tl) (hh : 0 ≤ p0.toInt ∧ p0.toInt < (i 0).toInt) : Met l yX11_like (Cond.code yX11_like cX11_like 9 (some .int) :: gT) { frames := 5, cells := 0, slots := 0, locals := 112 } (va_Pc [.ref (a 0), .int p0, .int p1] (rP D cy (xW cy a i r q (a 20) (a 12) ++ tl))) (vp_Si (fun z => (((0 ≤ p1.toInt ∧ p1.toInt ≤ 1)) → ((i 0).toInt = 1 → z = -2) ∧ ((i 0).toInt ≠ 1 → lkZ1 (fun g9 : Nat => lkD (((gi p0.toNatClampNeg) 21).toInt - ((gi p0.toNatClampNeg) 20).toInt) (((gi g9) 21).toInt - ((gi g9) 20).toInt) (fun k9 : Nat => lkW (lkX ((gr p0.toNatClampNeg) 75) ((gr p0.toNatClampNeg) 73) ((gi p0.toNatClampNeg) 24).toInt) ((gr p0.toNatClampNeg) 67) ((gr p0.toNatClampNeg) 68) ((k9 : Nat) : Int) ((gi p0.toNatClampNeg) 23).toNatClampNeg) (fun k9 : Nat => lkW (lkX ((gr g9) 75) ((gr g9) 73) ((gi g9) 24).toInt) ((gr g9) 67) ((gr g9) 68) ((k9 : Nat) : Int) ((gi g9) 23).toNatClampNeg)) p0.toNatClampNeg nh p1 z)) ∧ (¬ ((0 ≤ p1.toInt ∧ p1.toInt ≤ 1)) → z = -1))) 0 0 (fun _ => False) := by
  refine Met.ofQ (cc := cX11_like) (maxL := 9) (ret := (some .int)) (by decide) rfl ?_
  intro p e s m args below meth c s₁ B hml hv Q hQ
  obtain ⟨rfl, hP, hK⟩ := hv
  have hx := B.exec
  have hb := B.bytes
  have hr := B.returns
  have hlocks := B.notSynchronized
  have hT : ∀ w ∈ gT, w.before _ s = true := fun w h => atoms_spec (ws := (Cond.code yX11_like cX11_like 9 (some .int) :: gT)) B.pre w (List.mem_cons_of_mem _ h)
  have hown : s.vm.findClass RX11 = some m.cls := findClass_of_methodNamed B.named
  have hl := lv_entry ([.ref (a 0), .int p0, .int p1]) (n := 9) (Nat.le_of_ble_eq_true rfl)
  rw [lg_entry_eq]
  generalize (lg_sl ([.ref (a 0), .int p0, .int p1]) ++ List.replicate (9 - (lg_sl ([.ref (a 0), .int p0, .int p1])).length) Slot.unset).toArray = ls at hl ⊢
  have hl : lv_has ls 9 [(0, .ref (a 0)), (1, .int p0), (2, .int p1)] := hl
  have hEi : mEi [] i i := Ei_rf
  have hEr : mEr [] r r := Er_rf
  have hg0 : 0 ≤ (i 0).toInt ∧ (i 0).toInt ≤ 6 := hRi 0
  obtain ⟨Dq, hDq⟩ : ∃ D : Nat → Int, D = (fun g9 : Nat => lkD (((gi p0.toNatClampNeg) 21).toInt - ((gi p0.toNatClampNeg) 20).toInt) (((gi g9) 21).toInt - ((gi g9) 20).toInt) (fun k9 : Nat => lkW (lkX ((gr p0.toNatClampNeg) 75) ((gr p0.toNatClampNeg) 73) ((gi p0.toNatClampNeg) 24).toInt) ((gr p0.toNatClampNeg) 67) ((gr p0.toNatClampNeg) 68) ((k9 : Nat) : Int) ((gi p0.toNatClampNeg) 23).toNatClampNeg) (fun k9 : Nat => lkW (lkX ((gr g9) 75) ((gr g9) 73) ((gi g9) 24).toInt) ((gr g9) 67) ((gr g9) 68) ((k9 : Nat) : Int) ((gi g9) 23).toNatClampNeg)) := ⟨_, rfl⟩
  have hpn : ((p0.toNatClampNeg : Nat) : Int) = p0.toInt := by show ((p0.toInt.toNat : Nat) : Int) = _; omega
  refine lv_aload_n hx hb dX11_like_0 rfl (lv_at hl 0 rfl) ?_
  refine lv_iload_n hx hb dX11_like_1 rfl (lv_at hl 1 rfl) ?_
  refine va_csq (W.runV (As := [.int p0]) (rest := []) ⟨hx, hb, hml, hown, hT⟩ (c_X11_homeAt l D cy a i r q tl p0 hRi hRr) (cwV 1 hT (gV t_443 t_444 t_445 t_446 t_2) rfl rfl rfl (by decide +kernel) ⟨Nat.le_of_ble_eq_true rfl, Nat.le_of_ble_eq_true rfl⟩) (rP_v hP hK (va_recv hK hP (ci := 11) (q0 := 0) rfl rfl)) rfl rfl hl.1 rfl (lv_room (Nat.le_of_ble_eq_true rfl)) dX11_like_2 ⟨Nat.le_of_ble_eq_true rfl, Nat.le_of_ble_eq_true rfl⟩) (fun r_1 hr_1 => ?_)
  obtain rfl : r_1 = some (gb p0.toNatClampNeg 61) := (hr_1.1 (by omega)).trans (hH p0.toNatClampNeg (by have h9 : p0.toNatClampNeg = p0.toInt.toNat := rfl; omega)).1
  refine W.eq (g2 := F0 m 5 ls [.ref (gb p0.toNatClampNeg 61)]) rfl ?_
  refine lv_astore_n (lv' := [(3, .ref (gb p0.toNatClampNeg 61)), (0, .ref (a 0)), (1, .int p0), (2, .int p1)]) hx hb dX11_like_5 rfl hl (by decide) rfl (fun ls hl => ?_)
  refine lv_aload_n hx hb dX11_like_6 rfl (lv_at hl 0 rfl) ?_
  refine lv_ifnull hx hb dX11_like_7 ?_
  refine lv_iload_n hx hb dX11_like_10 rfl (lv_at hl 3 rfl) ?_
  refine lv_iconst (v := 0) hx hb dX11_like_11 (by decide) ?_
  refine lv_iconst (v := 1) hx hb dX11_like_12 (by decide) ?_
  refine vp_callSi (W.runS (As := [.int p1, .int 0, .int 1]) (rest := []) ⟨hx, hb, hml, hown, hT⟩ (c_X11_within l p1 0 1) (va_cwS 3 hT (gS t_1 t_3 t_4 t_2) rfl rfl rfl (by decide +kernel) ⟨Nat.le_of_ble_eq_true rfl, Nat.le_of_ble_eq_true rfl⟩) preT rfl rfl hl.1 rfl (lv_room (Nat.le_of_ble_eq_true rfl)) dX11_like_13 ⟨Nat.le_of_ble_eq_true rfl, Nat.le_of_ble_eq_true rfl⟩) (fun r_2 hr_2 => ?_)
  have hr_2 : BR r_2 (0 ≤ p1.toInt ∧ p1.toInt ≤ 1) 1 0 := hr_2
  rcases hr_2 with ⟨rfl, h_3⟩ | ⟨rfl, h_3⟩
  · skip
    refine lv_if_ne (tgt := 21) hx hb dX11_like_16 (by decide) (fun c_4 => ?_) (fun c_4 => absurd c_4 (by decide))
    refine lv_bipush (v := (-2)) hx hb dX11_like_21 (by decide) ?_
    refine lv_istore (lv' := [(4, .int (-2)), (3, .ref (gb p0.toNatClampNeg 61)), (0, .ref (a 0)), (1, .int p0), (2, .int p1)]) hx hb dX11_like_23 hl (by decide) rfl (fun ls hl => ?_)
    refine lv_bipush (v := (-2)) hx hb dX11_like_25 (by decide) ?_
    refine lv_istore (lv' := [(5, .int (-2)), (4, .int (-2)), (3, .ref (gb p0.toNatClampNeg 61)), (0, .ref (a 0)), (1, .int p0), (2, .int p1)]) hx hb dX11_like_27 hl (by decide) rfl (fun ls hl => ?_)
    refine lv_iconst (v := 0) hx hb dX11_like_29 (by decide) ?_
    refine lv_istore (lv' := [(6, .int 0), (5, .int (-2)), (4, .int (-2)), (3, .ref (gb p0.toNatClampNeg 61)), (0, .ref (a 0)), (1, .int p0), (2, .int p1)]) hx hb dX11_like_30 hl (by decide) rfl (fun ls hl => ?_)
    have loop_5 : ∀ (n : Nat) (x5_6 : Int32) (x5_5 : Int32) (x5_4 : Int32) (ls : Array Slot), (6 - x5_6.toInt).toNat < n → (0 ≤ x5_6.toInt ∧ x5_6.toInt ≤ 6) → (((x5_4.toInt = -2 ∧ x5_5.toInt = -2 ∧ ∀ g9, g9 < x5_6.toNatClampNeg → g9 = p0.toNatClampNeg) ∨ ∃ b9 : Nat, x5_4.toInt = (b9 : Int) ∧ x5_5.toInt = Dq b9 ∧ lkB Dq p0.toNatClampNeg (x5_6.toNatClampNeg) b9) ∧ x5_6.toInt ≤ (i 0).toInt) → lv_has ls 9 [(6, .int x5_6), (5, .int x5_5), (4, .int x5_4), (3, .ref (gb p0.toNatClampNeg 61)), (0, .ref (a 0)), (1, .int p0), (2, .int p1)] → W p l e ({ frames := 5, cells := 0, slots := 0, locals := 112 } : Room) s m ([.ref (a 0), .int p0, .int p1] : List Value).toArray below meth c s.heap [] 0 0 Q (F0 m 32 ls []) := by
      intro n
      induction n with
      | zero =>
        intro x5_6 x5_5 x5_4 ls hm5 hf5_0 hx5 hl
        exact absurd hm5 (by omega)
      | succ n ih5 =>
        intro x5_6 x5_5 x5_4 ls hm5 hf5_0 hx5 hl
        refine lv_iload hx hb dX11_like_32 (lv_at hl 0 rfl) ?_
        refine lv_aload_n hx hb dX11_like_34 rfl (lv_at hl 4 rfl) ?_
        refine va_get (D := D) (ci := 11) (v := .int (i 0)) (C := RX11) (T := TX11) (N := 14) hx hb hT iX11 hown hK hP 0 rfl rfl 2 (by decide) (hT _ t_263) (fun _ h9 => h9) rfl dX11_like_35 ?_
        have hg_6 : 0 ≤ (i 0).toInt ∧ (i 0).toInt ≤ 6 := hRi 0
        refine lv_icmp_ge (tgt := 99) hx hb dX11_like_38 (by decide) (fun c_7 => ?_) (fun c_7 => ?_)
        · have c_7 : (i 0).toInt ≤ x5_6.toInt := b_le c_7
          subst hDq
          have hk : x5_6.toNatClampNeg = nh := by show x5_6.toInt.toNat = nh; omega
          have hIe := hx5.1
          rw [hk] at hIe
          have h1e : (i 0).toInt = 1 → x5_4.toInt = -2 ∧ x5_5.toInt = -2 := fun h9 => by rcases hIe with ⟨h8, h7, _⟩ | ⟨b9, _, _, h8⟩; (· exact ⟨h8, h7⟩); (· have h6 := h8.1; have h5 := h8.2.1; omega)
          have h2e : (i 0).toInt ≠ 1 → ∃ b9 : Nat, x5_4.toInt = (b9 : Int) ∧ x5_5.toInt = (fun g9 : Nat => lkD (((gi p0.toNatClampNeg) 21).toInt - ((gi p0.toNatClampNeg) 20).toInt) (((gi g9) 21).toInt - ((gi g9) 20).toInt) (fun k9 : Nat => lkW (lkX ((gr p0.toNatClampNeg) 75) ((gr p0.toNatClampNeg) 73) ((gi p0.toNatClampNeg) 24).toInt) ((gr p0.toNatClampNeg) 67) ((gr p0.toNatClampNeg) 68) ((k9 : Nat) : Int) ((gi p0.toNatClampNeg) 23).toNatClampNeg) (fun k9 : Nat => lkW (lkX ((gr g9) 75) ((gr g9) 73) ((gi g9) 24).toInt) ((gr g9) 67) ((gr g9) 68) ((k9 : Nat) : Int) ((gi g9) 23).toNatClampNeg)) b9 ∧ lkB (fun g9 : Nat => lkD (((gi p0.toNatClampNeg) 21).toInt - ((gi p0.toNatClampNeg) 20).toInt) (((gi g9) 21).toInt - ((gi g9) 20).toInt) (fun k9 : Nat => lkW (lkX ((gr p0.toNatClampNeg) 75) ((gr p0.toNatClampNeg) 73) ((gi p0.toNatClampNeg) 24).toInt) ((gr p0.toNatClampNeg) 67) ((gr p0.toNatClampNeg) 68) ((k9 : Nat) : Int) ((gi p0.toNatClampNeg) 23).toNatClampNeg) (fun k9 : Nat => lkW (lkX ((gr g9) 75) ((gr g9) 73) ((gi g9) 24).toInt) ((gr g9) 67) ((gr g9) 68) ((k9 : Nat) : Int) ((gi g9) 23).toNatClampNeg)) p0.toNatClampNeg nh b9 := fun h9 => by
            rcases hIe with ⟨_, _, h8⟩ | h8
            · have h1 := h8 0 (by omega)
              have h2 := h8 1 (by omega)
              omega
            · exact h8
          refine lv_iload_n hx hb dX11_like_99 rfl (lv_at hl 6 rfl) ?_
          refine lv_if_ne (tgt := 108) hx hb dX11_like_100 (by decide) (fun c_8 => ?_) (fun c_8 => ?_)
          · have c_8 : p1.toInt ≠ 0 := b_ne c_8
            refine lv_iload hx hb dX11_like_108 (lv_at hl 1 rfl) ?_
            subst hQ
            have hz9 : ((i 0).toInt = 1 → x5_5 = -2) ∧ ((i 0).toInt ≠ 1 → lkZ1 (fun g9 : Nat => lkD (((gi p0.toNatClampNeg) 21).toInt - ((gi p0.toNatClampNeg) 20).toInt) (((gi g9) 21).toInt - ((gi g9) 20).toInt) (fun k9 : Nat => lkW (lkX ((gr p0.toNatClampNeg) 75) ((gr p0.toNatClampNeg) 73) ((gi p0.toNatClampNeg) 24).toInt) ((gr p0.toNatClampNeg) 67) ((gr p0.toNatClampNeg) 68) ((k9 : Nat) : Int) ((gi p0.toNatClampNeg) 23).toNatClampNeg) (fun k9 : Nat => lkW (lkX ((gr g9) 75) ((gr g9) 73) ((gi g9) 24).toInt) ((gr g9) 67) ((gr g9) 68) ((k9 : Nat) : Int) ((gi g9) 23).toNatClampNeg)) p0.toNatClampNeg nh p1 x5_5) := ⟨fun h9 => Int32.toInt_inj.mp (h1e h9).2, fun h9 => by obtain ⟨b9, h8, h7, h6⟩ := h2e h9; exact ⟨b9, h6, fun h5 => absurd h5 (by clear hIe h1e h2e; omega), fun _ => h7⟩⟩
            clear hIe h1e h2e hH
            exact W.iret (v := x5_5) hx hb hr (fun t ht hW => ⟨_, rfl, ⟨fun _ => hz9, fun h9 => absurd (by omega) h9⟩, ht⟩) (fun q hq => absurd hq List.not_mem_nil) dX11_like_110
          · have c_8 : p1.toInt = 0 := b_nne c_8
            refine lv_iload hx hb dX11_like_103 (lv_at hl 2 rfl) ?_
            refine lv_goto (tgt := 110) hx hb dX11_like_105 (by decide) ?_
            subst hQ
            have hz9 : ((i 0).toInt = 1 → x5_4 = -2) ∧ ((i 0).toInt ≠ 1 → lkZ1 (fun g9 : Nat => lkD (((gi p0.toNatClampNeg) 21).toInt - ((gi p0.toNatClampNeg) 20).toInt) (((gi g9) 21).toInt - ((gi g9) 20).toInt) (fun k9 : Nat => lkW (lkX ((gr p0.toNatClampNeg) 75) ((gr p0.toNatClampNeg) 73) ((gi p0.toNatClampNeg) 24).toInt) ((gr p0.toNatClampNeg) 67) ((gr p0.toNatClampNeg) 68) ((k9 : Nat) : Int) ((gi p0.toNatClampNeg) 23).toNatClampNeg) (fun k9 : Nat => lkW (lkX ((gr g9) 75) ((gr g9) 73) ((gi g9) 24).toInt) ((gr g9) 67) ((gr g9) 68) ((k9 : Nat) : Int) ((gi g9) 23).toNatClampNeg)) p0.toNatClampNeg nh p1 x5_4) := ⟨fun h9 => Int32.toInt_inj.mp (h1e h9).1, fun h9 => by obtain ⟨b9, h8, h7, h6⟩ := h2e h9; exact ⟨b9, h6, fun _ => h8, fun h5 => absurd (by clear hIe h1e h2e; omega) h5⟩⟩
            clear hIe h1e h2e hH
            exact W.iret (v := x5_4) hx hb hr (fun t ht hW => ⟨_, rfl, ⟨fun _ => hz9, fun h9 => absurd (by omega) h9⟩, ht⟩) (fun q hq => absurd hq List.not_mem_nil) dX11_like_110
        · have c_7 : x5_6.toInt < (i 0).toInt := b_nle c_7
          refine lv_aload_n hx hb dX11_like_41 rfl (lv_at hl 4 rfl) ?_
          refine lv_iload hx hb dX11_like_42 (lv_at hl 0 rfl) ?_
          refine va_csq (W.runV (As := [.int x5_6]) (rest := []) ⟨hx, hb, hml, hown, hT⟩ (c_X11_homeAt l D cy a i r q tl x5_6 hRi hRr) (cwV 1 hT (gV t_443 t_444 t_445 t_446 t_2) rfl rfl rfl (by decide +kernel) ⟨Nat.le_of_ble_eq_true rfl, Nat.le_of_ble_eq_true rfl⟩) (rP_v hP hK (va_recv hK hP (ci := 11) (q0 := 0) rfl rfl)) rfl rfl hl.1 rfl (lv_room (Nat.le_of_ble_eq_true rfl)) dX11_like_44 ⟨Nat.le_of_ble_eq_true rfl, Nat.le_of_ble_eq_true rfl⟩) (fun r_9 hr_9 => ?_)
          obtain rfl : r_9 = some (gb x5_6.toNatClampNeg 61) := (hr_9.1 (by omega)).trans (hH x5_6.toNatClampNeg (by have h9 : x5_6.toNatClampNeg = x5_6.toInt.toNat := rfl; omega)).1
          refine W.eq (g2 := F0 m 47 ls [.ref (gb x5_6.toNatClampNeg 61)]) rfl ?_
          refine lv_astore (lv' := [(7, .ref (gb x5_6.toNatClampNeg 61)), (6, .int x5_6), (5, .int x5_5), (4, .int x5_4), (3, .ref (gb p0.toNatClampNeg 61)), (0, .ref (a 0)), (1, .int p0), (2, .int p1)]) hx hb dX11_like_47 hl (by decide) rfl (fun ls hl => ?_)
          refine lv_iload hx hb dX11_like_49 (lv_at hl 1 rfl) ?_
          refine lv_iload_n hx hb dX11_like_51 rfl (lv_at hl 6 rfl) ?_
          refine lv_icmp_eq (tgt := 93) hx hb dX11_like_52 (by decide) (fun c_10 => ?_) (fun c_10 => ?_)
          · have c_10 : x5_6.toInt = p0.toInt := b_eq c_10
            obtain ⟨x_11, ex_11⟩ : ∃ y : Int32, y = x5_6 + 1 := ⟨_, rfl⟩
            refine lv_iinc (v := x_11) (lv' := [(6, .int x_11), (7, .ref (gb x5_6.toNatClampNeg 61)), (5, .int x5_5), (4, .int x5_4), (3, .ref (gb p0.toNatClampNeg 61)), (0, .ref (a 0)), (1, .int p0), (2, .int p1)]) hx hb dX11_like_93 hl (k := 1) rfl (by rw [ex_11]; rfl) (by decide) rfl (fun ls hl => ?_)
            have hx_11 : x_11.toInt = x5_6.toInt + 1 := by rw [ex_11]; have := b_rg x5_6; exact i_add (a := x5_6.toInt) (b := 1) rfl rfl (by omega) (by omega)
            refine lv_goto (tgt := 32) hx hb dX11_like_96 (by decide) ?_
            have hk : x_11.toNatClampNeg = x5_6.toNatClampNeg + 1 := by show x_11.toInt.toNat = x5_6.toInt.toNat + 1; omega
            have hxn : ((x5_6.toNatClampNeg : Nat) : Int) = x5_6.toInt := by show ((x5_6.toInt.toNat : Nat) : Int) = _; omega
            have hh9 : x5_6.toNatClampNeg = p0.toNatClampNeg := by omega
            have hI8 : (x5_4.toInt = -2 ∧ x5_5.toInt = -2 ∧ ∀ g9, g9 < x_11.toNatClampNeg → g9 = p0.toNatClampNeg) ∨ ∃ b9 : Nat, x5_4.toInt = (b9 : Int) ∧ x5_5.toInt = Dq b9 ∧ lkB Dq p0.toNatClampNeg (x_11.toNatClampNeg) b9 := by
              rw [hk]
              rcases hx5.1 with ⟨h9, h9b, h8⟩ | ⟨b9, h9, h9b, h8⟩
              · exact Or.inl ⟨h9, h9b, fun g9 h7 => (Nat.lt_succ_iff_lt_or_eq.mp h7).elim (fun h6 => h8 g9 h6) (fun h6 => h6.trans hh9)⟩
              · exact Or.inr ⟨b9, h9, h9b, lkB_k h8 (Or.inl hh9)⟩
            exact ih5 x_11 x5_5 x5_4 _ (bk6 hm5 hx_11 c_7 hg0.2) (by first | omega | decide)  ⟨hI8, by omega⟩  (lv_sub hl [0, 2, 3, 4, 5, 6, 7] rfl)
          · have c_10 : x5_6.toInt ≠ p0.toInt := b_ne c_10
            refine lv_aload hx hb dX11_like_55 (lv_at hl 0 rfl) ?_
            refine lv_ifnonnull (tgt := 63) hx hb dX11_like_57 (by decide) ?_
            refine lv_aload_n hx hb dX11_like_63 rfl (lv_at hl 4 rfl) ?_
            refine lv_aload hx hb dX11_like_64 (lv_at hl 0 rfl) ?_
            refine vp_callSi (W.runS (As := [.ref (gb p0.toNatClampNeg 61), .ref (gb x5_6.toNatClampNeg 61)]) (rest := []) ⟨hx, hb, hml, hown, hT⟩ (c_X11_distance9 l D cy (mixA a (gb p0.toNatClampNeg)) (mixI i (gi p0.toNatClampNeg)) (mixR r (gr p0.toNatClampNeg)) q ([]) (mixA a (gb x5_6.toNatClampNeg)) (mixI i (gi x5_6.toNatClampNeg)) (mixR r (gr x5_6.toNatClampNeg)) ([]) (mix_Ri hRi (hH p0.toNatClampNeg (by have h9 : p0.toNatClampNeg = p0.toInt.toNat := rfl; omega)).2.1) (mix_Rr hRr (hH p0.toNatClampNeg (by have h9 : p0.toNatClampNeg = p0.toInt.toNat := rfl; omega)).2.2.1) (mix_Ri hRi (hH x5_6.toNatClampNeg (by have h9 : x5_6.toNatClampNeg = x5_6.toInt.toNat := rfl; omega)).2.1) (mix_Rr hRr (hH x5_6.toNatClampNeg (by have h9 : x5_6.toNatClampNeg = x5_6.toInt.toNat := rfl; omega)).2.2.1)) (va_cwS 2 hT (gS t_821 t_822 t_823 t_2) rfl rfl rfl (by decide +kernel) ⟨Nat.le_of_ble_eq_true rfl, Nat.le_of_ble_eq_true rfl⟩) (rP2_s (vwy hP (hH p0.toNatClampNeg (by have h9 : p0.toNatClampNeg = p0.toInt.toNat := rfl; omega)).2.2.2) (vwy hP (hH x5_6.toNatClampNeg (by have h9 : x5_6.toNatClampNeg = x5_6.toInt.toNat := rfl; omega)).2.2.2) hK) rfl rfl hl.1 rfl (lv_room (Nat.le_of_ble_eq_true rfl)) dX11_like_66 ⟨Nat.le_of_ble_eq_true rfl, Nat.le_of_ble_eq_true rfl⟩) (fun r_12 hr_12 => ?_)
            have hD9 : r_12.toInt = Dq (x5_6.toNatClampNeg) := by rw [hDq]; exact hr_12
            refine lv_istore (lv' := [(8, .int r_12), (7, .ref (gb x5_6.toNatClampNeg 61)), (6, .int x5_6), (5, .int x5_5), (4, .int x5_4), (3, .ref (gb p0.toNatClampNeg 61)), (0, .ref (a 0)), (1, .int p0), (2, .int p1)]) hx hb dX11_like_69 hl (by decide) rfl (fun ls hl => ?_)
            refine lv_iload hx hb dX11_like_71 (lv_at hl 4 rfl) ?_
            refine lv_bipush (v := (-2)) hx hb dX11_like_73 (by decide) ?_
            refine lv_icmp_eq (tgt := 85) hx hb dX11_like_75 (by decide) (fun c_13 => ?_) (fun c_13 => ?_)
            · have c_13 : x5_4.toInt = (-2) := b_eq c_13
              refine lv_iload hx hb dX11_like_85 (lv_at hl 2 rfl) ?_
              refine lv_istore (lv' := [(4, .int x5_6), (8, .int r_12), (7, .ref (gb x5_6.toNatClampNeg 61)), (6, .int x5_6), (5, .int x5_5), (3, .ref (gb p0.toNatClampNeg 61)), (0, .ref (a 0)), (1, .int p0), (2, .int p1)]) hx hb dX11_like_87 hl (by decide) rfl (fun ls hl => ?_)
              refine lv_iload hx hb dX11_like_89 (lv_at hl 1 rfl) ?_
              refine lv_istore (lv' := [(5, .int r_12), (4, .int x5_6), (8, .int r_12), (7, .ref (gb x5_6.toNatClampNeg 61)), (6, .int x5_6), (3, .ref (gb p0.toNatClampNeg 61)), (0, .ref (a 0)), (1, .int p0), (2, .int p1)]) hx hb dX11_like_91 hl (by decide) rfl (fun ls hl => ?_)
              obtain ⟨x_14, ex_14⟩ : ∃ y : Int32, y = x5_6 + 1 := ⟨_, rfl⟩
              refine lv_iinc (v := x_14) (lv' := [(6, .int x_14), (5, .int r_12), (4, .int x5_6), (8, .int r_12), (7, .ref (gb x5_6.toNatClampNeg 61)), (3, .ref (gb p0.toNatClampNeg 61)), (0, .ref (a 0)), (1, .int p0), (2, .int p1)]) hx hb dX11_like_93 hl (k := 4) rfl (by rw [ex_14]; rfl) (by decide) rfl (fun ls hl => ?_)
              have hx_14 : x_14.toInt = x5_6.toInt + 1 := by rw [ex_14]; have := b_rg x5_6; exact i_add (a := x5_6.toInt) (b := 1) rfl rfl (by omega) (by omega)
              refine lv_goto (tgt := 32) hx hb dX11_like_96 (by decide) ?_
              have hk : x_14.toNatClampNeg = x5_6.toNatClampNeg + 1 := by show x_14.toInt.toNat = x5_6.toInt.toNat + 1; omega
              have hxn : ((x5_6.toNatClampNeg : Nat) : Int) = x5_6.toInt := by show ((x5_6.toInt.toNat : Nat) : Int) = _; omega
              have hh9 : x5_6.toNatClampNeg ≠ p0.toNatClampNeg := fun h9 => by omega
              have hI8 : ∀ g9, g9 < x5_6.toNatClampNeg → g9 = p0.toNatClampNeg := by rcases hx5.1 with ⟨_, _, h8⟩ | ⟨b9, h9, _, _⟩; (· exact h8); (· exact absurd h9 (by omega))
              exact ih5 x_14 r_12 x5_6 _ (bk6 hm5 hx_14 c_7 hg0.2) (by first | omega | decide)  ⟨Or.inr ⟨x5_6.toNatClampNeg, hxn.symm, hD9, by rw [hk]; exact lkB_0 hI8 hh9⟩, by omega⟩  (lv_sub hl [0, 1, 2, 5, 6, 7, 8] rfl)
            · have c_13 : x5_4.toInt ≠ (-2) := b_ne c_13
              obtain ⟨b8, hb8, hl8, hB8⟩ : ∃ b9 : Nat, x5_4.toInt = (b9 : Int) ∧ x5_5.toInt = Dq b9 ∧ lkB Dq p0.toNatClampNeg (x5_6.toNatClampNeg) b9 := by rcases hx5.1 with ⟨h9, _⟩ | h9; (· exact absurd h9 (by omega)); (· exact h9)
              refine lv_iload hx hb dX11_like_78 (lv_at hl 0 rfl) ?_
              refine lv_iload hx hb dX11_like_80 (lv_at hl 3 rfl) ?_
              refine lv_icmp_ge (tgt := 93) hx hb dX11_like_82 (by decide) (fun c_15 => ?_) (fun c_15 => ?_)
              · have c_15 : x5_5.toInt ≤ r_12.toInt := b_le c_15
                obtain ⟨x_16, ex_16⟩ : ∃ y : Int32, y = x5_6 + 1 := ⟨_, rfl⟩
                refine lv_iinc (v := x_16) (lv' := [(6, .int x_16), (8, .int r_12), (7, .ref (gb x5_6.toNatClampNeg 61)), (5, .int x5_5), (4, .int x5_4), (3, .ref (gb p0.toNatClampNeg 61)), (0, .ref (a 0)), (1, .int p0), (2, .int p1)]) hx hb dX11_like_93 hl (k := 2) rfl (by rw [ex_16]; rfl) (by decide) rfl (fun ls hl => ?_)
                have hx_16 : x_16.toInt = x5_6.toInt + 1 := by rw [ex_16]; have := b_rg x5_6; exact i_add (a := x5_6.toInt) (b := 1) rfl rfl (by omega) (by omega)
                refine lv_goto (tgt := 32) hx hb dX11_like_96 (by decide) ?_
                have hk : x_16.toNatClampNeg = x5_6.toNatClampNeg + 1 := by show x_16.toInt.toNat = x5_6.toInt.toNat + 1; omega
                have hxn : ((x5_6.toNatClampNeg : Nat) : Int) = x5_6.toInt := by show ((x5_6.toInt.toNat : Nat) : Int) = _; omega
                have hh9 : x5_6.toNatClampNeg ≠ p0.toNatClampNeg := fun h9 => by omega
                exact ih5 x_16 x5_5 x5_4 _ (bk6 hm5 hx_16 c_7 hg0.2) (by first | omega | decide)  ⟨Or.inr ⟨b8, hb8, hl8, by rw [hk]; exact lkB_k hB8 (Or.inr (by clear hB8 hH; omega))⟩, by omega⟩  (lv_sub hl [0, 3, 4, 5, 6, 7, 8] rfl)
              · have c_15 : r_12.toInt < x5_5.toInt := b_nle c_15
                refine lv_iload hx hb dX11_like_85 (lv_at hl 2 rfl) ?_
                refine lv_istore (lv' := [(4, .int x5_6), (8, .int r_12), (7, .ref (gb x5_6.toNatClampNeg 61)), (6, .int x5_6), (5, .int x5_5), (3, .ref (gb p0.toNatClampNeg 61)), (0, .ref (a 0)), (1, .int p0), (2, .int p1)]) hx hb dX11_like_87 hl (by decide) rfl (fun ls hl => ?_)
                refine lv_iload hx hb dX11_like_89 (lv_at hl 1 rfl) ?_
                refine lv_istore (lv' := [(5, .int r_12), (4, .int x5_6), (8, .int r_12), (7, .ref (gb x5_6.toNatClampNeg 61)), (6, .int x5_6), (3, .ref (gb p0.toNatClampNeg 61)), (0, .ref (a 0)), (1, .int p0), (2, .int p1)]) hx hb dX11_like_91 hl (by decide) rfl (fun ls hl => ?_)
                obtain ⟨x_17, ex_17⟩ : ∃ y : Int32, y = x5_6 + 1 := ⟨_, rfl⟩
                refine lv_iinc (v := x_17) (lv' := [(6, .int x_17), (5, .int r_12), (4, .int x5_6), (8, .int r_12), (7, .ref (gb x5_6.toNatClampNeg 61)), (3, .ref (gb p0.toNatClampNeg 61)), (0, .ref (a 0)), (1, .int p0), (2, .int p1)]) hx hb dX11_like_93 hl (k := 4) rfl (by rw [ex_17]; rfl) (by decide) rfl (fun ls hl => ?_)
                have hx_17 : x_17.toInt = x5_6.toInt + 1 := by rw [ex_17]; have := b_rg x5_6; exact i_add (a := x5_6.toInt) (b := 1) rfl rfl (by omega) (by omega)
                refine lv_goto (tgt := 32) hx hb dX11_like_96 (by decide) ?_
                have hk : x_17.toNatClampNeg = x5_6.toNatClampNeg + 1 := by show x_17.toInt.toNat = x5_6.toInt.toNat + 1; omega
                have hxn : ((x5_6.toNatClampNeg : Nat) : Int) = x5_6.toInt := by show ((x5_6.toInt.toNat : Nat) : Int) = _; omega
                have hh9 : x5_6.toNatClampNeg ≠ p0.toNatClampNeg := fun h9 => by omega
                exact ih5 x_17 r_12 x5_6 _ (bk6 hm5 hx_17 c_7 hg0.2) (by first | omega | decide)  ⟨Or.inr ⟨x5_6.toNatClampNeg, hxn.symm, hD9, by rw [hk]; exact lkB_s hB8 hh9 (by clear hB8 hH; omega)⟩, by omega⟩  (lv_sub hl [0, 1, 2, 5, 6, 7, 8] rfl)
    exact loop_5 _ 0 (-2) (-2) _ (Nat.lt_succ_self _) (by first | omega | decide)  ⟨Or.inl ⟨by decide, by decide, fun g9 h9 => absurd (show g9 < 0 from h9) (Nat.not_lt_zero g9)⟩, by have h9 : (0 : Int32).toInt = 0 := rfl; omega⟩  hl
  · skip
    refine lv_if_ne (tgt := 21) hx hb dX11_like_16 (by decide) (fun c_18 => absurd (by decide) c_18) (fun c_18 => ?_)
    refine lv_iconst (v := (-1)) hx hb dX11_like_19 (by decide) ?_
    subst hQ
    exact W.iret (v := (-1)) hx hb hr (fun t ht hW => ⟨_, rfl, ⟨fun h9 => absurd h9 (by omega), fun _ => rfl⟩, ht⟩) (fun q hq => absurd hq List.not_mem_nil) dX11_like_20
