set_option maxHeartbeats 4000000 in
set_option maxRecDepth 100000 in
theorem c_X12_offer9 (l : Launch) (D : va_G) (cy : Nat → ClassId) (a : Nat → Nat) (i : Nat → Int32) (r : Nat → Nat → Int32) (rl : Nat → Int64) (p0 p1 p2 : Int32) (sz : Nat) (hRi : mRi i) (hRr : mRr r) : Met l yX12_offer (Cond.code yX12_offer cX12_offer 4 (some .int) :: gT) { frames := 2, cells := 0, slots := 0, locals := 45 } (va_Pc [.ref (a 0), .int p0, .int p1, .int p2] (rQ D cy (mW cy a i r rl) sz)) (va_Qi (fun (z : Int32) (u : Nat → Nat → Int32) => mRr u ∧ mEr [50, 51] r u ∧ ((((0 ≤ p0.toInt ∧ p0.toInt < (i 0).toInt) ∧ (0 ≤ p2.toInt ∧ p2.toInt ≤ 999999)) → (p1.toInt ≠ 0 → (∃ w : Int32, w.toInt = p2.toInt + 1 ∧ u 50 = upd (r 50) p0.toNatClampNeg w) ∧ u 51 = r 51) ∧ (¬ p1.toInt ≠ 0 → (∃ w : Int32, w.toInt = p2.toInt + 1 ∧ u 51 = upd (r 51) p0.toNatClampNeg w) ∧ u 50 = r 50) ∧ BR z (0 < (u 50 p0.toNatClampNeg).toInt ∧ 0 < (u 51 p0.toNatClampNeg).toInt) 1 0) ∧ (¬ ((0 ≤ p0.toInt ∧ p0.toInt < (i 0).toInt) ∧ (0 ≤ p2.toInt ∧ p2.toInt ≤ 999999)) → z = -1 ∧ mEr [] r u))) (fun (u : Nat → Nat → Int32) t => va_P D vwCl (mW cy a i u rl) t.heap ∧ va_K D vwCl (vT cy) t ∧ va_D (va_A (mW cy a i r rl) sz) (mW cy a i u rl)) (va_A (mW cy a i r rl) sz)) 0 0 (va_A (mW cy a i r rl) sz) := by
  refine Met.ofQ (cc := cX12_offer) (maxL := 4) (ret := (some .int)) (by decide) rfl ?_
  intro p e s m args below meth c s₁ B hml hv Q hQ
  obtain ⟨rfl, hsz, hP, hK, hD0⟩ := hv
  have hx := B.exec
  have hb := B.bytes
  have hr := B.returns
  have hlocks := B.notSynchronized
  have hT : ∀ w ∈ gT, w.before _ s = true := fun w h => atoms_spec (ws := (Cond.code yX12_offer cX12_offer 4 (some .int) :: gT)) B.pre w (List.mem_cons_of_mem _ h)
  have hown : s.vm.findClass RX12 = some m.cls := findClass_of_methodNamed B.named
  subst hsz
  have hD := hD0.self (sz := s.heap.size)
  generalize hAe : va_A (mW cy a i r rl) s.heap.size = A at hD hQ
  have hA : ∀ q : Nat, s.heap.size ≤ q → A q := fun q h => by rw [← hAe]; exact Or.inr h
  have hS : va_S A s.heap s.heap [] := va_S.rf
  have hl := lv_entry ([.ref (a 0), .int p0, .int p1, .int p2]) (n := 4) (Nat.le_of_ble_eq_true rfl)
  rw [lg_entry_eq]
  generalize (lg_sl ([.ref (a 0), .int p0, .int p1, .int p2]) ++ List.replicate (4 - (lg_sl ([.ref (a 0), .int p0, .int p1, .int p2])).length) Slot.unset).toArray = ls at hl ⊢
  have hl : lv_has ls 4 [(0, .ref (a 0)), (1, .int p0), (2, .int p1), (3, .int p2)] := hl
  have hEi : mEi [] i i := Ei_rf
  have hEr : mEr [50, 51] r r := Er_rf
  refine lv_aload_n hx hb dX12_offer_0 rfl (lv_at hl 0 rfl) ?_
  refine lv_iload_n hx hb dX12_offer_1 rfl (lv_at hl 1 rfl) ?_
  refine vp_callSi (W.runV (As := [.int p0]) (rest := []) ⟨hx, hb, hml, hown, hT⟩ (c_X12_isHome l D cy a i r rl p0 hRi hRr) (cwV 1 hT (gV t_12 t_13 t_14 t_15 t_6) rfl rfl rfl (by decide +kernel) ⟨Nat.le_of_ble_eq_true rfl, Nat.le_of_ble_eq_true rfl⟩) (rP_v hP hK (va_recv hK hP (ci := 12) (q0 := 0) rfl rfl)) rfl rfl hl.1 rfl (lv_room (Nat.le_of_ble_eq_true rfl)) dX12_offer_2 ⟨Nat.le_of_ble_eq_true rfl, Nat.le_of_ble_eq_true rfl⟩) (fun r_1 hr_1 => ?_)
  have hg_2 : 0 ≤ (i 0).toInt ∧ (i 0).toInt ≤ 6 := hRi 0
  have hr_1 : BR r_1 (0 ≤ p0.toInt ∧ p0.toInt < (i 0).toInt) 1 0 := hr_1
  rcases hr_1 with ⟨rfl, h_3⟩ | ⟨rfl, h_3⟩
  · skip
    refine lv_if_eq (tgt := 15) hx hb dX12_offer_5 (by decide) (fun c_4 => absurd c_4 (by decide)) (fun c_4 => ?_)
    refine lv_iload_n hx hb dX12_offer_8 rfl (lv_at hl 3 rfl) ?_
    refine vp_callSi (W.runS (As := [.int p2]) (rest := []) ⟨hx, hb, hml, hown, hT⟩ (c_X12_isPence l p2) (va_cwS 1 hT (gS t_177 t_178 t_179 t_6) rfl rfl rfl (by decide +kernel) ⟨Nat.le_of_ble_eq_true rfl, Nat.le_of_ble_eq_true rfl⟩) preT rfl rfl hl.1 rfl (lv_room (Nat.le_of_ble_eq_true rfl)) dX12_offer_9 ⟨Nat.le_of_ble_eq_true rfl, Nat.le_of_ble_eq_true rfl⟩) (fun r_5 hr_5 => ?_)
    have hr_5 : BR r_5 (0 ≤ p2.toInt ∧ p2.toInt ≤ 999999) 1 0 := hr_5
    rcases hr_5 with ⟨rfl, h_6⟩ | ⟨rfl, h_6⟩
    · skip
      refine lv_if_ne (tgt := 17) hx hb dX12_offer_12 (by decide) (fun c_7 => ?_) (fun c_7 => absurd c_7 (by decide))
      refine lv_iload_n hx hb dX12_offer_17 rfl (lv_at hl 2 rfl) ?_
      refine lv_if_eq (tgt := 33) hx hb dX12_offer_18 (by decide) (fun c_8 => ?_) (fun c_8 => ?_)
      · have c_8 : p1.toInt = 0 := b_eq c_8
        refine lv_aload_n hx hb dX12_offer_33 rfl (lv_at hl 0 rfl) ?_
        refine va_get (D := D) (ci := 12) (v := .ref (a 51)) (C := RX12) (T := TX12) (N := 91) hx hb hT iX12 hown hK hP 0 rfl rfl 65 (by decide) (hT _ t_185) (fun _ h9 => h9) rfl dX12_offer_34 ?_
        refine lv_iload_n hx hb dX12_offer_37 rfl (lv_at hl 1 rfl) ?_
        refine lv_iload_n hx hb dX12_offer_38 rfl (lv_at hl 3 rfl) ?_
        refine lv_iconst (v := 1) hx hb dX12_offer_39 (by decide) ?_
        refine lv_iadd hx hb dX12_offer_40 ?_
        refine lv_topi (fun v_9 ev_9 => ?_)
        have hv_9 : v_9.toInt = p2.toInt + 1 := by rw [ev_9]; have := b_rg p2; exact i_add (a := p2.toInt) (b := 1) rfl rfl (by omega) (by omega)
        refine va_iast hx hb hK hP hD hS 51 0 rfl rfl (vp_inI (by omega) (by omega)) dX12_offer_41 (fun H locs hP hD hS => ?_)
        rw [mS51] at hP hD
        have hRr : mRr (va_up r 51 (upd (r 51) p0.toNatClampNeg v_9)) := Rr_upd hRr 51 (p0.toNatClampNeg) v_9 ⟨by show (0 : Int) ≤ v_9.toInt; omega, by show v_9.toInt ≤ (1000000 : Int); omega⟩
        have hEr : mEr [50, 51] _ (va_up r 51 (upd (r 51) p0.toNatClampNeg v_9)) := Er_up hEr 51 _ (by decide)
        refine lv_aload_n hx hb dX12_offer_42 rfl (lv_at hl 0 rfl) ?_
        refine va_get (D := D) (ci := 12) (v := .ref (a 50)) (C := RX12) (T := TX12) (N := 91) hx hb hT iX12 hown hK hP 0 rfl rfl 64 (by decide) (hT _ t_186) (fun _ h9 => h9) rfl dX12_offer_43 ?_
        refine lv_iload_n hx hb dX12_offer_46 rfl (lv_at hl 1 rfl) ?_
        refine va_iald hx hb hK hP 50 0 rfl rfl (vp_inI (by omega) (by omega)) dX12_offer_47 ?_
        refine lv_topi (fun v_10 ev_10 => ?_)
        have hgv_10 : 0 ≤ v_10.toInt ∧ v_10.toInt ≤ 1000000 := by rw [ev_10]; exact hRr 50 _
        have hwv_10 : v_10.toInt = (r 50 (p0.toNatClampNeg)).toInt := congrArg Int32.toInt ev_10
        try rw [upd_s] at hwv_10
        refine lv_if_le (tgt := 64) hx hb dX12_offer_48 (by decide) (fun c_11 => ?_) (fun c_11 => ?_)
        · have c_11 : v_10.toInt ≤ 0 := b_le c_11
          refine lv_iconst (v := 0) hx hb dX12_offer_64 (by decide) ?_
          subst hQ
          have hu51 : (va_up r 51 (upd (r 51) p0.toNatClampNeg v_9)) 51 p0.toNatClampNeg = v_9 := if_pos rfl
          have hb50 : (va_up r 51 (upd (r 51) p0.toNatClampNeg v_9)) 50 p0.toNatClampNeg = r 50 p0.toNatClampNeg := rfl
          have hpo : ¬ (0 < ((va_up r 51 (upd (r 51) p0.toNatClampNeg v_9)) 50 p0.toNatClampNeg).toInt ∧ 0 < ((va_up r 51 (upd (r 51) p0.toNatClampNeg v_9)) 51 p0.toNatClampNeg).toInt) := by rw [hu51, hb50]; omega
          exact W.iret (v := 0) hx hb hr (fun t ht hW => ⟨⟨_, (va_up r 51 (upd (r 51) p0.toNatClampNeg v_9)), rfl, ⟨hRr, hEr, ⟨fun _ => ⟨(fun h8 => absurd h8 (by omega)), (fun _ => ⟨⟨v_9, by omega, rfl⟩, rfl⟩), Or.inr ⟨rfl, hpo⟩⟩, fun h9 => absurd (by omega) h9⟩⟩, by rw [ht]; exact hP, va_K.moved hW.alike hK, hD⟩, hS.F ht⟩) hS.2.2 dX12_offer_65
        · have c_11 : 0 < v_10.toInt := b_nle c_11
          refine lv_aload_n hx hb dX12_offer_51 rfl (lv_at hl 0 rfl) ?_
          refine va_get (D := D) (ci := 12) (v := .ref (a 51)) (C := RX12) (T := TX12) (N := 91) hx hb hT iX12 hown hK hP 0 rfl rfl 65 (by decide) (hT _ t_185) (fun _ h9 => h9) rfl dX12_offer_52 ?_
          refine lv_iload_n hx hb dX12_offer_55 rfl (lv_at hl 1 rfl) ?_
          refine va_iald hx hb hK hP 51 0 rfl rfl (vp_inI (by omega) (by omega)) dX12_offer_56 ?_
          refine lv_topi (fun v_12 ev_12 => ?_)
          have hgv_12 : 0 ≤ v_12.toInt ∧ v_12.toInt ≤ 1000000 := by rw [ev_12]; exact hRr 51 _
          have hwv_12 : v_12.toInt = (upd (r 51) p0.toNatClampNeg v_9 (p0.toNatClampNeg)).toInt := congrArg Int32.toInt ev_12
          try rw [upd_s] at hwv_12
          refine lv_if_le (tgt := 64) hx hb dX12_offer_57 (by decide) (fun c_13 => ?_) (fun c_13 => ?_)
          · have c_13 : v_12.toInt ≤ 0 := b_le c_13
            refine lv_iconst (v := 0) hx hb dX12_offer_64 (by decide) ?_
            subst hQ
            have hu51 : (va_up r 51 (upd (r 51) p0.toNatClampNeg v_9)) 51 p0.toNatClampNeg = v_9 := if_pos rfl
            have hb50 : (va_up r 51 (upd (r 51) p0.toNatClampNeg v_9)) 50 p0.toNatClampNeg = r 50 p0.toNatClampNeg := rfl
            have hpo : ¬ (0 < ((va_up r 51 (upd (r 51) p0.toNatClampNeg v_9)) 50 p0.toNatClampNeg).toInt ∧ 0 < ((va_up r 51 (upd (r 51) p0.toNatClampNeg v_9)) 51 p0.toNatClampNeg).toInt) := by rw [hu51, hb50]; omega
            exact W.iret (v := 0) hx hb hr (fun t ht hW => ⟨⟨_, (va_up r 51 (upd (r 51) p0.toNatClampNeg v_9)), rfl, ⟨hRr, hEr, ⟨fun _ => ⟨(fun h8 => absurd h8 (by omega)), (fun _ => ⟨⟨v_9, by omega, rfl⟩, rfl⟩), Or.inr ⟨rfl, hpo⟩⟩, fun h9 => absurd (by omega) h9⟩⟩, by rw [ht]; exact hP, va_K.moved hW.alike hK, hD⟩, hS.F ht⟩) hS.2.2 dX12_offer_65
          · have c_13 : 0 < v_12.toInt := b_nle c_13
            refine lv_iconst (v := 1) hx hb dX12_offer_60 (by decide) ?_
            refine lv_goto (tgt := 65) hx hb dX12_offer_61 (by decide) ?_
            subst hQ
            have hu51 : (va_up r 51 (upd (r 51) p0.toNatClampNeg v_9)) 51 p0.toNatClampNeg = v_9 := if_pos rfl
            have hb50 : (va_up r 51 (upd (r 51) p0.toNatClampNeg v_9)) 50 p0.toNatClampNeg = r 50 p0.toNatClampNeg := rfl
            have hpo : (0 < ((va_up r 51 (upd (r 51) p0.toNatClampNeg v_9)) 50 p0.toNatClampNeg).toInt ∧ 0 < ((va_up r 51 (upd (r 51) p0.toNatClampNeg v_9)) 51 p0.toNatClampNeg).toInt) := by rw [hu51, hb50]; omega
            exact W.iret (v := 1) hx hb hr (fun t ht hW => ⟨⟨_, (va_up r 51 (upd (r 51) p0.toNatClampNeg v_9)), rfl, ⟨hRr, hEr, ⟨fun _ => ⟨(fun h8 => absurd h8 (by omega)), (fun _ => ⟨⟨v_9, by omega, rfl⟩, rfl⟩), Or.inl ⟨rfl, hpo⟩⟩, fun h9 => absurd (by omega) h9⟩⟩, by rw [ht]; exact hP, va_K.moved hW.alike hK, hD⟩, hS.F ht⟩) hS.2.2 dX12_offer_65
      · have c_8 : p1.toInt ≠ 0 := b_ne c_8
        refine lv_aload_n hx hb dX12_offer_21 rfl (lv_at hl 0 rfl) ?_
        refine va_get (D := D) (ci := 12) (v := .ref (a 50)) (C := RX12) (T := TX12) (N := 91) hx hb hT iX12 hown hK hP 0 rfl rfl 64 (by decide) (hT _ t_186) (fun _ h9 => h9) rfl dX12_offer_22 ?_
        refine lv_iload_n hx hb dX12_offer_25 rfl (lv_at hl 1 rfl) ?_
        refine lv_iload_n hx hb dX12_offer_26 rfl (lv_at hl 3 rfl) ?_
        refine lv_iconst (v := 1) hx hb dX12_offer_27 (by decide) ?_
        refine lv_iadd hx hb dX12_offer_28 ?_
        refine lv_topi (fun v_14 ev_14 => ?_)
        have hv_14 : v_14.toInt = p2.toInt + 1 := by rw [ev_14]; have := b_rg p2; exact i_add (a := p2.toInt) (b := 1) rfl rfl (by omega) (by omega)
        refine va_iast hx hb hK hP hD hS 50 0 rfl rfl (vp_inI (by omega) (by omega)) dX12_offer_29 (fun H locs hP hD hS => ?_)
        rw [mS50] at hP hD
        have hRr : mRr (va_up r 50 (upd (r 50) p0.toNatClampNeg v_14)) := Rr_upd hRr 50 (p0.toNatClampNeg) v_14 ⟨by show (0 : Int) ≤ v_14.toInt; omega, by show v_14.toInt ≤ (1000000 : Int); omega⟩
        have hEr : mEr [50, 51] _ (va_up r 50 (upd (r 50) p0.toNatClampNeg v_14)) := Er_up hEr 50 _ (by decide)
        refine lv_goto (tgt := 42) hx hb dX12_offer_30 (by decide) ?_
        refine lv_aload_n hx hb dX12_offer_42 rfl (lv_at hl 0 rfl) ?_
        refine va_get (D := D) (ci := 12) (v := .ref (a 50)) (C := RX12) (T := TX12) (N := 91) hx hb hT iX12 hown hK hP 0 rfl rfl 64 (by decide) (hT _ t_186) (fun _ h9 => h9) rfl dX12_offer_43 ?_
        refine lv_iload_n hx hb dX12_offer_46 rfl (lv_at hl 1 rfl) ?_
        refine va_iald hx hb hK hP 50 0 rfl rfl (vp_inI (by omega) (by omega)) dX12_offer_47 ?_
        refine lv_topi (fun v_15 ev_15 => ?_)
        have hgv_15 : 0 ≤ v_15.toInt ∧ v_15.toInt ≤ 1000000 := by rw [ev_15]; exact hRr 50 _
        have hwv_15 : v_15.toInt = (upd (r 50) p0.toNatClampNeg v_14 (p0.toNatClampNeg)).toInt := congrArg Int32.toInt ev_15
        try rw [upd_s] at hwv_15
        refine lv_if_le (tgt := 64) hx hb dX12_offer_48 (by decide) (fun c_16 => ?_) (fun c_16 => ?_)
        · have c_16 : v_15.toInt ≤ 0 := b_le c_16
          refine lv_iconst (v := 0) hx hb dX12_offer_64 (by decide) ?_
          subst hQ
          have hu50 : (va_up r 50 (upd (r 50) p0.toNatClampNeg v_14)) 50 p0.toNatClampNeg = v_14 := if_pos rfl
          have hb51 : (va_up r 50 (upd (r 50) p0.toNatClampNeg v_14)) 51 p0.toNatClampNeg = r 51 p0.toNatClampNeg := rfl
          have hpo : ¬ (0 < ((va_up r 50 (upd (r 50) p0.toNatClampNeg v_14)) 50 p0.toNatClampNeg).toInt ∧ 0 < ((va_up r 50 (upd (r 50) p0.toNatClampNeg v_14)) 51 p0.toNatClampNeg).toInt) := by rw [hu50, hb51]; omega
          exact W.iret (v := 0) hx hb hr (fun t ht hW => ⟨⟨_, (va_up r 50 (upd (r 50) p0.toNatClampNeg v_14)), rfl, ⟨hRr, hEr, ⟨fun _ => ⟨(fun _ => ⟨⟨v_14, by omega, rfl⟩, rfl⟩), (fun h8 => absurd (by omega) h8), Or.inr ⟨rfl, hpo⟩⟩, fun h9 => absurd (by omega) h9⟩⟩, by rw [ht]; exact hP, va_K.moved hW.alike hK, hD⟩, hS.F ht⟩) hS.2.2 dX12_offer_65
        · have c_16 : 0 < v_15.toInt := b_nle c_16
          refine lv_aload_n hx hb dX12_offer_51 rfl (lv_at hl 0 rfl) ?_
          refine va_get (D := D) (ci := 12) (v := .ref (a 51)) (C := RX12) (T := TX12) (N := 91) hx hb hT iX12 hown hK hP 0 rfl rfl 65 (by decide) (hT _ t_185) (fun _ h9 => h9) rfl dX12_offer_52 ?_
          refine lv_iload_n hx hb dX12_offer_55 rfl (lv_at hl 1 rfl) ?_
          refine va_iald hx hb hK hP 51 0 rfl rfl (vp_inI (by omega) (by omega)) dX12_offer_56 ?_
          refine lv_topi (fun v_17 ev_17 => ?_)
          have hgv_17 : 0 ≤ v_17.toInt ∧ v_17.toInt ≤ 1000000 := by rw [ev_17]; exact hRr 51 _
          have hwv_17 : v_17.toInt = (r 51 (p0.toNatClampNeg)).toInt := congrArg Int32.toInt ev_17
          try rw [upd_s] at hwv_17
          refine lv_if_le (tgt := 64) hx hb dX12_offer_57 (by decide) (fun c_18 => ?_) (fun c_18 => ?_)
          · have c_18 : v_17.toInt ≤ 0 := b_le c_18
            refine lv_iconst (v := 0) hx hb dX12_offer_64 (by decide) ?_
            subst hQ
            have hu50 : (va_up r 50 (upd (r 50) p0.toNatClampNeg v_14)) 50 p0.toNatClampNeg = v_14 := if_pos rfl
            have hb51 : (va_up r 50 (upd (r 50) p0.toNatClampNeg v_14)) 51 p0.toNatClampNeg = r 51 p0.toNatClampNeg := rfl
            have hpo : ¬ (0 < ((va_up r 50 (upd (r 50) p0.toNatClampNeg v_14)) 50 p0.toNatClampNeg).toInt ∧ 0 < ((va_up r 50 (upd (r 50) p0.toNatClampNeg v_14)) 51 p0.toNatClampNeg).toInt) := by rw [hu50, hb51]; omega
            exact W.iret (v := 0) hx hb hr (fun t ht hW => ⟨⟨_, (va_up r 50 (upd (r 50) p0.toNatClampNeg v_14)), rfl, ⟨hRr, hEr, ⟨fun _ => ⟨(fun _ => ⟨⟨v_14, by omega, rfl⟩, rfl⟩), (fun h8 => absurd (by omega) h8), Or.inr ⟨rfl, hpo⟩⟩, fun h9 => absurd (by omega) h9⟩⟩, by rw [ht]; exact hP, va_K.moved hW.alike hK, hD⟩, hS.F ht⟩) hS.2.2 dX12_offer_65
          · have c_18 : 0 < v_17.toInt := b_nle c_18
            refine lv_iconst (v := 1) hx hb dX12_offer_60 (by decide) ?_
            refine lv_goto (tgt := 65) hx hb dX12_offer_61 (by decide) ?_
            subst hQ
            have hu50 : (va_up r 50 (upd (r 50) p0.toNatClampNeg v_14)) 50 p0.toNatClampNeg = v_14 := if_pos rfl
            have hb51 : (va_up r 50 (upd (r 50) p0.toNatClampNeg v_14)) 51 p0.toNatClampNeg = r 51 p0.toNatClampNeg := rfl
            have hpo : (0 < ((va_up r 50 (upd (r 50) p0.toNatClampNeg v_14)) 50 p0.toNatClampNeg).toInt ∧ 0 < ((va_up r 50 (upd (r 50) p0.toNatClampNeg v_14)) 51 p0.toNatClampNeg).toInt) := by rw [hu50, hb51]; omega
            exact W.iret (v := 1) hx hb hr (fun t ht hW => ⟨⟨_, (va_up r 50 (upd (r 50) p0.toNatClampNeg v_14)), rfl, ⟨hRr, hEr, ⟨fun _ => ⟨(fun _ => ⟨⟨v_14, by omega, rfl⟩, rfl⟩), (fun h8 => absurd (by omega) h8), Or.inl ⟨rfl, hpo⟩⟩, fun h9 => absurd (by omega) h9⟩⟩, by rw [ht]; exact hP, va_K.moved hW.alike hK, hD⟩, hS.F ht⟩) hS.2.2 dX12_offer_65
    · skip
      refine lv_if_ne (tgt := 17) hx hb dX12_offer_12 (by decide) (fun c_19 => absurd (by decide) c_19) (fun c_19 => ?_)
      refine lv_iconst (v := (-1)) hx hb dX12_offer_15 (by decide) ?_
      subst hQ
      exact W.iret (v := (-1)) hx hb hr (fun t ht hW => ⟨⟨_, r, rfl, ⟨hRr, hEr, ⟨fun h9 => absurd h9 (by omega), fun _ => ⟨rfl, Er_rf⟩⟩⟩, by rw [ht]; exact hP, va_K.moved hW.alike hK, hD⟩, hS.F ht⟩) hS.2.2 dX12_offer_16
  · skip
    refine lv_if_eq (tgt := 15) hx hb dX12_offer_5 (by decide) (fun c_20 => ?_) (fun c_20 => absurd (by decide) c_20)
    refine lv_iconst (v := (-1)) hx hb dX12_offer_15 (by decide) ?_
    subst hQ
    exact W.iret (v := (-1)) hx hb hr (fun t ht hW => ⟨⟨_, r, rfl, ⟨hRr, hEr, ⟨fun h9 => absurd h9 (by omega), fun _ => ⟨rfl, Er_rf⟩⟩⟩, by rw [ht]; exact hP, va_K.moved hW.alike hK, hD⟩, hS.F ht⟩) hS.2.2 dX12_offer_16
set_option maxHeartbeats 4000000 in
set_option maxRecDepth 100000 in
theorem c_X1_hasBothOffers9 (l : Launch) (D : va_G) (cy : Nat → ClassId) (a : Nat → Nat) (i : Nat → Int32) (r : Nat → Nat → Int32) (q : Nat → Option Nat) (tl : va_W) (p0 : Int32) (hRi : yRi i) (hRr : yRr r) (q0 : 0 ≤ p0.toInt ∧ p0.toInt ≤ 5) : Met l yX1_hasBothOffers (Cond.code yX1_hasBothOffers cX1_hasBothOffers 2 (some .boolean) :: gT) { frames := 1, cells := 0, slots := 0, locals := 24 } (va_Pc [.ref (a 29), .int p0] (rP D cy (xW cy a i r q (a 20) (a 12) ++ tl))) (vp_Si (fun z => BR z ((r 38 p0.toNatClampNeg).toInt ≠ -1 ∧ (r 39 p0.toNatClampNeg).toInt ≠ -1) 1 0)) 0 0 (fun _ => False) := by
  refine Met.ofQ (cc := cX1_hasBothOffers) (maxL := 2) (ret := (some .boolean)) (by decide) rfl ?_
  intro p e s m args below meth c s₁ B hml hv Q hQ
  obtain ⟨rfl, hP, hK⟩ := hv
  have hx := B.exec
  have hb := B.bytes
  have hr := B.returns
  have hlocks := B.notSynchronized
  have hT : ∀ w ∈ gT, w.before _ s = true := fun w h => atoms_spec (ws := (Cond.code yX1_hasBothOffers cX1_hasBothOffers 2 (some .boolean) :: gT)) B.pre w (List.mem_cons_of_mem _ h)
  have hown : s.vm.findClass RX1 = some m.cls := findClass_of_methodNamed B.named
  have hl := lv_entry ([.ref (a 29), .int p0]) (n := 2) (Nat.le_of_ble_eq_true rfl)
  rw [lg_entry_eq]
  generalize (lg_sl ([.ref (a 29), .int p0]) ++ List.replicate (2 - (lg_sl ([.ref (a 29), .int p0])).length) Slot.unset).toArray = ls at hl ⊢
  have hl : lv_has ls 2 [(0, .ref (a 29)), (1, .int p0)] := hl
  have hEi : mEi [] i i := Ei_rf
  have hEr : mEr [] r r := Er_rf
  refine lv_aload_n hx hb dX1_hasBothOffers_0 rfl (lv_at hl 0 rfl) ?_
  refine va_get (D := D) (ci := 1) (v := .ref (a 38)) (C := RX1) (T := TX1) (N := 12) hx hb hT iX1 hown hK hP 29 rfl rfl 9 (by decide) (hT _ t_346) (fun _ h9 => h9) rfl dX1_hasBothOffers_1 ?_
  refine lv_iload_n hx hb dX1_hasBothOffers_4 rfl (lv_at hl 1 rfl) ?_
  refine va_iald hx hb hK hP 38 0 rfl rfl (vp_inI (by omega) (by omega)) dX1_hasBothOffers_5 ?_
  refine lv_topi (fun v_1 ev_1 => ?_)
  have hgv_1 : -1 ≤ v_1.toInt ∧ v_1.toInt ≤ 999999 := by rw [ev_1]; exact hRr 38 _
  have hwv_1 : v_1.toInt = (r 38 (p0.toNatClampNeg)).toInt := congrArg Int32.toInt ev_1
  refine lv_iconst (v := (-1)) hx hb dX1_hasBothOffers_6 (by decide) ?_
  refine lv_icmp_eq (tgt := 24) hx hb dX1_hasBothOffers_7 (by decide) (fun c_2 => ?_) (fun c_2 => ?_)
  · have c_2 : v_1.toInt = (-1) := b_eq c_2
    refine lv_iconst (v := 0) hx hb dX1_hasBothOffers_24 (by decide) ?_
    subst hQ
    exact W.zret hx hb hr rfl (fun t ht hW => ⟨_, rfl, Or.inr ⟨rfl, by omega⟩, ht⟩) (fun q hq => absurd hq List.not_mem_nil) dX1_hasBothOffers_25
  · have c_2 : v_1.toInt ≠ (-1) := b_ne c_2
    refine lv_aload_n hx hb dX1_hasBothOffers_10 rfl (lv_at hl 0 rfl) ?_
    refine va_get (D := D) (ci := 1) (v := .ref (a 39)) (C := RX1) (T := TX1) (N := 12) hx hb hT iX1 hown hK hP 29 rfl rfl 10 (by decide) (hT _ t_347) (fun _ h9 => h9) rfl dX1_hasBothOffers_11 ?_
    refine lv_iload_n hx hb dX1_hasBothOffers_14 rfl (lv_at hl 1 rfl) ?_
    refine va_iald hx hb hK hP 39 0 rfl rfl (vp_inI (by omega) (by omega)) dX1_hasBothOffers_15 ?_
    refine lv_topi (fun v_3 ev_3 => ?_)
    have hgv_3 : -1 ≤ v_3.toInt ∧ v_3.toInt ≤ 999999 := by rw [ev_3]; exact hRr 39 _
    have hwv_3 : v_3.toInt = (r 39 (p0.toNatClampNeg)).toInt := congrArg Int32.toInt ev_3
    refine lv_iconst (v := (-1)) hx hb dX1_hasBothOffers_16 (by decide) ?_
    refine lv_icmp_eq (tgt := 24) hx hb dX1_hasBothOffers_17 (by decide) (fun c_4 => ?_) (fun c_4 => ?_)
    · have c_4 : v_3.toInt = (-1) := b_eq c_4
      refine lv_iconst (v := 0) hx hb dX1_hasBothOffers_24 (by decide) ?_
      subst hQ
      exact W.zret hx hb hr rfl (fun t ht hW => ⟨_, rfl, Or.inr ⟨rfl, by omega⟩, ht⟩) (fun q hq => absurd hq List.not_mem_nil) dX1_hasBothOffers_25
    · have c_4 : v_3.toInt ≠ (-1) := b_ne c_4
      refine lv_iconst (v := 1) hx hb dX1_hasBothOffers_20 (by decide) ?_
      refine lv_goto (tgt := 25) hx hb dX1_hasBothOffers_21 (by decide) ?_
      subst hQ
      exact W.zret hx hb hr rfl (fun t ht hW => ⟨_, rfl, Or.inl ⟨rfl, by omega⟩, ht⟩) (fun q hq => absurd hq List.not_mem_nil) dX1_hasBothOffers_25
set_option maxHeartbeats 4000000 in
set_option maxRecDepth 100000 in
theorem c_X1_dropOffers9 (l : Launch) (D : va_G) (cy : Nat → ClassId) (a : Nat → Nat) (i : Nat → Int32) (r : Nat → Nat → Int32) (q : Nat → Option Nat) (tl : va_W) (p0 : Int32) (sz : Nat) (hRi : yRi i) (hRr : yRr r) (q0 : 0 ≤ p0.toInt ∧ p0.toInt ≤ 5) : Met l yX1_dropOffers (Cond.code yX1_dropOffers cX1_dropOffers 2 none :: gT) { frames := 1, cells := 0, slots := 0, locals := 24 } (va_Pc [.ref (a 29), .int p0] (rQ D cy (xW cy a i r q (a 20) (a 12) ++ tl) sz)) (va_Qv (fun u : Nat → Nat → Int32 => yRr u ∧ mEr [38, 39] r u ∧ (u 38 = upd (r 38) p0.toNatClampNeg (-1) ∧ u 39 = upd (r 39) p0.toNatClampNeg (-1))) (fun (u : Nat → Nat → Int32) t => va_P D vwCl (xW cy a i u q (a 20) (a 12) ++ tl) t.heap ∧ va_K D vwCl (vT cy) t ∧ va_D (va_A (xW cy a i r q (a 20) (a 12) ++ tl) sz) (xW cy a i u q (a 20) (a 12) ++ tl)) (va_A (xW cy a i r q (a 20) (a 12) ++ tl) sz)) 0 0 (va_A (xW cy a i r q (a 20) (a 12) ++ tl) sz) := by
  refine Met.ofQ (cc := cX1_dropOffers) (maxL := 2) (ret := none) (by decide) rfl ?_
  intro p e s m args below meth c s₁ B hml hv Q hQ
  obtain ⟨rfl, hsz, hP, hK, hD0⟩ := hv
  have hx := B.exec
  have hb := B.bytes
  have hr := B.returns
  have hlocks := B.notSynchronized
  have hT : ∀ w ∈ gT, w.before _ s = true := fun w h => atoms_spec (ws := (Cond.code yX1_dropOffers cX1_dropOffers 2 none :: gT)) B.pre w (List.mem_cons_of_mem _ h)
  have hown : s.vm.findClass RX1 = some m.cls := findClass_of_methodNamed B.named
  subst hsz
  have hD := hD0.self (sz := s.heap.size)
  generalize hAe : va_A (xW cy a i r q (a 20) (a 12) ++ tl) s.heap.size = A at hD hQ
  have hA : ∀ q : Nat, s.heap.size ≤ q → A q := fun q h => by rw [← hAe]; exact Or.inr h
  have hS : va_S A s.heap s.heap [] := va_S.rf
  have hl := lv_entry ([.ref (a 29), .int p0]) (n := 2) (Nat.le_of_ble_eq_true rfl)
  rw [lg_entry_eq]
  generalize (lg_sl ([.ref (a 29), .int p0]) ++ List.replicate (2 - (lg_sl ([.ref (a 29), .int p0])).length) Slot.unset).toArray = ls at hl ⊢
  have hl : lv_has ls 2 [(0, .ref (a 29)), (1, .int p0)] := hl
  have hEi : mEi [] i i := Ei_rf
  have hEr : mEr [38, 39] r r := Er_rf
  refine lv_aload_n hx hb dX1_dropOffers_0 rfl (lv_at hl 0 rfl) ?_
  refine va_get (D := D) (ci := 1) (v := .ref (a 38)) (C := RX1) (T := TX1) (N := 12) hx hb hT iX1 hown hK hP 29 rfl rfl 9 (by decide) (hT _ t_346) (fun _ h9 => h9) rfl dX1_dropOffers_1 ?_
  refine lv_iload_n hx hb dX1_dropOffers_4 rfl (lv_at hl 1 rfl) ?_
  refine lv_iconst (v := (-1)) hx hb dX1_dropOffers_5 (by decide) ?_
  refine va_iast hx hb hK hP hD hS 38 0 rfl rfl (vp_inI (by omega) (by omega)) dX1_dropOffers_6 (fun H locs hP hD hS => ?_)
  rw [zS38] at hP hD
  have hRr : yRr (va_up r 38 (upd (r 38) p0.toNatClampNeg (-1))) := Yr_upd hRr 38 (p0.toNatClampNeg) (-1) ⟨by decide, by decide⟩
  have hEr : mEr [38, 39] _ (va_up r 38 (upd (r 38) p0.toNatClampNeg (-1))) := Er_up hEr 38 _ (by decide)
  refine lv_aload_n hx hb dX1_dropOffers_7 rfl (lv_at hl 0 rfl) ?_
  refine va_get (D := D) (ci := 1) (v := .ref (a 39)) (C := RX1) (T := TX1) (N := 12) hx hb hT iX1 hown hK hP 29 rfl rfl 10 (by decide) (hT _ t_347) (fun _ h9 => h9) rfl dX1_dropOffers_8 ?_
  refine lv_iload_n hx hb dX1_dropOffers_11 rfl (lv_at hl 1 rfl) ?_
  refine lv_iconst (v := (-1)) hx hb dX1_dropOffers_12 (by decide) ?_
  refine va_iast hx hb hK hP hD hS 39 0 rfl rfl (vp_inI (by omega) (by omega)) dX1_dropOffers_13 (fun H locs hP hD hS => ?_)
  rw [zS39] at hP hD
  have hRr : yRr (va_up (va_up r 38 (upd (r 38) p0.toNatClampNeg (-1))) 39 (upd (r 39) p0.toNatClampNeg (-1))) := Yr_upd hRr 39 (p0.toNatClampNeg) (-1) ⟨by decide, by decide⟩
  have hEr : mEr [38, 39] _ (va_up (va_up r 38 (upd (r 38) p0.toNatClampNeg (-1))) 39 (upd (r 39) p0.toNatClampNeg (-1))) := Er_up hEr 39 _ (by decide)
  subst hQ
  exact W.vret hx hb hr (fun t ht hW => ⟨⟨(va_up (va_up r 38 (upd (r 38) p0.toNatClampNeg (-1))) 39 (upd (r 39) p0.toNatClampNeg (-1))), rfl, ⟨hRr, hEr, ⟨rfl, rfl⟩⟩, by rw [ht]; exact hP, va_K.moved hW.alike hK, hD⟩, hS.F ht⟩) hS.2.2 dX1_dropOffers_14
set_option maxHeartbeats 4000000 in
set_option maxRecDepth 100000 in
theorem c_X11_offer.y9 (l : Launch) (D : va_G) (cy : Nat → ClassId) (a : Nat → Nat) (i : Nat → Int32) (r : Nat → Nat → Int32) (q : Nat → Option Nat) (tl : va_W) (p0 p1 p2 : Int32) (sz : Nat) (hRi : yRi i) (hRr : yRr r) (hh : 0 ≤ p0.toInt ∧ p0.toInt < (i 0).toInt) (hq : q p0.toNatClampNeg = some (a 61)) : Met l yX11_offer (Cond.code yX11_offer cX11_offer 4 (some .int) :: gT) { frames := 3, cells := 0, slots := 0, locals := 67 } (va_Pc [.ref (a 0), .int p0, .int p1, .int p2] (rQ D cy (xW cy a i r q (a 20) (a 12) ++ (hW cy a i r ++ tl)) sz)) (va_Qi (fun (z : Int32) (u : Nat → Nat → Int32) => yRr u ∧ mEr [38, 39] r u ∧ ((((0 ≤ p2.toInt ∧ p2.toInt ≤ 999999)) → (p1.toInt ≠ 0 → (∃ w : Int32, w.toInt = p2.toInt ∧ u 38 = upd (r 38) p0.toNatClampNeg w) ∧ u 39 = r 39) ∧ (¬ p1.toInt ≠ 0 → (∃ w : Int32, w.toInt = p2.toInt ∧ u 39 = upd (r 39) p0.toNatClampNeg w) ∧ u 38 = r 38) ∧ BR z ((u 38 p0.toNatClampNeg).toInt ≠ -1 ∧ (u 39 p0.toNatClampNeg).toInt ≠ -1) 1 0) ∧ (¬ ((0 ≤ p2.toInt ∧ p2.toInt ≤ 999999)) → z = -1 ∧ mEr [] r u))) (fun (u : Nat → Nat → Int32) t => va_P D vwCl (xW cy a i u q (a 20) (a 12) ++ (hW cy a i u ++ tl)) t.heap ∧ va_K D vwCl (vT cy) t ∧ va_D (va_A (xW cy a i r q (a 20) (a 12) ++ (hW cy a i r ++ tl)) sz) (xW cy a i u q (a 20) (a 12) ++ (hW cy a i u ++ tl))) (va_A (xW cy a i r q (a 20) (a 12) ++ (hW cy a i r ++ tl)) sz)) 0 0 (va_A (xW cy a i r q (a 20) (a 12) ++ (hW cy a i r ++ tl)) sz) := by
  refine Met.ofQ (cc := cX11_offer) (maxL := 4) (ret := (some .int)) (by decide) rfl ?_
  intro p e s m args below meth c s₁ B hml hv Q hQ
  obtain ⟨rfl, hsz, hP, hK, hD0⟩ := hv
  have hx := B.exec
  have hb := B.bytes
  have hr := B.returns
  have hlocks := B.notSynchronized
  have hT : ∀ w ∈ gT, w.before _ s = true := fun w h => atoms_spec (ws := (Cond.code yX11_offer cX11_offer 4 (some .int) :: gT)) B.pre w (List.mem_cons_of_mem _ h)
  have hown : s.vm.findClass RX11 = some m.cls := findClass_of_methodNamed B.named
  subst hsz
  have hD := hD0.self (sz := s.heap.size)
  generalize hAe : va_A (xW cy a i r q (a 20) (a 12) ++ (hW cy a i r ++ tl)) s.heap.size = A at hD hQ
  have hA : ∀ q : Nat, s.heap.size ≤ q → A q := fun q h => by rw [← hAe]; exact Or.inr h
  have hS : va_S A s.heap s.heap [] := va_S.rf
  have hl := lv_entry ([.ref (a 0), .int p0, .int p1, .int p2]) (n := 4) (Nat.le_of_ble_eq_true rfl)
  rw [lg_entry_eq]
  generalize (lg_sl ([.ref (a 0), .int p0, .int p1, .int p2]) ++ List.replicate (4 - (lg_sl ([.ref (a 0), .int p0, .int p1, .int p2])).length) Slot.unset).toArray = ls at hl ⊢
  have hl : lv_has ls 4 [(0, .ref (a 0)), (1, .int p0), (2, .int p1), (3, .int p2)] := hl
  have hEi : mEi [] i i := Ei_rf
  have hEr : mEr [38, 39] r r := Er_rf
  have hg0 : 0 ≤ (i 0).toInt ∧ (i 0).toInt ≤ 6 := hRi 0
  refine lv_aload_n hx hb dX11_offer_0 rfl (lv_at hl 0 rfl) ?_
  refine lv_iload_n hx hb dX11_offer_1 rfl (lv_at hl 1 rfl) ?_
  refine va_csq (W.runV (As := [.int p0]) (rest := []) ⟨hx, hb, hml, hown, hT⟩ (c_X11_homeAt l D cy a i r q (hW cy a i r ++ tl) p0 hRi hRr) (cwV 1 hT (gV t_443 t_444 t_445 t_446 t_2) rfl rfl rfl (by decide +kernel) ⟨Nat.le_of_ble_eq_true rfl, Nat.le_of_ble_eq_true rfl⟩) (rP_v hP hK (va_recv hK hP (ci := 11) (q0 := 0) rfl rfl)) rfl rfl hl.1 rfl (lv_room (Nat.le_of_ble_eq_true rfl)) dX11_offer_2 ⟨Nat.le_of_ble_eq_true rfl, Nat.le_of_ble_eq_true rfl⟩) (fun r_1 hr_1 => ?_)
  obtain rfl : r_1 = some (a 61) := (hr_1.1 hh).trans hq
  refine W.eq (g2 := F0 m 5 ls [.ref (a 61)]) rfl ?_
  refine lv_ifnull hx hb dX11_offer_5 ?_
  refine lv_iload_n hx hb dX11_offer_8 rfl (lv_at hl 3 rfl) ?_
  refine lv_iconst (v := 0) hx hb dX11_offer_9 (by decide) ?_
  refine lv_ldc (v := 999999) hx hb hown (hT _ t_277) dX11_offer_10 ?_
  refine vp_callSi (W.runS (As := [.int p2, .int 0, .int 999999]) (rest := []) ⟨hx, hb, hml, hown, hT⟩ (c_X11_within l p2 0 999999) (va_cwS 3 hT (gS t_1 t_3 t_4 t_2) rfl rfl rfl (by decide +kernel) ⟨Nat.le_of_ble_eq_true rfl, Nat.le_of_ble_eq_true rfl⟩) preT rfl rfl hl.1 rfl (lv_room (Nat.le_of_ble_eq_true rfl)) dX11_offer_12 ⟨Nat.le_of_ble_eq_true rfl, Nat.le_of_ble_eq_true rfl⟩) (fun r_2 hr_2 => ?_)
  have hr_2 : BR r_2 (0 ≤ p2.toInt ∧ p2.toInt ≤ 999999) 1 0 := hr_2
  rcases hr_2 with ⟨rfl, h_3⟩ | ⟨rfl, h_3⟩
  · skip
    refine lv_if_ne (tgt := 20) hx hb dX11_offer_15 (by decide) (fun c_4 => ?_) (fun c_4 => absurd c_4 (by decide))
    refine lv_iload_n hx hb dX11_offer_20 rfl (lv_at hl 2 rfl) ?_
    refine lv_if_eq (tgt := 37) hx hb dX11_offer_21 (by decide) (fun c_5 => ?_) (fun c_5 => ?_)
    · have c_5 : p1.toInt = 0 := b_eq c_5
      refine lv_aload_n hx hb dX11_offer_37 rfl (lv_at hl 0 rfl) ?_
      refine va_get (D := D) (ci := 11) (v := .ref (a 29)) (C := RX11) (T := TX11) (N := 14) hx hb hT iX11 hown hK hP 0 rfl rfl 8 (by decide) (hT _ t_265) (fun _ h9 => h9) rfl dX11_offer_38 ?_
      refine va_get (D := D) (ci := 1) (v := .ref (a 39)) (C := RX1) (T := TX1) (N := 12) hx hb hT iX1 hown hK hP 29 rfl rfl 10 (by decide) (hT _ t_468) (fun _ h9 => h9) rfl dX11_offer_41 ?_
      refine lv_iload_n hx hb dX11_offer_44 rfl (lv_at hl 1 rfl) ?_
      refine lv_iload_n hx hb dX11_offer_45 rfl (lv_at hl 3 rfl) ?_
      refine va_iast hx hb hK hP hD hS 39 0 rfl rfl (vp_inI (by omega) (by omega)) dX11_offer_46 (fun H locs hP hD hS => ?_)
      rw [yS39] at hP hD
      have hRr : yRr (va_up r 39 (upd (r 39) p0.toNatClampNeg p2)) := Yr_upd hRr 39 (p0.toNatClampNeg) p2 ⟨by show (-1 : Int) ≤ p2.toInt; omega, by show p2.toInt ≤ (999999 : Int); omega⟩
      have hEr : mEr [38, 39] _ (va_up r 39 (upd (r 39) p0.toNatClampNeg p2)) := Er_up hEr 39 _ (by decide)
      refine lv_aload_n hx hb dX11_offer_47 rfl (lv_at hl 0 rfl) ?_
      refine va_get (D := D) (ci := 11) (v := .ref (a 29)) (C := RX11) (T := TX11) (N := 14) hx hb hT iX11 hown hK hP 0 rfl rfl 8 (by decide) (hT _ t_265) (fun _ h9 => h9) rfl dX11_offer_48 ?_
      refine lv_iload_n hx hb dX11_offer_51 rfl (lv_at hl 1 rfl) ?_
      refine vp_callSi (W.runV (As := [.int p0]) (rest := []) ⟨hx, hb, hml, hown, hT⟩ (c_X1_hasBothOffers9 l D cy a i (va_up r 39 (upd (r 39) p0.toNatClampNeg p2)) q (hW cy a i (va_up r 39 (upd (r 39) p0.toNatClampNeg p2)) ++ tl) p0 hRi hRr (by first | omega | decide)) (cwV 1 hT (gV t_469 t_470 t_471 t_472 t_356) rfl rfl rfl (by decide +kernel) ⟨Nat.le_of_ble_eq_true rfl, Nat.le_of_ble_eq_true rfl⟩) (rP_v hP hK (va_recv hK hP (ci := 1) (q0 := 29) rfl rfl)) rfl rfl hl.1 rfl (lv_room (Nat.le_of_ble_eq_true rfl)) dX11_offer_52 ⟨Nat.le_of_ble_eq_true rfl, Nat.le_of_ble_eq_true rfl⟩) (fun r_6 hr_6 => ?_)
      have hr_6 : BR r_6 (((va_up r 39 (upd (r 39) p0.toNatClampNeg p2)) 38 p0.toNatClampNeg).toInt ≠ -1 ∧ ((va_up r 39 (upd (r 39) p0.toNatClampNeg p2)) 39 p0.toNatClampNeg).toInt ≠ -1) 1 0 := hr_6
      rcases hr_6 with ⟨rfl, h_7⟩ | ⟨rfl, h_7⟩
      · skip
        refine lv_if_eq (tgt := 62) hx hb dX11_offer_55 (by decide) (fun c_8 => absurd c_8 (by decide)) (fun c_8 => ?_)
        refine lv_iconst (v := 1) hx hb dX11_offer_58 (by decide) ?_
        refine lv_goto (tgt := 63) hx hb dX11_offer_59 (by decide) ?_
        subst hQ
        exact W.iret (v := 1) hx hb hr (fun t ht hW => ⟨⟨_, (va_up r 39 (upd (r 39) p0.toNatClampNeg p2)), rfl, ⟨hRr, hEr, ⟨fun _ => ⟨(fun h8 => absurd h8 (by omega)), (fun _ => ⟨⟨p2, rfl, rfl⟩, rfl⟩), Or.inl ⟨rfl, h_7⟩⟩, fun h9 => absurd (by omega) h9⟩⟩, by rw [ht]; exact hP, va_K.moved hW.alike hK, hD⟩, hS.F ht⟩) hS.2.2 dX11_offer_63
      · skip
        refine lv_if_eq (tgt := 62) hx hb dX11_offer_55 (by decide) (fun c_9 => ?_) (fun c_9 => absurd (by decide) c_9)
        refine lv_iconst (v := 0) hx hb dX11_offer_62 (by decide) ?_
        subst hQ
        exact W.iret (v := 0) hx hb hr (fun t ht hW => ⟨⟨_, (va_up r 39 (upd (r 39) p0.toNatClampNeg p2)), rfl, ⟨hRr, hEr, ⟨fun _ => ⟨(fun h8 => absurd h8 (by omega)), (fun _ => ⟨⟨p2, rfl, rfl⟩, rfl⟩), Or.inr ⟨rfl, h_7⟩⟩, fun h9 => absurd (by omega) h9⟩⟩, by rw [ht]; exact hP, va_K.moved hW.alike hK, hD⟩, hS.F ht⟩) hS.2.2 dX11_offer_63
    · have c_5 : p1.toInt ≠ 0 := b_ne c_5
      refine lv_aload_n hx hb dX11_offer_24 rfl (lv_at hl 0 rfl) ?_
      refine va_get (D := D) (ci := 11) (v := .ref (a 29)) (C := RX11) (T := TX11) (N := 14) hx hb hT iX11 hown hK hP 0 rfl rfl 8 (by decide) (hT _ t_265) (fun _ h9 => h9) rfl dX11_offer_25 ?_
      refine va_get (D := D) (ci := 1) (v := .ref (a 38)) (C := RX1) (T := TX1) (N := 12) hx hb hT iX1 hown hK hP 29 rfl rfl 9 (by decide) (hT _ t_473) (fun _ h9 => h9) rfl dX11_offer_28 ?_
      refine lv_iload_n hx hb dX11_offer_31 rfl (lv_at hl 1 rfl) ?_
      refine lv_iload_n hx hb dX11_offer_32 rfl (lv_at hl 3 rfl) ?_
      refine va_iast hx hb hK hP hD hS 38 0 rfl rfl (vp_inI (by omega) (by omega)) dX11_offer_33 (fun H locs hP hD hS => ?_)
      rw [yS38] at hP hD
      have hRr : yRr (va_up r 38 (upd (r 38) p0.toNatClampNeg p2)) := Yr_upd hRr 38 (p0.toNatClampNeg) p2 ⟨by show (-1 : Int) ≤ p2.toInt; omega, by show p2.toInt ≤ (999999 : Int); omega⟩
      have hEr : mEr [38, 39] _ (va_up r 38 (upd (r 38) p0.toNatClampNeg p2)) := Er_up hEr 38 _ (by decide)
      refine lv_goto (tgt := 47) hx hb dX11_offer_34 (by decide) ?_
      refine lv_aload_n hx hb dX11_offer_47 rfl (lv_at hl 0 rfl) ?_
      refine va_get (D := D) (ci := 11) (v := .ref (a 29)) (C := RX11) (T := TX11) (N := 14) hx hb hT iX11 hown hK hP 0 rfl rfl 8 (by decide) (hT _ t_265) (fun _ h9 => h9) rfl dX11_offer_48 ?_
      refine lv_iload_n hx hb dX11_offer_51 rfl (lv_at hl 1 rfl) ?_
      refine vp_callSi (W.runV (As := [.int p0]) (rest := []) ⟨hx, hb, hml, hown, hT⟩ (c_X1_hasBothOffers9 l D cy a i (va_up r 38 (upd (r 38) p0.toNatClampNeg p2)) q (hW cy a i (va_up r 38 (upd (r 38) p0.toNatClampNeg p2)) ++ tl) p0 hRi hRr (by first | omega | decide)) (cwV 1 hT (gV t_469 t_470 t_471 t_472 t_356) rfl rfl rfl (by decide +kernel) ⟨Nat.le_of_ble_eq_true rfl, Nat.le_of_ble_eq_true rfl⟩) (rP_v hP hK (va_recv hK hP (ci := 1) (q0 := 29) rfl rfl)) rfl rfl hl.1 rfl (lv_room (Nat.le_of_ble_eq_true rfl)) dX11_offer_52 ⟨Nat.le_of_ble_eq_true rfl, Nat.le_of_ble_eq_true rfl⟩) (fun r_10 hr_10 => ?_)
      have hr_10 : BR r_10 (((va_up r 38 (upd (r 38) p0.toNatClampNeg p2)) 38 p0.toNatClampNeg).toInt ≠ -1 ∧ ((va_up r 38 (upd (r 38) p0.toNatClampNeg p2)) 39 p0.toNatClampNeg).toInt ≠ -1) 1 0 := hr_10
      rcases hr_10 with ⟨rfl, h_11⟩ | ⟨rfl, h_11⟩
      · skip
        refine lv_if_eq (tgt := 62) hx hb dX11_offer_55 (by decide) (fun c_12 => absurd c_12 (by decide)) (fun c_12 => ?_)
        refine lv_iconst (v := 1) hx hb dX11_offer_58 (by decide) ?_
        refine lv_goto (tgt := 63) hx hb dX11_offer_59 (by decide) ?_
        subst hQ
        exact W.iret (v := 1) hx hb hr (fun t ht hW => ⟨⟨_, (va_up r 38 (upd (r 38) p0.toNatClampNeg p2)), rfl, ⟨hRr, hEr, ⟨fun _ => ⟨(fun _ => ⟨⟨p2, rfl, rfl⟩, rfl⟩), (fun h8 => absurd (by omega) h8), Or.inl ⟨rfl, h_11⟩⟩, fun h9 => absurd (by omega) h9⟩⟩, by rw [ht]; exact hP, va_K.moved hW.alike hK, hD⟩, hS.F ht⟩) hS.2.2 dX11_offer_63
      · skip
        refine lv_if_eq (tgt := 62) hx hb dX11_offer_55 (by decide) (fun c_13 => ?_) (fun c_13 => absurd (by decide) c_13)
        refine lv_iconst (v := 0) hx hb dX11_offer_62 (by decide) ?_
        subst hQ
        exact W.iret (v := 0) hx hb hr (fun t ht hW => ⟨⟨_, (va_up r 38 (upd (r 38) p0.toNatClampNeg p2)), rfl, ⟨hRr, hEr, ⟨fun _ => ⟨(fun _ => ⟨⟨p2, rfl, rfl⟩, rfl⟩), (fun h8 => absurd (by omega) h8), Or.inr ⟨rfl, h_11⟩⟩, fun h9 => absurd (by omega) h9⟩⟩, by rw [ht]; exact hP, va_K.moved hW.alike hK, hD⟩, hS.F ht⟩) hS.2.2 dX11_offer_63
  · skip
    refine lv_if_ne (tgt := 20) hx hb dX11_offer_15 (by decide) (fun c_14 => absurd (by decide) c_14) (fun c_14 => ?_)
    refine lv_iconst (v := (-1)) hx hb dX11_offer_18 (by decide) ?_
    subst hQ
    exact W.iret (v := (-1)) hx hb hr (fun t ht hW => ⟨⟨_, r, rfl, ⟨hRr, hEr, ⟨fun h9 => absurd h9 (by omega), fun _ => ⟨rfl, Er_rf⟩⟩⟩, by rw [ht]; exact hP, va_K.moved hW.alike hK, hD⟩, hS.F ht⟩) hS.2.2 dX11_offer_19
set_option maxHeartbeats 4000000 in
set_option maxRecDepth 100000 in
theorem c_X12_met9 (l : Launch) (D : va_G) (cy : Nat → ClassId) (a : Nat → Nat) (i : Nat → Int32) (r : Nat → Nat → Int32) (rl : Nat → Int64) (p0 : Int32) (sz : Nat) (hRi : mRi i) (hRr : mRr r) : Met l yX12_met (Cond.code yX12_met cX12_met 2 (some .int) :: gT) { frames := 2, cells := 0, slots := 0, locals := 45 } (va_Pc [.ref (a 0), .int p0] (rQ D cy (mW cy a i r rl) sz)) (va_Qi (fun (z : Int32) (u : Nat → Nat → Int32) => mRr u ∧ mEr [50, 51] r u ∧ ((((0 ≤ p0.toInt ∧ p0.toInt < (i 0).toInt)) → (((r 50 p0.toNatClampNeg).toInt = 0 ∨ (r 51 p0.toNatClampNeg).toInt = 0 → z = -2 ∧ mEr [] r u) ∧ (¬ ((r 50 p0.toNatClampNeg).toInt = 0 ∨ (r 51 p0.toNatClampNeg).toInt = 0) → (r 50 p0.toNatClampNeg).toInt ≤ (r 51 p0.toNatClampNeg).toInt → (∃ x : Int32, x.toInt = (r 50 p0.toNatClampNeg).toInt + (r 51 p0.toNatClampNeg).toInt - 2 ∧ z = x / 2) ∧ mEr [] r u) ∧ (¬ ((r 50 p0.toNatClampNeg).toInt = 0 ∨ (r 51 p0.toNatClampNeg).toInt = 0) → ¬ (r 50 p0.toNatClampNeg).toInt ≤ (r 51 p0.toNatClampNeg).toInt → z = -3 ∧ u 50 = upd (r 50) p0.toNatClampNeg (0) ∧ u 51 = upd (r 51) p0.toNatClampNeg (0)))) ∧ (¬ ((0 ≤ p0.toInt ∧ p0.toInt < (i 0).toInt)) → z = -1 ∧ mEr [] r u))) (fun (u : Nat → Nat → Int32) t => va_P D vwCl (mW cy a i u rl) t.heap ∧ va_K D vwCl (vT cy) t ∧ va_D (va_A (mW cy a i r rl) sz) (mW cy a i u rl)) (va_A (mW cy a i r rl) sz)) 0 0 (va_A (mW cy a i r rl) sz) := by
  refine Met.ofQ (cc := cX12_met) (maxL := 2) (ret := (some .int)) (by decide) rfl ?_
  intro p e s m args below meth c s₁ B hml hv Q hQ
  obtain ⟨rfl, hsz, hP, hK, hD0⟩ := hv
  have hx := B.exec
  have hb := B.bytes
  have hr := B.returns
  have hlocks := B.notSynchronized
  have hT : ∀ w ∈ gT, w.before _ s = true := fun w h => atoms_spec (ws := (Cond.code yX12_met cX12_met 2 (some .int) :: gT)) B.pre w (List.mem_cons_of_mem _ h)
  have hown : s.vm.findClass RX12 = some m.cls := findClass_of_methodNamed B.named
  subst hsz
  have hD := hD0.self (sz := s.heap.size)
  generalize hAe : va_A (mW cy a i r rl) s.heap.size = A at hD hQ
  have hA : ∀ q : Nat, s.heap.size ≤ q → A q := fun q h => by rw [← hAe]; exact Or.inr h
  have hS : va_S A s.heap s.heap [] := va_S.rf
  have hl := lv_entry ([.ref (a 0), .int p0]) (n := 2) (Nat.le_of_ble_eq_true rfl)
  rw [lg_entry_eq]
  generalize (lg_sl ([.ref (a 0), .int p0]) ++ List.replicate (2 - (lg_sl ([.ref (a 0), .int p0])).length) Slot.unset).toArray = ls at hl ⊢
  have hl : lv_has ls 2 [(0, .ref (a 0)), (1, .int p0)] := hl
  have hEi : mEi [] i i := Ei_rf
  have hEr : mEr [50, 51] r r := Er_rf
  refine lv_aload_n hx hb dX12_met_0 rfl (lv_at hl 0 rfl) ?_
  refine lv_iload_n hx hb dX12_met_1 rfl (lv_at hl 1 rfl) ?_
  refine vp_callSi (W.runV (As := [.int p0]) (rest := []) ⟨hx, hb, hml, hown, hT⟩ (c_X12_isHome l D cy a i r rl p0 hRi hRr) (cwV 1 hT (gV t_12 t_13 t_14 t_15 t_6) rfl rfl rfl (by decide +kernel) ⟨Nat.le_of_ble_eq_true rfl, Nat.le_of_ble_eq_true rfl⟩) (rP_v hP hK (va_recv hK hP (ci := 12) (q0 := 0) rfl rfl)) rfl rfl hl.1 rfl (lv_room (Nat.le_of_ble_eq_true rfl)) dX12_met_2 ⟨Nat.le_of_ble_eq_true rfl, Nat.le_of_ble_eq_true rfl⟩) (fun r_1 hr_1 => ?_)
  have hg_2 : 0 ≤ (i 0).toInt ∧ (i 0).toInt ≤ 6 := hRi 0
  have hr_1 : BR r_1 (0 ≤ p0.toInt ∧ p0.toInt < (i 0).toInt) 1 0 := hr_1
  rcases hr_1 with ⟨rfl, h_3⟩ | ⟨rfl, h_3⟩
  · skip
    refine lv_if_ne (tgt := 10) hx hb dX12_met_5 (by decide) (fun c_4 => ?_) (fun c_4 => absurd c_4 (by decide))
    refine lv_aload_n hx hb dX12_met_10 rfl (lv_at hl 0 rfl) ?_
    refine va_get (D := D) (ci := 12) (v := .ref (a 50)) (C := RX12) (T := TX12) (N := 91) hx hb hT iX12 hown hK hP 0 rfl rfl 64 (by decide) (hT _ t_186) (fun _ h9 => h9) rfl dX12_met_11 ?_
    refine lv_iload_n hx hb dX12_met_14 rfl (lv_at hl 1 rfl) ?_
    refine va_iald hx hb hK hP 50 0 rfl rfl (vp_inI (by omega) (by omega)) dX12_met_15 ?_
    refine lv_topi (fun v_5 ev_5 => ?_)
    have hgv_5 : 0 ≤ v_5.toInt ∧ v_5.toInt ≤ 1000000 := by rw [ev_5]; exact hRr 50 _
    have hwv_5 : v_5.toInt = (r 50 (p0.toNatClampNeg)).toInt := congrArg Int32.toInt ev_5
    refine lv_if_eq (tgt := 28) hx hb dX12_met_16 (by decide) (fun c_6 => ?_) (fun c_6 => ?_)
    · have c_6 : v_5.toInt = 0 := b_eq c_6
      refine lv_bipush (v := (-2)) hx hb dX12_met_28 (by decide) ?_
      subst hQ
      exact W.iret (v := (-2)) hx hb hr (fun t ht hW => ⟨⟨_, r, rfl, ⟨hRr, hEr, ⟨fun _ => ⟨fun _ => ⟨rfl, Er_rf⟩, fun h8 _ => absurd (by omega) h8, fun h8 _ => absurd (by omega) h8⟩, fun h9 => absurd (by omega) h9⟩⟩, by rw [ht]; exact hP, va_K.moved hW.alike hK, hD⟩, hS.F ht⟩) hS.2.2 dX12_met_30
    · have c_6 : v_5.toInt ≠ 0 := b_ne c_6
      refine lv_aload_n hx hb dX12_met_19 rfl (lv_at hl 0 rfl) ?_
      refine va_get (D := D) (ci := 12) (v := .ref (a 51)) (C := RX12) (T := TX12) (N := 91) hx hb hT iX12 hown hK hP 0 rfl rfl 65 (by decide) (hT _ t_185) (fun _ h9 => h9) rfl dX12_met_20 ?_
      refine lv_iload_n hx hb dX12_met_23 rfl (lv_at hl 1 rfl) ?_
      refine va_iald hx hb hK hP 51 0 rfl rfl (vp_inI (by omega) (by omega)) dX12_met_24 ?_
      refine lv_topi (fun v_7 ev_7 => ?_)
      have hgv_7 : 0 ≤ v_7.toInt ∧ v_7.toInt ≤ 1000000 := by rw [ev_7]; exact hRr 51 _
      have hwv_7 : v_7.toInt = (r 51 (p0.toNatClampNeg)).toInt := congrArg Int32.toInt ev_7
      refine lv_if_ne (tgt := 31) hx hb dX12_met_25 (by decide) (fun c_8 => ?_) (fun c_8 => ?_)
      · have c_8 : v_7.toInt ≠ 0 := b_ne c_8
        refine lv_aload_n hx hb dX12_met_31 rfl (lv_at hl 0 rfl) ?_
        refine va_get (D := D) (ci := 12) (v := .ref (a 50)) (C := RX12) (T := TX12) (N := 91) hx hb hT iX12 hown hK hP 0 rfl rfl 64 (by decide) (hT _ t_186) (fun _ h9 => h9) rfl dX12_met_32 ?_
        refine lv_iload_n hx hb dX12_met_35 rfl (lv_at hl 1 rfl) ?_
        refine va_iald hx hb hK hP 50 0 rfl rfl (vp_inI (by omega) (by omega)) dX12_met_36 ?_
        refine lv_topi (fun v_9 ev_9 => ?_)
        have hgv_9 : 0 ≤ v_9.toInt ∧ v_9.toInt ≤ 1000000 := by rw [ev_9]; exact hRr 50 _
        have hwv_9 : v_9.toInt = (r 50 (p0.toNatClampNeg)).toInt := congrArg Int32.toInt ev_9
        refine lv_aload_n hx hb dX12_met_37 rfl (lv_at hl 0 rfl) ?_
        refine va_get (D := D) (ci := 12) (v := .ref (a 51)) (C := RX12) (T := TX12) (N := 91) hx hb hT iX12 hown hK hP 0 rfl rfl 65 (by decide) (hT _ t_185) (fun _ h9 => h9) rfl dX12_met_38 ?_
        refine lv_iload_n hx hb dX12_met_41 rfl (lv_at hl 1 rfl) ?_
        refine va_iald hx hb hK hP 51 0 rfl rfl (vp_inI (by omega) (by omega)) dX12_met_42 ?_
        refine lv_topi (fun v_10 ev_10 => ?_)
        have hgv_10 : 0 ≤ v_10.toInt ∧ v_10.toInt ≤ 1000000 := by rw [ev_10]; exact hRr 51 _
        have hwv_10 : v_10.toInt = (r 51 (p0.toNatClampNeg)).toInt := congrArg Int32.toInt ev_10
        refine lv_icmp_gt (tgt := 64) hx hb dX12_met_43 (by decide) (fun c_11 => ?_) (fun c_11 => ?_)
        · have c_11 : v_10.toInt < v_9.toInt := b_lt c_11
          refine lv_aload_n hx hb dX12_met_64 rfl (lv_at hl 0 rfl) ?_
          refine va_get (D := D) (ci := 12) (v := .ref (a 50)) (C := RX12) (T := TX12) (N := 91) hx hb hT iX12 hown hK hP 0 rfl rfl 64 (by decide) (hT _ t_186) (fun _ h9 => h9) rfl dX12_met_65 ?_
          refine lv_iload_n hx hb dX12_met_68 rfl (lv_at hl 1 rfl) ?_
          refine lv_iconst (v := 0) hx hb dX12_met_69 (by decide) ?_
          refine va_iast hx hb hK hP hD hS 50 0 rfl rfl (vp_inI (by omega) (by omega)) dX12_met_70 (fun H locs hP hD hS => ?_)
          rw [mS50] at hP hD
          have hRr : mRr (va_up r 50 (upd (r 50) p0.toNatClampNeg 0)) := Rr_upd hRr 50 (p0.toNatClampNeg) 0 ⟨by decide, by decide⟩
          have hEr : mEr [50, 51] _ (va_up r 50 (upd (r 50) p0.toNatClampNeg 0)) := Er_up hEr 50 _ (by decide)
          refine lv_aload_n hx hb dX12_met_71 rfl (lv_at hl 0 rfl) ?_
          refine va_get (D := D) (ci := 12) (v := .ref (a 51)) (C := RX12) (T := TX12) (N := 91) hx hb hT iX12 hown hK hP 0 rfl rfl 65 (by decide) (hT _ t_185) (fun _ h9 => h9) rfl dX12_met_72 ?_
          refine lv_iload_n hx hb dX12_met_75 rfl (lv_at hl 1 rfl) ?_
          refine lv_iconst (v := 0) hx hb dX12_met_76 (by decide) ?_
          refine va_iast hx hb hK hP hD hS 51 0 rfl rfl (vp_inI (by omega) (by omega)) dX12_met_77 (fun H locs hP hD hS => ?_)
          rw [mS51] at hP hD
          have hRr : mRr (va_up (va_up r 50 (upd (r 50) p0.toNatClampNeg 0)) 51 (upd (r 51) p0.toNatClampNeg 0)) := Rr_upd hRr 51 (p0.toNatClampNeg) 0 ⟨by decide, by decide⟩
          have hEr : mEr [50, 51] _ (va_up (va_up r 50 (upd (r 50) p0.toNatClampNeg 0)) 51 (upd (r 51) p0.toNatClampNeg 0)) := Er_up hEr 51 _ (by decide)
          refine lv_bipush (v := (-3)) hx hb dX12_met_78 (by decide) ?_
          subst hQ
          exact W.iret (v := (-3)) hx hb hr (fun t ht hW => ⟨⟨_, (va_up (va_up r 50 (upd (r 50) p0.toNatClampNeg 0)) 51 (upd (r 51) p0.toNatClampNeg 0)), rfl, ⟨hRr, hEr, ⟨fun _ => ⟨fun h8 => absurd h8 (by omega), fun _ h7 => absurd h7 (by omega), fun _ _ => ⟨rfl, rfl, rfl⟩⟩, fun h9 => absurd (by omega) h9⟩⟩, by rw [ht]; exact hP, va_K.moved hW.alike hK, hD⟩, hS.F ht⟩) hS.2.2 dX12_met_80
        · have c_11 : v_9.toInt ≤ v_10.toInt := b_nlt c_11
          refine lv_aload_n hx hb dX12_met_46 rfl (lv_at hl 0 rfl) ?_
          refine va_get (D := D) (ci := 12) (v := .ref (a 50)) (C := RX12) (T := TX12) (N := 91) hx hb hT iX12 hown hK hP 0 rfl rfl 64 (by decide) (hT _ t_186) (fun _ h9 => h9) rfl dX12_met_47 ?_
          refine lv_iload_n hx hb dX12_met_50 rfl (lv_at hl 1 rfl) ?_
          refine va_iald hx hb hK hP 50 0 rfl rfl (vp_inI (by omega) (by omega)) dX12_met_51 ?_
          refine lv_topi (fun v_12 ev_12 => ?_)
          have hgv_12 : 0 ≤ v_12.toInt ∧ v_12.toInt ≤ 1000000 := by rw [ev_12]; exact hRr 50 _
          have hwv_12 : v_12.toInt = (r 50 (p0.toNatClampNeg)).toInt := congrArg Int32.toInt ev_12
          refine lv_aload_n hx hb dX12_met_52 rfl (lv_at hl 0 rfl) ?_
          refine va_get (D := D) (ci := 12) (v := .ref (a 51)) (C := RX12) (T := TX12) (N := 91) hx hb hT iX12 hown hK hP 0 rfl rfl 65 (by decide) (hT _ t_185) (fun _ h9 => h9) rfl dX12_met_53 ?_
          refine lv_iload_n hx hb dX12_met_56 rfl (lv_at hl 1 rfl) ?_
          refine va_iald hx hb hK hP 51 0 rfl rfl (vp_inI (by omega) (by omega)) dX12_met_57 ?_
          refine lv_topi (fun v_13 ev_13 => ?_)
          have hgv_13 : 0 ≤ v_13.toInt ∧ v_13.toInt ≤ 1000000 := by rw [ev_13]; exact hRr 51 _
          have hwv_13 : v_13.toInt = (r 51 (p0.toNatClampNeg)).toInt := congrArg Int32.toInt ev_13
          refine lv_iadd hx hb dX12_met_58 ?_
          refine lv_topi (fun v_14 ev_14 => ?_)
          have hv_14 : v_14.toInt = v_12.toInt + v_13.toInt := by rw [ev_14]; have := b_rg v_12; have := b_rg v_13; exact i_add (a := v_12.toInt) (b := v_13.toInt) rfl rfl (by omega) (by omega)
          refine lv_iconst (v := 2) hx hb dX12_met_59 (by decide) ?_
          refine lv_isub hx hb dX12_met_60 ?_
          refine lv_topi (fun v_15 ev_15 => ?_)
          have hv_15 : v_15.toInt = v_14.toInt - 2 := by rw [ev_15]; have := b_rg v_14; exact i_sub (a := v_14.toInt) (b := 2) rfl rfl (by omega) (by omega)
          refine lv_iconst (v := 2) hx hb dX12_met_61 (by decide) ?_
          refine lv_idiv hx hb dX12_met_62 (by decide) ?_
          refine lv_topi (fun v_16 ev_16 => ?_)
          subst hQ
          exact W.iret (v := v_16) hx hb hr (fun t ht hW => ⟨⟨_, r, rfl, ⟨hRr, hEr, ⟨fun _ => ⟨fun h8 => absurd h8 (by omega), fun _ _ => ⟨⟨v_15, by omega, ev_16⟩, Er_rf⟩, fun _ h7 => absurd (by omega) h7⟩, fun h9 => absurd (by omega) h9⟩⟩, by rw [ht]; exact hP, va_K.moved hW.alike hK, hD⟩, hS.F ht⟩) hS.2.2 dX12_met_63
      · have c_8 : v_7.toInt = 0 := b_nne c_8
        refine lv_bipush (v := (-2)) hx hb dX12_met_28 (by decide) ?_
        subst hQ
        exact W.iret (v := (-2)) hx hb hr (fun t ht hW => ⟨⟨_, r, rfl, ⟨hRr, hEr, ⟨fun _ => ⟨fun _ => ⟨rfl, Er_rf⟩, fun h8 _ => absurd (by omega) h8, fun h8 _ => absurd (by omega) h8⟩, fun h9 => absurd (by omega) h9⟩⟩, by rw [ht]; exact hP, va_K.moved hW.alike hK, hD⟩, hS.F ht⟩) hS.2.2 dX12_met_30
  · skip
    refine lv_if_ne (tgt := 10) hx hb dX12_met_5 (by decide) (fun c_17 => absurd (by decide) c_17) (fun c_17 => ?_)
    refine lv_iconst (v := (-1)) hx hb dX12_met_8 (by decide) ?_
    subst hQ
    exact W.iret (v := (-1)) hx hb hr (fun t ht hW => ⟨⟨_, r, rfl, ⟨hRr, hEr, ⟨fun h9 => absurd h9 (by omega), fun _ => ⟨rfl, Er_rf⟩⟩⟩, by rw [ht]; exact hP, va_K.moved hW.alike hK, hD⟩, hS.F ht⟩) hS.2.2 dX12_met_9
set_option maxHeartbeats 4000000 in
set_option maxRecDepth 100000 in
theorem c_X11_met.y9 (l : Launch) (D : va_G) (cy : Nat → ClassId) (a : Nat → Nat) (i : Nat → Int32) (r : Nat → Nat → Int32) (q : Nat → Option Nat) (tl : va_W) (p0 : Int32) (sz : Nat) (hRi : yRi i) (hRr : yRr r) (hh : 0 ≤ p0.toInt ∧ p0.toInt < (i 0).toInt) (hq : q p0.toNatClampNeg = some (a 61)) : Met l yX11_met (Cond.code yX11_met cX11_met 4 (some .int) :: gT) { frames := 3, cells := 0, slots := 0, locals := 67 } (va_Pc [.ref (a 0), .int p0] (rQ D cy (xW cy a i r q (a 20) (a 12) ++ (hW cy a i r ++ tl)) sz)) (va_Qi (fun (z : Int32) (u : Nat → Nat → Int32) => yRr u ∧ mEr [38, 39] r u ∧ (((r 38 p0.toNatClampNeg).toInt = -1 ∨ (r 39 p0.toNatClampNeg).toInt = -1 → z = -2 ∧ mEr [] r u) ∧ (¬ ((r 38 p0.toNatClampNeg).toInt = -1 ∨ (r 39 p0.toNatClampNeg).toInt = -1) → (r 38 p0.toNatClampNeg).toInt ≤ (r 39 p0.toNatClampNeg).toInt → (∃ x : Int32, x.toInt = (r 38 p0.toNatClampNeg).toInt + (r 39 p0.toNatClampNeg).toInt ∧ z = x / 2) ∧ mEr [] r u) ∧ (¬ ((r 38 p0.toNatClampNeg).toInt = -1 ∨ (r 39 p0.toNatClampNeg).toInt = -1) → ¬ (r 38 p0.toNatClampNeg).toInt ≤ (r 39 p0.toNatClampNeg).toInt → z = -3 ∧ u 38 = upd (r 38) p0.toNatClampNeg (-1) ∧ u 39 = upd (r 39) p0.toNatClampNeg (-1)))) (fun (u : Nat → Nat → Int32) t => va_P D vwCl (xW cy a i u q (a 20) (a 12) ++ (hW cy a i u ++ tl)) t.heap ∧ va_K D vwCl (vT cy) t ∧ va_D (va_A (xW cy a i r q (a 20) (a 12) ++ (hW cy a i r ++ tl)) sz) (xW cy a i u q (a 20) (a 12) ++ (hW cy a i u ++ tl))) (va_A (xW cy a i r q (a 20) (a 12) ++ (hW cy a i r ++ tl)) sz)) 0 0 (va_A (xW cy a i r q (a 20) (a 12) ++ (hW cy a i r ++ tl)) sz) := by
  refine Met.ofQ (cc := cX11_met) (maxL := 4) (ret := (some .int)) (by decide) rfl ?_
  intro p e s m args below meth c s₁ B hml hv Q hQ
  obtain ⟨rfl, hsz, hP, hK, hD0⟩ := hv
  have hx := B.exec
  have hb := B.bytes
  have hr := B.returns
  have hlocks := B.notSynchronized
  have hT : ∀ w ∈ gT, w.before _ s = true := fun w h => atoms_spec (ws := (Cond.code yX11_met cX11_met 4 (some .int) :: gT)) B.pre w (List.mem_cons_of_mem _ h)
  have hown : s.vm.findClass RX11 = some m.cls := findClass_of_methodNamed B.named
  subst hsz
  have hD := hD0.self (sz := s.heap.size)
  generalize hAe : va_A (xW cy a i r q (a 20) (a 12) ++ (hW cy a i r ++ tl)) s.heap.size = A at hD hQ
  have hA : ∀ q : Nat, s.heap.size ≤ q → A q := fun q h => by rw [← hAe]; exact Or.inr h
  have hS : va_S A s.heap s.heap [] := va_S.rf
  have hl := lv_entry ([.ref (a 0), .int p0]) (n := 4) (Nat.le_of_ble_eq_true rfl)
  rw [lg_entry_eq]
  generalize (lg_sl ([.ref (a 0), .int p0]) ++ List.replicate (4 - (lg_sl ([.ref (a 0), .int p0])).length) Slot.unset).toArray = ls at hl ⊢
  have hl : lv_has ls 4 [(0, .ref (a 0)), (1, .int p0)] := hl
  have hEi : mEi [] i i := Ei_rf
  have hEr : mEr [38, 39] r r := Er_rf
  have hg0 : 0 ≤ (i 0).toInt ∧ (i 0).toInt ≤ 6 := hRi 0
  refine lv_aload_n hx hb dX11_met_0 rfl (lv_at hl 0 rfl) ?_
  refine lv_iload_n hx hb dX11_met_1 rfl (lv_at hl 1 rfl) ?_
  refine va_csq (W.runV (As := [.int p0]) (rest := []) ⟨hx, hb, hml, hown, hT⟩ (c_X11_homeAt l D cy a i r q (hW cy a i r ++ tl) p0 hRi hRr) (cwV 1 hT (gV t_443 t_444 t_445 t_446 t_2) rfl rfl rfl (by decide +kernel) ⟨Nat.le_of_ble_eq_true rfl, Nat.le_of_ble_eq_true rfl⟩) (rP_v hP hK (va_recv hK hP (ci := 11) (q0 := 0) rfl rfl)) rfl rfl hl.1 rfl (lv_room (Nat.le_of_ble_eq_true rfl)) dX11_met_2 ⟨Nat.le_of_ble_eq_true rfl, Nat.le_of_ble_eq_true rfl⟩) (fun r_1 hr_1 => ?_)
  obtain rfl : r_1 = some (a 61) := (hr_1.1 hh).trans hq
  refine W.eq (g2 := F0 m 5 ls [.ref (a 61)]) rfl ?_
  refine lv_ifnonnull (tgt := 10) hx hb dX11_met_5 (by decide) ?_
  refine lv_aload_n hx hb dX11_met_10 rfl (lv_at hl 0 rfl) ?_
  refine va_get (D := D) (ci := 11) (v := .ref (a 29)) (C := RX11) (T := TX11) (N := 14) hx hb hT iX11 hown hK hP 0 rfl rfl 8 (by decide) (hT _ t_265) (fun _ h9 => h9) rfl dX11_met_11 ?_
  refine lv_iload_n hx hb dX11_met_14 rfl (lv_at hl 1 rfl) ?_
  refine vp_callSi (W.runV (As := [.int p0]) (rest := []) ⟨hx, hb, hml, hown, hT⟩ (c_X1_hasBothOffers9 l D cy a i r q (hW cy a i r ++ tl) p0 hRi hRr (by first | omega | decide)) (cwV 1 hT (gV t_469 t_470 t_471 t_472 t_356) rfl rfl rfl (by decide +kernel) ⟨Nat.le_of_ble_eq_true rfl, Nat.le_of_ble_eq_true rfl⟩) (rP_v hP hK (va_recv hK hP (ci := 1) (q0 := 29) rfl rfl)) rfl rfl hl.1 rfl (lv_room (Nat.le_of_ble_eq_true rfl)) dX11_met_15 ⟨Nat.le_of_ble_eq_true rfl, Nat.le_of_ble_eq_true rfl⟩) (fun r_2 hr_2 => ?_)
  have hr_2 : BR r_2 ((r 38 p0.toNatClampNeg).toInt ≠ -1 ∧ (r 39 p0.toNatClampNeg).toInt ≠ -1) 1 0 := hr_2
  rcases hr_2 with ⟨rfl, h_3⟩ | ⟨rfl, h_3⟩
  · skip
    refine lv_if_ne (tgt := 24) hx hb dX11_met_18 (by decide) (fun c_4 => ?_) (fun c_4 => absurd c_4 (by decide))
    refine lv_aload_n hx hb dX11_met_24 rfl (lv_at hl 0 rfl) ?_
    refine va_get (D := D) (ci := 11) (v := .ref (a 29)) (C := RX11) (T := TX11) (N := 14) hx hb hT iX11 hown hK hP 0 rfl rfl 8 (by decide) (hT _ t_265) (fun _ h9 => h9) rfl dX11_met_25 ?_
    refine va_get (D := D) (ci := 1) (v := .ref (a 38)) (C := RX1) (T := TX1) (N := 12) hx hb hT iX1 hown hK hP 29 rfl rfl 9 (by decide) (hT _ t_473) (fun _ h9 => h9) rfl dX11_met_28 ?_
    refine lv_iload_n hx hb dX11_met_31 rfl (lv_at hl 1 rfl) ?_
    refine va_iald hx hb hK hP 38 0 rfl rfl (vp_inI (by omega) (by omega)) dX11_met_32 ?_
    refine lv_topi (fun v_5 ev_5 => ?_)
    have hgv_5 : -1 ≤ v_5.toInt ∧ v_5.toInt ≤ 999999 := by rw [ev_5]; exact hRr 38 _
    have hwv_5 : v_5.toInt = (r 38 (p0.toNatClampNeg)).toInt := congrArg Int32.toInt ev_5
    refine lv_istore_n (lv' := [(2, .int v_5), (0, .ref (a 0)), (1, .int p0)]) hx hb dX11_met_33 rfl hl (by decide) rfl (fun ls hl => ?_)
    refine lv_aload_n hx hb dX11_met_34 rfl (lv_at hl 1 rfl) ?_
    refine va_get (D := D) (ci := 11) (v := .ref (a 29)) (C := RX11) (T := TX11) (N := 14) hx hb hT iX11 hown hK hP 0 rfl rfl 8 (by decide) (hT _ t_265) (fun _ h9 => h9) rfl dX11_met_35 ?_
    refine va_get (D := D) (ci := 1) (v := .ref (a 39)) (C := RX1) (T := TX1) (N := 12) hx hb hT iX1 hown hK hP 29 rfl rfl 10 (by decide) (hT _ t_468) (fun _ h9 => h9) rfl dX11_met_38 ?_
    refine lv_iload_n hx hb dX11_met_41 rfl (lv_at hl 2 rfl) ?_
    refine va_iald hx hb hK hP 39 0 rfl rfl (vp_inI (by omega) (by omega)) dX11_met_42 ?_
    refine lv_topi (fun v_6 ev_6 => ?_)
    have hgv_6 : -1 ≤ v_6.toInt ∧ v_6.toInt ≤ 999999 := by rw [ev_6]; exact hRr 39 _
    have hwv_6 : v_6.toInt = (r 39 (p0.toNatClampNeg)).toInt := congrArg Int32.toInt ev_6
    refine lv_istore_n (lv' := [(3, .int v_6), (2, .int v_5), (0, .ref (a 0)), (1, .int p0)]) hx hb dX11_met_43 rfl hl (by decide) rfl (fun ls hl => ?_)
    refine lv_iload_n hx hb dX11_met_44 rfl (lv_at hl 1 rfl) ?_
    refine lv_iload_n hx hb dX11_met_45 rfl (lv_at hl 0 rfl) ?_
    refine lv_icmp_le (tgt := 60) hx hb dX11_met_46 (by decide) (fun c_7 => ?_) (fun c_7 => ?_)
    · have c_7 : v_5.toInt ≤ v_6.toInt := b_le c_7
      refine lv_iload_n hx hb dX11_met_60 rfl (lv_at hl 1 rfl) ?_
      refine lv_iload_n hx hb dX11_met_61 rfl (lv_at hl 0 rfl) ?_
      refine lv_iadd hx hb dX11_met_62 ?_
      refine lv_topi (fun v_8 ev_8 => ?_)
      have hv_8 : v_8.toInt = v_5.toInt + v_6.toInt := by rw [ev_8]; have := b_rg v_5; have := b_rg v_6; exact i_add (a := v_5.toInt) (b := v_6.toInt) rfl rfl (by omega) (by omega)
      refine lv_iconst (v := 2) hx hb dX11_met_63 (by decide) ?_
      refine lv_idiv hx hb dX11_met_64 (by decide) ?_
      refine lv_topi (fun v_9 ev_9 => ?_)
      subst hQ
      exact W.iret (v := v_9) hx hb hr (fun t ht hW => ⟨⟨_, r, rfl, ⟨hRr, hEr, ⟨fun h8 => absurd h8 (by omega), fun _ _ => ⟨⟨v_8, by omega, ev_9⟩, Er_rf⟩, fun _ h7 => absurd (by omega) h7⟩⟩, by rw [ht]; exact hP, va_K.moved hW.alike hK, hD⟩, hS.F ht⟩) hS.2.2 dX11_met_65
    · have c_7 : v_6.toInt < v_5.toInt := b_nle c_7
      refine lv_aload_n hx hb dX11_met_49 rfl (lv_at hl 2 rfl) ?_
      refine va_get (D := D) (ci := 11) (v := .ref (a 29)) (C := RX11) (T := TX11) (N := 14) hx hb hT iX11 hown hK hP 0 rfl rfl 8 (by decide) (hT _ t_265) (fun _ h9 => h9) rfl dX11_met_50 ?_
      refine lv_iload_n hx hb dX11_met_53 rfl (lv_at hl 3 rfl) ?_
      have hF_10 := rF hD hS hA
      refine va_callv (va_runV (As := [.int p0]) (rest := []) ⟨hx, hb, hml, hown, hT⟩ (c_X1_dropOffers9 l D cy a i r q (hW cy a i r ++ tl) p0 _ hRi hRr (by first | omega | decide)) (cwV 1 hT (gV t_474 t_475 t_476 t_477 t_356) rfl rfl rfl (by decide +kernel) ⟨Nat.le_of_ble_eq_true rfl, Nat.le_of_ble_eq_true rfl⟩) (rQ_v hP hK hD (va_recv hK hP (ci := 1) (q0 := 29) rfl rfl)) rfl rfl hl.1 rfl (lv_room (Nat.le_of_ble_eq_true rfl)) dX11_met_54 ⟨Nat.le_of_ble_eq_true rfl, Nat.le_of_ble_eq_true rfl⟩) hS (fun q _ h => hF_10 q h) hF_10 (fun u_12 t H1 locs ht hvm hr_11 hB hz1 hk1 hS => ?_)
      obtain ⟨r12, rfl⟩ : ∃ z, z = u_12 := ⟨_, rfl⟩
      obtain ⟨hP, hK1, hD1⟩ := hB
      rw [ht] at hP
      have hD := hD1.weaken (fun k q _ h => hF_10 q.1 h)
      obtain ⟨hRr, hE2, hr_11⟩ := hr_11
      have hRr : yRr r12 := hRr
      have hE2 : mEr [38, 39] r r12 := hE2
      have hwe : hW cy a i r12 = hW cy a i r := hW_eqE (Ei_rf (T := [])) hE2 rfl rfl
      have hP : va_P D vwCl (xW cy a i r12 q (a 20) (a 12) ++ (hW cy a i r12 ++ tl)) H1 := by rw [hwe]; exact hP
      have hD : va_D A (xW cy a i r12 q (a 20) (a 12) ++ (hW cy a i r12 ++ tl)) := by rw [hwe]; exact hD
      have hEr : mEr [38, 39] _ r12 := Er_tr hEr hE2 (by decide)
      have hr_11 : r12 38 = upd (r 38) p0.toNatClampNeg (-1) ∧ r12 39 = upd (r 39) p0.toNatClampNeg (-1) := hr_11
      refine lv_bipush (v := (-3)) hx hb dX11_met_57 (by decide) ?_
      subst hQ
      exact W.iret (v := (-3)) hx hb hr (fun t ht hW => ⟨⟨_, r12, rfl, ⟨hRr, hEr, ⟨fun h8 => absurd h8 (by omega), fun _ h7 => absurd h7 (by omega), fun _ _ => ⟨rfl, hr_11⟩⟩⟩, by rw [ht]; exact hP, va_K.moved hW.alike hK, hD⟩, hS.F ht⟩) hS.2.2 dX11_met_59
  · skip
    refine lv_if_ne (tgt := 24) hx hb dX11_met_18 (by decide) (fun c_13 => absurd (by decide) c_13) (fun c_13 => ?_)
    refine lv_bipush (v := (-2)) hx hb dX11_met_21 (by decide) ?_
    subst hQ
    exact W.iret (v := (-2)) hx hb hr (fun t ht hW => ⟨⟨_, r, rfl, ⟨hRr, hEr, ⟨fun _ => ⟨rfl, Er_rf⟩, fun h8 _ => absurd (by omega) h8, fun h8 _ => absurd (by omega) h8⟩⟩, by rw [ht]; exact hP, va_K.moved hW.alike hK, hD⟩, hS.F ht⟩) hS.2.2 dX11_met_23
