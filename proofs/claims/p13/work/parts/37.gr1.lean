theorem upd_s {f : Nat → Int32} {k : Nat} {v : Int32} : upd f k v k = v := if_pos rfl
theorem upd_4 {f : Nat → Int32} {n a0 a1 a2 a3 : Nat} (h0 : a0 = 4 * n) (h1 : a1 = 4 * n + 1) (h2 : a2 = 4 * n + 2) (h3 : a3 = 4 * n + 3) : (∀ t, t < 4 → upd (upd (upd (upd f a0 1) a1 1) a2 1) a3 1 (4 * n + t) = 1) ∧ ∀ j, ¬ (4 * n ≤ j ∧ j < 4 * n + 4) → upd (upd (upd (upd f a0 1) a1 1) a2 1) a3 1 j = f j := by
  subst h0 h1 h2 h3
  unfold upd
  refine ⟨fun t ht => ?_, fun j hj => ?_⟩
  · rcases (show t = 0 ∨ t = 1 ∨ t = 2 ∨ t = 3 by omega) with rfl | rfl | rfl | rfl
    · rw [if_neg (by omega), if_neg (by omega), if_neg (by omega), if_pos (by omega)]
    · rw [if_neg (by omega), if_neg (by omega), if_pos (by omega)]
    · rw [if_neg (by omega), if_pos (by omega)]
    · rw [if_pos (by omega)]
  · rw [if_neg (by omega), if_neg (by omega), if_neg (by omega), if_neg (by omega)]
set_option maxHeartbeats 4000000 in
set_option maxRecDepth 100000 in
theorem c_X12_life9 (l : Launch) (D : va_G) (cy : Nat → ClassId) (a : Nat → Nat) (i : Nat → Int32) (r : Nat → Nat → Int32) (rl : Nat → Int64) (p0 p1 : Int32) (sz : Nat) (hRi : mRi i) (hRr : mRr r) : Met l yX12_life (Cond.code yX12_life cX12_life 3 (some .boolean) :: gT) { frames := 2, cells := 0, slots := 0, locals := 46 } (va_Pc [.ref (a 0), .int p0, .int p1] (rQ D cy (mW cy a i r rl) sz)) (va_Qi (fun (z : Int32) (u : Nat → Nat → Int32) => mRr u ∧ mEr [1] r u ∧ (BR z ((0 ≤ p0.toInt ∧ p0.toInt ≤ 7) ∧ (1 ≤ p1.toInt ∧ p1.toInt ≤ 360)) 1 0 ∧ (((0 ≤ p0.toInt ∧ p0.toInt ≤ 7) ∧ (1 ≤ p1.toInt ∧ p1.toInt ≤ 360)) → u 1 = upd (r 1) p0.toNatClampNeg p1) ∧ (¬ ((0 ≤ p0.toInt ∧ p0.toInt ≤ 7) ∧ (1 ≤ p1.toInt ∧ p1.toInt ≤ 360)) → mEr [] r u))) (fun (u : Nat → Nat → Int32) t => va_P D vwCl (mW cy a i u rl) t.heap ∧ va_K D vwCl (vT cy) t ∧ va_D (va_A (mW cy a i r rl) sz) (mW cy a i u rl)) (va_A (mW cy a i r rl) sz)) 0 0 (va_A (mW cy a i r rl) sz) := by
  refine Met.ofQ (cc := cX12_life) (maxL := 3) (ret := (some .boolean)) (by decide) rfl ?_
  intro p e s m args below meth c s₁ B hml hv Q hQ
  obtain ⟨rfl, hsz, hP, hK, hD0⟩ := hv
  have hx := B.exec
  have hb := B.bytes
  have hr := B.returns
  have hlocks := B.notSynchronized
  have hT : ∀ w ∈ gT, w.before _ s = true := fun w h => atoms_spec (ws := (Cond.code yX12_life cX12_life 3 (some .boolean) :: gT)) B.pre w (List.mem_cons_of_mem _ h)
  have hown : s.vm.findClass RX12 = some m.cls := findClass_of_methodNamed B.named
  subst hsz
  have hD := hD0.self (sz := s.heap.size)
  generalize hAe : va_A (mW cy a i r rl) s.heap.size = A at hD hQ
  have hA : ∀ q : Nat, s.heap.size ≤ q → A q := fun q h => by rw [← hAe]; exact Or.inr h
  have hS : va_S A s.heap s.heap [] := va_S.rf
  have hl := lv_entry ([.ref (a 0), .int p0, .int p1]) (n := 3) (Nat.le_of_ble_eq_true rfl)
  rw [lg_entry_eq]
  generalize (lg_sl ([.ref (a 0), .int p0, .int p1]) ++ List.replicate (3 - (lg_sl ([.ref (a 0), .int p0, .int p1])).length) Slot.unset).toArray = ls at hl ⊢
  have hl : lv_has ls 3 [(0, .ref (a 0)), (1, .int p0), (2, .int p1)] := hl
  have hEi : mEi [] i i := Ei_rf
  have hEr : mEr [1] r r := Er_rf
  refine lv_iload_n hx hb dX12_life_0 rfl (lv_at hl 1 rfl) ?_
  refine vp_callSi (W.runS (As := [.int p0]) (rest := []) ⟨hx, hb, hml, hown, hT⟩ (c_X12_isKind l p0) (va_cwS 1 hT (gS t_5 t_7 t_8 t_6) rfl rfl rfl (by decide +kernel) ⟨Nat.le_of_ble_eq_true rfl, Nat.le_of_ble_eq_true rfl⟩) preT rfl rfl hl.1 rfl (lv_room (Nat.le_of_ble_eq_true rfl)) dX12_life_1 ⟨Nat.le_of_ble_eq_true rfl, Nat.le_of_ble_eq_true rfl⟩) (fun r_1 hr_1 => ?_)
  have hr_1 : BR r_1 (0 ≤ p0.toInt ∧ p0.toInt ≤ 7) 1 0 := hr_1
  rcases hr_1 with ⟨rfl, h_2⟩ | ⟨rfl, h_2⟩
  · skip
    refine lv_if_eq (tgt := 18) hx hb dX12_life_4 (by decide) (fun c_3 => absurd c_3 (by decide)) (fun c_3 => ?_)
    refine lv_iload_n hx hb dX12_life_7 rfl (lv_at hl 2 rfl) ?_
    refine lv_iconst (v := 1) hx hb dX12_life_8 (by decide) ?_
    refine lv_sipush (v := 360) hx hb dX12_life_9 (by decide) ?_
    refine vp_callSi (W.runS (As := [.int p1, .int 1, .int 360]) (rest := []) ⟨hx, hb, hml, hown, hT⟩ (c_X12_in l p1 1 360) (va_cwS 3 hT (gS t_113 t_114 t_115 t_6) rfl rfl rfl (by decide +kernel) ⟨Nat.le_of_ble_eq_true rfl, Nat.le_of_ble_eq_true rfl⟩) preT rfl rfl hl.1 rfl (lv_room (Nat.le_of_ble_eq_true rfl)) dX12_life_12 ⟨Nat.le_of_ble_eq_true rfl, Nat.le_of_ble_eq_true rfl⟩) (fun r_4 hr_4 => ?_)
    have hr_4 : BR r_4 (1 ≤ p1.toInt ∧ p1.toInt ≤ 360) 1 0 := hr_4
    rcases hr_4 with ⟨rfl, h_5⟩ | ⟨rfl, h_5⟩
    · skip
      refine lv_if_ne (tgt := 20) hx hb dX12_life_15 (by decide) (fun c_6 => ?_) (fun c_6 => absurd c_6 (by decide))
      refine lv_aload_n hx hb dX12_life_20 rfl (lv_at hl 0 rfl) ?_
      refine va_get (D := D) (ci := 12) (v := .ref (a 1)) (C := RX12) (T := TX12) (N := 91) hx hb hT iX12 hown hK hP 0 rfl rfl 2 (by decide) (hT _ t_25) (fun _ h9 => h9) rfl dX12_life_21 ?_
      refine lv_iload_n hx hb dX12_life_24 rfl (lv_at hl 1 rfl) ?_
      refine lv_iload_n hx hb dX12_life_25 rfl (lv_at hl 2 rfl) ?_
      refine va_iast hx hb hK hP hD hS 1 0 rfl rfl (vp_inI (by omega) (by omega)) dX12_life_26 (fun H locs hP hD hS => ?_)
      rw [mS1] at hP hD
      have hRr : mRr (va_up r 1 (upd (r 1) p0.toNatClampNeg p1)) := Rr_upd hRr 1 (p0.toNatClampNeg) p1 ⟨by show (1 : Int) ≤ p1.toInt; omega, by show p1.toInt ≤ (360 : Int); omega⟩
      have hEr : mEr [1] _ (va_up r 1 (upd (r 1) p0.toNatClampNeg p1)) := Er_up hEr 1 _ (by decide)
      refine lv_iconst (v := 1) hx hb dX12_life_27 (by decide) ?_
      subst hQ
      exact W.zret hx hb hr rfl (fun t ht hW => ⟨⟨_, (va_up r 1 (upd (r 1) p0.toNatClampNeg p1)), rfl, ⟨hRr, hEr, ⟨Or.inl ⟨rfl, by omega⟩, fun _ => rfl, fun h9 => absurd (by omega) h9⟩⟩, by rw [ht]; exact hP, va_K.moved hW.alike hK, hD⟩, hS.F ht⟩) hS.2.2 dX12_life_28
    · skip
      refine lv_if_ne (tgt := 20) hx hb dX12_life_15 (by decide) (fun c_7 => absurd (by decide) c_7) (fun c_7 => ?_)
      refine lv_iconst (v := 0) hx hb dX12_life_18 (by decide) ?_
      subst hQ
      exact W.zret hx hb hr rfl (fun t ht hW => ⟨⟨_, r, rfl, ⟨hRr, hEr, ⟨Or.inr ⟨rfl, by omega⟩, fun h9 => absurd h9 (by omega), fun _ => Er_rf⟩⟩, by rw [ht]; exact hP, va_K.moved hW.alike hK, hD⟩, hS.F ht⟩) hS.2.2 dX12_life_19
  · skip
    refine lv_if_eq (tgt := 18) hx hb dX12_life_4 (by decide) (fun c_8 => ?_) (fun c_8 => absurd (by decide) c_8)
    refine lv_iconst (v := 0) hx hb dX12_life_18 (by decide) ?_
    subst hQ
    exact W.zret hx hb hr rfl (fun t ht hW => ⟨⟨_, r, rfl, ⟨hRr, hEr, ⟨Or.inr ⟨rfl, by omega⟩, fun h9 => absurd h9 (by omega), fun _ => Er_rf⟩⟩, by rw [ht]; exact hP, va_K.moved hW.alike hK, hD⟩, hS.F ht⟩) hS.2.2 dX12_life_19
set_option maxHeartbeats 4000000 in
set_option maxRecDepth 100000 in
theorem c_X12_price9 (l : Launch) (D : va_G) (cy : Nat → ClassId) (a : Nat → Nat) (i : Nat → Int32) (r : Nat → Nat → Int32) (rl : Nat → Int64) (p0 p1 p2 : Int32) (sz : Nat) (hRi : mRi i) (hRr : mRr r) : Met l yX12_price (Cond.code yX12_price cX12_price 4 (some .boolean) :: gT) { frames := 2, cells := 0, slots := 0, locals := 46 } (va_Pc [.ref (a 0), .int p0, .int p1, .int p2] (rQ D cy (mW cy a i r rl) sz)) (va_Qi (fun (z : Int32) (u : Nat → Nat → Int32) => mRr u ∧ mEr [2] r u ∧ (BR z ((0 ≤ p0.toInt ∧ p0.toInt ≤ 7) ∧ (0 ≤ p1.toInt ∧ p1.toInt ≤ 3) ∧ (0 ≤ p2.toInt ∧ p2.toInt ≤ 99999)) 1 0 ∧ (((0 ≤ p0.toInt ∧ p0.toInt ≤ 7) ∧ (0 ≤ p1.toInt ∧ p1.toInt ≤ 3) ∧ (0 ≤ p2.toInt ∧ p2.toInt ≤ 99999)) → u 2 = upd (r 2) (4 * p0.toInt + p1.toInt).toNat p2) ∧ (¬ ((0 ≤ p0.toInt ∧ p0.toInt ≤ 7) ∧ (0 ≤ p1.toInt ∧ p1.toInt ≤ 3) ∧ (0 ≤ p2.toInt ∧ p2.toInt ≤ 99999)) → mEr [] r u))) (fun (u : Nat → Nat → Int32) t => va_P D vwCl (mW cy a i u rl) t.heap ∧ va_K D vwCl (vT cy) t ∧ va_D (va_A (mW cy a i r rl) sz) (mW cy a i u rl)) (va_A (mW cy a i r rl) sz)) 0 0 (va_A (mW cy a i r rl) sz) := by
  refine Met.ofQ (cc := cX12_price) (maxL := 4) (ret := (some .boolean)) (by decide) rfl ?_
  intro p e s m args below meth c s₁ B hml hv Q hQ
  obtain ⟨rfl, hsz, hP, hK, hD0⟩ := hv
  have hx := B.exec
  have hb := B.bytes
  have hr := B.returns
  have hlocks := B.notSynchronized
  have hT : ∀ w ∈ gT, w.before _ s = true := fun w h => atoms_spec (ws := (Cond.code yX12_price cX12_price 4 (some .boolean) :: gT)) B.pre w (List.mem_cons_of_mem _ h)
  have hown : s.vm.findClass RX12 = some m.cls := findClass_of_methodNamed B.named
  subst hsz
  have hD := hD0.self (sz := s.heap.size)
  generalize hAe : va_A (mW cy a i r rl) s.heap.size = A at hD hQ
  have hA : ∀ q : Nat, s.heap.size ≤ q → A q := fun q h => by rw [← hAe]; exact Or.inr h
  have hS : va_S A s.heap s.heap [] := va_S.rf
  have hl := lv_entry ([.ref (a 0), .int p0, .int p1, .int p2]) (n := 4) (Nat.le_of_ble_eq_true rfl)
  rw [lg_entry_eq]
  generalize (lg_sl ([.ref (a 0), .int p0, .int p1, .int p2]) ++ List.replicate (4 - (lg_sl ([.ref (a 0), .int p0, .int p1, .int p2])).length) Slot.unset).toArray = ls at hl ⊢
  have hl : lv_has ls 4 [(0, .ref (a 0)), (1, .int p0), (2, .int p1), (3, .int p2)] := hl
  have hEi : mEi [] i i := Ei_rf
  have hEr : mEr [2] r r := Er_rf
  refine lv_iload_n hx hb dX12_price_0 rfl (lv_at hl 1 rfl) ?_
  refine vp_callSi (W.runS (As := [.int p0]) (rest := []) ⟨hx, hb, hml, hown, hT⟩ (c_X12_isKind l p0) (va_cwS 1 hT (gS t_5 t_7 t_8 t_6) rfl rfl rfl (by decide +kernel) ⟨Nat.le_of_ble_eq_true rfl, Nat.le_of_ble_eq_true rfl⟩) preT rfl rfl hl.1 rfl (lv_room (Nat.le_of_ble_eq_true rfl)) dX12_price_1 ⟨Nat.le_of_ble_eq_true rfl, Nat.le_of_ble_eq_true rfl⟩) (fun r_1 hr_1 => ?_)
  have hr_1 : BR r_1 (0 ≤ p0.toInt ∧ p0.toInt ≤ 7) 1 0 := hr_1
  rcases hr_1 with ⟨rfl, h_2⟩ | ⟨rfl, h_2⟩
  · skip
    refine lv_if_eq (tgt := 26) hx hb dX12_price_4 (by decide) (fun c_3 => absurd c_3 (by decide)) (fun c_3 => ?_)
    refine lv_iload_n hx hb dX12_price_7 rfl (lv_at hl 2 rfl) ?_
    refine lv_iconst (v := 0) hx hb dX12_price_8 (by decide) ?_
    refine lv_iconst (v := 3) hx hb dX12_price_9 (by decide) ?_
    refine vp_callSi (W.runS (As := [.int p1, .int 0, .int 3]) (rest := []) ⟨hx, hb, hml, hown, hT⟩ (c_X12_in l p1 0 3) (va_cwS 3 hT (gS t_113 t_114 t_115 t_6) rfl rfl rfl (by decide +kernel) ⟨Nat.le_of_ble_eq_true rfl, Nat.le_of_ble_eq_true rfl⟩) preT rfl rfl hl.1 rfl (lv_room (Nat.le_of_ble_eq_true rfl)) dX12_price_10 ⟨Nat.le_of_ble_eq_true rfl, Nat.le_of_ble_eq_true rfl⟩) (fun r_4 hr_4 => ?_)
    have hr_4 : BR r_4 (0 ≤ p1.toInt ∧ p1.toInt ≤ 3) 1 0 := hr_4
    rcases hr_4 with ⟨rfl, h_5⟩ | ⟨rfl, h_5⟩
    · skip
      refine lv_if_eq (tgt := 26) hx hb dX12_price_13 (by decide) (fun c_6 => absurd c_6 (by decide)) (fun c_6 => ?_)
      refine lv_iload_n hx hb dX12_price_16 rfl (lv_at hl 3 rfl) ?_
      refine lv_iconst (v := 0) hx hb dX12_price_17 (by decide) ?_
      refine lv_ldc (v := 99999) hx hb hown (hT _ t_175) dX12_price_18 ?_
      refine vp_callSi (W.runS (As := [.int p2, .int 0, .int 99999]) (rest := []) ⟨hx, hb, hml, hown, hT⟩ (c_X12_in l p2 0 99999) (va_cwS 3 hT (gS t_113 t_114 t_115 t_6) rfl rfl rfl (by decide +kernel) ⟨Nat.le_of_ble_eq_true rfl, Nat.le_of_ble_eq_true rfl⟩) preT rfl rfl hl.1 rfl (lv_room (Nat.le_of_ble_eq_true rfl)) dX12_price_20 ⟨Nat.le_of_ble_eq_true rfl, Nat.le_of_ble_eq_true rfl⟩) (fun r_7 hr_7 => ?_)
      have hr_7 : BR r_7 (0 ≤ p2.toInt ∧ p2.toInt ≤ 99999) 1 0 := hr_7
      rcases hr_7 with ⟨rfl, h_8⟩ | ⟨rfl, h_8⟩
      · skip
        refine lv_if_ne (tgt := 28) hx hb dX12_price_23 (by decide) (fun c_9 => ?_) (fun c_9 => absurd c_9 (by decide))
        refine lv_aload_n hx hb dX12_price_28 rfl (lv_at hl 0 rfl) ?_
        refine va_get (D := D) (ci := 12) (v := .ref (a 2)) (C := RX12) (T := TX12) (N := 91) hx hb hT iX12 hown hK hP 0 rfl rfl 3 (by decide) (hT _ t_26) (fun _ h9 => h9) rfl dX12_price_29 ?_
        refine lv_iconst (v := 4) hx hb dX12_price_32 (by decide) ?_
        refine lv_iload_n hx hb dX12_price_33 rfl (lv_at hl 1 rfl) ?_
        refine lv_imul hx hb dX12_price_34 ?_
        refine lv_topi (fun v_10 ev_10 => ?_)
        have hv_10 : v_10.toInt = 4 * p0.toInt := by rw [ev_10]; have := b_rg p0; exact i_mul (a := 4) (b := p0.toInt) rfl rfl (by omega) (by omega)
        refine lv_iload_n hx hb dX12_price_35 rfl (lv_at hl 2 rfl) ?_
        refine lv_iadd hx hb dX12_price_36 ?_
        refine lv_topi (fun v_11 ev_11 => ?_)
        have hv_11 : v_11.toInt = v_10.toInt + p1.toInt := by rw [ev_11]; have := b_rg v_10; have := b_rg p1; exact i_add (a := v_10.toInt) (b := p1.toInt) rfl rfl (by omega) (by omega)
        refine lv_iload_n hx hb dX12_price_37 rfl (lv_at hl 3 rfl) ?_
        refine va_iast hx hb hK hP hD hS 2 0 rfl rfl (vp_inI (by omega) (by omega)) dX12_price_38 (fun H locs hP hD hS => ?_)
        rw [mS2] at hP hD
        have hRr : mRr (va_up r 2 (upd (r 2) v_11.toNatClampNeg p2)) := Rr_upd hRr 2 (v_11.toNatClampNeg) p2 ⟨by show (0 : Int) ≤ p2.toInt; omega, by show p2.toInt ≤ (99999 : Int); omega⟩
        have hEr : mEr [2] _ (va_up r 2 (upd (r 2) v_11.toNatClampNeg p2)) := Er_up hEr 2 _ (by decide)
        refine lv_iconst (v := 1) hx hb dX12_price_39 (by decide) ?_
        subst hQ
        have hix : v_11.toNatClampNeg = (4 * p0.toInt + p1.toInt).toNat := by show v_11.toInt.toNat = _; omega
        exact W.zret hx hb hr rfl (fun t ht hW => ⟨⟨_, (va_up r 2 (upd (r 2) v_11.toNatClampNeg p2)), rfl, ⟨hRr, hEr, ⟨Or.inl ⟨rfl, by omega⟩, fun _ => (by rw [← hix]; rfl), fun h9 => absurd (by omega) h9⟩⟩, by rw [ht]; exact hP, va_K.moved hW.alike hK, hD⟩, hS.F ht⟩) hS.2.2 dX12_price_40
      · skip
        refine lv_if_ne (tgt := 28) hx hb dX12_price_23 (by decide) (fun c_12 => absurd (by decide) c_12) (fun c_12 => ?_)
        refine lv_iconst (v := 0) hx hb dX12_price_26 (by decide) ?_
        subst hQ
        exact W.zret hx hb hr rfl (fun t ht hW => ⟨⟨_, r, rfl, ⟨hRr, hEr, ⟨Or.inr ⟨rfl, by omega⟩, fun h9 => absurd h9 (by omega), fun _ => Er_rf⟩⟩, by rw [ht]; exact hP, va_K.moved hW.alike hK, hD⟩, hS.F ht⟩) hS.2.2 dX12_price_27
    · skip
      refine lv_if_eq (tgt := 26) hx hb dX12_price_13 (by decide) (fun c_13 => ?_) (fun c_13 => absurd (by decide) c_13)
      refine lv_iconst (v := 0) hx hb dX12_price_26 (by decide) ?_
      subst hQ
      exact W.zret hx hb hr rfl (fun t ht hW => ⟨⟨_, r, rfl, ⟨hRr, hEr, ⟨Or.inr ⟨rfl, by omega⟩, fun h9 => absurd h9 (by omega), fun _ => Er_rf⟩⟩, by rw [ht]; exact hP, va_K.moved hW.alike hK, hD⟩, hS.F ht⟩) hS.2.2 dX12_price_27
  · skip
    refine lv_if_eq (tgt := 26) hx hb dX12_price_4 (by decide) (fun c_14 => ?_) (fun c_14 => absurd (by decide) c_14)
    refine lv_iconst (v := 0) hx hb dX12_price_26 (by decide) ?_
    subst hQ
    exact W.zret hx hb hr rfl (fun t ht hW => ⟨⟨_, r, rfl, ⟨hRr, hEr, ⟨Or.inr ⟨rfl, by omega⟩, fun h9 => absurd h9 (by omega), fun _ => Er_rf⟩⟩, by rw [ht]; exact hP, va_K.moved hW.alike hK, hD⟩, hS.F ht⟩) hS.2.2 dX12_price_27
set_option maxHeartbeats 4000000 in
set_option maxRecDepth 100000 in
theorem c_X12_home9 (l : Launch) (D : va_G) (cy : Nat → ClassId) (a : Nat → Nat) (i : Nat → Int32) (r : Nat → Nat → Int32) (rl : Nat → Int64) (p0 p1 p2 p3 p4 p5 : Int32) (sz : Nat) (hRi : mRi i) (hRr : mRr r) (hE : mE i r) : Met l yX12_home (Cond.code yX12_home cX12_home 8 (some .int) :: gT) { frames := 2, cells := 0, slots := 0, locals := 46 } (va_Pc [.ref (a 0), .int p0, .int p1, .int p2, .int p3, .int p4, .int p5] (rQ D cy (mW cy a i r rl) sz)) (va_Qi (fun (z : Int32) (u : (Nat → Int32) × (Nat → Nat → Int32)) => mRi u.1 ∧ mRr u.2 ∧ mEi [0] i u.1 ∧ mEr [3, 4, 5, 6, 7, 8, 19] r u.2 ∧ (mE u.1 u.2 ∧ ((((0 ≤ p0.toInt ∧ p0.toInt ≤ 3) ∧ (1 ≤ p1.toInt ∧ p1.toInt ≤ 4) ∧ (0 ≤ p2.toInt ∧ p2.toInt ≤ 999999) ∧ (0 ≤ p3.toInt ∧ p3.toInt ≤ 999) ∧ p3.toInt ≤ p4.toInt ∧ p4.toInt ≤ 999 ∧ (i 0).toInt ≤ 5) → z.toInt = (i 0).toInt ∧ (u.1 0).toInt = (i 0).toInt + 1 ∧ u.2 3 = upd (r 3) (i 0).toNatClampNeg p0 ∧ u.2 4 = upd (r 4) (i 0).toNatClampNeg p1 ∧ u.2 5 = upd (r 5) (i 0).toNatClampNeg p2 ∧ u.2 6 = upd (r 6) (i 0).toNatClampNeg p3 ∧ u.2 7 = upd (r 7) (i 0).toNatClampNeg p4 ∧ u.2 19 = upd (r 19) (i 0).toNatClampNeg (vp_nar .boolean p5) ∧ (∀ t, t < 4 → u.2 8 (4 * (i 0).toNatClampNeg + t) = 1) ∧ ∀ j, ¬ (4 * (i 0).toNatClampNeg ≤ j ∧ j < 4 * (i 0).toNatClampNeg + 4) → u.2 8 j = r 8 j) ∧ (¬ ((0 ≤ p0.toInt ∧ p0.toInt ≤ 3) ∧ (1 ≤ p1.toInt ∧ p1.toInt ≤ 4) ∧ (0 ≤ p2.toInt ∧ p2.toInt ≤ 999999) ∧ (0 ≤ p3.toInt ∧ p3.toInt ≤ 999) ∧ p3.toInt ≤ p4.toInt ∧ p4.toInt ≤ 999 ∧ (i 0).toInt ≤ 5) → z = -1 ∧ mEi [] i u.1 ∧ mEr [] r u.2)))) (fun (u : (Nat → Int32) × (Nat → Nat → Int32)) t => va_P D vwCl (mW cy a u.1 u.2 rl) t.heap ∧ va_K D vwCl (vT cy) t ∧ va_D (va_A (mW cy a i r rl) sz) (mW cy a u.1 u.2 rl)) (va_A (mW cy a i r rl) sz)) 0 0 (va_A (mW cy a i r rl) sz) := by
  refine Met.ofQ (cc := cX12_home) (maxL := 8) (ret := (some .int)) (by decide) rfl ?_
  intro p e s m args below meth c s₁ B hml hv Q hQ
  obtain ⟨rfl, hsz, hP, hK, hD0⟩ := hv
  have hx := B.exec
  have hb := B.bytes
  have hr := B.returns
  have hlocks := B.notSynchronized
  have hT : ∀ w ∈ gT, w.before _ s = true := fun w h => atoms_spec (ws := (Cond.code yX12_home cX12_home 8 (some .int) :: gT)) B.pre w (List.mem_cons_of_mem _ h)
  have hown : s.vm.findClass RX12 = some m.cls := findClass_of_methodNamed B.named
  subst hsz
  have hD := hD0.self (sz := s.heap.size)
  generalize hAe : va_A (mW cy a i r rl) s.heap.size = A at hD hQ
  have hA : ∀ q : Nat, s.heap.size ≤ q → A q := fun q h => by rw [← hAe]; exact Or.inr h
  have hS : va_S A s.heap s.heap [] := va_S.rf
  have hl := lv_entry ([.ref (a 0), .int p0, .int p1, .int p2, .int p3, .int p4, .int p5]) (n := 8) (Nat.le_of_ble_eq_true rfl)
  rw [lg_entry_eq]
  generalize (lg_sl ([.ref (a 0), .int p0, .int p1, .int p2, .int p3, .int p4, .int p5]) ++ List.replicate (8 - (lg_sl ([.ref (a 0), .int p0, .int p1, .int p2, .int p3, .int p4, .int p5])).length) Slot.unset).toArray = ls at hl ⊢
  have hl : lv_has ls 8 [(0, .ref (a 0)), (1, .int p0), (2, .int p1), (3, .int p2), (4, .int p3), (5, .int p4), (6, .int p5)] := hl
  have hEi : mEi [0] i i := Ei_rf
  have hEr : mEr [3, 4, 5, 6, 7, 8, 19] r r := Er_rf
  refine lv_iload_n hx hb dX12_home_0 rfl (lv_at hl 1 rfl) ?_
  refine lv_iconst (v := 0) hx hb dX12_home_1 (by decide) ?_
  refine lv_iconst (v := 3) hx hb dX12_home_2 (by decide) ?_
  refine vp_callSi (W.runS (As := [.int p0, .int 0, .int 3]) (rest := []) ⟨hx, hb, hml, hown, hT⟩ (c_X12_in l p0 0 3) (va_cwS 3 hT (gS t_113 t_114 t_115 t_6) rfl rfl rfl (by decide +kernel) ⟨Nat.le_of_ble_eq_true rfl, Nat.le_of_ble_eq_true rfl⟩) preT rfl rfl hl.1 rfl (lv_room (Nat.le_of_ble_eq_true rfl)) dX12_home_3 ⟨Nat.le_of_ble_eq_true rfl, Nat.le_of_ble_eq_true rfl⟩) (fun r_1 hr_1 => ?_)
  have hr_1 : BR r_1 (0 ≤ p0.toInt ∧ p0.toInt ≤ 3) 1 0 := hr_1
  rcases hr_1 with ⟨rfl, h_2⟩ | ⟨rfl, h_2⟩
  · skip
    refine lv_if_eq (tgt := 59) hx hb dX12_home_6 (by decide) (fun c_3 => absurd c_3 (by decide)) (fun c_3 => ?_)
    refine lv_iload_n hx hb dX12_home_9 rfl (lv_at hl 2 rfl) ?_
    refine lv_iconst (v := 1) hx hb dX12_home_10 (by decide) ?_
    refine lv_iconst (v := 4) hx hb dX12_home_11 (by decide) ?_
    refine vp_callSi (W.runS (As := [.int p1, .int 1, .int 4]) (rest := []) ⟨hx, hb, hml, hown, hT⟩ (c_X12_in l p1 1 4) (va_cwS 3 hT (gS t_113 t_114 t_115 t_6) rfl rfl rfl (by decide +kernel) ⟨Nat.le_of_ble_eq_true rfl, Nat.le_of_ble_eq_true rfl⟩) preT rfl rfl hl.1 rfl (lv_room (Nat.le_of_ble_eq_true rfl)) dX12_home_12 ⟨Nat.le_of_ble_eq_true rfl, Nat.le_of_ble_eq_true rfl⟩) (fun r_4 hr_4 => ?_)
    have hr_4 : BR r_4 (1 ≤ p1.toInt ∧ p1.toInt ≤ 4) 1 0 := hr_4
    rcases hr_4 with ⟨rfl, h_5⟩ | ⟨rfl, h_5⟩
    · skip
      refine lv_if_eq (tgt := 59) hx hb dX12_home_15 (by decide) (fun c_6 => absurd c_6 (by decide)) (fun c_6 => ?_)
      refine lv_iload_n hx hb dX12_home_18 rfl (lv_at hl 3 rfl) ?_
      refine vp_callSi (W.runS (As := [.int p2]) (rest := []) ⟨hx, hb, hml, hown, hT⟩ (c_X12_isPence l p2) (va_cwS 1 hT (gS t_177 t_178 t_179 t_6) rfl rfl rfl (by decide +kernel) ⟨Nat.le_of_ble_eq_true rfl, Nat.le_of_ble_eq_true rfl⟩) preT rfl rfl hl.1 rfl (lv_room (Nat.le_of_ble_eq_true rfl)) dX12_home_19 ⟨Nat.le_of_ble_eq_true rfl, Nat.le_of_ble_eq_true rfl⟩) (fun r_7 hr_7 => ?_)
      have hr_7 : BR r_7 (0 ≤ p2.toInt ∧ p2.toInt ≤ 999999) 1 0 := hr_7
      rcases hr_7 with ⟨rfl, h_8⟩ | ⟨rfl, h_8⟩
      · skip
        refine lv_if_eq (tgt := 59) hx hb dX12_home_22 (by decide) (fun c_9 => absurd c_9 (by decide)) (fun c_9 => ?_)
        refine lv_iload hx hb dX12_home_25 (lv_at hl 4 rfl) ?_
        refine lv_iconst (v := 0) hx hb dX12_home_27 (by decide) ?_
        refine lv_sipush (v := 999) hx hb dX12_home_28 (by decide) ?_
        refine vp_callSi (W.runS (As := [.int p3, .int 0, .int 999]) (rest := []) ⟨hx, hb, hml, hown, hT⟩ (c_X12_in l p3 0 999) (va_cwS 3 hT (gS t_113 t_114 t_115 t_6) rfl rfl rfl (by decide +kernel) ⟨Nat.le_of_ble_eq_true rfl, Nat.le_of_ble_eq_true rfl⟩) preT rfl rfl hl.1 rfl (lv_room (Nat.le_of_ble_eq_true rfl)) dX12_home_31 ⟨Nat.le_of_ble_eq_true rfl, Nat.le_of_ble_eq_true rfl⟩) (fun r_10 hr_10 => ?_)
        have hr_10 : BR r_10 (0 ≤ p3.toInt ∧ p3.toInt ≤ 999) 1 0 := hr_10
        rcases hr_10 with ⟨rfl, h_11⟩ | ⟨rfl, h_11⟩
        · skip
          refine lv_if_eq (tgt := 59) hx hb dX12_home_34 (by decide) (fun c_12 => absurd c_12 (by decide)) (fun c_12 => ?_)
          refine lv_iload hx hb dX12_home_37 (lv_at hl 5 rfl) ?_
          refine lv_iload hx hb dX12_home_39 (lv_at hl 4 rfl) ?_
          refine lv_sipush (v := 999) hx hb dX12_home_41 (by decide) ?_
          refine vp_callSi (W.runS (As := [.int p4, .int p3, .int 999]) (rest := []) ⟨hx, hb, hml, hown, hT⟩ (c_X12_in l p4 p3 999) (va_cwS 3 hT (gS t_113 t_114 t_115 t_6) rfl rfl rfl (by decide +kernel) ⟨Nat.le_of_ble_eq_true rfl, Nat.le_of_ble_eq_true rfl⟩) preT rfl rfl hl.1 rfl (lv_room (Nat.le_of_ble_eq_true rfl)) dX12_home_44 ⟨Nat.le_of_ble_eq_true rfl, Nat.le_of_ble_eq_true rfl⟩) (fun r_13 hr_13 => ?_)
          have hr_13 : BR r_13 (p3.toInt ≤ p4.toInt ∧ p4.toInt ≤ 999) 1 0 := hr_13
          rcases hr_13 with ⟨rfl, h_14⟩ | ⟨rfl, h_14⟩
          · skip
            refine lv_if_eq (tgt := 59) hx hb dX12_home_47 (by decide) (fun c_15 => absurd c_15 (by decide)) (fun c_15 => ?_)
            refine lv_aload_n hx hb dX12_home_50 rfl (lv_at hl 0 rfl) ?_
            refine va_get (D := D) (ci := 12) (v := .int (i 0)) (C := RX12) (T := TX12) (N := 91) hx hb hT iX12 hown hK hP 0 rfl rfl 0 (by decide) (hT _ t_10) (fun _ h9 => h9) rfl dX12_home_51 ?_
            have hg_16 : 0 ≤ (i 0).toInt ∧ (i 0).toInt ≤ 6 := hRi 0
            refine lv_bipush (v := 6) hx hb dX12_home_54 (by decide) ?_
            refine lv_icmp_ne (tgt := 61) hx hb dX12_home_56 (by decide) (fun c_17 => ?_) (fun c_17 => ?_)
            · have c_17 : (i 0).toInt ≠ 6 := b_ne c_17
              refine lv_aload_n hx hb dX12_home_61 rfl (lv_at hl 0 rfl) ?_
              refine va_get (D := D) (ci := 12) (v := .ref (a 3)) (C := RX12) (T := TX12) (N := 91) hx hb hT iX12 hown hK hP 0 rfl rfl 4 (by decide) (hT _ t_27) (fun _ h9 => h9) rfl dX12_home_62 ?_
              refine lv_aload_n hx hb dX12_home_65 rfl (lv_at hl 0 rfl) ?_
              refine va_get (D := D) (ci := 12) (v := .int (i 0)) (C := RX12) (T := TX12) (N := 91) hx hb hT iX12 hown hK hP 0 rfl rfl 0 (by decide) (hT _ t_10) (fun _ h9 => h9) rfl dX12_home_66 ?_
              refine lv_iload_n hx hb dX12_home_69 rfl (lv_at hl 1 rfl) ?_
              refine va_iast hx hb hK hP hD hS 3 0 rfl rfl (vp_inI (by omega) (by omega)) dX12_home_70 (fun H locs hP hD hS => ?_)
              rw [mS3] at hP hD
              have hRr : mRr (va_up r 3 (upd (r 3) ((i 0).toNatClampNeg) p0)) := Rr_upd hRr 3 ((i 0).toNatClampNeg) p0 ⟨by show (0 : Int) ≤ p0.toInt; omega, by show p0.toInt ≤ (3 : Int); omega⟩
              have hEr : mEr [3, 4, 5, 6, 7, 8, 19] _ (va_up r 3 (upd (r 3) ((i 0).toNatClampNeg) p0)) := Er_up hEr 3 _ (by decide)
              refine lv_aload_n hx hb dX12_home_71 rfl (lv_at hl 0 rfl) ?_
              refine va_get (D := D) (ci := 12) (v := .ref (a 4)) (C := RX12) (T := TX12) (N := 91) hx hb hT iX12 hown hK hP 0 rfl rfl 5 (by decide) (hT _ t_66) (fun _ h9 => h9) rfl dX12_home_72 ?_
              refine lv_aload_n hx hb dX12_home_75 rfl (lv_at hl 0 rfl) ?_
              refine va_get (D := D) (ci := 12) (v := .int (i 0)) (C := RX12) (T := TX12) (N := 91) hx hb hT iX12 hown hK hP 0 rfl rfl 0 (by decide) (hT _ t_10) (fun _ h9 => h9) rfl dX12_home_76 ?_
              refine lv_iload_n hx hb dX12_home_79 rfl (lv_at hl 2 rfl) ?_
              refine va_iast hx hb hK hP hD hS 4 0 rfl rfl (vp_inI (by omega) (by omega)) dX12_home_80 (fun H locs hP hD hS => ?_)
              rw [mS4] at hP hD
              have hRr : mRr (va_up (va_up r 3 (upd (r 3) ((i 0).toNatClampNeg) p0)) 4 (upd (r 4) ((i 0).toNatClampNeg) p1)) := Rr_upd hRr 4 ((i 0).toNatClampNeg) p1 ⟨by show (0 : Int) ≤ p1.toInt; omega, by show p1.toInt ≤ (4 : Int); omega⟩
              have hEr : mEr [3, 4, 5, 6, 7, 8, 19] _ (va_up (va_up r 3 (upd (r 3) ((i 0).toNatClampNeg) p0)) 4 (upd (r 4) ((i 0).toNatClampNeg) p1)) := Er_up hEr 4 _ (by decide)
              refine lv_aload_n hx hb dX12_home_81 rfl (lv_at hl 0 rfl) ?_
              refine va_get (D := D) (ci := 12) (v := .ref (a 5)) (C := RX12) (T := TX12) (N := 91) hx hb hT iX12 hown hK hP 0 rfl rfl 6 (by decide) (hT _ t_168) (fun _ h9 => h9) rfl dX12_home_82 ?_
              refine lv_aload_n hx hb dX12_home_85 rfl (lv_at hl 0 rfl) ?_
              refine va_get (D := D) (ci := 12) (v := .int (i 0)) (C := RX12) (T := TX12) (N := 91) hx hb hT iX12 hown hK hP 0 rfl rfl 0 (by decide) (hT _ t_10) (fun _ h9 => h9) rfl dX12_home_86 ?_
              refine lv_iload_n hx hb dX12_home_89 rfl (lv_at hl 3 rfl) ?_
              refine va_iast hx hb hK hP hD hS 5 0 rfl rfl (vp_inI (by omega) (by omega)) dX12_home_90 (fun H locs hP hD hS => ?_)
              rw [mS5] at hP hD
              have hRr : mRr (va_up (va_up (va_up r 3 (upd (r 3) ((i 0).toNatClampNeg) p0)) 4 (upd (r 4) ((i 0).toNatClampNeg) p1)) 5 (upd (r 5) ((i 0).toNatClampNeg) p2)) := Rr_upd hRr 5 ((i 0).toNatClampNeg) p2 ⟨by show (0 : Int) ≤ p2.toInt; omega, by show p2.toInt ≤ (999999 : Int); omega⟩
              have hEr : mEr [3, 4, 5, 6, 7, 8, 19] _ (va_up (va_up (va_up r 3 (upd (r 3) ((i 0).toNatClampNeg) p0)) 4 (upd (r 4) ((i 0).toNatClampNeg) p1)) 5 (upd (r 5) ((i 0).toNatClampNeg) p2)) := Er_up hEr 5 _ (by decide)
              refine lv_aload_n hx hb dX12_home_91 rfl (lv_at hl 0 rfl) ?_
              refine va_get (D := D) (ci := 12) (v := .ref (a 6)) (C := RX12) (T := TX12) (N := 91) hx hb hT iX12 hown hK hP 0 rfl rfl 7 (by decide) (hT _ t_18) (fun _ h9 => h9) rfl dX12_home_92 ?_
              refine lv_aload_n hx hb dX12_home_95 rfl (lv_at hl 0 rfl) ?_
              refine va_get (D := D) (ci := 12) (v := .int (i 0)) (C := RX12) (T := TX12) (N := 91) hx hb hT iX12 hown hK hP 0 rfl rfl 0 (by decide) (hT _ t_10) (fun _ h9 => h9) rfl dX12_home_96 ?_
              refine lv_iload hx hb dX12_home_99 (lv_at hl 4 rfl) ?_
              refine va_iast hx hb hK hP hD hS 6 0 rfl rfl (vp_inI (by omega) (by omega)) dX12_home_101 (fun H locs hP hD hS => ?_)
              rw [mS6] at hP hD
              have hRr : mRr (va_up (va_up (va_up (va_up r 3 (upd (r 3) ((i 0).toNatClampNeg) p0)) 4 (upd (r 4) ((i 0).toNatClampNeg) p1)) 5 (upd (r 5) ((i 0).toNatClampNeg) p2)) 6 (upd (r 6) ((i 0).toNatClampNeg) p3)) := Rr_upd hRr 6 ((i 0).toNatClampNeg) p3 ⟨by show (0 : Int) ≤ p3.toInt; omega, by show p3.toInt ≤ (999 : Int); omega⟩
              have hEr : mEr [3, 4, 5, 6, 7, 8, 19] _ (va_up (va_up (va_up (va_up r 3 (upd (r 3) ((i 0).toNatClampNeg) p0)) 4 (upd (r 4) ((i 0).toNatClampNeg) p1)) 5 (upd (r 5) ((i 0).toNatClampNeg) p2)) 6 (upd (r 6) ((i 0).toNatClampNeg) p3)) := Er_up hEr 6 _ (by decide)
              refine lv_aload_n hx hb dX12_home_102 rfl (lv_at hl 0 rfl) ?_
              refine va_get (D := D) (ci := 12) (v := .ref (a 7)) (C := RX12) (T := TX12) (N := 91) hx hb hT iX12 hown hK hP 0 rfl rfl 8 (by decide) (hT _ t_17) (fun _ h9 => h9) rfl dX12_home_103 ?_
              refine lv_aload_n hx hb dX12_home_106 rfl (lv_at hl 0 rfl) ?_
              refine va_get (D := D) (ci := 12) (v := .int (i 0)) (C := RX12) (T := TX12) (N := 91) hx hb hT iX12 hown hK hP 0 rfl rfl 0 (by decide) (hT _ t_10) (fun _ h9 => h9) rfl dX12_home_107 ?_
              refine lv_iload hx hb dX12_home_110 (lv_at hl 5 rfl) ?_
              refine va_iast hx hb hK hP hD hS 7 0 rfl rfl (vp_inI (by omega) (by omega)) dX12_home_112 (fun H locs hP hD hS => ?_)
              rw [mS7] at hP hD
              have hRr : mRr (va_up (va_up (va_up (va_up (va_up r 3 (upd (r 3) ((i 0).toNatClampNeg) p0)) 4 (upd (r 4) ((i 0).toNatClampNeg) p1)) 5 (upd (r 5) ((i 0).toNatClampNeg) p2)) 6 (upd (r 6) ((i 0).toNatClampNeg) p3)) 7 (upd (r 7) ((i 0).toNatClampNeg) p4)) := Rr_upd hRr 7 ((i 0).toNatClampNeg) p4 ⟨by show (0 : Int) ≤ p4.toInt; omega, by show p4.toInt ≤ (999 : Int); omega⟩
              have hEr : mEr [3, 4, 5, 6, 7, 8, 19] _ (va_up (va_up (va_up (va_up (va_up r 3 (upd (r 3) ((i 0).toNatClampNeg) p0)) 4 (upd (r 4) ((i 0).toNatClampNeg) p1)) 5 (upd (r 5) ((i 0).toNatClampNeg) p2)) 6 (upd (r 6) ((i 0).toNatClampNeg) p3)) 7 (upd (r 7) ((i 0).toNatClampNeg) p4)) := Er_up hEr 7 _ (by decide)
              refine lv_aload_n hx hb dX12_home_113 rfl (lv_at hl 0 rfl) ?_
              refine va_get (D := D) (ci := 12) (v := .ref (a 19)) (C := RX12) (T := TX12) (N := 91) hx hb hT iX12 hown hK hP 0 rfl rfl 20 (by decide) (hT _ t_170) (fun _ h9 => h9) rfl dX12_home_114 ?_
              refine lv_aload_n hx hb dX12_home_117 rfl (lv_at hl 0 rfl) ?_
              refine va_get (D := D) (ci := 12) (v := .int (i 0)) (C := RX12) (T := TX12) (N := 91) hx hb hT iX12 hown hK hP 0 rfl rfl 0 (by decide) (hT _ t_10) (fun _ h9 => h9) rfl dX12_home_118 ?_
              refine lv_iload hx hb dX12_home_121 (lv_at hl 6 rfl) ?_
              refine va_zast hx hb hK hP hD hS 19 2 rfl rfl (vp_inI (by omega) (by omega)) dX12_home_123 (fun H locs hP hD hS => ?_)
              rw [mS19] at hP hD
              have hRr : mRr (va_up (va_up (va_up (va_up (va_up (va_up r 3 (upd (r 3) ((i 0).toNatClampNeg) p0)) 4 (upd (r 4) ((i 0).toNatClampNeg) p1)) 5 (upd (r 5) ((i 0).toNatClampNeg) p2)) 6 (upd (r 6) ((i 0).toNatClampNeg) p3)) 7 (upd (r 7) ((i 0).toNatClampNeg) p4)) 19 (upd (r 19) ((i 0).toNatClampNeg) (vp_nar .boolean p5))) := Rr_upd hRr 19 ((i 0).toNatClampNeg) (vp_nar .boolean p5) (b_rg _)
              have hEr : mEr [3, 4, 5, 6, 7, 8, 19] _ (va_up (va_up (va_up (va_up (va_up (va_up r 3 (upd (r 3) ((i 0).toNatClampNeg) p0)) 4 (upd (r 4) ((i 0).toNatClampNeg) p1)) 5 (upd (r 5) ((i 0).toNatClampNeg) p2)) 6 (upd (r 6) ((i 0).toNatClampNeg) p3)) 7 (upd (r 7) ((i 0).toNatClampNeg) p4)) 19 (upd (r 19) ((i 0).toNatClampNeg) (vp_nar .boolean p5))) := Er_up hEr 19 _ (by decide)
              refine lv_iconst (v := 0) hx hb dX12_home_124 (by decide) ?_
              refine lv_istore (lv' := [(7, .int 0), (0, .ref (a 0)), (1, .int p0), (2, .int p1), (3, .int p2), (4, .int p3), (5, .int p4), (6, .int p5)]) hx hb dX12_home_125 hl (by decide) rfl (fun ls hl => ?_)
              refine lv_iload hx hb dX12_home_127 (lv_at hl 0 rfl) ?_
              refine lv_iconst (v := 4) hx hb dX12_home_129 (by decide) ?_
              refine lv_icmp_ge (tgt := 154) hx hb dX12_home_130 (by decide) (fun c_18 => absurd c_18 (by decide)) (fun c_18 => ?_)
              refine lv_aload_n hx hb dX12_home_133 rfl (lv_at hl 1 rfl) ?_
              refine va_get (D := D) (ci := 12) (v := .ref (a 8)) (C := RX12) (T := TX12) (N := 91) hx hb hT iX12 hown hK hP 0 rfl rfl 9 (by decide) (hT _ t_176) (fun _ h9 => h9) rfl dX12_home_134 ?_
              refine lv_iconst (v := 4) hx hb dX12_home_137 (by decide) ?_
              refine lv_aload_n hx hb dX12_home_138 rfl (lv_at hl 1 rfl) ?_
              refine va_get (D := D) (ci := 12) (v := .int (i 0)) (C := RX12) (T := TX12) (N := 91) hx hb hT iX12 hown hK hP 0 rfl rfl 0 (by decide) (hT _ t_10) (fun _ h9 => h9) rfl dX12_home_139 ?_
              refine lv_imul hx hb dX12_home_142 ?_
              refine lv_topi (fun v_19 ev_19 => ?_)
              have hv_19 : v_19.toInt = 4 * (i 0).toInt := by rw [ev_19]; have := b_rg (i 0); exact i_mul (a := 4) (b := (i 0).toInt) rfl rfl (by omega) (by omega)
              refine lv_iload hx hb dX12_home_143 (lv_at hl 0 rfl) ?_
              refine lv_iadd hx hb dX12_home_145 ?_
              refine lv_topi (fun v_20 ev_20 => ?_)
              have hv_20 : v_20.toInt = v_19.toInt + 0 := by rw [ev_20]; have := b_rg v_19; exact i_add (a := v_19.toInt) (b := 0) rfl rfl (by omega) (by omega)
              refine lv_iconst (v := 1) hx hb dX12_home_146 (by decide) ?_
              refine va_iast hx hb hK hP hD hS 8 0 rfl rfl (vp_inI (by omega) (by omega)) dX12_home_147 (fun H locs hP hD hS => ?_)
              rw [mS8] at hP hD
              have hRr : mRr (va_up (va_up (va_up (va_up (va_up (va_up (va_up r 3 (upd (r 3) ((i 0).toNatClampNeg) p0)) 4 (upd (r 4) ((i 0).toNatClampNeg) p1)) 5 (upd (r 5) ((i 0).toNatClampNeg) p2)) 6 (upd (r 6) ((i 0).toNatClampNeg) p3)) 7 (upd (r 7) ((i 0).toNatClampNeg) p4)) 19 (upd (r 19) ((i 0).toNatClampNeg) (vp_nar .boolean p5))) 8 (upd (r 8) v_20.toNatClampNeg 1)) := Rr_upd hRr 8 (v_20.toNatClampNeg) 1 ⟨by decide, by decide⟩
              have hEr : mEr [3, 4, 5, 6, 7, 8, 19] _ (va_up (va_up (va_up (va_up (va_up (va_up (va_up r 3 (upd (r 3) ((i 0).toNatClampNeg) p0)) 4 (upd (r 4) ((i 0).toNatClampNeg) p1)) 5 (upd (r 5) ((i 0).toNatClampNeg) p2)) 6 (upd (r 6) ((i 0).toNatClampNeg) p3)) 7 (upd (r 7) ((i 0).toNatClampNeg) p4)) 19 (upd (r 19) ((i 0).toNatClampNeg) (vp_nar .boolean p5))) 8 (upd (r 8) v_20.toNatClampNeg 1)) := Er_up hEr 8 _ (by decide)
              obtain ⟨x_21, ex_21⟩ : ∃ y : Int32, y = (0 : Int32) + 1 := ⟨_, rfl⟩
              refine lv_iinc (v := x_21) (lv' := [(7, .int x_21), (0, .ref (a 0)), (1, .int p0), (2, .int p1), (3, .int p2), (4, .int p3), (5, .int p4), (6, .int p5)]) hx hb dX12_home_148 hl (k := 0) rfl (by rw [ex_21]; rfl) (by decide) rfl (fun ls hl => ?_)
              obtain rfl : x_21 = 1 := ex_21.trans (by decide)
              refine lv_goto (tgt := 127) hx hb dX12_home_151 (by decide) ?_
              refine lv_iload hx hb dX12_home_127 (lv_at hl 0 rfl) ?_
              refine lv_iconst (v := 4) hx hb dX12_home_129 (by decide) ?_
              refine lv_icmp_ge (tgt := 154) hx hb dX12_home_130 (by decide) (fun c_22 => absurd c_22 (by decide)) (fun c_22 => ?_)
              refine lv_aload_n hx hb dX12_home_133 rfl (lv_at hl 1 rfl) ?_
              refine va_get (D := D) (ci := 12) (v := .ref (a 8)) (C := RX12) (T := TX12) (N := 91) hx hb hT iX12 hown hK hP 0 rfl rfl 9 (by decide) (hT _ t_176) (fun _ h9 => h9) rfl dX12_home_134 ?_
              refine lv_iconst (v := 4) hx hb dX12_home_137 (by decide) ?_
              refine lv_aload_n hx hb dX12_home_138 rfl (lv_at hl 1 rfl) ?_
              refine va_get (D := D) (ci := 12) (v := .int (i 0)) (C := RX12) (T := TX12) (N := 91) hx hb hT iX12 hown hK hP 0 rfl rfl 0 (by decide) (hT _ t_10) (fun _ h9 => h9) rfl dX12_home_139 ?_
              refine lv_imul hx hb dX12_home_142 ?_
              refine lv_topi (fun v_23 ev_23 => ?_)
              have hv_23 : v_23.toInt = 4 * (i 0).toInt := by rw [ev_23]; have := b_rg (i 0); exact i_mul (a := 4) (b := (i 0).toInt) rfl rfl (by omega) (by omega)
              refine lv_iload hx hb dX12_home_143 (lv_at hl 0 rfl) ?_
              refine lv_iadd hx hb dX12_home_145 ?_
              refine lv_topi (fun v_24 ev_24 => ?_)
              have hv_24 : v_24.toInt = v_23.toInt + 1 := by rw [ev_24]; have := b_rg v_23; exact i_add (a := v_23.toInt) (b := 1) rfl rfl (by omega) (by omega)
              refine lv_iconst (v := 1) hx hb dX12_home_146 (by decide) ?_
              refine va_iast hx hb hK hP hD hS 8 0 rfl rfl (vp_inI (by omega) (by omega)) dX12_home_147 (fun H locs hP hD hS => ?_)
              rw [mS8] at hP hD
              have hRr : mRr (va_up (va_up (va_up (va_up (va_up (va_up (va_up (va_up r 3 (upd (r 3) ((i 0).toNatClampNeg) p0)) 4 (upd (r 4) ((i 0).toNatClampNeg) p1)) 5 (upd (r 5) ((i 0).toNatClampNeg) p2)) 6 (upd (r 6) ((i 0).toNatClampNeg) p3)) 7 (upd (r 7) ((i 0).toNatClampNeg) p4)) 19 (upd (r 19) ((i 0).toNatClampNeg) (vp_nar .boolean p5))) 8 (upd (r 8) v_20.toNatClampNeg 1)) 8 (upd (upd (r 8) v_20.toNatClampNeg 1) v_24.toNatClampNeg 1)) := Rr_upd hRr 8 (v_24.toNatClampNeg) 1 ⟨by decide, by decide⟩
              have hEr : mEr [3, 4, 5, 6, 7, 8, 19] _ (va_up (va_up (va_up (va_up (va_up (va_up (va_up (va_up r 3 (upd (r 3) ((i 0).toNatClampNeg) p0)) 4 (upd (r 4) ((i 0).toNatClampNeg) p1)) 5 (upd (r 5) ((i 0).toNatClampNeg) p2)) 6 (upd (r 6) ((i 0).toNatClampNeg) p3)) 7 (upd (r 7) ((i 0).toNatClampNeg) p4)) 19 (upd (r 19) ((i 0).toNatClampNeg) (vp_nar .boolean p5))) 8 (upd (r 8) v_20.toNatClampNeg 1)) 8 (upd (upd (r 8) v_20.toNatClampNeg 1) v_24.toNatClampNeg 1)) := Er_up hEr 8 _ (by decide)
              obtain ⟨x_25, ex_25⟩ : ∃ y : Int32, y = (1 : Int32) + 1 := ⟨_, rfl⟩
              refine lv_iinc (v := x_25) (lv' := [(7, .int x_25), (0, .ref (a 0)), (1, .int p0), (2, .int p1), (3, .int p2), (4, .int p3), (5, .int p4), (6, .int p5)]) hx hb dX12_home_148 hl (k := 0) rfl (by rw [ex_25]; rfl) (by decide) rfl (fun ls hl => ?_)
              obtain rfl : x_25 = 2 := ex_25.trans (by decide)
              refine lv_goto (tgt := 127) hx hb dX12_home_151 (by decide) ?_
              refine lv_iload hx hb dX12_home_127 (lv_at hl 0 rfl) ?_
              refine lv_iconst (v := 4) hx hb dX12_home_129 (by decide) ?_
              refine lv_icmp_ge (tgt := 154) hx hb dX12_home_130 (by decide) (fun c_26 => absurd c_26 (by decide)) (fun c_26 => ?_)
              refine lv_aload_n hx hb dX12_home_133 rfl (lv_at hl 1 rfl) ?_
              refine va_get (D := D) (ci := 12) (v := .ref (a 8)) (C := RX12) (T := TX12) (N := 91) hx hb hT iX12 hown hK hP 0 rfl rfl 9 (by decide) (hT _ t_176) (fun _ h9 => h9) rfl dX12_home_134 ?_
              refine lv_iconst (v := 4) hx hb dX12_home_137 (by decide) ?_
              refine lv_aload_n hx hb dX12_home_138 rfl (lv_at hl 1 rfl) ?_
              refine va_get (D := D) (ci := 12) (v := .int (i 0)) (C := RX12) (T := TX12) (N := 91) hx hb hT iX12 hown hK hP 0 rfl rfl 0 (by decide) (hT _ t_10) (fun _ h9 => h9) rfl dX12_home_139 ?_
              refine lv_imul hx hb dX12_home_142 ?_
              refine lv_topi (fun v_27 ev_27 => ?_)
              have hv_27 : v_27.toInt = 4 * (i 0).toInt := by rw [ev_27]; have := b_rg (i 0); exact i_mul (a := 4) (b := (i 0).toInt) rfl rfl (by omega) (by omega)
              refine lv_iload hx hb dX12_home_143 (lv_at hl 0 rfl) ?_
              refine lv_iadd hx hb dX12_home_145 ?_
              refine lv_topi (fun v_28 ev_28 => ?_)
              have hv_28 : v_28.toInt = v_27.toInt + 2 := by rw [ev_28]; have := b_rg v_27; exact i_add (a := v_27.toInt) (b := 2) rfl rfl (by omega) (by omega)
              refine lv_iconst (v := 1) hx hb dX12_home_146 (by decide) ?_
              refine va_iast hx hb hK hP hD hS 8 0 rfl rfl (vp_inI (by omega) (by omega)) dX12_home_147 (fun H locs hP hD hS => ?_)
              rw [mS8] at hP hD
              have hRr : mRr (va_up (va_up (va_up (va_up (va_up (va_up (va_up (va_up (va_up r 3 (upd (r 3) ((i 0).toNatClampNeg) p0)) 4 (upd (r 4) ((i 0).toNatClampNeg) p1)) 5 (upd (r 5) ((i 0).toNatClampNeg) p2)) 6 (upd (r 6) ((i 0).toNatClampNeg) p3)) 7 (upd (r 7) ((i 0).toNatClampNeg) p4)) 19 (upd (r 19) ((i 0).toNatClampNeg) (vp_nar .boolean p5))) 8 (upd (r 8) v_20.toNatClampNeg 1)) 8 (upd (upd (r 8) v_20.toNatClampNeg 1) v_24.toNatClampNeg 1)) 8 (upd (upd (upd (r 8) v_20.toNatClampNeg 1) v_24.toNatClampNeg 1) v_28.toNatClampNeg 1)) := Rr_upd hRr 8 (v_28.toNatClampNeg) 1 ⟨by decide, by decide⟩
              have hEr : mEr [3, 4, 5, 6, 7, 8, 19] _ (va_up (va_up (va_up (va_up (va_up (va_up (va_up (va_up (va_up r 3 (upd (r 3) ((i 0).toNatClampNeg) p0)) 4 (upd (r 4) ((i 0).toNatClampNeg) p1)) 5 (upd (r 5) ((i 0).toNatClampNeg) p2)) 6 (upd (r 6) ((i 0).toNatClampNeg) p3)) 7 (upd (r 7) ((i 0).toNatClampNeg) p4)) 19 (upd (r 19) ((i 0).toNatClampNeg) (vp_nar .boolean p5))) 8 (upd (r 8) v_20.toNatClampNeg 1)) 8 (upd (upd (r 8) v_20.toNatClampNeg 1) v_24.toNatClampNeg 1)) 8 (upd (upd (upd (r 8) v_20.toNatClampNeg 1) v_24.toNatClampNeg 1) v_28.toNatClampNeg 1)) := Er_up hEr 8 _ (by decide)
              obtain ⟨x_29, ex_29⟩ : ∃ y : Int32, y = (2 : Int32) + 1 := ⟨_, rfl⟩
              refine lv_iinc (v := x_29) (lv' := [(7, .int x_29), (0, .ref (a 0)), (1, .int p0), (2, .int p1), (3, .int p2), (4, .int p3), (5, .int p4), (6, .int p5)]) hx hb dX12_home_148 hl (k := 0) rfl (by rw [ex_29]; rfl) (by decide) rfl (fun ls hl => ?_)
              obtain rfl : x_29 = 3 := ex_29.trans (by decide)
              refine lv_goto (tgt := 127) hx hb dX12_home_151 (by decide) ?_
              refine lv_iload hx hb dX12_home_127 (lv_at hl 0 rfl) ?_
              refine lv_iconst (v := 4) hx hb dX12_home_129 (by decide) ?_
              refine lv_icmp_ge (tgt := 154) hx hb dX12_home_130 (by decide) (fun c_30 => absurd c_30 (by decide)) (fun c_30 => ?_)
              refine lv_aload_n hx hb dX12_home_133 rfl (lv_at hl 1 rfl) ?_
              refine va_get (D := D) (ci := 12) (v := .ref (a 8)) (C := RX12) (T := TX12) (N := 91) hx hb hT iX12 hown hK hP 0 rfl rfl 9 (by decide) (hT _ t_176) (fun _ h9 => h9) rfl dX12_home_134 ?_
              refine lv_iconst (v := 4) hx hb dX12_home_137 (by decide) ?_
              refine lv_aload_n hx hb dX12_home_138 rfl (lv_at hl 1 rfl) ?_
              refine va_get (D := D) (ci := 12) (v := .int (i 0)) (C := RX12) (T := TX12) (N := 91) hx hb hT iX12 hown hK hP 0 rfl rfl 0 (by decide) (hT _ t_10) (fun _ h9 => h9) rfl dX12_home_139 ?_
              refine lv_imul hx hb dX12_home_142 ?_
              refine lv_topi (fun v_31 ev_31 => ?_)
              have hv_31 : v_31.toInt = 4 * (i 0).toInt := by rw [ev_31]; have := b_rg (i 0); exact i_mul (a := 4) (b := (i 0).toInt) rfl rfl (by omega) (by omega)
              refine lv_iload hx hb dX12_home_143 (lv_at hl 0 rfl) ?_
              refine lv_iadd hx hb dX12_home_145 ?_
              refine lv_topi (fun v_32 ev_32 => ?_)
              have hv_32 : v_32.toInt = v_31.toInt + 3 := by rw [ev_32]; have := b_rg v_31; exact i_add (a := v_31.toInt) (b := 3) rfl rfl (by omega) (by omega)
              refine lv_iconst (v := 1) hx hb dX12_home_146 (by decide) ?_
              refine va_iast hx hb hK hP hD hS 8 0 rfl rfl (vp_inI (by omega) (by omega)) dX12_home_147 (fun H locs hP hD hS => ?_)
              rw [mS8] at hP hD
              have hRr : mRr (va_up (va_up (va_up (va_up (va_up (va_up (va_up (va_up (va_up (va_up r 3 (upd (r 3) ((i 0).toNatClampNeg) p0)) 4 (upd (r 4) ((i 0).toNatClampNeg) p1)) 5 (upd (r 5) ((i 0).toNatClampNeg) p2)) 6 (upd (r 6) ((i 0).toNatClampNeg) p3)) 7 (upd (r 7) ((i 0).toNatClampNeg) p4)) 19 (upd (r 19) ((i 0).toNatClampNeg) (vp_nar .boolean p5))) 8 (upd (r 8) v_20.toNatClampNeg 1)) 8 (upd (upd (r 8) v_20.toNatClampNeg 1) v_24.toNatClampNeg 1)) 8 (upd (upd (upd (r 8) v_20.toNatClampNeg 1) v_24.toNatClampNeg 1) v_28.toNatClampNeg 1)) 8 (upd (upd (upd (upd (r 8) v_20.toNatClampNeg 1) v_24.toNatClampNeg 1) v_28.toNatClampNeg 1) v_32.toNatClampNeg 1)) := Rr_upd hRr 8 (v_32.toNatClampNeg) 1 ⟨by decide, by decide⟩
              have hEr : mEr [3, 4, 5, 6, 7, 8, 19] _ (va_up (va_up (va_up (va_up (va_up (va_up (va_up (va_up (va_up (va_up r 3 (upd (r 3) ((i 0).toNatClampNeg) p0)) 4 (upd (r 4) ((i 0).toNatClampNeg) p1)) 5 (upd (r 5) ((i 0).toNatClampNeg) p2)) 6 (upd (r 6) ((i 0).toNatClampNeg) p3)) 7 (upd (r 7) ((i 0).toNatClampNeg) p4)) 19 (upd (r 19) ((i 0).toNatClampNeg) (vp_nar .boolean p5))) 8 (upd (r 8) v_20.toNatClampNeg 1)) 8 (upd (upd (r 8) v_20.toNatClampNeg 1) v_24.toNatClampNeg 1)) 8 (upd (upd (upd (r 8) v_20.toNatClampNeg 1) v_24.toNatClampNeg 1) v_28.toNatClampNeg 1)) 8 (upd (upd (upd (upd (r 8) v_20.toNatClampNeg 1) v_24.toNatClampNeg 1) v_28.toNatClampNeg 1) v_32.toNatClampNeg 1)) := Er_up hEr 8 _ (by decide)
              obtain ⟨x_33, ex_33⟩ : ∃ y : Int32, y = (3 : Int32) + 1 := ⟨_, rfl⟩
              refine lv_iinc (v := x_33) (lv' := [(7, .int x_33), (0, .ref (a 0)), (1, .int p0), (2, .int p1), (3, .int p2), (4, .int p3), (5, .int p4), (6, .int p5)]) hx hb dX12_home_148 hl (k := 0) rfl (by rw [ex_33]; rfl) (by decide) rfl (fun ls hl => ?_)
              obtain rfl : x_33 = 4 := ex_33.trans (by decide)
              refine lv_goto (tgt := 127) hx hb dX12_home_151 (by decide) ?_
              refine lv_iload hx hb dX12_home_127 (lv_at hl 0 rfl) ?_
              refine lv_iconst (v := 4) hx hb dX12_home_129 (by decide) ?_
              refine lv_icmp_ge (tgt := 154) hx hb dX12_home_130 (by decide) (fun c_34 => ?_) (fun c_34 => absurd (by decide) c_34)
              refine lv_aload_n hx hb dX12_home_154 rfl (lv_at hl 1 rfl) ?_
              refine lv_aload_n hx hb dX12_home_155 rfl (lv_at hl 1 rfl) ?_
              refine va_get (D := D) (ci := 12) (v := .int (i 0)) (C := RX12) (T := TX12) (N := 91) hx hb hT iX12 hown hK hP 0 rfl rfl 0 (by decide) (hT _ t_10) (fun _ h9 => h9) rfl dX12_home_156 ?_
              refine lv_iconst (v := 1) hx hb dX12_home_159 (by decide) ?_
              refine lv_iadd hx hb dX12_home_160 ?_
              refine lv_topi (fun v_35 ev_35 => ?_)
              have hv_35 : v_35.toInt = (i 0).toInt + 1 := by rw [ev_35]; have := b_rg (i 0); exact i_add (a := (i 0).toInt) (b := 1) rfl rfl (by omega) (by omega)
              refine va_put (D := D) (ci := 12) (v := .int v_35) (ty := .int) (C := RX12) (T := TX12) (N := 91) hx hb hT iX12 tyX12 tyX12_ok nmX12 hown hK hP hD hS 0 rfl rfl 0 (by decide) (hT _ t_10) (fun _ h9 => h9) rfl (by decide +kernel) rfl rfl (Nat.le_of_ble_eq_true rfl) dX12_home_161 (fun H locs hP hD hS => ?_)
              rw [mP0] at hP hD
              have hRi := Ri_upd hRi 0 v_35 ⟨by show (0 : Int) ≤ v_35.toInt; omega, by show v_35.toInt ≤ (6 : Int); omega⟩
              have hEi := Ei_upd hEi 0 v_35 (by decide)
              refine lv_aload_n hx hb dX12_home_164 rfl (lv_at hl 1 rfl) ?_
              refine va_get (D := D) (ci := 12) (v := .int v_35) (C := RX12) (T := TX12) (N := 91) hx hb hT iX12 hown hK hP 0 rfl rfl 0 (by decide) (hT _ t_10) (fun _ h9 => h9) rfl dX12_home_165 ?_
              refine lv_iconst (v := 1) hx hb dX12_home_168 (by decide) ?_
              refine lv_isub hx hb dX12_home_169 ?_
              refine lv_topi (fun v_36 ev_36 => ?_)
              have hv_36 : v_36.toInt = v_35.toInt - 1 := by rw [ev_36]; have := b_rg v_35; exact i_sub (a := v_35.toInt) (b := 1) rfl rfl (by omega) (by omega)
              subst hQ
              obtain ⟨nn, hnn⟩ : ∃ nn : Nat, (nn : Int) = (i 0).toInt := ⟨(i 0).toInt.toNat, by omega⟩
              have hix : (i 0).toNatClampNeg = nn := by have h9 : (i 0).toNatClampNeg = (i 0).toInt.toNat := rfl; omega
              have h5 : (va_up (va_up (va_up (va_up (va_up (va_up (va_up (va_up (va_up (va_up r 3 (upd (r 3) ((i 0).toNatClampNeg) p0)) 4 (upd (r 4) ((i 0).toNatClampNeg) p1)) 5 (upd (r 5) ((i 0).toNatClampNeg) p2)) 6 (upd (r 6) ((i 0).toNatClampNeg) p3)) 7 (upd (r 7) ((i 0).toNatClampNeg) p4)) 19 (upd (r 19) ((i 0).toNatClampNeg) (vp_nar .boolean p5))) 8 (upd (r 8) v_20.toNatClampNeg 1)) 8 (upd (upd (r 8) v_20.toNatClampNeg 1) v_24.toNatClampNeg 1)) 8 (upd (upd (upd (r 8) v_20.toNatClampNeg 1) v_24.toNatClampNeg 1) v_28.toNatClampNeg 1)) 8 (upd (upd (upd (upd (r 8) v_20.toNatClampNeg 1) v_24.toNatClampNeg 1) v_28.toNatClampNeg 1) v_32.toNatClampNeg 1)) 4 = upd (r 4) nn p1 := by rw [← hix]; rfl
              have hic : (i 0).toNatClampNeg = (i 0).toInt.toNat := rfl
              have hu0 : v_20.toNatClampNeg = 4 * (i 0).toNatClampNeg := by show v_20.toInt.toNat = _; omega
              have hu1 : v_24.toNatClampNeg = 4 * (i 0).toNatClampNeg + 1 := by show v_24.toInt.toNat = _; omega
              have hu2 : v_28.toNatClampNeg = 4 * (i 0).toNatClampNeg + 2 := by show v_28.toInt.toNat = _; omega
              have hu3 : v_32.toNatClampNeg = 4 * (i 0).toNatClampNeg + 3 := by show v_32.toInt.toNat = _; omega
              exact W.iret (v := v_36) hx hb hr (fun t ht hW => ⟨⟨_, (upd i 0 v_35, va_up (va_up (va_up (va_up (va_up (va_up (va_up (va_up (va_up (va_up r 3 (upd (r 3) ((i 0).toNatClampNeg) p0)) 4 (upd (r 4) ((i 0).toNatClampNeg) p1)) 5 (upd (r 5) ((i 0).toNatClampNeg) p2)) 6 (upd (r 6) ((i 0).toNatClampNeg) p3)) 7 (upd (r 7) ((i 0).toNatClampNeg) p4)) 19 (upd (r 19) ((i 0).toNatClampNeg) (vp_nar .boolean p5))) 8 (upd (r 8) v_20.toNatClampNeg 1)) 8 (upd (upd (r 8) v_20.toNatClampNeg 1) v_24.toNatClampNeg 1)) 8 (upd (upd (upd (r 8) v_20.toNatClampNeg 1) v_24.toNatClampNeg 1) v_28.toNatClampNeg 1)) 8 (upd (upd (upd (upd (r 8) v_20.toNatClampNeg 1) v_24.toNatClampNeg 1) v_28.toNatClampNeg 1) v_32.toNatClampNeg 1)), rfl, ⟨hRi, hRr, hEi, hEr, ⟨mE_home hE nn p1 (by omega) (by show v_35.toInt = _; omega) (by omega) rfl rfl rfl h5 rfl rfl rfl rfl rfl rfl rfl rfl rfl rfl rfl, ⟨fun _ => ⟨by omega, by show v_35.toInt = _; omega, rfl, rfl, rfl, rfl, rfl, rfl, (upd_4 hu0 hu1 hu2 hu3).1, (upd_4 hu0 hu1 hu2 hu3).2⟩, fun h9 => absurd (by omega) h9⟩⟩⟩, by rw [ht]; exact hP, va_K.moved hW.alike hK, hD⟩, hS.F ht⟩) hS.2.2 dX12_home_170
            · have c_17 : (i 0).toInt = 6 := b_nne c_17
              refine lv_iconst (v := (-1)) hx hb dX12_home_59 (by decide) ?_
              subst hQ
              exact W.iret (v := (-1)) hx hb hr (fun t ht hW => ⟨⟨_, (i, r), rfl, ⟨hRi, hRr, hEi, hEr, ⟨hE, ⟨fun h9 => absurd h9 (by omega), fun _ => ⟨rfl, Ei_rf, Er_rf⟩⟩⟩⟩, by rw [ht]; exact hP, va_K.moved hW.alike hK, hD⟩, hS.F ht⟩) hS.2.2 dX12_home_60
          · skip
            refine lv_if_eq (tgt := 59) hx hb dX12_home_47 (by decide) (fun c_37 => ?_) (fun c_37 => absurd (by decide) c_37)
            refine lv_iconst (v := (-1)) hx hb dX12_home_59 (by decide) ?_
            subst hQ
            exact W.iret (v := (-1)) hx hb hr (fun t ht hW => ⟨⟨_, (i, r), rfl, ⟨hRi, hRr, hEi, hEr, ⟨hE, ⟨fun h9 => absurd h9 (by omega), fun _ => ⟨rfl, Ei_rf, Er_rf⟩⟩⟩⟩, by rw [ht]; exact hP, va_K.moved hW.alike hK, hD⟩, hS.F ht⟩) hS.2.2 dX12_home_60
        · skip
          refine lv_if_eq (tgt := 59) hx hb dX12_home_34 (by decide) (fun c_38 => ?_) (fun c_38 => absurd (by decide) c_38)
          refine lv_iconst (v := (-1)) hx hb dX12_home_59 (by decide) ?_
          subst hQ
          exact W.iret (v := (-1)) hx hb hr (fun t ht hW => ⟨⟨_, (i, r), rfl, ⟨hRi, hRr, hEi, hEr, ⟨hE, ⟨fun h9 => absurd h9 (by omega), fun _ => ⟨rfl, Ei_rf, Er_rf⟩⟩⟩⟩, by rw [ht]; exact hP, va_K.moved hW.alike hK, hD⟩, hS.F ht⟩) hS.2.2 dX12_home_60
      · skip
        refine lv_if_eq (tgt := 59) hx hb dX12_home_22 (by decide) (fun c_39 => ?_) (fun c_39 => absurd (by decide) c_39)
        refine lv_iconst (v := (-1)) hx hb dX12_home_59 (by decide) ?_
        subst hQ
        exact W.iret (v := (-1)) hx hb hr (fun t ht hW => ⟨⟨_, (i, r), rfl, ⟨hRi, hRr, hEi, hEr, ⟨hE, ⟨fun h9 => absurd h9 (by omega), fun _ => ⟨rfl, Ei_rf, Er_rf⟩⟩⟩⟩, by rw [ht]; exact hP, va_K.moved hW.alike hK, hD⟩, hS.F ht⟩) hS.2.2 dX12_home_60
    · skip
      refine lv_if_eq (tgt := 59) hx hb dX12_home_15 (by decide) (fun c_40 => ?_) (fun c_40 => absurd (by decide) c_40)
      refine lv_iconst (v := (-1)) hx hb dX12_home_59 (by decide) ?_
      subst hQ
      exact W.iret (v := (-1)) hx hb hr (fun t ht hW => ⟨⟨_, (i, r), rfl, ⟨hRi, hRr, hEi, hEr, ⟨hE, ⟨fun h9 => absurd h9 (by omega), fun _ => ⟨rfl, Ei_rf, Er_rf⟩⟩⟩⟩, by rw [ht]; exact hP, va_K.moved hW.alike hK, hD⟩, hS.F ht⟩) hS.2.2 dX12_home_60
  · skip
    refine lv_if_eq (tgt := 59) hx hb dX12_home_6 (by decide) (fun c_41 => ?_) (fun c_41 => absurd (by decide) c_41)
    refine lv_iconst (v := (-1)) hx hb dX12_home_59 (by decide) ?_
    subst hQ
    exact W.iret (v := (-1)) hx hb hr (fun t ht hW => ⟨⟨_, (i, r), rfl, ⟨hRi, hRr, hEi, hEr, ⟨hE, ⟨fun h9 => absurd h9 (by omega), fun _ => ⟨rfl, Ei_rf, Er_rf⟩⟩⟩⟩, by rw [ht]; exact hP, va_K.moved hW.alike hK, hD⟩, hS.F ht⟩) hS.2.2 dX12_home_60
set_option maxHeartbeats 4000000 in
set_option maxRecDepth 100000 in
theorem c_X12_first9 (l : Launch) (D : va_G) (cy : Nat → ClassId) (a : Nat → Nat) (i : Nat → Int32) (r : Nat → Nat → Int32) (rl : Nat → Int64) (p0 p1 p2 p3 p4 : Int32) (sz : Nat) (hRi : mRi i) (hRr : mRr r) (hE : mE i r) : Met l yX12_first (Cond.code yX12_first cX12_first 7 (some .int) :: gT) { frames := 3, cells := 0, slots := 0, locals := 66 } (va_Pc [.ref (a 0), .int p0, .int p1, .int p2, .int p3, .int p4] (rQ D cy (mW cy a i r rl) sz)) (va_Qi (fun (z : Int32) (u : Nat → Nat → Int32) => mRr u ∧ mEr [10, 12, 13, 14, 15] r u ∧ (mE i u ∧ ((((0 ≤ p0.toInt ∧ p0.toInt < (i 0).toInt) ∧ ((0 ≤ p1.toInt ∧ p1.toInt ≤ 9) ∧ (0 ≤ p2.toInt ∧ p2.toInt ≤ 7) ∧ (1 ≤ p3.toInt ∧ p3.toInt ≤ 9)) ∧ (0 ≤ p4.toInt ∧ p4.toInt ≤ 360) ∧ (r 10 p0.toNatClampNeg).toInt ≤ 19) → z.toInt = (r 10 p0.toNatClampNeg).toInt ∧ (∃ v : Int32, v.toInt = (r 10 p0.toNatClampNeg).toInt + 1 ∧ u 10 = upd (r 10) p0.toNatClampNeg v) ∧ u 12 = upd (r 12) (20 * p0.toNatClampNeg + (r 10 p0.toNatClampNeg).toNatClampNeg) p1 ∧ u 13 = upd (r 13) (20 * p0.toNatClampNeg + (r 10 p0.toNatClampNeg).toNatClampNeg) p2 ∧ u 14 = upd (r 14) (20 * p0.toNatClampNeg + (r 10 p0.toNatClampNeg).toNatClampNeg) p3 ∧ u 15 = upd (r 15) (20 * p0.toNatClampNeg + (r 10 p0.toNatClampNeg).toNatClampNeg) p4) ∧ (¬ ((0 ≤ p0.toInt ∧ p0.toInt < (i 0).toInt) ∧ ((0 ≤ p1.toInt ∧ p1.toInt ≤ 9) ∧ (0 ≤ p2.toInt ∧ p2.toInt ≤ 7) ∧ (1 ≤ p3.toInt ∧ p3.toInt ≤ 9)) ∧ (0 ≤ p4.toInt ∧ p4.toInt ≤ 360) ∧ (r 10 p0.toNatClampNeg).toInt ≤ 19) → z = -1 ∧ mEr [] r u)))) (fun (u : Nat → Nat → Int32) t => va_P D vwCl (mW cy a i u rl) t.heap ∧ va_K D vwCl (vT cy) t ∧ va_D (va_A (mW cy a i r rl) sz) (mW cy a i u rl)) (va_A (mW cy a i r rl) sz)) 0 0 (va_A (mW cy a i r rl) sz) := by
  refine Met.ofQ (cc := cX12_first) (maxL := 7) (ret := (some .int)) (by decide) rfl ?_
  intro p e s m args below meth c s₁ B hml hv Q hQ
  obtain ⟨rfl, hsz, hP, hK, hD0⟩ := hv
  have hx := B.exec
  have hb := B.bytes
  have hr := B.returns
  have hlocks := B.notSynchronized
  have hT : ∀ w ∈ gT, w.before _ s = true := fun w h => atoms_spec (ws := (Cond.code yX12_first cX12_first 7 (some .int) :: gT)) B.pre w (List.mem_cons_of_mem _ h)
  have hown : s.vm.findClass RX12 = some m.cls := findClass_of_methodNamed B.named
  subst hsz
  have hD := hD0.self (sz := s.heap.size)
  generalize hAe : va_A (mW cy a i r rl) s.heap.size = A at hD hQ
  have hA : ∀ q : Nat, s.heap.size ≤ q → A q := fun q h => by rw [← hAe]; exact Or.inr h
  have hS : va_S A s.heap s.heap [] := va_S.rf
  have hl := lv_entry ([.ref (a 0), .int p0, .int p1, .int p2, .int p3, .int p4]) (n := 7) (Nat.le_of_ble_eq_true rfl)
  rw [lg_entry_eq]
  generalize (lg_sl ([.ref (a 0), .int p0, .int p1, .int p2, .int p3, .int p4]) ++ List.replicate (7 - (lg_sl ([.ref (a 0), .int p0, .int p1, .int p2, .int p3, .int p4])).length) Slot.unset).toArray = ls at hl ⊢
  have hl : lv_has ls 7 [(0, .ref (a 0)), (1, .int p0), (2, .int p1), (3, .int p2), (4, .int p3), (5, .int p4)] := hl
  have hEi : mEi [] i i := Ei_rf
  have hEr : mEr [10, 12, 13, 14, 15] r r := Er_rf
  have hRr0 := hRr
  refine lv_aload_n hx hb dX12_first_0 rfl (lv_at hl 0 rfl) ?_
  refine lv_iload_n hx hb dX12_first_1 rfl (lv_at hl 1 rfl) ?_
  refine vp_callSi (W.runV (As := [.int p0]) (rest := []) ⟨hx, hb, hml, hown, hT⟩ (c_X12_isHome l D cy a i r rl p0 hRi hRr) (cwV 1 hT (gV t_12 t_13 t_14 t_15 t_6) rfl rfl rfl (by decide +kernel) ⟨Nat.le_of_ble_eq_true rfl, Nat.le_of_ble_eq_true rfl⟩) (rP_v hP hK (va_recv hK hP (ci := 12) (q0 := 0) rfl rfl)) rfl rfl hl.1 rfl (lv_room (Nat.le_of_ble_eq_true rfl)) dX12_first_2 ⟨Nat.le_of_ble_eq_true rfl, Nat.le_of_ble_eq_true rfl⟩) (fun r_1 hr_1 => ?_)
  have hg_2 : 0 ≤ (i 0).toInt ∧ (i 0).toInt ≤ 6 := hRi 0
  have hr_1 : BR r_1 (0 ≤ p0.toInt ∧ p0.toInt < (i 0).toInt) 1 0 := hr_1
  rcases hr_1 with ⟨rfl, h_3⟩ | ⟨rfl, h_3⟩
  · skip
    refine lv_if_eq (tgt := 41) hx hb dX12_first_5 (by decide) (fun c_4 => absurd c_4 (by decide)) (fun c_4 => ?_)
    refine lv_iload_n hx hb dX12_first_8 rfl (lv_at hl 2 rfl) ?_
    refine lv_iload_n hx hb dX12_first_9 rfl (lv_at hl 3 rfl) ?_
    refine lv_iload hx hb dX12_first_10 (lv_at hl 4 rfl) ?_
    refine vp_callSi (W.runS (As := [.int p1, .int p2, .int p3]) (rest := []) ⟨hx, hb, hml, hown, hT⟩ (c_X12_isThing l p1 p2 p3) (va_cwS 3 hT (gS t_182 t_183 t_184 t_6) rfl rfl rfl (by decide +kernel) ⟨Nat.le_of_ble_eq_true rfl, Nat.le_of_ble_eq_true rfl⟩) preT rfl rfl hl.1 rfl (lv_room (Nat.le_of_ble_eq_true rfl)) dX12_first_12 ⟨Nat.le_of_ble_eq_true rfl, Nat.le_of_ble_eq_true rfl⟩) (fun r_5 hr_5 => ?_)
    have hr_5 : BR r_5 ((0 ≤ p1.toInt ∧ p1.toInt ≤ 9) ∧ (0 ≤ p2.toInt ∧ p2.toInt ≤ 7) ∧ (1 ≤ p3.toInt ∧ p3.toInt ≤ 9)) 1 0 := hr_5
    rcases hr_5 with ⟨rfl, h_6⟩ | ⟨rfl, h_6⟩
    · skip
      refine lv_if_eq (tgt := 41) hx hb dX12_first_15 (by decide) (fun c_7 => absurd c_7 (by decide)) (fun c_7 => ?_)
      refine lv_iload hx hb dX12_first_18 (lv_at hl 5 rfl) ?_
      refine lv_iconst (v := 0) hx hb dX12_first_20 (by decide) ?_
      refine lv_sipush (v := 360) hx hb dX12_first_21 (by decide) ?_
      refine vp_callSi (W.runS (As := [.int p4, .int 0, .int 360]) (rest := []) ⟨hx, hb, hml, hown, hT⟩ (c_X12_in l p4 0 360) (va_cwS 3 hT (gS t_113 t_114 t_115 t_6) rfl rfl rfl (by decide +kernel) ⟨Nat.le_of_ble_eq_true rfl, Nat.le_of_ble_eq_true rfl⟩) preT rfl rfl hl.1 rfl (lv_room (Nat.le_of_ble_eq_true rfl)) dX12_first_24 ⟨Nat.le_of_ble_eq_true rfl, Nat.le_of_ble_eq_true rfl⟩) (fun r_8 hr_8 => ?_)
      have hr_8 : BR r_8 (0 ≤ p4.toInt ∧ p4.toInt ≤ 360) 1 0 := hr_8
      rcases hr_8 with ⟨rfl, h_9⟩ | ⟨rfl, h_9⟩
      · skip
        refine lv_if_eq (tgt := 41) hx hb dX12_first_27 (by decide) (fun c_10 => absurd c_10 (by decide)) (fun c_10 => ?_)
        refine lv_aload_n hx hb dX12_first_30 rfl (lv_at hl 0 rfl) ?_
        refine va_get (D := D) (ci := 12) (v := .ref (a 10)) (C := RX12) (T := TX12) (N := 91) hx hb hT iX12 hown hK hP 0 rfl rfl 11 (by decide) (hT _ t_16) (fun _ h9 => h9) rfl dX12_first_31 ?_
        refine lv_iload_n hx hb dX12_first_34 rfl (lv_at hl 1 rfl) ?_
        refine va_iald hx hb hK hP 10 0 rfl rfl (vp_inI (by omega) (by omega)) dX12_first_35 ?_
        refine lv_topi (fun v_11 ev_11 => ?_)
        have hgv_11 : 0 ≤ v_11.toInt ∧ v_11.toInt ≤ 20 := by rw [ev_11]; exact hRr 10 _
        have hwv_11 : v_11.toInt = (r 10 (p0.toNatClampNeg)).toInt := congrArg Int32.toInt ev_11
        refine lv_bipush (v := 20) hx hb dX12_first_36 (by decide) ?_
        refine lv_icmp_ne (tgt := 43) hx hb dX12_first_38 (by decide) (fun c_12 => ?_) (fun c_12 => ?_)
        · have c_12 : v_11.toInt ≠ 20 := b_ne c_12
          refine lv_bipush (v := 20) hx hb dX12_first_43 (by decide) ?_
          refine lv_iload_n hx hb dX12_first_45 rfl (lv_at hl 1 rfl) ?_
          refine lv_imul hx hb dX12_first_46 ?_
          refine lv_topi (fun v_13 ev_13 => ?_)
          have hv_13 : v_13.toInt = 20 * p0.toInt := by rw [ev_13]; have := b_rg p0; exact i_mul (a := 20) (b := p0.toInt) rfl rfl (by omega) (by omega)
          refine lv_aload_n hx hb dX12_first_47 rfl (lv_at hl 0 rfl) ?_
          refine va_get (D := D) (ci := 12) (v := .ref (a 10)) (C := RX12) (T := TX12) (N := 91) hx hb hT iX12 hown hK hP 0 rfl rfl 11 (by decide) (hT _ t_16) (fun _ h9 => h9) rfl dX12_first_48 ?_
          refine lv_iload_n hx hb dX12_first_51 rfl (lv_at hl 1 rfl) ?_
          refine va_iald hx hb hK hP 10 0 rfl rfl (vp_inI (by omega) (by omega)) dX12_first_52 ?_
          refine lv_topi (fun v_14 ev_14 => ?_)
          have hgv_14 : 0 ≤ v_14.toInt ∧ v_14.toInt ≤ 20 := by rw [ev_14]; exact hRr 10 _
          have hwv_14 : v_14.toInt = (r 10 (p0.toNatClampNeg)).toInt := congrArg Int32.toInt ev_14
          refine lv_iadd hx hb dX12_first_53 ?_
          refine lv_topi (fun v_15 ev_15 => ?_)
          have hv_15 : v_15.toInt = v_13.toInt + v_14.toInt := by rw [ev_15]; have := b_rg v_13; have := b_rg v_14; exact i_add (a := v_13.toInt) (b := v_14.toInt) rfl rfl (by omega) (by omega)
          refine lv_istore (lv' := [(6, .int v_15), (0, .ref (a 0)), (1, .int p0), (2, .int p1), (3, .int p2), (4, .int p3), (5, .int p4)]) hx hb dX12_first_54 hl (by decide) rfl (fun ls hl => ?_)
          refine lv_aload_n hx hb dX12_first_56 rfl (lv_at hl 1 rfl) ?_
          refine va_get (D := D) (ci := 12) (v := .ref (a 12)) (C := RX12) (T := TX12) (N := 91) hx hb hT iX12 hown hK hP 0 rfl rfl 13 (by decide) (hT _ t_30) (fun _ h9 => h9) rfl dX12_first_57 ?_
          refine lv_iload hx hb dX12_first_60 (lv_at hl 0 rfl) ?_
          refine lv_iload_n hx hb dX12_first_62 rfl (lv_at hl 3 rfl) ?_
          refine va_iast hx hb hK hP hD hS 12 0 rfl rfl (vp_inI (by omega) (by omega)) dX12_first_63 (fun H locs hP hD hS => ?_)
          rw [mS12] at hP hD
          have hRr : mRr (va_up r 12 (upd (r 12) v_15.toNatClampNeg p1)) := Rr_upd hRr 12 (v_15.toNatClampNeg) p1 ⟨by show (0 : Int) ≤ p1.toInt; omega, by show p1.toInt ≤ (9 : Int); omega⟩
          have hEr : mEr [10, 12, 13, 14, 15] _ (va_up r 12 (upd (r 12) v_15.toNatClampNeg p1)) := Er_up hEr 12 _ (by decide)
          refine lv_aload_n hx hb dX12_first_64 rfl (lv_at hl 1 rfl) ?_
          refine va_get (D := D) (ci := 12) (v := .ref (a 13)) (C := RX12) (T := TX12) (N := 91) hx hb hT iX12 hown hK hP 0 rfl rfl 14 (by decide) (hT _ t_24) (fun _ h9 => h9) rfl dX12_first_65 ?_
          refine lv_iload hx hb dX12_first_68 (lv_at hl 0 rfl) ?_
          refine lv_iload_n hx hb dX12_first_70 rfl (lv_at hl 4 rfl) ?_
          refine va_iast hx hb hK hP hD hS 13 0 rfl rfl (vp_inI (by omega) (by omega)) dX12_first_71 (fun H locs hP hD hS => ?_)
          rw [mS13] at hP hD
          have hRr : mRr (va_up (va_up r 12 (upd (r 12) v_15.toNatClampNeg p1)) 13 (upd (r 13) v_15.toNatClampNeg p2)) := Rr_upd hRr 13 (v_15.toNatClampNeg) p2 ⟨by show (0 : Int) ≤ p2.toInt; omega, by show p2.toInt ≤ (7 : Int); omega⟩
          have hEr : mEr [10, 12, 13, 14, 15] _ (va_up (va_up r 12 (upd (r 12) v_15.toNatClampNeg p1)) 13 (upd (r 13) v_15.toNatClampNeg p2)) := Er_up hEr 13 _ (by decide)
          refine lv_aload_n hx hb dX12_first_72 rfl (lv_at hl 1 rfl) ?_
          refine va_get (D := D) (ci := 12) (v := .ref (a 14)) (C := RX12) (T := TX12) (N := 91) hx hb hT iX12 hown hK hP 0 rfl rfl 15 (by decide) (hT _ t_38) (fun _ h9 => h9) rfl dX12_first_73 ?_
          refine lv_iload hx hb dX12_first_76 (lv_at hl 0 rfl) ?_
          refine lv_iload hx hb dX12_first_78 (lv_at hl 5 rfl) ?_
          refine va_iast hx hb hK hP hD hS 14 0 rfl rfl (vp_inI (by omega) (by omega)) dX12_first_80 (fun H locs hP hD hS => ?_)
          rw [mS14] at hP hD
          have hRr : mRr (va_up (va_up (va_up r 12 (upd (r 12) v_15.toNatClampNeg p1)) 13 (upd (r 13) v_15.toNatClampNeg p2)) 14 (upd (r 14) v_15.toNatClampNeg p3)) := Rr_upd hRr 14 (v_15.toNatClampNeg) p3 ⟨by show (0 : Int) ≤ p3.toInt; omega, by show p3.toInt ≤ (9 : Int); omega⟩
          have hEr : mEr [10, 12, 13, 14, 15] _ (va_up (va_up (va_up r 12 (upd (r 12) v_15.toNatClampNeg p1)) 13 (upd (r 13) v_15.toNatClampNeg p2)) 14 (upd (r 14) v_15.toNatClampNeg p3)) := Er_up hEr 14 _ (by decide)
          refine lv_aload_n hx hb dX12_first_81 rfl (lv_at hl 1 rfl) ?_
          refine va_get (D := D) (ci := 12) (v := .ref (a 15)) (C := RX12) (T := TX12) (N := 91) hx hb hT iX12 hown hK hP 0 rfl rfl 16 (by decide) (hT _ t_19) (fun _ h9 => h9) rfl dX12_first_82 ?_
          refine lv_iload hx hb dX12_first_85 (lv_at hl 0 rfl) ?_
          refine lv_iload hx hb dX12_first_87 (lv_at hl 6 rfl) ?_
          refine va_iast hx hb hK hP hD hS 15 0 rfl rfl (vp_inI (by omega) (by omega)) dX12_first_89 (fun H locs hP hD hS => ?_)
          rw [mS15] at hP hD
          have hRr : mRr (va_up (va_up (va_up (va_up r 12 (upd (r 12) v_15.toNatClampNeg p1)) 13 (upd (r 13) v_15.toNatClampNeg p2)) 14 (upd (r 14) v_15.toNatClampNeg p3)) 15 (upd (r 15) v_15.toNatClampNeg p4)) := Rr_upd hRr 15 (v_15.toNatClampNeg) p4 ⟨by show (0 : Int) ≤ p4.toInt; omega, by show p4.toInt ≤ (360 : Int); omega⟩
          have hEr : mEr [10, 12, 13, 14, 15] _ (va_up (va_up (va_up (va_up r 12 (upd (r 12) v_15.toNatClampNeg p1)) 13 (upd (r 13) v_15.toNatClampNeg p2)) 14 (upd (r 14) v_15.toNatClampNeg p3)) 15 (upd (r 15) v_15.toNatClampNeg p4)) := Er_up hEr 15 _ (by decide)
          refine lv_aload_n hx hb dX12_first_90 rfl (lv_at hl 1 rfl) ?_
          refine va_get (D := D) (ci := 12) (v := .ref (a 10)) (C := RX12) (T := TX12) (N := 91) hx hb hT iX12 hown hK hP 0 rfl rfl 11 (by decide) (hT _ t_16) (fun _ h9 => h9) rfl dX12_first_91 ?_
          refine lv_iload_n hx hb dX12_first_94 rfl (lv_at hl 2 rfl) ?_
          refine lv_aload_n hx hb dX12_first_95 rfl (lv_at hl 1 rfl) ?_
          refine va_get (D := D) (ci := 12) (v := .ref (a 10)) (C := RX12) (T := TX12) (N := 91) hx hb hT iX12 hown hK hP 0 rfl rfl 11 (by decide) (hT _ t_16) (fun _ h9 => h9) rfl dX12_first_96 ?_
          refine lv_iload_n hx hb dX12_first_99 rfl (lv_at hl 2 rfl) ?_
          refine va_iald hx hb hK hP 10 0 rfl rfl (vp_inI (by omega) (by omega)) dX12_first_100 ?_
          refine lv_topi (fun v_16 ev_16 => ?_)
          have hgv_16 : 0 ≤ v_16.toInt ∧ v_16.toInt ≤ 20 := by rw [ev_16]; exact hRr 10 _
          have hwv_16 : v_16.toInt = (r 10 (p0.toNatClampNeg)).toInt := congrArg Int32.toInt ev_16
          refine lv_iconst (v := 1) hx hb dX12_first_101 (by decide) ?_
          refine lv_iadd hx hb dX12_first_102 ?_
          refine lv_topi (fun v_17 ev_17 => ?_)
          have hv_17 : v_17.toInt = v_16.toInt + 1 := by rw [ev_17]; have := b_rg v_16; exact i_add (a := v_16.toInt) (b := 1) rfl rfl (by omega) (by omega)
          refine va_iast hx hb hK hP hD hS 10 0 rfl rfl (vp_inI (by omega) (by omega)) dX12_first_103 (fun H locs hP hD hS => ?_)
          rw [mS10] at hP hD
          have hRr : mRr (va_up (va_up (va_up (va_up (va_up r 12 (upd (r 12) v_15.toNatClampNeg p1)) 13 (upd (r 13) v_15.toNatClampNeg p2)) 14 (upd (r 14) v_15.toNatClampNeg p3)) 15 (upd (r 15) v_15.toNatClampNeg p4)) 10 (upd (r 10) p0.toNatClampNeg v_17)) := Rr_upd hRr 10 (p0.toNatClampNeg) v_17 ⟨by show (0 : Int) ≤ v_17.toInt; omega, by show v_17.toInt ≤ (20 : Int); omega⟩
          have hEr : mEr [10, 12, 13, 14, 15] _ (va_up (va_up (va_up (va_up (va_up r 12 (upd (r 12) v_15.toNatClampNeg p1)) 13 (upd (r 13) v_15.toNatClampNeg p2)) 14 (upd (r 14) v_15.toNatClampNeg p3)) 15 (upd (r 15) v_15.toNatClampNeg p4)) 10 (upd (r 10) p0.toNatClampNeg v_17)) := Er_up hEr 10 _ (by decide)
          refine lv_aload_n hx hb dX12_first_104 rfl (lv_at hl 1 rfl) ?_
          refine va_get (D := D) (ci := 12) (v := .ref (a 10)) (C := RX12) (T := TX12) (N := 91) hx hb hT iX12 hown hK hP 0 rfl rfl 11 (by decide) (hT _ t_16) (fun _ h9 => h9) rfl dX12_first_105 ?_
          refine lv_iload_n hx hb dX12_first_108 rfl (lv_at hl 2 rfl) ?_
          refine va_iald hx hb hK hP 10 0 rfl rfl (vp_inI (by omega) (by omega)) dX12_first_109 ?_
          refine lv_topi (fun v_18 ev_18 => ?_)
          have hgv_18 : 0 ≤ v_18.toInt ∧ v_18.toInt ≤ 20 := by rw [ev_18]; exact hRr 10 _
          have hwv_18 : v_18.toInt = (upd (r 10) p0.toNatClampNeg v_17 (p0.toNatClampNeg)).toInt := congrArg Int32.toInt ev_18
          rw [upd_s] at hwv_18
          refine lv_iconst (v := 1) hx hb dX12_first_110 (by decide) ?_
          refine lv_isub hx hb dX12_first_111 ?_
          refine lv_topi (fun v_19 ev_19 => ?_)
          have hv_19 : v_19.toInt = v_18.toInt - 1 := by rw [ev_19]; have := b_rg v_18; exact i_sub (a := v_18.toInt) (b := 1) rfl rfl (by omega) (by omega)
          subst hQ
          obtain ⟨nn, hnn⟩ : ∃ nn : Nat, (nn : Int) = v_14.toInt := ⟨v_14.toInt.toNat, by omega⟩
          have hix : v_15.toNatClampNeg = 20 * p0.toNatClampNeg + nn := by have h9_p0 : p0.toNatClampNeg = p0.toInt.toNat := rfl; have h9_v_15 : v_15.toNatClampNeg = v_15.toInt.toNat := rfl; omega
          have h15 : (va_up (va_up (va_up (va_up (va_up r 12 (upd (r 12) v_15.toNatClampNeg p1)) 13 (upd (r 13) v_15.toNatClampNeg p2)) 14 (upd (r 14) v_15.toNatClampNeg p3)) 15 (upd (r 15) v_15.toNatClampNeg p4)) 10 (upd (r 10) p0.toNatClampNeg v_17)) 14 = upd (r 14) (20 * p0.toNatClampNeg + nn) p3 := by rw [← hix]; rfl
          have hi9 : v_15.toNatClampNeg = 20 * p0.toNatClampNeg + (r 10 p0.toNatClampNeg).toNatClampNeg := by have h9 : (r 10 p0.toNatClampNeg).toNatClampNeg = (r 10 p0.toNatClampNeg).toInt.toNat := rfl; have h9_p0 : p0.toNatClampNeg = p0.toInt.toNat := rfl; have h9_v_15 : v_15.toNatClampNeg = v_15.toInt.toNat := rfl; omega
          exact W.iret (v := v_19) hx hb hr (fun t ht hW => ⟨⟨_, (va_up (va_up (va_up (va_up (va_up r 12 (upd (r 12) v_15.toNatClampNeg p1)) 13 (upd (r 13) v_15.toNatClampNeg p2)) 14 (upd (r 14) v_15.toNatClampNeg p3)) 15 (upd (r 15) v_15.toNatClampNeg p4)) 10 (upd (r 10) p0.toNatClampNeg v_17)), rfl, ⟨hRr, hEr, ⟨mE_first hE hRr0 p0.toNatClampNeg nn p3 v_17 (by have h9_p0 : p0.toNatClampNeg = p0.toInt.toNat := rfl; omega) (by omega) (by omega) (by omega) (by omega) h15 rfl rfl rfl rfl rfl rfl rfl rfl rfl rfl rfl, ⟨fun _ => ⟨by omega, ⟨v_17, by omega, rfl⟩, by rw [← hi9]; rfl, by rw [← hi9]; rfl, by rw [← hi9]; rfl, by rw [← hi9]; rfl⟩, fun h9 => absurd (by omega) h9⟩⟩⟩, by rw [ht]; exact hP, va_K.moved hW.alike hK, hD⟩, hS.F ht⟩) hS.2.2 dX12_first_112
        · have c_12 : v_11.toInt = 20 := b_nne c_12
          refine lv_iconst (v := (-1)) hx hb dX12_first_41 (by decide) ?_
          subst hQ
          exact W.iret (v := (-1)) hx hb hr (fun t ht hW => ⟨⟨_, r, rfl, ⟨hRr, hEr, ⟨hE, ⟨fun h9 => absurd h9 (by omega), fun _ => ⟨rfl, Er_rf⟩⟩⟩⟩, by rw [ht]; exact hP, va_K.moved hW.alike hK, hD⟩, hS.F ht⟩) hS.2.2 dX12_first_42
      · skip
        refine lv_if_eq (tgt := 41) hx hb dX12_first_27 (by decide) (fun c_20 => ?_) (fun c_20 => absurd (by decide) c_20)
        refine lv_iconst (v := (-1)) hx hb dX12_first_41 (by decide) ?_
        subst hQ
        exact W.iret (v := (-1)) hx hb hr (fun t ht hW => ⟨⟨_, r, rfl, ⟨hRr, hEr, ⟨hE, ⟨fun h9 => absurd h9 (by omega), fun _ => ⟨rfl, Er_rf⟩⟩⟩⟩, by rw [ht]; exact hP, va_K.moved hW.alike hK, hD⟩, hS.F ht⟩) hS.2.2 dX12_first_42
    · skip
      refine lv_if_eq (tgt := 41) hx hb dX12_first_15 (by decide) (fun c_21 => ?_) (fun c_21 => absurd (by decide) c_21)
      refine lv_iconst (v := (-1)) hx hb dX12_first_41 (by decide) ?_
      subst hQ
      exact W.iret (v := (-1)) hx hb hr (fun t ht hW => ⟨⟨_, r, rfl, ⟨hRr, hEr, ⟨hE, ⟨fun h9 => absurd h9 (by omega), fun _ => ⟨rfl, Er_rf⟩⟩⟩⟩, by rw [ht]; exact hP, va_K.moved hW.alike hK, hD⟩, hS.F ht⟩) hS.2.2 dX12_first_42
  · skip
    refine lv_if_eq (tgt := 41) hx hb dX12_first_5 (by decide) (fun c_22 => ?_) (fun c_22 => absurd (by decide) c_22)
    refine lv_iconst (v := (-1)) hx hb dX12_first_41 (by decide) ?_
    subst hQ
    exact W.iret (v := (-1)) hx hb hr (fun t ht hW => ⟨⟨_, r, rfl, ⟨hRr, hEr, ⟨hE, ⟨fun h9 => absurd h9 (by omega), fun _ => ⟨rfl, Er_rf⟩⟩⟩⟩, by rw [ht]; exact hP, va_K.moved hW.alike hK, hD⟩, hS.F ht⟩) hS.2.2 dX12_first_42
set_option maxHeartbeats 4000000 in
set_option maxRecDepth 100000 in
theorem c_X11_life9 (l : Launch) (D : va_G) (cy : Nat → ClassId) (a : Nat → Nat) (i : Nat → Int32) (r : Nat → Nat → Int32) (q : Nat → Option Nat) (tl : va_W) (p0 p1 : Int32) (sz : Nat) (hRi : yRi i) (hRr : yRr r) : Met l yX11_life (Cond.code yX11_life cX11_life 3 (some .boolean) :: gT) { frames := 2, cells := 0, slots := 0, locals := 46 } (va_Pc [.ref (a 0), .int p0, .int p1] (rQ D cy (xW cy a i r q (a 20) (a 12) ++ tl) sz)) (va_Qi (fun (z : Int32) (u : Nat → Nat → Int32) => yRr u ∧ mEr [2] r u ∧ (BR z ((0 ≤ p0.toInt ∧ p0.toInt ≤ 7) ∧ (1 ≤ p1.toInt ∧ p1.toInt ≤ 360)) 1 0 ∧ (((0 ≤ p0.toInt ∧ p0.toInt ≤ 7) ∧ (1 ≤ p1.toInt ∧ p1.toInt ≤ 360)) → u 2 = upd (r 2) p0.toNatClampNeg p1) ∧ (¬ ((0 ≤ p0.toInt ∧ p0.toInt ≤ 7) ∧ (1 ≤ p1.toInt ∧ p1.toInt ≤ 360)) → mEr [] r u))) (fun (u : Nat → Nat → Int32) t => va_P D vwCl (xW cy a i u q (a 20) (a 12) ++ tl) t.heap ∧ va_K D vwCl (vT cy) t ∧ va_D (va_A (xW cy a i r q (a 20) (a 12) ++ tl) sz) (xW cy a i u q (a 20) (a 12) ++ tl)) (va_A (xW cy a i r q (a 20) (a 12) ++ tl) sz)) 0 0 (va_A (xW cy a i r q (a 20) (a 12) ++ tl) sz) := by
  refine Met.ofQ (cc := cX11_life) (maxL := 3) (ret := (some .boolean)) (by decide) rfl ?_
  intro p e s m args below meth c s₁ B hml hv Q hQ
  obtain ⟨rfl, hsz, hP, hK, hD0⟩ := hv
  have hx := B.exec
  have hb := B.bytes
  have hr := B.returns
  have hlocks := B.notSynchronized
  have hT : ∀ w ∈ gT, w.before _ s = true := fun w h => atoms_spec (ws := (Cond.code yX11_life cX11_life 3 (some .boolean) :: gT)) B.pre w (List.mem_cons_of_mem _ h)
  have hown : s.vm.findClass RX11 = some m.cls := findClass_of_methodNamed B.named
  subst hsz
  have hD := hD0.self (sz := s.heap.size)
  generalize hAe : va_A (xW cy a i r q (a 20) (a 12) ++ tl) s.heap.size = A at hD hQ
  have hA : ∀ q : Nat, s.heap.size ≤ q → A q := fun q h => by rw [← hAe]; exact Or.inr h
  have hS : va_S A s.heap s.heap [] := va_S.rf
  have hl := lv_entry ([.ref (a 0), .int p0, .int p1]) (n := 3) (Nat.le_of_ble_eq_true rfl)
  rw [lg_entry_eq]
  generalize (lg_sl ([.ref (a 0), .int p0, .int p1]) ++ List.replicate (3 - (lg_sl ([.ref (a 0), .int p0, .int p1])).length) Slot.unset).toArray = ls at hl ⊢
  have hl : lv_has ls 3 [(0, .ref (a 0)), (1, .int p0), (2, .int p1)] := hl
  have hEi : mEi [] i i := Ei_rf
  have hEr : mEr [2] r r := Er_rf
  refine lv_iload_n hx hb dX11_life_0 rfl (lv_at hl 1 rfl) ?_
  refine lv_iconst (v := 0) hx hb dX11_life_1 (by decide) ?_
  refine lv_bipush (v := 7) hx hb dX11_life_2 (by decide) ?_
  refine vp_callSi (W.runS (As := [.int p0, .int 0, .int 7]) (rest := []) ⟨hx, hb, hml, hown, hT⟩ (c_X11_within l p0 0 7) (va_cwS 3 hT (gS t_1 t_3 t_4 t_2) rfl rfl rfl (by decide +kernel) ⟨Nat.le_of_ble_eq_true rfl, Nat.le_of_ble_eq_true rfl⟩) preT rfl rfl hl.1 rfl (lv_room (Nat.le_of_ble_eq_true rfl)) dX11_life_4 ⟨Nat.le_of_ble_eq_true rfl, Nat.le_of_ble_eq_true rfl⟩) (fun r_1 hr_1 => ?_)
  have hr_1 : BR r_1 (0 ≤ p0.toInt ∧ p0.toInt ≤ 7) 1 0 := hr_1
  rcases hr_1 with ⟨rfl, h_2⟩ | ⟨rfl, h_2⟩
  · skip
    refine lv_if_eq (tgt := 21) hx hb dX11_life_7 (by decide) (fun c_3 => absurd c_3 (by decide)) (fun c_3 => ?_)
    refine lv_iload_n hx hb dX11_life_10 rfl (lv_at hl 2 rfl) ?_
    refine lv_iconst (v := 1) hx hb dX11_life_11 (by decide) ?_
    refine lv_sipush (v := 360) hx hb dX11_life_12 (by decide) ?_
    refine vp_callSi (W.runS (As := [.int p1, .int 1, .int 360]) (rest := []) ⟨hx, hb, hml, hown, hT⟩ (c_X11_within l p1 1 360) (va_cwS 3 hT (gS t_1 t_3 t_4 t_2) rfl rfl rfl (by decide +kernel) ⟨Nat.le_of_ble_eq_true rfl, Nat.le_of_ble_eq_true rfl⟩) preT rfl rfl hl.1 rfl (lv_room (Nat.le_of_ble_eq_true rfl)) dX11_life_15 ⟨Nat.le_of_ble_eq_true rfl, Nat.le_of_ble_eq_true rfl⟩) (fun r_4 hr_4 => ?_)
    have hr_4 : BR r_4 (1 ≤ p1.toInt ∧ p1.toInt ≤ 360) 1 0 := hr_4
    rcases hr_4 with ⟨rfl, h_5⟩ | ⟨rfl, h_5⟩
    · skip
      refine lv_if_ne (tgt := 23) hx hb dX11_life_18 (by decide) (fun c_6 => ?_) (fun c_6 => absurd c_6 (by decide))
      refine lv_aload_n hx hb dX11_life_23 rfl (lv_at hl 0 rfl) ?_
      refine va_get (D := D) (ci := 11) (v := .ref (a 1)) (C := RX11) (T := TX11) (N := 14) hx hb hT iX11 hown hK hP 0 rfl rfl 0 (by decide) (hT _ t_267) (fun _ h9 => h9) rfl dX11_life_24 ?_
      refine va_get (D := D) (ci := 8) (v := .ref (a 2)) (C := RX8) (T := TX8) (N := 2) hx hb hT iX8 hown hK hP 1 rfl rfl 0 (by decide) (hT _ t_268) (fun _ h9 => h9) rfl dX11_life_27 ?_
      refine lv_iload_n hx hb dX11_life_30 rfl (lv_at hl 1 rfl) ?_
      refine lv_iload_n hx hb dX11_life_31 rfl (lv_at hl 2 rfl) ?_
      refine va_iast hx hb hK hP hD hS 2 0 rfl rfl (vp_inI (by omega) (by omega)) dX11_life_32 (fun H locs hP hD hS => ?_)
      rw [zS2] at hP hD
      have hRr : yRr (va_up r 2 (upd (r 2) p0.toNatClampNeg p1)) := Yr_upd hRr 2 (p0.toNatClampNeg) p1 (b_rg _)
      have hEr : mEr [2] _ (va_up r 2 (upd (r 2) p0.toNatClampNeg p1)) := Er_up hEr 2 _ (by decide)
      refine lv_iconst (v := 1) hx hb dX11_life_33 (by decide) ?_
      subst hQ
      exact W.zret hx hb hr rfl (fun t ht hW => ⟨⟨_, (va_up r 2 (upd (r 2) p0.toNatClampNeg p1)), rfl, ⟨hRr, hEr, ⟨Or.inl ⟨rfl, by omega⟩, fun _ => rfl, fun h9 => absurd (by omega) h9⟩⟩, by rw [ht]; exact hP, va_K.moved hW.alike hK, hD⟩, hS.F ht⟩) hS.2.2 dX11_life_34
    · skip
      refine lv_if_ne (tgt := 23) hx hb dX11_life_18 (by decide) (fun c_7 => absurd (by decide) c_7) (fun c_7 => ?_)
      refine lv_iconst (v := 0) hx hb dX11_life_21 (by decide) ?_
      subst hQ
      exact W.zret hx hb hr rfl (fun t ht hW => ⟨⟨_, r, rfl, ⟨hRr, hEr, ⟨Or.inr ⟨rfl, by omega⟩, fun h9 => absurd h9 (by omega), fun _ => Er_rf⟩⟩, by rw [ht]; exact hP, va_K.moved hW.alike hK, hD⟩, hS.F ht⟩) hS.2.2 dX11_life_22
  · skip
    refine lv_if_eq (tgt := 21) hx hb dX11_life_7 (by decide) (fun c_8 => ?_) (fun c_8 => absurd (by decide) c_8)
    refine lv_iconst (v := 0) hx hb dX11_life_21 (by decide) ?_
    subst hQ
    exact W.zret hx hb hr rfl (fun t ht hW => ⟨⟨_, r, rfl, ⟨hRr, hEr, ⟨Or.inr ⟨rfl, by omega⟩, fun h9 => absurd h9 (by omega), fun _ => Er_rf⟩⟩, by rw [ht]; exact hP, va_K.moved hW.alike hK, hD⟩, hS.F ht⟩) hS.2.2 dX11_life_22
set_option maxHeartbeats 4000000 in
set_option maxRecDepth 100000 in
theorem c_X11_price9 (l : Launch) (D : va_G) (cy : Nat → ClassId) (a : Nat → Nat) (i : Nat → Int32) (r : Nat → Nat → Int32) (q : Nat → Option Nat) (tl : va_W) (p0 p1 p2 : Int32) (sz : Nat) (hRi : yRi i) (hRr : yRr r) : Met l yX11_price (Cond.code yX11_price cX11_price 4 (some .boolean) :: gT) { frames := 2, cells := 0, slots := 0, locals := 46 } (va_Pc [.ref (a 0), .int p0, .int p1, .int p2] (rQ D cy (xW cy a i r q (a 20) (a 12) ++ tl) sz)) (va_Qi (fun (z : Int32) (u : Nat → Nat → Int32) => yRr u ∧ mEr [3] r u ∧ (BR z ((0 ≤ p0.toInt ∧ p0.toInt ≤ 7) ∧ (0 ≤ p1.toInt ∧ p1.toInt ≤ 3) ∧ (0 ≤ p2.toInt ∧ p2.toInt ≤ 99999)) 1 0 ∧ (((0 ≤ p0.toInt ∧ p0.toInt ≤ 7) ∧ (0 ≤ p1.toInt ∧ p1.toInt ≤ 3) ∧ (0 ≤ p2.toInt ∧ p2.toInt ≤ 99999)) → u 3 = upd (r 3) (4 * p0.toInt + p1.toInt).toNat p2) ∧ (¬ ((0 ≤ p0.toInt ∧ p0.toInt ≤ 7) ∧ (0 ≤ p1.toInt ∧ p1.toInt ≤ 3) ∧ (0 ≤ p2.toInt ∧ p2.toInt ≤ 99999)) → mEr [] r u))) (fun (u : Nat → Nat → Int32) t => va_P D vwCl (xW cy a i u q (a 20) (a 12) ++ tl) t.heap ∧ va_K D vwCl (vT cy) t ∧ va_D (va_A (xW cy a i r q (a 20) (a 12) ++ tl) sz) (xW cy a i u q (a 20) (a 12) ++ tl)) (va_A (xW cy a i r q (a 20) (a 12) ++ tl) sz)) 0 0 (va_A (xW cy a i r q (a 20) (a 12) ++ tl) sz) := by
  refine Met.ofQ (cc := cX11_price) (maxL := 4) (ret := (some .boolean)) (by decide) rfl ?_
  intro p e s m args below meth c s₁ B hml hv Q hQ
  obtain ⟨rfl, hsz, hP, hK, hD0⟩ := hv
  have hx := B.exec
  have hb := B.bytes
  have hr := B.returns
  have hlocks := B.notSynchronized
  have hT : ∀ w ∈ gT, w.before _ s = true := fun w h => atoms_spec (ws := (Cond.code yX11_price cX11_price 4 (some .boolean) :: gT)) B.pre w (List.mem_cons_of_mem _ h)
  have hown : s.vm.findClass RX11 = some m.cls := findClass_of_methodNamed B.named
  subst hsz
  have hD := hD0.self (sz := s.heap.size)
  generalize hAe : va_A (xW cy a i r q (a 20) (a 12) ++ tl) s.heap.size = A at hD hQ
  have hA : ∀ q : Nat, s.heap.size ≤ q → A q := fun q h => by rw [← hAe]; exact Or.inr h
  have hS : va_S A s.heap s.heap [] := va_S.rf
  have hl := lv_entry ([.ref (a 0), .int p0, .int p1, .int p2]) (n := 4) (Nat.le_of_ble_eq_true rfl)
  rw [lg_entry_eq]
  generalize (lg_sl ([.ref (a 0), .int p0, .int p1, .int p2]) ++ List.replicate (4 - (lg_sl ([.ref (a 0), .int p0, .int p1, .int p2])).length) Slot.unset).toArray = ls at hl ⊢
  have hl : lv_has ls 4 [(0, .ref (a 0)), (1, .int p0), (2, .int p1), (3, .int p2)] := hl
  have hEi : mEi [] i i := Ei_rf
  have hEr : mEr [3] r r := Er_rf
  refine lv_iload_n hx hb dX11_price_0 rfl (lv_at hl 1 rfl) ?_
  refine lv_iconst (v := 0) hx hb dX11_price_1 (by decide) ?_
  refine lv_bipush (v := 7) hx hb dX11_price_2 (by decide) ?_
  refine vp_callSi (W.runS (As := [.int p0, .int 0, .int 7]) (rest := []) ⟨hx, hb, hml, hown, hT⟩ (c_X11_within l p0 0 7) (va_cwS 3 hT (gS t_1 t_3 t_4 t_2) rfl rfl rfl (by decide +kernel) ⟨Nat.le_of_ble_eq_true rfl, Nat.le_of_ble_eq_true rfl⟩) preT rfl rfl hl.1 rfl (lv_room (Nat.le_of_ble_eq_true rfl)) dX11_price_4 ⟨Nat.le_of_ble_eq_true rfl, Nat.le_of_ble_eq_true rfl⟩) (fun r_1 hr_1 => ?_)
  have hr_1 : BR r_1 (0 ≤ p0.toInt ∧ p0.toInt ≤ 7) 1 0 := hr_1
  rcases hr_1 with ⟨rfl, h_2⟩ | ⟨rfl, h_2⟩
  · skip
    refine lv_if_eq (tgt := 29) hx hb dX11_price_7 (by decide) (fun c_3 => absurd c_3 (by decide)) (fun c_3 => ?_)
    refine lv_iload_n hx hb dX11_price_10 rfl (lv_at hl 2 rfl) ?_
    refine lv_iconst (v := 0) hx hb dX11_price_11 (by decide) ?_
    refine lv_iconst (v := 3) hx hb dX11_price_12 (by decide) ?_
    refine vp_callSi (W.runS (As := [.int p1, .int 0, .int 3]) (rest := []) ⟨hx, hb, hml, hown, hT⟩ (c_X11_within l p1 0 3) (va_cwS 3 hT (gS t_1 t_3 t_4 t_2) rfl rfl rfl (by decide +kernel) ⟨Nat.le_of_ble_eq_true rfl, Nat.le_of_ble_eq_true rfl⟩) preT rfl rfl hl.1 rfl (lv_room (Nat.le_of_ble_eq_true rfl)) dX11_price_13 ⟨Nat.le_of_ble_eq_true rfl, Nat.le_of_ble_eq_true rfl⟩) (fun r_4 hr_4 => ?_)
    have hr_4 : BR r_4 (0 ≤ p1.toInt ∧ p1.toInt ≤ 3) 1 0 := hr_4
    rcases hr_4 with ⟨rfl, h_5⟩ | ⟨rfl, h_5⟩
    · skip
      refine lv_if_eq (tgt := 29) hx hb dX11_price_16 (by decide) (fun c_6 => absurd c_6 (by decide)) (fun c_6 => ?_)
      refine lv_iload_n hx hb dX11_price_19 rfl (lv_at hl 3 rfl) ?_
      refine lv_iconst (v := 0) hx hb dX11_price_20 (by decide) ?_
      refine lv_ldc (v := 99999) hx hb hown (hT _ t_269) dX11_price_21 ?_
      refine vp_callSi (W.runS (As := [.int p2, .int 0, .int 99999]) (rest := []) ⟨hx, hb, hml, hown, hT⟩ (c_X11_within l p2 0 99999) (va_cwS 3 hT (gS t_1 t_3 t_4 t_2) rfl rfl rfl (by decide +kernel) ⟨Nat.le_of_ble_eq_true rfl, Nat.le_of_ble_eq_true rfl⟩) preT rfl rfl hl.1 rfl (lv_room (Nat.le_of_ble_eq_true rfl)) dX11_price_23 ⟨Nat.le_of_ble_eq_true rfl, Nat.le_of_ble_eq_true rfl⟩) (fun r_7 hr_7 => ?_)
      have hr_7 : BR r_7 (0 ≤ p2.toInt ∧ p2.toInt ≤ 99999) 1 0 := hr_7
      rcases hr_7 with ⟨rfl, h_8⟩ | ⟨rfl, h_8⟩
      · skip
        refine lv_if_ne (tgt := 31) hx hb dX11_price_26 (by decide) (fun c_9 => ?_) (fun c_9 => absurd c_9 (by decide))
        refine lv_aload_n hx hb dX11_price_31 rfl (lv_at hl 0 rfl) ?_
        refine va_get (D := D) (ci := 11) (v := .ref (a 1)) (C := RX11) (T := TX11) (N := 14) hx hb hT iX11 hown hK hP 0 rfl rfl 0 (by decide) (hT _ t_267) (fun _ h9 => h9) rfl dX11_price_32 ?_
        refine va_get (D := D) (ci := 8) (v := .ref (a 3)) (C := RX8) (T := TX8) (N := 2) hx hb hT iX8 hown hK hP 1 rfl rfl 1 (by decide) (hT _ t_270) (fun _ h9 => h9) rfl dX11_price_35 ?_
        refine lv_iload_n hx hb dX11_price_38 rfl (lv_at hl 1 rfl) ?_
        refine lv_iconst (v := 4) hx hb dX11_price_39 (by decide) ?_
        refine lv_imul hx hb dX11_price_40 ?_
        refine lv_topi (fun v_10 ev_10 => ?_)
        have hv_10 : v_10.toInt = p0.toInt * 4 := by rw [ev_10]; have := b_rg p0; exact i_mul (a := p0.toInt) (b := 4) rfl rfl (by omega) (by omega)
        refine lv_iload_n hx hb dX11_price_41 rfl (lv_at hl 2 rfl) ?_
        refine lv_iadd hx hb dX11_price_42 ?_
        refine lv_topi (fun v_11 ev_11 => ?_)
        have hv_11 : v_11.toInt = v_10.toInt + p1.toInt := by rw [ev_11]; have := b_rg v_10; have := b_rg p1; exact i_add (a := v_10.toInt) (b := p1.toInt) rfl rfl (by omega) (by omega)
        refine lv_iload_n hx hb dX11_price_43 rfl (lv_at hl 3 rfl) ?_
        refine va_iast hx hb hK hP hD hS 3 0 rfl rfl (vp_inI (by omega) (by omega)) dX11_price_44 (fun H locs hP hD hS => ?_)
        rw [zS3] at hP hD
        have hRr : yRr (va_up r 3 (upd (r 3) v_11.toNatClampNeg p2)) := Yr_upd hRr 3 (v_11.toNatClampNeg) p2 ⟨by show (0 : Int) ≤ p2.toInt; omega, by show p2.toInt ≤ (99999 : Int); omega⟩
        have hEr : mEr [3] _ (va_up r 3 (upd (r 3) v_11.toNatClampNeg p2)) := Er_up hEr 3 _ (by decide)
        refine lv_iconst (v := 1) hx hb dX11_price_45 (by decide) ?_
        subst hQ
        have hix : v_11.toNatClampNeg = (4 * p0.toInt + p1.toInt).toNat := by show v_11.toInt.toNat = _; omega
        exact W.zret hx hb hr rfl (fun t ht hW => ⟨⟨_, (va_up r 3 (upd (r 3) v_11.toNatClampNeg p2)), rfl, ⟨hRr, hEr, ⟨Or.inl ⟨rfl, by omega⟩, fun _ => (by rw [← hix]; rfl), fun h9 => absurd (by omega) h9⟩⟩, by rw [ht]; exact hP, va_K.moved hW.alike hK, hD⟩, hS.F ht⟩) hS.2.2 dX11_price_46
      · skip
        refine lv_if_ne (tgt := 31) hx hb dX11_price_26 (by decide) (fun c_12 => absurd (by decide) c_12) (fun c_12 => ?_)
        refine lv_iconst (v := 0) hx hb dX11_price_29 (by decide) ?_
        subst hQ
        exact W.zret hx hb hr rfl (fun t ht hW => ⟨⟨_, r, rfl, ⟨hRr, hEr, ⟨Or.inr ⟨rfl, by omega⟩, fun h9 => absurd h9 (by omega), fun _ => Er_rf⟩⟩, by rw [ht]; exact hP, va_K.moved hW.alike hK, hD⟩, hS.F ht⟩) hS.2.2 dX11_price_30
    · skip
      refine lv_if_eq (tgt := 29) hx hb dX11_price_16 (by decide) (fun c_13 => ?_) (fun c_13 => absurd (by decide) c_13)
      refine lv_iconst (v := 0) hx hb dX11_price_29 (by decide) ?_
      subst hQ
      exact W.zret hx hb hr rfl (fun t ht hW => ⟨⟨_, r, rfl, ⟨hRr, hEr, ⟨Or.inr ⟨rfl, by omega⟩, fun h9 => absurd h9 (by omega), fun _ => Er_rf⟩⟩, by rw [ht]; exact hP, va_K.moved hW.alike hK, hD⟩, hS.F ht⟩) hS.2.2 dX11_price_30
  · skip
    refine lv_if_eq (tgt := 29) hx hb dX11_price_7 (by decide) (fun c_14 => ?_) (fun c_14 => absurd (by decide) c_14)
    refine lv_iconst (v := 0) hx hb dX11_price_29 (by decide) ?_
    subst hQ
    exact W.zret hx hb hr rfl (fun t ht hW => ⟨⟨_, r, rfl, ⟨hRr, hEr, ⟨Or.inr ⟨rfl, by omega⟩, fun h9 => absurd h9 (by omega), fun _ => Er_rf⟩⟩, by rw [ht]; exact hP, va_K.moved hW.alike hK, hD⟩, hS.F ht⟩) hS.2.2 dX11_price_30
set_option maxHeartbeats 4000000 in
set_option maxRecDepth 100000 in
theorem c_X11_listed9 (l : Launch) (D : va_G) (cy : Nat → ClassId) (a : Nat → Nat) (i : Nat → Int32) (r : Nat → Nat → Int32) (q : Nat → Option Nat) (tl : va_W) (p0 p1 p2 : Int32) (sz : Nat) (hRi : yRi i) (hRr : yRr r) : Met l yX11_listed (Cond.code yX11_listed cX11_listed 5 (some .int) :: gT) { frames := 4, cells := 0, slots := 0, locals := 98 } (va_Pc [.ref (a 0), .ref (a 61), .int p0, .int p1, .int p2] (rQ D cy (xW cy a i r q (a 20) (a 12) ++ (hW cy a i r ++ tl)) sz)) (va_Qi (fun (z : Int32) (u : Nat → Nat → Int32) => yRr u ∧ mEr [6, 7, 75] r u ∧ (z = p0)) (fun (u : Nat → Nat → Int32) t => va_P D vwCl (xW cy a i u q (a 20) (a 12) ++ (hW cy a i u ++ tl)) t.heap ∧ va_K D vwCl (vT cy) t ∧ va_D (va_A (xW cy a i r q (a 20) (a 12) ++ (hW cy a i r ++ tl)) sz) (xW cy a i u q (a 20) (a 12) ++ (hW cy a i u ++ tl))) (va_A (xW cy a i r q (a 20) (a 12) ++ (hW cy a i r ++ tl)) sz)) 0 0 (va_A (xW cy a i r q (a 20) (a 12) ++ (hW cy a i r ++ tl)) sz) := by
  refine Met.ofQ (cc := cX11_listed) (maxL := 5) (ret := (some .int)) (by decide) rfl ?_
  intro p e s m args below meth c s₁ B hml hv Q hQ
  obtain ⟨rfl, hsz, hP, hK, hD0⟩ := hv
  have hx := B.exec
  have hb := B.bytes
  have hr := B.returns
  have hlocks := B.notSynchronized
  have hT : ∀ w ∈ gT, w.before _ s = true := fun w h => atoms_spec (ws := (Cond.code yX11_listed cX11_listed 5 (some .int) :: gT)) B.pre w (List.mem_cons_of_mem _ h)
  have hown : s.vm.findClass RX11 = some m.cls := findClass_of_methodNamed B.named
  subst hsz
  have hD := hD0.self (sz := s.heap.size)
  generalize hAe : va_A (xW cy a i r q (a 20) (a 12) ++ (hW cy a i r ++ tl)) s.heap.size = A at hD hQ
  have hA : ∀ q : Nat, s.heap.size ≤ q → A q := fun q h => by rw [← hAe]; exact Or.inr h
  have hS : va_S A s.heap s.heap [] := va_S.rf
  have hl := lv_entry ([.ref (a 0), .ref (a 61), .int p0, .int p1, .int p2]) (n := 5) (Nat.le_of_ble_eq_true rfl)
  rw [lg_entry_eq]
  generalize (lg_sl ([.ref (a 0), .ref (a 61), .int p0, .int p1, .int p2]) ++ List.replicate (5 - (lg_sl ([.ref (a 0), .ref (a 61), .int p0, .int p1, .int p2])).length) Slot.unset).toArray = ls at hl ⊢
  have hl : lv_has ls 5 [(0, .ref (a 0)), (1, .ref (a 61)), (2, .int p0), (3, .int p1), (4, .int p2)] := hl
  have hEi : mEi [] i i := Ei_rf
  have hEr : mEr [6, 7, 75] r r := Er_rf
  refine lv_iload_n hx hb dX11_listed_0 rfl (lv_at hl 2 rfl) ?_
  refine lv_iconst (v := (-1)) hx hb dX11_listed_1 (by decide) ?_
  refine lv_icmp_eq (tgt := 16) hx hb dX11_listed_2 (by decide) (fun c_1 => ?_) (fun c_1 => ?_)
  · have c_1 : p0.toInt = (-1) := b_eq c_1
    refine lv_iload_n hx hb dX11_listed_16 rfl (lv_at hl 2 rfl) ?_
    subst hQ
    exact W.iret (v := p0) hx hb hr (fun t ht hW => ⟨⟨_, r, rfl, ⟨hRr, hEr, rfl⟩, by rw [ht]; exact hP, va_K.moved hW.alike hK, hD⟩, hS.F ht⟩) hS.2.2 dX11_listed_17
  · have c_1 : p0.toInt ≠ (-1) := b_ne c_1
    refine lv_aload_n hx hb dX11_listed_5 rfl (lv_at hl 0 rfl) ?_
    refine va_get (D := D) (ci := 11) (v := .ref (a 5)) (C := RX11) (T := TX11) (N := 14) hx hb hT iX11 hown hK hP 0 rfl rfl 3 (by decide) (hT _ t_438) (fun _ h9 => h9) rfl dX11_listed_6 ?_
    refine lv_aload_n hx hb dX11_listed_9 rfl (lv_at hl 1 rfl) ?_
    refine lv_iload_n hx hb dX11_listed_10 rfl (lv_at hl 3 rfl) ?_
    refine lv_iload hx hb dX11_listed_11 (lv_at hl 4 rfl) ?_
    have hF_2 := rF hD hS hA
    refine va_callv (va_runV (As := [.ref (a 61), .int p1, .int p2]) (rest := []) ⟨hx, hb, hml, hown, hT⟩ (c_X4_join l D cy a i r q tl p1 p2 _ hRi hRr) (cwV 3 hT (gV t_439 t_440 t_441 t_442 t_419) rfl rfl rfl (by decide +kernel) ⟨Nat.le_of_ble_eq_true rfl, Nat.le_of_ble_eq_true rfl⟩) (rQ_v hP hK hD (va_recv hK hP (ci := 4) (q0 := 5) rfl rfl)) rfl rfl hl.1 rfl (lv_room (Nat.le_of_ble_eq_true rfl)) dX11_listed_13 ⟨Nat.le_of_ble_eq_true rfl, Nat.le_of_ble_eq_true rfl⟩) hS (fun q _ h => hF_2 q h) hF_2 (fun u_4 t H1 locs ht hvm hr_3 hB hz1 hk1 hS => ?_)
    obtain ⟨r4, rfl⟩ : ∃ z, z = u_4 := ⟨_, rfl⟩
    obtain ⟨hP, hK1, hD1⟩ := hB
    rw [ht] at hP
    have hD := hD1.weaken (fun k q _ h => hF_2 q.1 h)
    obtain ⟨hRr, hE2, hr_3⟩ := hr_3
    have hRr : yRr r4 := hRr
    have hE2 : mEr [6, 7, 75] r r4 := hE2
    have hP : va_P D vwCl (xW cy a i r4 q (a 20) (a 12) ++ (hW cy a i r4 ++ tl)) H1 := hP
    have hD : va_D A (xW cy a i r4 q (a 20) (a 12) ++ (hW cy a i r4 ++ tl)) := hD
    have hEr : mEr [6, 7, 75] _ r4 := Er_tr hEr hE2 (by decide)
    refine lv_iload_n hx hb dX11_listed_16 rfl (lv_at hl 2 rfl) ?_
    subst hQ
    exact W.iret (v := p0) hx hb hr (fun t ht hW => ⟨⟨_, r4, rfl, ⟨hRr, hEr, rfl⟩, by rw [ht]; exact hP, va_K.moved hW.alike hK, hD⟩, hS.F ht⟩) hS.2.2 dX11_listed_17
set_option maxHeartbeats 4000000 in
set_option maxRecDepth 100000 in
theorem c_X10_add_r659 (l : Launch) (D : va_G) (cy : Nat → ClassId) (a : Nat → Nat) (i : Nat → Int32) (r : Nat → Nat → Int32) (q : Nat → Option Nat) (tl : va_W) (p0 p1 p2 p3 : Int32) (sz : Nat) (hRi : yRi i) (hRr : yRr r) (q0 : 0 ≤ p0.toInt ∧ p0.toInt ≤ 9) (q1 : 0 ≤ p1.toInt ∧ p1.toInt ≤ 7) (q2 : 1 ≤ p2.toInt ∧ p2.toInt ≤ 9) (q3 : 0 ≤ p3.toInt ∧ p3.toInt ≤ 360) : Met l yX10_add (Cond.code yX10_add cX10_add 5 (some .int) :: gT) { frames := 1, cells := 0, slots := 0, locals := 24 } (va_Pc [.ref (a 65), .int p0, .int p1, .int p2, .int p3] (rQ D cy (xW cy a i r q (a 20) (a 12) ++ (hW cy a i r ++ tl)) sz)) (va_Qi (fun (z : Int32) (u : (Nat → Int32) × (Nat → Nat → Int32)) => yRi u.1 ∧ yRr u.2 ∧ mEi [23] i u.1 ∧ mEr [66, 67, 68, 69] r u.2 ∧ ((((i 23).toInt ≤ 19) → z.toInt = (i 23).toInt ∧ (u.1 23).toInt = (i 23).toInt + 1 ∧ u.2 66 = upd (r 66) (i 23).toNatClampNeg p0 ∧ u.2 67 = upd (r 67) (i 23).toNatClampNeg p1 ∧ u.2 68 = upd (r 68) (i 23).toNatClampNeg p2 ∧ u.2 69 = upd (r 69) (i 23).toNatClampNeg p3) ∧ (¬ ((i 23).toInt ≤ 19) → z = -1 ∧ u.1 23 = i 23 ∧ mEr [] r u.2))) (fun (u : (Nat → Int32) × (Nat → Nat → Int32)) t => va_P D vwCl (xW cy a u.1 u.2 q (a 20) (a 12) ++ (hW cy a u.1 u.2 ++ tl)) t.heap ∧ va_K D vwCl (vT cy) t ∧ va_D (va_A (xW cy a i r q (a 20) (a 12) ++ (hW cy a i r ++ tl)) sz) (xW cy a u.1 u.2 q (a 20) (a 12) ++ (hW cy a u.1 u.2 ++ tl))) (va_A (xW cy a i r q (a 20) (a 12) ++ (hW cy a i r ++ tl)) sz)) 0 0 (va_A (xW cy a i r q (a 20) (a 12) ++ (hW cy a i r ++ tl)) sz) := by
  refine Met.ofQ (cc := cX10_add) (maxL := 5) (ret := (some .int)) (by decide) rfl ?_
  intro p e s m args below meth c s₁ B hml hv Q hQ
  obtain ⟨rfl, hsz, hP, hK, hD0⟩ := hv
  have hx := B.exec
  have hb := B.bytes
  have hr := B.returns
  have hlocks := B.notSynchronized
  have hT : ∀ w ∈ gT, w.before _ s = true := fun w h => atoms_spec (ws := (Cond.code yX10_add cX10_add 5 (some .int) :: gT)) B.pre w (List.mem_cons_of_mem _ h)
  have hown : s.vm.findClass RX10 = some m.cls := findClass_of_methodNamed B.named
  subst hsz
  have hD := hD0.self (sz := s.heap.size)
  generalize hAe : va_A (xW cy a i r q (a 20) (a 12) ++ (hW cy a i r ++ tl)) s.heap.size = A at hD hQ
  have hA : ∀ q : Nat, s.heap.size ≤ q → A q := fun q h => by rw [← hAe]; exact Or.inr h
  have hS : va_S A s.heap s.heap [] := va_S.rf
  have hl := lv_entry ([.ref (a 65), .int p0, .int p1, .int p2, .int p3]) (n := 5) (Nat.le_of_ble_eq_true rfl)
  rw [lg_entry_eq]
  generalize (lg_sl ([.ref (a 65), .int p0, .int p1, .int p2, .int p3]) ++ List.replicate (5 - (lg_sl ([.ref (a 65), .int p0, .int p1, .int p2, .int p3])).length) Slot.unset).toArray = ls at hl ⊢
  have hl : lv_has ls 5 [(0, .ref (a 65)), (1, .int p0), (2, .int p1), (3, .int p2), (4, .int p3)] := hl
  have hEi : mEi [23] i i := Ei_rf
  have hEr : mEr [66, 67, 68, 69] r r := Er_rf
  refine lv_aload_n hx hb dX10_add_0 rfl (lv_at hl 0 rfl) ?_
  refine va_get (D := D) (ci := 10) (v := .int (i 23)) (C := RX10) (T := TX10) (N := 5) hx hb hT iX10 hown hK hP 65 rfl rfl 0 (by decide) (hT _ t_402) (fun _ h9 => h9) rfl dX10_add_1 ?_
  have hg_1 : 0 ≤ (i 23).toInt ∧ (i 23).toInt ≤ 20 := hRi 23
  refine lv_bipush (v := 20) hx hb dX10_add_4 (by decide) ?_
  refine lv_icmp_lt (tgt := 11) hx hb dX10_add_6 (by decide) (fun c_2 => ?_) (fun c_2 => ?_)
  · have c_2 : (i 23).toInt < 20 := b_lt c_2
    refine lv_aload_n hx hb dX10_add_11 rfl (lv_at hl 0 rfl) ?_
    refine va_get (D := D) (ci := 10) (v := .ref (a 66)) (C := RX10) (T := TX10) (N := 5) hx hb hT iX10 hown hK hP 65 rfl rfl 1 (by decide) (hT _ t_403) (fun _ h9 => h9) rfl dX10_add_12 ?_
    refine lv_aload_n hx hb dX10_add_15 rfl (lv_at hl 0 rfl) ?_
    refine va_get (D := D) (ci := 10) (v := .int (i 23)) (C := RX10) (T := TX10) (N := 5) hx hb hT iX10 hown hK hP 65 rfl rfl 0 (by decide) (hT _ t_402) (fun _ h9 => h9) rfl dX10_add_16 ?_
    refine lv_iload_n hx hb dX10_add_19 rfl (lv_at hl 1 rfl) ?_
    refine va_iast hx hb hK hP hD hS 66 0 rfl rfl (vp_inI (by omega) (by omega)) dX10_add_20 (fun H locs hP hD hS => ?_)
    rw [yS66] at hP hD
    have hRr : yRr (va_up r 66 (upd (r 66) ((i 23).toNatClampNeg) p0)) := Yr_upd hRr 66 ((i 23).toNatClampNeg) p0 ⟨by show (0 : Int) ≤ p0.toInt; omega, by show p0.toInt ≤ (9 : Int); omega⟩
    have hEr : mEr [66, 67, 68, 69] _ (va_up r 66 (upd (r 66) ((i 23).toNatClampNeg) p0)) := Er_up hEr 66 _ (by decide)
    refine lv_aload_n hx hb dX10_add_21 rfl (lv_at hl 0 rfl) ?_
    refine va_get (D := D) (ci := 10) (v := .ref (a 67)) (C := RX10) (T := TX10) (N := 5) hx hb hT iX10 hown hK hP 65 rfl rfl 2 (by decide) (hT _ t_404) (fun _ h9 => h9) rfl dX10_add_22 ?_
    refine lv_aload_n hx hb dX10_add_25 rfl (lv_at hl 0 rfl) ?_
    refine va_get (D := D) (ci := 10) (v := .int (i 23)) (C := RX10) (T := TX10) (N := 5) hx hb hT iX10 hown hK hP 65 rfl rfl 0 (by decide) (hT _ t_402) (fun _ h9 => h9) rfl dX10_add_26 ?_
    refine lv_iload_n hx hb dX10_add_29 rfl (lv_at hl 2 rfl) ?_
    refine va_iast hx hb hK hP hD hS 67 0 rfl rfl (vp_inI (by omega) (by omega)) dX10_add_30 (fun H locs hP hD hS => ?_)
    rw [yS67] at hP hD
    have hRr : yRr (va_up (va_up r 66 (upd (r 66) ((i 23).toNatClampNeg) p0)) 67 (upd (r 67) ((i 23).toNatClampNeg) p1)) := Yr_upd hRr 67 ((i 23).toNatClampNeg) p1 ⟨by show (0 : Int) ≤ p1.toInt; omega, by show p1.toInt ≤ (7 : Int); omega⟩
    have hEr : mEr [66, 67, 68, 69] _ (va_up (va_up r 66 (upd (r 66) ((i 23).toNatClampNeg) p0)) 67 (upd (r 67) ((i 23).toNatClampNeg) p1)) := Er_up hEr 67 _ (by decide)
    refine lv_aload_n hx hb dX10_add_31 rfl (lv_at hl 0 rfl) ?_
    refine va_get (D := D) (ci := 10) (v := .ref (a 68)) (C := RX10) (T := TX10) (N := 5) hx hb hT iX10 hown hK hP 65 rfl rfl 3 (by decide) (hT _ t_405) (fun _ h9 => h9) rfl dX10_add_32 ?_
    refine lv_aload_n hx hb dX10_add_35 rfl (lv_at hl 0 rfl) ?_
    refine va_get (D := D) (ci := 10) (v := .int (i 23)) (C := RX10) (T := TX10) (N := 5) hx hb hT iX10 hown hK hP 65 rfl rfl 0 (by decide) (hT _ t_402) (fun _ h9 => h9) rfl dX10_add_36 ?_
    refine lv_iload_n hx hb dX10_add_39 rfl (lv_at hl 3 rfl) ?_
    refine va_iast hx hb hK hP hD hS 68 0 rfl rfl (vp_inI (by omega) (by omega)) dX10_add_40 (fun H locs hP hD hS => ?_)
    rw [yS68] at hP hD
    have hRr : yRr (va_up (va_up (va_up r 66 (upd (r 66) ((i 23).toNatClampNeg) p0)) 67 (upd (r 67) ((i 23).toNatClampNeg) p1)) 68 (upd (r 68) ((i 23).toNatClampNeg) p2)) := Yr_upd hRr 68 ((i 23).toNatClampNeg) p2 ⟨by show (0 : Int) ≤ p2.toInt; omega, by show p2.toInt ≤ (9 : Int); omega⟩
    have hEr : mEr [66, 67, 68, 69] _ (va_up (va_up (va_up r 66 (upd (r 66) ((i 23).toNatClampNeg) p0)) 67 (upd (r 67) ((i 23).toNatClampNeg) p1)) 68 (upd (r 68) ((i 23).toNatClampNeg) p2)) := Er_up hEr 68 _ (by decide)
    refine lv_aload_n hx hb dX10_add_41 rfl (lv_at hl 0 rfl) ?_
    refine va_get (D := D) (ci := 10) (v := .ref (a 69)) (C := RX10) (T := TX10) (N := 5) hx hb hT iX10 hown hK hP 65 rfl rfl 4 (by decide) (hT _ t_406) (fun _ h9 => h9) rfl dX10_add_42 ?_
    refine lv_aload_n hx hb dX10_add_45 rfl (lv_at hl 0 rfl) ?_
    refine va_get (D := D) (ci := 10) (v := .int (i 23)) (C := RX10) (T := TX10) (N := 5) hx hb hT iX10 hown hK hP 65 rfl rfl 0 (by decide) (hT _ t_402) (fun _ h9 => h9) rfl dX10_add_46 ?_
    refine lv_iload hx hb dX10_add_49 (lv_at hl 4 rfl) ?_
    refine va_iast hx hb hK hP hD hS 69 0 rfl rfl (vp_inI (by omega) (by omega)) dX10_add_51 (fun H locs hP hD hS => ?_)
    rw [yS69] at hP hD
    have hRr : yRr (va_up (va_up (va_up (va_up r 66 (upd (r 66) ((i 23).toNatClampNeg) p0)) 67 (upd (r 67) ((i 23).toNatClampNeg) p1)) 68 (upd (r 68) ((i 23).toNatClampNeg) p2)) 69 (upd (r 69) ((i 23).toNatClampNeg) p3)) := Yr_upd hRr 69 ((i 23).toNatClampNeg) p3 ⟨by show (0 : Int) ≤ p3.toInt; omega, by show p3.toInt ≤ (360 : Int); omega⟩
    have hEr : mEr [66, 67, 68, 69] _ (va_up (va_up (va_up (va_up r 66 (upd (r 66) ((i 23).toNatClampNeg) p0)) 67 (upd (r 67) ((i 23).toNatClampNeg) p1)) 68 (upd (r 68) ((i 23).toNatClampNeg) p2)) 69 (upd (r 69) ((i 23).toNatClampNeg) p3)) := Er_up hEr 69 _ (by decide)
    refine lv_aload_n hx hb dX10_add_52 rfl (lv_at hl 0 rfl) ?_
    refine lv_dup hx hb dX10_add_53 rfl ?_
    refine va_get (D := D) (ci := 10) (v := .int (i 23)) (C := RX10) (T := TX10) (N := 5) hx hb hT iX10 hown hK hP 65 rfl rfl 0 (by decide) (hT _ t_402) (fun _ h9 => h9) rfl dX10_add_54 ?_
    refine lv_iconst (v := 1) hx hb dX10_add_57 (by decide) ?_
    refine lv_iadd hx hb dX10_add_58 ?_
    refine lv_topi (fun v_3 ev_3 => ?_)
    have hv_3 : v_3.toInt = (i 23).toInt + 1 := by rw [ev_3]; have := b_rg (i 23); exact i_add (a := (i 23).toInt) (b := 1) rfl rfl (by omega) (by omega)
    refine va_put (D := D) (ci := 10) (v := .int v_3) (ty := .int) (C := RX10) (T := TX10) (N := 5) hx hb hT iX10 tyX10 tyX10_ok nmX10 hown hK hP hD hS 65 rfl rfl 0 (by decide) (hT _ t_402) (fun _ h9 => h9) rfl (by decide +kernel) rfl rfl (Nat.le_of_ble_eq_true rfl) dX10_add_59 (fun H locs hP hD hS => ?_)
    rw [yP23] at hP hD
    have hRi := Yi_upd hRi 23 v_3 ⟨by show (0 : Int) ≤ v_3.toInt; omega, by show v_3.toInt ≤ (20 : Int); omega⟩
    have hEi := Ei_upd hEi 23 v_3 (by decide)
    refine lv_aload_n hx hb dX10_add_62 rfl (lv_at hl 0 rfl) ?_
    refine va_get (D := D) (ci := 10) (v := .int v_3) (C := RX10) (T := TX10) (N := 5) hx hb hT iX10 hown hK hP 65 rfl rfl 0 (by decide) (hT _ t_402) (fun _ h9 => h9) rfl dX10_add_63 ?_
    refine lv_iconst (v := 1) hx hb dX10_add_66 (by decide) ?_
    refine lv_isub hx hb dX10_add_67 ?_
    refine lv_topi (fun v_4 ev_4 => ?_)
    have hv_4 : v_4.toInt = v_3.toInt - 1 := by rw [ev_4]; have := b_rg v_3; exact i_sub (a := v_3.toInt) (b := 1) rfl rfl (by omega) (by omega)
    subst hQ
    exact W.iret (v := v_4) hx hb hr (fun t ht hW => ⟨⟨_, (upd i 23 v_3, va_up (va_up (va_up (va_up r 66 (upd (r 66) ((i 23).toNatClampNeg) p0)) 67 (upd (r 67) ((i 23).toNatClampNeg) p1)) 68 (upd (r 68) ((i 23).toNatClampNeg) p2)) 69 (upd (r 69) ((i 23).toNatClampNeg) p3)), rfl, ⟨hRi, hRr, hEi, hEr, ⟨fun _ => ⟨by omega, by show v_3.toInt = _; omega, rfl, rfl, rfl, rfl⟩, fun h9 => absurd (by omega) h9⟩⟩, by rw [ht]; exact hP, va_K.moved hW.alike hK, hD⟩, hS.F ht⟩) hS.2.2 dX10_add_68
  · have c_2 : 20 ≤ (i 23).toInt := b_nlt c_2
    refine lv_iconst (v := (-1)) hx hb dX10_add_9 (by decide) ?_
    subst hQ
    exact W.iret (v := (-1)) hx hb hr (fun t ht hW => ⟨⟨_, (i, r), rfl, ⟨hRi, hRr, hEi, hEr, ⟨fun h9 => absurd h9 (by omega), fun _ => ⟨rfl, rfl, Er_rf⟩⟩⟩, by rw [ht]; exact hP, va_K.moved hW.alike hK, hD⟩, hS.F ht⟩) hS.2.2 dX10_add_10
set_option maxHeartbeats 4000000 in
set_option maxRecDepth 100000 in
theorem c_X11_first.y9 (l : Launch) (D : va_G) (cy : Nat → ClassId) (a : Nat → Nat) (i : Nat → Int32) (r : Nat → Nat → Int32) (q : Nat → Option Nat) (tl : va_W) (p0 p1 p2 p3 p4 : Int32) (sz : Nat) (hRi : yRi i) (hRr : yRr r) (hh : 0 ≤ p0.toInt ∧ p0.toInt < (i 0).toInt) (hq : q p0.toNatClampNeg = some (a 61)) : Met l yX11_first (Cond.code yX11_first cX11_first 7 (some .int) :: gT) { frames := 5, cells := 0, slots := 0, locals := 122 } (va_Pc [.ref (a 0), .int p0, .int p1, .int p2, .int p3, .int p4] (rQ D cy (xW cy a i r q (a 20) (a 12) ++ (hW cy a i r ++ tl)) sz)) (va_Qi (fun (z : Int32) (u : (Nat → Int32) × (Nat → Nat → Int32)) => yRi u.1 ∧ yRr u.2 ∧ mEi [23] i u.1 ∧ mEr [6, 7, 66, 67, 68, 69, 75] r u.2 ∧ (((((0 ≤ p1.toInt ∧ p1.toInt ≤ 9) ∧ (0 ≤ p2.toInt ∧ p2.toInt ≤ 7) ∧ (1 ≤ p3.toInt ∧ p3.toInt ≤ 9)) ∧ (0 ≤ p4.toInt ∧ p4.toInt ≤ 360) ∧ (i 23).toInt ≤ 19) → z.toInt = (i 23).toInt ∧ (u.1 23).toInt = (i 23).toInt + 1 ∧ u.2 66 = upd (r 66) (i 23).toNatClampNeg p1 ∧ u.2 67 = upd (r 67) (i 23).toNatClampNeg p2 ∧ u.2 68 = upd (r 68) (i 23).toNatClampNeg p3 ∧ u.2 69 = upd (r 69) (i 23).toNatClampNeg p4) ∧ (¬ (((0 ≤ p1.toInt ∧ p1.toInt ≤ 9) ∧ (0 ≤ p2.toInt ∧ p2.toInt ≤ 7) ∧ (1 ≤ p3.toInt ∧ p3.toInt ≤ 9)) ∧ (0 ≤ p4.toInt ∧ p4.toInt ≤ 360) ∧ (i 23).toInt ≤ 19) → z = -1 ∧ u.1 23 = i 23 ∧ u.2 66 = r 66 ∧ u.2 67 = r 67 ∧ u.2 68 = r 68 ∧ u.2 69 = r 69))) (fun (u : (Nat → Int32) × (Nat → Nat → Int32)) t => va_P D vwCl (xW cy a u.1 u.2 q (a 20) (a 12) ++ (hW cy a u.1 u.2 ++ tl)) t.heap ∧ va_K D vwCl (vT cy) t ∧ va_D (va_A (xW cy a i r q (a 20) (a 12) ++ (hW cy a i r ++ tl)) sz) (xW cy a u.1 u.2 q (a 20) (a 12) ++ (hW cy a u.1 u.2 ++ tl))) (va_A (xW cy a i r q (a 20) (a 12) ++ (hW cy a i r ++ tl)) sz)) 0 0 (va_A (xW cy a i r q (a 20) (a 12) ++ (hW cy a i r ++ tl)) sz) := by
  refine Met.ofQ (cc := cX11_first) (maxL := 7) (ret := (some .int)) (by decide) rfl ?_
  intro p e s m args below meth c s₁ B hml hv Q hQ
  obtain ⟨rfl, hsz, hP, hK, hD0⟩ := hv
  have hx := B.exec
  have hb := B.bytes
  have hr := B.returns
  have hlocks := B.notSynchronized
  have hT : ∀ w ∈ gT, w.before _ s = true := fun w h => atoms_spec (ws := (Cond.code yX11_first cX11_first 7 (some .int) :: gT)) B.pre w (List.mem_cons_of_mem _ h)
  have hown : s.vm.findClass RX11 = some m.cls := findClass_of_methodNamed B.named
  subst hsz
  have hD := hD0.self (sz := s.heap.size)
  generalize hAe : va_A (xW cy a i r q (a 20) (a 12) ++ (hW cy a i r ++ tl)) s.heap.size = A at hD hQ
  have hA : ∀ q : Nat, s.heap.size ≤ q → A q := fun q h => by rw [← hAe]; exact Or.inr h
  have hS : va_S A s.heap s.heap [] := va_S.rf
  have hl := lv_entry ([.ref (a 0), .int p0, .int p1, .int p2, .int p3, .int p4]) (n := 7) (Nat.le_of_ble_eq_true rfl)
  rw [lg_entry_eq]
  generalize (lg_sl ([.ref (a 0), .int p0, .int p1, .int p2, .int p3, .int p4]) ++ List.replicate (7 - (lg_sl ([.ref (a 0), .int p0, .int p1, .int p2, .int p3, .int p4])).length) Slot.unset).toArray = ls at hl ⊢
  have hl : lv_has ls 7 [(0, .ref (a 0)), (1, .int p0), (2, .int p1), (3, .int p2), (4, .int p3), (5, .int p4)] := hl
  have hEi : mEi [23] i i := Ei_rf
  have hEr : mEr [6, 7, 66, 67, 68, 69, 75] r r := Er_rf
  have hg0 : 0 ≤ (i 0).toInt ∧ (i 0).toInt ≤ 6 := hRi 0
  refine lv_aload_n hx hb dX11_first_0 rfl (lv_at hl 0 rfl) ?_
  refine lv_iload_n hx hb dX11_first_1 rfl (lv_at hl 1 rfl) ?_
  refine va_csq (W.runV (As := [.int p0]) (rest := []) ⟨hx, hb, hml, hown, hT⟩ (c_X11_homeAt l D cy a i r q (hW cy a i r ++ tl) p0 hRi hRr) (cwV 1 hT (gV t_443 t_444 t_445 t_446 t_2) rfl rfl rfl (by decide +kernel) ⟨Nat.le_of_ble_eq_true rfl, Nat.le_of_ble_eq_true rfl⟩) (rP_v hP hK (va_recv hK hP (ci := 11) (q0 := 0) rfl rfl)) rfl rfl hl.1 rfl (lv_room (Nat.le_of_ble_eq_true rfl)) dX11_first_2 ⟨Nat.le_of_ble_eq_true rfl, Nat.le_of_ble_eq_true rfl⟩) (fun r_1 hr_1 => ?_)
  obtain rfl : r_1 = some (a 61) := (hr_1.1 hh).trans hq
  refine W.eq (g2 := F0 m 5 ls [.ref (a 61)]) rfl ?_
  refine lv_astore (lv' := [(6, .ref (a 61)), (0, .ref (a 0)), (1, .int p0), (2, .int p1), (3, .int p2), (4, .int p3), (5, .int p4)]) hx hb dX11_first_5 hl (by decide) rfl (fun ls hl => ?_)
  refine lv_aload hx hb dX11_first_7 (lv_at hl 0 rfl) ?_
  refine lv_ifnull hx hb dX11_first_9 ?_
  refine lv_iload_n hx hb dX11_first_12 rfl (lv_at hl 3 rfl) ?_
  refine lv_iload_n hx hb dX11_first_13 rfl (lv_at hl 4 rfl) ?_
  refine lv_iload hx hb dX11_first_14 (lv_at hl 5 rfl) ?_
  refine vp_callSi (W.runS (As := [.int p1, .int p2, .int p3]) (rest := []) ⟨hx, hb, hml, hown, hT⟩ (c_X11_isThing l p1 p2 p3) (va_cwS 3 hT (gS t_450 t_451 t_452 t_2) rfl rfl rfl (by decide +kernel) ⟨Nat.le_of_ble_eq_true rfl, Nat.le_of_ble_eq_true rfl⟩) preT rfl rfl hl.1 rfl (lv_room (Nat.le_of_ble_eq_true rfl)) dX11_first_16 ⟨Nat.le_of_ble_eq_true rfl, Nat.le_of_ble_eq_true rfl⟩) (fun r_2 hr_2 => ?_)
  have hr_2 : BR r_2 ((0 ≤ p1.toInt ∧ p1.toInt ≤ 9) ∧ (0 ≤ p2.toInt ∧ p2.toInt ≤ 7) ∧ (1 ≤ p3.toInt ∧ p3.toInt ≤ 9)) 1 0 := hr_2
  rcases hr_2 with ⟨rfl, h_3⟩ | ⟨rfl, h_3⟩
  · skip
    refine lv_if_eq (tgt := 34) hx hb dX11_first_19 (by decide) (fun c_4 => absurd c_4 (by decide)) (fun c_4 => ?_)
    refine lv_iload hx hb dX11_first_22 (lv_at hl 6 rfl) ?_
    refine lv_iconst (v := 0) hx hb dX11_first_24 (by decide) ?_
    refine lv_sipush (v := 360) hx hb dX11_first_25 (by decide) ?_
    refine vp_callSi (W.runS (As := [.int p4, .int 0, .int 360]) (rest := []) ⟨hx, hb, hml, hown, hT⟩ (c_X11_within l p4 0 360) (va_cwS 3 hT (gS t_1 t_3 t_4 t_2) rfl rfl rfl (by decide +kernel) ⟨Nat.le_of_ble_eq_true rfl, Nat.le_of_ble_eq_true rfl⟩) preT rfl rfl hl.1 rfl (lv_room (Nat.le_of_ble_eq_true rfl)) dX11_first_28 ⟨Nat.le_of_ble_eq_true rfl, Nat.le_of_ble_eq_true rfl⟩) (fun r_5 hr_5 => ?_)
    have hr_5 : BR r_5 (0 ≤ p4.toInt ∧ p4.toInt ≤ 360) 1 0 := hr_5
    rcases hr_5 with ⟨rfl, h_6⟩ | ⟨rfl, h_6⟩
    · skip
      refine lv_if_ne (tgt := 36) hx hb dX11_first_31 (by decide) (fun c_7 => ?_) (fun c_7 => absurd c_7 (by decide))
      refine lv_aload_n hx hb dX11_first_36 rfl (lv_at hl 1 rfl) ?_
      refine lv_aload hx hb dX11_first_37 (lv_at hl 0 rfl) ?_
      refine lv_aload hx hb dX11_first_39 (lv_at hl 0 rfl) ?_
      refine va_get (D := D) (ci := 3) (v := .ref (a 65)) (C := RX3) (T := TX3) (N := 12) hx hb hT iX3 hown hK hP 61 rfl rfl 9 (by decide) (hT _ t_453) (fun _ h9 => h9) rfl dX11_first_41 ?_
      refine lv_iload_n hx hb dX11_first_44 rfl (lv_at hl 3 rfl) ?_
      refine lv_iload_n hx hb dX11_first_45 rfl (lv_at hl 4 rfl) ?_
      refine lv_iload hx hb dX11_first_46 (lv_at hl 5 rfl) ?_
      refine lv_iload hx hb dX11_first_48 (lv_at hl 6 rfl) ?_
      have hF_8 := rF hD hS hA
      refine va_calli (va_runV (As := [.int p1, .int p2, .int p3, .int p4]) (rest := [.ref (a 61), .ref (a 0)]) ⟨hx, hb, hml, hown, hT⟩ (c_X10_add_r659 l D cy a i r q tl p1 p2 p3 p4 _ hRi hRr (by first | omega | decide) (by first | omega | decide) (by first | omega | decide) (by first | omega | decide)) (cwV 4 hT (gV t_454 t_455 t_456 t_457 t_413) rfl rfl rfl (by decide +kernel) ⟨Nat.le_of_ble_eq_true rfl, Nat.le_of_ble_eq_true rfl⟩) (rQ_v hP hK hD (va_recv hK hP (ci := 10) (q0 := 65) rfl rfl)) rfl rfl hl.1 rfl (lv_room (Nat.le_of_ble_eq_true rfl)) dX11_first_50 ⟨Nat.le_of_ble_eq_true rfl, Nat.le_of_ble_eq_true rfl⟩) hS (fun q _ h => hF_8 q h) hF_8 (fun r_9 u_10 t H1 locs ht hvm hr_9 hB hz1 hk1 hS => ?_)
      obtain ⟨i10, r10⟩ := u_10
      obtain ⟨hP, hK1, hD1⟩ := hB
      rw [ht] at hP
      have hD := hD1.weaken (fun k q _ h => hF_8 q.1 h)
      obtain ⟨hRi, hRr, hE1, hE2, hr_9⟩ := hr_9
      have hRi : yRi i10 := hRi
      have hE1 : mEi [23] i i10 := hE1
      have hRr : yRr r10 := hRr
      have hE2 : mEr [66, 67, 68, 69] r r10 := hE2
      have hP : va_P D vwCl (xW cy a i10 r10 q (a 20) (a 12) ++ (hW cy a i10 r10 ++ tl)) H1 := hP
      have hD : va_D A (xW cy a i10 r10 q (a 20) (a 12) ++ (hW cy a i10 r10 ++ tl)) := hD
      have hEi : mEi [23] _ i10 := Ei_tr hEi hE1 (by decide)
      have hEr : mEr [6, 7, 66, 67, 68, 69, 75] _ r10 := Er_tr hEr hE2 (by decide)
      have hr_9 : (((i 23).toInt ≤ 19) → r_9.toInt = (i 23).toInt ∧ (i10 23).toInt = (i 23).toInt + 1 ∧ r10 66 = upd (r 66) (i 23).toNatClampNeg p1 ∧ r10 67 = upd (r 67) (i 23).toNatClampNeg p2 ∧ r10 68 = upd (r 68) (i 23).toNatClampNeg p3 ∧ r10 69 = upd (r 69) (i 23).toNatClampNeg p4) ∧ (¬ ((i 23).toInt ≤ 19) → r_9 = -1 ∧ i10 23 = i 23 ∧ mEr [] r r10) := hr_9
      refine lv_iload_n hx hb dX11_first_53 rfl (lv_at hl 3 rfl) ?_
      refine lv_iload_n hx hb dX11_first_54 rfl (lv_at hl 4 rfl) ?_
      have hF_11 := rF hD hS hA
      refine va_calli (va_runV (As := [.ref (a 61), .int r_9, .int p1, .int p2]) (rest := []) ⟨hx, hb, hml, hown, hT⟩ (c_X11_listed9 l D cy a i10 r10 q tl r_9 p1 p2 _ hRi hRr) (cwV 4 hT (gV t_458 t_459 t_460 t_461 t_2) rfl rfl rfl (by decide +kernel) ⟨Nat.le_of_ble_eq_true rfl, Nat.le_of_ble_eq_true rfl⟩) (rQ_v hP hK hD (va_recv hK hP (ci := 11) (q0 := 0) rfl rfl)) rfl rfl hl.1 rfl (lv_room (Nat.le_of_ble_eq_true rfl)) dX11_first_55 ⟨Nat.le_of_ble_eq_true rfl, Nat.le_of_ble_eq_true rfl⟩) hS (fun q _ h => hF_11 q h) hF_11 (fun r_12 u_13 t H1 locs ht hvm hr_12 hB hz1 hk1 hS => ?_)
      obtain ⟨r13, rfl⟩ : ∃ z, z = u_13 := ⟨_, rfl⟩
      obtain ⟨hP, hK1, hD1⟩ := hB
      rw [ht] at hP
      have hD := hD1.weaken (fun k q _ h => hF_11 q.1 h)
      obtain ⟨hRr, hE2, hr_12⟩ := hr_12
      have hRr : yRr r13 := hRr
      have hE2 : mEr [6, 7, 75] r10 r13 := hE2
      have hP : va_P D vwCl (xW cy a i10 r13 q (a 20) (a 12) ++ (hW cy a i10 r13 ++ tl)) H1 := hP
      have hD : va_D A (xW cy a i10 r13 q (a 20) (a 12) ++ (hW cy a i10 r13 ++ tl)) := hD
      have hEr : mEr [6, 7, 66, 67, 68, 69, 75] _ r13 := Er_tr hEr hE2 (by decide)
      subst hQ
      have hz9 : r_12 = r_9 := hr_12
      have hl0 : r13 66 = r10 66 := hE2 66 (by decide)
      have hl1 : r13 67 = r10 67 := hE2 67 (by decide)
      have hl2 : r13 68 = r10 68 := hE2 68 (by decide)
      have hl3 : r13 69 = r10 69 := hE2 69 (by decide)
      exact W.iret (v := r_12) hx hb hr (fun t ht hW => ⟨⟨_, (i10, r13), rfl, ⟨hRi, hRr, hEi, hEr, ⟨fun h9 => by obtain ⟨k1, k2, k3, k4, k5, k6⟩ := hr_9.1 (by omega); exact ⟨by rw [hz9]; exact k1, k2, hl0.trans k3, hl1.trans k4, hl2.trans k5, hl3.trans k6⟩, fun h9 => by obtain ⟨k1, k2, k3⟩ := hr_9.2 (by omega); exact ⟨by rw [hz9]; exact k1, k2, hl0.trans (k3 66 (by decide)), hl1.trans (k3 67 (by decide)), hl2.trans (k3 68 (by decide)), hl3.trans (k3 69 (by decide))⟩⟩⟩, by rw [ht]; exact hP, va_K.moved hW.alike hK, hD⟩, hS.F ht⟩) hS.2.2 dX11_first_58
    · skip
      refine lv_if_ne (tgt := 36) hx hb dX11_first_31 (by decide) (fun c_14 => absurd (by decide) c_14) (fun c_14 => ?_)
      refine lv_iconst (v := (-1)) hx hb dX11_first_34 (by decide) ?_
      subst hQ
      exact W.iret (v := (-1)) hx hb hr (fun t ht hW => ⟨⟨_, (i, r), rfl, ⟨hRi, hRr, hEi, hEr, ⟨fun h9 => absurd h9 (by omega), fun _ => ⟨rfl, rfl, rfl, rfl, rfl, rfl⟩⟩⟩, by rw [ht]; exact hP, va_K.moved hW.alike hK, hD⟩, hS.F ht⟩) hS.2.2 dX11_first_35
  · skip
    refine lv_if_eq (tgt := 34) hx hb dX11_first_19 (by decide) (fun c_15 => ?_) (fun c_15 => absurd (by decide) c_15)
    refine lv_iconst (v := (-1)) hx hb dX11_first_34 (by decide) ?_
    subst hQ
    exact W.iret (v := (-1)) hx hb hr (fun t ht hW => ⟨⟨_, (i, r), rfl, ⟨hRi, hRr, hEi, hEr, ⟨fun h9 => absurd h9 (by omega), fun _ => ⟨rfl, rfl, rfl, rfl, rfl, rfl⟩⟩⟩, by rw [ht]; exact hP, va_K.moved hW.alike hK, hD⟩, hS.F ht⟩) hS.2.2 dX11_first_35
def ABS (x : Int32) : Int32 := if 0 ≤ x then x else 0 - x
